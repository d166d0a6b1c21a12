/-! ===== methods of the landed text (by program) ===== -/
set_option maxRecDepth 20000 in
set_option maxHeartbeats 4000000 in
theorem cl_DctFilter_colourW (d : Nat) {ty : Nat → Nat} {h : gH} (hJ : gJ rT 1027 ty h) (bd : Int) (rbd : (-2147483648) ≤ bd ∧ bd ≤ 2147483647) (a : Int) (ra : (-2147483648) ≤ a ∧ a ≤ 2147483647) (b : Int) (rb : (-2147483648) ≤ b ∧ b ≤ 2147483647) (c : Int) (rc : (-2147483648) ≤ c ∧ c ≤ 2147483647) : gz gPP gGG gcn (d + 2) gt77 0 (gent [.int (zi bd), .int (zi a), .int (zi b), .int (zi c)] 4) [] h (fun q _ => gSs rT 1027 ty [] h q.2.2 ∧ ∃ z : Int, gfin gt77 q.1 q.2.1 = some (some (.int (zi z))) ∧ 0 ≤ z ∧ z ≤ 255) := by
  have hS : gSs rT 1027 ty [] h h := gSs.rf hJ
  refine gz_s 2 (pc' := 2) (L' := [some (.int (zi bd)), some (.int (zi a)), some (.int (zi b)), some (.int (zi c))]) (S' := [.int (zi 3), .int (zi bd)]) rfl ?_
  by_cases hc1 : ¬ (bd : Int) = 3
  · refine gy_icT (pc' := 21) rfl (by decide) (by decide) (by omega) (by omega) hc1 ?_
    refine gz_s 2 (pc' := 23) (L' := [some (.int (zi bd)), some (.int (zi a)), some (.int (zi b)), some (.int (zi c))]) (S' := [.int (zi 4), .int (zi bd)]) rfl ?_
    by_cases hc2 : ¬ (bd : Int) = 4
    · refine gy_icT (pc' := 48) rfl (by decide) (by decide) (by omega) (by omega) hc2 ?_
      refine gz_s 1 (pc' := 49) (L' := [some (.int (zi bd)), some (.int (zi a)), some (.int (zi b)), some (.int (zi c))]) (S' := [.int (zi a)]) rfl ?_
      refine gz_1 rfl (by decide) rfl rfl (pc' := 51) (S' := [.int (zi 116130), .int (zi a)]) (h' := h) rfl ?_
      refine gy_s 2 (pc' := 53) (L' := [some (.int (zi bd)), some (.int (zi a)), some (.int (zi b)), some (.int (zi c))]) (S' := [.int ((zi 116130) * (zi b)), .int (zi a)]) (L2 := [some (.int (zi bd)), some (.int (zi a)), some (.int (zi b)), some (.int (zi c))]) (S2 := [.int (zi (116130 * b)), .int (zi a)]) rfl (by simp only [zi_add, zi_sub, zi_mul, zi_neg, zi_and1, zi_and7, zi_and15, zi_and31, zi_and255]) (by simp only [zi_add, zi_sub, zi_mul, zi_neg, zi_and1, zi_and7, zi_and15, zi_and31, zi_and255]) ?_
      refine gy_any (fun z3 ez3 az3 bz3 => ?_)
      refine gz_1 rfl (by decide) rfl rfl (pc' := 55) (S' := [.int (zi 32768), .int (zi z3), .int (zi a)]) (h' := h) rfl ?_
      refine gy_s 1 (pc' := 56) (L' := [some (.int (zi bd)), some (.int (zi a)), some (.int (zi b)), some (.int (zi c))]) (S' := [.int ((zi z3) + (zi 32768)), .int (zi a)]) (L2 := [some (.int (zi bd)), some (.int (zi a)), some (.int (zi b)), some (.int (zi c))]) (S2 := [.int (zi (z3 + 32768)), .int (zi a)]) rfl (by simp only [zi_add, zi_sub, zi_mul, zi_neg, zi_and1, zi_and7, zi_and15, zi_and31, zi_and255]) (by simp only [zi_add, zi_sub, zi_mul, zi_neg, zi_and1, zi_and7, zi_and15, zi_and31, zi_and255]) ?_
      refine gy_any (fun z4 ez4 az4 bz4 => ?_)
      refine gz_s 1 (pc' := 58) (L' := [some (.int (zi bd)), some (.int (zi a)), some (.int (zi b)), some (.int (zi c))]) (S' := [.int (zi 16), .int (zi z4), .int (zi a)]) rfl ?_
      refine gy_shc (n := 16) (v := 65536) rfl (by decide) (by omega) (by decide) (by decide) rfl ?_
      refine gy_s 1 (pc' := 60) (L' := [some (.int (zi bd)), some (.int (zi a)), some (.int (zi b)), some (.int (zi c))]) (S' := [.int ((zi a) + (zi (z4 / 65536)))]) (L2 := [some (.int (zi bd)), some (.int (zi a)), some (.int (zi b)), some (.int (zi c))]) (S2 := [.int (zi (a + (z4 / 65536)))]) rfl (by simp only [zi_add, zi_sub, zi_mul, zi_neg, zi_and1, zi_and7, zi_and15, zi_and31, zi_and255]) (by simp only [zi_add, zi_sub, zi_mul, zi_neg, zi_and1, zi_and7, zi_and15, zi_and31, zi_and255]) ?_
      refine gy_any (fun z5 ez5 az5 bz5 => ?_)
      refine gz_call rfl (by decide) rfl (by decide) (by decide) (gcal_of rfl rfl rfl (Nat.le_of_ble_eq_true rfl) rfl) (cl_DctFilter_asByte _ hS.1 z5 (by omega) ) (fun q6 _ wq6 => ?_)
      obtain ⟨pq6, oq6, hq6⟩ := q6
      obtain ⟨xq6, zq6, gq6, aq6, bq6⟩ := wq6
      refine ⟨_, gq6, ?_⟩
      show gz gPP gGG gcn _ _ 63 [some (.int (zi bd)), some (.int (zi a)), some (.int (zi b)), some (.int (zi c))] [.int (zi zq6)] hq6 _
      have sq6 : gSs rT 1027 ty [] h hq6 := gSs.tr hS xq6 (by decide)
      exact gz_end (I := .ireturn) (len := 1) rfl (Or.inl rfl) ⟨sq6, zq6, rfl, (by omega), (by omega)⟩
    · refine gy_icF rfl (by decide) (by decide) (by omega) (by omega) hc2 ?_
      refine gy_s 4 (pc' := 32) (L' := [some (.int (zi bd)), some (.int (zi a)), some (.int (zi b)), some (.int (zi c))]) (S' := [.int ((zi 22554) * (zi b)), .int (zi a)]) (L2 := [some (.int (zi bd)), some (.int (zi a)), some (.int (zi b)), some (.int (zi c))]) (S2 := [.int (zi (22554 * b)), .int (zi a)]) rfl (by simp only [zi_add, zi_sub, zi_mul, zi_neg, zi_and1, zi_and7, zi_and15, zi_and31, zi_and255]) (by simp only [zi_add, zi_sub, zi_mul, zi_neg, zi_and1, zi_and7, zi_and15, zi_and31, zi_and255]) ?_
      refine gy_any (fun z7 ez7 az7 bz7 => ?_)
      refine gz_1 rfl (by decide) rfl rfl (pc' := 34) (S' := [.int (zi 46802), .int (zi z7), .int (zi a)]) (h' := h) rfl ?_
      refine gy_s 2 (pc' := 36) (L' := [some (.int (zi bd)), some (.int (zi a)), some (.int (zi b)), some (.int (zi c))]) (S' := [.int ((zi 46802) * (zi c)), .int (zi z7), .int (zi a)]) (L2 := [some (.int (zi bd)), some (.int (zi a)), some (.int (zi b)), some (.int (zi c))]) (S2 := [.int (zi (46802 * c)), .int (zi z7), .int (zi a)]) rfl (by simp only [zi_add, zi_sub, zi_mul, zi_neg, zi_and1, zi_and7, zi_and15, zi_and31, zi_and255]) (by simp only [zi_add, zi_sub, zi_mul, zi_neg, zi_and1, zi_and7, zi_and15, zi_and31, zi_and255]) ?_
      refine gy_any (fun z8 ez8 az8 bz8 => ?_)
      refine gy_s 1 (pc' := 37) (L' := [some (.int (zi bd)), some (.int (zi a)), some (.int (zi b)), some (.int (zi c))]) (S' := [.int ((zi z7) + (zi z8)), .int (zi a)]) (L2 := [some (.int (zi bd)), some (.int (zi a)), some (.int (zi b)), some (.int (zi c))]) (S2 := [.int (zi (z7 + z8)), .int (zi a)]) rfl (by simp only [zi_add, zi_sub, zi_mul, zi_neg, zi_and1, zi_and7, zi_and15, zi_and31, zi_and255]) (by simp only [zi_add, zi_sub, zi_mul, zi_neg, zi_and1, zi_and7, zi_and15, zi_and31, zi_and255]) ?_
      refine gy_any (fun z9 ez9 az9 bz9 => ?_)
      refine gz_1 rfl (by decide) rfl rfl (pc' := 39) (S' := [.int (zi 32768), .int (zi z9), .int (zi a)]) (h' := h) rfl ?_
      refine gy_s 1 (pc' := 40) (L' := [some (.int (zi bd)), some (.int (zi a)), some (.int (zi b)), some (.int (zi c))]) (S' := [.int ((zi z9) + (zi 32768)), .int (zi a)]) (L2 := [some (.int (zi bd)), some (.int (zi a)), some (.int (zi b)), some (.int (zi c))]) (S2 := [.int (zi (z9 + 32768)), .int (zi a)]) rfl (by simp only [zi_add, zi_sub, zi_mul, zi_neg, zi_and1, zi_and7, zi_and15, zi_and31, zi_and255]) (by simp only [zi_add, zi_sub, zi_mul, zi_neg, zi_and1, zi_and7, zi_and15, zi_and31, zi_and255]) ?_
      refine gy_any (fun z10 ez10 az10 bz10 => ?_)
      refine gz_s 1 (pc' := 42) (L' := [some (.int (zi bd)), some (.int (zi a)), some (.int (zi b)), some (.int (zi c))]) (S' := [.int (zi 16), .int (zi z10), .int (zi a)]) rfl ?_
      refine gy_shc (n := 16) (v := 65536) rfl (by decide) (by omega) (by decide) (by decide) rfl ?_
      refine gy_s 1 (pc' := 44) (L' := [some (.int (zi bd)), some (.int (zi a)), some (.int (zi b)), some (.int (zi c))]) (S' := [.int ((zi a) - (zi (z10 / 65536)))]) (L2 := [some (.int (zi bd)), some (.int (zi a)), some (.int (zi b)), some (.int (zi c))]) (S2 := [.int (zi (a - (z10 / 65536)))]) rfl (by simp only [zi_add, zi_sub, zi_mul, zi_neg, zi_and1, zi_and7, zi_and15, zi_and31, zi_and255]) (by simp only [zi_add, zi_sub, zi_mul, zi_neg, zi_and1, zi_and7, zi_and15, zi_and31, zi_and255]) ?_
      refine gy_any (fun z11 ez11 az11 bz11 => ?_)
      refine gz_call rfl (by decide) rfl (by decide) (by decide) (gcal_of rfl rfl rfl (Nat.le_of_ble_eq_true rfl) rfl) (cl_DctFilter_asByte _ hS.1 z11 (by omega) ) (fun q12 _ wq12 => ?_)
      obtain ⟨pq12, oq12, hq12⟩ := q12
      obtain ⟨xq12, zq12, gq12, aq12, bq12⟩ := wq12
      refine ⟨_, gq12, ?_⟩
      show gz gPP gGG gcn _ _ 47 [some (.int (zi bd)), some (.int (zi a)), some (.int (zi b)), some (.int (zi c))] [.int (zi zq12)] hq12 _
      have sq12 : gSs rT 1027 ty [] h hq12 := gSs.tr hS xq12 (by decide)
      exact gz_end (I := .ireturn) (len := 1) rfl (Or.inl rfl) ⟨sq12, zq12, rfl, (by omega), (by omega)⟩
  · refine gy_icF rfl (by decide) (by decide) (by omega) (by omega) hc1 ?_
    refine gz_s 1 (pc' := 6) (L' := [some (.int (zi bd)), some (.int (zi a)), some (.int (zi b)), some (.int (zi c))]) (S' := [.int (zi a)]) rfl ?_
    refine gz_1 rfl (by decide) rfl rfl (pc' := 8) (S' := [.int (zi 91881), .int (zi a)]) (h' := h) rfl ?_
    refine gy_s 2 (pc' := 10) (L' := [some (.int (zi bd)), some (.int (zi a)), some (.int (zi b)), some (.int (zi c))]) (S' := [.int ((zi 91881) * (zi c)), .int (zi a)]) (L2 := [some (.int (zi bd)), some (.int (zi a)), some (.int (zi b)), some (.int (zi c))]) (S2 := [.int (zi (91881 * c)), .int (zi a)]) rfl (by simp only [zi_add, zi_sub, zi_mul, zi_neg, zi_and1, zi_and7, zi_and15, zi_and31, zi_and255]) (by simp only [zi_add, zi_sub, zi_mul, zi_neg, zi_and1, zi_and7, zi_and15, zi_and31, zi_and255]) ?_
    refine gy_any (fun z13 ez13 az13 bz13 => ?_)
    refine gz_1 rfl (by decide) rfl rfl (pc' := 12) (S' := [.int (zi 32768), .int (zi z13), .int (zi a)]) (h' := h) rfl ?_
    refine gy_s 1 (pc' := 13) (L' := [some (.int (zi bd)), some (.int (zi a)), some (.int (zi b)), some (.int (zi c))]) (S' := [.int ((zi z13) + (zi 32768)), .int (zi a)]) (L2 := [some (.int (zi bd)), some (.int (zi a)), some (.int (zi b)), some (.int (zi c))]) (S2 := [.int (zi (z13 + 32768)), .int (zi a)]) rfl (by simp only [zi_add, zi_sub, zi_mul, zi_neg, zi_and1, zi_and7, zi_and15, zi_and31, zi_and255]) (by simp only [zi_add, zi_sub, zi_mul, zi_neg, zi_and1, zi_and7, zi_and15, zi_and31, zi_and255]) ?_
    refine gy_any (fun z14 ez14 az14 bz14 => ?_)
    refine gz_s 1 (pc' := 15) (L' := [some (.int (zi bd)), some (.int (zi a)), some (.int (zi b)), some (.int (zi c))]) (S' := [.int (zi 16), .int (zi z14), .int (zi a)]) rfl ?_
    refine gy_shc (n := 16) (v := 65536) rfl (by decide) (by omega) (by decide) (by decide) rfl ?_
    refine gy_s 1 (pc' := 17) (L' := [some (.int (zi bd)), some (.int (zi a)), some (.int (zi b)), some (.int (zi c))]) (S' := [.int ((zi a) + (zi (z14 / 65536)))]) (L2 := [some (.int (zi bd)), some (.int (zi a)), some (.int (zi b)), some (.int (zi c))]) (S2 := [.int (zi (a + (z14 / 65536)))]) rfl (by simp only [zi_add, zi_sub, zi_mul, zi_neg, zi_and1, zi_and7, zi_and15, zi_and31, zi_and255]) (by simp only [zi_add, zi_sub, zi_mul, zi_neg, zi_and1, zi_and7, zi_and15, zi_and31, zi_and255]) ?_
    refine gy_any (fun z15 ez15 az15 bz15 => ?_)
    refine gz_call rfl (by decide) rfl (by decide) (by decide) (gcal_of rfl rfl rfl (Nat.le_of_ble_eq_true rfl) rfl) (cl_DctFilter_asByte _ hS.1 z15 (by omega) ) (fun q16 _ wq16 => ?_)
    obtain ⟨pq16, oq16, hq16⟩ := q16
    obtain ⟨xq16, zq16, gq16, aq16, bq16⟩ := wq16
    refine ⟨_, gq16, ?_⟩
    show gz gPP gGG gcn _ _ 20 [some (.int (zi bd)), some (.int (zi a)), some (.int (zi b)), some (.int (zi c))] [.int (zi zq16)] hq16 _
    have sq16 : gSs rT 1027 ty [] h hq16 := gSs.tr hS xq16 (by decide)
    exact gz_end (I := .ireturn) (len := 1) rfl (Or.inl rfl) ⟨sq16, zq16, rfl, (by omega), (by omega)⟩
set_option maxRecDepth 20000 in
set_option maxHeartbeats 4000000 in
theorem cl_DctFilter_add (d : Nat) {ty : Nat → Nat} {h : gH} (hJ : gJ rT 1027 ty h) (x : Nat) (tx : ty x = 50) (b : Int) (rb : (-128) ≤ b ∧ b ≤ 127) (ld : Int) (rld : 0 ≤ ld ∧ ld ≤ 192) (lb : Int) (rlb : 1024 ≤ lb ∧ lb ≤ 1000000) (iv : Int) (riv : 0 ≤ iv ∧ iv ≤ 100) (uq : gUq ty) (hyix : gIx ty x ld lb iv h) : gz gPP gGG gcn (d + 1) gt68 0 (gent [.ref x, .int (zi b)] 2) [] h (fun q _ => ∃ ty9 : Nat → Nat, gSg [] [] [51001, 52999] ty h ty9 q.2.2 ∧ ∃ ld1 lb1 iv1 : Int, 0 ≤ ld1 ∧ ld1 ≤ 192 ∧ 1024 ≤ lb1 ∧ lb1 ≤ 1000000 ∧ 0 ≤ iv1 ∧ iv1 ≤ 100 ∧ (gIx ty9 x ld1 lb1 iv1 q.2.2) ∧ ((gfin gt68 q.1 q.2.1 = some none ∧ (iv1 = iv) ∧ (1024 * (((q.2.2.1 : Int) - h.1) - 31 - 2 * (ld1 - ld)) ≤ lb1 - lb) ∧ (((q.2.2.2.1 : Int) - h.2.1) ≤ 4303 + 12480 * (ld1 - ld) + 2 * (lb1 - lb)) ∧ (ld ≤ ld1) ∧ (lb ≤ lb1)) ∨ (q.2.1 = [] ∧ ((q.1 = 13)) ∧ (iv1 = iv) ∧ (1024 * (((q.2.2.1 : Int) - h.1) - 31 - 2 * (ld1 - ld)) ≤ lb1 - lb) ∧ (((q.2.2.2.1 : Int) - h.2.1) ≤ 4303 + 12480 * (ld1 - ld) + 2 * (lb1 - lb)) ∧ (ld ≤ ld1) ∧ (lb ≤ lb1)))) := by
  have hS : gSs rT 1027 ty [51001, 52999] h h := gSs.rf hJ
  have G0 : gSg [] [] [51001, 52999] ty h ty h := gSg.rf hJ (fun x hx => by cases hx)
  obtain ⟨pic, b0, b1, b2, dr, sk, bt, n0, c0, ⟨_, tdr, tsk, tbt⟩, ⟨ex2, ex3, ex4, ex0⟩, hpc, htc, ⟨en0, rn0⟩, ⟨eiv, riv⟩, ⟨ec0, rc0⟩, ⟨lc0, llb⟩, hrr, hrw⟩ := hyix
  have tpic := hpc.1.1
  have tb0 := hpc.1.2.1
  have tb1 := hpc.1.2.2.1
  have tb2 := hpc.1.2.2.2
  refine gz_s 1 (pc' := 1) (L' := [some (.ref x), some (.int (zi b))]) (S' := [.ref x]) rfl ?_
  refine gs_gtr rfl (by decide) rfl hS.1 tx rfl rfl rfl (fun c1 ec1 tc1 => ?_)
  refine gs_get rfl (by decide) rfl hS.1 tc1 rfl rfl rfl (fun z2 ez2 az2 bz2 => ?_)
  refine gz_s 1 (pc' := 10) (L' := [some (.ref x), some (.int (zi b))]) (S' := [.int (zi 2000), .int (zi z2)]) rfl ?_
  by_cases hc3 : (z2 : Int) < 2000
  · refine gy_icT (pc' := 23) rfl (by decide) (by decide) (by omega) (by omega) hc3 ?_
    refine gz_s 1 (pc' := 24) (L' := [some (.ref x), some (.int (zi b))]) (S' := [.ref x]) rfl ?_
    refine gs_gtk rfl (by decide) rfl hS.1 tx rfl rfl ec1 ?_
    refine gz_s 1 (pc' := 28) (L' := [some (.ref x), some (.int (zi b))]) (S' := [.int (zi b), .ref c1]) rfl ?_
    refine gz_call rfl (by decide) rfl (by decide) (by decide) (gcal_of rfl rfl rfl (Nat.le_of_ble_eq_true rfl) (gJ.recv (G := gGG) hS.1 tc1 rfl rfl)) (cl_Collected_append _ hS.1 c1 tc1 b (by omega) z2 ez2 (by omega) uq) (fun q4 _ wq4 => ?_)
    obtain ⟨pq4, oq4, hq4⟩ := q4
    obtain ⟨xq4, gq4⟩ := wq4
    refine ⟨_, gq4, ?_⟩
    show gz gPP gGG gcn _ _ 31 [some (.ref x), some (.int (zi b))] [] hq4 _
    have sq4 : gSs rT 1027 ty [51001, 52999] h hq4 := gSs.tr hS xq4 (by decide)
    have s5 := (xq4.2.2.2.2.2 x 2 (by rw [tx]; decide)).trans ex2
    have s6 := (xq4.2.2.2.2.2 x 3 (by rw [tx]; decide)).trans ex3
    have s7 := (xq4.2.2.2.2.2 x 4 (by rw [tx]; decide)).trans ex4
    have s8 := (xq4.2.2.2.2.2 sk 0 (by rw [tsk]; decide)).trans ex0
    have s9 := (xq4.2.2.2.2.2 dr 8 (by rw [tdr]; decide)).trans en0
    have s10 := (xq4.2.2.2.2.2 dr 3 (by rw [tdr]; decide)).trans eiv
    have s11 := (xq4.2.2.2.2.2 sk 1 (by rw [tsk]; decide)).trans ec0
    have s12 := (xq4.2.2.2.2.2 x 0 (by rw [tx]; decide)).trans ec1
    have pr13 := gPC.fr xq4.2 (by decide) hpc
    have pr14 := gTc.fr xq4.2 (by decide) htc
    have pr15 := gRr.fr xq4.2 (by decide) hrr
    have pr16 := gRw.fr xq4.2 (by decide) hrw
    have k17 := sq4.2.1
    have k17b := sq4.2.2.1
    have hl18 : hq4.2.2.2.1 bt = h.2.2.2.1 bt := congrFun sq4.2.2.2.2.1 bt
    have k19 := sq4.2.1
    have k19b := sq4.2.2.1
    have hl20 : hq4.2.2.2.1 bt = h.2.2.2.1 bt := congrFun sq4.2.2.2.2.1 bt
    have hix21 : gIx ty x ld (hq4.2.2.2.1 bt : Int) iv hq4 := ⟨pic, b0, b1, b2, dr, sk, bt, n0, c0, ⟨tx, tdr, tsk, tbt⟩, ⟨s5, s6, s7, s8⟩, pr13, pr14, ⟨s9, by omega, by omega⟩, ⟨s10, by omega, by omega⟩, ⟨s11, by omega, by omega⟩, ⟨by omega, by omega⟩, pr15, pr16⟩
    have G22 : gSg [] [] [51001, 52999] ty h ty hq4 := gSg.ss G0 sq4 (by decide)
    exact gz_end (I := .return_) (len := 1) rfl (Or.inl rfl) ⟨ty, G22, ld, (hq4.2.2.2.1 bt : Int), iv, (by omega), (by omega), (by omega), (by omega), (by omega), (by omega), hix21, Or.inl ⟨rfl, (by omega), (by dsimp only; omega), (by dsimp only; omega), (by omega), (by omega)⟩⟩
  · refine gy_icF rfl (by decide) (by decide) (by omega) (by omega) hc3 ?_
    have hix23 : gIx ty x ld (h.2.2.2.1 bt : Int) iv h := ⟨pic, b0, b1, b2, dr, sk, bt, n0, c0, ⟨tx, tdr, tsk, tbt⟩, ⟨ex2, ex3, ex4, ex0⟩, hpc, htc, ⟨en0, by omega, by omega⟩, ⟨eiv, by omega, by omega⟩, ⟨ec0, by omega, by omega⟩, ⟨by omega, by omega⟩, hrr, hrw⟩
    have G24 : gSg [] [] [51001, 52999] ty h ty h := gSg.ss G0 hS (by decide)
    exact gz_end (I := .new 51) (len := 3) rfl (Or.inr (by decide)) ⟨ty, G24, ld, (h.2.2.2.1 bt : Int), iv, (by omega), (by omega), (by omega), (by omega), (by omega), (by omega), hix23, Or.inr ⟨rfl, rfl, (by omega), (by dsimp only; omega), (by dsimp only; omega), (by omega), (by omega)⟩⟩
set_option maxRecDepth 20000 in
set_option maxHeartbeats 4000000 in
theorem cl_DctFilter_sample (d : Nat) {ty : Nat → Nat} {h : gH} (hJ : gJ rT 1027 ty h) (x : Nat) (tx : ty x = 50) (a : Int) (ra : (-2147483648) ≤ a ∧ a ≤ 2147483647) (b : Int) (rb : (-2147483648) ≤ b ∧ b ≤ 2147483647) (c : Int) (rc : (-2147483648) ≤ c ∧ c ≤ 2147483647) (hyst : gSta ty h) (ld : Int) (rld : 0 ≤ ld ∧ ld ≤ 192) (lb : Int) (rlb : 1024 ≤ lb ∧ lb ≤ 1000000) (iv : Int) (riv : 0 ≤ iv ∧ iv ≤ 100) (uq : gUq ty) (hyix : gIx ty x ld lb iv h) : gz gPP gGG gcn (d + 3) gt70 0 (gent [.ref x, .int (zi a), .int (zi b), .int (zi c)] 8) [] h (fun q _ => ∃ ty9 : Nat → Nat, gSg [] [] [] ty h ty9 q.2.2 ∧ ∃ ld1 lb1 iv1 : Int, 0 ≤ ld1 ∧ ld1 ≤ 192 ∧ 1024 ≤ lb1 ∧ lb1 ≤ 1000000 ∧ 0 ≤ iv1 ∧ iv1 ≤ 100 ∧ (gIx ty9 x ld1 lb1 iv1 q.2.2) ∧ ((∃ z : Int, gfin gt70 q.1 q.2.1 = some (some (.int (zi z))) ∧ (-2147483648) ≤ z ∧ z ≤ 2147483647 ∧ (iv1 = iv) ∧ (1024 * (((q.2.2.1 : Int) - h.1) - 31 - 2 * (ld1 - ld)) ≤ lb1 - lb) ∧ (((q.2.2.2.1 : Int) - h.2.1) ≤ 4303 + 12480 * (ld1 - ld) + 2 * (lb1 - lb)) ∧ (ld ≤ ld1) ∧ (lb ≤ lb1)) ∨ (q.2.1 = [] ∧ ((q.1 = 67)) ∧ (iv1 = iv) ∧ (1024 * (((q.2.2.1 : Int) - h.1) - 31 - 2 * (ld1 - ld)) ≤ lb1 - lb) ∧ (((q.2.2.2.1 : Int) - h.2.1) ≤ 4303 + 12480 * (ld1 - ld) + 2 * (lb1 - lb)) ∧ (ld ≤ ld1) ∧ (lb ≤ lb1)))) := by
  have hS : gSs rT 1027 ty [] h h := gSs.rf hJ
  have G0 : gSg [] [] [] ty h ty h := gSg.rf hJ (fun x hx => by cases hx)
  obtain ⟨pic, b0, b1, b2, dr, sk, bt, n0, c0, ⟨_, tdr, tsk, tbt⟩, ⟨ex2, ex3, ex4, ex0⟩, hpc, htc, ⟨en0, rn0⟩, ⟨eiv, riv⟩, ⟨ec0, rc0⟩, ⟨lc0, llb⟩, hrr, hrw⟩ := hyix
  have tpic := hpc.1.1
  have tb0 := hpc.1.2.1
  have tb1 := hpc.1.2.2.1
  have tb2 := hpc.1.2.2.2
  have hpq1 := hpc
  obtain ⟨_, bno, coo, dmo, vvo, ⟨tbno, tcoo, tdmo⟩, ⟨er0o, er1o, er2o, er3o, er4o, er5o⟩, hvvo, hrro, ⟨yy0o, yy1o, yy2o, yy3o, yy4o, yy5o, yy6o, yy7o⟩, ll0o, ll1o, ll2o, ll3o⟩ := hpq1
  have excno : h.2.2.2.2 pic 7 = .int (zi (vvo 0)) := hvvo (0, 7, 0) (by decide)
  have rrcno : 0 ≤ vvo 0 ∧ vvo 0 ≤ 3 := hrro (0, 0, 3) (by decide)
  have exuco : h.2.2.2.2 pic 12 = .int (zi (vvo 1)) := hvvo (0, 12, 1) (by decide)
  have rruco : 0 ≤ vvo 1 ∧ vvo 1 ≤ 8 := hrro (1, 0, 8) (by decide)
  have exuro : h.2.2.2.2 pic 13 = .int (zi (vvo 2)) := hvvo (0, 13, 2) (by decide)
  have rruro : 0 ≤ vvo 2 ∧ vvo 2 ≤ 8 := hrro (2, 0, 8) (by decide)
  have exblo : h.2.2.2.2 pic 8 = .int (zi (vvo 3)) := hvvo (0, 8, 3) (by decide)
  have rrblo : 0 ≤ vvo 3 ∧ vvo 3 ≤ 192 := hrro (3, 0, 192) (by decide)
  have exwo : h.2.2.2.2 pic 5 = .int (zi (vvo 4)) := hvvo (0, 5, 4) (by decide)
  have rrwo : 0 ≤ vvo 4 ∧ vvo 4 ≤ 64 := hrro (4, 0, 64) (by decide)
  have exhho : h.2.2.2.2 pic 6 = .int (zi (vvo 5)) := hvvo (0, 6, 5) (by decide)
  have rrhho : 0 ≤ vvo 5 ∧ vvo 5 ≤ 64 := hrro (5, 0, 64) (by decide)
  have exgho : h.2.2.2.2 pic 10 = .int (zi (vvo 6)) := hvvo (0, 10, 6) (by decide)
  have rrgho : 1 ≤ vvo 6 ∧ vvo 6 ≤ 2 := hrro (6, 1, 2) (by decide)
  have exgvo : h.2.2.2.2 pic 11 = .int (zi (vvo 7)) := hvvo (0, 11, 7) (by decide)
  have rrgvo : 1 ≤ vvo 7 ∧ vvo 7 ≤ 2 := hrro (7, 1, 2) (by decide)
  have exhb0o : h.2.2.2.2 b0 1 = .int (zi (vvo 8)) := hvvo (1, 1, 8) (by decide)
  have rrhb0o : (-1) ≤ vvo 8 ∧ vvo 8 ≤ 15 := hrro (8, (-1), 15) (by decide)
  have exvb0o : h.2.2.2.2 b0 2 = .int (zi (vvo 9)) := hvvo (1, 2, 9) (by decide)
  have rrvb0o : 0 ≤ vvo 9 ∧ vvo 9 ≤ 15 := hrro (9, 0, 15) (by decide)
  have extq0o : h.2.2.2.2 b0 3 = .int (zi (vvo 10)) := hvvo (1, 3, 10) (by decide)
  have rrtq0o : (-1) ≤ vvo 10 ∧ vvo 10 ≤ 255 := hrro (10, (-1), 255) (by decide)
  have exC0o : h.2.2.2.2 b0 4 = .int (zi (vvo 11)) := hvvo (1, 4, 11) (by decide)
  have rrC0o : 0 ≤ vvo 11 ∧ vvo 11 ≤ 16 := hrro (11, 0, 16) (by decide)
  have exR0o : h.2.2.2.2 b0 5 = .int (zi (vvo 12)) := hvvo (1, 5, 12) (by decide)
  have rrR0o : 0 ≤ vvo 12 ∧ vvo 12 ≤ 16 := hrro (12, 0, 16) (by decide)
  have exoc0o : h.2.2.2.2 b0 6 = .int (zi (vvo 13)) := hvvo (1, 6, 13) (by decide)
  have rroc0o : 0 ≤ vvo 13 ∧ vvo 13 ≤ 16 := hrro (13, 0, 16) (by decide)
  have exor0o : h.2.2.2.2 b0 7 = .int (zi (vvo 14)) := hvvo (1, 7, 14) (by decide)
  have rror0o : 0 ≤ vvo 14 ∧ vvo 14 ≤ 16 := hrro (14, 0, 16) (by decide)
  have exf0o : h.2.2.2.2 b0 8 = .int (zi (vvo 15)) := hvvo (1, 8, 15) (by decide)
  have rrf0o : 0 ≤ vvo 15 ∧ vvo 15 ≤ 192 := hrro (15, 0, 192) (by decide)
  have exhb1o : h.2.2.2.2 b1 1 = .int (zi (vvo 16)) := hvvo (2, 1, 16) (by decide)
  have rrhb1o : (-1) ≤ vvo 16 ∧ vvo 16 ≤ 15 := hrro (16, (-1), 15) (by decide)
  have exvb1o : h.2.2.2.2 b1 2 = .int (zi (vvo 17)) := hvvo (2, 2, 17) (by decide)
  have rrvb1o : 0 ≤ vvo 17 ∧ vvo 17 ≤ 15 := hrro (17, 0, 15) (by decide)
  have extq1o : h.2.2.2.2 b1 3 = .int (zi (vvo 18)) := hvvo (2, 3, 18) (by decide)
  have rrtq1o : (-1) ≤ vvo 18 ∧ vvo 18 ≤ 255 := hrro (18, (-1), 255) (by decide)
  have exC1o : h.2.2.2.2 b1 4 = .int (zi (vvo 19)) := hvvo (2, 4, 19) (by decide)
  have rrC1o : 0 ≤ vvo 19 ∧ vvo 19 ≤ 16 := hrro (19, 0, 16) (by decide)
  have exR1o : h.2.2.2.2 b1 5 = .int (zi (vvo 20)) := hvvo (2, 5, 20) (by decide)
  have rrR1o : 0 ≤ vvo 20 ∧ vvo 20 ≤ 16 := hrro (20, 0, 16) (by decide)
  have exoc1o : h.2.2.2.2 b1 6 = .int (zi (vvo 21)) := hvvo (2, 6, 21) (by decide)
  have rroc1o : 0 ≤ vvo 21 ∧ vvo 21 ≤ 16 := hrro (21, 0, 16) (by decide)
  have exor1o : h.2.2.2.2 b1 7 = .int (zi (vvo 22)) := hvvo (2, 7, 22) (by decide)
  have rror1o : 0 ≤ vvo 22 ∧ vvo 22 ≤ 16 := hrro (22, 0, 16) (by decide)
  have exf1o : h.2.2.2.2 b1 8 = .int (zi (vvo 23)) := hvvo (2, 8, 23) (by decide)
  have rrf1o : 0 ≤ vvo 23 ∧ vvo 23 ≤ 192 := hrro (23, 0, 192) (by decide)
  have exhb2o : h.2.2.2.2 b2 1 = .int (zi (vvo 24)) := hvvo (3, 1, 24) (by decide)
  have rrhb2o : (-1) ≤ vvo 24 ∧ vvo 24 ≤ 15 := hrro (24, (-1), 15) (by decide)
  have exvb2o : h.2.2.2.2 b2 2 = .int (zi (vvo 25)) := hvvo (3, 2, 25) (by decide)
  have rrvb2o : 0 ≤ vvo 25 ∧ vvo 25 ≤ 15 := hrro (25, 0, 15) (by decide)
  have extq2o : h.2.2.2.2 b2 3 = .int (zi (vvo 26)) := hvvo (3, 3, 26) (by decide)
  have rrtq2o : (-1) ≤ vvo 26 ∧ vvo 26 ≤ 255 := hrro (26, (-1), 255) (by decide)
  have exC2o : h.2.2.2.2 b2 4 = .int (zi (vvo 27)) := hvvo (3, 4, 27) (by decide)
  have rrC2o : 0 ≤ vvo 27 ∧ vvo 27 ≤ 16 := hrro (27, 0, 16) (by decide)
  have exR2o : h.2.2.2.2 b2 5 = .int (zi (vvo 28)) := hvvo (3, 5, 28) (by decide)
  have rrR2o : 0 ≤ vvo 28 ∧ vvo 28 ≤ 16 := hrro (28, 0, 16) (by decide)
  have exoc2o : h.2.2.2.2 b2 6 = .int (zi (vvo 29)) := hvvo (3, 6, 29) (by decide)
  have rroc2o : 0 ≤ vvo 29 ∧ vvo 29 ≤ 16 := hrro (29, 0, 16) (by decide)
  have exor2o : h.2.2.2.2 b2 7 = .int (zi (vvo 30)) := hvvo (3, 7, 30) (by decide)
  have rror2o : 0 ≤ vvo 30 ∧ vvo 30 ≤ 16 := hrro (30, 0, 16) (by decide)
  have exf2o : h.2.2.2.2 b2 8 = .int (zi (vvo 31)) := hvvo (3, 8, 31) (by decide)
  have rrf2o : 0 ≤ vvo 31 ∧ vvo 31 ≤ 192 := hrro (31, 0, 192) (by decide)
  refine gz_s 1 (pc' := 1) (L' := [some (.ref x), some (.int (zi a)), some (.int (zi b)), some (.int (zi c)), none, none, none, none]) (S' := [.int (zi c)]) rfl ?_
  have jn2 : ∀ (jn2v0 : Int), ((0 ≤ jn2v0) ∧ (jn2v0 ≤ 1) ∧ (jn2v0 = 1 → (0 ≤ c ∧ (c < vvo 0 ∨ (3 ≤ c ∧ c ≤ 5))))) → gz gPP gGG gcn (d + 3) gt70 30 [some (.ref x), some (.int (zi a)), some (.int (zi b)), some (.int (zi c)), none, none, none, none] [.int (zi jn2v0)] h (fun q _ => ∃ ty9 : Nat → Nat, gSg [] [] [] ty h ty9 q.2.2 ∧ ∃ ld1 lb1 iv1 : Int, 0 ≤ ld1 ∧ ld1 ≤ 192 ∧ 1024 ≤ lb1 ∧ lb1 ≤ 1000000 ∧ 0 ≤ iv1 ∧ iv1 ≤ 100 ∧ (gIx ty9 x ld1 lb1 iv1 q.2.2) ∧ ((∃ z : Int, gfin gt70 q.1 q.2.1 = some (some (.int (zi z))) ∧ (-2147483648) ≤ z ∧ z ≤ 2147483647 ∧ (iv1 = iv) ∧ (1024 * (((q.2.2.1 : Int) - h.1) - 31 - 2 * (ld1 - ld)) ≤ lb1 - lb) ∧ (((q.2.2.2.1 : Int) - h.2.1) ≤ 4303 + 12480 * (ld1 - ld) + 2 * (lb1 - lb)) ∧ (ld ≤ ld1) ∧ (lb ≤ lb1)) ∨ (q.2.1 = [] ∧ ((q.1 = 67)) ∧ (iv1 = iv) ∧ (1024 * (((q.2.2.1 : Int) - h.1) - 31 - 2 * (ld1 - ld)) ≤ lb1 - lb) ∧ (((q.2.2.2.1 : Int) - h.2.1) ≤ 4303 + 12480 * (ld1 - ld) + 2 * (lb1 - lb)) ∧ (ld ≤ ld1) ∧ (lb ≤ lb1)))) := by
    intro jn2v0 jn2d
    refine gz_s 2 (pc' := 34) (L' := [some (.ref x), some (.int (zi a)), some (.int (zi b)), some (.int (zi c)), some (.int (zi jn2v0)), none, none, none]) (S' := [.int (zi jn2v0)]) rfl ?_
    by_cases hc3 : (jn2v0 : Int) = 0
    · refine gy_ifT (pc' := 67) rfl (by decide) (by decide) (by omega) hc3 ?_
      have hix4 : gIx ty x ld (h.2.2.2.1 bt : Int) iv h := ⟨pic, b0, b1, b2, dr, sk, bt, n0, c0, ⟨tx, tdr, tsk, tbt⟩, ⟨ex2, ex3, ex4, ex0⟩, hpc, htc, ⟨en0, by omega, by omega⟩, ⟨eiv, by omega, by omega⟩, ⟨ec0, by omega, by omega⟩, ⟨by omega, by omega⟩, hrr, hrw⟩
      have G5 : gSg [] [] [] ty h ty h := gSg.ss G0 hS (by decide)
      exact gz_end (I := .new 84) (len := 3) rfl (Or.inr (by decide)) ⟨ty, G5, ld, (h.2.2.2.1 bt : Int), iv, (by omega), (by omega), (by omega), (by omega), (by omega), (by omega), hix4, Or.inr ⟨rfl, rfl, (by omega), (by dsimp only; omega), (by dsimp only; omega), (by omega), (by omega)⟩⟩
    · refine gy_ifF rfl (by decide) (by decide) (by omega) hc3 ?_
      refine gz_s 1 (pc' := 38) (L' := [some (.ref x), some (.int (zi a)), some (.int (zi b)), some (.int (zi c)), some (.int (zi jn2v0)), none, none, none]) (S' := [.int (zi a)]) rfl ?_
      by_cases hc6 : (a : Int) < 0
      · refine gy_ifT (pc' := 67) rfl (by decide) (by decide) (by omega) hc6 ?_
        have hix7 : gIx ty x ld (h.2.2.2.1 bt : Int) iv h := ⟨pic, b0, b1, b2, dr, sk, bt, n0, c0, ⟨tx, tdr, tsk, tbt⟩, ⟨ex2, ex3, ex4, ex0⟩, hpc, htc, ⟨en0, by omega, by omega⟩, ⟨eiv, by omega, by omega⟩, ⟨ec0, by omega, by omega⟩, ⟨by omega, by omega⟩, hrr, hrw⟩
        have G8 : gSg [] [] [] ty h ty h := gSg.ss G0 hS (by decide)
        exact gz_end (I := .new 84) (len := 3) rfl (Or.inr (by decide)) ⟨ty, G8, ld, (h.2.2.2.1 bt : Int), iv, (by omega), (by omega), (by omega), (by omega), (by omega), (by omega), hix7, Or.inr ⟨rfl, rfl, (by omega), (by dsimp only; omega), (by dsimp only; omega), (by omega), (by omega)⟩⟩
      · refine gy_ifF rfl (by decide) (by decide) (by omega) hc6 ?_
        refine gz_s 2 (pc' := 43) (L' := [some (.ref x), some (.int (zi a)), some (.int (zi b)), some (.int (zi c)), some (.int (zi jn2v0)), none, none, none]) (S' := [.ref x, .int (zi a)]) rfl ?_
        refine gs_gtk rfl (by decide) rfl hS.1 tx rfl rfl ex2 ?_
        refine gs_gtk rfl (by decide) rfl hS.1 tpic rfl rfl exwo ?_
        by_cases hc9 : (vvo 4 : Int) ≤ a
        · refine gy_icT (pc' := 67) rfl (by decide) (by decide) (by omega) (by omega) hc9 ?_
          have hix10 : gIx ty x ld (h.2.2.2.1 bt : Int) iv h := ⟨pic, b0, b1, b2, dr, sk, bt, n0, c0, ⟨tx, tdr, tsk, tbt⟩, ⟨ex2, ex3, ex4, ex0⟩, hpc, htc, ⟨en0, by omega, by omega⟩, ⟨eiv, by omega, by omega⟩, ⟨ec0, by omega, by omega⟩, ⟨by omega, by omega⟩, hrr, hrw⟩
          have G11 : gSg [] [] [] ty h ty h := gSg.ss G0 hS (by decide)
          exact gz_end (I := .new 84) (len := 3) rfl (Or.inr (by decide)) ⟨ty, G11, ld, (h.2.2.2.1 bt : Int), iv, (by omega), (by omega), (by omega), (by omega), (by omega), (by omega), hix10, Or.inr ⟨rfl, rfl, (by omega), (by dsimp only; omega), (by dsimp only; omega), (by omega), (by omega)⟩⟩
        · refine gy_icF rfl (by decide) (by decide) (by omega) (by omega) hc9 ?_
          refine gz_s 1 (pc' := 53) (L' := [some (.ref x), some (.int (zi a)), some (.int (zi b)), some (.int (zi c)), some (.int (zi jn2v0)), none, none, none]) (S' := [.int (zi b)]) rfl ?_
          by_cases hc12 : (b : Int) < 0
          · refine gy_ifT (pc' := 67) rfl (by decide) (by decide) (by omega) hc12 ?_
            have hix13 : gIx ty x ld (h.2.2.2.1 bt : Int) iv h := ⟨pic, b0, b1, b2, dr, sk, bt, n0, c0, ⟨tx, tdr, tsk, tbt⟩, ⟨ex2, ex3, ex4, ex0⟩, hpc, htc, ⟨en0, by omega, by omega⟩, ⟨eiv, by omega, by omega⟩, ⟨ec0, by omega, by omega⟩, ⟨by omega, by omega⟩, hrr, hrw⟩
            have G14 : gSg [] [] [] ty h ty h := gSg.ss G0 hS (by decide)
            exact gz_end (I := .new 84) (len := 3) rfl (Or.inr (by decide)) ⟨ty, G14, ld, (h.2.2.2.1 bt : Int), iv, (by omega), (by omega), (by omega), (by omega), (by omega), (by omega), hix13, Or.inr ⟨rfl, rfl, (by omega), (by dsimp only; omega), (by dsimp only; omega), (by omega), (by omega)⟩⟩
          · refine gy_ifF rfl (by decide) (by decide) (by omega) hc12 ?_
            refine gz_s 2 (pc' := 58) (L' := [some (.ref x), some (.int (zi a)), some (.int (zi b)), some (.int (zi c)), some (.int (zi jn2v0)), none, none, none]) (S' := [.ref x, .int (zi b)]) rfl ?_
            refine gs_gtk rfl (by decide) rfl hS.1 tx rfl rfl ex2 ?_
            refine gs_gtk rfl (by decide) rfl hS.1 tpic rfl rfl exhho ?_
            by_cases hc15 : (b : Int) < vvo 5
            · refine gy_icT (pc' := 77) rfl (by decide) (by decide) (by omega) (by omega) hc15 ?_
              refine gz_s 2 (pc' := 79) (L' := [some (.ref x), some (.int (zi a)), some (.int (zi b)), some (.int (zi c)), some (.int (zi jn2v0)), none, none, none]) (S' := [.ref x, .int (zi c)]) rfl ?_
              refine gs_gtk rfl (by decide) rfl hS.1 tx rfl rfl ex2 ?_
              refine gs_gtk rfl (by decide) rfl hS.1 tpic rfl rfl excno ?_
              by_cases hc16 : (vvo 0 : Int) ≤ c
              · refine gy_icT (pc' := 99) rfl (by decide) (by decide) (by omega) (by omega) hc16 ?_
                refine gz_s 1 (pc' := 100) (L' := [some (.ref x), some (.int (zi a)), some (.int (zi b)), some (.int (zi c)), some (.int (zi jn2v0)), none, none, none]) (S' := [.ref x]) rfl ?_
                refine gs_gtk rfl (by decide) rfl hS.1 tx rfl rfl ex2 ?_
                refine gz_s 3 (pc' := 106) (L' := [some (.ref x), some (.int (zi a)), some (.int (zi b)), some (.int (zi c)), some (.int (zi jn2v0)), none, none, none]) (S' := [.int (zi b), .int (zi a), .int (zi 0), .ref pic]) rfl ?_
                have hl17 : h.2.2.2.1 coo = h.2.2.2.1 coo := congrFun hS.2.2.2.2.1 coo
                refine gz_call rfl (by decide) rfl (by decide) (by decide) (gcal_of rfl rfl rfl (Nat.le_of_ble_eq_true rfl) (gJ.recv (G := gGG) hS.1 tpic rfl rfl)) (cl_Picture_sampleAt _ hS.1 pic tpic 0 (by omega) a (by omega) b (by omega) bno er0o tbno b0 er1o tb0 b1 er2o tb1 b2 er3o tb2 coo er4o tcoo (gSta.fr hS.2 (by decide) hyst) (vvo 0) excno (by omega) (vvo 1) exuco (by omega) (vvo 2) exuro (by omega) (vvo 3) exblo (by omega) (vvo 4) exwo (by omega) (vvo 5) exhho (by omega) (vvo 6) exgho (by omega) (vvo 7) exgvo (by omega) (vvo 8) exhb0o (by omega) (vvo 9) exvb0o (by omega) (vvo 11) exC0o (by omega) (vvo 12) exR0o (by omega) (vvo 13) exoc0o (by omega) (vvo 14) exor0o (by omega) (vvo 15) exf0o (by omega) (vvo 16) exhb1o (by omega) (vvo 17) exvb1o (by omega) (vvo 19) exC1o (by omega) (vvo 20) exR1o (by omega) (vvo 21) exoc1o (by omega) (vvo 22) exor1o (by omega) (vvo 23) exf1o (by omega) (vvo 24) exhb2o (by omega) (vvo 25) exvb2o (by omega) (vvo 27) exC2o (by omega) (vvo 28) exR2o (by omega) (vvo 29) exoc2o (by omega) (vvo 30) exor2o (by omega) (vvo 31) exf2o (by omega) (vvo 10) extq0o (by omega) (vvo 18) extq1o (by omega) (vvo 26) extq2o (by omega) (by omega) (by omega) (by omega) (by omega) uq yy0o yy1o yy2o yy3o yy4o yy5o yy7o) (fun q18 _ wq18 => ?_)
                obtain ⟨pq18, oq18, hq18⟩ := q18
                obtain ⟨xq18, zq18, gq18, aq18, bq18⟩ := wq18
                refine ⟨_, gq18, ?_⟩
                show gz gPP gGG gcn _ _ 109 [some (.ref x), some (.int (zi a)), some (.int (zi b)), some (.int (zi c)), some (.int (zi jn2v0)), none, none, none] [.int (zi zq18)] hq18 _
                have sq18 : gSs rT 1027 ty [] h hq18 := gSs.tr hS xq18 (by decide)
                have s19 := (xq18.2.2.2.2.2 x 2 (by rw [tx]; decide)).trans ex2
                have s20 := (xq18.2.2.2.2.2 x 3 (by rw [tx]; decide)).trans ex3
                have s21 := (xq18.2.2.2.2.2 x 4 (by rw [tx]; decide)).trans ex4
                have s22 := (xq18.2.2.2.2.2 sk 0 (by rw [tsk]; decide)).trans ex0
                have s23 := (xq18.2.2.2.2.2 dr 8 (by rw [tdr]; decide)).trans en0
                have s24 := (xq18.2.2.2.2.2 dr 3 (by rw [tdr]; decide)).trans eiv
                have s25 := (xq18.2.2.2.2.2 sk 1 (by rw [tsk]; decide)).trans ec0
                have s26 := (xq18.2.2.2.2.2 pic 0 (by rw [tpic]; decide)).trans er0o
                have s27 := (xq18.2.2.2.2.2 bno 0 (by rw [tbno]; decide)).trans er1o
                have s28 := (xq18.2.2.2.2.2 bno 1 (by rw [tbno]; decide)).trans er2o
                have s29 := (xq18.2.2.2.2.2 bno 2 (by rw [tbno]; decide)).trans er3o
                have s30 := (xq18.2.2.2.2.2 pic 2 (by rw [tpic]; decide)).trans er4o
                have s31 := (xq18.2.2.2.2.2 pic 3 (by rw [tpic]; decide)).trans er5o
                have s32 := (xq18.2.2.2.2.2 pic 7 (by rw [tpic]; decide)).trans excno
                have s33 := (xq18.2.2.2.2.2 pic 12 (by rw [tpic]; decide)).trans exuco
                have s34 := (xq18.2.2.2.2.2 pic 13 (by rw [tpic]; decide)).trans exuro
                have s35 := (xq18.2.2.2.2.2 pic 8 (by rw [tpic]; decide)).trans exblo
                have s36 := (xq18.2.2.2.2.2 pic 5 (by rw [tpic]; decide)).trans exwo
                have s37 := (xq18.2.2.2.2.2 pic 6 (by rw [tpic]; decide)).trans exhho
                have s38 := (xq18.2.2.2.2.2 pic 10 (by rw [tpic]; decide)).trans exgho
                have s39 := (xq18.2.2.2.2.2 pic 11 (by rw [tpic]; decide)).trans exgvo
                have s40 := (xq18.2.2.2.2.2 b0 1 (by rw [tb0]; decide)).trans exhb0o
                have s41 := (xq18.2.2.2.2.2 b0 2 (by rw [tb0]; decide)).trans exvb0o
                have s42 := (xq18.2.2.2.2.2 b0 3 (by rw [tb0]; decide)).trans extq0o
                have s43 := (xq18.2.2.2.2.2 b0 4 (by rw [tb0]; decide)).trans exC0o
                have s44 := (xq18.2.2.2.2.2 b0 5 (by rw [tb0]; decide)).trans exR0o
                have s45 := (xq18.2.2.2.2.2 b0 6 (by rw [tb0]; decide)).trans exoc0o
                have s46 := (xq18.2.2.2.2.2 b0 7 (by rw [tb0]; decide)).trans exor0o
                have s47 := (xq18.2.2.2.2.2 b0 8 (by rw [tb0]; decide)).trans exf0o
                have s48 := (xq18.2.2.2.2.2 b1 1 (by rw [tb1]; decide)).trans exhb1o
                have s49 := (xq18.2.2.2.2.2 b1 2 (by rw [tb1]; decide)).trans exvb1o
                have s50 := (xq18.2.2.2.2.2 b1 3 (by rw [tb1]; decide)).trans extq1o
                have s51 := (xq18.2.2.2.2.2 b1 4 (by rw [tb1]; decide)).trans exC1o
                have s52 := (xq18.2.2.2.2.2 b1 5 (by rw [tb1]; decide)).trans exR1o
                have s53 := (xq18.2.2.2.2.2 b1 6 (by rw [tb1]; decide)).trans exoc1o
                have s54 := (xq18.2.2.2.2.2 b1 7 (by rw [tb1]; decide)).trans exor1o
                have s55 := (xq18.2.2.2.2.2 b1 8 (by rw [tb1]; decide)).trans exf1o
                have s56 := (xq18.2.2.2.2.2 b2 1 (by rw [tb2]; decide)).trans exhb2o
                have s57 := (xq18.2.2.2.2.2 b2 2 (by rw [tb2]; decide)).trans exvb2o
                have s58 := (xq18.2.2.2.2.2 b2 3 (by rw [tb2]; decide)).trans extq2o
                have s59 := (xq18.2.2.2.2.2 b2 4 (by rw [tb2]; decide)).trans exC2o
                have s60 := (xq18.2.2.2.2.2 b2 5 (by rw [tb2]; decide)).trans exR2o
                have s61 := (xq18.2.2.2.2.2 b2 6 (by rw [tb2]; decide)).trans exoc2o
                have s62 := (xq18.2.2.2.2.2 b2 7 (by rw [tb2]; decide)).trans exor2o
                have s63 := (xq18.2.2.2.2.2 b2 8 (by rw [tb2]; decide)).trans exf2o
                have pr64 := gPC.fr xq18.2 (by decide) hpc
                have pr65 := gTc.fr xq18.2 (by decide) htc
                have pr66 := gRr.fr xq18.2 (by decide) hrr
                have pr67 := gRw.fr xq18.2 (by decide) hrw
                refine gz_s 2 (pc' := 112) (L' := [some (.ref x), some (.int (zi a)), some (.int (zi b)), some (.int (zi c)), some (.int (zi jn2v0)), some (.int (zi zq18)), none, none]) (S' := [.ref x]) rfl ?_
                refine gs_gtk rfl (by decide) rfl sq18.1 tx rfl rfl s19 ?_
                refine gs_gtk rfl (by decide) rfl sq18.1 tpic rfl rfl s32 ?_
                refine gz_s 1 (pc' := 119) (L' := [some (.ref x), some (.int (zi a)), some (.int (zi b)), some (.int (zi c)), some (.int (zi jn2v0)), some (.int (zi zq18)), none, none]) (S' := [.int (zi 3), .int (zi (vvo 0))]) rfl ?_
                by_cases hc68 : (3 : Int) ≤ vvo 0
                · refine gy_icT (pc' := 125) rfl (by decide) (by decide) (by omega) (by omega) hc68 ?_
                  refine gz_s 1 (pc' := 126) (L' := [some (.ref x), some (.int (zi a)), some (.int (zi b)), some (.int (zi c)), some (.int (zi jn2v0)), some (.int (zi zq18)), none, none]) (S' := [.ref x]) rfl ?_
                  refine gs_gtk rfl (by decide) rfl sq18.1 tx rfl rfl s19 ?_
                  refine gz_s 3 (pc' := 132) (L' := [some (.ref x), some (.int (zi a)), some (.int (zi b)), some (.int (zi c)), some (.int (zi jn2v0)), some (.int (zi zq18)), none, none]) (S' := [.int (zi b), .int (zi a), .int (zi 1), .ref pic]) rfl ?_
                  have k69 := sq18.2.1
                  have k69b := sq18.2.2.1
                  have hl70 : hq18.2.2.2.1 bt = h.2.2.2.1 bt := congrFun sq18.2.2.2.2.1 bt
                  have hl71 : hq18.2.2.2.1 coo = h.2.2.2.1 coo := congrFun sq18.2.2.2.2.1 coo
                  have hl72 : hq18.2.2.2.1 dmo = h.2.2.2.1 dmo := congrFun sq18.2.2.2.2.1 dmo
                  have hl73 : hq18.2.2.2.1 coo = h.2.2.2.1 coo := congrFun sq18.2.2.2.2.1 coo
                  refine gz_call rfl (by decide) rfl (by decide) (by decide) (gcal_of rfl rfl rfl (Nat.le_of_ble_eq_true rfl) (gJ.recv (G := gGG) sq18.1 tpic rfl rfl)) (cl_Picture_sampleAt _ sq18.1 pic tpic 1 (by omega) a (by omega) b (by omega) bno s26 tbno b0 s27 tb0 b1 s28 tb1 b2 s29 tb2 coo s30 tcoo (gSta.fr sq18.2 (by decide) hyst) (vvo 0) s32 (by omega) (vvo 1) s33 (by omega) (vvo 2) s34 (by omega) (vvo 3) s35 (by omega) (vvo 4) s36 (by omega) (vvo 5) s37 (by omega) (vvo 6) s38 (by omega) (vvo 7) s39 (by omega) (vvo 8) s40 (by omega) (vvo 9) s41 (by omega) (vvo 11) s43 (by omega) (vvo 12) s44 (by omega) (vvo 13) s45 (by omega) (vvo 14) s46 (by omega) (vvo 15) s47 (by omega) (vvo 16) s48 (by omega) (vvo 17) s49 (by omega) (vvo 19) s51 (by omega) (vvo 20) s52 (by omega) (vvo 21) s53 (by omega) (vvo 22) s54 (by omega) (vvo 23) s55 (by omega) (vvo 24) s56 (by omega) (vvo 25) s57 (by omega) (vvo 27) s59 (by omega) (vvo 28) s60 (by omega) (vvo 29) s61 (by omega) (vvo 30) s62 (by omega) (vvo 31) s63 (by omega) (vvo 10) s42 (by omega) (vvo 18) s50 (by omega) (vvo 26) s58 (by omega) (by omega) (by omega) (by omega) (by omega) uq yy0o yy1o yy2o yy3o yy4o yy5o yy7o) (fun q74 _ wq74 => ?_)
                  obtain ⟨pq74, oq74, hq74⟩ := q74
                  obtain ⟨xq74, zq74, gq74, aq74, bq74⟩ := wq74
                  refine ⟨_, gq74, ?_⟩
                  show gz gPP gGG gcn _ _ 135 [some (.ref x), some (.int (zi a)), some (.int (zi b)), some (.int (zi c)), some (.int (zi jn2v0)), some (.int (zi zq18)), none, none] [.int (zi zq74)] hq74 _
                  have sq74 : gSs rT 1027 ty [] h hq74 := gSs.tr sq18 xq74 (by decide)
                  have s75 := (xq74.2.2.2.2.2 x 2 (by rw [tx]; decide)).trans s19
                  have s76 := (xq74.2.2.2.2.2 x 3 (by rw [tx]; decide)).trans s20
                  have s77 := (xq74.2.2.2.2.2 x 4 (by rw [tx]; decide)).trans s21
                  have s78 := (xq74.2.2.2.2.2 sk 0 (by rw [tsk]; decide)).trans s22
                  have s79 := (xq74.2.2.2.2.2 dr 8 (by rw [tdr]; decide)).trans s23
                  have s80 := (xq74.2.2.2.2.2 dr 3 (by rw [tdr]; decide)).trans s24
                  have s81 := (xq74.2.2.2.2.2 sk 1 (by rw [tsk]; decide)).trans s25
                  have s82 := (xq74.2.2.2.2.2 pic 0 (by rw [tpic]; decide)).trans s26
                  have s83 := (xq74.2.2.2.2.2 bno 0 (by rw [tbno]; decide)).trans s27
                  have s84 := (xq74.2.2.2.2.2 bno 1 (by rw [tbno]; decide)).trans s28
                  have s85 := (xq74.2.2.2.2.2 bno 2 (by rw [tbno]; decide)).trans s29
                  have s86 := (xq74.2.2.2.2.2 pic 2 (by rw [tpic]; decide)).trans s30
                  have s87 := (xq74.2.2.2.2.2 pic 3 (by rw [tpic]; decide)).trans s31
                  have s88 := (xq74.2.2.2.2.2 pic 7 (by rw [tpic]; decide)).trans s32
                  have s89 := (xq74.2.2.2.2.2 pic 12 (by rw [tpic]; decide)).trans s33
                  have s90 := (xq74.2.2.2.2.2 pic 13 (by rw [tpic]; decide)).trans s34
                  have s91 := (xq74.2.2.2.2.2 pic 8 (by rw [tpic]; decide)).trans s35
                  have s92 := (xq74.2.2.2.2.2 pic 5 (by rw [tpic]; decide)).trans s36
                  have s93 := (xq74.2.2.2.2.2 pic 6 (by rw [tpic]; decide)).trans s37
                  have s94 := (xq74.2.2.2.2.2 pic 10 (by rw [tpic]; decide)).trans s38
                  have s95 := (xq74.2.2.2.2.2 pic 11 (by rw [tpic]; decide)).trans s39
                  have s96 := (xq74.2.2.2.2.2 b0 1 (by rw [tb0]; decide)).trans s40
                  have s97 := (xq74.2.2.2.2.2 b0 2 (by rw [tb0]; decide)).trans s41
                  have s98 := (xq74.2.2.2.2.2 b0 3 (by rw [tb0]; decide)).trans s42
                  have s99 := (xq74.2.2.2.2.2 b0 4 (by rw [tb0]; decide)).trans s43
                  have s100 := (xq74.2.2.2.2.2 b0 5 (by rw [tb0]; decide)).trans s44
                  have s101 := (xq74.2.2.2.2.2 b0 6 (by rw [tb0]; decide)).trans s45
                  have s102 := (xq74.2.2.2.2.2 b0 7 (by rw [tb0]; decide)).trans s46
                  have s103 := (xq74.2.2.2.2.2 b0 8 (by rw [tb0]; decide)).trans s47
                  have s104 := (xq74.2.2.2.2.2 b1 1 (by rw [tb1]; decide)).trans s48
                  have s105 := (xq74.2.2.2.2.2 b1 2 (by rw [tb1]; decide)).trans s49
                  have s106 := (xq74.2.2.2.2.2 b1 3 (by rw [tb1]; decide)).trans s50
                  have s107 := (xq74.2.2.2.2.2 b1 4 (by rw [tb1]; decide)).trans s51
                  have s108 := (xq74.2.2.2.2.2 b1 5 (by rw [tb1]; decide)).trans s52
                  have s109 := (xq74.2.2.2.2.2 b1 6 (by rw [tb1]; decide)).trans s53
                  have s110 := (xq74.2.2.2.2.2 b1 7 (by rw [tb1]; decide)).trans s54
                  have s111 := (xq74.2.2.2.2.2 b1 8 (by rw [tb1]; decide)).trans s55
                  have s112 := (xq74.2.2.2.2.2 b2 1 (by rw [tb2]; decide)).trans s56
                  have s113 := (xq74.2.2.2.2.2 b2 2 (by rw [tb2]; decide)).trans s57
                  have s114 := (xq74.2.2.2.2.2 b2 3 (by rw [tb2]; decide)).trans s58
                  have s115 := (xq74.2.2.2.2.2 b2 4 (by rw [tb2]; decide)).trans s59
                  have s116 := (xq74.2.2.2.2.2 b2 5 (by rw [tb2]; decide)).trans s60
                  have s117 := (xq74.2.2.2.2.2 b2 6 (by rw [tb2]; decide)).trans s61
                  have s118 := (xq74.2.2.2.2.2 b2 7 (by rw [tb2]; decide)).trans s62
                  have s119 := (xq74.2.2.2.2.2 b2 8 (by rw [tb2]; decide)).trans s63
                  have pr120 := gPC.fr xq74.2 (by decide) pr64
                  have pr121 := gTc.fr xq74.2 (by decide) pr65
                  have pr122 := gRr.fr xq74.2 (by decide) pr66
                  have pr123 := gRw.fr xq74.2 (by decide) pr67
                  refine gy_s 2 (pc' := 139) (L' := [some (.ref x), some (.int (zi a)), some (.int (zi b)), some (.int (zi c)), some (.int (zi jn2v0)), some (.int (zi zq18)), none, none]) (S' := [.int ((zi zq74) - (zi 128))]) (L2 := [some (.ref x), some (.int (zi a)), some (.int (zi b)), some (.int (zi c)), some (.int (zi jn2v0)), some (.int (zi zq18)), none, none]) (S2 := [.int (zi (zq74 - 128))]) rfl (by simp only [zi_add, zi_sub, zi_mul, zi_neg, zi_and1, zi_and7, zi_and15, zi_and31, zi_and255]) (by simp only [zi_add, zi_sub, zi_mul, zi_neg, zi_and1, zi_and7, zi_and15, zi_and31, zi_and255]) ?_
                  refine gy_any (fun z124 ez124 az124 bz124 => ?_)
                  refine gz_s 2 (pc' := 142) (L' := [some (.ref x), some (.int (zi a)), some (.int (zi b)), some (.int (zi c)), some (.int (zi jn2v0)), some (.int (zi zq18)), some (.int (zi z124)), none]) (S' := [.ref x]) rfl ?_
                  refine gs_gtk rfl (by decide) rfl sq74.1 tx rfl rfl s75 ?_
                  refine gz_s 3 (pc' := 148) (L' := [some (.ref x), some (.int (zi a)), some (.int (zi b)), some (.int (zi c)), some (.int (zi jn2v0)), some (.int (zi zq18)), some (.int (zi z124)), none]) (S' := [.int (zi b), .int (zi a), .int (zi 2), .ref pic]) rfl ?_
                  have k125 := sq74.2.1
                  have k125b := sq74.2.2.1
                  have hl126 : hq74.2.2.2.1 bt = h.2.2.2.1 bt := congrFun sq74.2.2.2.2.1 bt
                  have hl127 : hq74.2.2.2.1 coo = h.2.2.2.1 coo := congrFun sq74.2.2.2.2.1 coo
                  have hl128 : hq74.2.2.2.1 dmo = h.2.2.2.1 dmo := congrFun sq74.2.2.2.2.1 dmo
                  have hl129 : hq74.2.2.2.1 coo = h.2.2.2.1 coo := congrFun sq74.2.2.2.2.1 coo
                  refine gz_call rfl (by decide) rfl (by decide) (by decide) (gcal_of rfl rfl rfl (Nat.le_of_ble_eq_true rfl) (gJ.recv (G := gGG) sq74.1 tpic rfl rfl)) (cl_Picture_sampleAt _ sq74.1 pic tpic 2 (by omega) a (by omega) b (by omega) bno s82 tbno b0 s83 tb0 b1 s84 tb1 b2 s85 tb2 coo s86 tcoo (gSta.fr sq74.2 (by decide) hyst) (vvo 0) s88 (by omega) (vvo 1) s89 (by omega) (vvo 2) s90 (by omega) (vvo 3) s91 (by omega) (vvo 4) s92 (by omega) (vvo 5) s93 (by omega) (vvo 6) s94 (by omega) (vvo 7) s95 (by omega) (vvo 8) s96 (by omega) (vvo 9) s97 (by omega) (vvo 11) s99 (by omega) (vvo 12) s100 (by omega) (vvo 13) s101 (by omega) (vvo 14) s102 (by omega) (vvo 15) s103 (by omega) (vvo 16) s104 (by omega) (vvo 17) s105 (by omega) (vvo 19) s107 (by omega) (vvo 20) s108 (by omega) (vvo 21) s109 (by omega) (vvo 22) s110 (by omega) (vvo 23) s111 (by omega) (vvo 24) s112 (by omega) (vvo 25) s113 (by omega) (vvo 27) s115 (by omega) (vvo 28) s116 (by omega) (vvo 29) s117 (by omega) (vvo 30) s118 (by omega) (vvo 31) s119 (by omega) (vvo 10) s98 (by omega) (vvo 18) s106 (by omega) (vvo 26) s114 (by omega) (by omega) (by omega) (by omega) (by omega) uq yy0o yy1o yy2o yy3o yy4o yy5o yy7o) (fun q130 _ wq130 => ?_)
                  obtain ⟨pq130, oq130, hq130⟩ := q130
                  obtain ⟨xq130, zq130, gq130, aq130, bq130⟩ := wq130
                  refine ⟨_, gq130, ?_⟩
                  show gz gPP gGG gcn _ _ 151 [some (.ref x), some (.int (zi a)), some (.int (zi b)), some (.int (zi c)), some (.int (zi jn2v0)), some (.int (zi zq18)), some (.int (zi z124)), none] [.int (zi zq130)] hq130 _
                  have sq130 : gSs rT 1027 ty [] h hq130 := gSs.tr sq74 xq130 (by decide)
                  have s131 := (xq130.2.2.2.2.2 x 2 (by rw [tx]; decide)).trans s75
                  have s132 := (xq130.2.2.2.2.2 x 3 (by rw [tx]; decide)).trans s76
                  have s133 := (xq130.2.2.2.2.2 x 4 (by rw [tx]; decide)).trans s77
                  have s134 := (xq130.2.2.2.2.2 sk 0 (by rw [tsk]; decide)).trans s78
                  have s135 := (xq130.2.2.2.2.2 dr 8 (by rw [tdr]; decide)).trans s79
                  have s136 := (xq130.2.2.2.2.2 dr 3 (by rw [tdr]; decide)).trans s80
                  have s137 := (xq130.2.2.2.2.2 sk 1 (by rw [tsk]; decide)).trans s81
                  have s138 := (xq130.2.2.2.2.2 pic 0 (by rw [tpic]; decide)).trans s82
                  have s139 := (xq130.2.2.2.2.2 bno 0 (by rw [tbno]; decide)).trans s83
                  have s140 := (xq130.2.2.2.2.2 bno 1 (by rw [tbno]; decide)).trans s84
                  have s141 := (xq130.2.2.2.2.2 bno 2 (by rw [tbno]; decide)).trans s85
                  have s142 := (xq130.2.2.2.2.2 pic 2 (by rw [tpic]; decide)).trans s86
                  have s143 := (xq130.2.2.2.2.2 pic 3 (by rw [tpic]; decide)).trans s87
                  have s144 := (xq130.2.2.2.2.2 pic 7 (by rw [tpic]; decide)).trans s88
                  have s145 := (xq130.2.2.2.2.2 pic 12 (by rw [tpic]; decide)).trans s89
                  have s146 := (xq130.2.2.2.2.2 pic 13 (by rw [tpic]; decide)).trans s90
                  have s147 := (xq130.2.2.2.2.2 pic 8 (by rw [tpic]; decide)).trans s91
                  have s148 := (xq130.2.2.2.2.2 pic 5 (by rw [tpic]; decide)).trans s92
                  have s149 := (xq130.2.2.2.2.2 pic 6 (by rw [tpic]; decide)).trans s93
                  have s150 := (xq130.2.2.2.2.2 pic 10 (by rw [tpic]; decide)).trans s94
                  have s151 := (xq130.2.2.2.2.2 pic 11 (by rw [tpic]; decide)).trans s95
                  have s152 := (xq130.2.2.2.2.2 b0 1 (by rw [tb0]; decide)).trans s96
                  have s153 := (xq130.2.2.2.2.2 b0 2 (by rw [tb0]; decide)).trans s97
                  have s154 := (xq130.2.2.2.2.2 b0 3 (by rw [tb0]; decide)).trans s98
                  have s155 := (xq130.2.2.2.2.2 b0 4 (by rw [tb0]; decide)).trans s99
                  have s156 := (xq130.2.2.2.2.2 b0 5 (by rw [tb0]; decide)).trans s100
                  have s157 := (xq130.2.2.2.2.2 b0 6 (by rw [tb0]; decide)).trans s101
                  have s158 := (xq130.2.2.2.2.2 b0 7 (by rw [tb0]; decide)).trans s102
                  have s159 := (xq130.2.2.2.2.2 b0 8 (by rw [tb0]; decide)).trans s103
                  have s160 := (xq130.2.2.2.2.2 b1 1 (by rw [tb1]; decide)).trans s104
                  have s161 := (xq130.2.2.2.2.2 b1 2 (by rw [tb1]; decide)).trans s105
                  have s162 := (xq130.2.2.2.2.2 b1 3 (by rw [tb1]; decide)).trans s106
                  have s163 := (xq130.2.2.2.2.2 b1 4 (by rw [tb1]; decide)).trans s107
                  have s164 := (xq130.2.2.2.2.2 b1 5 (by rw [tb1]; decide)).trans s108
                  have s165 := (xq130.2.2.2.2.2 b1 6 (by rw [tb1]; decide)).trans s109
                  have s166 := (xq130.2.2.2.2.2 b1 7 (by rw [tb1]; decide)).trans s110
                  have s167 := (xq130.2.2.2.2.2 b1 8 (by rw [tb1]; decide)).trans s111
                  have s168 := (xq130.2.2.2.2.2 b2 1 (by rw [tb2]; decide)).trans s112
                  have s169 := (xq130.2.2.2.2.2 b2 2 (by rw [tb2]; decide)).trans s113
                  have s170 := (xq130.2.2.2.2.2 b2 3 (by rw [tb2]; decide)).trans s114
                  have s171 := (xq130.2.2.2.2.2 b2 4 (by rw [tb2]; decide)).trans s115
                  have s172 := (xq130.2.2.2.2.2 b2 5 (by rw [tb2]; decide)).trans s116
                  have s173 := (xq130.2.2.2.2.2 b2 6 (by rw [tb2]; decide)).trans s117
                  have s174 := (xq130.2.2.2.2.2 b2 7 (by rw [tb2]; decide)).trans s118
                  have s175 := (xq130.2.2.2.2.2 b2 8 (by rw [tb2]; decide)).trans s119
                  have pr176 := gPC.fr xq130.2 (by decide) pr120
                  have pr177 := gTc.fr xq130.2 (by decide) pr121
                  have pr178 := gRr.fr xq130.2 (by decide) pr122
                  have pr179 := gRw.fr xq130.2 (by decide) pr123
                  refine gy_s 2 (pc' := 155) (L' := [some (.ref x), some (.int (zi a)), some (.int (zi b)), some (.int (zi c)), some (.int (zi jn2v0)), some (.int (zi zq18)), some (.int (zi z124)), none]) (S' := [.int ((zi zq130) - (zi 128))]) (L2 := [some (.ref x), some (.int (zi a)), some (.int (zi b)), some (.int (zi c)), some (.int (zi jn2v0)), some (.int (zi zq18)), some (.int (zi z124)), none]) (S2 := [.int (zi (zq130 - 128))]) rfl (by simp only [zi_add, zi_sub, zi_mul, zi_neg, zi_and1, zi_and7, zi_and15, zi_and31, zi_and255]) (by simp only [zi_add, zi_sub, zi_mul, zi_neg, zi_and1, zi_and7, zi_and15, zi_and31, zi_and255]) ?_
                  refine gy_any (fun z180 ez180 az180 bz180 => ?_)
                  refine gz_s 5 (pc' := 164) (L' := [some (.ref x), some (.int (zi a)), some (.int (zi b)), some (.int (zi c)), some (.int (zi jn2v0)), some (.int (zi zq18)), some (.int (zi z124)), some (.int (zi z180))]) (S' := [.int (zi z180), .int (zi z124), .int (zi zq18), .int (zi c)]) rfl ?_
                  refine gz_call rfl (by decide) rfl (by decide) (by decide) (gcal_of rfl rfl rfl (Nat.le_of_ble_eq_true rfl) rfl) (cl_DctFilter_colourW _ sq130.1 c (by omega) zq18 (by omega) z124 (by omega) z180 (by omega) ) (fun q181 _ wq181 => ?_)
                  obtain ⟨pq181, oq181, hq181⟩ := q181
                  obtain ⟨xq181, zq181, gq181, aq181, bq181⟩ := wq181
                  refine ⟨_, gq181, ?_⟩
                  show gz gPP gGG gcn _ _ 167 [some (.ref x), some (.int (zi a)), some (.int (zi b)), some (.int (zi c)), some (.int (zi jn2v0)), some (.int (zi zq18)), some (.int (zi z124)), some (.int (zi z180))] [.int (zi zq181)] hq181 _
                  have sq181 : gSs rT 1027 ty [] h hq181 := gSs.tr sq130 xq181 (by decide)
                  have s182 := (xq181.2.2.2.2.2 x 2 (by rw [tx]; decide)).trans s131
                  have s183 := (xq181.2.2.2.2.2 x 3 (by rw [tx]; decide)).trans s132
                  have s184 := (xq181.2.2.2.2.2 x 4 (by rw [tx]; decide)).trans s133
                  have s185 := (xq181.2.2.2.2.2 sk 0 (by rw [tsk]; decide)).trans s134
                  have s186 := (xq181.2.2.2.2.2 dr 8 (by rw [tdr]; decide)).trans s135
                  have s187 := (xq181.2.2.2.2.2 dr 3 (by rw [tdr]; decide)).trans s136
                  have s188 := (xq181.2.2.2.2.2 sk 1 (by rw [tsk]; decide)).trans s137
                  have s189 := (xq181.2.2.2.2.2 pic 0 (by rw [tpic]; decide)).trans s138
                  have s190 := (xq181.2.2.2.2.2 bno 0 (by rw [tbno]; decide)).trans s139
                  have s191 := (xq181.2.2.2.2.2 bno 1 (by rw [tbno]; decide)).trans s140
                  have s192 := (xq181.2.2.2.2.2 bno 2 (by rw [tbno]; decide)).trans s141
                  have s193 := (xq181.2.2.2.2.2 pic 2 (by rw [tpic]; decide)).trans s142
                  have s194 := (xq181.2.2.2.2.2 pic 3 (by rw [tpic]; decide)).trans s143
                  have s195 := (xq181.2.2.2.2.2 pic 7 (by rw [tpic]; decide)).trans s144
                  have s196 := (xq181.2.2.2.2.2 pic 12 (by rw [tpic]; decide)).trans s145
                  have s197 := (xq181.2.2.2.2.2 pic 13 (by rw [tpic]; decide)).trans s146
                  have s198 := (xq181.2.2.2.2.2 pic 8 (by rw [tpic]; decide)).trans s147
                  have s199 := (xq181.2.2.2.2.2 pic 5 (by rw [tpic]; decide)).trans s148
                  have s200 := (xq181.2.2.2.2.2 pic 6 (by rw [tpic]; decide)).trans s149
                  have s201 := (xq181.2.2.2.2.2 pic 10 (by rw [tpic]; decide)).trans s150
                  have s202 := (xq181.2.2.2.2.2 pic 11 (by rw [tpic]; decide)).trans s151
                  have s203 := (xq181.2.2.2.2.2 b0 1 (by rw [tb0]; decide)).trans s152
                  have s204 := (xq181.2.2.2.2.2 b0 2 (by rw [tb0]; decide)).trans s153
                  have s205 := (xq181.2.2.2.2.2 b0 3 (by rw [tb0]; decide)).trans s154
                  have s206 := (xq181.2.2.2.2.2 b0 4 (by rw [tb0]; decide)).trans s155
                  have s207 := (xq181.2.2.2.2.2 b0 5 (by rw [tb0]; decide)).trans s156
                  have s208 := (xq181.2.2.2.2.2 b0 6 (by rw [tb0]; decide)).trans s157
                  have s209 := (xq181.2.2.2.2.2 b0 7 (by rw [tb0]; decide)).trans s158
                  have s210 := (xq181.2.2.2.2.2 b0 8 (by rw [tb0]; decide)).trans s159
                  have s211 := (xq181.2.2.2.2.2 b1 1 (by rw [tb1]; decide)).trans s160
                  have s212 := (xq181.2.2.2.2.2 b1 2 (by rw [tb1]; decide)).trans s161
                  have s213 := (xq181.2.2.2.2.2 b1 3 (by rw [tb1]; decide)).trans s162
                  have s214 := (xq181.2.2.2.2.2 b1 4 (by rw [tb1]; decide)).trans s163
                  have s215 := (xq181.2.2.2.2.2 b1 5 (by rw [tb1]; decide)).trans s164
                  have s216 := (xq181.2.2.2.2.2 b1 6 (by rw [tb1]; decide)).trans s165
                  have s217 := (xq181.2.2.2.2.2 b1 7 (by rw [tb1]; decide)).trans s166
                  have s218 := (xq181.2.2.2.2.2 b1 8 (by rw [tb1]; decide)).trans s167
                  have s219 := (xq181.2.2.2.2.2 b2 1 (by rw [tb2]; decide)).trans s168
                  have s220 := (xq181.2.2.2.2.2 b2 2 (by rw [tb2]; decide)).trans s169
                  have s221 := (xq181.2.2.2.2.2 b2 3 (by rw [tb2]; decide)).trans s170
                  have s222 := (xq181.2.2.2.2.2 b2 4 (by rw [tb2]; decide)).trans s171
                  have s223 := (xq181.2.2.2.2.2 b2 5 (by rw [tb2]; decide)).trans s172
                  have s224 := (xq181.2.2.2.2.2 b2 6 (by rw [tb2]; decide)).trans s173
                  have s225 := (xq181.2.2.2.2.2 b2 7 (by rw [tb2]; decide)).trans s174
                  have s226 := (xq181.2.2.2.2.2 b2 8 (by rw [tb2]; decide)).trans s175
                  have pr227 := gPC.fr xq181.2 (by decide) pr176
                  have pr228 := gTc.fr xq181.2 (by decide) pr177
                  have pr229 := gRr.fr xq181.2 (by decide) pr178
                  have pr230 := gRw.fr xq181.2 (by decide) pr179
                  have k231 := sq181.2.1
                  have k231b := sq181.2.2.1
                  have hl232 : hq181.2.2.2.1 bt = h.2.2.2.1 bt := congrFun sq181.2.2.2.2.1 bt
                  have hl233 : hq181.2.2.2.1 coo = h.2.2.2.1 coo := congrFun sq181.2.2.2.2.1 coo
                  have hl234 : hq181.2.2.2.1 dmo = h.2.2.2.1 dmo := congrFun sq181.2.2.2.2.1 dmo
                  have k235 := sq181.2.1
                  have k235b := sq181.2.2.1
                  have hl236 : hq181.2.2.2.1 bt = h.2.2.2.1 bt := congrFun sq181.2.2.2.2.1 bt
                  have hl237 : hq181.2.2.2.1 coo = h.2.2.2.1 coo := congrFun sq181.2.2.2.2.1 coo
                  have hl238 : hq181.2.2.2.1 dmo = h.2.2.2.1 dmo := congrFun sq181.2.2.2.2.1 dmo
                  have hix239 : gIx ty x ld (hq181.2.2.2.1 bt : Int) iv hq181 := ⟨pic, b0, b1, b2, dr, sk, bt, n0, c0, ⟨tx, tdr, tsk, tbt⟩, ⟨s182, s183, s184, s185⟩, pr227, pr228, ⟨s186, by omega, by omega⟩, ⟨s187, by omega, by omega⟩, ⟨s188, by omega, by omega⟩, ⟨by omega, by omega⟩, pr229, pr230⟩
                  have G240 : gSg [] [] [] ty h ty hq181 := gSg.ss G0 sq181 (by decide)
                  exact gz_end (I := .ireturn) (len := 1) rfl (Or.inl rfl) ⟨ty, G240, ld, (hq181.2.2.2.1 bt : Int), iv, (by omega), (by omega), (by omega), (by omega), (by omega), (by omega), hix239, Or.inl ⟨zq181, rfl, (by omega), (by omega), (by omega), (by dsimp only; omega), (by dsimp only; omega), (by omega), (by omega)⟩⟩
                · refine gy_icF rfl (by decide) (by decide) (by omega) (by omega) hc68 ?_
                  refine gz_s 1 (pc' := 124) (L' := [some (.ref x), some (.int (zi a)), some (.int (zi b)), some (.int (zi c)), some (.int (zi jn2v0)), some (.int (zi zq18)), none, none]) (S' := [.int (zi zq18)]) rfl ?_
                  have k241 := sq18.2.1
                  have k241b := sq18.2.2.1
                  have hl242 : hq18.2.2.2.1 bt = h.2.2.2.1 bt := congrFun sq18.2.2.2.2.1 bt
                  have hl243 : hq18.2.2.2.1 coo = h.2.2.2.1 coo := congrFun sq18.2.2.2.2.1 coo
                  have hl244 : hq18.2.2.2.1 dmo = h.2.2.2.1 dmo := congrFun sq18.2.2.2.2.1 dmo
                  have k245 := sq18.2.1
                  have k245b := sq18.2.2.1
                  have hl246 : hq18.2.2.2.1 bt = h.2.2.2.1 bt := congrFun sq18.2.2.2.2.1 bt
                  have hl247 : hq18.2.2.2.1 coo = h.2.2.2.1 coo := congrFun sq18.2.2.2.2.1 coo
                  have hl248 : hq18.2.2.2.1 dmo = h.2.2.2.1 dmo := congrFun sq18.2.2.2.2.1 dmo
                  have hix249 : gIx ty x ld (hq18.2.2.2.1 bt : Int) iv hq18 := ⟨pic, b0, b1, b2, dr, sk, bt, n0, c0, ⟨tx, tdr, tsk, tbt⟩, ⟨s19, s20, s21, s22⟩, pr64, pr65, ⟨s23, by omega, by omega⟩, ⟨s24, by omega, by omega⟩, ⟨s25, by omega, by omega⟩, ⟨by omega, by omega⟩, pr66, pr67⟩
                  have G250 : gSg [] [] [] ty h ty hq18 := gSg.ss G0 sq18 (by decide)
                  exact gz_end (I := .ireturn) (len := 1) rfl (Or.inl rfl) ⟨ty, G250, ld, (hq18.2.2.2.1 bt : Int), iv, (by omega), (by omega), (by omega), (by omega), (by omega), (by omega), hix249, Or.inl ⟨zq18, rfl, (by omega), (by omega), (by omega), (by dsimp only; omega), (by dsimp only; omega), (by omega), (by omega)⟩⟩
              · refine gy_icF rfl (by decide) (by decide) (by omega) (by omega) hc16 ?_
                refine gz_s 1 (pc' := 89) (L' := [some (.ref x), some (.int (zi a)), some (.int (zi b)), some (.int (zi c)), some (.int (zi jn2v0)), none, none, none]) (S' := [.ref x]) rfl ?_
                refine gs_gtk rfl (by decide) rfl hS.1 tx rfl rfl ex2 ?_
                refine gz_s 3 (pc' := 95) (L' := [some (.ref x), some (.int (zi a)), some (.int (zi b)), some (.int (zi c)), some (.int (zi jn2v0)), none, none, none]) (S' := [.int (zi b), .int (zi a), .int (zi c), .ref pic]) rfl ?_
                have hl251 : h.2.2.2.1 coo = h.2.2.2.1 coo := congrFun hS.2.2.2.2.1 coo
                refine gz_call rfl (by decide) rfl (by decide) (by decide) (gcal_of rfl rfl rfl (Nat.le_of_ble_eq_true rfl) (gJ.recv (G := gGG) hS.1 tpic rfl rfl)) (cl_Picture_sampleAt _ hS.1 pic tpic c (by omega) a (by omega) b (by omega) bno er0o tbno b0 er1o tb0 b1 er2o tb1 b2 er3o tb2 coo er4o tcoo (gSta.fr hS.2 (by decide) hyst) (vvo 0) excno (by omega) (vvo 1) exuco (by omega) (vvo 2) exuro (by omega) (vvo 3) exblo (by omega) (vvo 4) exwo (by omega) (vvo 5) exhho (by omega) (vvo 6) exgho (by omega) (vvo 7) exgvo (by omega) (vvo 8) exhb0o (by omega) (vvo 9) exvb0o (by omega) (vvo 11) exC0o (by omega) (vvo 12) exR0o (by omega) (vvo 13) exoc0o (by omega) (vvo 14) exor0o (by omega) (vvo 15) exf0o (by omega) (vvo 16) exhb1o (by omega) (vvo 17) exvb1o (by omega) (vvo 19) exC1o (by omega) (vvo 20) exR1o (by omega) (vvo 21) exoc1o (by omega) (vvo 22) exor1o (by omega) (vvo 23) exf1o (by omega) (vvo 24) exhb2o (by omega) (vvo 25) exvb2o (by omega) (vvo 27) exC2o (by omega) (vvo 28) exR2o (by omega) (vvo 29) exoc2o (by omega) (vvo 30) exor2o (by omega) (vvo 31) exf2o (by omega) (vvo 10) extq0o (by omega) (vvo 18) extq1o (by omega) (vvo 26) extq2o (by omega) (by omega) (by omega) (by omega) (by omega) uq yy0o yy1o yy2o yy3o yy4o yy5o yy7o) (fun q252 _ wq252 => ?_)
                obtain ⟨pq252, oq252, hq252⟩ := q252
                obtain ⟨xq252, zq252, gq252, aq252, bq252⟩ := wq252
                refine ⟨_, gq252, ?_⟩
                show gz gPP gGG gcn _ _ 98 [some (.ref x), some (.int (zi a)), some (.int (zi b)), some (.int (zi c)), some (.int (zi jn2v0)), none, none, none] [.int (zi zq252)] hq252 _
                have sq252 : gSs rT 1027 ty [] h hq252 := gSs.tr hS xq252 (by decide)
                have s253 := (xq252.2.2.2.2.2 x 2 (by rw [tx]; decide)).trans ex2
                have s254 := (xq252.2.2.2.2.2 x 3 (by rw [tx]; decide)).trans ex3
                have s255 := (xq252.2.2.2.2.2 x 4 (by rw [tx]; decide)).trans ex4
                have s256 := (xq252.2.2.2.2.2 sk 0 (by rw [tsk]; decide)).trans ex0
                have s257 := (xq252.2.2.2.2.2 dr 8 (by rw [tdr]; decide)).trans en0
                have s258 := (xq252.2.2.2.2.2 dr 3 (by rw [tdr]; decide)).trans eiv
                have s259 := (xq252.2.2.2.2.2 sk 1 (by rw [tsk]; decide)).trans ec0
                have s260 := (xq252.2.2.2.2.2 pic 0 (by rw [tpic]; decide)).trans er0o
                have s261 := (xq252.2.2.2.2.2 bno 0 (by rw [tbno]; decide)).trans er1o
                have s262 := (xq252.2.2.2.2.2 bno 1 (by rw [tbno]; decide)).trans er2o
                have s263 := (xq252.2.2.2.2.2 bno 2 (by rw [tbno]; decide)).trans er3o
                have s264 := (xq252.2.2.2.2.2 pic 2 (by rw [tpic]; decide)).trans er4o
                have s265 := (xq252.2.2.2.2.2 pic 3 (by rw [tpic]; decide)).trans er5o
                have s266 := (xq252.2.2.2.2.2 pic 7 (by rw [tpic]; decide)).trans excno
                have s267 := (xq252.2.2.2.2.2 pic 12 (by rw [tpic]; decide)).trans exuco
                have s268 := (xq252.2.2.2.2.2 pic 13 (by rw [tpic]; decide)).trans exuro
                have s269 := (xq252.2.2.2.2.2 pic 8 (by rw [tpic]; decide)).trans exblo
                have s270 := (xq252.2.2.2.2.2 pic 5 (by rw [tpic]; decide)).trans exwo
                have s271 := (xq252.2.2.2.2.2 pic 6 (by rw [tpic]; decide)).trans exhho
                have s272 := (xq252.2.2.2.2.2 pic 10 (by rw [tpic]; decide)).trans exgho
                have s273 := (xq252.2.2.2.2.2 pic 11 (by rw [tpic]; decide)).trans exgvo
                have s274 := (xq252.2.2.2.2.2 b0 1 (by rw [tb0]; decide)).trans exhb0o
                have s275 := (xq252.2.2.2.2.2 b0 2 (by rw [tb0]; decide)).trans exvb0o
                have s276 := (xq252.2.2.2.2.2 b0 3 (by rw [tb0]; decide)).trans extq0o
                have s277 := (xq252.2.2.2.2.2 b0 4 (by rw [tb0]; decide)).trans exC0o
                have s278 := (xq252.2.2.2.2.2 b0 5 (by rw [tb0]; decide)).trans exR0o
                have s279 := (xq252.2.2.2.2.2 b0 6 (by rw [tb0]; decide)).trans exoc0o
                have s280 := (xq252.2.2.2.2.2 b0 7 (by rw [tb0]; decide)).trans exor0o
                have s281 := (xq252.2.2.2.2.2 b0 8 (by rw [tb0]; decide)).trans exf0o
                have s282 := (xq252.2.2.2.2.2 b1 1 (by rw [tb1]; decide)).trans exhb1o
                have s283 := (xq252.2.2.2.2.2 b1 2 (by rw [tb1]; decide)).trans exvb1o
                have s284 := (xq252.2.2.2.2.2 b1 3 (by rw [tb1]; decide)).trans extq1o
                have s285 := (xq252.2.2.2.2.2 b1 4 (by rw [tb1]; decide)).trans exC1o
                have s286 := (xq252.2.2.2.2.2 b1 5 (by rw [tb1]; decide)).trans exR1o
                have s287 := (xq252.2.2.2.2.2 b1 6 (by rw [tb1]; decide)).trans exoc1o
                have s288 := (xq252.2.2.2.2.2 b1 7 (by rw [tb1]; decide)).trans exor1o
                have s289 := (xq252.2.2.2.2.2 b1 8 (by rw [tb1]; decide)).trans exf1o
                have s290 := (xq252.2.2.2.2.2 b2 1 (by rw [tb2]; decide)).trans exhb2o
                have s291 := (xq252.2.2.2.2.2 b2 2 (by rw [tb2]; decide)).trans exvb2o
                have s292 := (xq252.2.2.2.2.2 b2 3 (by rw [tb2]; decide)).trans extq2o
                have s293 := (xq252.2.2.2.2.2 b2 4 (by rw [tb2]; decide)).trans exC2o
                have s294 := (xq252.2.2.2.2.2 b2 5 (by rw [tb2]; decide)).trans exR2o
                have s295 := (xq252.2.2.2.2.2 b2 6 (by rw [tb2]; decide)).trans exoc2o
                have s296 := (xq252.2.2.2.2.2 b2 7 (by rw [tb2]; decide)).trans exor2o
                have s297 := (xq252.2.2.2.2.2 b2 8 (by rw [tb2]; decide)).trans exf2o
                have pr298 := gPC.fr xq252.2 (by decide) hpc
                have pr299 := gTc.fr xq252.2 (by decide) htc
                have pr300 := gRr.fr xq252.2 (by decide) hrr
                have pr301 := gRw.fr xq252.2 (by decide) hrw
                have k302 := sq252.2.1
                have k302b := sq252.2.2.1
                have hl303 : hq252.2.2.2.1 bt = h.2.2.2.1 bt := congrFun sq252.2.2.2.2.1 bt
                have hl304 : hq252.2.2.2.1 coo = h.2.2.2.1 coo := congrFun sq252.2.2.2.2.1 coo
                have hl305 : hq252.2.2.2.1 dmo = h.2.2.2.1 dmo := congrFun sq252.2.2.2.2.1 dmo
                have k306 := sq252.2.1
                have k306b := sq252.2.2.1
                have hl307 : hq252.2.2.2.1 bt = h.2.2.2.1 bt := congrFun sq252.2.2.2.2.1 bt
                have hl308 : hq252.2.2.2.1 coo = h.2.2.2.1 coo := congrFun sq252.2.2.2.2.1 coo
                have hl309 : hq252.2.2.2.1 dmo = h.2.2.2.1 dmo := congrFun sq252.2.2.2.2.1 dmo
                have hix310 : gIx ty x ld (hq252.2.2.2.1 bt : Int) iv hq252 := ⟨pic, b0, b1, b2, dr, sk, bt, n0, c0, ⟨tx, tdr, tsk, tbt⟩, ⟨s253, s254, s255, s256⟩, pr298, pr299, ⟨s257, by omega, by omega⟩, ⟨s258, by omega, by omega⟩, ⟨s259, by omega, by omega⟩, ⟨by omega, by omega⟩, pr300, pr301⟩
                have G311 : gSg [] [] [] ty h ty hq252 := gSg.ss G0 sq252 (by decide)
                exact gz_end (I := .ireturn) (len := 1) rfl (Or.inl rfl) ⟨ty, G311, ld, (hq252.2.2.2.1 bt : Int), iv, (by omega), (by omega), (by omega), (by omega), (by omega), (by omega), hix310, Or.inl ⟨zq252, rfl, (by omega), (by omega), (by omega), (by dsimp only; omega), (by dsimp only; omega), (by omega), (by omega)⟩⟩
            · refine gy_icF rfl (by decide) (by decide) (by omega) (by omega) hc15 ?_
              have hix312 : gIx ty x ld (h.2.2.2.1 bt : Int) iv h := ⟨pic, b0, b1, b2, dr, sk, bt, n0, c0, ⟨tx, tdr, tsk, tbt⟩, ⟨ex2, ex3, ex4, ex0⟩, hpc, htc, ⟨en0, by omega, by omega⟩, ⟨eiv, by omega, by omega⟩, ⟨ec0, by omega, by omega⟩, ⟨by omega, by omega⟩, hrr, hrw⟩
              have G313 : gSg [] [] [] ty h ty h := gSg.ss G0 hS (by decide)
              exact gz_end (I := .new 84) (len := 3) rfl (Or.inr (by decide)) ⟨ty, G313, ld, (h.2.2.2.1 bt : Int), iv, (by omega), (by omega), (by omega), (by omega), (by omega), (by omega), hix312, Or.inr ⟨rfl, rfl, (by omega), (by dsimp only; omega), (by dsimp only; omega), (by omega), (by omega)⟩⟩
  by_cases hc314 : (c : Int) < 0
  · refine gy_ifT (pc' := 29) rfl (by decide) (by decide) (by omega) hc314 ?_
    refine gz_s 1 (pc' := 30) (L' := [some (.ref x), some (.int (zi a)), some (.int (zi b)), some (.int (zi c)), none, none, none, none]) (S' := [.int (zi 0)]) rfl ?_
    exact jn2 0 (by omega)
  · refine gy_ifF rfl (by decide) (by decide) (by omega) hc314 ?_
    refine gz_s 2 (pc' := 6) (L' := [some (.ref x), some (.int (zi a)), some (.int (zi b)), some (.int (zi c)), none, none, none, none]) (S' := [.ref x, .int (zi c)]) rfl ?_
    refine gs_gtk rfl (by decide) rfl hS.1 tx rfl rfl ex2 ?_
    refine gs_gtk rfl (by decide) rfl hS.1 tpic rfl rfl excno ?_
    by_cases hc315 : (c : Int) < vvo 0
    · refine gy_icT (pc' := 25) rfl (by decide) (by decide) (by omega) (by omega) hc315 ?_
      refine gz_s 2 (pc' := 30) (L' := [some (.ref x), some (.int (zi a)), some (.int (zi b)), some (.int (zi c)), none, none, none, none]) (S' := [.int (zi 1)]) rfl ?_
      exact jn2 1 (by omega)
    · refine gy_icF rfl (by decide) (by decide) (by omega) (by omega) hc315 ?_
      refine gz_s 2 (pc' := 17) (L' := [some (.ref x), some (.int (zi a)), some (.int (zi b)), some (.int (zi c)), none, none, none, none]) (S' := [.int (zi 3), .int (zi c)]) rfl ?_
      by_cases hc316 : (c : Int) < 3
      · refine gy_icT (pc' := 29) rfl (by decide) (by decide) (by omega) (by omega) hc316 ?_
        refine gz_s 1 (pc' := 30) (L' := [some (.ref x), some (.int (zi a)), some (.int (zi b)), some (.int (zi c)), none, none, none, none]) (S' := [.int (zi 0)]) rfl ?_
        exact jn2 0 (by omega)
      · refine gy_icF rfl (by decide) (by decide) (by omega) (by omega) hc316 ?_
        refine gz_s 2 (pc' := 22) (L' := [some (.ref x), some (.int (zi a)), some (.int (zi b)), some (.int (zi c)), none, none, none, none]) (S' := [.int (zi 5), .int (zi c)]) rfl ?_
        by_cases hc317 : (5 : Int) < c
        · refine gy_icT (pc' := 29) rfl (by decide) (by decide) (by omega) (by omega) hc317 ?_
          refine gz_s 1 (pc' := 30) (L' := [some (.ref x), some (.int (zi a)), some (.int (zi b)), some (.int (zi c)), none, none, none, none]) (S' := [.int (zi 0)]) rfl ?_
          exact jn2 0 (by omega)
        · refine gy_icF rfl (by decide) (by decide) (by omega) (by omega) hc317 ?_
          refine gz_s 2 (pc' := 30) (L' := [some (.ref x), some (.int (zi a)), some (.int (zi b)), some (.int (zi c)), none, none, none, none]) (S' := [.int (zi 1)]) rfl ?_
          exact jn2 1 (by omega)
set_option maxRecDepth 20000 in
set_option maxHeartbeats 4000000 in
theorem cl_DctFilter_coefficient (d : Nat) {ty : Nat → Nat} {h : gH} (hJ : gJ rT 1027 ty h) (x : Nat) (tx : ty x = 50) (a : Int) (ra : (-2147483648) ≤ a ∧ a ≤ 2147483647) (b : Int) (rb : (-2147483648) ≤ b ∧ b ≤ 2147483647) (ld : Int) (rld : 0 ≤ ld ∧ ld ≤ 192) (lb : Int) (rlb : 1024 ≤ lb ∧ lb ≤ 1000000) (iv : Int) (riv : 0 ≤ iv ∧ iv ≤ 100) (uq : gUq ty) (hyix : gIx ty x ld lb iv h) : gz gPP gGG gcn (d + 0) gt79 0 (gent [.ref x, .int (zi a), .int (zi b)] 3) [] h (fun q _ => ∃ ty9 : Nat → Nat, gSg [] [] [] ty h ty9 q.2.2 ∧ ∃ ld1 lb1 iv1 : Int, 0 ≤ ld1 ∧ ld1 ≤ 192 ∧ 1024 ≤ lb1 ∧ lb1 ≤ 1000000 ∧ 0 ≤ iv1 ∧ iv1 ≤ 100 ∧ (gIx ty9 x ld1 lb1 iv1 q.2.2) ∧ ((∃ z : Int, gfin gt79 q.1 q.2.1 = some (some (.int (zi z))) ∧ (-2147483648) ≤ z ∧ z ≤ 2147483647 ∧ (iv1 = iv) ∧ (1024 * (((q.2.2.1 : Int) - h.1) - 31 - 2 * (ld1 - ld)) ≤ lb1 - lb) ∧ (((q.2.2.2.1 : Int) - h.2.1) ≤ 4303 + 12480 * (ld1 - ld) + 2 * (lb1 - lb)) ∧ (ld ≤ ld1) ∧ (lb ≤ lb1)) ∨ (q.2.1 = [] ∧ ((q.1 = 25)) ∧ (iv1 = iv) ∧ (1024 * (((q.2.2.1 : Int) - h.1) - 31 - 2 * (ld1 - ld)) ≤ lb1 - lb) ∧ (((q.2.2.2.1 : Int) - h.2.1) ≤ 4303 + 12480 * (ld1 - ld) + 2 * (lb1 - lb)) ∧ (ld ≤ ld1) ∧ (lb ≤ lb1)))) := by
  have hS : gSs rT 1027 ty [] h h := gSs.rf hJ
  have G0 : gSg [] [] [] ty h ty h := gSg.rf hJ (fun x hx => by cases hx)
  obtain ⟨pic, b0, b1, b2, dr, sk, bt, n0, c0, ⟨_, tdr, tsk, tbt⟩, ⟨ex2, ex3, ex4, ex0⟩, hpc, htc, ⟨en0, rn0⟩, ⟨eiv, riv⟩, ⟨ec0, rc0⟩, ⟨lc0, llb⟩, hrr, hrw⟩ := hyix
  have tpic := hpc.1.1
  have tb0 := hpc.1.2.1
  have tb1 := hpc.1.2.2.1
  have tb2 := hpc.1.2.2.2
  have hpq1 := hpc
  obtain ⟨_, bno, coo, dmo, vvo, ⟨tbno, tcoo, tdmo⟩, ⟨er0o, er1o, er2o, er3o, er4o, er5o⟩, hvvo, hrro, ⟨yy0o, yy1o, yy2o, yy3o, yy4o, yy5o, yy6o, yy7o⟩, ll0o, ll1o, ll2o, ll3o⟩ := hpq1
  have excno : h.2.2.2.2 pic 7 = .int (zi (vvo 0)) := hvvo (0, 7, 0) (by decide)
  have rrcno : 0 ≤ vvo 0 ∧ vvo 0 ≤ 3 := hrro (0, 0, 3) (by decide)
  have exuco : h.2.2.2.2 pic 12 = .int (zi (vvo 1)) := hvvo (0, 12, 1) (by decide)
  have rruco : 0 ≤ vvo 1 ∧ vvo 1 ≤ 8 := hrro (1, 0, 8) (by decide)
  have exuro : h.2.2.2.2 pic 13 = .int (zi (vvo 2)) := hvvo (0, 13, 2) (by decide)
  have rruro : 0 ≤ vvo 2 ∧ vvo 2 ≤ 8 := hrro (2, 0, 8) (by decide)
  have exblo : h.2.2.2.2 pic 8 = .int (zi (vvo 3)) := hvvo (0, 8, 3) (by decide)
  have rrblo : 0 ≤ vvo 3 ∧ vvo 3 ≤ 192 := hrro (3, 0, 192) (by decide)
  have exwo : h.2.2.2.2 pic 5 = .int (zi (vvo 4)) := hvvo (0, 5, 4) (by decide)
  have rrwo : 0 ≤ vvo 4 ∧ vvo 4 ≤ 64 := hrro (4, 0, 64) (by decide)
  have exhho : h.2.2.2.2 pic 6 = .int (zi (vvo 5)) := hvvo (0, 6, 5) (by decide)
  have rrhho : 0 ≤ vvo 5 ∧ vvo 5 ≤ 64 := hrro (5, 0, 64) (by decide)
  have exgho : h.2.2.2.2 pic 10 = .int (zi (vvo 6)) := hvvo (0, 10, 6) (by decide)
  have rrgho : 1 ≤ vvo 6 ∧ vvo 6 ≤ 2 := hrro (6, 1, 2) (by decide)
  have exgvo : h.2.2.2.2 pic 11 = .int (zi (vvo 7)) := hvvo (0, 11, 7) (by decide)
  have rrgvo : 1 ≤ vvo 7 ∧ vvo 7 ≤ 2 := hrro (7, 1, 2) (by decide)
  have exhb0o : h.2.2.2.2 b0 1 = .int (zi (vvo 8)) := hvvo (1, 1, 8) (by decide)
  have rrhb0o : (-1) ≤ vvo 8 ∧ vvo 8 ≤ 15 := hrro (8, (-1), 15) (by decide)
  have exvb0o : h.2.2.2.2 b0 2 = .int (zi (vvo 9)) := hvvo (1, 2, 9) (by decide)
  have rrvb0o : 0 ≤ vvo 9 ∧ vvo 9 ≤ 15 := hrro (9, 0, 15) (by decide)
  have extq0o : h.2.2.2.2 b0 3 = .int (zi (vvo 10)) := hvvo (1, 3, 10) (by decide)
  have rrtq0o : (-1) ≤ vvo 10 ∧ vvo 10 ≤ 255 := hrro (10, (-1), 255) (by decide)
  have exC0o : h.2.2.2.2 b0 4 = .int (zi (vvo 11)) := hvvo (1, 4, 11) (by decide)
  have rrC0o : 0 ≤ vvo 11 ∧ vvo 11 ≤ 16 := hrro (11, 0, 16) (by decide)
  have exR0o : h.2.2.2.2 b0 5 = .int (zi (vvo 12)) := hvvo (1, 5, 12) (by decide)
  have rrR0o : 0 ≤ vvo 12 ∧ vvo 12 ≤ 16 := hrro (12, 0, 16) (by decide)
  have exoc0o : h.2.2.2.2 b0 6 = .int (zi (vvo 13)) := hvvo (1, 6, 13) (by decide)
  have rroc0o : 0 ≤ vvo 13 ∧ vvo 13 ≤ 16 := hrro (13, 0, 16) (by decide)
  have exor0o : h.2.2.2.2 b0 7 = .int (zi (vvo 14)) := hvvo (1, 7, 14) (by decide)
  have rror0o : 0 ≤ vvo 14 ∧ vvo 14 ≤ 16 := hrro (14, 0, 16) (by decide)
  have exf0o : h.2.2.2.2 b0 8 = .int (zi (vvo 15)) := hvvo (1, 8, 15) (by decide)
  have rrf0o : 0 ≤ vvo 15 ∧ vvo 15 ≤ 192 := hrro (15, 0, 192) (by decide)
  have exhb1o : h.2.2.2.2 b1 1 = .int (zi (vvo 16)) := hvvo (2, 1, 16) (by decide)
  have rrhb1o : (-1) ≤ vvo 16 ∧ vvo 16 ≤ 15 := hrro (16, (-1), 15) (by decide)
  have exvb1o : h.2.2.2.2 b1 2 = .int (zi (vvo 17)) := hvvo (2, 2, 17) (by decide)
  have rrvb1o : 0 ≤ vvo 17 ∧ vvo 17 ≤ 15 := hrro (17, 0, 15) (by decide)
  have extq1o : h.2.2.2.2 b1 3 = .int (zi (vvo 18)) := hvvo (2, 3, 18) (by decide)
  have rrtq1o : (-1) ≤ vvo 18 ∧ vvo 18 ≤ 255 := hrro (18, (-1), 255) (by decide)
  have exC1o : h.2.2.2.2 b1 4 = .int (zi (vvo 19)) := hvvo (2, 4, 19) (by decide)
  have rrC1o : 0 ≤ vvo 19 ∧ vvo 19 ≤ 16 := hrro (19, 0, 16) (by decide)
  have exR1o : h.2.2.2.2 b1 5 = .int (zi (vvo 20)) := hvvo (2, 5, 20) (by decide)
  have rrR1o : 0 ≤ vvo 20 ∧ vvo 20 ≤ 16 := hrro (20, 0, 16) (by decide)
  have exoc1o : h.2.2.2.2 b1 6 = .int (zi (vvo 21)) := hvvo (2, 6, 21) (by decide)
  have rroc1o : 0 ≤ vvo 21 ∧ vvo 21 ≤ 16 := hrro (21, 0, 16) (by decide)
  have exor1o : h.2.2.2.2 b1 7 = .int (zi (vvo 22)) := hvvo (2, 7, 22) (by decide)
  have rror1o : 0 ≤ vvo 22 ∧ vvo 22 ≤ 16 := hrro (22, 0, 16) (by decide)
  have exf1o : h.2.2.2.2 b1 8 = .int (zi (vvo 23)) := hvvo (2, 8, 23) (by decide)
  have rrf1o : 0 ≤ vvo 23 ∧ vvo 23 ≤ 192 := hrro (23, 0, 192) (by decide)
  have exhb2o : h.2.2.2.2 b2 1 = .int (zi (vvo 24)) := hvvo (3, 1, 24) (by decide)
  have rrhb2o : (-1) ≤ vvo 24 ∧ vvo 24 ≤ 15 := hrro (24, (-1), 15) (by decide)
  have exvb2o : h.2.2.2.2 b2 2 = .int (zi (vvo 25)) := hvvo (3, 2, 25) (by decide)
  have rrvb2o : 0 ≤ vvo 25 ∧ vvo 25 ≤ 15 := hrro (25, 0, 15) (by decide)
  have extq2o : h.2.2.2.2 b2 3 = .int (zi (vvo 26)) := hvvo (3, 3, 26) (by decide)
  have rrtq2o : (-1) ≤ vvo 26 ∧ vvo 26 ≤ 255 := hrro (26, (-1), 255) (by decide)
  have exC2o : h.2.2.2.2 b2 4 = .int (zi (vvo 27)) := hvvo (3, 4, 27) (by decide)
  have rrC2o : 0 ≤ vvo 27 ∧ vvo 27 ≤ 16 := hrro (27, 0, 16) (by decide)
  have exR2o : h.2.2.2.2 b2 5 = .int (zi (vvo 28)) := hvvo (3, 5, 28) (by decide)
  have rrR2o : 0 ≤ vvo 28 ∧ vvo 28 ≤ 16 := hrro (28, 0, 16) (by decide)
  have exoc2o : h.2.2.2.2 b2 6 = .int (zi (vvo 29)) := hvvo (3, 6, 29) (by decide)
  have rroc2o : 0 ≤ vvo 29 ∧ vvo 29 ≤ 16 := hrro (29, 0, 16) (by decide)
  have exor2o : h.2.2.2.2 b2 7 = .int (zi (vvo 30)) := hvvo (3, 7, 30) (by decide)
  have rror2o : 0 ≤ vvo 30 ∧ vvo 30 ≤ 16 := hrro (30, 0, 16) (by decide)
  have exf2o : h.2.2.2.2 b2 8 = .int (zi (vvo 31)) := hvvo (3, 8, 31) (by decide)
  have rrf2o : 0 ≤ vvo 31 ∧ vvo 31 ≤ 192 := hrro (31, 0, 192) (by decide)
  refine gz_s 1 (pc' := 1) (L' := [some (.ref x), some (.int (zi a)), some (.int (zi b))]) (S' := [.int (zi a)]) rfl ?_
  by_cases hc2 : (a : Int) < 0
  · refine gy_ifT (pc' := 25) rfl (by decide) (by decide) (by omega) hc2 ?_
    have hix3 : gIx ty x ld (h.2.2.2.1 bt : Int) iv h := ⟨pic, b0, b1, b2, dr, sk, bt, n0, c0, ⟨tx, tdr, tsk, tbt⟩, ⟨ex2, ex3, ex4, ex0⟩, hpc, htc, ⟨en0, by omega, by omega⟩, ⟨eiv, by omega, by omega⟩, ⟨ec0, by omega, by omega⟩, ⟨by omega, by omega⟩, hrr, hrw⟩
    have G4 : gSg [] [] [] ty h ty h := gSg.ss G0 hS (by decide)
    exact gz_end (I := .new 108) (len := 3) rfl (Or.inr (by decide)) ⟨ty, G4, ld, (h.2.2.2.1 bt : Int), iv, (by omega), (by omega), (by omega), (by omega), (by omega), (by omega), hix3, Or.inr ⟨rfl, rfl, (by omega), (by dsimp only; omega), (by dsimp only; omega), (by omega), (by omega)⟩⟩
  · refine gy_ifF rfl (by decide) (by decide) (by omega) hc2 ?_
    refine gz_s 2 (pc' := 6) (L' := [some (.ref x), some (.int (zi a)), some (.int (zi b))]) (S' := [.ref x, .int (zi a)]) rfl ?_
    refine gs_gtk rfl (by decide) rfl hS.1 tx rfl rfl ex2 ?_
    refine gs_gtk rfl (by decide) rfl hS.1 tpic rfl rfl exblo ?_
    by_cases hc5 : (vvo 3 : Int) ≤ a
    · refine gy_icT (pc' := 25) rfl (by decide) (by decide) (by omega) (by omega) hc5 ?_
      have hix6 : gIx ty x ld (h.2.2.2.1 bt : Int) iv h := ⟨pic, b0, b1, b2, dr, sk, bt, n0, c0, ⟨tx, tdr, tsk, tbt⟩, ⟨ex2, ex3, ex4, ex0⟩, hpc, htc, ⟨en0, by omega, by omega⟩, ⟨eiv, by omega, by omega⟩, ⟨ec0, by omega, by omega⟩, ⟨by omega, by omega⟩, hrr, hrw⟩
      have G7 : gSg [] [] [] ty h ty h := gSg.ss G0 hS (by decide)
      exact gz_end (I := .new 108) (len := 3) rfl (Or.inr (by decide)) ⟨ty, G7, ld, (h.2.2.2.1 bt : Int), iv, (by omega), (by omega), (by omega), (by omega), (by omega), (by omega), hix6, Or.inr ⟨rfl, rfl, (by omega), (by dsimp only; omega), (by dsimp only; omega), (by omega), (by omega)⟩⟩
    · refine gy_icF rfl (by decide) (by decide) (by omega) (by omega) hc5 ?_
      refine gz_s 1 (pc' := 16) (L' := [some (.ref x), some (.int (zi a)), some (.int (zi b))]) (S' := [.int (zi b)]) rfl ?_
      by_cases hc8 : (b : Int) < 0
      · refine gy_ifT (pc' := 25) rfl (by decide) (by decide) (by omega) hc8 ?_
        have hix9 : gIx ty x ld (h.2.2.2.1 bt : Int) iv h := ⟨pic, b0, b1, b2, dr, sk, bt, n0, c0, ⟨tx, tdr, tsk, tbt⟩, ⟨ex2, ex3, ex4, ex0⟩, hpc, htc, ⟨en0, by omega, by omega⟩, ⟨eiv, by omega, by omega⟩, ⟨ec0, by omega, by omega⟩, ⟨by omega, by omega⟩, hrr, hrw⟩
        have G10 : gSg [] [] [] ty h ty h := gSg.ss G0 hS (by decide)
        exact gz_end (I := .new 108) (len := 3) rfl (Or.inr (by decide)) ⟨ty, G10, ld, (h.2.2.2.1 bt : Int), iv, (by omega), (by omega), (by omega), (by omega), (by omega), (by omega), hix9, Or.inr ⟨rfl, rfl, (by omega), (by dsimp only; omega), (by dsimp only; omega), (by omega), (by omega)⟩⟩
      · refine gy_ifF rfl (by decide) (by decide) (by omega) hc8 ?_
        refine gz_s 2 (pc' := 22) (L' := [some (.ref x), some (.int (zi a)), some (.int (zi b))]) (S' := [.int (zi 63), .int (zi b)]) rfl ?_
        by_cases hc11 : (b : Int) ≤ 63
        · refine gy_icT (pc' := 35) rfl (by decide) (by decide) (by omega) (by omega) hc11 ?_
          refine gz_s 1 (pc' := 36) (L' := [some (.ref x), some (.int (zi a)), some (.int (zi b))]) (S' := [.ref x]) rfl ?_
          refine gs_gtk rfl (by decide) rfl hS.1 tx rfl rfl ex2 ?_
          refine gs_gtk rfl (by decide) rfl hS.1 tpic rfl rfl er4o ?_
          refine gy_s 5 (pc' := 48) (L' := [some (.ref x), some (.int (zi a)), some (.int (zi b))]) (S' := [.int (((zi a) * (zi 64)) + (zi b)), .ref coo]) (L2 := [some (.ref x), some (.int (zi a)), some (.int (zi b))]) (S2 := [.int (zi ((a * 64) + b)), .ref coo]) rfl (by simp only [zi_add, zi_sub, zi_mul, zi_neg, zi_and1, zi_and7, zi_and15, zi_and31, zi_and255]) (by simp only [zi_add, zi_sub, zi_mul, zi_neg, zi_and1, zi_and7, zi_and15, zi_and31, zi_and255]) ?_
          have hl12 : 0 ≤ h.2.2.2.1 coo ∧ h.2.2.2.1 coo ≤ 12288 := gJ.rowl (G := gGG) hS.1 tcoo rfl
          have hl13 : h.2.2.2.1 coo = h.2.2.2.1 coo := congrFun hS.2.2.2.2.1 coo
          refine gs_ald rfl (by decide) hS.1 tcoo rfl rfl rfl (by decide) (fun _ => rfl) (by omega) (by omega) (fun z14 ez14 az14 bz14 => ?_)
          have hix15 : gIx ty x ld (h.2.2.2.1 bt : Int) iv h := ⟨pic, b0, b1, b2, dr, sk, bt, n0, c0, ⟨tx, tdr, tsk, tbt⟩, ⟨ex2, ex3, ex4, ex0⟩, hpc, htc, ⟨en0, by omega, by omega⟩, ⟨eiv, by omega, by omega⟩, ⟨ec0, by omega, by omega⟩, ⟨by omega, by omega⟩, hrr, hrw⟩
          have G16 : gSg [] [] [] ty h ty h := gSg.ss G0 hS (by decide)
          exact gz_end (I := .ireturn) (len := 1) rfl (Or.inl rfl) ⟨ty, G16, ld, (h.2.2.2.1 bt : Int), iv, (by omega), (by omega), (by omega), (by omega), (by omega), (by omega), hix15, Or.inl ⟨z14, rfl, (by omega), (by omega), (by omega), (by dsimp only; omega), (by dsimp only; omega), (by omega), (by omega)⟩⟩
        · refine gy_icF rfl (by decide) (by decide) (by omega) (by omega) hc11 ?_
          have hix17 : gIx ty x ld (h.2.2.2.1 bt : Int) iv h := ⟨pic, b0, b1, b2, dr, sk, bt, n0, c0, ⟨tx, tdr, tsk, tbt⟩, ⟨ex2, ex3, ex4, ex0⟩, hpc, htc, ⟨en0, by omega, by omega⟩, ⟨eiv, by omega, by omega⟩, ⟨ec0, by omega, by omega⟩, ⟨by omega, by omega⟩, hrr, hrw⟩
          have G18 : gSg [] [] [] ty h ty h := gSg.ss G0 hS (by decide)
          exact gz_end (I := .new 108) (len := 3) rfl (Or.inr (by decide)) ⟨ty, G18, ld, (h.2.2.2.1 bt : Int), iv, (by omega), (by omega), (by omega), (by omega), (by omega), (by omega), hix17, Or.inr ⟨rfl, rfl, (by omega), (by dsimp only; omega), (by dsimp only; omega), (by omega), (by omega)⟩⟩
set_option maxRecDepth 20000 in
set_option maxHeartbeats 4000000 in
theorem cl_DctFilter_exact (d : Nat) {ty : Nat → Nat} {h : gH} (hJ : gJ rT 1027 ty h) (x : Nat) (tx : ty x = 50) (a : Int) (ra : (-2147483648) ≤ a ∧ a ≤ 2147483647) (b : Int) (rb : (-2147483648) ≤ b ∧ b ≤ 2147483647) (hyst : gSta ty h) (ld : Int) (rld : 0 ≤ ld ∧ ld ≤ 192) (lb : Int) (rlb : 1024 ≤ lb ∧ lb ≤ 1000000) (iv : Int) (riv : 0 ≤ iv ∧ iv ≤ 100) (uq : gUq ty) (hyix : gIx ty x ld lb iv h) : gz gPP gGG gcn (d + 2) gt80 0 (gent [.ref x, .int (zi a), .int (zi b)] 3) [] h (fun q _ => ∃ ty9 : Nat → Nat, gSg [] [] [] ty h ty9 q.2.2 ∧ ∃ ld1 lb1 iv1 : Int, 0 ≤ ld1 ∧ ld1 ≤ 192 ∧ 1024 ≤ lb1 ∧ lb1 ≤ 1000000 ∧ 0 ≤ iv1 ∧ iv1 ≤ 100 ∧ (gIx ty9 x ld1 lb1 iv1 q.2.2) ∧ ((∃ z : Int, gfin gt80 q.1 q.2.1 = some (some (.long (zl z))) ∧ (-9223372036854775808) ≤ z ∧ z ≤ 9223372036854775807 ∧ (iv1 = iv) ∧ (1024 * (((q.2.2.1 : Int) - h.1) - 31 - 2 * (ld1 - ld)) ≤ lb1 - lb) ∧ (((q.2.2.2.1 : Int) - h.2.1) ≤ 4303 + 12480 * (ld1 - ld) + 2 * (lb1 - lb)) ∧ (ld ≤ ld1) ∧ (lb ≤ lb1)) ∨ (q.2.1 = [] ∧ ((q.1 = 25)) ∧ (iv1 = iv) ∧ (1024 * (((q.2.2.1 : Int) - h.1) - 31 - 2 * (ld1 - ld)) ≤ lb1 - lb) ∧ (((q.2.2.2.1 : Int) - h.2.1) ≤ 4303 + 12480 * (ld1 - ld) + 2 * (lb1 - lb)) ∧ (ld ≤ ld1) ∧ (lb ≤ lb1)))) := by
  have hS : gSs rT 1027 ty [] h h := gSs.rf hJ
  have G0 : gSg [] [] [] ty h ty h := gSg.rf hJ (fun x hx => by cases hx)
  obtain ⟨pic, b0, b1, b2, dr, sk, bt, n0, c0, ⟨_, tdr, tsk, tbt⟩, ⟨ex2, ex3, ex4, ex0⟩, hpc, htc, ⟨en0, rn0⟩, ⟨eiv, riv⟩, ⟨ec0, rc0⟩, ⟨lc0, llb⟩, hrr, hrw⟩ := hyix
  have tpic := hpc.1.1
  have tb0 := hpc.1.2.1
  have tb1 := hpc.1.2.2.1
  have tb2 := hpc.1.2.2.2
  have hpq1 := hpc
  obtain ⟨_, bno, coo, dmo, vvo, ⟨tbno, tcoo, tdmo⟩, ⟨er0o, er1o, er2o, er3o, er4o, er5o⟩, hvvo, hrro, ⟨yy0o, yy1o, yy2o, yy3o, yy4o, yy5o, yy6o, yy7o⟩, ll0o, ll1o, ll2o, ll3o⟩ := hpq1
  have excno : h.2.2.2.2 pic 7 = .int (zi (vvo 0)) := hvvo (0, 7, 0) (by decide)
  have rrcno : 0 ≤ vvo 0 ∧ vvo 0 ≤ 3 := hrro (0, 0, 3) (by decide)
  have exuco : h.2.2.2.2 pic 12 = .int (zi (vvo 1)) := hvvo (0, 12, 1) (by decide)
  have rruco : 0 ≤ vvo 1 ∧ vvo 1 ≤ 8 := hrro (1, 0, 8) (by decide)
  have exuro : h.2.2.2.2 pic 13 = .int (zi (vvo 2)) := hvvo (0, 13, 2) (by decide)
  have rruro : 0 ≤ vvo 2 ∧ vvo 2 ≤ 8 := hrro (2, 0, 8) (by decide)
  have exblo : h.2.2.2.2 pic 8 = .int (zi (vvo 3)) := hvvo (0, 8, 3) (by decide)
  have rrblo : 0 ≤ vvo 3 ∧ vvo 3 ≤ 192 := hrro (3, 0, 192) (by decide)
  have exwo : h.2.2.2.2 pic 5 = .int (zi (vvo 4)) := hvvo (0, 5, 4) (by decide)
  have rrwo : 0 ≤ vvo 4 ∧ vvo 4 ≤ 64 := hrro (4, 0, 64) (by decide)
  have exhho : h.2.2.2.2 pic 6 = .int (zi (vvo 5)) := hvvo (0, 6, 5) (by decide)
  have rrhho : 0 ≤ vvo 5 ∧ vvo 5 ≤ 64 := hrro (5, 0, 64) (by decide)
  have exgho : h.2.2.2.2 pic 10 = .int (zi (vvo 6)) := hvvo (0, 10, 6) (by decide)
  have rrgho : 1 ≤ vvo 6 ∧ vvo 6 ≤ 2 := hrro (6, 1, 2) (by decide)
  have exgvo : h.2.2.2.2 pic 11 = .int (zi (vvo 7)) := hvvo (0, 11, 7) (by decide)
  have rrgvo : 1 ≤ vvo 7 ∧ vvo 7 ≤ 2 := hrro (7, 1, 2) (by decide)
  have exhb0o : h.2.2.2.2 b0 1 = .int (zi (vvo 8)) := hvvo (1, 1, 8) (by decide)
  have rrhb0o : (-1) ≤ vvo 8 ∧ vvo 8 ≤ 15 := hrro (8, (-1), 15) (by decide)
  have exvb0o : h.2.2.2.2 b0 2 = .int (zi (vvo 9)) := hvvo (1, 2, 9) (by decide)
  have rrvb0o : 0 ≤ vvo 9 ∧ vvo 9 ≤ 15 := hrro (9, 0, 15) (by decide)
  have extq0o : h.2.2.2.2 b0 3 = .int (zi (vvo 10)) := hvvo (1, 3, 10) (by decide)
  have rrtq0o : (-1) ≤ vvo 10 ∧ vvo 10 ≤ 255 := hrro (10, (-1), 255) (by decide)
  have exC0o : h.2.2.2.2 b0 4 = .int (zi (vvo 11)) := hvvo (1, 4, 11) (by decide)
  have rrC0o : 0 ≤ vvo 11 ∧ vvo 11 ≤ 16 := hrro (11, 0, 16) (by decide)
  have exR0o : h.2.2.2.2 b0 5 = .int (zi (vvo 12)) := hvvo (1, 5, 12) (by decide)
  have rrR0o : 0 ≤ vvo 12 ∧ vvo 12 ≤ 16 := hrro (12, 0, 16) (by decide)
  have exoc0o : h.2.2.2.2 b0 6 = .int (zi (vvo 13)) := hvvo (1, 6, 13) (by decide)
  have rroc0o : 0 ≤ vvo 13 ∧ vvo 13 ≤ 16 := hrro (13, 0, 16) (by decide)
  have exor0o : h.2.2.2.2 b0 7 = .int (zi (vvo 14)) := hvvo (1, 7, 14) (by decide)
  have rror0o : 0 ≤ vvo 14 ∧ vvo 14 ≤ 16 := hrro (14, 0, 16) (by decide)
  have exf0o : h.2.2.2.2 b0 8 = .int (zi (vvo 15)) := hvvo (1, 8, 15) (by decide)
  have rrf0o : 0 ≤ vvo 15 ∧ vvo 15 ≤ 192 := hrro (15, 0, 192) (by decide)
  have exhb1o : h.2.2.2.2 b1 1 = .int (zi (vvo 16)) := hvvo (2, 1, 16) (by decide)
  have rrhb1o : (-1) ≤ vvo 16 ∧ vvo 16 ≤ 15 := hrro (16, (-1), 15) (by decide)
  have exvb1o : h.2.2.2.2 b1 2 = .int (zi (vvo 17)) := hvvo (2, 2, 17) (by decide)
  have rrvb1o : 0 ≤ vvo 17 ∧ vvo 17 ≤ 15 := hrro (17, 0, 15) (by decide)
  have extq1o : h.2.2.2.2 b1 3 = .int (zi (vvo 18)) := hvvo (2, 3, 18) (by decide)
  have rrtq1o : (-1) ≤ vvo 18 ∧ vvo 18 ≤ 255 := hrro (18, (-1), 255) (by decide)
  have exC1o : h.2.2.2.2 b1 4 = .int (zi (vvo 19)) := hvvo (2, 4, 19) (by decide)
  have rrC1o : 0 ≤ vvo 19 ∧ vvo 19 ≤ 16 := hrro (19, 0, 16) (by decide)
  have exR1o : h.2.2.2.2 b1 5 = .int (zi (vvo 20)) := hvvo (2, 5, 20) (by decide)
  have rrR1o : 0 ≤ vvo 20 ∧ vvo 20 ≤ 16 := hrro (20, 0, 16) (by decide)
  have exoc1o : h.2.2.2.2 b1 6 = .int (zi (vvo 21)) := hvvo (2, 6, 21) (by decide)
  have rroc1o : 0 ≤ vvo 21 ∧ vvo 21 ≤ 16 := hrro (21, 0, 16) (by decide)
  have exor1o : h.2.2.2.2 b1 7 = .int (zi (vvo 22)) := hvvo (2, 7, 22) (by decide)
  have rror1o : 0 ≤ vvo 22 ∧ vvo 22 ≤ 16 := hrro (22, 0, 16) (by decide)
  have exf1o : h.2.2.2.2 b1 8 = .int (zi (vvo 23)) := hvvo (2, 8, 23) (by decide)
  have rrf1o : 0 ≤ vvo 23 ∧ vvo 23 ≤ 192 := hrro (23, 0, 192) (by decide)
  have exhb2o : h.2.2.2.2 b2 1 = .int (zi (vvo 24)) := hvvo (3, 1, 24) (by decide)
  have rrhb2o : (-1) ≤ vvo 24 ∧ vvo 24 ≤ 15 := hrro (24, (-1), 15) (by decide)
  have exvb2o : h.2.2.2.2 b2 2 = .int (zi (vvo 25)) := hvvo (3, 2, 25) (by decide)
  have rrvb2o : 0 ≤ vvo 25 ∧ vvo 25 ≤ 15 := hrro (25, 0, 15) (by decide)
  have extq2o : h.2.2.2.2 b2 3 = .int (zi (vvo 26)) := hvvo (3, 3, 26) (by decide)
  have rrtq2o : (-1) ≤ vvo 26 ∧ vvo 26 ≤ 255 := hrro (26, (-1), 255) (by decide)
  have exC2o : h.2.2.2.2 b2 4 = .int (zi (vvo 27)) := hvvo (3, 4, 27) (by decide)
  have rrC2o : 0 ≤ vvo 27 ∧ vvo 27 ≤ 16 := hrro (27, 0, 16) (by decide)
  have exR2o : h.2.2.2.2 b2 5 = .int (zi (vvo 28)) := hvvo (3, 5, 28) (by decide)
  have rrR2o : 0 ≤ vvo 28 ∧ vvo 28 ≤ 16 := hrro (28, 0, 16) (by decide)
  have exoc2o : h.2.2.2.2 b2 6 = .int (zi (vvo 29)) := hvvo (3, 6, 29) (by decide)
  have rroc2o : 0 ≤ vvo 29 ∧ vvo 29 ≤ 16 := hrro (29, 0, 16) (by decide)
  have exor2o : h.2.2.2.2 b2 7 = .int (zi (vvo 30)) := hvvo (3, 7, 30) (by decide)
  have rror2o : 0 ≤ vvo 30 ∧ vvo 30 ≤ 16 := hrro (30, 0, 16) (by decide)
  have exf2o : h.2.2.2.2 b2 8 = .int (zi (vvo 31)) := hvvo (3, 8, 31) (by decide)
  have rrf2o : 0 ≤ vvo 31 ∧ vvo 31 ≤ 192 := hrro (31, 0, 192) (by decide)
  refine gz_s 1 (pc' := 1) (L' := [some (.ref x), some (.int (zi a)), some (.int (zi b))]) (S' := [.int (zi a)]) rfl ?_
  by_cases hc2 : (a : Int) < 0
  · refine gy_ifT (pc' := 25) rfl (by decide) (by decide) (by omega) hc2 ?_
    have hix3 : gIx ty x ld (h.2.2.2.1 bt : Int) iv h := ⟨pic, b0, b1, b2, dr, sk, bt, n0, c0, ⟨tx, tdr, tsk, tbt⟩, ⟨ex2, ex3, ex4, ex0⟩, hpc, htc, ⟨en0, by omega, by omega⟩, ⟨eiv, by omega, by omega⟩, ⟨ec0, by omega, by omega⟩, ⟨by omega, by omega⟩, hrr, hrw⟩
    have G4 : gSg [] [] [] ty h ty h := gSg.ss G0 hS (by decide)
    exact gz_end (I := .new 108) (len := 3) rfl (Or.inr (by decide)) ⟨ty, G4, ld, (h.2.2.2.1 bt : Int), iv, (by omega), (by omega), (by omega), (by omega), (by omega), (by omega), hix3, Or.inr ⟨rfl, rfl, (by omega), (by dsimp only; omega), (by dsimp only; omega), (by omega), (by omega)⟩⟩
  · refine gy_ifF rfl (by decide) (by decide) (by omega) hc2 ?_
    refine gz_s 2 (pc' := 6) (L' := [some (.ref x), some (.int (zi a)), some (.int (zi b))]) (S' := [.ref x, .int (zi a)]) rfl ?_
    refine gs_gtk rfl (by decide) rfl hS.1 tx rfl rfl ex2 ?_
    refine gs_gtk rfl (by decide) rfl hS.1 tpic rfl rfl exblo ?_
    by_cases hc5 : (vvo 3 : Int) ≤ a
    · refine gy_icT (pc' := 25) rfl (by decide) (by decide) (by omega) (by omega) hc5 ?_
      have hix6 : gIx ty x ld (h.2.2.2.1 bt : Int) iv h := ⟨pic, b0, b1, b2, dr, sk, bt, n0, c0, ⟨tx, tdr, tsk, tbt⟩, ⟨ex2, ex3, ex4, ex0⟩, hpc, htc, ⟨en0, by omega, by omega⟩, ⟨eiv, by omega, by omega⟩, ⟨ec0, by omega, by omega⟩, ⟨by omega, by omega⟩, hrr, hrw⟩
      have G7 : gSg [] [] [] ty h ty h := gSg.ss G0 hS (by decide)
      exact gz_end (I := .new 108) (len := 3) rfl (Or.inr (by decide)) ⟨ty, G7, ld, (h.2.2.2.1 bt : Int), iv, (by omega), (by omega), (by omega), (by omega), (by omega), (by omega), hix6, Or.inr ⟨rfl, rfl, (by omega), (by dsimp only; omega), (by dsimp only; omega), (by omega), (by omega)⟩⟩
    · refine gy_icF rfl (by decide) (by decide) (by omega) (by omega) hc5 ?_
      refine gz_s 1 (pc' := 16) (L' := [some (.ref x), some (.int (zi a)), some (.int (zi b))]) (S' := [.int (zi b)]) rfl ?_
      by_cases hc8 : (b : Int) < 0
      · refine gy_ifT (pc' := 25) rfl (by decide) (by decide) (by omega) hc8 ?_
        have hix9 : gIx ty x ld (h.2.2.2.1 bt : Int) iv h := ⟨pic, b0, b1, b2, dr, sk, bt, n0, c0, ⟨tx, tdr, tsk, tbt⟩, ⟨ex2, ex3, ex4, ex0⟩, hpc, htc, ⟨en0, by omega, by omega⟩, ⟨eiv, by omega, by omega⟩, ⟨ec0, by omega, by omega⟩, ⟨by omega, by omega⟩, hrr, hrw⟩
        have G10 : gSg [] [] [] ty h ty h := gSg.ss G0 hS (by decide)
        exact gz_end (I := .new 108) (len := 3) rfl (Or.inr (by decide)) ⟨ty, G10, ld, (h.2.2.2.1 bt : Int), iv, (by omega), (by omega), (by omega), (by omega), (by omega), (by omega), hix9, Or.inr ⟨rfl, rfl, (by omega), (by dsimp only; omega), (by dsimp only; omega), (by omega), (by omega)⟩⟩
      · refine gy_ifF rfl (by decide) (by decide) (by omega) hc8 ?_
        refine gz_s 2 (pc' := 22) (L' := [some (.ref x), some (.int (zi a)), some (.int (zi b))]) (S' := [.int (zi 63), .int (zi b)]) rfl ?_
        by_cases hc11 : (b : Int) ≤ 63
        · refine gy_icT (pc' := 35) rfl (by decide) (by decide) (by omega) (by omega) hc11 ?_
          refine gz_s 1 (pc' := 36) (L' := [some (.ref x), some (.int (zi a)), some (.int (zi b))]) (S' := [.ref x]) rfl ?_
          refine gs_gtk rfl (by decide) rfl hS.1 tx rfl rfl ex2 ?_
          refine gy_s 6 (pc' := 46) (L' := [some (.ref x), some (.int (zi a)), some (.int (zi b))]) (S' := [.int (zi 3), .int (zi b), .int ((zi b) &&& (zi 7)), .int (zi a), .ref pic]) (L2 := [some (.ref x), some (.int (zi a)), some (.int (zi b))]) (S2 := [.int (zi 3), .int (zi b), .int (zi (b % 8)), .int (zi a), .ref pic]) rfl (by simp only [zi_add, zi_sub, zi_mul, zi_neg, zi_and1, zi_and7, zi_and15, zi_and31, zi_and255]) (by simp only [zi_add, zi_sub, zi_mul, zi_neg, zi_and1, zi_and7, zi_and15, zi_and31, zi_and255]) ?_
          refine gy_shc (n := 3) (v := 8) rfl (by decide) (by omega) (by decide) (by decide) rfl ?_
          have hl12 : h.2.2.2.1 coo = h.2.2.2.1 coo := congrFun hS.2.2.2.2.1 coo
          refine gz_call rfl (by decide) rfl (by decide) (by decide) (gcal_of rfl rfl rfl (Nat.le_of_ble_eq_true rfl) (gJ.recv (G := gGG) hS.1 tpic rfl rfl)) (cl_Picture_exactAt _ hS.1 pic tpic a (by omega) (b % 8) (by omega) (b / 8) (by omega) bno er0o tbno b0 er1o tb0 b1 er2o tb1 b2 er3o tb2 coo er4o tcoo (gSta.fr hS.2 (by decide) hyst) (vvo 0) excno (by omega) (vvo 10) extq0o (by omega) (vvo 18) extq1o (by omega) (vvo 26) extq2o (by omega) (by omega) (by omega) (by omega) (by omega) uq) (fun q13 _ wq13 => ?_)
          obtain ⟨pq13, oq13, hq13⟩ := q13
          obtain ⟨xq13, zq13, gq13, aq13, bq13⟩ := wq13
          refine ⟨_, gq13, ?_⟩
          show gz gPP gGG gcn _ _ 50 [some (.ref x), some (.int (zi a)), some (.int (zi b))] [.long (zl zq13)] hq13 _
          have sq13 : gSs rT 1027 ty [] h hq13 := gSs.tr hS xq13 (by decide)
          have s14 := (xq13.2.2.2.2.2 x 2 (by rw [tx]; decide)).trans ex2
          have s15 := (xq13.2.2.2.2.2 x 3 (by rw [tx]; decide)).trans ex3
          have s16 := (xq13.2.2.2.2.2 x 4 (by rw [tx]; decide)).trans ex4
          have s17 := (xq13.2.2.2.2.2 sk 0 (by rw [tsk]; decide)).trans ex0
          have s18 := (xq13.2.2.2.2.2 dr 8 (by rw [tdr]; decide)).trans en0
          have s19 := (xq13.2.2.2.2.2 dr 3 (by rw [tdr]; decide)).trans eiv
          have s20 := (xq13.2.2.2.2.2 sk 1 (by rw [tsk]; decide)).trans ec0
          have s21 := (xq13.2.2.2.2.2 pic 0 (by rw [tpic]; decide)).trans er0o
          have s22 := (xq13.2.2.2.2.2 bno 0 (by rw [tbno]; decide)).trans er1o
          have s23 := (xq13.2.2.2.2.2 bno 1 (by rw [tbno]; decide)).trans er2o
          have s24 := (xq13.2.2.2.2.2 bno 2 (by rw [tbno]; decide)).trans er3o
          have s25 := (xq13.2.2.2.2.2 pic 2 (by rw [tpic]; decide)).trans er4o
          have s26 := (xq13.2.2.2.2.2 pic 3 (by rw [tpic]; decide)).trans er5o
          have s27 := (xq13.2.2.2.2.2 pic 7 (by rw [tpic]; decide)).trans excno
          have s28 := (xq13.2.2.2.2.2 pic 12 (by rw [tpic]; decide)).trans exuco
          have s29 := (xq13.2.2.2.2.2 pic 13 (by rw [tpic]; decide)).trans exuro
          have s30 := (xq13.2.2.2.2.2 pic 8 (by rw [tpic]; decide)).trans exblo
          have s31 := (xq13.2.2.2.2.2 pic 5 (by rw [tpic]; decide)).trans exwo
          have s32 := (xq13.2.2.2.2.2 pic 6 (by rw [tpic]; decide)).trans exhho
          have s33 := (xq13.2.2.2.2.2 pic 10 (by rw [tpic]; decide)).trans exgho
          have s34 := (xq13.2.2.2.2.2 pic 11 (by rw [tpic]; decide)).trans exgvo
          have s35 := (xq13.2.2.2.2.2 b0 1 (by rw [tb0]; decide)).trans exhb0o
          have s36 := (xq13.2.2.2.2.2 b0 2 (by rw [tb0]; decide)).trans exvb0o
          have s37 := (xq13.2.2.2.2.2 b0 3 (by rw [tb0]; decide)).trans extq0o
          have s38 := (xq13.2.2.2.2.2 b0 4 (by rw [tb0]; decide)).trans exC0o
          have s39 := (xq13.2.2.2.2.2 b0 5 (by rw [tb0]; decide)).trans exR0o
          have s40 := (xq13.2.2.2.2.2 b0 6 (by rw [tb0]; decide)).trans exoc0o
          have s41 := (xq13.2.2.2.2.2 b0 7 (by rw [tb0]; decide)).trans exor0o
          have s42 := (xq13.2.2.2.2.2 b0 8 (by rw [tb0]; decide)).trans exf0o
          have s43 := (xq13.2.2.2.2.2 b1 1 (by rw [tb1]; decide)).trans exhb1o
          have s44 := (xq13.2.2.2.2.2 b1 2 (by rw [tb1]; decide)).trans exvb1o
          have s45 := (xq13.2.2.2.2.2 b1 3 (by rw [tb1]; decide)).trans extq1o
          have s46 := (xq13.2.2.2.2.2 b1 4 (by rw [tb1]; decide)).trans exC1o
          have s47 := (xq13.2.2.2.2.2 b1 5 (by rw [tb1]; decide)).trans exR1o
          have s48 := (xq13.2.2.2.2.2 b1 6 (by rw [tb1]; decide)).trans exoc1o
          have s49 := (xq13.2.2.2.2.2 b1 7 (by rw [tb1]; decide)).trans exor1o
          have s50 := (xq13.2.2.2.2.2 b1 8 (by rw [tb1]; decide)).trans exf1o
          have s51 := (xq13.2.2.2.2.2 b2 1 (by rw [tb2]; decide)).trans exhb2o
          have s52 := (xq13.2.2.2.2.2 b2 2 (by rw [tb2]; decide)).trans exvb2o
          have s53 := (xq13.2.2.2.2.2 b2 3 (by rw [tb2]; decide)).trans extq2o
          have s54 := (xq13.2.2.2.2.2 b2 4 (by rw [tb2]; decide)).trans exC2o
          have s55 := (xq13.2.2.2.2.2 b2 5 (by rw [tb2]; decide)).trans exR2o
          have s56 := (xq13.2.2.2.2.2 b2 6 (by rw [tb2]; decide)).trans exoc2o
          have s57 := (xq13.2.2.2.2.2 b2 7 (by rw [tb2]; decide)).trans exor2o
          have s58 := (xq13.2.2.2.2.2 b2 8 (by rw [tb2]; decide)).trans exf2o
          have pr59 := gPC.fr xq13.2 (by decide) hpc
          have pr60 := gTc.fr xq13.2 (by decide) htc
          have pr61 := gRr.fr xq13.2 (by decide) hrr
          have pr62 := gRw.fr xq13.2 (by decide) hrw
          have k63 := sq13.2.1
          have k63b := sq13.2.2.1
          have hl64 : hq13.2.2.2.1 bt = h.2.2.2.1 bt := congrFun sq13.2.2.2.2.1 bt
          have hl65 : hq13.2.2.2.1 coo = h.2.2.2.1 coo := congrFun sq13.2.2.2.2.1 coo
          have hl66 : hq13.2.2.2.1 dmo = h.2.2.2.1 dmo := congrFun sq13.2.2.2.2.1 dmo
          have k67 := sq13.2.1
          have k67b := sq13.2.2.1
          have hl68 : hq13.2.2.2.1 bt = h.2.2.2.1 bt := congrFun sq13.2.2.2.2.1 bt
          have hl69 : hq13.2.2.2.1 coo = h.2.2.2.1 coo := congrFun sq13.2.2.2.2.1 coo
          have hl70 : hq13.2.2.2.1 dmo = h.2.2.2.1 dmo := congrFun sq13.2.2.2.2.1 dmo
          have hix71 : gIx ty x ld (hq13.2.2.2.1 bt : Int) iv hq13 := ⟨pic, b0, b1, b2, dr, sk, bt, n0, c0, ⟨tx, tdr, tsk, tbt⟩, ⟨s14, s15, s16, s17⟩, pr59, pr60, ⟨s18, by omega, by omega⟩, ⟨s19, by omega, by omega⟩, ⟨s20, by omega, by omega⟩, ⟨by omega, by omega⟩, pr61, pr62⟩
          have G72 : gSg [] [] [] ty h ty hq13 := gSg.ss G0 sq13 (by decide)
          exact gz_end (I := .lreturn) (len := 1) rfl (Or.inl rfl) ⟨ty, G72, ld, (hq13.2.2.2.1 bt : Int), iv, (by omega), (by omega), (by omega), (by omega), (by omega), (by omega), hix71, Or.inl ⟨zq13, rfl, (by omega), (by omega), (by omega), (by dsimp only; omega), (by dsimp only; omega), (by omega), (by omega)⟩⟩
        · refine gy_icF rfl (by decide) (by decide) (by omega) (by omega) hc11 ?_
          have hix73 : gIx ty x ld (h.2.2.2.1 bt : Int) iv h := ⟨pic, b0, b1, b2, dr, sk, bt, n0, c0, ⟨tx, tdr, tsk, tbt⟩, ⟨ex2, ex3, ex4, ex0⟩, hpc, htc, ⟨en0, by omega, by omega⟩, ⟨eiv, by omega, by omega⟩, ⟨ec0, by omega, by omega⟩, ⟨by omega, by omega⟩, hrr, hrw⟩
          have G74 : gSg [] [] [] ty h ty h := gSg.ss G0 hS (by decide)
          exact gz_end (I := .new 108) (len := 3) rfl (Or.inr (by decide)) ⟨ty, G74, ld, (h.2.2.2.1 bt : Int), iv, (by omega), (by omega), (by omega), (by omega), (by omega), (by omega), hix73, Or.inr ⟨rfl, rfl, (by omega), (by dsimp only; omega), (by dsimp only; omega), (by omega), (by omega)⟩⟩
set_option maxRecDepth 20000 in
set_option maxHeartbeats 4000000 in
theorem cl_DctFilter_told (d : Nat) {ty : Nat → Nat} {h : gH} (hJ : gJ rT 1027 ty h) (x : Nat) (tx : ty x = 50) (a : Int) (ra : (-2147483648) ≤ a ∧ a ≤ 2147483647) (b : Int) (rb : (-2147483648) ≤ b ∧ b ≤ 2147483647) (ld : Int) (rld : 0 ≤ ld ∧ ld ≤ 192) (lb : Int) (rlb : 1024 ≤ lb ∧ lb ≤ 1000000) (iv : Int) (riv : 0 ≤ iv ∧ iv ≤ 100) (uq : gUq ty) (hyix : gIx ty x ld lb iv h) : gz gPP gGG gcn (d + 2) gt81 0 (gent [.ref x, .int (zi a), .int (zi b)] 4) [] h (fun q _ => ∃ ty9 : Nat → Nat, gSg [] [] [] ty h ty9 q.2.2 ∧ ∃ ld1 lb1 iv1 : Int, 0 ≤ ld1 ∧ ld1 ≤ 192 ∧ 1024 ≤ lb1 ∧ lb1 ≤ 1000000 ∧ 0 ≤ iv1 ∧ iv1 ≤ 100 ∧ (gIx ty9 x ld1 lb1 iv1 q.2.2) ∧ ((∃ z : Int, gfin gt81 q.1 q.2.1 = some (some (.int (zi z))) ∧ (-2147483648) ≤ z ∧ z ≤ 2147483647 ∧ (iv1 = iv) ∧ (1024 * (((q.2.2.1 : Int) - h.1) - 31 - 2 * (ld1 - ld)) ≤ lb1 - lb) ∧ (((q.2.2.2.1 : Int) - h.2.1) ≤ 4303 + 12480 * (ld1 - ld) + 2 * (lb1 - lb)) ∧ (ld ≤ ld1) ∧ (lb ≤ lb1)) ∨ (q.2.1 = [] ∧ ((q.1 = 36)) ∧ (iv1 = iv) ∧ (1024 * (((q.2.2.1 : Int) - h.1) - 31 - 2 * (ld1 - ld)) ≤ lb1 - lb) ∧ (((q.2.2.2.1 : Int) - h.2.1) ≤ 4303 + 12480 * (ld1 - ld) + 2 * (lb1 - lb)) ∧ (ld ≤ ld1) ∧ (lb ≤ lb1)))) := by
  have hS : gSs rT 1027 ty [] h h := gSs.rf hJ
  have G0 : gSg [] [] [] ty h ty h := gSg.rf hJ (fun x hx => by cases hx)
  obtain ⟨pic, b0, b1, b2, dr, sk, bt, n0, c0, ⟨_, tdr, tsk, tbt⟩, ⟨ex2, ex3, ex4, ex0⟩, hpc, htc, ⟨en0, rn0⟩, ⟨eiv, riv⟩, ⟨ec0, rc0⟩, ⟨lc0, llb⟩, hrr, hrw⟩ := hyix
  have tpic := hpc.1.1
  have tb0 := hpc.1.2.1
  have tb1 := hpc.1.2.2.1
  have tb2 := hpc.1.2.2.2
  have hpq1 := hpc
  obtain ⟨_, bno, coo, dmo, vvo, ⟨tbno, tcoo, tdmo⟩, ⟨er0o, er1o, er2o, er3o, er4o, er5o⟩, hvvo, hrro, ⟨yy0o, yy1o, yy2o, yy3o, yy4o, yy5o, yy6o, yy7o⟩, ll0o, ll1o, ll2o, ll3o⟩ := hpq1
  have excno : h.2.2.2.2 pic 7 = .int (zi (vvo 0)) := hvvo (0, 7, 0) (by decide)
  have rrcno : 0 ≤ vvo 0 ∧ vvo 0 ≤ 3 := hrro (0, 0, 3) (by decide)
  have exuco : h.2.2.2.2 pic 12 = .int (zi (vvo 1)) := hvvo (0, 12, 1) (by decide)
  have rruco : 0 ≤ vvo 1 ∧ vvo 1 ≤ 8 := hrro (1, 0, 8) (by decide)
  have exuro : h.2.2.2.2 pic 13 = .int (zi (vvo 2)) := hvvo (0, 13, 2) (by decide)
  have rruro : 0 ≤ vvo 2 ∧ vvo 2 ≤ 8 := hrro (2, 0, 8) (by decide)
  have exblo : h.2.2.2.2 pic 8 = .int (zi (vvo 3)) := hvvo (0, 8, 3) (by decide)
  have rrblo : 0 ≤ vvo 3 ∧ vvo 3 ≤ 192 := hrro (3, 0, 192) (by decide)
  have exwo : h.2.2.2.2 pic 5 = .int (zi (vvo 4)) := hvvo (0, 5, 4) (by decide)
  have rrwo : 0 ≤ vvo 4 ∧ vvo 4 ≤ 64 := hrro (4, 0, 64) (by decide)
  have exhho : h.2.2.2.2 pic 6 = .int (zi (vvo 5)) := hvvo (0, 6, 5) (by decide)
  have rrhho : 0 ≤ vvo 5 ∧ vvo 5 ≤ 64 := hrro (5, 0, 64) (by decide)
  have exgho : h.2.2.2.2 pic 10 = .int (zi (vvo 6)) := hvvo (0, 10, 6) (by decide)
  have rrgho : 1 ≤ vvo 6 ∧ vvo 6 ≤ 2 := hrro (6, 1, 2) (by decide)
  have exgvo : h.2.2.2.2 pic 11 = .int (zi (vvo 7)) := hvvo (0, 11, 7) (by decide)
  have rrgvo : 1 ≤ vvo 7 ∧ vvo 7 ≤ 2 := hrro (7, 1, 2) (by decide)
  have exhb0o : h.2.2.2.2 b0 1 = .int (zi (vvo 8)) := hvvo (1, 1, 8) (by decide)
  have rrhb0o : (-1) ≤ vvo 8 ∧ vvo 8 ≤ 15 := hrro (8, (-1), 15) (by decide)
  have exvb0o : h.2.2.2.2 b0 2 = .int (zi (vvo 9)) := hvvo (1, 2, 9) (by decide)
  have rrvb0o : 0 ≤ vvo 9 ∧ vvo 9 ≤ 15 := hrro (9, 0, 15) (by decide)
  have extq0o : h.2.2.2.2 b0 3 = .int (zi (vvo 10)) := hvvo (1, 3, 10) (by decide)
  have rrtq0o : (-1) ≤ vvo 10 ∧ vvo 10 ≤ 255 := hrro (10, (-1), 255) (by decide)
  have exC0o : h.2.2.2.2 b0 4 = .int (zi (vvo 11)) := hvvo (1, 4, 11) (by decide)
  have rrC0o : 0 ≤ vvo 11 ∧ vvo 11 ≤ 16 := hrro (11, 0, 16) (by decide)
  have exR0o : h.2.2.2.2 b0 5 = .int (zi (vvo 12)) := hvvo (1, 5, 12) (by decide)
  have rrR0o : 0 ≤ vvo 12 ∧ vvo 12 ≤ 16 := hrro (12, 0, 16) (by decide)
  have exoc0o : h.2.2.2.2 b0 6 = .int (zi (vvo 13)) := hvvo (1, 6, 13) (by decide)
  have rroc0o : 0 ≤ vvo 13 ∧ vvo 13 ≤ 16 := hrro (13, 0, 16) (by decide)
  have exor0o : h.2.2.2.2 b0 7 = .int (zi (vvo 14)) := hvvo (1, 7, 14) (by decide)
  have rror0o : 0 ≤ vvo 14 ∧ vvo 14 ≤ 16 := hrro (14, 0, 16) (by decide)
  have exf0o : h.2.2.2.2 b0 8 = .int (zi (vvo 15)) := hvvo (1, 8, 15) (by decide)
  have rrf0o : 0 ≤ vvo 15 ∧ vvo 15 ≤ 192 := hrro (15, 0, 192) (by decide)
  have exhb1o : h.2.2.2.2 b1 1 = .int (zi (vvo 16)) := hvvo (2, 1, 16) (by decide)
  have rrhb1o : (-1) ≤ vvo 16 ∧ vvo 16 ≤ 15 := hrro (16, (-1), 15) (by decide)
  have exvb1o : h.2.2.2.2 b1 2 = .int (zi (vvo 17)) := hvvo (2, 2, 17) (by decide)
  have rrvb1o : 0 ≤ vvo 17 ∧ vvo 17 ≤ 15 := hrro (17, 0, 15) (by decide)
  have extq1o : h.2.2.2.2 b1 3 = .int (zi (vvo 18)) := hvvo (2, 3, 18) (by decide)
  have rrtq1o : (-1) ≤ vvo 18 ∧ vvo 18 ≤ 255 := hrro (18, (-1), 255) (by decide)
  have exC1o : h.2.2.2.2 b1 4 = .int (zi (vvo 19)) := hvvo (2, 4, 19) (by decide)
  have rrC1o : 0 ≤ vvo 19 ∧ vvo 19 ≤ 16 := hrro (19, 0, 16) (by decide)
  have exR1o : h.2.2.2.2 b1 5 = .int (zi (vvo 20)) := hvvo (2, 5, 20) (by decide)
  have rrR1o : 0 ≤ vvo 20 ∧ vvo 20 ≤ 16 := hrro (20, 0, 16) (by decide)
  have exoc1o : h.2.2.2.2 b1 6 = .int (zi (vvo 21)) := hvvo (2, 6, 21) (by decide)
  have rroc1o : 0 ≤ vvo 21 ∧ vvo 21 ≤ 16 := hrro (21, 0, 16) (by decide)
  have exor1o : h.2.2.2.2 b1 7 = .int (zi (vvo 22)) := hvvo (2, 7, 22) (by decide)
  have rror1o : 0 ≤ vvo 22 ∧ vvo 22 ≤ 16 := hrro (22, 0, 16) (by decide)
  have exf1o : h.2.2.2.2 b1 8 = .int (zi (vvo 23)) := hvvo (2, 8, 23) (by decide)
  have rrf1o : 0 ≤ vvo 23 ∧ vvo 23 ≤ 192 := hrro (23, 0, 192) (by decide)
  have exhb2o : h.2.2.2.2 b2 1 = .int (zi (vvo 24)) := hvvo (3, 1, 24) (by decide)
  have rrhb2o : (-1) ≤ vvo 24 ∧ vvo 24 ≤ 15 := hrro (24, (-1), 15) (by decide)
  have exvb2o : h.2.2.2.2 b2 2 = .int (zi (vvo 25)) := hvvo (3, 2, 25) (by decide)
  have rrvb2o : 0 ≤ vvo 25 ∧ vvo 25 ≤ 15 := hrro (25, 0, 15) (by decide)
  have extq2o : h.2.2.2.2 b2 3 = .int (zi (vvo 26)) := hvvo (3, 3, 26) (by decide)
  have rrtq2o : (-1) ≤ vvo 26 ∧ vvo 26 ≤ 255 := hrro (26, (-1), 255) (by decide)
  have exC2o : h.2.2.2.2 b2 4 = .int (zi (vvo 27)) := hvvo (3, 4, 27) (by decide)
  have rrC2o : 0 ≤ vvo 27 ∧ vvo 27 ≤ 16 := hrro (27, 0, 16) (by decide)
  have exR2o : h.2.2.2.2 b2 5 = .int (zi (vvo 28)) := hvvo (3, 5, 28) (by decide)
  have rrR2o : 0 ≤ vvo 28 ∧ vvo 28 ≤ 16 := hrro (28, 0, 16) (by decide)
  have exoc2o : h.2.2.2.2 b2 6 = .int (zi (vvo 29)) := hvvo (3, 6, 29) (by decide)
  have rroc2o : 0 ≤ vvo 29 ∧ vvo 29 ≤ 16 := hrro (29, 0, 16) (by decide)
  have exor2o : h.2.2.2.2 b2 7 = .int (zi (vvo 30)) := hvvo (3, 7, 30) (by decide)
  have rror2o : 0 ≤ vvo 30 ∧ vvo 30 ≤ 16 := hrro (30, 0, 16) (by decide)
  have exf2o : h.2.2.2.2 b2 8 = .int (zi (vvo 31)) := hvvo (3, 8, 31) (by decide)
  have rrf2o : 0 ≤ vvo 31 ∧ vvo 31 ≤ 192 := hrro (31, 0, 192) (by decide)
  refine gz_s 1 (pc' := 1) (L' := [some (.ref x), some (.int (zi a)), some (.int (zi b)), none]) (S' := [.int (zi a)]) rfl ?_
  have jn2 : ∀ (jn2v0 : Int), ((3 ≤ jn2v0) ∧ (jn2v0 ≤ 6) ∧ (a < 0 → jn2v0 = 6) ∧ (0 ≤ a → jn2v0 = 3)) → gz gPP gGG gcn (d + 2) gt81 10 [some (.ref x), some (.int (zi a)), some (.int (zi b)), none] [.int (zi jn2v0)] h (fun q _ => ∃ ty9 : Nat → Nat, gSg [] [] [] ty h ty9 q.2.2 ∧ ∃ ld1 lb1 iv1 : Int, 0 ≤ ld1 ∧ ld1 ≤ 192 ∧ 1024 ≤ lb1 ∧ lb1 ≤ 1000000 ∧ 0 ≤ iv1 ∧ iv1 ≤ 100 ∧ (gIx ty9 x ld1 lb1 iv1 q.2.2) ∧ ((∃ z : Int, gfin gt81 q.1 q.2.1 = some (some (.int (zi z))) ∧ (-2147483648) ≤ z ∧ z ≤ 2147483647 ∧ (iv1 = iv) ∧ (1024 * (((q.2.2.1 : Int) - h.1) - 31 - 2 * (ld1 - ld)) ≤ lb1 - lb) ∧ (((q.2.2.2.1 : Int) - h.2.1) ≤ 4303 + 12480 * (ld1 - ld) + 2 * (lb1 - lb)) ∧ (ld ≤ ld1) ∧ (lb ≤ lb1)) ∨ (q.2.1 = [] ∧ ((q.1 = 36)) ∧ (iv1 = iv) ∧ (1024 * (((q.2.2.1 : Int) - h.1) - 31 - 2 * (ld1 - ld)) ≤ lb1 - lb) ∧ (((q.2.2.2.1 : Int) - h.2.1) ≤ 4303 + 12480 * (ld1 - ld) + 2 * (lb1 - lb)) ∧ (ld ≤ ld1) ∧ (lb ≤ lb1)))) := by
    intro jn2v0 jn2d
    refine gz_s 3 (pc' := 13) (L' := [some (.ref x), some (.int (zi a)), some (.int (zi b)), some (.int (zi jn2v0))]) (S' := [.int (zi (-1)), .int (zi a)]) rfl ?_
    by_cases hc3 : (a : Int) < (-1)
    · refine gy_icT (pc' := 36) rfl (by decide) (by decide) (by omega) (by omega) hc3 ?_
      have hix4 : gIx ty x ld (h.2.2.2.1 bt : Int) iv h := ⟨pic, b0, b1, b2, dr, sk, bt, n0, c0, ⟨tx, tdr, tsk, tbt⟩, ⟨ex2, ex3, ex4, ex0⟩, hpc, htc, ⟨en0, by omega, by omega⟩, ⟨eiv, by omega, by omega⟩, ⟨ec0, by omega, by omega⟩, ⟨by omega, by omega⟩, hrr, hrw⟩
      have G5 : gSg [] [] [] ty h ty h := gSg.ss G0 hS (by decide)
      exact gz_end (I := .new 84) (len := 3) rfl (Or.inr (by decide)) ⟨ty, G5, ld, (h.2.2.2.1 bt : Int), iv, (by omega), (by omega), (by omega), (by omega), (by omega), (by omega), hix4, Or.inr ⟨rfl, rfl, (by omega), (by dsimp only; omega), (by dsimp only; omega), (by omega), (by omega)⟩⟩
    · refine gy_icF rfl (by decide) (by decide) (by omega) (by omega) hc3 ?_
      refine gz_s 2 (pc' := 18) (L' := [some (.ref x), some (.int (zi a)), some (.int (zi b)), some (.int (zi jn2v0))]) (S' := [.ref x, .int (zi a)]) rfl ?_
      refine gs_gtk rfl (by decide) rfl hS.1 tx rfl rfl ex2 ?_
      refine gs_gtk rfl (by decide) rfl hS.1 tpic rfl rfl exblo ?_
      by_cases hc6 : (vvo 3 : Int) ≤ a
      · refine gy_icT (pc' := 36) rfl (by decide) (by decide) (by omega) (by omega) hc6 ?_
        have hix7 : gIx ty x ld (h.2.2.2.1 bt : Int) iv h := ⟨pic, b0, b1, b2, dr, sk, bt, n0, c0, ⟨tx, tdr, tsk, tbt⟩, ⟨ex2, ex3, ex4, ex0⟩, hpc, htc, ⟨en0, by omega, by omega⟩, ⟨eiv, by omega, by omega⟩, ⟨ec0, by omega, by omega⟩, ⟨by omega, by omega⟩, hrr, hrw⟩
        have G8 : gSg [] [] [] ty h ty h := gSg.ss G0 hS (by decide)
        exact gz_end (I := .new 84) (len := 3) rfl (Or.inr (by decide)) ⟨ty, G8, ld, (h.2.2.2.1 bt : Int), iv, (by omega), (by omega), (by omega), (by omega), (by omega), (by omega), hix7, Or.inr ⟨rfl, rfl, (by omega), (by dsimp only; omega), (by dsimp only; omega), (by omega), (by omega)⟩⟩
      · refine gy_icF rfl (by decide) (by decide) (by omega) (by omega) hc6 ?_
        refine gz_s 1 (pc' := 28) (L' := [some (.ref x), some (.int (zi a)), some (.int (zi b)), some (.int (zi jn2v0))]) (S' := [.int (zi b)]) rfl ?_
        by_cases hc9 : (b : Int) < 0
        · refine gy_ifT (pc' := 36) rfl (by decide) (by decide) (by omega) hc9 ?_
          have hix10 : gIx ty x ld (h.2.2.2.1 bt : Int) iv h := ⟨pic, b0, b1, b2, dr, sk, bt, n0, c0, ⟨tx, tdr, tsk, tbt⟩, ⟨ex2, ex3, ex4, ex0⟩, hpc, htc, ⟨en0, by omega, by omega⟩, ⟨eiv, by omega, by omega⟩, ⟨ec0, by omega, by omega⟩, ⟨by omega, by omega⟩, hrr, hrw⟩
          have G11 : gSg [] [] [] ty h ty h := gSg.ss G0 hS (by decide)
          exact gz_end (I := .new 84) (len := 3) rfl (Or.inr (by decide)) ⟨ty, G11, ld, (h.2.2.2.1 bt : Int), iv, (by omega), (by omega), (by omega), (by omega), (by omega), (by omega), hix10, Or.inr ⟨rfl, rfl, (by omega), (by dsimp only; omega), (by dsimp only; omega), (by omega), (by omega)⟩⟩
        · refine gy_ifF rfl (by decide) (by decide) (by omega) hc9 ?_
          refine gz_s 2 (pc' := 33) (L' := [some (.ref x), some (.int (zi a)), some (.int (zi b)), some (.int (zi jn2v0))]) (S' := [.int (zi jn2v0), .int (zi b)]) rfl ?_
          by_cases hc12 : (b : Int) ≤ jn2v0
          · refine gy_icT (pc' := 46) rfl (by decide) (by decide) (by omega) (by omega) hc12 ?_
            refine gz_s 1 (pc' := 47) (L' := [some (.ref x), some (.int (zi a)), some (.int (zi b)), some (.int (zi jn2v0))]) (S' := [.int (zi a)]) rfl ?_
            by_cases hc13 : (0 : Int) ≤ a
            · refine gy_ifT (pc' := 75) rfl (by decide) (by decide) (by omega) hc13 ?_
              refine gz_s 1 (pc' := 76) (L' := [some (.ref x), some (.int (zi a)), some (.int (zi b)), some (.int (zi jn2v0))]) (S' := [.ref x]) rfl ?_
              refine gs_gtk rfl (by decide) rfl hS.1 tx rfl rfl ex2 ?_
              refine gz_s 2 (pc' := 81) (L' := [some (.ref x), some (.int (zi a)), some (.int (zi b)), some (.int (zi jn2v0))]) (S' := [.int (zi b), .int (zi a), .ref pic]) rfl ?_
              have hl14 : h.2.2.2.1 dmo = h.2.2.2.1 dmo := congrFun hS.2.2.2.2.1 dmo
              refine gz_call rfl (by decide) rfl (by decide) (by decide) (gcal_of rfl rfl rfl (Nat.le_of_ble_eq_true rfl) (gJ.recv (G := gGG) hS.1 tpic rfl rfl)) (cl_Picture_toldOfBlock _ hS.1 pic tpic a (by omega) b (by omega) bno er0o tbno b0 er1o tb0 b1 er2o tb1 b2 er3o tb2 dmo er5o tdmo (vvo 0) excno (by omega) (vvo 3) exblo (by omega) (by omega) (by omega) uq) (fun q15 _ wq15 => ?_)
              obtain ⟨pq15, oq15, hq15⟩ := q15
              obtain ⟨xq15, zq15, gq15, aq15, bq15⟩ := wq15
              refine ⟨_, gq15, ?_⟩
              show gz gPP gGG gcn _ _ 84 [some (.ref x), some (.int (zi a)), some (.int (zi b)), some (.int (zi jn2v0))] [.int (zi zq15)] hq15 _
              have sq15 : gSs rT 1027 ty [] h hq15 := gSs.tr hS xq15 (by decide)
              have s16 := (xq15.2.2.2.2.2 x 2 (by rw [tx]; decide)).trans ex2
              have s17 := (xq15.2.2.2.2.2 x 3 (by rw [tx]; decide)).trans ex3
              have s18 := (xq15.2.2.2.2.2 x 4 (by rw [tx]; decide)).trans ex4
              have s19 := (xq15.2.2.2.2.2 sk 0 (by rw [tsk]; decide)).trans ex0
              have s20 := (xq15.2.2.2.2.2 dr 8 (by rw [tdr]; decide)).trans en0
              have s21 := (xq15.2.2.2.2.2 dr 3 (by rw [tdr]; decide)).trans eiv
              have s22 := (xq15.2.2.2.2.2 sk 1 (by rw [tsk]; decide)).trans ec0
              have s23 := (xq15.2.2.2.2.2 pic 0 (by rw [tpic]; decide)).trans er0o
              have s24 := (xq15.2.2.2.2.2 bno 0 (by rw [tbno]; decide)).trans er1o
              have s25 := (xq15.2.2.2.2.2 bno 1 (by rw [tbno]; decide)).trans er2o
              have s26 := (xq15.2.2.2.2.2 bno 2 (by rw [tbno]; decide)).trans er3o
              have s27 := (xq15.2.2.2.2.2 pic 2 (by rw [tpic]; decide)).trans er4o
              have s28 := (xq15.2.2.2.2.2 pic 3 (by rw [tpic]; decide)).trans er5o
              have s29 := (xq15.2.2.2.2.2 pic 7 (by rw [tpic]; decide)).trans excno
              have s30 := (xq15.2.2.2.2.2 pic 12 (by rw [tpic]; decide)).trans exuco
              have s31 := (xq15.2.2.2.2.2 pic 13 (by rw [tpic]; decide)).trans exuro
              have s32 := (xq15.2.2.2.2.2 pic 8 (by rw [tpic]; decide)).trans exblo
              have s33 := (xq15.2.2.2.2.2 pic 5 (by rw [tpic]; decide)).trans exwo
              have s34 := (xq15.2.2.2.2.2 pic 6 (by rw [tpic]; decide)).trans exhho
              have s35 := (xq15.2.2.2.2.2 pic 10 (by rw [tpic]; decide)).trans exgho
              have s36 := (xq15.2.2.2.2.2 pic 11 (by rw [tpic]; decide)).trans exgvo
              have s37 := (xq15.2.2.2.2.2 b0 1 (by rw [tb0]; decide)).trans exhb0o
              have s38 := (xq15.2.2.2.2.2 b0 2 (by rw [tb0]; decide)).trans exvb0o
              have s39 := (xq15.2.2.2.2.2 b0 3 (by rw [tb0]; decide)).trans extq0o
              have s40 := (xq15.2.2.2.2.2 b0 4 (by rw [tb0]; decide)).trans exC0o
              have s41 := (xq15.2.2.2.2.2 b0 5 (by rw [tb0]; decide)).trans exR0o
              have s42 := (xq15.2.2.2.2.2 b0 6 (by rw [tb0]; decide)).trans exoc0o
              have s43 := (xq15.2.2.2.2.2 b0 7 (by rw [tb0]; decide)).trans exor0o
              have s44 := (xq15.2.2.2.2.2 b0 8 (by rw [tb0]; decide)).trans exf0o
              have s45 := (xq15.2.2.2.2.2 b1 1 (by rw [tb1]; decide)).trans exhb1o
              have s46 := (xq15.2.2.2.2.2 b1 2 (by rw [tb1]; decide)).trans exvb1o
              have s47 := (xq15.2.2.2.2.2 b1 3 (by rw [tb1]; decide)).trans extq1o
              have s48 := (xq15.2.2.2.2.2 b1 4 (by rw [tb1]; decide)).trans exC1o
              have s49 := (xq15.2.2.2.2.2 b1 5 (by rw [tb1]; decide)).trans exR1o
              have s50 := (xq15.2.2.2.2.2 b1 6 (by rw [tb1]; decide)).trans exoc1o
              have s51 := (xq15.2.2.2.2.2 b1 7 (by rw [tb1]; decide)).trans exor1o
              have s52 := (xq15.2.2.2.2.2 b1 8 (by rw [tb1]; decide)).trans exf1o
              have s53 := (xq15.2.2.2.2.2 b2 1 (by rw [tb2]; decide)).trans exhb2o
              have s54 := (xq15.2.2.2.2.2 b2 2 (by rw [tb2]; decide)).trans exvb2o
              have s55 := (xq15.2.2.2.2.2 b2 3 (by rw [tb2]; decide)).trans extq2o
              have s56 := (xq15.2.2.2.2.2 b2 4 (by rw [tb2]; decide)).trans exC2o
              have s57 := (xq15.2.2.2.2.2 b2 5 (by rw [tb2]; decide)).trans exR2o
              have s58 := (xq15.2.2.2.2.2 b2 6 (by rw [tb2]; decide)).trans exoc2o
              have s59 := (xq15.2.2.2.2.2 b2 7 (by rw [tb2]; decide)).trans exor2o
              have s60 := (xq15.2.2.2.2.2 b2 8 (by rw [tb2]; decide)).trans exf2o
              have pr61 := gPC.fr xq15.2 (by decide) hpc
              have pr62 := gTc.fr xq15.2 (by decide) htc
              have pr63 := gRr.fr xq15.2 (by decide) hrr
              have pr64 := gRw.fr xq15.2 (by decide) hrw
              have k65 := sq15.2.1
              have k65b := sq15.2.2.1
              have hl66 : hq15.2.2.2.1 bt = h.2.2.2.1 bt := congrFun sq15.2.2.2.2.1 bt
              have hl67 : hq15.2.2.2.1 coo = h.2.2.2.1 coo := congrFun sq15.2.2.2.2.1 coo
              have hl68 : hq15.2.2.2.1 dmo = h.2.2.2.1 dmo := congrFun sq15.2.2.2.2.1 dmo
              have k69 := sq15.2.1
              have k69b := sq15.2.2.1
              have hl70 : hq15.2.2.2.1 bt = h.2.2.2.1 bt := congrFun sq15.2.2.2.2.1 bt
              have hl71 : hq15.2.2.2.1 coo = h.2.2.2.1 coo := congrFun sq15.2.2.2.2.1 coo
              have hl72 : hq15.2.2.2.1 dmo = h.2.2.2.1 dmo := congrFun sq15.2.2.2.2.1 dmo
              have hix73 : gIx ty x ld (hq15.2.2.2.1 bt : Int) iv hq15 := ⟨pic, b0, b1, b2, dr, sk, bt, n0, c0, ⟨tx, tdr, tsk, tbt⟩, ⟨s16, s17, s18, s19⟩, pr61, pr62, ⟨s20, by omega, by omega⟩, ⟨s21, by omega, by omega⟩, ⟨s22, by omega, by omega⟩, ⟨by omega, by omega⟩, pr63, pr64⟩
              have G74 : gSg [] [] [] ty h ty hq15 := gSg.ss G0 sq15 (by decide)
              exact gz_end (I := .ireturn) (len := 1) rfl (Or.inl rfl) ⟨ty, G74, ld, (hq15.2.2.2.1 bt : Int), iv, (by omega), (by omega), (by omega), (by omega), (by omega), (by omega), hix73, Or.inl ⟨zq15, rfl, (by omega), (by omega), (by omega), (by dsimp only; omega), (by dsimp only; omega), (by omega), (by omega)⟩⟩
            · refine gy_ifF rfl (by decide) (by decide) (by omega) hc13 ?_
              refine gz_s 2 (pc' := 53) (L' := [some (.ref x), some (.int (zi a)), some (.int (zi b)), some (.int (zi jn2v0))]) (S' := [.int (zi 6), .int (zi b)]) rfl ?_
              by_cases hc75 : ¬ (b : Int) = 6
              · refine gy_icT (pc' := 66) rfl (by decide) (by decide) (by omega) (by omega) hc75 ?_
                refine gz_s 1 (pc' := 67) (L' := [some (.ref x), some (.int (zi a)), some (.int (zi b)), some (.int (zi jn2v0))]) (S' := [.ref x]) rfl ?_
                refine gs_gtk rfl (by decide) rfl hS.1 tx rfl rfl ex2 ?_
                refine gz_s 1 (pc' := 71) (L' := [some (.ref x), some (.int (zi a)), some (.int (zi b)), some (.int (zi jn2v0))]) (S' := [.int (zi b), .ref pic]) rfl ?_
                have hl76 : h.2.2.2.1 dmo = h.2.2.2.1 dmo := congrFun hS.2.2.2.2.1 dmo
                refine gz_call rfl (by decide) rfl (by decide) (by decide) (gcal_of rfl rfl rfl (Nat.le_of_ble_eq_true rfl) (gJ.recv (G := gGG) hS.1 tpic rfl rfl)) (cl_Picture_toldOfAll _ hS.1 pic tpic b (by omega) dmo er5o tdmo (vvo 3) exblo (by omega) (by omega) uq) (fun q77 _ wq77 => ?_)
                obtain ⟨pq77, oq77, hq77⟩ := q77
                obtain ⟨xq77, zq77, gq77, aq77, bq77⟩ := wq77
                refine ⟨_, gq77, ?_⟩
                show gz gPP gGG gcn _ _ 74 [some (.ref x), some (.int (zi a)), some (.int (zi b)), some (.int (zi jn2v0))] [.int (zi zq77)] hq77 _
                have sq77 : gSs rT 1027 ty [] h hq77 := gSs.tr hS xq77 (by decide)
                have s78 := (xq77.2.2.2.2.2 x 2 (by rw [tx]; decide)).trans ex2
                have s79 := (xq77.2.2.2.2.2 x 3 (by rw [tx]; decide)).trans ex3
                have s80 := (xq77.2.2.2.2.2 x 4 (by rw [tx]; decide)).trans ex4
                have s81 := (xq77.2.2.2.2.2 sk 0 (by rw [tsk]; decide)).trans ex0
                have s82 := (xq77.2.2.2.2.2 dr 8 (by rw [tdr]; decide)).trans en0
                have s83 := (xq77.2.2.2.2.2 dr 3 (by rw [tdr]; decide)).trans eiv
                have s84 := (xq77.2.2.2.2.2 sk 1 (by rw [tsk]; decide)).trans ec0
                have s85 := (xq77.2.2.2.2.2 pic 0 (by rw [tpic]; decide)).trans er0o
                have s86 := (xq77.2.2.2.2.2 bno 0 (by rw [tbno]; decide)).trans er1o
                have s87 := (xq77.2.2.2.2.2 bno 1 (by rw [tbno]; decide)).trans er2o
                have s88 := (xq77.2.2.2.2.2 bno 2 (by rw [tbno]; decide)).trans er3o
                have s89 := (xq77.2.2.2.2.2 pic 2 (by rw [tpic]; decide)).trans er4o
                have s90 := (xq77.2.2.2.2.2 pic 3 (by rw [tpic]; decide)).trans er5o
                have s91 := (xq77.2.2.2.2.2 pic 7 (by rw [tpic]; decide)).trans excno
                have s92 := (xq77.2.2.2.2.2 pic 12 (by rw [tpic]; decide)).trans exuco
                have s93 := (xq77.2.2.2.2.2 pic 13 (by rw [tpic]; decide)).trans exuro
                have s94 := (xq77.2.2.2.2.2 pic 8 (by rw [tpic]; decide)).trans exblo
                have s95 := (xq77.2.2.2.2.2 pic 5 (by rw [tpic]; decide)).trans exwo
                have s96 := (xq77.2.2.2.2.2 pic 6 (by rw [tpic]; decide)).trans exhho
                have s97 := (xq77.2.2.2.2.2 pic 10 (by rw [tpic]; decide)).trans exgho
                have s98 := (xq77.2.2.2.2.2 pic 11 (by rw [tpic]; decide)).trans exgvo
                have s99 := (xq77.2.2.2.2.2 b0 1 (by rw [tb0]; decide)).trans exhb0o
                have s100 := (xq77.2.2.2.2.2 b0 2 (by rw [tb0]; decide)).trans exvb0o
                have s101 := (xq77.2.2.2.2.2 b0 3 (by rw [tb0]; decide)).trans extq0o
                have s102 := (xq77.2.2.2.2.2 b0 4 (by rw [tb0]; decide)).trans exC0o
                have s103 := (xq77.2.2.2.2.2 b0 5 (by rw [tb0]; decide)).trans exR0o
                have s104 := (xq77.2.2.2.2.2 b0 6 (by rw [tb0]; decide)).trans exoc0o
                have s105 := (xq77.2.2.2.2.2 b0 7 (by rw [tb0]; decide)).trans exor0o
                have s106 := (xq77.2.2.2.2.2 b0 8 (by rw [tb0]; decide)).trans exf0o
                have s107 := (xq77.2.2.2.2.2 b1 1 (by rw [tb1]; decide)).trans exhb1o
                have s108 := (xq77.2.2.2.2.2 b1 2 (by rw [tb1]; decide)).trans exvb1o
                have s109 := (xq77.2.2.2.2.2 b1 3 (by rw [tb1]; decide)).trans extq1o
                have s110 := (xq77.2.2.2.2.2 b1 4 (by rw [tb1]; decide)).trans exC1o
                have s111 := (xq77.2.2.2.2.2 b1 5 (by rw [tb1]; decide)).trans exR1o
                have s112 := (xq77.2.2.2.2.2 b1 6 (by rw [tb1]; decide)).trans exoc1o
                have s113 := (xq77.2.2.2.2.2 b1 7 (by rw [tb1]; decide)).trans exor1o
                have s114 := (xq77.2.2.2.2.2 b1 8 (by rw [tb1]; decide)).trans exf1o
                have s115 := (xq77.2.2.2.2.2 b2 1 (by rw [tb2]; decide)).trans exhb2o
                have s116 := (xq77.2.2.2.2.2 b2 2 (by rw [tb2]; decide)).trans exvb2o
                have s117 := (xq77.2.2.2.2.2 b2 3 (by rw [tb2]; decide)).trans extq2o
                have s118 := (xq77.2.2.2.2.2 b2 4 (by rw [tb2]; decide)).trans exC2o
                have s119 := (xq77.2.2.2.2.2 b2 5 (by rw [tb2]; decide)).trans exR2o
                have s120 := (xq77.2.2.2.2.2 b2 6 (by rw [tb2]; decide)).trans exoc2o
                have s121 := (xq77.2.2.2.2.2 b2 7 (by rw [tb2]; decide)).trans exor2o
                have s122 := (xq77.2.2.2.2.2 b2 8 (by rw [tb2]; decide)).trans exf2o
                have pr123 := gPC.fr xq77.2 (by decide) hpc
                have pr124 := gTc.fr xq77.2 (by decide) htc
                have pr125 := gRr.fr xq77.2 (by decide) hrr
                have pr126 := gRw.fr xq77.2 (by decide) hrw
                have k127 := sq77.2.1
                have k127b := sq77.2.2.1
                have hl128 : hq77.2.2.2.1 bt = h.2.2.2.1 bt := congrFun sq77.2.2.2.2.1 bt
                have hl129 : hq77.2.2.2.1 coo = h.2.2.2.1 coo := congrFun sq77.2.2.2.2.1 coo
                have hl130 : hq77.2.2.2.1 dmo = h.2.2.2.1 dmo := congrFun sq77.2.2.2.2.1 dmo
                have k131 := sq77.2.1
                have k131b := sq77.2.2.1
                have hl132 : hq77.2.2.2.1 bt = h.2.2.2.1 bt := congrFun sq77.2.2.2.2.1 bt
                have hl133 : hq77.2.2.2.1 coo = h.2.2.2.1 coo := congrFun sq77.2.2.2.2.1 coo
                have hl134 : hq77.2.2.2.1 dmo = h.2.2.2.1 dmo := congrFun sq77.2.2.2.2.1 dmo
                have hix135 : gIx ty x ld (hq77.2.2.2.1 bt : Int) iv hq77 := ⟨pic, b0, b1, b2, dr, sk, bt, n0, c0, ⟨tx, tdr, tsk, tbt⟩, ⟨s78, s79, s80, s81⟩, pr123, pr124, ⟨s82, by omega, by omega⟩, ⟨s83, by omega, by omega⟩, ⟨s84, by omega, by omega⟩, ⟨by omega, by omega⟩, pr125, pr126⟩
                have G136 : gSg [] [] [] ty h ty hq77 := gSg.ss G0 sq77 (by decide)
                exact gz_end (I := .ireturn) (len := 1) rfl (Or.inl rfl) ⟨ty, G136, ld, (hq77.2.2.2.1 bt : Int), iv, (by omega), (by omega), (by omega), (by omega), (by omega), (by omega), hix135, Or.inl ⟨zq77, rfl, (by omega), (by omega), (by omega), (by dsimp only; omega), (by dsimp only; omega), (by omega), (by omega)⟩⟩
              · refine gy_icF rfl (by decide) (by decide) (by omega) (by omega) hc75 ?_
                refine gz_s 1 (pc' := 57) (L' := [some (.ref x), some (.int (zi a)), some (.int (zi b)), some (.int (zi jn2v0))]) (S' := [.ref x]) rfl ?_
                refine gs_gtk rfl (by decide) rfl hS.1 tx rfl rfl ex4 ?_
                refine gs_gtk rfl (by decide) rfl hS.1 tsk rfl rfl ec0 ?_
                refine gz_s 1 (pc' := 74) (L' := [some (.ref x), some (.int (zi a)), some (.int (zi b)), some (.int (zi jn2v0))]) (S' := [.int (zi c0)]) rfl ?_
                have hix137 : gIx ty x ld (h.2.2.2.1 bt : Int) iv h := ⟨pic, b0, b1, b2, dr, sk, bt, n0, c0, ⟨tx, tdr, tsk, tbt⟩, ⟨ex2, ex3, ex4, ex0⟩, hpc, htc, ⟨en0, by omega, by omega⟩, ⟨eiv, by omega, by omega⟩, ⟨ec0, by omega, by omega⟩, ⟨by omega, by omega⟩, hrr, hrw⟩
                have G138 : gSg [] [] [] ty h ty h := gSg.ss G0 hS (by decide)
                exact gz_end (I := .ireturn) (len := 1) rfl (Or.inl rfl) ⟨ty, G138, ld, (h.2.2.2.1 bt : Int), iv, (by omega), (by omega), (by omega), (by omega), (by omega), (by omega), hix137, Or.inl ⟨c0, rfl, (by omega), (by omega), (by omega), (by dsimp only; omega), (by dsimp only; omega), (by omega), (by omega)⟩⟩
          · refine gy_icF rfl (by decide) (by decide) (by omega) (by omega) hc12 ?_
            have hix139 : gIx ty x ld (h.2.2.2.1 bt : Int) iv h := ⟨pic, b0, b1, b2, dr, sk, bt, n0, c0, ⟨tx, tdr, tsk, tbt⟩, ⟨ex2, ex3, ex4, ex0⟩, hpc, htc, ⟨en0, by omega, by omega⟩, ⟨eiv, by omega, by omega⟩, ⟨ec0, by omega, by omega⟩, ⟨by omega, by omega⟩, hrr, hrw⟩
            have G140 : gSg [] [] [] ty h ty h := gSg.ss G0 hS (by decide)
            exact gz_end (I := .new 84) (len := 3) rfl (Or.inr (by decide)) ⟨ty, G140, ld, (h.2.2.2.1 bt : Int), iv, (by omega), (by omega), (by omega), (by omega), (by omega), (by omega), hix139, Or.inr ⟨rfl, rfl, (by omega), (by dsimp only; omega), (by dsimp only; omega), (by omega), (by omega)⟩⟩
  by_cases hc141 : (0 : Int) ≤ a
  · refine gy_ifT (pc' := 9) rfl (by decide) (by decide) (by omega) hc141 ?_
    refine gz_s 1 (pc' := 10) (L' := [some (.ref x), some (.int (zi a)), some (.int (zi b)), none]) (S' := [.int (zi 3)]) rfl ?_
    exact jn2 3 (by omega)
  · refine gy_ifF rfl (by decide) (by decide) (by omega) hc141 ?_
    refine gz_s 2 (pc' := 10) (L' := [some (.ref x), some (.int (zi a)), some (.int (zi b)), none]) (S' := [.int (zi 6)]) rfl ?_
    exact jn2 6 (by omega)
set_option maxRecDepth 20000 in
set_option maxHeartbeats 4000000 in
theorem cl_DctFilter_table (d : Nat) {ty : Nat → Nat} {h : gH} (hJ : gJ rT 1027 ty h) (x : Nat) (tx : ty x = 50) (a : Int) (ra : (-2147483648) ≤ a ∧ a ≤ 2147483647) (b : Int) (rb : (-2147483648) ≤ b ∧ b ≤ 2147483647) (v : Int) (rv : (-2147483648) ≤ v ∧ v ≤ 2147483647) (ld : Int) (rld : 0 ≤ ld ∧ ld ≤ 192) (lb : Int) (rlb : 1024 ≤ lb ∧ lb ≤ 1000000) (iv : Int) (riv : 0 ≤ iv ∧ iv ≤ 100) (uq : gUq ty) (hyix : gIx ty x ld lb iv h) : gz gPP gGG gcn (d + 0) gt85 0 (gent [.ref x, .int (zi a), .int (zi b), .int (zi v)] 5) [] h (fun q _ => ∃ ty9 : Nat → Nat, gSg [] [] [53999] ty h ty9 q.2.2 ∧ ∃ ld1 lb1 iv1 : Int, 0 ≤ ld1 ∧ ld1 ≤ 192 ∧ 1024 ≤ lb1 ∧ lb1 ≤ 1000000 ∧ 0 ≤ iv1 ∧ iv1 ≤ 100 ∧ (gIx ty9 x ld1 lb1 iv1 q.2.2) ∧ ((∃ z : Int, gfin gt85 q.1 q.2.1 = some (some (.int (zi z))) ∧ 0 ≤ z ∧ z ≤ 255 ∧ (iv1 = iv) ∧ (1024 * (((q.2.2.1 : Int) - h.1) - 31 - 2 * (ld1 - ld)) ≤ lb1 - lb) ∧ (((q.2.2.2.1 : Int) - h.2.1) ≤ 4303 + 12480 * (ld1 - ld) + 2 * (lb1 - lb)) ∧ (ld ≤ ld1) ∧ (lb ≤ lb1)) ∨ (q.2.1 = [] ∧ ((q.1 = 19) ∨ (q.1 = 46)) ∧ (iv1 = iv) ∧ (1024 * (((q.2.2.1 : Int) - h.1) - 31 - 2 * (ld1 - ld)) ≤ lb1 - lb) ∧ (((q.2.2.2.1 : Int) - h.2.1) ≤ 4303 + 12480 * (ld1 - ld) + 2 * (lb1 - lb)) ∧ (ld ≤ ld1) ∧ (lb ≤ lb1)))) := by
  have hS : gSs rT 1027 ty [53999] h h := gSs.rf hJ
  have G0 : gSg [] [] [53999] ty h ty h := gSg.rf hJ (fun x hx => by cases hx)
  obtain ⟨pic, b0, b1, b2, dr, sk, bt, n0, c0, ⟨_, tdr, tsk, tbt⟩, ⟨ex2, ex3, ex4, ex0⟩, hpc, htc, ⟨en0, rn0⟩, ⟨eiv, riv⟩, ⟨ec0, rc0⟩, ⟨lc0, llb⟩, hrr, hrw⟩ := hyix
  have tpic := hpc.1.1
  have tb0 := hpc.1.2.1
  have tb1 := hpc.1.2.2.1
  have tb2 := hpc.1.2.2.2
  refine gz_s 1 (pc' := 1) (L' := [some (.ref x), some (.int (zi a)), some (.int (zi b)), some (.int (zi v)), none]) (S' := [.int (zi a)]) rfl ?_
  by_cases hc1 : (a : Int) < 0
  · refine gy_ifT (pc' := 19) rfl (by decide) (by decide) (by omega) hc1 ?_
    have hix2 : gIx ty x ld (h.2.2.2.1 bt : Int) iv h := ⟨pic, b0, b1, b2, dr, sk, bt, n0, c0, ⟨tx, tdr, tsk, tbt⟩, ⟨ex2, ex3, ex4, ex0⟩, hpc, htc, ⟨en0, by omega, by omega⟩, ⟨eiv, by omega, by omega⟩, ⟨ec0, by omega, by omega⟩, ⟨by omega, by omega⟩, hrr, hrw⟩
    have G3 : gSg [] [] [53999] ty h ty h := gSg.ss G0 hS (by decide)
    exact gz_end (I := .new 84) (len := 3) rfl (Or.inr (by decide)) ⟨ty, G3, ld, (h.2.2.2.1 bt : Int), iv, (by omega), (by omega), (by omega), (by omega), (by omega), (by omega), hix2, Or.inr ⟨rfl, Or.inl rfl, (by omega), (by dsimp only; omega), (by dsimp only; omega), (by omega), (by omega)⟩⟩
  · refine gy_ifF rfl (by decide) (by decide) (by omega) hc1 ?_
    refine gz_s 2 (pc' := 6) (L' := [some (.ref x), some (.int (zi a)), some (.int (zi b)), some (.int (zi v)), none]) (S' := [.int (zi 4), .int (zi a)]) rfl ?_
    by_cases hc4 : (4 : Int) ≤ a
    · refine gy_icT (pc' := 19) rfl (by decide) (by decide) (by omega) (by omega) hc4 ?_
      have hix5 : gIx ty x ld (h.2.2.2.1 bt : Int) iv h := ⟨pic, b0, b1, b2, dr, sk, bt, n0, c0, ⟨tx, tdr, tsk, tbt⟩, ⟨ex2, ex3, ex4, ex0⟩, hpc, htc, ⟨en0, by omega, by omega⟩, ⟨eiv, by omega, by omega⟩, ⟨ec0, by omega, by omega⟩, ⟨by omega, by omega⟩, hrr, hrw⟩
      have G6 : gSg [] [] [53999] ty h ty h := gSg.ss G0 hS (by decide)
      exact gz_end (I := .new 84) (len := 3) rfl (Or.inr (by decide)) ⟨ty, G6, ld, (h.2.2.2.1 bt : Int), iv, (by omega), (by omega), (by omega), (by omega), (by omega), (by omega), hix5, Or.inr ⟨rfl, Or.inl rfl, (by omega), (by dsimp only; omega), (by dsimp only; omega), (by omega), (by omega)⟩⟩
    · refine gy_icF rfl (by decide) (by decide) (by omega) (by omega) hc4 ?_
      refine gz_s 1 (pc' := 10) (L' := [some (.ref x), some (.int (zi a)), some (.int (zi b)), some (.int (zi v)), none]) (S' := [.int (zi b)]) rfl ?_
      by_cases hc7 : (b : Int) < 0
      · refine gy_ifT (pc' := 19) rfl (by decide) (by decide) (by omega) hc7 ?_
        have hix8 : gIx ty x ld (h.2.2.2.1 bt : Int) iv h := ⟨pic, b0, b1, b2, dr, sk, bt, n0, c0, ⟨tx, tdr, tsk, tbt⟩, ⟨ex2, ex3, ex4, ex0⟩, hpc, htc, ⟨en0, by omega, by omega⟩, ⟨eiv, by omega, by omega⟩, ⟨ec0, by omega, by omega⟩, ⟨by omega, by omega⟩, hrr, hrw⟩
        have G9 : gSg [] [] [53999] ty h ty h := gSg.ss G0 hS (by decide)
        exact gz_end (I := .new 84) (len := 3) rfl (Or.inr (by decide)) ⟨ty, G9, ld, (h.2.2.2.1 bt : Int), iv, (by omega), (by omega), (by omega), (by omega), (by omega), (by omega), hix8, Or.inr ⟨rfl, Or.inl rfl, (by omega), (by dsimp only; omega), (by dsimp only; omega), (by omega), (by omega)⟩⟩
      · refine gy_ifF rfl (by decide) (by decide) (by omega) hc7 ?_
        refine gz_s 2 (pc' := 16) (L' := [some (.ref x), some (.int (zi a)), some (.int (zi b)), some (.int (zi v)), none]) (S' := [.int (zi 63), .int (zi b)]) rfl ?_
        by_cases hc10 : (b : Int) ≤ 63
        · refine gy_icT (pc' := 29) rfl (by decide) (by decide) (by omega) (by omega) hc10 ?_
          refine gz_s 2 (pc' := 31) (L' := [some (.ref x), some (.int (zi a)), some (.int (zi b)), some (.int (zi v)), none]) (S' := [.int (zi (-1)), .int (zi v)]) rfl ?_
          by_cases hc11 : (v : Int) = (-1)
          · refine gy_icT (pc' := 56) rfl (by decide) (by decide) (by omega) (by omega) hc11 ?_
            refine gz_s 1 (pc' := 57) (L' := [some (.ref x), some (.int (zi a)), some (.int (zi b)), some (.int (zi v)), none]) (S' := [.ref x]) rfl ?_
            refine gs_gtr rfl (by decide) rfl hS.1 tx rfl rfl rfl (fun c12 ec12 tc12 => ?_)
            refine gy_s 5 (pc' := 66) (L' := [some (.ref x), some (.int (zi a)), some (.int (zi b)), some (.int (zi v)), none]) (S' := [.int (((zi a) * (zi 64)) + (zi b)), .ref c12]) (L2 := [some (.ref x), some (.int (zi a)), some (.int (zi b)), some (.int (zi v)), none]) (S2 := [.int (zi ((a * 64) + b)), .ref c12]) rfl (by simp only [zi_add, zi_sub, zi_mul, zi_neg, zi_and1, zi_and7, zi_and15, zi_and31, zi_and255]) (by simp only [zi_add, zi_sub, zi_mul, zi_neg, zi_and1, zi_and7, zi_and15, zi_and31, zi_and255]) ?_
            have hl13 : 256 ≤ h.2.2.2.1 c12 ∧ h.2.2.2.1 c12 ≤ 256 := gJ.rowl (G := gGG) hS.1 tc12 rfl
            refine gs_ald rfl (by decide) hS.1 tc12 rfl rfl rfl (by decide) (fun _ => rfl) (by omega) (by omega) (fun z14 ez14 az14 bz14 => ?_)
            refine gz_s 3 (pc' := 71) (L' := [some (.ref x), some (.int (zi a)), some (.int (zi b)), some (.int (zi v)), some (.int (zi z14))]) (S' := [.int (zi (-1)), .int (zi v)]) rfl ?_
            refine gy_icT (pc' := 86) rfl (by decide) (by decide) (by omega) (by omega) (by first | (simp [zc]; done) | (simp only [zc]; omega)) ?_
            refine gz_s 1 (pc' := 88) (L' := [some (.ref x), some (.int (zi a)), some (.int (zi b)), some (.int (zi v)), some (.int (zi z14))]) (S' := [.int (zi z14)]) rfl ?_
            have hix15 : gIx ty x ld (h.2.2.2.1 bt : Int) iv h := ⟨pic, b0, b1, b2, dr, sk, bt, n0, c0, ⟨tx, tdr, tsk, tbt⟩, ⟨ex2, ex3, ex4, ex0⟩, hpc, htc, ⟨en0, by omega, by omega⟩, ⟨eiv, by omega, by omega⟩, ⟨ec0, by omega, by omega⟩, ⟨by omega, by omega⟩, hrr, hrw⟩
            have G16 : gSg [] [] [53999] ty h ty h := gSg.ss G0 hS (by decide)
            exact gz_end (I := .ireturn) (len := 1) rfl (Or.inl rfl) ⟨ty, G16, ld, (h.2.2.2.1 bt : Int), iv, (by omega), (by omega), (by omega), (by omega), (by omega), (by omega), hix15, Or.inl ⟨z14, rfl, (by omega), (by omega), (by omega), (by dsimp only; omega), (by dsimp only; omega), (by omega), (by omega)⟩⟩
          · refine gy_icF rfl (by decide) (by decide) (by omega) (by omega) hc11 ?_
            refine gz_s 2 (pc' := 36) (L' := [some (.ref x), some (.int (zi a)), some (.int (zi b)), some (.int (zi v)), none]) (S' := [.int (zi 1), .int (zi v)]) rfl ?_
            by_cases hc17 : (v : Int) < 1
            · refine gy_icT (pc' := 46) rfl (by decide) (by decide) (by omega) (by omega) hc17 ?_
              have hix18 : gIx ty x ld (h.2.2.2.1 bt : Int) iv h := ⟨pic, b0, b1, b2, dr, sk, bt, n0, c0, ⟨tx, tdr, tsk, tbt⟩, ⟨ex2, ex3, ex4, ex0⟩, hpc, htc, ⟨en0, by omega, by omega⟩, ⟨eiv, by omega, by omega⟩, ⟨ec0, by omega, by omega⟩, ⟨by omega, by omega⟩, hrr, hrw⟩
              have G19 : gSg [] [] [53999] ty h ty h := gSg.ss G0 hS (by decide)
              exact gz_end (I := .new 134) (len := 3) rfl (Or.inr (by decide)) ⟨ty, G19, ld, (h.2.2.2.1 bt : Int), iv, (by omega), (by omega), (by omega), (by omega), (by omega), (by omega), hix18, Or.inr ⟨rfl, Or.inr (rfl), (by omega), (by dsimp only; omega), (by dsimp only; omega), (by omega), (by omega)⟩⟩
            · refine gy_icF rfl (by decide) (by decide) (by omega) (by omega) hc17 ?_
              refine gz_s 2 (pc' := 43) (L' := [some (.ref x), some (.int (zi a)), some (.int (zi b)), some (.int (zi v)), none]) (S' := [.int (zi 255), .int (zi v)]) rfl ?_
              by_cases hc20 : (v : Int) ≤ 255
              · refine gy_icT (pc' := 56) rfl (by decide) (by decide) (by omega) (by omega) hc20 ?_
                refine gz_s 1 (pc' := 57) (L' := [some (.ref x), some (.int (zi a)), some (.int (zi b)), some (.int (zi v)), none]) (S' := [.ref x]) rfl ?_
                refine gs_gtr rfl (by decide) rfl hS.1 tx rfl rfl rfl (fun c21 ec21 tc21 => ?_)
                refine gy_s 5 (pc' := 66) (L' := [some (.ref x), some (.int (zi a)), some (.int (zi b)), some (.int (zi v)), none]) (S' := [.int (((zi a) * (zi 64)) + (zi b)), .ref c21]) (L2 := [some (.ref x), some (.int (zi a)), some (.int (zi b)), some (.int (zi v)), none]) (S2 := [.int (zi ((a * 64) + b)), .ref c21]) rfl (by simp only [zi_add, zi_sub, zi_mul, zi_neg, zi_and1, zi_and7, zi_and15, zi_and31, zi_and255]) (by simp only [zi_add, zi_sub, zi_mul, zi_neg, zi_and1, zi_and7, zi_and15, zi_and31, zi_and255]) ?_
                have hl22 : 256 ≤ h.2.2.2.1 c21 ∧ h.2.2.2.1 c21 ≤ 256 := gJ.rowl (G := gGG) hS.1 tc21 rfl
                refine gs_ald rfl (by decide) hS.1 tc21 rfl rfl rfl (by decide) (fun _ => rfl) (by omega) (by omega) (fun z23 ez23 az23 bz23 => ?_)
                refine gz_s 3 (pc' := 71) (L' := [some (.ref x), some (.int (zi a)), some (.int (zi b)), some (.int (zi v)), some (.int (zi z23))]) (S' := [.int (zi (-1)), .int (zi v)]) rfl ?_
                refine gy_icF rfl (by decide) (by decide) (by omega) (by omega) (by first | (simp [zc]; done) | (simp only [zc]; omega)) ?_
                refine gz_s 1 (pc' := 75) (L' := [some (.ref x), some (.int (zi a)), some (.int (zi b)), some (.int (zi v)), some (.int (zi z23))]) (S' := [.ref x]) rfl ?_
                refine gs_gtk rfl (by decide) rfl hS.1 tx rfl rfl ec21 ?_
                refine gy_s 6 (pc' := 85) (L' := [some (.ref x), some (.int (zi a)), some (.int (zi b)), some (.int (zi v)), some (.int (zi z23))]) (S' := [.int (zi v), .int (((zi a) * (zi 64)) + (zi b)), .ref c21]) (L2 := [some (.ref x), some (.int (zi a)), some (.int (zi b)), some (.int (zi v)), some (.int (zi z23))]) (S2 := [.int (zi v), .int (zi ((a * 64) + b)), .ref c21]) rfl (by simp only [zi_add, zi_sub, zi_mul, zi_neg, zi_and1, zi_and7, zi_and15, zi_and31, zi_and255]) (by simp only [zi_add, zi_sub, zi_mul, zi_neg, zi_and1, zi_and7, zi_and15, zi_and31, zi_and255]) ?_
                have hl24 : 256 ≤ h.2.2.2.1 c21 ∧ h.2.2.2.1 c21 ≤ 256 := gJ.rowl (G := gGG) hS.1 tc21 rfl
                refine gs_ast rfl (by decide) hS tc21 rfl rfl rfl (by decide) (fun _ => rfl) (by omega) (by omega) (fun _ => (by decide : (53999 : Nat) ∈ ([53999] : List Nat))) (by omega) (by omega) (fun h25 sh25 eh25 fh25 => ?_)
                have pr26 := gPC.pa fh25 (sh25.2.2.2.2.1.trans hS.2.2.2.2.1.symm) tc21 (fun _ => (by decide : ¬ (53999 : Nat) ∈ gPCp)) hpc
                have pr27 := gTc.pt fh25 tc21 (by decide) htc
                have pr28 := gRr.pa fh25 (sh25.2.2.2.2.1.trans hS.2.2.2.2.1.symm) tc21 (fun _ => (by decide : ¬ (53999 : Nat) ∈ gRrp)) hrr
                have pr29 := gRw.pa fh25 (sh25.2.2.2.2.1.trans hS.2.2.2.2.1.symm) tc21 (fun _ => (by decide : ¬ (53999 : Nat) ∈ gRwp)) hrw
                have s30 := (fh25 x 2 (fun q => absurd (((tx).symm.trans (congrArg ty q.1)).trans tc21) (by decide))).trans ex2
                have s31 := (fh25 x 3 (fun q => absurd (((tx).symm.trans (congrArg ty q.1)).trans tc21) (by decide))).trans ex3
                have s32 := (fh25 x 4 (fun q => absurd (((tx).symm.trans (congrArg ty q.1)).trans tc21) (by decide))).trans ex4
                have s33 := (fh25 sk 0 (fun q => absurd (((tsk).symm.trans (congrArg ty q.1)).trans tc21) (by decide))).trans ex0
                have s34 := (fh25 dr 8 (fun q => absurd (((tdr).symm.trans (congrArg ty q.1)).trans tc21) (by decide))).trans en0
                have s35 := (fh25 dr 3 (fun q => absurd (((tdr).symm.trans (congrArg ty q.1)).trans tc21) (by decide))).trans eiv
                have s36 := (fh25 sk 1 (fun q => absurd (((tsk).symm.trans (congrArg ty q.1)).trans tc21) (by decide))).trans ec0
                have s37 := (fh25 x 1 (fun q => absurd (((tx).symm.trans (congrArg ty q.1)).trans tc21) (by decide))).trans ec21
                have pr38 := gEl.set (i := (a * 64) + b) (z := v) uq tc21 (by decide) eh25 (by omega) (by omega)
                refine gz_s 1 (pc' := 88) (L' := [some (.ref x), some (.int (zi a)), some (.int (zi b)), some (.int (zi v)), some (.int (zi z23))]) (S' := [.int (zi z23)]) rfl ?_
                have k39 := sh25.2.1
                have k39b := sh25.2.2.1
                have hl40 : h25.2.2.2.1 bt = h.2.2.2.1 bt := congrFun sh25.2.2.2.2.1 bt
                have k41 := sh25.2.1
                have k41b := sh25.2.2.1
                have hl42 : h25.2.2.2.1 bt = h.2.2.2.1 bt := congrFun sh25.2.2.2.2.1 bt
                have hix43 : gIx ty x ld (h25.2.2.2.1 bt : Int) iv h25 := ⟨pic, b0, b1, b2, dr, sk, bt, n0, c0, ⟨tx, tdr, tsk, tbt⟩, ⟨s30, s31, s32, s33⟩, pr26, pr27, ⟨s34, by omega, by omega⟩, ⟨s35, by omega, by omega⟩, ⟨s36, by omega, by omega⟩, ⟨by omega, by omega⟩, pr28, pr29⟩
                have G44 : gSg [] [] [53999] ty h ty h25 := gSg.ss G0 sh25 (by decide)
                exact gz_end (I := .ireturn) (len := 1) rfl (Or.inl rfl) ⟨ty, G44, ld, (h25.2.2.2.1 bt : Int), iv, (by omega), (by omega), (by omega), (by omega), (by omega), (by omega), hix43, Or.inl ⟨z23, rfl, (by omega), (by omega), (by omega), (by dsimp only; omega), (by dsimp only; omega), (by omega), (by omega)⟩⟩
              · refine gy_icF rfl (by decide) (by decide) (by omega) (by omega) hc20 ?_
                have hix45 : gIx ty x ld (h.2.2.2.1 bt : Int) iv h := ⟨pic, b0, b1, b2, dr, sk, bt, n0, c0, ⟨tx, tdr, tsk, tbt⟩, ⟨ex2, ex3, ex4, ex0⟩, hpc, htc, ⟨en0, by omega, by omega⟩, ⟨eiv, by omega, by omega⟩, ⟨ec0, by omega, by omega⟩, ⟨by omega, by omega⟩, hrr, hrw⟩
                have G46 : gSg [] [] [53999] ty h ty h := gSg.ss G0 hS (by decide)
                exact gz_end (I := .new 134) (len := 3) rfl (Or.inr (by decide)) ⟨ty, G46, ld, (h.2.2.2.1 bt : Int), iv, (by omega), (by omega), (by omega), (by omega), (by omega), (by omega), hix45, Or.inr ⟨rfl, Or.inr (rfl), (by omega), (by dsimp only; omega), (by dsimp only; omega), (by omega), (by omega)⟩⟩
        · refine gy_icF rfl (by decide) (by decide) (by omega) (by omega) hc10 ?_
          have hix47 : gIx ty x ld (h.2.2.2.1 bt : Int) iv h := ⟨pic, b0, b1, b2, dr, sk, bt, n0, c0, ⟨tx, tdr, tsk, tbt⟩, ⟨ex2, ex3, ex4, ex0⟩, hpc, htc, ⟨en0, by omega, by omega⟩, ⟨eiv, by omega, by omega⟩, ⟨ec0, by omega, by omega⟩, ⟨by omega, by omega⟩, hrr, hrw⟩
          have G48 : gSg [] [] [53999] ty h ty h := gSg.ss G0 hS (by decide)
          exact gz_end (I := .new 84) (len := 3) rfl (Or.inr (by decide)) ⟨ty, G48, ld, (h.2.2.2.1 bt : Int), iv, (by omega), (by omega), (by omega), (by omega), (by omega), (by omega), hix47, Or.inr ⟨rfl, Or.inl rfl, (by omega), (by dsimp only; omega), (by dsimp only; omega), (by omega), (by omega)⟩⟩
set_option maxRecDepth 20000 in
set_option maxHeartbeats 4000000 in
theorem cl_DctFilter_point (d : Nat) {ty : Nat → Nat} {h : gH} (hJ : gJ rT 1027 ty h) (x : Nat) (tx : ty x = 50) (a : Int) (ra : (-2147483648) ≤ a ∧ a ≤ 2147483647) (b : Int) (rb : (-2147483648) ≤ b ∧ b ≤ 2147483647) (v : Int) (rv : (-2147483648) ≤ v ∧ v ≤ 2147483647) (ld : Int) (rld : 0 ≤ ld ∧ ld ≤ 192) (lb : Int) (rlb : 1024 ≤ lb ∧ lb ≤ 1000000) (iv : Int) (riv : 0 ≤ iv ∧ iv ≤ 100) (uq : gUq ty) (hyix : gIx ty x ld lb iv h) : gz gPP gGG gcn (d + 2) gt86 0 (gent [.ref x, .int (zi a), .int (zi b), .int (zi v)] 4) [] h (fun q _ => ∃ ty9 : Nat → Nat, gSg [] [] [55001, 55002, 59999] ty h ty9 q.2.2 ∧ ∃ ld1 lb1 iv1 : Int, 0 ≤ ld1 ∧ ld1 ≤ 192 ∧ 1024 ≤ lb1 ∧ lb1 ≤ 1000000 ∧ 0 ≤ iv1 ∧ iv1 ≤ 100 ∧ (gIx ty9 x ld1 lb1 iv1 q.2.2) ∧ ((∃ z : Int, gfin gt86 q.1 q.2.1 = some (some (.int (zi z))) ∧ 0 ≤ z ∧ z ≤ 255 ∧ (iv1 = iv) ∧ (1024 * (((q.2.2.1 : Int) - h.1) - 31 - 2 * (ld1 - ld)) ≤ lb1 - lb) ∧ (((q.2.2.2.1 : Int) - h.2.1) ≤ 4303 + 12480 * (ld1 - ld) + 2 * (lb1 - lb)) ∧ (ld ≤ ld1) ∧ (lb ≤ lb1)) ∨ (q.2.1 = [] ∧ ((q.1 = 20) ∨ (q.1 = 41)) ∧ (iv1 = iv) ∧ (1024 * (((q.2.2.1 : Int) - h.1) - 31 - 2 * (ld1 - ld)) ≤ lb1 - lb) ∧ (((q.2.2.2.1 : Int) - h.2.1) ≤ 4303 + 12480 * (ld1 - ld) + 2 * (lb1 - lb)) ∧ (ld ≤ ld1) ∧ (lb ≤ lb1)))) := by
  have hS : gSs rT 1027 ty [55001, 55002, 59999] h h := gSs.rf hJ
  have G0 : gSg [] [] [55001, 55002, 59999] ty h ty h := gSg.rf hJ (fun x hx => by cases hx)
  obtain ⟨pic, b0, b1, b2, dr, sk, bt, n0, c0, ⟨_, tdr, tsk, tbt⟩, ⟨ex2, ex3, ex4, ex0⟩, hpc, htc, ⟨en0, rn0⟩, ⟨eiv, riv⟩, ⟨ec0, rc0⟩, ⟨lc0, llb⟩, hrr, hrw⟩ := hyix
  have tpic := hpc.1.1
  have tb0 := hpc.1.2.1
  have tb1 := hpc.1.2.2.1
  have tb2 := hpc.1.2.2.2
  refine gz_s 1 (pc' := 1) (L' := [some (.ref x), some (.int (zi a)), some (.int (zi b)), some (.int (zi v))]) (S' := [.int (zi a)]) rfl ?_
  by_cases hc1 : (a : Int) < 0
  · refine gy_ifT (pc' := 20) rfl (by decide) (by decide) (by omega) hc1 ?_
    have hix2 : gIx ty x ld (h.2.2.2.1 bt : Int) iv h := ⟨pic, b0, b1, b2, dr, sk, bt, n0, c0, ⟨tx, tdr, tsk, tbt⟩, ⟨ex2, ex3, ex4, ex0⟩, hpc, htc, ⟨en0, by omega, by omega⟩, ⟨eiv, by omega, by omega⟩, ⟨ec0, by omega, by omega⟩, ⟨by omega, by omega⟩, hrr, hrw⟩
    have G3 : gSg [] [] [55001, 55002, 59999] ty h ty h := gSg.ss G0 hS (by decide)
    exact gz_end (I := .new 84) (len := 3) rfl (Or.inr (by decide)) ⟨ty, G3, ld, (h.2.2.2.1 bt : Int), iv, (by omega), (by omega), (by omega), (by omega), (by omega), (by omega), hix2, Or.inr ⟨rfl, Or.inl rfl, (by omega), (by dsimp only; omega), (by dsimp only; omega), (by omega), (by omega)⟩⟩
  · refine gy_ifF rfl (by decide) (by decide) (by omega) hc1 ?_
    refine gz_s 2 (pc' := 7) (L' := [some (.ref x), some (.int (zi a)), some (.int (zi b)), some (.int (zi v))]) (S' := [.int (zi 32), .int (zi a)]) rfl ?_
    by_cases hc4 : (32 : Int) ≤ a
    · refine gy_icT (pc' := 20) rfl (by decide) (by decide) (by omega) (by omega) hc4 ?_
      have hix5 : gIx ty x ld (h.2.2.2.1 bt : Int) iv h := ⟨pic, b0, b1, b2, dr, sk, bt, n0, c0, ⟨tx, tdr, tsk, tbt⟩, ⟨ex2, ex3, ex4, ex0⟩, hpc, htc, ⟨en0, by omega, by omega⟩, ⟨eiv, by omega, by omega⟩, ⟨ec0, by omega, by omega⟩, ⟨by omega, by omega⟩, hrr, hrw⟩
      have G6 : gSg [] [] [55001, 55002, 59999] ty h ty h := gSg.ss G0 hS (by decide)
      exact gz_end (I := .new 84) (len := 3) rfl (Or.inr (by decide)) ⟨ty, G6, ld, (h.2.2.2.1 bt : Int), iv, (by omega), (by omega), (by omega), (by omega), (by omega), (by omega), hix5, Or.inr ⟨rfl, Or.inl rfl, (by omega), (by dsimp only; omega), (by dsimp only; omega), (by omega), (by omega)⟩⟩
    · refine gy_icF rfl (by decide) (by decide) (by omega) (by omega) hc4 ?_
      refine gz_s 1 (pc' := 11) (L' := [some (.ref x), some (.int (zi a)), some (.int (zi b)), some (.int (zi v))]) (S' := [.int (zi b)]) rfl ?_
      by_cases hc7 : (b : Int) < 0
      · refine gy_ifT (pc' := 20) rfl (by decide) (by decide) (by omega) hc7 ?_
        have hix8 : gIx ty x ld (h.2.2.2.1 bt : Int) iv h := ⟨pic, b0, b1, b2, dr, sk, bt, n0, c0, ⟨tx, tdr, tsk, tbt⟩, ⟨ex2, ex3, ex4, ex0⟩, hpc, htc, ⟨en0, by omega, by omega⟩, ⟨eiv, by omega, by omega⟩, ⟨ec0, by omega, by omega⟩, ⟨by omega, by omega⟩, hrr, hrw⟩
        have G9 : gSg [] [] [55001, 55002, 59999] ty h ty h := gSg.ss G0 hS (by decide)
        exact gz_end (I := .new 84) (len := 3) rfl (Or.inr (by decide)) ⟨ty, G9, ld, (h.2.2.2.1 bt : Int), iv, (by omega), (by omega), (by omega), (by omega), (by omega), (by omega), hix8, Or.inr ⟨rfl, Or.inl rfl, (by omega), (by dsimp only; omega), (by dsimp only; omega), (by omega), (by omega)⟩⟩
      · refine gy_ifF rfl (by decide) (by decide) (by omega) hc7 ?_
        refine gz_s 2 (pc' := 17) (L' := [some (.ref x), some (.int (zi a)), some (.int (zi b)), some (.int (zi v))]) (S' := [.int (zi 32), .int (zi b)]) rfl ?_
        by_cases hc10 : (b : Int) < 32
        · refine gy_icT (pc' := 30) rfl (by decide) (by decide) (by omega) (by omega) hc10 ?_
          refine gz_s 1 (pc' := 31) (L' := [some (.ref x), some (.int (zi a)), some (.int (zi b)), some (.int (zi v))]) (S' := [.int (zi v)]) rfl ?_
          by_cases hc11 : (v : Int) < 0
          · refine gy_ifT (pc' := 41) rfl (by decide) (by decide) (by omega) hc11 ?_
            have hix12 : gIx ty x ld (h.2.2.2.1 bt : Int) iv h := ⟨pic, b0, b1, b2, dr, sk, bt, n0, c0, ⟨tx, tdr, tsk, tbt⟩, ⟨ex2, ex3, ex4, ex0⟩, hpc, htc, ⟨en0, by omega, by omega⟩, ⟨eiv, by omega, by omega⟩, ⟨ec0, by omega, by omega⟩, ⟨by omega, by omega⟩, hrr, hrw⟩
            have G13 : gSg [] [] [55001, 55002, 59999] ty h ty h := gSg.ss G0 hS (by decide)
            exact gz_end (I := .new 134) (len := 3) rfl (Or.inr (by decide)) ⟨ty, G13, ld, (h.2.2.2.1 bt : Int), iv, (by omega), (by omega), (by omega), (by omega), (by omega), (by omega), hix12, Or.inr ⟨rfl, Or.inr (rfl), (by omega), (by dsimp only; omega), (by dsimp only; omega), (by omega), (by omega)⟩⟩
          · refine gy_ifF rfl (by decide) (by decide) (by omega) hc11 ?_
            refine gz_s 2 (pc' := 38) (L' := [some (.ref x), some (.int (zi a)), some (.int (zi b)), some (.int (zi v))]) (S' := [.int (zi 255), .int (zi v)]) rfl ?_
            by_cases hc14 : (v : Int) ≤ 255
            · refine gy_icT (pc' := 51) rfl (by decide) (by decide) (by omega) (by omega) hc14 ?_
              refine gz_s 1 (pc' := 52) (L' := [some (.ref x), some (.int (zi a)), some (.int (zi b)), some (.int (zi v))]) (S' := [.ref x]) rfl ?_
              refine gs_gtk rfl (by decide) rfl hS.1 tx rfl rfl ex3 ?_
              refine gz_s 3 (pc' := 58) (L' := [some (.ref x), some (.int (zi a)), some (.int (zi b)), some (.int (zi v))]) (S' := [.int (zi v), .int (zi b), .int (zi a), .ref dr]) rfl ?_
              obtain ⟨z15, ez15, az15, bz15⟩ := gJ.int (k := 1) (G := gGG) hS.1 tdr rfl rfl rfl
              obtain ⟨z16, ez16, az16, bz16⟩ := gJ.int (k := 2) (G := gGG) hS.1 tdr rfl rfl rfl
              refine gz_call rfl (by decide) rfl (by decide) (by decide) (gcal_of rfl rfl rfl (Nat.le_of_ble_eq_true rfl) (gJ.recv (G := gGG) hS.1 tdr rfl rfl)) (cl_Draft_putPoint _ hS.1 dr tdr a (by omega) b (by omega) v (by omega) z15 ez15 (by omega) z16 ez16 (by omega) uq) (fun q17 _ wq17 => ?_)
              obtain ⟨pq17, oq17, hq17⟩ := q17
              obtain ⟨xq17, zq17, fq17_0, fq17_1, gq17, aq17, bq17, efq17_0, afq17_0, bfq17_0, efq17_1, afq17_1, bfq17_1, uq17_0, uq17_1⟩ := wq17
              refine ⟨_, gq17, ?_⟩
              show gz gPP gGG gcn _ _ 61 [some (.ref x), some (.int (zi a)), some (.int (zi b)), some (.int (zi v))] [.int (zi zq17)] hq17 _
              have sq17 : gSs rT 1027 ty [55001, 55002, 59999] h hq17 := gSs.tr hS xq17 (by decide)
              have s18 := (xq17.2.2.2.2.2 x 2 (by rw [tx]; decide)).trans ex2
              have s19 := (xq17.2.2.2.2.2 x 3 (by rw [tx]; decide)).trans ex3
              have s20 := (xq17.2.2.2.2.2 x 4 (by rw [tx]; decide)).trans ex4
              have s21 := (xq17.2.2.2.2.2 sk 0 (by rw [tsk]; decide)).trans ex0
              have s22 := (xq17.2.2.2.2.2 dr 8 (by rw [tdr]; decide)).trans en0
              have s23 := (xq17.2.2.2.2.2 dr 3 (by rw [tdr]; decide)).trans eiv
              have s24 := (xq17.2.2.2.2.2 sk 1 (by rw [tsk]; decide)).trans ec0
              have pr25 := gPC.fr xq17.2 (by decide) hpc
              have pr26 := gTc.fr xq17.2 (by decide) htc
              have pr27 := gRr.fr xq17.2 (by decide) hrr
              have pr28 := gRw.fr xq17.2 (by decide) hrw
              have k29 := sq17.2.1
              have k29b := sq17.2.2.1
              have hl30 : hq17.2.2.2.1 bt = h.2.2.2.1 bt := congrFun sq17.2.2.2.2.1 bt
              have k31 := sq17.2.1
              have k31b := sq17.2.2.1
              have hl32 : hq17.2.2.2.1 bt = h.2.2.2.1 bt := congrFun sq17.2.2.2.2.1 bt
              have hix33 : gIx ty x ld (hq17.2.2.2.1 bt : Int) iv hq17 := ⟨pic, b0, b1, b2, dr, sk, bt, n0, c0, ⟨tx, tdr, tsk, tbt⟩, ⟨s18, s19, s20, s21⟩, pr25, pr26, ⟨s22, by omega, by omega⟩, ⟨s23, by omega, by omega⟩, ⟨s24, by omega, by omega⟩, ⟨by omega, by omega⟩, pr27, pr28⟩
              have G34 : gSg [] [] [55001, 55002, 59999] ty h ty hq17 := gSg.ss G0 sq17 (by decide)
              exact gz_end (I := .ireturn) (len := 1) rfl (Or.inl rfl) ⟨ty, G34, ld, (hq17.2.2.2.1 bt : Int), iv, (by omega), (by omega), (by omega), (by omega), (by omega), (by omega), hix33, Or.inl ⟨zq17, rfl, (by omega), (by omega), (by omega), (by dsimp only; omega), (by dsimp only; omega), (by omega), (by omega)⟩⟩
            · refine gy_icF rfl (by decide) (by decide) (by omega) (by omega) hc14 ?_
              have hix35 : gIx ty x ld (h.2.2.2.1 bt : Int) iv h := ⟨pic, b0, b1, b2, dr, sk, bt, n0, c0, ⟨tx, tdr, tsk, tbt⟩, ⟨ex2, ex3, ex4, ex0⟩, hpc, htc, ⟨en0, by omega, by omega⟩, ⟨eiv, by omega, by omega⟩, ⟨ec0, by omega, by omega⟩, ⟨by omega, by omega⟩, hrr, hrw⟩
              have G36 : gSg [] [] [55001, 55002, 59999] ty h ty h := gSg.ss G0 hS (by decide)
              exact gz_end (I := .new 134) (len := 3) rfl (Or.inr (by decide)) ⟨ty, G36, ld, (h.2.2.2.1 bt : Int), iv, (by omega), (by omega), (by omega), (by omega), (by omega), (by omega), hix35, Or.inr ⟨rfl, Or.inr (rfl), (by omega), (by dsimp only; omega), (by dsimp only; omega), (by omega), (by omega)⟩⟩
        · refine gy_icF rfl (by decide) (by decide) (by omega) (by omega) hc10 ?_
          have hix37 : gIx ty x ld (h.2.2.2.1 bt : Int) iv h := ⟨pic, b0, b1, b2, dr, sk, bt, n0, c0, ⟨tx, tdr, tsk, tbt⟩, ⟨ex2, ex3, ex4, ex0⟩, hpc, htc, ⟨en0, by omega, by omega⟩, ⟨eiv, by omega, by omega⟩, ⟨ec0, by omega, by omega⟩, ⟨by omega, by omega⟩, hrr, hrw⟩
          have G38 : gSg [] [] [55001, 55002, 59999] ty h ty h := gSg.ss G0 hS (by decide)
          exact gz_end (I := .new 84) (len := 3) rfl (Or.inr (by decide)) ⟨ty, G38, ld, (h.2.2.2.1 bt : Int), iv, (by omega), (by omega), (by omega), (by omega), (by omega), (by omega), hix37, Or.inr ⟨rfl, Or.inl rfl, (by omega), (by dsimp only; omega), (by dsimp only; omega), (by omega), (by omega)⟩⟩
set_option maxRecDepth 20000 in
set_option maxHeartbeats 4000000 in
theorem cl_DctFilter_scan (d : Nat) {ty : Nat → Nat} {h : gH} (hJ : gJ rT 1027 ty h) (x : Nat) (tx : ty x = 50) (a : Int) (ra : (-2147483648) ≤ a ∧ a ≤ 2147483647) (b : Int) (rb : (-2147483648) ≤ b ∧ b ≤ 2147483647) (t : Int) (rt : (-2147483648) ≤ t ∧ t ≤ 2147483647) (ld : Int) (rld : 0 ≤ ld ∧ ld ≤ 192) (lb : Int) (rlb : 1024 ≤ lb ∧ lb ≤ 1000000) (iv : Int) (riv : 0 ≤ iv ∧ iv ≤ 100) (uq : gUq ty) (hyix : gIx ty x ld lb iv h) : gz gPP gGG gcn (d + 3) gt61 0 (gent [.ref x, .int (zi a), .int (zi b), .int (zi t)] 4) [] h (fun q _ => ∃ ty9 : Nat → Nat, gSg [] [] [55008, 60999, 61999, 62999, 63999, 64999] ty h ty9 q.2.2 ∧ ∃ z ld1 lb1 iv1 : Int, gfin gt61 q.1 q.2.1 = some (some (.int (zi z))) ∧ 0 ≤ z ∧ z ≤ 10 ∧ 0 ≤ ld1 ∧ ld1 ≤ 192 ∧ 1024 ≤ lb1 ∧ lb1 ≤ 1000000 ∧ 0 ≤ iv1 ∧ iv1 ≤ 100 ∧ (iv1 = iv) ∧ (1024 * (((q.2.2.1 : Int) - h.1) - 31 - 2 * (ld1 - ld)) ≤ lb1 - lb) ∧ (((q.2.2.2.1 : Int) - h.2.1) ≤ 4303 + 12480 * (ld1 - ld) + 2 * (lb1 - lb)) ∧ (ld ≤ ld1) ∧ (lb ≤ lb1) ∧ (gIx ty9 x ld1 lb1 iv1 q.2.2)) := by
  have hS : gSs rT 1027 ty [55008, 60999, 61999, 62999, 63999, 64999] h h := gSs.rf hJ
  have G0 : gSg [] [] [55008, 60999, 61999, 62999, 63999, 64999] ty h ty h := gSg.rf hJ (fun x hx => by cases hx)
  obtain ⟨pic, b0, b1, b2, dr, sk, bt, n0, c0, ⟨_, tdr, tsk, tbt⟩, ⟨ex2, ex3, ex4, ex0⟩, hpc, htc, ⟨en0, rn0⟩, ⟨eiv, riv⟩, ⟨ec0, rc0⟩, ⟨lc0, llb⟩, hrr, hrw⟩ := hyix
  have tpic := hpc.1.1
  have tb0 := hpc.1.2.1
  have tb1 := hpc.1.2.2.1
  have tb2 := hpc.1.2.2.2
  refine gz_s 1 (pc' := 1) (L' := [some (.ref x), some (.int (zi a)), some (.int (zi b)), some (.int (zi t))]) (S' := [.ref x]) rfl ?_
  refine gs_gtk rfl (by decide) rfl hS.1 tx rfl rfl ex3 ?_
  refine gz_s 3 (pc' := 7) (L' := [some (.ref x), some (.int (zi a)), some (.int (zi b)), some (.int (zi t))]) (S' := [.int (zi t), .int (zi b), .int (zi a), .ref dr]) rfl ?_
  refine gz_call rfl (by decide) rfl (by decide) (by decide) (gcal_of rfl rfl rfl (Nat.le_of_ble_eq_true rfl) (gJ.recv (G := gGG) hS.1 tdr rfl rfl)) (cl_Draft_tellScan _ hS.1 dr tdr a (by omega) b (by omega) t (by omega) n0 en0 (by omega) uq htc) (fun q1 _ wq1 => ?_)
  obtain ⟨pq1, oq1, hq1⟩ := q1
  obtain ⟨xq1, zq1, fq1_0, gq1, aq1, bq1, efq1_0, afq1_0, bfq1_0, yq1_0⟩ := wq1
  refine ⟨_, gq1, ?_⟩
  show gz gPP gGG gcn _ _ 10 [some (.ref x), some (.int (zi a)), some (.int (zi b)), some (.int (zi t))] [.int (zi zq1)] hq1 _
  have sq1 : gSs rT 1027 ty [55008, 60999, 61999, 62999, 63999, 64999] h hq1 := gSs.tr hS xq1 (by decide)
  have s2 := (xq1.2.2.2.2.2 x 2 (by rw [tx]; decide)).trans ex2
  have s3 := (xq1.2.2.2.2.2 x 3 (by rw [tx]; decide)).trans ex3
  have s4 := (xq1.2.2.2.2.2 x 4 (by rw [tx]; decide)).trans ex4
  have s5 := (xq1.2.2.2.2.2 sk 0 (by rw [tsk]; decide)).trans ex0
  have s6 := (xq1.2.2.2.2.2 dr 3 (by rw [tdr]; decide)).trans eiv
  have s7 := (xq1.2.2.2.2.2 sk 1 (by rw [tsk]; decide)).trans ec0
  have pr8 := gPC.fr xq1.2 (by decide) hpc
  have pr9 := gRr.fr xq1.2 (by decide) hrr
  have pr10 := gRw.fr xq1.2 (by decide) hrw
  have k11 := sq1.2.1
  have k11b := sq1.2.2.1
  have hl12 : hq1.2.2.2.1 bt = h.2.2.2.1 bt := congrFun sq1.2.2.2.2.1 bt
  have k13 := sq1.2.1
  have k13b := sq1.2.2.1
  have hl14 : hq1.2.2.2.1 bt = h.2.2.2.1 bt := congrFun sq1.2.2.2.2.1 bt
  have hix15 : gIx ty x ld (hq1.2.2.2.1 bt : Int) iv hq1 := ⟨pic, b0, b1, b2, dr, sk, bt, fq1_0, c0, ⟨tx, tdr, tsk, tbt⟩, ⟨s2, s3, s4, s5⟩, pr8, yq1_0, ⟨efq1_0, by omega, by omega⟩, ⟨s6, by omega, by omega⟩, ⟨s7, by omega, by omega⟩, ⟨by omega, by omega⟩, pr9, pr10⟩
  have G16 : gSg [] [] [55008, 60999, 61999, 62999, 63999, 64999] ty h ty hq1 := gSg.ss G0 sq1 (by decide)
  exact gz_end (I := .ireturn) (len := 1) rfl (Or.inl rfl) ⟨ty, G16, zq1, ld, (hq1.2.2.2.1 bt : Int), iv, rfl, (by omega), (by omega), (by omega), (by omega), (by omega), (by omega), (by omega), (by omega), (by omega), (by dsimp only; omega), (by dsimp only; omega), (by omega), (by omega), hix15⟩
set_option maxRecDepth 20000 in
set_option maxHeartbeats 4000000 in
theorem cl_DctFilter_restart (d : Nat) {ty : Nat → Nat} {h : gH} (hJ : gJ rT 1027 ty h) (x : Nat) (tx : ty x = 50) (n : Int) (rn : (-2147483648) ≤ n ∧ n ≤ 2147483647) (ld : Int) (rld : 0 ≤ ld ∧ ld ≤ 192) (lb : Int) (rlb : 1024 ≤ lb ∧ lb ≤ 1000000) (iv : Int) (riv : 0 ≤ iv ∧ iv ≤ 100) (uq : gUq ty) (hyix : gIx ty x ld lb iv h) : gz gPP gGG gcn (d + 0) gt88 0 (gent [.ref x, .int (zi n)] 3) [] h (fun q _ => ∃ ty9 : Nat → Nat, gSg [] [] [55003] ty h ty9 q.2.2 ∧ ∃ ld1 lb1 iv1 : Int, 0 ≤ ld1 ∧ ld1 ≤ 192 ∧ 1024 ≤ lb1 ∧ lb1 ≤ 1000000 ∧ 0 ≤ iv1 ∧ iv1 ≤ 100 ∧ (gIx ty9 x ld1 lb1 iv1 q.2.2) ∧ ((∃ z : Int, gfin gt88 q.1 q.2.1 = some (some (.int (zi z))) ∧ 0 ≤ z ∧ z ≤ 100 ∧ (z = iv) ∧ (iv1 = n) ∧ (0 ≤ n) ∧ (n ≤ 100) ∧ (1024 * (((q.2.2.1 : Int) - h.1) - 31 - 2 * (ld1 - ld)) ≤ lb1 - lb) ∧ (((q.2.2.2.1 : Int) - h.2.1) ≤ 4303 + 12480 * (ld1 - ld) + 2 * (lb1 - lb)) ∧ (ld ≤ ld1) ∧ (lb ≤ lb1)) ∨ (q.2.1 = [] ∧ ((q.1 = 10 ∧ (¬ (0 ≤ n ∧ n ≤ 100)))) ∧ (iv1 = iv) ∧ (1024 * (((q.2.2.1 : Int) - h.1) - 31 - 2 * (ld1 - ld)) ≤ lb1 - lb) ∧ (((q.2.2.2.1 : Int) - h.2.1) ≤ 4303 + 12480 * (ld1 - ld) + 2 * (lb1 - lb)) ∧ (ld ≤ ld1) ∧ (lb ≤ lb1)))) := by
  have hS : gSs rT 1027 ty [55003] h h := gSs.rf hJ
  have G0 : gSg [] [] [55003] ty h ty h := gSg.rf hJ (fun x hx => by cases hx)
  obtain ⟨pic, b0, b1, b2, dr, sk, bt, n0, c0, ⟨_, tdr, tsk, tbt⟩, ⟨ex2, ex3, ex4, ex0⟩, hpc, htc, ⟨en0, rn0⟩, ⟨eiv, riv⟩, ⟨ec0, rc0⟩, ⟨lc0, llb⟩, hrr, hrw⟩ := hyix
  have tpic := hpc.1.1
  have tb0 := hpc.1.2.1
  have tb1 := hpc.1.2.2.1
  have tb2 := hpc.1.2.2.2
  refine gz_s 1 (pc' := 1) (L' := [some (.ref x), some (.int (zi n)), none]) (S' := [.int (zi n)]) rfl ?_
  by_cases hc1 : (n : Int) < 0
  · refine gy_ifT (pc' := 10) rfl (by decide) (by decide) (by omega) hc1 ?_
    have hix2 : gIx ty x ld (h.2.2.2.1 bt : Int) iv h := ⟨pic, b0, b1, b2, dr, sk, bt, n0, c0, ⟨tx, tdr, tsk, tbt⟩, ⟨ex2, ex3, ex4, ex0⟩, hpc, htc, ⟨en0, by omega, by omega⟩, ⟨eiv, by omega, by omega⟩, ⟨ec0, by omega, by omega⟩, ⟨by omega, by omega⟩, hrr, hrw⟩
    have G3 : gSg [] [] [55003] ty h ty h := gSg.ss G0 hS (by decide)
    exact gz_end (I := .new 134) (len := 3) rfl (Or.inr (by decide)) ⟨ty, G3, ld, (h.2.2.2.1 bt : Int), iv, (by omega), (by omega), (by omega), (by omega), (by omega), (by omega), hix2, Or.inr ⟨rfl, ⟨rfl, (by omega)⟩, (by omega), (by dsimp only; omega), (by dsimp only; omega), (by omega), (by omega)⟩⟩
  · refine gy_ifF rfl (by decide) (by decide) (by omega) hc1 ?_
    refine gz_s 2 (pc' := 7) (L' := [some (.ref x), some (.int (zi n)), none]) (S' := [.int (zi 100), .int (zi n)]) rfl ?_
    by_cases hc4 : (n : Int) ≤ 100
    · refine gy_icT (pc' := 20) rfl (by decide) (by decide) (by omega) (by omega) hc4 ?_
      refine gz_s 1 (pc' := 21) (L' := [some (.ref x), some (.int (zi n)), none]) (S' := [.ref x]) rfl ?_
      refine gs_gtk rfl (by decide) rfl hS.1 tx rfl rfl ex3 ?_
      refine gs_gtk rfl (by decide) rfl hS.1 tdr rfl rfl eiv ?_
      refine gz_s 2 (pc' := 29) (L' := [some (.ref x), some (.int (zi n)), some (.int (zi iv))]) (S' := [.ref x]) rfl ?_
      refine gs_gtk rfl (by decide) rfl hS.1 tx rfl rfl ex3 ?_
      refine gz_s 1 (pc' := 33) (L' := [some (.ref x), some (.int (zi n)), some (.int (zi iv))]) (S' := [.int (zi n), .ref dr]) rfl ?_
      refine gs_put rfl (by decide) rfl hS tdr rfl rfl rfl rfl (Or.inl rfl) (by decide) (by omega) (by omega) (fun h5 sh5 eh5 fh5 => ?_)
      have pr6 := gPC.pk fh5 (sh5.2.2.2.2.1.trans hS.2.2.2.2.1.symm) tdr (by decide) hpc
      have pr7 := gTc.pt fh5 tdr (by decide) htc
      have pr8 := gRr.pk fh5 (sh5.2.2.2.2.1.trans hS.2.2.2.2.1.symm) tdr (by decide) hrr
      have pr9 := gRw.pk fh5 (sh5.2.2.2.2.1.trans hS.2.2.2.2.1.symm) tdr (by decide) hrw
      have s10 := (fh5 x 2 (fun q => absurd q.2 (by decide))).trans ex2
      have s11 := (fh5 x 3 (fun q => absurd (((tx).symm.trans (congrArg ty q.1)).trans tdr) (by decide))).trans ex3
      have s12 := (fh5 x 4 (fun q => absurd q.2 (by decide))).trans ex4
      have s13 := (fh5 sk 0 (fun q => absurd q.2 (by decide))).trans ex0
      have s14 := (fh5 dr 8 (fun q => absurd q.2 (by decide))).trans en0
      have s15 := (fh5 sk 1 (fun q => absurd q.2 (by decide))).trans ec0
      refine gz_s 1 (pc' := 37) (L' := [some (.ref x), some (.int (zi n)), some (.int (zi iv))]) (S' := [.int (zi iv)]) rfl ?_
      have k16 := sh5.2.1
      have k16b := sh5.2.2.1
      have hl17 : h5.2.2.2.1 bt = h.2.2.2.1 bt := congrFun sh5.2.2.2.2.1 bt
      have k18 := sh5.2.1
      have k18b := sh5.2.2.1
      have hl19 : h5.2.2.2.1 bt = h.2.2.2.1 bt := congrFun sh5.2.2.2.2.1 bt
      have hix20 : gIx ty x ld (h5.2.2.2.1 bt : Int) n h5 := ⟨pic, b0, b1, b2, dr, sk, bt, n0, c0, ⟨tx, tdr, tsk, tbt⟩, ⟨s10, s11, s12, s13⟩, pr6, pr7, ⟨s14, by omega, by omega⟩, ⟨eh5, by omega, by omega⟩, ⟨s15, by omega, by omega⟩, ⟨by omega, by omega⟩, pr8, pr9⟩
      have G21 : gSg [] [] [55003] ty h ty h5 := gSg.ss G0 sh5 (by decide)
      exact gz_end (I := .ireturn) (len := 1) rfl (Or.inl rfl) ⟨ty, G21, ld, (h5.2.2.2.1 bt : Int), n, (by omega), (by omega), (by omega), (by omega), (by omega), (by omega), hix20, Or.inl ⟨iv, rfl, (by omega), (by omega), (by omega), (by omega), (by omega), (by omega), (by dsimp only; omega), (by dsimp only; omega), (by omega), (by omega)⟩⟩
    · refine gy_icF rfl (by decide) (by decide) (by omega) (by omega) hc4 ?_
      have hix22 : gIx ty x ld (h.2.2.2.1 bt : Int) iv h := ⟨pic, b0, b1, b2, dr, sk, bt, n0, c0, ⟨tx, tdr, tsk, tbt⟩, ⟨ex2, ex3, ex4, ex0⟩, hpc, htc, ⟨en0, by omega, by omega⟩, ⟨eiv, by omega, by omega⟩, ⟨ec0, by omega, by omega⟩, ⟨by omega, by omega⟩, hrr, hrw⟩
      have G23 : gSg [] [] [55003] ty h ty h := gSg.ss G0 hS (by decide)
      exact gz_end (I := .new 134) (len := 3) rfl (Or.inr (by decide)) ⟨ty, G23, ld, (h.2.2.2.1 bt : Int), iv, (by omega), (by omega), (by omega), (by omega), (by omega), (by omega), hix22, Or.inr ⟨rfl, ⟨rfl, (by omega)⟩, (by omega), (by dsimp only; omega), (by dsimp only; omega), (by omega), (by omega)⟩⟩
set_option maxRecDepth 20000 in
set_option maxHeartbeats 4000000 in
theorem cl_DctFilter_octet (d : Nat) {ty : Nat → Nat} {h : gH} (hJ : gJ rT 1027 ty h) (x : Nat) (tx : ty x = 50) (i : Int) (ri : (-2147483648) ≤ i ∧ i ≤ 2147483647) (ld : Int) (rld : 0 ≤ ld ∧ ld ≤ 192) (lb : Int) (rlb : 1024 ≤ lb ∧ lb ≤ 1000000) (iv : Int) (riv : 0 ≤ iv ∧ iv ≤ 100) (uq : gUq ty) (hyix : gIx ty x ld lb iv h) : gz gPP gGG gcn (d + 0) gt129 0 (gent [.ref x, .int (zi i)] 2) [] h (fun q _ => ∃ ty9 : Nat → Nat, gSg [] [] [] ty h ty9 q.2.2 ∧ ∃ ld1 lb1 iv1 : Int, 0 ≤ ld1 ∧ ld1 ≤ 192 ∧ 1024 ≤ lb1 ∧ lb1 ≤ 1000000 ∧ 0 ≤ iv1 ∧ iv1 ≤ 100 ∧ (gIx ty9 x ld1 lb1 iv1 q.2.2) ∧ ((∃ z : Int, gfin gt129 q.1 q.2.1 = some (some (.int (zi z))) ∧ (-128) ≤ z ∧ z ≤ 127 ∧ (iv1 = iv) ∧ (1024 * (((q.2.2.1 : Int) - h.1) - 31 - 2 * (ld1 - ld)) ≤ lb1 - lb) ∧ (((q.2.2.2.1 : Int) - h.2.1) ≤ 4303 + 12480 * (ld1 - ld) + 2 * (lb1 - lb)) ∧ (ld ≤ ld1) ∧ (lb ≤ lb1)) ∨ (q.2.1 = [] ∧ ((q.1 = 15)) ∧ (iv1 = iv) ∧ (1024 * (((q.2.2.1 : Int) - h.1) - 31 - 2 * (ld1 - ld)) ≤ lb1 - lb) ∧ (((q.2.2.2.1 : Int) - h.2.1) ≤ 4303 + 12480 * (ld1 - ld) + 2 * (lb1 - lb)) ∧ (ld ≤ ld1) ∧ (lb ≤ lb1)))) := by
  have hS : gSs rT 1027 ty [] h h := gSs.rf hJ
  have G0 : gSg [] [] [] ty h ty h := gSg.rf hJ (fun x hx => by cases hx)
  obtain ⟨pic, b0, b1, b2, dr, sk, bt, n0, c0, ⟨_, tdr, tsk, tbt⟩, ⟨ex2, ex3, ex4, ex0⟩, hpc, htc, ⟨en0, rn0⟩, ⟨eiv, riv⟩, ⟨ec0, rc0⟩, ⟨lc0, llb⟩, hrr, hrw⟩ := hyix
  have tpic := hpc.1.1
  have tb0 := hpc.1.2.1
  have tb1 := hpc.1.2.2.1
  have tb2 := hpc.1.2.2.2
  refine gz_s 1 (pc' := 1) (L' := [some (.ref x), some (.int (zi i))]) (S' := [.int (zi i)]) rfl ?_
  by_cases hc1 : (i : Int) < 0
  · refine gy_ifT (pc' := 15) rfl (by decide) (by decide) (by omega) hc1 ?_
    have hix2 : gIx ty x ld (h.2.2.2.1 bt : Int) iv h := ⟨pic, b0, b1, b2, dr, sk, bt, n0, c0, ⟨tx, tdr, tsk, tbt⟩, ⟨ex2, ex3, ex4, ex0⟩, hpc, htc, ⟨en0, by omega, by omega⟩, ⟨eiv, by omega, by omega⟩, ⟨ec0, by omega, by omega⟩, ⟨by omega, by omega⟩, hrr, hrw⟩
    have G3 : gSg [] [] [] ty h ty h := gSg.ss G0 hS (by decide)
    exact gz_end (I := .new 108) (len := 3) rfl (Or.inr (by decide)) ⟨ty, G3, ld, (h.2.2.2.1 bt : Int), iv, (by omega), (by omega), (by omega), (by omega), (by omega), (by omega), hix2, Or.inr ⟨rfl, rfl, (by omega), (by dsimp only; omega), (by dsimp only; omega), (by omega), (by omega)⟩⟩
  · refine gy_ifF rfl (by decide) (by decide) (by omega) hc1 ?_
    refine gz_s 2 (pc' := 6) (L' := [some (.ref x), some (.int (zi i))]) (S' := [.ref x, .int (zi i)]) rfl ?_
    refine gs_gtk rfl (by decide) rfl hS.1 tx rfl rfl ex4 ?_
    refine gs_gtk rfl (by decide) rfl hS.1 tsk rfl rfl ec0 ?_
    by_cases hc4 : (i : Int) < c0
    · refine gy_icT (pc' := 25) rfl (by decide) (by decide) (by omega) (by omega) hc4 ?_
      refine gz_s 1 (pc' := 26) (L' := [some (.ref x), some (.int (zi i))]) (S' := [.ref x]) rfl ?_
      refine gs_gtk rfl (by decide) rfl hS.1 tx rfl rfl ex4 ?_
      refine gs_gtk rfl (by decide) rfl hS.1 tsk rfl rfl ex0 ?_
      refine gz_s 1 (pc' := 33) (L' := [some (.ref x), some (.int (zi i))]) (S' := [.int (zi i), .ref bt]) rfl ?_
      have hl5 : 1024 ≤ h.2.2.2.1 bt ∧ h.2.2.2.1 bt ≤ 1000000 := gJ.rowl (G := gGG) hS.1 tbt rfl
      have hl6 : h.2.2.2.1 bt = h.2.2.2.1 bt := congrFun hS.2.2.2.2.1 bt
      refine gs_bald rfl (by decide) hS.1 tbt rfl rfl (Or.inl rfl) (by decide) (fun _ => rfl) (by omega) (by omega) (fun z7 ez7 az7 bz7 => ?_)
      have hix8 : gIx ty x ld (h.2.2.2.1 bt : Int) iv h := ⟨pic, b0, b1, b2, dr, sk, bt, n0, c0, ⟨tx, tdr, tsk, tbt⟩, ⟨ex2, ex3, ex4, ex0⟩, hpc, htc, ⟨en0, by omega, by omega⟩, ⟨eiv, by omega, by omega⟩, ⟨ec0, by omega, by omega⟩, ⟨by omega, by omega⟩, hrr, hrw⟩
      have G9 : gSg [] [] [] ty h ty h := gSg.ss G0 hS (by decide)
      exact gz_end (I := .ireturn) (len := 1) rfl (Or.inl rfl) ⟨ty, G9, ld, (h.2.2.2.1 bt : Int), iv, (by omega), (by omega), (by omega), (by omega), (by omega), (by omega), hix8, Or.inl ⟨z7, (gfin_b rfl rfl ez7), (by omega), (by omega), (by omega), (by dsimp only; omega), (by dsimp only; omega), (by omega), (by omega)⟩⟩
    · refine gy_icF rfl (by decide) (by decide) (by omega) (by omega) hc4 ?_
      have hix10 : gIx ty x ld (h.2.2.2.1 bt : Int) iv h := ⟨pic, b0, b1, b2, dr, sk, bt, n0, c0, ⟨tx, tdr, tsk, tbt⟩, ⟨ex2, ex3, ex4, ex0⟩, hpc, htc, ⟨en0, by omega, by omega⟩, ⟨eiv, by omega, by omega⟩, ⟨ec0, by omega, by omega⟩, ⟨by omega, by omega⟩, hrr, hrw⟩
      have G11 : gSg [] [] [] ty h ty h := gSg.ss G0 hS (by decide)
      exact gz_end (I := .new 108) (len := 3) rfl (Or.inr (by decide)) ⟨ty, G11, ld, (h.2.2.2.1 bt : Int), iv, (by omega), (by omega), (by omega), (by omega), (by omega), (by omega), hix10, Or.inr ⟨rfl, rfl, (by omega), (by dsimp only; omega), (by dsimp only; omega), (by omega), (by omega)⟩⟩
set_option maxRecDepth 20000 in
set_option maxHeartbeats 4000000 in
theorem cl_DctFilter_take (d : Nat) {ty : Nat → Nat} {h : gH} (hJ : gJ rT 1027 ty h) (x : Nat) (tx : ty x = 50) (ld : Int) (rld : 0 ≤ ld ∧ ld ≤ 192) (lb : Int) (rlb : 1024 ≤ lb ∧ lb ≤ 1000000) (iv : Int) (riv : 0 ≤ iv ∧ iv ≤ 100) (uq : gUq ty) (hyix : gIx ty x ld lb iv h) : gz gPP gGG gcn (d + 1) gt67 0 (gent [.ref x] 2) [] h (fun q _ => ∃ ty9 : Nat → Nat, gSg [] [] [51001, 52999] ty h ty9 q.2.2 ∧ ∃ z ld1 lb1 iv1 : Int, gfin gt67 q.1 q.2.1 = some (some (.int (zi z))) ∧ 0 ≤ z ∧ z ≤ 2000 ∧ 0 ≤ ld1 ∧ ld1 ≤ 192 ∧ 1024 ≤ lb1 ∧ lb1 ≤ 1000000 ∧ 0 ≤ iv1 ∧ iv1 ≤ 100 ∧ (iv1 = iv) ∧ (1024 * (((q.2.2.1 : Int) - h.1) - 31 - 2 * (ld1 - ld)) ≤ lb1 - lb) ∧ (((q.2.2.2.1 : Int) - h.2.1) ≤ 4303 + 12480 * (ld1 - ld) + 2 * (lb1 - lb)) ∧ (ld ≤ ld1) ∧ (lb ≤ lb1) ∧ (gIx ty9 x ld1 lb1 iv1 q.2.2)) := by
  have hS : gSs rT 1027 ty [51001, 52999] h h := gSs.rf hJ
  have G0 : gSg [] [] [51001, 52999] ty h ty h := gSg.rf hJ (fun x hx => by cases hx)
  obtain ⟨pic, b0, b1, b2, dr, sk, bt, n0, c0, ⟨_, tdr, tsk, tbt⟩, ⟨ex2, ex3, ex4, ex0⟩, hpc, htc, ⟨en0, rn0⟩, ⟨eiv, riv⟩, ⟨ec0, rc0⟩, ⟨lc0, llb⟩, hrr, hrw⟩ := hyix
  have tpic := hpc.1.1
  have tb0 := hpc.1.2.1
  have tb1 := hpc.1.2.2.1
  have tb2 := hpc.1.2.2.2
  refine gz_s 1 (pc' := 1) (L' := [some (.ref x), none]) (S' := [.ref x]) rfl ?_
  refine gs_gtk rfl (by decide) rfl hS.1 tx rfl rfl ex4 ?_
  refine gs_gtk rfl (by decide) rfl hS.1 tsk rfl rfl ec0 ?_
  refine gz_s 1 (pc' := 10) (L' := [some (.ref x), none]) (S' := [.int (zi 2000), .int (zi c0)]) rfl ?_
  refine gz_call rfl (by decide) rfl (by decide) (by decide) (gcal_of rfl rfl rfl (Nat.le_of_ble_eq_true rfl) rfl) (cl_Math_min _ hS.1 c0 (by omega) 2000 (by omega) ) (fun q1 _ wq1 => ?_)
  obtain ⟨pq1, oq1, hq1⟩ := q1
  obtain ⟨xq1, zq1, gq1, aq1, bq1, uq1_0, uq1_1, uq1_2⟩ := wq1
  refine ⟨_, gq1, ?_⟩
  show gz gPP gGG gcn _ _ 13 [some (.ref x), none] [.int (zi zq1)] hq1 _
  have sq1 : gSs rT 1027 ty [51001, 52999] h hq1 := gSs.tr hS xq1 (by decide)
  have s2 := (xq1.2.2.2.2.2 x 2 (by rw [tx]; decide)).trans ex2
  have s3 := (xq1.2.2.2.2.2 x 3 (by rw [tx]; decide)).trans ex3
  have s4 := (xq1.2.2.2.2.2 x 4 (by rw [tx]; decide)).trans ex4
  have s5 := (xq1.2.2.2.2.2 sk 0 (by rw [tsk]; decide)).trans ex0
  have s6 := (xq1.2.2.2.2.2 dr 8 (by rw [tdr]; decide)).trans en0
  have s7 := (xq1.2.2.2.2.2 dr 3 (by rw [tdr]; decide)).trans eiv
  have s8 := (xq1.2.2.2.2.2 sk 1 (by rw [tsk]; decide)).trans ec0
  have pr9 := gPC.fr xq1.2 (by decide) hpc
  have pr10 := gTc.fr xq1.2 (by decide) htc
  have pr11 := gRr.fr xq1.2 (by decide) hrr
  have pr12 := gRw.fr xq1.2 (by decide) hrw
  refine gz_s 2 (pc' := 15) (L' := [some (.ref x), some (.int (zi zq1))]) (S' := [.ref x]) rfl ?_
  refine gs_gtk rfl (by decide) rfl sq1.1 tx rfl rfl s4 ?_
  refine gs_gtk rfl (by decide) rfl sq1.1 tsk rfl rfl s5 ?_
  refine gz_s 2 (pc' := 23) (L' := [some (.ref x), some (.int (zi zq1))]) (S' := [.ref x, .int (zi 0), .ref bt]) rfl ?_
  refine gs_gtr rfl (by decide) rfl sq1.1 tx rfl rfl rfl (fun c13 ec13 tc13 => ?_)
  refine gs_gtr rfl (by decide) rfl sq1.1 tc13 rfl rfl rfl (fun c14 ec14 tc14 => ?_)
  refine gz_s 2 (pc' := 31) (L' := [some (.ref x), some (.int (zi zq1))]) (S' := [.int (zi zq1), .int (zi 0), .ref c14, .int (zi 0), .ref bt]) rfl ?_
  have k16 := sq1.2.1
  have k16b := sq1.2.2.1
  have hl17 : hq1.2.2.2.1 bt = h.2.2.2.1 bt := congrFun sq1.2.2.2.2.1 bt
  have hl18 : 2000 ≤ hq1.2.2.2.1 c14 ∧ hq1.2.2.2.1 c14 ≤ 2000 := gJ.rowl (G := gGG) sq1.1 tc14 rfl
  have hl19 : 1024 ≤ hq1.2.2.2.1 bt ∧ hq1.2.2.2.1 bt ≤ 1000000 := gJ.rowl (G := gGG) sq1.1 tbt rfl
  refine gs_copy rfl (by decide) (by omega) rfl sq1 tc14 rfl rfl tbt rfl rfl (Or.inr ⟨rfl, rfl⟩) (by decide) (by decide) (fun _ => rfl) (fun _ => rfl) (by decide) (by decide) (by omega) (by omega) (by omega) (by omega) (by omega) (by decide) (fun _ => (by decide : (52999 : Nat) ∈ ([51001, 52999] : List Nat))) (fun h15 sh15 f9h15 => ?_)
  have fh15 : ∀ b j, ¬ (b = c14 ∧ True) → h15.2.2.2.2 b j = hq1.2.2.2.2 b j := fun b j hn => f9h15 b j (fun e => hn ⟨e, trivial⟩)
  have pr20 := gPC.pa fh15 (sh15.2.2.2.2.1.trans sq1.2.2.2.2.1.symm) tc14 (fun _ => (by decide : ¬ (52999 : Nat) ∈ gPCp)) pr9
  have pr21 := gTc.pt fh15 tc14 (by decide) pr10
  have pr22 := gRr.pa fh15 (sh15.2.2.2.2.1.trans sq1.2.2.2.2.1.symm) tc14 (fun _ => (by decide : ¬ (52999 : Nat) ∈ gRrp)) pr11
  have pr23 := gRw.pa fh15 (sh15.2.2.2.2.1.trans sq1.2.2.2.2.1.symm) tc14 (fun _ => (by decide : ¬ (52999 : Nat) ∈ gRwp)) pr12
  have s24 := (fh15 x 2 (fun q => absurd (((tx).symm.trans (congrArg ty q.1)).trans tc14) (by decide))).trans s2
  have s25 := (fh15 x 3 (fun q => absurd (((tx).symm.trans (congrArg ty q.1)).trans tc14) (by decide))).trans s3
  have s26 := (fh15 x 4 (fun q => absurd (((tx).symm.trans (congrArg ty q.1)).trans tc14) (by decide))).trans s4
  have s27 := (fh15 sk 0 (fun q => absurd (((tsk).symm.trans (congrArg ty q.1)).trans tc14) (by decide))).trans s5
  have s28 := (fh15 dr 8 (fun q => absurd (((tdr).symm.trans (congrArg ty q.1)).trans tc14) (by decide))).trans s6
  have s29 := (fh15 dr 3 (fun q => absurd (((tdr).symm.trans (congrArg ty q.1)).trans tc14) (by decide))).trans s7
  have s30 := (fh15 sk 1 (fun q => absurd (((tsk).symm.trans (congrArg ty q.1)).trans tc14) (by decide))).trans s8
  have s31 := (fh15 x 0 (fun q => absurd (((tx).symm.trans (congrArg ty q.1)).trans tc14) (by decide))).trans ec13
  have s32 := (fh15 c13 0 (fun q => absurd (((tc13).symm.trans (congrArg ty q.1)).trans tc14) (by decide))).trans ec14
  refine gz_s 1 (pc' := 35) (L' := [some (.ref x), some (.int (zi zq1))]) (S' := [.ref x]) rfl ?_
  refine gs_gtk rfl (by decide) rfl sh15.1 tx rfl rfl s31 ?_
  refine gz_s 1 (pc' := 39) (L' := [some (.ref x), some (.int (zi zq1))]) (S' := [.int (zi zq1), .ref c13]) rfl ?_
  refine gs_put rfl (by decide) rfl sh15 tc13 rfl rfl rfl rfl (Or.inl rfl) (by decide) (by omega) (by omega) (fun h33 sh33 eh33 fh33 => ?_)
  have pr34 := gPC.pk fh33 (sh33.2.2.2.2.1.trans sh15.2.2.2.2.1.symm) tc13 (by decide) pr20
  have pr35 := gTc.pt fh33 tc13 (by decide) pr21
  have pr36 := gRr.pk fh33 (sh33.2.2.2.2.1.trans sh15.2.2.2.2.1.symm) tc13 (by decide) pr22
  have pr37 := gRw.pk fh33 (sh33.2.2.2.2.1.trans sh15.2.2.2.2.1.symm) tc13 (by decide) pr23
  have s38 := (fh33 x 2 (fun q => absurd q.2 (by decide))).trans s24
  have s39 := (fh33 x 3 (fun q => absurd q.2 (by decide))).trans s25
  have s40 := (fh33 x 4 (fun q => absurd q.2 (by decide))).trans s26
  have s41 := (fh33 sk 0 (fun q => absurd q.2 (by decide))).trans s27
  have s42 := (fh33 dr 8 (fun q => absurd q.2 (by decide))).trans s28
  have s43 := (fh33 dr 3 (fun q => absurd q.2 (by decide))).trans s29
  have s44 := (fh33 sk 1 (fun q => absurd (((tsk).symm.trans (congrArg ty q.1)).trans tc13) (by decide))).trans s30
  have s45 := (fh33 x 0 (fun q => absurd q.2 (by decide))).trans s31
  have s46 := (fh33 c13 0 (fun q => absurd q.2 (by decide))).trans s32
  refine gz_s 1 (pc' := 43) (L' := [some (.ref x), some (.int (zi zq1))]) (S' := [.int (zi zq1)]) rfl ?_
  have k47 := sh33.2.1
  have k47b := sh33.2.2.1
  have hl48 : h33.2.2.2.1 bt = h.2.2.2.1 bt := congrFun sh33.2.2.2.2.1 bt
  have k49 := sh33.2.1
  have k49b := sh33.2.2.1
  have hl50 : h33.2.2.2.1 bt = h.2.2.2.1 bt := congrFun sh33.2.2.2.2.1 bt
  have hix51 : gIx ty x ld (h33.2.2.2.1 bt : Int) iv h33 := ⟨pic, b0, b1, b2, dr, sk, bt, n0, c0, ⟨tx, tdr, tsk, tbt⟩, ⟨s38, s39, s40, s41⟩, pr34, pr35, ⟨s42, by omega, by omega⟩, ⟨s43, by omega, by omega⟩, ⟨s44, by omega, by omega⟩, ⟨by omega, by omega⟩, pr36, pr37⟩
  have G52 : gSg [] [] [51001, 52999] ty h ty h33 := gSg.ss G0 sh33 (by decide)
  exact gz_end (I := .ireturn) (len := 1) rfl (Or.inl rfl) ⟨ty, G52, zq1, ld, (h33.2.2.2.1 bt : Int), iv, rfl, (by omega), (by omega), (by omega), (by omega), (by omega), (by omega), (by omega), (by omega), (by omega), (by dsimp only; omega), (by dsimp only; omega), (by omega), (by omega), hix51⟩
set_option maxRecDepth 20000 in
set_option maxHeartbeats 4000000 in
theorem cl_DctFilter_read (d : Nat) {ty : Nat → Nat} {h : gH} (hJ : gJ rT 1027 ty h) (x : Nat) (tx : ty x = 50) (ld : Int) (rld : 0 ≤ ld ∧ ld ≤ 192) (lb : Int) (rlb : 1024 ≤ lb ∧ lb ≤ 1000000) (iv : Int) (riv : 0 ≤ iv ∧ iv ≤ 100) (uq : gUq ty) (hyix : gIx ty x ld lb iv h) : gz gPP gGG gcn (d + 8) gt7 0 (gent [.ref x] 2) [] h (fun q _ => ∃ ty9 : Nat → Nat, gSg [65, 66, 67, 68, 69, 70, 101, 102, 103, 112, 113, 200] [] [50005, 51001, 54002, 54003, 54004, 54005, 54006, 54007, 54008, 54009, 54010, 54011, 54012, 54013, 58999, 65003, 66001, 66002, 66003, 66004, 66005, 66010, 66011, 66012, 66013, 66014, 67001, 67002, 67003, 69999, 70999, 82000, 82001, 82002, 82003, 82004, 82005, 82006, 82007, 82008, 82009, 82010, 82011, 83000, 83001, 83002, 83003, 83004, 83005, 83006, 83007, 83008, 83009, 83010, 83011, 84000, 84001, 84002, 84003, 84004, 84005, 84006, 84007, 84008, 84009, 84010, 84011, 102999, 103999, 112999, 113999] ty h ty9 q.2.2 ∧ ∃ z ld1 lb1 iv1 : Int, gfin gt7 q.1 q.2.1 = some (some (.int (zi z))) ∧ (-2147483648) ≤ z ∧ z ≤ 2147483647 ∧ 0 ≤ ld1 ∧ ld1 ≤ 192 ∧ 1024 ≤ lb1 ∧ lb1 ≤ 1000000 ∧ 0 ≤ iv1 ∧ iv1 ≤ 100 ∧ (iv1 = iv) ∧ (1024 * (((q.2.2.1 : Int) - h.1) - 31 - 2 * (ld1 - ld)) ≤ lb1 - lb) ∧ (((q.2.2.2.1 : Int) - h.2.1) ≤ 4303 + 12480 * (ld1 - ld) + 2 * (lb1 - lb)) ∧ (ld ≤ ld1) ∧ (lb ≤ lb1) ∧ (gIx ty9 x ld1 lb1 iv1 q.2.2) ∧ gUq ty9) := by
  have hS : gSs rT 1027 ty [50005, 51001, 54002, 54003, 54004, 54005, 54006, 54007, 54008, 54009, 54010, 54011, 54012, 54013, 58999, 65003, 66001, 66002, 66003, 66004, 66005, 66010, 66011, 66012, 66013, 66014, 67001, 67002, 67003, 69999, 70999, 82000, 82001, 82002, 82003, 82004, 82005, 82006, 82007, 82008, 82009, 82010, 82011, 83000, 83001, 83002, 83003, 83004, 83005, 83006, 83007, 83008, 83009, 83010, 83011, 84000, 84001, 84002, 84003, 84004, 84005, 84006, 84007, 84008, 84009, 84010, 84011, 102999, 103999, 112999, 113999] h h := gSs.rf hJ
  have G0 : gSg [65, 66, 67, 68, 69, 70, 101, 102, 103, 112, 113, 200] [] [50005, 51001, 54002, 54003, 54004, 54005, 54006, 54007, 54008, 54009, 54010, 54011, 54012, 54013, 58999, 65003, 66001, 66002, 66003, 66004, 66005, 66010, 66011, 66012, 66013, 66014, 67001, 67002, 67003, 69999, 70999, 82000, 82001, 82002, 82003, 82004, 82005, 82006, 82007, 82008, 82009, 82010, 82011, 83000, 83001, 83002, 83003, 83004, 83005, 83006, 83007, 83008, 83009, 83010, 83011, 84000, 84001, 84002, 84003, 84004, 84005, 84006, 84007, 84008, 84009, 84010, 84011, 102999, 103999, 112999, 113999] ty h ty h := gSg.rf hJ (fun x hx => by cases hx)
  obtain ⟨pic, b0, b1, b2, dr, sk, bt, n0, c0, ⟨_, tdr, tsk, tbt⟩, ⟨ex2, ex3, ex4, ex0⟩, hpc, htc, ⟨en0, rn0⟩, ⟨eiv, riv⟩, ⟨ec0, rc0⟩, ⟨lc0, llb⟩, hrr, hrw⟩ := hyix
  have tpic := hpc.1.1
  have tb0 := hpc.1.2.1
  have tb1 := hpc.1.2.2.1
  have tb2 := hpc.1.2.2.2
  refine gz_s 1 (pc' := 1) (L' := [some (.ref x), none]) (S' := [.ref x]) rfl ?_
  refine gs_nul rfl (by decide) rfl hS.1 tx rfl rfl rfl (fun ec1 => ?_) (fun c1 ec1 tc1 => ?_)
  · skip
    have no9 := gRr.no hrr ec1
    refine gz_s 2 (pc' := 8) (L' := [some (.ref x), none]) (S' := [.ref x]) rfl ?_
    refine gs_newo rfl (by decide) rfl hS.1 (Nat.le_of_lt (Nat.lt_of_le_of_lt (gJ.cell hS.1 tx rfl).1 (gJ.cell hS.1 tx rfl).2.1)) (fun ty2 h3 c4 g5 tc4 kc4 zc4 nc4 mc4 ec4 dc4 => ?_)
    have mfc4 : h3.2.1 = h.2.1 + 4 := mc4
    have gac4 : h.1 ≤ c4 := by have h8 := G0.2.1; have h9 := hS.2.1; omega
    have nnc4 : 1027 ≤ c4 := by have h8 := (Nat.le_of_lt (Nat.lt_of_le_of_lt (gJ.cell hS.1 tx rfl).1 (gJ.cell hS.1 tx rfl).2.1)); omega
    have llc4 : c4 < _ := by rw [nc4, ec4]; exact Nat.lt_succ_self _
    have G6 : gSg [65, 66, 67, 68, 69, 70, 101, 102, 103, 112, 113, 200] [] [50005, 51001, 54002, 54003, 54004, 54005, 54006, 54007, 54008, 54009, 54010, 54011, 54012, 54013, 58999, 65003, 66001, 66002, 66003, 66004, 66005, 66010, 66011, 66012, 66013, 66014, 67001, 67002, 67003, 69999, 70999, 82000, 82001, 82002, 82003, 82004, 82005, 82006, 82007, 82008, 82009, 82010, 82011, 83000, 83001, 83002, 83003, 83004, 83005, 83006, 83007, 83008, 83009, 83010, 83011, 84000, 84001, 84002, 84003, 84004, 84005, 84006, 84007, 84008, 84009, 84010, 84011, 102999, 103999, 112999, 113999] ty h ty2 h3 := gSg.tr (gSg.ss G0 hS (by decide)) g5 (by decide) (by decide) (fun x hx => by cases hx)
    have t7 : ty2 x = 50 := gSg.typ g5 hS.1 tx rfl
    have t8 : ty2 pic = 54 := gSg.typ g5 hS.1 tpic rfl
    have t9 : ty2 b0 = 82 := gSg.typ g5 hS.1 tb0 rfl
    have t10 : ty2 b1 = 83 := gSg.typ g5 hS.1 tb1 rfl
    have t11 : ty2 b2 = 84 := gSg.typ g5 hS.1 tb2 rfl
    have t12 : ty2 dr = 55 := gSg.typ g5 hS.1 tdr rfl
    have t13 : ty2 sk = 56 := gSg.typ g5 hS.1 tsk rfl
    have t14 : ty2 bt = 114 := gSg.typ g5 hS.1 tbt rfl
    have hl15 : h3.2.2.2.1 bt = h.2.2.2.1 bt := gSg.len g5 hS.1 tbt rfl
    have s16 := gSg.at g5 hS.1 tx rfl (by decide) ex2
    have s17 := gSg.at g5 hS.1 tx rfl (by decide) ex3
    have s18 := gSg.at g5 hS.1 tx rfl (by decide) ex4
    have s19 := gSg.at g5 hS.1 tsk rfl (by decide) ex0
    have s20 := gSg.at g5 hS.1 tdr rfl (by decide) en0
    have s21 := gSg.at g5 hS.1 tdr rfl (by decide) eiv
    have s22 := gSg.at g5 hS.1 tsk rfl (by decide) ec0
    have s23 := gSg.at g5 hS.1 tx rfl (by decide) ec1
    have pr24 := gPC.gr g5 hS.1 (by decide) hpc
    have pr25 := gTc.gr g5 hS.1 (by decide) (by decide) htc
    have pr26 := gRr.gr g5 hS.1 (by decide) (by decide) hrr
    have pr27 := gRw.gr g5 hS.1 (by decide) (by decide) hrw
    have pr28 : gNo [65, 66, 67, 68, 69, 70] ty2 := gNo.gr g5 (by decide) (gNo.sub (by decide) no9)
    have uq29 := gSg.uq g5 uq (by decide)
    have sS30 : gSs rT 1027 ty2 [50005, 51001, 54002, 54003, 54004, 54005, 54006, 54007, 54008, 54009, 54010, 54011, 54012, 54013, 58999, 65003, 66001, 66002, 66003, 66004, 66005, 66010, 66011, 66012, 66013, 66014, 67001, 67002, 67003, 69999, 70999, 82000, 82001, 82002, 82003, 82004, 82005, 82006, 82007, 82008, 82009, 82010, 82011, 83000, 83001, 83002, 83003, 83004, 83005, 83006, 83007, 83008, 83009, 83010, 83011, 84000, 84001, 84002, 84003, 84004, 84005, 84006, 84007, 84008, 84009, 84010, 84011, 102999, 103999, 112999, 113999] h3 h3 := gSs.rf g5.1
    refine gz_s 2 (pc' := 13) (L' := [some (.ref x), none]) (S' := [.ref x, .ref c4, .ref c4, .ref x]) rfl ?_
    refine gs_gtr rfl (by decide) rfl sS30.1 t7 rfl rfl rfl (fun c31 ec31 tc31 => ?_)
    refine gz_s 1 (pc' := 17) (L' := [some (.ref x), none]) (S' := [.ref x, .ref c31, .ref c4, .ref c4, .ref x]) rfl ?_
    refine gs_gtk rfl (by decide) rfl sS30.1 t7 rfl rfl s16 ?_
    refine gz_call rfl (by decide) rfl (by decide) (by decide) (gcal_of rfl rfl rfl (Nat.le_of_ble_eq_true rfl) rfl) (ct_Reader _ sS30.1 c4 tc4 nnc4 llc4 kc4 zc4 dc4 c31 tc31 pic t8 pr28 uq29) (fun q32 _ wq32 => ?_)
    obtain ⟨pq32, oq32, hq32⟩ := q32
    obtain ⟨tyq32, xq32, trq32_0, gq32, uq32_0, uq32_1, uqq32⟩ := wq32
    dsimp only at uq32_0 uq32_1
    refine ⟨_, gq32, ?_⟩
    show gz gPP gGG gcn _ _ 23 [some (.ref x), none] [.ref c4, .ref x] hq32 _
    have G33 : gSg [65, 66, 67, 68, 69, 70, 101, 102, 103, 112, 113, 200] [] [50005, 51001, 54002, 54003, 54004, 54005, 54006, 54007, 54008, 54009, 54010, 54011, 54012, 54013, 58999, 65003, 66001, 66002, 66003, 66004, 66005, 66010, 66011, 66012, 66013, 66014, 67001, 67002, 67003, 69999, 70999, 82000, 82001, 82002, 82003, 82004, 82005, 82006, 82007, 82008, 82009, 82010, 82011, 83000, 83001, 83002, 83003, 83004, 83005, 83006, 83007, 83008, 83009, 83010, 83011, 84000, 84001, 84002, 84003, 84004, 84005, 84006, 84007, 84008, 84009, 84010, 84011, 102999, 103999, 112999, 113999] ty h tyq32 hq32 := gSg.tr (gSg.ss G6 sS30 (by decide)) xq32 (by decide) (by decide) (fun x hx => Or.inl (by rw [List.mem_singleton.mp hx]; exact gac4))
    have t34 : tyq32 x = 50 := gSg.typ xq32 sS30.1 t7 rfl
    have t35 : tyq32 pic = 54 := gSg.typ xq32 sS30.1 t8 rfl
    have t36 : tyq32 b0 = 82 := gSg.typ xq32 sS30.1 t9 rfl
    have t37 : tyq32 b1 = 83 := gSg.typ xq32 sS30.1 t10 rfl
    have t38 : tyq32 b2 = 84 := gSg.typ xq32 sS30.1 t11 rfl
    have t39 : tyq32 dr = 55 := gSg.typ xq32 sS30.1 t12 rfl
    have t40 : tyq32 sk = 56 := gSg.typ xq32 sS30.1 t13 rfl
    have t41 : tyq32 bt = 114 := gSg.typ xq32 sS30.1 t14 rfl
    have hl42 : hq32.2.2.2.1 bt = h3.2.2.2.1 bt := gSg.len xq32 sS30.1 t14 rfl
    have t43 : tyq32 c31 = 51 := gSg.typ xq32 sS30.1 tc31 rfl
    have s44 := gSg.at xq32 sS30.1 t7 rfl (by decide) s16
    have s45 := gSg.at xq32 sS30.1 t7 rfl (by decide) s17
    have s46 := gSg.at xq32 sS30.1 t7 rfl (by decide) s18
    have s47 := gSg.at xq32 sS30.1 t13 rfl (by decide) s19
    have s48 := gSg.at xq32 sS30.1 t12 rfl (by decide) s20
    have s49 := gSg.at xq32 sS30.1 t12 rfl (by decide) s21
    have s50 := gSg.at xq32 sS30.1 t13 rfl (by decide) s22
    have s51 := gSg.at xq32 sS30.1 t7 rfl (by decide) s23
    have s52 := gSg.at xq32 sS30.1 t7 rfl (by decide) ec31
    have pr53 := gPC.gr xq32 sS30.1 (by decide) pr24
    have pr54 := gTc.gr xq32 sS30.1 (by decide) (by decide) pr25
    have pr55 := gRw.gr xq32 sS30.1 (by decide) (by decide) pr27
    have sS56 : gSs rT 1027 tyq32 [50005, 51001, 54002, 54003, 54004, 54005, 54006, 54007, 54008, 54009, 54010, 54011, 54012, 54013, 58999, 65003, 66001, 66002, 66003, 66004, 66005, 66010, 66011, 66012, 66013, 66014, 67001, 67002, 67003, 69999, 70999, 82000, 82001, 82002, 82003, 82004, 82005, 82006, 82007, 82008, 82009, 82010, 82011, 83000, 83001, 83002, 83003, 83004, 83005, 83006, 83007, 83008, 83009, 83010, 83011, 84000, 84001, 84002, 84003, 84004, 84005, 84006, 84007, 84008, 84009, 84010, 84011, 102999, 103999, 112999, 113999] hq32 hq32 := gSs.rf xq32.1
    refine gs_ptr rfl (by decide) rfl sS56 t34 rfl rfl (Or.inr rfl) rfl (Or.inl rfl) (by decide) trq32_0 (fun h57 sh57 eh57 fh57 => ?_)
    have pr58 := gPC.pk fh57 (sh57.2.2.2.2.1.trans sS56.2.2.2.2.1.symm) t34 (by decide) pr53
    have pr59 := gTc.pt fh57 t34 (by decide) pr54
    have pr60 := gRw.pk fh57 (sh57.2.2.2.2.1.trans sS56.2.2.2.2.1.symm) t34 (by decide) pr55
    have s61 := (fh57 x 2 (fun q => absurd q.2 (by decide))).trans s44
    have s62 := (fh57 x 3 (fun q => absurd q.2 (by decide))).trans s45
    have s63 := (fh57 x 4 (fun q => absurd q.2 (by decide))).trans s46
    have s64 := (fh57 sk 0 (fun q => absurd q.2 (by decide))).trans s47
    have s65 := (fh57 dr 8 (fun q => absurd q.2 (by decide))).trans s48
    have s66 := (fh57 dr 3 (fun q => absurd q.2 (by decide))).trans s49
    have s67 := (fh57 sk 1 (fun q => absurd q.2 (by decide))).trans s50
    have s68 := (fh57 x 0 (fun q => absurd q.2 (by decide))).trans s52
    refine gz_s 1 (pc' := 27) (L' := [some (.ref x), none]) (S' := [.ref x]) rfl ?_
    refine gs_gtk rfl (by decide) rfl sh57.1 t34 rfl rfl eh57 ?_
    refine gz_s 1 (pc' := 31) (L' := [some (.ref x), none]) (S' := [.ref x, .ref c4]) rfl ?_
    refine gs_gtr rfl (by decide) rfl sh57.1 t34 rfl rfl rfl (fun c69 ec69 tc69 => ?_)
    have k70 := sh57.2.1
    have k70b := sh57.2.2.1
    have hl71 : h57.2.2.2.1 bt = hq32.2.2.2.1 bt := congrFun sh57.2.2.2.2.1 bt
    obtain ⟨c72, ec72, tc72⟩ := gJ.ref (k := 0) (G := gGG) sh57.1 trq32_0 rfl rfl rfl
    have ee73 : c31 = c72 := uqq32 c31 c72 (t43.trans tc72.symm) (by rw [t43]; decide) (by rw [t43]; decide)
    subst ee73
    obtain ⟨c74, ec74, tc74⟩ := gJ.ref (k := 1) (G := gGG) sh57.1 trq32_0 rfl rfl rfl
    have ee75 : pic = c74 := uqq32 pic c74 (t35.trans tc74.symm) (by rw [t35]; decide) (by rw [t35]; decide)
    subst ee75
    obtain ⟨c76, ec76, tc76⟩ := gJ.ref (k := 0) (G := gGG) sh57.1 t35 rfl rfl rfl
    obtain ⟨c77, ec77, tc77⟩ := gJ.arl (j := 0) (q2 := 82) sh57.1 tc76 rfl rfl rfl (by decide)
    have ee78 : b0 = c77 := uqq32 b0 c77 (t36.trans tc77.symm) (by rw [t36]; decide) (by rw [t36]; decide)
    subst ee78
    obtain ⟨c79, ec79, tc79⟩ := gJ.arl (j := 1) (q2 := 83) sh57.1 tc76 rfl rfl rfl (by decide)
    have ee80 : b1 = c79 := uqq32 b1 c79 (t37.trans tc79.symm) (by rw [t37]; decide) (by rw [t37]; decide)
    subst ee80
    obtain ⟨c81, ec81, tc81⟩ := gJ.arl (j := 2) (q2 := 84) sh57.1 tc76 rfl rfl rfl (by decide)
    have ee82 : b2 = c81 := uqq32 b2 c81 (t38.trans tc81.symm) (by rw [t38]; decide) (by rw [t38]; decide)
    subst ee82
    obtain ⟨c83, ec83, tc83⟩ := gJ.ref (k := 2) (G := gGG) sh57.1 trq32_0 rfl rfl rfl
    obtain ⟨z84, ez84, az84, bz84⟩ := gJ.int (k := 1) (G := gGG) sh57.1 t43 rfl rfl rfl
    refine gz_call rfl (by decide) rfl (by decide) (by decide) (gcal_of rfl rfl rfl (Nat.le_of_ble_eq_true rfl) (gJ.recv (G := gGG) sh57.1 trq32_0 rfl rfl)) (cl_Reader_readPicture _ sh57.1 c4 trq32_0 c69 tc69 c31 ec72 t43 pic ec74 t35 c76 ec76 tc76 b0 ec77 t36 b1 ec79 t37 b2 ec81 t38 c83 ec83 tc83 z84 ez84 (by omega) ld (by omega) uqq32 pr58) (fun q85 _ wq85 => ?_)
    obtain ⟨pq85, oq85, hq85⟩ := q85
    obtain ⟨tyq85, xq85, zq85, xq85_0, gq85, aq85, bq85, axq85_0, bxq85_0, uq85_0, uq85_1, uq85_2, yq85_0⟩ := wq85
    dsimp only at uq85_0 uq85_1
    refine ⟨_, gq85, ?_⟩
    show gz gPP gGG gcn _ _ 37 [some (.ref x), none] [.int (zi zq85)] hq85 _
    have G86 : gSg [65, 66, 67, 68, 69, 70, 101, 102, 103, 112, 113, 200] [] [50005, 51001, 54002, 54003, 54004, 54005, 54006, 54007, 54008, 54009, 54010, 54011, 54012, 54013, 58999, 65003, 66001, 66002, 66003, 66004, 66005, 66010, 66011, 66012, 66013, 66014, 67001, 67002, 67003, 69999, 70999, 82000, 82001, 82002, 82003, 82004, 82005, 82006, 82007, 82008, 82009, 82010, 82011, 83000, 83001, 83002, 83003, 83004, 83005, 83006, 83007, 83008, 83009, 83010, 83011, 84000, 84001, 84002, 84003, 84004, 84005, 84006, 84007, 84008, 84009, 84010, 84011, 102999, 103999, 112999, 113999] ty h tyq85 hq85 := gSg.tr (gSg.ss G33 sh57 (by decide)) xq85 (by decide) (by decide) (fun x hx => by cases hx)
    have t87 : tyq85 x = 50 := gSg.typ xq85 sh57.1 t34 rfl
    have t88 : tyq85 pic = 54 := gSg.typ xq85 sh57.1 t35 rfl
    have t89 : tyq85 b0 = 82 := gSg.typ xq85 sh57.1 t36 rfl
    have t90 : tyq85 b1 = 83 := gSg.typ xq85 sh57.1 t37 rfl
    have t91 : tyq85 b2 = 84 := gSg.typ xq85 sh57.1 t38 rfl
    have t92 : tyq85 dr = 55 := gSg.typ xq85 sh57.1 t39 rfl
    have t93 : tyq85 sk = 56 := gSg.typ xq85 sh57.1 t40 rfl
    have t94 : tyq85 bt = 114 := gSg.typ xq85 sh57.1 t41 rfl
    have hl95 : hq85.2.2.2.1 bt = h57.2.2.2.1 bt := gSg.len xq85 sh57.1 t41 rfl
    have t96 : tyq85 c4 = 65 := gSg.typ xq85 sh57.1 trq32_0 rfl
    have t97 : tyq85 c31 = 51 := gSg.typ xq85 sh57.1 t43 rfl
    have t98 : tyq85 c69 = 53 := gSg.typ xq85 sh57.1 tc69 rfl
    have t99 : tyq85 c76 = 57 := gSg.typ xq85 sh57.1 tc76 rfl
    have t100 : tyq85 c83 = 66 := gSg.typ xq85 sh57.1 tc83 rfl
    have s101 := gSg.at xq85 sh57.1 t34 rfl (by decide) s61
    have s102 := gSg.at xq85 sh57.1 t34 rfl (by decide) s62
    have s103 := gSg.at xq85 sh57.1 t34 rfl (by decide) s63
    have s104 := gSg.at xq85 sh57.1 t40 rfl (by decide) s64
    have s105 := gSg.at xq85 sh57.1 t39 rfl (by decide) s65
    have s106 := gSg.at xq85 sh57.1 t39 rfl (by decide) s66
    have s107 := gSg.at xq85 sh57.1 t40 rfl (by decide) s67
    have s108 := gSg.at xq85 sh57.1 t34 rfl (by decide) s68
    have s109 := gSg.at xq85 sh57.1 t34 rfl (by decide) eh57
    have s110 := gSg.at xq85 sh57.1 t34 rfl (by decide) ec69
    have s111 := gSg.at xq85 sh57.1 trq32_0 rfl (by decide) ec72
    have s112 := gSg.at xq85 sh57.1 trq32_0 rfl (by decide) ec74
    have s113 := gSg.at xq85 sh57.1 t35 rfl (by decide) ec76
    have s114 := gSg.at xq85 sh57.1 tc76 rfl (by decide) ec77
    have s115 := gSg.at xq85 sh57.1 tc76 rfl (by decide) ec79
    have s116 := gSg.at xq85 sh57.1 tc76 rfl (by decide) ec81
    have s117 := gSg.at xq85 sh57.1 trq32_0 rfl (by decide) ec83
    have s118 := gSg.at xq85 sh57.1 t43 rfl (by decide) ez84
    have pr119 := gTc.gr xq85 sh57.1 (by decide) (by decide) pr59
    have pr120 := gRw.gr xq85 sh57.1 (by decide) (by decide) pr60
    have uq121 := gSg.uq xq85 uqq32 (by decide)
    have sS122 : gSs rT 1027 tyq85 [50005, 51001, 54002, 54003, 54004, 54005, 54006, 54007, 54008, 54009, 54010, 54011, 54012, 54013, 58999, 65003, 66001, 66002, 66003, 66004, 66005, 66010, 66011, 66012, 66013, 66014, 67001, 67002, 67003, 69999, 70999, 82000, 82001, 82002, 82003, 82004, 82005, 82006, 82007, 82008, 82009, 82010, 82011, 83000, 83001, 83002, 83003, 83004, 83005, 83006, 83007, 83008, 83009, 83010, 83011, 84000, 84001, 84002, 84003, 84004, 84005, 84006, 84007, 84008, 84009, 84010, 84011, 102999, 103999, 112999, 113999] hq85 hq85 := gSs.rf xq85.1
    refine gz_s 2 (pc' := 39) (L' := [some (.ref x), some (.int (zi zq85))]) (S' := [.ref x]) rfl ?_
    refine gs_gtk rfl (by decide) rfl sS122.1 t87 rfl rfl s108 ?_
    refine gz_s 1 (pc' := 43) (L' := [some (.ref x), some (.int (zi zq85))]) (S' := [.int (zi 0), .ref c31]) rfl ?_
    refine gs_put rfl (by decide) rfl sS122 t97 rfl rfl rfl rfl (Or.inl rfl) (by decide) (by omega) (by omega) (fun h123 sh123 eh123 fh123 => ?_)
    have pr124 := gTc.pt fh123 t97 (by decide) pr119
    have pr125 := gRw.pk fh123 (sh123.2.2.2.2.1.trans sS122.2.2.2.2.1.symm) t97 (by decide) pr120
    have pr126 := gPC.pk fh123 (sh123.2.2.2.2.1.trans sS122.2.2.2.2.1.symm) t97 (by decide) yq85_0
    have s127 := (fh123 x 2 (fun q => absurd q.2 (by decide))).trans s101
    have s128 := (fh123 x 3 (fun q => absurd q.2 (by decide))).trans s102
    have s129 := (fh123 x 4 (fun q => absurd q.2 (by decide))).trans s103
    have s130 := (fh123 sk 0 (fun q => absurd q.2 (by decide))).trans s104
    have s131 := (fh123 dr 8 (fun q => absurd q.2 (by decide))).trans s105
    have s132 := (fh123 dr 3 (fun q => absurd q.2 (by decide))).trans s106
    have s133 := (fh123 sk 1 (fun q => absurd (((t93).symm.trans (congrArg tyq85 q.1)).trans t97) (by decide))).trans s107
    have s134 := (fh123 x 0 (fun q => absurd q.2 (by decide))).trans s108
    have s135 := (fh123 x 5 (fun q => absurd q.2 (by decide))).trans s109
    have s136 := (fh123 x 1 (fun q => absurd (((t87).symm.trans (congrArg tyq85 q.1)).trans t97) (by decide))).trans s110
    have s137 := (fh123 c4 0 (fun q => absurd q.2 (by decide))).trans s111
    have s138 := (fh123 c4 1 (fun q => absurd (((t96).symm.trans (congrArg tyq85 q.1)).trans t97) (by decide))).trans s112
    have s139 := (fh123 pic 0 (fun q => absurd q.2 (by decide))).trans s113
    have s140 := (fh123 c76 0 (fun q => absurd (((t99).symm.trans (congrArg tyq85 q.1)).trans t97) (by decide))).trans s114
    have s141 := (fh123 c76 1 (fun q => absurd (((t99).symm.trans (congrArg tyq85 q.1)).trans t97) (by decide))).trans s115
    have s142 := (fh123 c76 2 (fun q => absurd (((t99).symm.trans (congrArg tyq85 q.1)).trans t97) (by decide))).trans s116
    have s143 := (fh123 c4 2 (fun q => absurd q.2 (by decide))).trans s117
    refine gz_s 1 (pc' := 47) (L' := [some (.ref x), some (.int (zi zq85))]) (S' := [.int (zi zq85)]) rfl ?_
    have k144 := sh123.2.1
    have k144b := sh123.2.2.1
    have hl145 : h123.2.2.2.1 bt = hq85.2.2.2.1 bt := congrFun sh123.2.2.2.2.1 bt
    have k146 := sh123.2.1
    have k146b := sh123.2.2.1
    have hl147 : h123.2.2.2.1 bt = hq85.2.2.2.1 bt := congrFun sh123.2.2.2.2.1 bt
    have hix148 : gIx tyq85 x xq85_0 (h123.2.2.2.1 bt : Int) iv h123 := ⟨pic, b0, b1, b2, dr, sk, bt, n0, c0, ⟨t87, t92, t93, t94⟩, ⟨s127, s128, s129, s130⟩, pr126, pr124, ⟨s131, by omega, by omega⟩, ⟨s132, by omega, by omega⟩, ⟨s133, by omega, by omega⟩, ⟨by omega, by omega⟩, ⟨t87, Or.inr ⟨c4, s135, t96⟩⟩, pr125⟩
    have G149 : gSg [65, 66, 67, 68, 69, 70, 101, 102, 103, 112, 113, 200] [] [50005, 51001, 54002, 54003, 54004, 54005, 54006, 54007, 54008, 54009, 54010, 54011, 54012, 54013, 58999, 65003, 66001, 66002, 66003, 66004, 66005, 66010, 66011, 66012, 66013, 66014, 67001, 67002, 67003, 69999, 70999, 82000, 82001, 82002, 82003, 82004, 82005, 82006, 82007, 82008, 82009, 82010, 82011, 83000, 83001, 83002, 83003, 83004, 83005, 83006, 83007, 83008, 83009, 83010, 83011, 84000, 84001, 84002, 84003, 84004, 84005, 84006, 84007, 84008, 84009, 84010, 84011, 102999, 103999, 112999, 113999] ty h tyq85 h123 := gSg.ss G86 sh123 (by decide)
    exact gz_end (I := .ireturn) (len := 1) rfl (Or.inl rfl) ⟨tyq85, G149, zq85, xq85_0, (h123.2.2.2.1 bt : Int), iv, rfl, (by omega), (by omega), (by omega), (by omega), (by omega), (by omega), (by omega), (by omega), (by omega), (by dsimp only; omega), (by dsimp only; omega), (by omega), (by omega), hix148, uq121⟩
  · skip
    refine gz_s 2 (pc' := 27) (L' := [some (.ref x), none]) (S' := [.ref x]) rfl ?_
    refine gs_gtk rfl (by decide) rfl hS.1 tx rfl rfl ec1 ?_
    refine gz_s 1 (pc' := 31) (L' := [some (.ref x), none]) (S' := [.ref x, .ref c1]) rfl ?_
    refine gs_gtr rfl (by decide) rfl hS.1 tx rfl rfl rfl (fun c150 ec150 tc150 => ?_)
    obtain ⟨c151, ec151, tc151⟩ := gJ.ref (k := 0) (G := gGG) hS.1 tc1 rfl rfl rfl
    obtain ⟨c152, ec152, tc152⟩ := gJ.ref (k := 1) (G := gGG) hS.1 tc1 rfl rfl rfl
    have ee153 : pic = c152 := uq pic c152 (tpic.trans tc152.symm) (by rw [tpic]; decide) (by rw [tpic]; decide)
    subst ee153
    obtain ⟨c154, ec154, tc154⟩ := gJ.ref (k := 0) (G := gGG) hS.1 tpic rfl rfl rfl
    obtain ⟨c155, ec155, tc155⟩ := gJ.arl (j := 0) (q2 := 82) hS.1 tc154 rfl rfl rfl (by decide)
    have ee156 : b0 = c155 := uq b0 c155 (tb0.trans tc155.symm) (by rw [tb0]; decide) (by rw [tb0]; decide)
    subst ee156
    obtain ⟨c157, ec157, tc157⟩ := gJ.arl (j := 1) (q2 := 83) hS.1 tc154 rfl rfl rfl (by decide)
    have ee158 : b1 = c157 := uq b1 c157 (tb1.trans tc157.symm) (by rw [tb1]; decide) (by rw [tb1]; decide)
    subst ee158
    obtain ⟨c159, ec159, tc159⟩ := gJ.arl (j := 2) (q2 := 84) hS.1 tc154 rfl rfl rfl (by decide)
    have ee160 : b2 = c159 := uq b2 c159 (tb2.trans tc159.symm) (by rw [tb2]; decide) (by rw [tb2]; decide)
    subst ee160
    obtain ⟨c161, ec161, tc161⟩ := gJ.ref (k := 2) (G := gGG) hS.1 tc1 rfl rfl rfl
    obtain ⟨z162, ez162, az162, bz162⟩ := gJ.int (k := 1) (G := gGG) hS.1 tc151 rfl rfl rfl
    refine gz_call rfl (by decide) rfl (by decide) (by decide) (gcal_of rfl rfl rfl (Nat.le_of_ble_eq_true rfl) (gJ.recv (G := gGG) hS.1 tc1 rfl rfl)) (cl_Reader_readPicture _ hS.1 c1 tc1 c150 tc150 c151 ec151 tc151 pic ec152 tpic c154 ec154 tc154 b0 ec155 tb0 b1 ec157 tb1 b2 ec159 tb2 c161 ec161 tc161 z162 ez162 (by omega) ld (by omega) uq hpc) (fun q163 _ wq163 => ?_)
    obtain ⟨pq163, oq163, hq163⟩ := q163
    obtain ⟨tyq163, xq163, zq163, xq163_0, gq163, aq163, bq163, axq163_0, bxq163_0, uq163_0, uq163_1, uq163_2, yq163_0⟩ := wq163
    dsimp only at uq163_0 uq163_1
    refine ⟨_, gq163, ?_⟩
    show gz gPP gGG gcn _ _ 37 [some (.ref x), none] [.int (zi zq163)] hq163 _
    have G164 : gSg [65, 66, 67, 68, 69, 70, 101, 102, 103, 112, 113, 200] [] [50005, 51001, 54002, 54003, 54004, 54005, 54006, 54007, 54008, 54009, 54010, 54011, 54012, 54013, 58999, 65003, 66001, 66002, 66003, 66004, 66005, 66010, 66011, 66012, 66013, 66014, 67001, 67002, 67003, 69999, 70999, 82000, 82001, 82002, 82003, 82004, 82005, 82006, 82007, 82008, 82009, 82010, 82011, 83000, 83001, 83002, 83003, 83004, 83005, 83006, 83007, 83008, 83009, 83010, 83011, 84000, 84001, 84002, 84003, 84004, 84005, 84006, 84007, 84008, 84009, 84010, 84011, 102999, 103999, 112999, 113999] ty h tyq163 hq163 := gSg.tr (gSg.ss G0 hS (by decide)) xq163 (by decide) (by decide) (fun x hx => by cases hx)
    have t165 : tyq163 x = 50 := gSg.typ xq163 hS.1 tx rfl
    have t166 : tyq163 pic = 54 := gSg.typ xq163 hS.1 tpic rfl
    have t167 : tyq163 b0 = 82 := gSg.typ xq163 hS.1 tb0 rfl
    have t168 : tyq163 b1 = 83 := gSg.typ xq163 hS.1 tb1 rfl
    have t169 : tyq163 b2 = 84 := gSg.typ xq163 hS.1 tb2 rfl
    have t170 : tyq163 dr = 55 := gSg.typ xq163 hS.1 tdr rfl
    have t171 : tyq163 sk = 56 := gSg.typ xq163 hS.1 tsk rfl
    have t172 : tyq163 bt = 114 := gSg.typ xq163 hS.1 tbt rfl
    have hl173 : hq163.2.2.2.1 bt = h.2.2.2.1 bt := gSg.len xq163 hS.1 tbt rfl
    have t174 : tyq163 c1 = 65 := gSg.typ xq163 hS.1 tc1 rfl
    have t175 : tyq163 c150 = 53 := gSg.typ xq163 hS.1 tc150 rfl
    have t176 : tyq163 c151 = 51 := gSg.typ xq163 hS.1 tc151 rfl
    have t177 : tyq163 c154 = 57 := gSg.typ xq163 hS.1 tc154 rfl
    have t178 : tyq163 c161 = 66 := gSg.typ xq163 hS.1 tc161 rfl
    have s179 := gSg.at xq163 hS.1 tx rfl (by decide) ex2
    have s180 := gSg.at xq163 hS.1 tx rfl (by decide) ex3
    have s181 := gSg.at xq163 hS.1 tx rfl (by decide) ex4
    have s182 := gSg.at xq163 hS.1 tsk rfl (by decide) ex0
    have s183 := gSg.at xq163 hS.1 tdr rfl (by decide) en0
    have s184 := gSg.at xq163 hS.1 tdr rfl (by decide) eiv
    have s185 := gSg.at xq163 hS.1 tsk rfl (by decide) ec0
    have s186 := gSg.at xq163 hS.1 tx rfl (by decide) ec1
    have s187 := gSg.at xq163 hS.1 tx rfl (by decide) ec150
    have s188 := gSg.at xq163 hS.1 tc1 rfl (by decide) ec151
    have s189 := gSg.at xq163 hS.1 tc1 rfl (by decide) ec152
    have s190 := gSg.at xq163 hS.1 tpic rfl (by decide) ec154
    have s191 := gSg.at xq163 hS.1 tc154 rfl (by decide) ec155
    have s192 := gSg.at xq163 hS.1 tc154 rfl (by decide) ec157
    have s193 := gSg.at xq163 hS.1 tc154 rfl (by decide) ec159
    have s194 := gSg.at xq163 hS.1 tc1 rfl (by decide) ec161
    have s195 := gSg.at xq163 hS.1 tc151 rfl (by decide) ez162
    have pr196 := gTc.gr xq163 hS.1 (by decide) (by decide) htc
    have pr197 := gRr.gr xq163 hS.1 (by decide) (by decide) hrr
    have pr198 := gRw.gr xq163 hS.1 (by decide) (by decide) hrw
    have uq199 := gSg.uq xq163 uq (by decide)
    have sS200 : gSs rT 1027 tyq163 [50005, 51001, 54002, 54003, 54004, 54005, 54006, 54007, 54008, 54009, 54010, 54011, 54012, 54013, 58999, 65003, 66001, 66002, 66003, 66004, 66005, 66010, 66011, 66012, 66013, 66014, 67001, 67002, 67003, 69999, 70999, 82000, 82001, 82002, 82003, 82004, 82005, 82006, 82007, 82008, 82009, 82010, 82011, 83000, 83001, 83002, 83003, 83004, 83005, 83006, 83007, 83008, 83009, 83010, 83011, 84000, 84001, 84002, 84003, 84004, 84005, 84006, 84007, 84008, 84009, 84010, 84011, 102999, 103999, 112999, 113999] hq163 hq163 := gSs.rf xq163.1
    refine gz_s 2 (pc' := 39) (L' := [some (.ref x), some (.int (zi zq163))]) (S' := [.ref x]) rfl ?_
    refine gs_gtr rfl (by decide) rfl sS200.1 t165 rfl rfl rfl (fun c201 ec201 tc201 => ?_)
    have ee202 : c151 = c201 := uq199 c151 c201 (t176.trans tc201.symm) (by rw [t176]; decide) (by rw [t176]; decide)
    subst ee202
    refine gz_s 1 (pc' := 43) (L' := [some (.ref x), some (.int (zi zq163))]) (S' := [.int (zi 0), .ref c151]) rfl ?_
    refine gs_put rfl (by decide) rfl sS200 t176 rfl rfl rfl rfl (Or.inl rfl) (by decide) (by omega) (by omega) (fun h203 sh203 eh203 fh203 => ?_)
    have pr204 := gTc.pt fh203 t176 (by decide) pr196
    have pr205 := gRr.pk fh203 (sh203.2.2.2.2.1.trans sS200.2.2.2.2.1.symm) t176 (by decide) pr197
    have pr206 := gRw.pk fh203 (sh203.2.2.2.2.1.trans sS200.2.2.2.2.1.symm) t176 (by decide) pr198
    have pr207 := gPC.pk fh203 (sh203.2.2.2.2.1.trans sS200.2.2.2.2.1.symm) t176 (by decide) yq163_0
    have s208 := (fh203 x 2 (fun q => absurd q.2 (by decide))).trans s179
    have s209 := (fh203 x 3 (fun q => absurd q.2 (by decide))).trans s180
    have s210 := (fh203 x 4 (fun q => absurd q.2 (by decide))).trans s181
    have s211 := (fh203 sk 0 (fun q => absurd q.2 (by decide))).trans s182
    have s212 := (fh203 dr 8 (fun q => absurd q.2 (by decide))).trans s183
    have s213 := (fh203 dr 3 (fun q => absurd q.2 (by decide))).trans s184
    have s214 := (fh203 sk 1 (fun q => absurd (((t171).symm.trans (congrArg tyq163 q.1)).trans t176) (by decide))).trans s185
    have s215 := (fh203 x 5 (fun q => absurd q.2 (by decide))).trans s186
    have s216 := (fh203 x 1 (fun q => absurd (((t165).symm.trans (congrArg tyq163 q.1)).trans t176) (by decide))).trans s187
    have s217 := (fh203 c1 0 (fun q => absurd q.2 (by decide))).trans s188
    have s218 := (fh203 c1 1 (fun q => absurd (((t174).symm.trans (congrArg tyq163 q.1)).trans t176) (by decide))).trans s189
    have s219 := (fh203 pic 0 (fun q => absurd q.2 (by decide))).trans s190
    have s220 := (fh203 c154 0 (fun q => absurd (((t177).symm.trans (congrArg tyq163 q.1)).trans t176) (by decide))).trans s191
    have s221 := (fh203 c154 1 (fun q => absurd (((t177).symm.trans (congrArg tyq163 q.1)).trans t176) (by decide))).trans s192
    have s222 := (fh203 c154 2 (fun q => absurd (((t177).symm.trans (congrArg tyq163 q.1)).trans t176) (by decide))).trans s193
    have s223 := (fh203 c1 2 (fun q => absurd q.2 (by decide))).trans s194
    have s224 := (fh203 x 0 (fun q => absurd q.2 (by decide))).trans ec201
    refine gz_s 1 (pc' := 47) (L' := [some (.ref x), some (.int (zi zq163))]) (S' := [.int (zi zq163)]) rfl ?_
    have k225 := sh203.2.1
    have k225b := sh203.2.2.1
    have hl226 : h203.2.2.2.1 bt = hq163.2.2.2.1 bt := congrFun sh203.2.2.2.2.1 bt
    have k227 := sh203.2.1
    have k227b := sh203.2.2.1
    have hl228 : h203.2.2.2.1 bt = hq163.2.2.2.1 bt := congrFun sh203.2.2.2.2.1 bt
    have hix229 : gIx tyq163 x xq163_0 (h203.2.2.2.1 bt : Int) iv h203 := ⟨pic, b0, b1, b2, dr, sk, bt, n0, c0, ⟨t165, t170, t171, t172⟩, ⟨s208, s209, s210, s211⟩, pr207, pr204, ⟨s212, by omega, by omega⟩, ⟨s213, by omega, by omega⟩, ⟨s214, by omega, by omega⟩, ⟨by omega, by omega⟩, ⟨t165, Or.inr ⟨c1, s215, t174⟩⟩, pr206⟩
    have G230 : gSg [65, 66, 67, 68, 69, 70, 101, 102, 103, 112, 113, 200] [] [50005, 51001, 54002, 54003, 54004, 54005, 54006, 54007, 54008, 54009, 54010, 54011, 54012, 54013, 58999, 65003, 66001, 66002, 66003, 66004, 66005, 66010, 66011, 66012, 66013, 66014, 67001, 67002, 67003, 69999, 70999, 82000, 82001, 82002, 82003, 82004, 82005, 82006, 82007, 82008, 82009, 82010, 82011, 83000, 83001, 83002, 83003, 83004, 83005, 83006, 83007, 83008, 83009, 83010, 83011, 84000, 84001, 84002, 84003, 84004, 84005, 84006, 84007, 84008, 84009, 84010, 84011, 102999, 103999, 112999, 113999] ty h tyq163 h203 := gSg.ss G164 sh203 (by decide)
    exact gz_end (I := .ireturn) (len := 1) rfl (Or.inl rfl) ⟨tyq163, G230, zq163, xq163_0, (h203.2.2.2.1 bt : Int), iv, rfl, (by omega), (by omega), (by omega), (by omega), (by omega), (by omega), (by omega), (by omega), (by omega), (by dsimp only; omega), (by dsimp only; omega), (by omega), (by omega), hix229, uq199⟩
