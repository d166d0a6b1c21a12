/-! ===== methods of the landed text (by program) ===== -/
theorem gTc.pa {ty : Nat → Nat} {n : Int} {c9 q2 : Nat} {Q : Nat → Prop} {h h' : gH} (g : ∀ x j, ¬ (x = c9 ∧ Q j) → h'.2.2.2.2 x j = h.2.2.2.2 x j) (ht : ty c9 = q2) (hq : ∀ x ∈ ([60, 61, 64] : List Nat), q2 ≠ x) (s : gTc ty n h) : gTc ty n h' := by
  have k : ∀ (q : Nat) (f : Nat → Int), q2 ≠ q → gRow ty q f h → gRow ty q f h' := fun q f hne p => ⟨p.1, fun c hc i hi => by
    rw [g c i (fun w => hne (by rw [← ht, ← w.1]; exact hc))]
    exact p.2 c hc i hi⟩
  obtain ⟨f, t, c, x1, x2, x3, x4⟩ := s
  exact ⟨f, t, c, k _ _ (hq _ (by decide)) x1, k _ _ (hq _ (by decide)) x2, k _ _ (hq _ (by decide)) x3, x4⟩
theorem zi_in8 {z : Int} (h0 : -128 ≤ z) (h1 : z ≤ 127) : (zi z).toInt8.toInt32 = zi z := by
  have h := (by decide +kernel : ∀ k : Fin 256, (zi ((k.val : Int) - 128)).toInt8.toInt32 = zi ((k.val : Int) - 128)) ⟨(z + 128).toNat, by omega⟩
  have e : (((z + 128).toNat : Nat) : Int) - 128 = z := by omega
  rw [← e]
  exact h
set_option maxRecDepth 20000 in
set_option maxHeartbeats 4000000 in
theorem cl_DctFilter_colourW (d : Nat) {ty : Nat → Nat} {h : gH} (hJ : gJ rT 1027 ty h) (bd : Int) (rbd : (-2147483648) ≤ bd ∧ bd ≤ 2147483647) (a : Int) (ra : (-2147483648) ≤ a ∧ a ≤ 2147483647) (b : Int) (rb : (-2147483648) ≤ b ∧ b ≤ 2147483647) (c : Int) (rc : (-2147483648) ≤ c ∧ c ≤ 2147483647) : gz gPP gGG gcn (d + 2) gt77 0 (gent [.int (zi bd), .int (zi a), .int (zi b), .int (zi c)] 4) [] h (fun q _ => gSs rT 1027 ty [] h q.2.2 ∧ ∃ z : Int, gfin gt77 q.1 q.2.1 = some (some (.int (zi z))) ∧ 0 ≤ z ∧ z ≤ 255) := by
  have hS : gSs rT 1027 ty [] h h := gSs.rf hJ
  refine gz_s 2 (pc' := 2) (L' := [some (.int (zi bd)), some (.int (zi a)), some (.int (zi b)), some (.int (zi c))]) (S' := [.int (zi 3), .int (zi bd)]) rfl ?_
  by_cases hc1 : ¬ (bd : Int) = 3
  · refine gy_icT (pc' := 21) rfl (by decide) (by decide) (by omega) (by omega) hc1 ?_
    refine gz_s 2 (pc' := 23) (L' := [some (.int (zi bd)), some (.int (zi a)), some (.int (zi b)), some (.int (zi c))]) (S' := [.int (zi 4), .int (zi bd)]) rfl ?_
    by_cases hc2 : ¬ (bd : Int) = 4
    · refine gy_icT (pc' := 48) rfl (by decide) (by decide) (by omega) (by omega) hc2 ?_
      refine gz_s 1 (pc' := 49) (L' := [some (.int (zi bd)), some (.int (zi a)), some (.int (zi b)), some (.int (zi c))]) (S' := [.int (zi a)]) rfl ?_
      refine gz_1 rfl (by decide) rfl rfl (pc' := 51) (S' := [.int (zi 116130), .int (zi a)]) (h' := h) rfl ?_
      refine gy_s 2 (pc' := 53) (L' := [some (.int (zi bd)), some (.int (zi a)), some (.int (zi b)), some (.int (zi c))]) (S' := [.int ((zi 116130) * (zi b)), .int (zi a)]) (L2 := [some (.int (zi bd)), some (.int (zi a)), some (.int (zi b)), some (.int (zi c))]) (S2 := [.int (zi (116130 * b)), .int (zi a)]) rfl (by simp only [zi_add, zi_sub, zi_mul, zi_neg, zi_and1, zi_and7, zi_and15, zi_and31, zi_and255]) (by simp only [zi_add, zi_sub, zi_mul, zi_neg, zi_and1, zi_and7, zi_and15, zi_and31, zi_and255]) ?_
      refine gy_any (fun z3 ez3 az3 bz3 => ?_)
      refine gz_1 rfl (by decide) rfl rfl (pc' := 55) (S' := [.int (zi 32768), .int (zi z3), .int (zi a)]) (h' := h) rfl ?_
      refine gy_s 1 (pc' := 56) (L' := [some (.int (zi bd)), some (.int (zi a)), some (.int (zi b)), some (.int (zi c))]) (S' := [.int ((zi z3) + (zi 32768)), .int (zi a)]) (L2 := [some (.int (zi bd)), some (.int (zi a)), some (.int (zi b)), some (.int (zi c))]) (S2 := [.int (zi (z3 + 32768)), .int (zi a)]) rfl (by simp only [zi_add, zi_sub, zi_mul, zi_neg, zi_and1, zi_and7, zi_and15, zi_and31, zi_and255]) (by simp only [zi_add, zi_sub, zi_mul, zi_neg, zi_and1, zi_and7, zi_and15, zi_and31, zi_and255]) ?_
      refine gy_any (fun z4 ez4 az4 bz4 => ?_)
      refine gz_s 1 (pc' := 58) (L' := [some (.int (zi bd)), some (.int (zi a)), some (.int (zi b)), some (.int (zi c))]) (S' := [.int (zi 16), .int (zi z4), .int (zi a)]) rfl ?_
      refine gy_shc (n := 16) (v := 65536) rfl (by decide) (by omega) (by decide) (by decide) rfl ?_
      refine gy_s 1 (pc' := 60) (L' := [some (.int (zi bd)), some (.int (zi a)), some (.int (zi b)), some (.int (zi c))]) (S' := [.int ((zi a) + (zi (z4 / 65536)))]) (L2 := [some (.int (zi bd)), some (.int (zi a)), some (.int (zi b)), some (.int (zi c))]) (S2 := [.int (zi (a + (z4 / 65536)))]) rfl (by simp only [zi_add, zi_sub, zi_mul, zi_neg, zi_and1, zi_and7, zi_and15, zi_and31, zi_and255]) (by simp only [zi_add, zi_sub, zi_mul, zi_neg, zi_and1, zi_and7, zi_and15, zi_and31, zi_and255]) ?_
      refine gy_any (fun z5 ez5 az5 bz5 => ?_)
      refine gz_call rfl (by decide) rfl (by decide) (by decide) (gcal_of rfl rfl rfl (Nat.le_of_ble_eq_true rfl) rfl) (cl_DctFilter_asByte _ hS.1 z5 ⟨by omega, by omega⟩ ) (fun q6 _ wq6 => ?_)
      obtain ⟨pq6, oq6, hq6⟩ := q6
      obtain ⟨xq6, zq6, gq6, aq6, bq6⟩ := wq6
      refine ⟨_, gq6, ?_⟩
      show gz gPP gGG gcn _ _ 63 [some (.int (zi bd)), some (.int (zi a)), some (.int (zi b)), some (.int (zi c))] [.int (zi zq6)] hq6 _
      have sq6 : gSs rT 1027 ty [] h hq6 := gSs.tr hS xq6 (by decide)
      exact gz_end (I := .ireturn) (len := 1) rfl (Or.inl rfl) ⟨sq6, zq6, rfl, (by omega), (by omega)⟩
    · refine gy_icF rfl (by decide) (by decide) (by omega) (by omega) hc2 ?_
      refine gy_s 4 (pc' := 32) (L' := [some (.int (zi bd)), some (.int (zi a)), some (.int (zi b)), some (.int (zi c))]) (S' := [.int ((zi 22554) * (zi b)), .int (zi a)]) (L2 := [some (.int (zi bd)), some (.int (zi a)), some (.int (zi b)), some (.int (zi c))]) (S2 := [.int (zi (22554 * b)), .int (zi a)]) rfl (by simp only [zi_add, zi_sub, zi_mul, zi_neg, zi_and1, zi_and7, zi_and15, zi_and31, zi_and255]) (by simp only [zi_add, zi_sub, zi_mul, zi_neg, zi_and1, zi_and7, zi_and15, zi_and31, zi_and255]) ?_
      refine gy_any (fun z7 ez7 az7 bz7 => ?_)
      refine gz_1 rfl (by decide) rfl rfl (pc' := 34) (S' := [.int (zi 46802), .int (zi z7), .int (zi a)]) (h' := h) rfl ?_
      refine gy_s 2 (pc' := 36) (L' := [some (.int (zi bd)), some (.int (zi a)), some (.int (zi b)), some (.int (zi c))]) (S' := [.int ((zi 46802) * (zi c)), .int (zi z7), .int (zi a)]) (L2 := [some (.int (zi bd)), some (.int (zi a)), some (.int (zi b)), some (.int (zi c))]) (S2 := [.int (zi (46802 * c)), .int (zi z7), .int (zi a)]) rfl (by simp only [zi_add, zi_sub, zi_mul, zi_neg, zi_and1, zi_and7, zi_and15, zi_and31, zi_and255]) (by simp only [zi_add, zi_sub, zi_mul, zi_neg, zi_and1, zi_and7, zi_and15, zi_and31, zi_and255]) ?_
      refine gy_any (fun z8 ez8 az8 bz8 => ?_)
      refine gy_s 1 (pc' := 37) (L' := [some (.int (zi bd)), some (.int (zi a)), some (.int (zi b)), some (.int (zi c))]) (S' := [.int ((zi z7) + (zi z8)), .int (zi a)]) (L2 := [some (.int (zi bd)), some (.int (zi a)), some (.int (zi b)), some (.int (zi c))]) (S2 := [.int (zi (z7 + z8)), .int (zi a)]) rfl (by simp only [zi_add, zi_sub, zi_mul, zi_neg, zi_and1, zi_and7, zi_and15, zi_and31, zi_and255]) (by simp only [zi_add, zi_sub, zi_mul, zi_neg, zi_and1, zi_and7, zi_and15, zi_and31, zi_and255]) ?_
      refine gy_any (fun z9 ez9 az9 bz9 => ?_)
      refine gz_1 rfl (by decide) rfl rfl (pc' := 39) (S' := [.int (zi 32768), .int (zi z9), .int (zi a)]) (h' := h) rfl ?_
      refine gy_s 1 (pc' := 40) (L' := [some (.int (zi bd)), some (.int (zi a)), some (.int (zi b)), some (.int (zi c))]) (S' := [.int ((zi z9) + (zi 32768)), .int (zi a)]) (L2 := [some (.int (zi bd)), some (.int (zi a)), some (.int (zi b)), some (.int (zi c))]) (S2 := [.int (zi (z9 + 32768)), .int (zi a)]) rfl (by simp only [zi_add, zi_sub, zi_mul, zi_neg, zi_and1, zi_and7, zi_and15, zi_and31, zi_and255]) (by simp only [zi_add, zi_sub, zi_mul, zi_neg, zi_and1, zi_and7, zi_and15, zi_and31, zi_and255]) ?_
      refine gy_any (fun z10 ez10 az10 bz10 => ?_)
      refine gz_s 1 (pc' := 42) (L' := [some (.int (zi bd)), some (.int (zi a)), some (.int (zi b)), some (.int (zi c))]) (S' := [.int (zi 16), .int (zi z10), .int (zi a)]) rfl ?_
      refine gy_shc (n := 16) (v := 65536) rfl (by decide) (by omega) (by decide) (by decide) rfl ?_
      refine gy_s 1 (pc' := 44) (L' := [some (.int (zi bd)), some (.int (zi a)), some (.int (zi b)), some (.int (zi c))]) (S' := [.int ((zi a) - (zi (z10 / 65536)))]) (L2 := [some (.int (zi bd)), some (.int (zi a)), some (.int (zi b)), some (.int (zi c))]) (S2 := [.int (zi (a - (z10 / 65536)))]) rfl (by simp only [zi_add, zi_sub, zi_mul, zi_neg, zi_and1, zi_and7, zi_and15, zi_and31, zi_and255]) (by simp only [zi_add, zi_sub, zi_mul, zi_neg, zi_and1, zi_and7, zi_and15, zi_and31, zi_and255]) ?_
      refine gy_any (fun z11 ez11 az11 bz11 => ?_)
      refine gz_call rfl (by decide) rfl (by decide) (by decide) (gcal_of rfl rfl rfl (Nat.le_of_ble_eq_true rfl) rfl) (cl_DctFilter_asByte _ hS.1 z11 ⟨by omega, by omega⟩ ) (fun q12 _ wq12 => ?_)
      obtain ⟨pq12, oq12, hq12⟩ := q12
      obtain ⟨xq12, zq12, gq12, aq12, bq12⟩ := wq12
      refine ⟨_, gq12, ?_⟩
      show gz gPP gGG gcn _ _ 47 [some (.int (zi bd)), some (.int (zi a)), some (.int (zi b)), some (.int (zi c))] [.int (zi zq12)] hq12 _
      have sq12 : gSs rT 1027 ty [] h hq12 := gSs.tr hS xq12 (by decide)
      exact gz_end (I := .ireturn) (len := 1) rfl (Or.inl rfl) ⟨sq12, zq12, rfl, (by omega), (by omega)⟩
  · refine gy_icF rfl (by decide) (by decide) (by omega) (by omega) hc1 ?_
    refine gz_s 1 (pc' := 6) (L' := [some (.int (zi bd)), some (.int (zi a)), some (.int (zi b)), some (.int (zi c))]) (S' := [.int (zi a)]) rfl ?_
    refine gz_1 rfl (by decide) rfl rfl (pc' := 8) (S' := [.int (zi 91881), .int (zi a)]) (h' := h) rfl ?_
    refine gy_s 2 (pc' := 10) (L' := [some (.int (zi bd)), some (.int (zi a)), some (.int (zi b)), some (.int (zi c))]) (S' := [.int ((zi 91881) * (zi c)), .int (zi a)]) (L2 := [some (.int (zi bd)), some (.int (zi a)), some (.int (zi b)), some (.int (zi c))]) (S2 := [.int (zi (91881 * c)), .int (zi a)]) rfl (by simp only [zi_add, zi_sub, zi_mul, zi_neg, zi_and1, zi_and7, zi_and15, zi_and31, zi_and255]) (by simp only [zi_add, zi_sub, zi_mul, zi_neg, zi_and1, zi_and7, zi_and15, zi_and31, zi_and255]) ?_
    refine gy_any (fun z13 ez13 az13 bz13 => ?_)
    refine gz_1 rfl (by decide) rfl rfl (pc' := 12) (S' := [.int (zi 32768), .int (zi z13), .int (zi a)]) (h' := h) rfl ?_
    refine gy_s 1 (pc' := 13) (L' := [some (.int (zi bd)), some (.int (zi a)), some (.int (zi b)), some (.int (zi c))]) (S' := [.int ((zi z13) + (zi 32768)), .int (zi a)]) (L2 := [some (.int (zi bd)), some (.int (zi a)), some (.int (zi b)), some (.int (zi c))]) (S2 := [.int (zi (z13 + 32768)), .int (zi a)]) rfl (by simp only [zi_add, zi_sub, zi_mul, zi_neg, zi_and1, zi_and7, zi_and15, zi_and31, zi_and255]) (by simp only [zi_add, zi_sub, zi_mul, zi_neg, zi_and1, zi_and7, zi_and15, zi_and31, zi_and255]) ?_
    refine gy_any (fun z14 ez14 az14 bz14 => ?_)
    refine gz_s 1 (pc' := 15) (L' := [some (.int (zi bd)), some (.int (zi a)), some (.int (zi b)), some (.int (zi c))]) (S' := [.int (zi 16), .int (zi z14), .int (zi a)]) rfl ?_
    refine gy_shc (n := 16) (v := 65536) rfl (by decide) (by omega) (by decide) (by decide) rfl ?_
    refine gy_s 1 (pc' := 17) (L' := [some (.int (zi bd)), some (.int (zi a)), some (.int (zi b)), some (.int (zi c))]) (S' := [.int ((zi a) + (zi (z14 / 65536)))]) (L2 := [some (.int (zi bd)), some (.int (zi a)), some (.int (zi b)), some (.int (zi c))]) (S2 := [.int (zi (a + (z14 / 65536)))]) rfl (by simp only [zi_add, zi_sub, zi_mul, zi_neg, zi_and1, zi_and7, zi_and15, zi_and31, zi_and255]) (by simp only [zi_add, zi_sub, zi_mul, zi_neg, zi_and1, zi_and7, zi_and15, zi_and31, zi_and255]) ?_
    refine gy_any (fun z15 ez15 az15 bz15 => ?_)
    refine gz_call rfl (by decide) rfl (by decide) (by decide) (gcal_of rfl rfl rfl (Nat.le_of_ble_eq_true rfl) rfl) (cl_DctFilter_asByte _ hS.1 z15 ⟨by omega, by omega⟩ ) (fun q16 _ wq16 => ?_)
    obtain ⟨pq16, oq16, hq16⟩ := q16
    obtain ⟨xq16, zq16, gq16, aq16, bq16⟩ := wq16
    refine ⟨_, gq16, ?_⟩
    show gz gPP gGG gcn _ _ 20 [some (.int (zi bd)), some (.int (zi a)), some (.int (zi b)), some (.int (zi c))] [.int (zi zq16)] hq16 _
    have sq16 : gSs rT 1027 ty [] h hq16 := gSs.tr hS xq16 (by decide)
    exact gz_end (I := .ireturn) (len := 1) rfl (Or.inl rfl) ⟨sq16, zq16, rfl, (by omega), (by omega)⟩
set_option maxRecDepth 20000 in
set_option maxHeartbeats 4000000 in
theorem cl_DctFilter_add (d : Nat) {ty : Nat → Nat} {h : gH} (hJ : gJ rT 1027 ty h) (x : Nat) (tx : ty x = 50) (b : Int) (rb : (-128) ≤ b ∧ b ≤ 127) (S : gSS) (ld : Int) (rld : 0 ≤ ld ∧ ld ≤ 192) (lb : Int) (rlb : 1024 ≤ lb ∧ lb ≤ 1000000) (iv : Int) (riv : 0 ≤ iv ∧ iv ≤ 26476544) (uq : gUq ty) (hyix : gIx ty x ld lb iv S h) : gz gPP gGG gcn (d + 1) gt68 0 (gent [.ref x, .int (zi b)] 2) [] h (fun q _ => ∃ ty9 : Nat → Nat, gSg [] [] [51001, 52999] ty h ty9 q.2.2 ∧ ∃ ld1 lb1 iv1 : Int, 0 ≤ ld1 ∧ ld1 ≤ 192 ∧ 1024 ≤ lb1 ∧ lb1 ≤ 1000000 ∧ 0 ≤ iv1 ∧ iv1 ≤ 26476544 ∧ (gIx ty9 x ld1 lb1 iv1 S q.2.2) ∧ ((gfin gt68 q.1 q.2.1 = some none ∧ (iv1 = iv) ∧ (1024 * (((q.2.2.1 : Int) - h.1) - 31 - 2 * (ld1 - ld)) ≤ lb1 - lb) ∧ (((q.2.2.2.1 : Int) - h.2.1) ≤ 4303 + 12480 * (ld1 - ld) + 2 * (lb1 - lb)) ∧ (ld ≤ ld1) ∧ (lb ≤ lb1)) ∨ (q.2.1 = [] ∧ ((q.1 = 13)) ∧ (iv1 = iv) ∧ (1024 * (((q.2.2.1 : Int) - h.1) - 31 - 2 * (ld1 - ld)) ≤ lb1 - lb) ∧ (((q.2.2.2.1 : Int) - h.2.1) ≤ 4303 + 12480 * (ld1 - ld) + 2 * (lb1 - lb)) ∧ (ld ≤ ld1) ∧ (lb ≤ lb1)))) := by
  have hS : gSs rT 1027 ty [51001, 52999] h h := gSs.rf hJ
  have G0 : gSg [] [] [51001, 52999] ty h ty h := gSg.rf hJ (fun x hx => by cases hx)
  obtain ⟨pic, b0, b1, b2, dr, sk, bt, n0, c0, i0, dw, dh, ⟨_, tdr, tsk, tbt⟩, ⟨ex2, ex3, ex4, ex0⟩, hpc, htc, ⟨en0, rn0⟩, ⟨eiv, ri0⟩, ⟨ec0, rc0⟩, ⟨lc0, llb⟩, hrr, hrw, ⟨edw, rdw⟩, ⟨edh, rdh⟩, hwh, hcd, hxr, ⟨hsw, hc0⟩, htz⟩ := hyix
  have tpic := hpc.1.1
  have tb0 := hpc.1.2.1
  have tb1 := hpc.1.2.2.1
  have tb2 := hpc.1.2.2.2
  refine gz_s 1 (pc' := 1) (L' := [some (.ref x), some (.int (zi b))]) (S' := [.ref x]) rfl ?_
  refine gs_gtr rfl (by decide) rfl hS.1 tx rfl rfl rfl (fun c1 ec1 tc1 => ?_)
  refine gs_get rfl (by decide) rfl hS.1 tc1 rfl rfl rfl (fun z2 ez2 az2 bz2 => ?_)
  refine gz_s 1 (pc' := 10) (L' := [some (.ref x), some (.int (zi b))]) (S' := [.int (zi 2000), .int (zi z2)]) rfl ?_
  by_cases hc3 : (z2 : Int) < 2000
  · refine gy_icT (pc' := 23) rfl (by decide) (by decide) (by omega) (by omega) hc3 ?_
    refine gz_s 1 (pc' := 24) (L' := [some (.ref x), some (.int (zi b))]) (S' := [.ref x]) rfl ?_
    refine gs_gtk rfl (by decide) rfl hS.1 tx rfl rfl ec1 ?_
    refine gz_s 1 (pc' := 28) (L' := [some (.ref x), some (.int (zi b))]) (S' := [.int (zi b), .ref c1]) rfl ?_
    refine gz_call rfl (by decide) rfl (by decide) (by decide) (gcal_of rfl rfl rfl (Nat.le_of_ble_eq_true rfl) (gJ.recv (G := gGG) hS.1 tc1 rfl rfl)) (cl_Collected_append _ hS.1 c1 tc1 b ⟨by omega, by omega⟩ z2 ez2 ⟨by omega, by omega⟩ uq) (fun q4 _ wq4 => ?_)
    obtain ⟨pq4, oq4, hq4⟩ := q4
    obtain ⟨xq4, gq4⟩ := wq4
    refine ⟨_, gq4, ?_⟩
    show gz gPP gGG gcn _ _ 31 [some (.ref x), some (.int (zi b))] [] hq4 _
    have sq4 : gSs rT 1027 ty [51001, 52999] h hq4 := gSs.tr hS xq4 (by decide)
    have s5 := (xq4.2.2.2.2.2 x 2 (by rw [tx]; decide)).trans ex2
    have s6 := (xq4.2.2.2.2.2 x 3 (by rw [tx]; decide)).trans ex3
    have s7 := (xq4.2.2.2.2.2 x 4 (by rw [tx]; decide)).trans ex4
    have s8 := (xq4.2.2.2.2.2 sk 0 (by rw [tsk]; decide)).trans ex0
    have s9 := (xq4.2.2.2.2.2 dr 8 (by rw [tdr]; decide)).trans en0
    have s10 := (xq4.2.2.2.2.2 dr 3 (by rw [tdr]; decide)).trans eiv
    have s11 := (xq4.2.2.2.2.2 dr 1 (by rw [tdr]; decide)).trans edw
    have s12 := (xq4.2.2.2.2.2 dr 2 (by rw [tdr]; decide)).trans edh
    have s13 := (xq4.2.2.2.2.2 sk 1 (by rw [tsk]; decide)).trans ec0
    have s14 := (xq4.2.2.2.2.2 x 0 (by rw [tx]; decide)).trans ec1
    have pr15 := gXr.fr xq4.2 (by decide) hxr
    have pr16 := gSW.fr xq4.2 (by decide) hsw
    have pr17 := gPC.fr xq4.2 (by decide) hpc
    have pr18 := gTc.fr xq4.2 (by decide) htc
    have pr19 := gRr.fr xq4.2 (by decide) hrr
    have pr20 := gRw.fr xq4.2 (by decide) hrw
    have k21 := sq4.2.1
    have k21b := sq4.2.2.1
    have hl22 : hq4.2.2.2.1 bt = h.2.2.2.1 bt := congrFun sq4.2.2.2.2.1 bt
    have hl23 : 1024 ≤ hq4.2.2.2.1 bt ∧ hq4.2.2.2.1 bt ≤ 1000000 := gJ.rowl (G := gGG) sq4.1 tbt rfl
    have k24 := sq4.2.1
    have k24b := sq4.2.2.1
    have hl25 : hq4.2.2.2.1 bt = h.2.2.2.1 bt := congrFun sq4.2.2.2.2.1 bt
    have hix26 : gIx ty x ld (hq4.2.2.2.1 bt : Int) (64 * dw + n0 + 4096 * dh + 262144 * i0) S hq4 := ⟨pic, b0, b1, b2, dr, sk, bt, n0, c0, i0, dw, dh, ⟨tx, tdr, tsk, tbt⟩, ⟨s5, s6, s7, s8⟩, pr17, pr18, ⟨s9, by omega, by omega⟩, ⟨s10, by omega, by omega⟩, ⟨s13, by omega, by omega⟩, ⟨by omega, by omega⟩, pr19, pr20, ⟨s11, by omega, by omega⟩, ⟨s12, by omega, by omega⟩, by omega, rfl, pr15, ⟨pr16, hc0⟩, htz⟩
    have G27 : gSg [] [] [51001, 52999] ty h ty hq4 := gSg.ss G0 sq4 (by decide)
    exact gz_end (I := .return_) (len := 1) rfl (Or.inl rfl) ⟨ty, G27, ld, (hq4.2.2.2.1 bt : Int), (64 * dw + n0 + 4096 * dh + 262144 * i0), (by omega), (by omega), (by omega), (by omega), (by omega), (by omega), hix26, Or.inl ⟨rfl, (by omega), (by dsimp only; omega), (by dsimp only; omega), (by omega), (by omega)⟩⟩
  · refine gy_icF rfl (by decide) (by decide) (by omega) (by omega) hc3 ?_
    have hl28 : 1024 ≤ h.2.2.2.1 bt ∧ h.2.2.2.1 bt ≤ 1000000 := gJ.rowl (G := gGG) hS.1 tbt rfl
    have hix29 : gIx ty x ld (h.2.2.2.1 bt : Int) (64 * dw + n0 + 4096 * dh + 262144 * i0) S h := ⟨pic, b0, b1, b2, dr, sk, bt, n0, c0, i0, dw, dh, ⟨tx, tdr, tsk, tbt⟩, ⟨ex2, ex3, ex4, ex0⟩, hpc, htc, ⟨en0, by omega, by omega⟩, ⟨eiv, by omega, by omega⟩, ⟨ec0, by omega, by omega⟩, ⟨by omega, by omega⟩, hrr, hrw, ⟨edw, by omega, by omega⟩, ⟨edh, by omega, by omega⟩, by omega, rfl, hxr, ⟨hsw, hc0⟩, htz⟩
    have G30 : gSg [] [] [51001, 52999] ty h ty h := gSg.ss G0 hS (by decide)
    exact gz_end (I := .new 51) (len := 3) rfl (Or.inr (by decide)) ⟨ty, G30, ld, (h.2.2.2.1 bt : Int), (64 * dw + n0 + 4096 * dh + 262144 * i0), (by omega), (by omega), (by omega), (by omega), (by omega), (by omega), hix29, Or.inr ⟨rfl, rfl, (by omega), (by dsimp only; omega), (by dsimp only; omega), (by omega), (by omega)⟩⟩
set_option maxRecDepth 20000 in
set_option maxHeartbeats 4000000 in
theorem cl_DctFilter_sample (d : Nat) {ty : Nat → Nat} {h : gH} (hJ : gJ rT 1027 ty h) (x : Nat) (tx : ty x = 50) (a : Int) (ra : (-2147483648) ≤ a ∧ a ≤ 2147483647) (b : Int) (rb : (-2147483648) ≤ b ∧ b ≤ 2147483647) (c : Int) (rc : (-2147483648) ≤ c ∧ c ≤ 2147483647) (hyst : gSta ty h) (S : gSS) (ld : Int) (rld : 0 ≤ ld ∧ ld ≤ 192) (lb : Int) (rlb : 1024 ≤ lb ∧ lb ≤ 1000000) (iv : Int) (riv : 0 ≤ iv ∧ iv ≤ 26476544) (uq : gUq ty) (hyix : gIx ty x ld lb iv S h) : gz gPP gGG gcn (d + 3) gt70 0 (gent [.ref x, .int (zi a), .int (zi b), .int (zi c)] 8) [] h (fun q _ => ∃ ty9 : Nat → Nat, gSg [] [] [] ty h ty9 q.2.2 ∧ ∃ ld1 lb1 iv1 : Int, 0 ≤ ld1 ∧ ld1 ≤ 192 ∧ 1024 ≤ lb1 ∧ lb1 ≤ 1000000 ∧ 0 ≤ iv1 ∧ iv1 ≤ 26476544 ∧ (gIx ty9 x ld1 lb1 iv1 S q.2.2) ∧ ((∃ z : Int, gfin gt70 q.1 q.2.1 = some (some (.int (zi z))) ∧ (-2147483648) ≤ z ∧ z ≤ 2147483647 ∧ (iv1 = iv) ∧ (1024 * (((q.2.2.1 : Int) - h.1) - 31 - 2 * (ld1 - ld)) ≤ lb1 - lb) ∧ (((q.2.2.2.1 : Int) - h.2.1) ≤ 4303 + 12480 * (ld1 - ld) + 2 * (lb1 - lb)) ∧ (ld ≤ ld1) ∧ (lb ≤ lb1)) ∨ (q.2.1 = [] ∧ ((q.1 = 67)) ∧ (iv1 = iv) ∧ (1024 * (((q.2.2.1 : Int) - h.1) - 31 - 2 * (ld1 - ld)) ≤ lb1 - lb) ∧ (((q.2.2.2.1 : Int) - h.2.1) ≤ 4303 + 12480 * (ld1 - ld) + 2 * (lb1 - lb)) ∧ (ld ≤ ld1) ∧ (lb ≤ lb1)))) := by
  have hS : gSs rT 1027 ty [] h h := gSs.rf hJ
  have G0 : gSg [] [] [] ty h ty h := gSg.rf hJ (fun x hx => by cases hx)
  obtain ⟨pic, b0, b1, b2, dr, sk, bt, n0, c0, i0, dw, dh, ⟨_, tdr, tsk, tbt⟩, ⟨ex2, ex3, ex4, ex0⟩, hpc, htc, ⟨en0, rn0⟩, ⟨eiv, ri0⟩, ⟨ec0, rc0⟩, ⟨lc0, llb⟩, hrr, hrw, ⟨edw, rdw⟩, ⟨edh, rdh⟩, hwh, hcd, hxr, ⟨hsw, hc0⟩, htz⟩ := hyix
  have tpic := hpc.1.1
  have tb0 := hpc.1.2.1
  have tb1 := hpc.1.2.2.1
  have tb2 := hpc.1.2.2.2
  have hpq1 := hpc
  obtain ⟨_, bno, coo, dmo, vvo, ⟨tbno, tcoo, tdmo⟩, ⟨er0o, er1o, er2o, er3o, er4o, er5o⟩, hvvo, hrro, ⟨yy0o, yy1o, yy2o, yy3o, yy4o, yy5o, yy6o, yy7o⟩, ll0o, ll1o, ll2o, ll3o⟩ := hpq1
  have excno : h.2.2.2.2 pic 7 = .int (zi (vvo 0)) := hvvo (0, 7, 0) (by decide)
  have rrcno : 0 ≤ vvo 0 ∧ vvo 0 ≤ 3 := hrro (0, 0, 3) (by decide)
  have exuco : h.2.2.2.2 pic 12 = .int (zi (vvo 1)) := hvvo (0, 12, 1) (by decide)
  have rruco : 0 ≤ vvo 1 ∧ vvo 1 ≤ 8 := hrro (1, 0, 8) (by decide)
  have exuro : h.2.2.2.2 pic 13 = .int (zi (vvo 2)) := hvvo (0, 13, 2) (by decide)
  have rruro : 0 ≤ vvo 2 ∧ vvo 2 ≤ 8 := hrro (2, 0, 8) (by decide)
  have exblo : h.2.2.2.2 pic 8 = .int (zi (vvo 3)) := hvvo (0, 8, 3) (by decide)
  have rrblo : 0 ≤ vvo 3 ∧ vvo 3 ≤ 192 := hrro (3, 0, 192) (by decide)
  have exwo : h.2.2.2.2 pic 5 = .int (zi (vvo 4)) := hvvo (0, 5, 4) (by decide)
  have rrwo : 0 ≤ vvo 4 ∧ vvo 4 ≤ 64 := hrro (4, 0, 64) (by decide)
  have exhho : h.2.2.2.2 pic 6 = .int (zi (vvo 5)) := hvvo (0, 6, 5) (by decide)
  have rrhho : 0 ≤ vvo 5 ∧ vvo 5 ≤ 64 := hrro (5, 0, 64) (by decide)
  have exgho : h.2.2.2.2 pic 10 = .int (zi (vvo 6)) := hvvo (0, 10, 6) (by decide)
  have rrgho : 1 ≤ vvo 6 ∧ vvo 6 ≤ 2 := hrro (6, 1, 2) (by decide)
  have exgvo : h.2.2.2.2 pic 11 = .int (zi (vvo 7)) := hvvo (0, 11, 7) (by decide)
  have rrgvo : 1 ≤ vvo 7 ∧ vvo 7 ≤ 2 := hrro (7, 1, 2) (by decide)
  have exhb0o : h.2.2.2.2 b0 1 = .int (zi (vvo 8)) := hvvo (1, 1, 8) (by decide)
  have rrhb0o : (-1) ≤ vvo 8 ∧ vvo 8 ≤ 15 := hrro (8, (-1), 15) (by decide)
  have exvb0o : h.2.2.2.2 b0 2 = .int (zi (vvo 9)) := hvvo (1, 2, 9) (by decide)
  have rrvb0o : 0 ≤ vvo 9 ∧ vvo 9 ≤ 15 := hrro (9, 0, 15) (by decide)
  have extq0o : h.2.2.2.2 b0 3 = .int (zi (vvo 10)) := hvvo (1, 3, 10) (by decide)
  have rrtq0o : (-1) ≤ vvo 10 ∧ vvo 10 ≤ 255 := hrro (10, (-1), 255) (by decide)
  have exC0o : h.2.2.2.2 b0 4 = .int (zi (vvo 11)) := hvvo (1, 4, 11) (by decide)
  have rrC0o : 0 ≤ vvo 11 ∧ vvo 11 ≤ 16 := hrro (11, 0, 16) (by decide)
  have exR0o : h.2.2.2.2 b0 5 = .int (zi (vvo 12)) := hvvo (1, 5, 12) (by decide)
  have rrR0o : 0 ≤ vvo 12 ∧ vvo 12 ≤ 16 := hrro (12, 0, 16) (by decide)
  have exoc0o : h.2.2.2.2 b0 6 = .int (zi (vvo 13)) := hvvo (1, 6, 13) (by decide)
  have rroc0o : 0 ≤ vvo 13 ∧ vvo 13 ≤ 16 := hrro (13, 0, 16) (by decide)
  have exor0o : h.2.2.2.2 b0 7 = .int (zi (vvo 14)) := hvvo (1, 7, 14) (by decide)
  have rror0o : 0 ≤ vvo 14 ∧ vvo 14 ≤ 16 := hrro (14, 0, 16) (by decide)
  have exf0o : h.2.2.2.2 b0 8 = .int (zi (vvo 15)) := hvvo (1, 8, 15) (by decide)
  have rrf0o : 0 ≤ vvo 15 ∧ vvo 15 ≤ 192 := hrro (15, 0, 192) (by decide)
  have exhb1o : h.2.2.2.2 b1 1 = .int (zi (vvo 16)) := hvvo (2, 1, 16) (by decide)
  have rrhb1o : (-1) ≤ vvo 16 ∧ vvo 16 ≤ 15 := hrro (16, (-1), 15) (by decide)
  have exvb1o : h.2.2.2.2 b1 2 = .int (zi (vvo 17)) := hvvo (2, 2, 17) (by decide)
  have rrvb1o : 0 ≤ vvo 17 ∧ vvo 17 ≤ 15 := hrro (17, 0, 15) (by decide)
  have extq1o : h.2.2.2.2 b1 3 = .int (zi (vvo 18)) := hvvo (2, 3, 18) (by decide)
  have rrtq1o : (-1) ≤ vvo 18 ∧ vvo 18 ≤ 255 := hrro (18, (-1), 255) (by decide)
  have exC1o : h.2.2.2.2 b1 4 = .int (zi (vvo 19)) := hvvo (2, 4, 19) (by decide)
  have rrC1o : 0 ≤ vvo 19 ∧ vvo 19 ≤ 16 := hrro (19, 0, 16) (by decide)
  have exR1o : h.2.2.2.2 b1 5 = .int (zi (vvo 20)) := hvvo (2, 5, 20) (by decide)
  have rrR1o : 0 ≤ vvo 20 ∧ vvo 20 ≤ 16 := hrro (20, 0, 16) (by decide)
  have exoc1o : h.2.2.2.2 b1 6 = .int (zi (vvo 21)) := hvvo (2, 6, 21) (by decide)
  have rroc1o : 0 ≤ vvo 21 ∧ vvo 21 ≤ 16 := hrro (21, 0, 16) (by decide)
  have exor1o : h.2.2.2.2 b1 7 = .int (zi (vvo 22)) := hvvo (2, 7, 22) (by decide)
  have rror1o : 0 ≤ vvo 22 ∧ vvo 22 ≤ 16 := hrro (22, 0, 16) (by decide)
  have exf1o : h.2.2.2.2 b1 8 = .int (zi (vvo 23)) := hvvo (2, 8, 23) (by decide)
  have rrf1o : 0 ≤ vvo 23 ∧ vvo 23 ≤ 192 := hrro (23, 0, 192) (by decide)
  have exhb2o : h.2.2.2.2 b2 1 = .int (zi (vvo 24)) := hvvo (3, 1, 24) (by decide)
  have rrhb2o : (-1) ≤ vvo 24 ∧ vvo 24 ≤ 15 := hrro (24, (-1), 15) (by decide)
  have exvb2o : h.2.2.2.2 b2 2 = .int (zi (vvo 25)) := hvvo (3, 2, 25) (by decide)
  have rrvb2o : 0 ≤ vvo 25 ∧ vvo 25 ≤ 15 := hrro (25, 0, 15) (by decide)
  have extq2o : h.2.2.2.2 b2 3 = .int (zi (vvo 26)) := hvvo (3, 3, 26) (by decide)
  have rrtq2o : (-1) ≤ vvo 26 ∧ vvo 26 ≤ 255 := hrro (26, (-1), 255) (by decide)
  have exC2o : h.2.2.2.2 b2 4 = .int (zi (vvo 27)) := hvvo (3, 4, 27) (by decide)
  have rrC2o : 0 ≤ vvo 27 ∧ vvo 27 ≤ 16 := hrro (27, 0, 16) (by decide)
  have exR2o : h.2.2.2.2 b2 5 = .int (zi (vvo 28)) := hvvo (3, 5, 28) (by decide)
  have rrR2o : 0 ≤ vvo 28 ∧ vvo 28 ≤ 16 := hrro (28, 0, 16) (by decide)
  have exoc2o : h.2.2.2.2 b2 6 = .int (zi (vvo 29)) := hvvo (3, 6, 29) (by decide)
  have rroc2o : 0 ≤ vvo 29 ∧ vvo 29 ≤ 16 := hrro (29, 0, 16) (by decide)
  have exor2o : h.2.2.2.2 b2 7 = .int (zi (vvo 30)) := hvvo (3, 7, 30) (by decide)
  have rror2o : 0 ≤ vvo 30 ∧ vvo 30 ≤ 16 := hrro (30, 0, 16) (by decide)
  have exf2o : h.2.2.2.2 b2 8 = .int (zi (vvo 31)) := hvvo (3, 8, 31) (by decide)
  have rrf2o : 0 ≤ vvo 31 ∧ vvo 31 ≤ 192 := hrro (31, 0, 192) (by decide)
  refine gz_s 1 (pc' := 1) (L' := [some (.ref x), some (.int (zi a)), some (.int (zi b)), some (.int (zi c)), none, none, none, none]) (S' := [.int (zi c)]) rfl ?_
  have jn2 : ∀ (jn2v0 : Int), ((0 ≤ jn2v0) ∧ (jn2v0 ≤ 1) ∧ (jn2v0 = 1 → (0 ≤ c ∧ (c < vvo 0 ∨ (3 ≤ c ∧ c ≤ 5))))) → gz gPP gGG gcn (d + 3) gt70 30 [some (.ref x), some (.int (zi a)), some (.int (zi b)), some (.int (zi c)), none, none, none, none] [.int (zi jn2v0)] h (fun q _ => ∃ ty9 : Nat → Nat, gSg [] [] [] ty h ty9 q.2.2 ∧ ∃ ld1 lb1 iv1 : Int, 0 ≤ ld1 ∧ ld1 ≤ 192 ∧ 1024 ≤ lb1 ∧ lb1 ≤ 1000000 ∧ 0 ≤ iv1 ∧ iv1 ≤ 26476544 ∧ (gIx ty9 x ld1 lb1 iv1 S q.2.2) ∧ ((∃ z : Int, gfin gt70 q.1 q.2.1 = some (some (.int (zi z))) ∧ (-2147483648) ≤ z ∧ z ≤ 2147483647 ∧ (iv1 = iv) ∧ (1024 * (((q.2.2.1 : Int) - h.1) - 31 - 2 * (ld1 - ld)) ≤ lb1 - lb) ∧ (((q.2.2.2.1 : Int) - h.2.1) ≤ 4303 + 12480 * (ld1 - ld) + 2 * (lb1 - lb)) ∧ (ld ≤ ld1) ∧ (lb ≤ lb1)) ∨ (q.2.1 = [] ∧ ((q.1 = 67)) ∧ (iv1 = iv) ∧ (1024 * (((q.2.2.1 : Int) - h.1) - 31 - 2 * (ld1 - ld)) ≤ lb1 - lb) ∧ (((q.2.2.2.1 : Int) - h.2.1) ≤ 4303 + 12480 * (ld1 - ld) + 2 * (lb1 - lb)) ∧ (ld ≤ ld1) ∧ (lb ≤ lb1)))) := by
    intro jn2v0 jn2d
    refine gz_s 2 (pc' := 34) (L' := [some (.ref x), some (.int (zi a)), some (.int (zi b)), some (.int (zi c)), some (.int (zi jn2v0)), none, none, none]) (S' := [.int (zi jn2v0)]) rfl ?_
    by_cases hc3 : (jn2v0 : Int) = 0
    · refine gy_ifT (pc' := 67) rfl (by decide) (by decide) (by omega) hc3 ?_
      have hl4 : 1024 ≤ h.2.2.2.1 bt ∧ h.2.2.2.1 bt ≤ 1000000 := gJ.rowl (G := gGG) hS.1 tbt rfl
      have hl5 : 0 ≤ h.2.2.2.1 coo ∧ h.2.2.2.1 coo ≤ 12288 := gJ.rowl (G := gGG) hS.1 tcoo rfl
      have hl6 : 0 ≤ h.2.2.2.1 dmo ∧ h.2.2.2.1 dmo ≤ 192 := gJ.rowl (G := gGG) hS.1 tdmo rfl
      have hix7 : gIx ty x ld (h.2.2.2.1 bt : Int) (64 * dw + n0 + 4096 * dh + 262144 * i0) S h := ⟨pic, b0, b1, b2, dr, sk, bt, n0, c0, i0, dw, dh, ⟨tx, tdr, tsk, tbt⟩, ⟨ex2, ex3, ex4, ex0⟩, hpc, htc, ⟨en0, by omega, by omega⟩, ⟨eiv, by omega, by omega⟩, ⟨ec0, by omega, by omega⟩, ⟨by omega, by omega⟩, hrr, hrw, ⟨edw, by omega, by omega⟩, ⟨edh, by omega, by omega⟩, by omega, rfl, hxr, ⟨hsw, hc0⟩, htz⟩
      have G8 : gSg [] [] [] ty h ty h := gSg.ss G0 hS (by decide)
      exact gz_end (I := .new 84) (len := 3) rfl (Or.inr (by decide)) ⟨ty, G8, ld, (h.2.2.2.1 bt : Int), (64 * dw + n0 + 4096 * dh + 262144 * i0), (by omega), (by omega), (by omega), (by omega), (by omega), (by omega), hix7, Or.inr ⟨rfl, rfl, (by omega), (by dsimp only; omega), (by dsimp only; omega), (by omega), (by omega)⟩⟩
    · refine gy_ifF rfl (by decide) (by decide) (by omega) hc3 ?_
      refine gz_s 1 (pc' := 38) (L' := [some (.ref x), some (.int (zi a)), some (.int (zi b)), some (.int (zi c)), some (.int (zi jn2v0)), none, none, none]) (S' := [.int (zi a)]) rfl ?_
      by_cases hc9 : (a : Int) < 0
      · refine gy_ifT (pc' := 67) rfl (by decide) (by decide) (by omega) hc9 ?_
        have hl10 : 1024 ≤ h.2.2.2.1 bt ∧ h.2.2.2.1 bt ≤ 1000000 := gJ.rowl (G := gGG) hS.1 tbt rfl
        have hl11 : 0 ≤ h.2.2.2.1 coo ∧ h.2.2.2.1 coo ≤ 12288 := gJ.rowl (G := gGG) hS.1 tcoo rfl
        have hl12 : 0 ≤ h.2.2.2.1 dmo ∧ h.2.2.2.1 dmo ≤ 192 := gJ.rowl (G := gGG) hS.1 tdmo rfl
        have hix13 : gIx ty x ld (h.2.2.2.1 bt : Int) (64 * dw + n0 + 4096 * dh + 262144 * i0) S h := ⟨pic, b0, b1, b2, dr, sk, bt, n0, c0, i0, dw, dh, ⟨tx, tdr, tsk, tbt⟩, ⟨ex2, ex3, ex4, ex0⟩, hpc, htc, ⟨en0, by omega, by omega⟩, ⟨eiv, by omega, by omega⟩, ⟨ec0, by omega, by omega⟩, ⟨by omega, by omega⟩, hrr, hrw, ⟨edw, by omega, by omega⟩, ⟨edh, by omega, by omega⟩, by omega, rfl, hxr, ⟨hsw, hc0⟩, htz⟩
        have G14 : gSg [] [] [] ty h ty h := gSg.ss G0 hS (by decide)
        exact gz_end (I := .new 84) (len := 3) rfl (Or.inr (by decide)) ⟨ty, G14, ld, (h.2.2.2.1 bt : Int), (64 * dw + n0 + 4096 * dh + 262144 * i0), (by omega), (by omega), (by omega), (by omega), (by omega), (by omega), hix13, Or.inr ⟨rfl, rfl, (by omega), (by dsimp only; omega), (by dsimp only; omega), (by omega), (by omega)⟩⟩
      · refine gy_ifF rfl (by decide) (by decide) (by omega) hc9 ?_
        refine gz_s 2 (pc' := 43) (L' := [some (.ref x), some (.int (zi a)), some (.int (zi b)), some (.int (zi c)), some (.int (zi jn2v0)), none, none, none]) (S' := [.ref x, .int (zi a)]) rfl ?_
        refine gs_gtk rfl (by decide) rfl hS.1 tx rfl rfl ex2 ?_
        refine gs_gtk rfl (by decide) rfl hS.1 tpic rfl rfl exwo ?_
        by_cases hc15 : (vvo 4 : Int) ≤ a
        · refine gy_icT (pc' := 67) rfl (by decide) (by decide) (by omega) (by omega) hc15 ?_
          have hl16 : 1024 ≤ h.2.2.2.1 bt ∧ h.2.2.2.1 bt ≤ 1000000 := gJ.rowl (G := gGG) hS.1 tbt rfl
          have hl17 : 0 ≤ h.2.2.2.1 coo ∧ h.2.2.2.1 coo ≤ 12288 := gJ.rowl (G := gGG) hS.1 tcoo rfl
          have hl18 : 0 ≤ h.2.2.2.1 dmo ∧ h.2.2.2.1 dmo ≤ 192 := gJ.rowl (G := gGG) hS.1 tdmo rfl
          have hix19 : gIx ty x ld (h.2.2.2.1 bt : Int) (64 * dw + n0 + 4096 * dh + 262144 * i0) S h := ⟨pic, b0, b1, b2, dr, sk, bt, n0, c0, i0, dw, dh, ⟨tx, tdr, tsk, tbt⟩, ⟨ex2, ex3, ex4, ex0⟩, hpc, htc, ⟨en0, by omega, by omega⟩, ⟨eiv, by omega, by omega⟩, ⟨ec0, by omega, by omega⟩, ⟨by omega, by omega⟩, hrr, hrw, ⟨edw, by omega, by omega⟩, ⟨edh, by omega, by omega⟩, by omega, rfl, hxr, ⟨hsw, hc0⟩, htz⟩
          have G20 : gSg [] [] [] ty h ty h := gSg.ss G0 hS (by decide)
          exact gz_end (I := .new 84) (len := 3) rfl (Or.inr (by decide)) ⟨ty, G20, ld, (h.2.2.2.1 bt : Int), (64 * dw + n0 + 4096 * dh + 262144 * i0), (by omega), (by omega), (by omega), (by omega), (by omega), (by omega), hix19, Or.inr ⟨rfl, rfl, (by omega), (by dsimp only; omega), (by dsimp only; omega), (by omega), (by omega)⟩⟩
        · refine gy_icF rfl (by decide) (by decide) (by omega) (by omega) hc15 ?_
          refine gz_s 1 (pc' := 53) (L' := [some (.ref x), some (.int (zi a)), some (.int (zi b)), some (.int (zi c)), some (.int (zi jn2v0)), none, none, none]) (S' := [.int (zi b)]) rfl ?_
          by_cases hc21 : (b : Int) < 0
          · refine gy_ifT (pc' := 67) rfl (by decide) (by decide) (by omega) hc21 ?_
            have hl22 : 1024 ≤ h.2.2.2.1 bt ∧ h.2.2.2.1 bt ≤ 1000000 := gJ.rowl (G := gGG) hS.1 tbt rfl
            have hl23 : 0 ≤ h.2.2.2.1 coo ∧ h.2.2.2.1 coo ≤ 12288 := gJ.rowl (G := gGG) hS.1 tcoo rfl
            have hl24 : 0 ≤ h.2.2.2.1 dmo ∧ h.2.2.2.1 dmo ≤ 192 := gJ.rowl (G := gGG) hS.1 tdmo rfl
            have hix25 : gIx ty x ld (h.2.2.2.1 bt : Int) (64 * dw + n0 + 4096 * dh + 262144 * i0) S h := ⟨pic, b0, b1, b2, dr, sk, bt, n0, c0, i0, dw, dh, ⟨tx, tdr, tsk, tbt⟩, ⟨ex2, ex3, ex4, ex0⟩, hpc, htc, ⟨en0, by omega, by omega⟩, ⟨eiv, by omega, by omega⟩, ⟨ec0, by omega, by omega⟩, ⟨by omega, by omega⟩, hrr, hrw, ⟨edw, by omega, by omega⟩, ⟨edh, by omega, by omega⟩, by omega, rfl, hxr, ⟨hsw, hc0⟩, htz⟩
            have G26 : gSg [] [] [] ty h ty h := gSg.ss G0 hS (by decide)
            exact gz_end (I := .new 84) (len := 3) rfl (Or.inr (by decide)) ⟨ty, G26, ld, (h.2.2.2.1 bt : Int), (64 * dw + n0 + 4096 * dh + 262144 * i0), (by omega), (by omega), (by omega), (by omega), (by omega), (by omega), hix25, Or.inr ⟨rfl, rfl, (by omega), (by dsimp only; omega), (by dsimp only; omega), (by omega), (by omega)⟩⟩
          · refine gy_ifF rfl (by decide) (by decide) (by omega) hc21 ?_
            refine gz_s 2 (pc' := 58) (L' := [some (.ref x), some (.int (zi a)), some (.int (zi b)), some (.int (zi c)), some (.int (zi jn2v0)), none, none, none]) (S' := [.ref x, .int (zi b)]) rfl ?_
            refine gs_gtk rfl (by decide) rfl hS.1 tx rfl rfl ex2 ?_
            refine gs_gtk rfl (by decide) rfl hS.1 tpic rfl rfl exhho ?_
            by_cases hc27 : (b : Int) < vvo 5
            · refine gy_icT (pc' := 77) rfl (by decide) (by decide) (by omega) (by omega) hc27 ?_
              refine gz_s 2 (pc' := 79) (L' := [some (.ref x), some (.int (zi a)), some (.int (zi b)), some (.int (zi c)), some (.int (zi jn2v0)), none, none, none]) (S' := [.ref x, .int (zi c)]) rfl ?_
              refine gs_gtk rfl (by decide) rfl hS.1 tx rfl rfl ex2 ?_
              refine gs_gtk rfl (by decide) rfl hS.1 tpic rfl rfl excno ?_
              by_cases hc28 : (vvo 0 : Int) ≤ c
              · refine gy_icT (pc' := 99) rfl (by decide) (by decide) (by omega) (by omega) hc28 ?_
                refine gz_s 1 (pc' := 100) (L' := [some (.ref x), some (.int (zi a)), some (.int (zi b)), some (.int (zi c)), some (.int (zi jn2v0)), none, none, none]) (S' := [.ref x]) rfl ?_
                refine gs_gtk rfl (by decide) rfl hS.1 tx rfl rfl ex2 ?_
                refine gz_s 3 (pc' := 106) (L' := [some (.ref x), some (.int (zi a)), some (.int (zi b)), some (.int (zi c)), some (.int (zi jn2v0)), none, none, none]) (S' := [.int (zi b), .int (zi a), .int (zi 0), .ref pic]) rfl ?_
                have hl29 : h.2.2.2.1 coo = h.2.2.2.1 coo := congrFun hS.2.2.2.2.1 coo
                refine gz_call rfl (by decide) rfl (by decide) (by decide) (gcal_of rfl rfl rfl (Nat.le_of_ble_eq_true rfl) (gJ.recv (G := gGG) hS.1 tpic rfl rfl)) (cl_Picture_sampleAt _ hS.1 pic tpic 0 ⟨by omega, by omega⟩ a ⟨by omega, by omega⟩ b ⟨by omega, by omega⟩ bno er0o tbno b0 er1o tb0 b1 er2o tb1 b2 er3o tb2 coo er4o tcoo (gSta.fr hS.2 (by decide) hyst) (vvo 0) excno ⟨by omega, by omega⟩ (vvo 1) exuco ⟨by omega, by omega⟩ (vvo 2) exuro ⟨by omega, by omega⟩ (vvo 3) exblo ⟨by omega, by omega⟩ (vvo 4) exwo ⟨by omega, by omega⟩ (vvo 5) exhho ⟨by omega, by omega⟩ (vvo 6) exgho ⟨by omega, by omega⟩ (vvo 7) exgvo ⟨by omega, by omega⟩ (vvo 8) exhb0o ⟨by omega, by omega⟩ (vvo 9) exvb0o ⟨by omega, by omega⟩ (vvo 11) exC0o ⟨by omega, by omega⟩ (vvo 12) exR0o ⟨by omega, by omega⟩ (vvo 13) exoc0o ⟨by omega, by omega⟩ (vvo 14) exor0o ⟨by omega, by omega⟩ (vvo 15) exf0o ⟨by omega, by omega⟩ (vvo 16) exhb1o ⟨by omega, by omega⟩ (vvo 17) exvb1o ⟨by omega, by omega⟩ (vvo 19) exC1o ⟨by omega, by omega⟩ (vvo 20) exR1o ⟨by omega, by omega⟩ (vvo 21) exoc1o ⟨by omega, by omega⟩ (vvo 22) exor1o ⟨by omega, by omega⟩ (vvo 23) exf1o ⟨by omega, by omega⟩ (vvo 24) exhb2o ⟨by omega, by omega⟩ (vvo 25) exvb2o ⟨by omega, by omega⟩ (vvo 27) exC2o ⟨by omega, by omega⟩ (vvo 28) exR2o ⟨by omega, by omega⟩ (vvo 29) exoc2o ⟨by omega, by omega⟩ (vvo 30) exor2o ⟨by omega, by omega⟩ (vvo 31) exf2o ⟨by omega, by omega⟩ (vvo 10) extq0o ⟨by omega, by omega⟩ (vvo 18) extq1o ⟨by omega, by omega⟩ (vvo 26) extq2o ⟨by omega, by omega⟩ (by omega) (by omega) (by omega) (by omega) uq yy0o yy1o yy2o yy3o yy4o yy5o yy7o) (fun q30 _ wq30 => ?_)
                obtain ⟨pq30, oq30, hq30⟩ := q30
                obtain ⟨xq30, zq30, gq30, aq30, bq30⟩ := wq30
                refine ⟨_, gq30, ?_⟩
                show gz gPP gGG gcn _ _ 109 [some (.ref x), some (.int (zi a)), some (.int (zi b)), some (.int (zi c)), some (.int (zi jn2v0)), none, none, none] [.int (zi zq30)] hq30 _
                have sq30 : gSs rT 1027 ty [] h hq30 := gSs.tr hS xq30 (by decide)
                have s31 := (xq30.2.2.2.2.2 x 2 (by rw [tx]; decide)).trans ex2
                have s32 := (xq30.2.2.2.2.2 x 3 (by rw [tx]; decide)).trans ex3
                have s33 := (xq30.2.2.2.2.2 x 4 (by rw [tx]; decide)).trans ex4
                have s34 := (xq30.2.2.2.2.2 sk 0 (by rw [tsk]; decide)).trans ex0
                have s35 := (xq30.2.2.2.2.2 dr 8 (by rw [tdr]; decide)).trans en0
                have s36 := (xq30.2.2.2.2.2 dr 3 (by rw [tdr]; decide)).trans eiv
                have s37 := (xq30.2.2.2.2.2 dr 1 (by rw [tdr]; decide)).trans edw
                have s38 := (xq30.2.2.2.2.2 dr 2 (by rw [tdr]; decide)).trans edh
                have s39 := (xq30.2.2.2.2.2 sk 1 (by rw [tsk]; decide)).trans ec0
                have s40 := (xq30.2.2.2.2.2 pic 0 (by rw [tpic]; decide)).trans er0o
                have s41 := (xq30.2.2.2.2.2 bno 0 (by rw [tbno]; decide)).trans er1o
                have s42 := (xq30.2.2.2.2.2 bno 1 (by rw [tbno]; decide)).trans er2o
                have s43 := (xq30.2.2.2.2.2 bno 2 (by rw [tbno]; decide)).trans er3o
                have s44 := (xq30.2.2.2.2.2 pic 2 (by rw [tpic]; decide)).trans er4o
                have s45 := (xq30.2.2.2.2.2 pic 3 (by rw [tpic]; decide)).trans er5o
                have s46 := (xq30.2.2.2.2.2 pic 7 (by rw [tpic]; decide)).trans excno
                have s47 := (xq30.2.2.2.2.2 pic 12 (by rw [tpic]; decide)).trans exuco
                have s48 := (xq30.2.2.2.2.2 pic 13 (by rw [tpic]; decide)).trans exuro
                have s49 := (xq30.2.2.2.2.2 pic 8 (by rw [tpic]; decide)).trans exblo
                have s50 := (xq30.2.2.2.2.2 pic 5 (by rw [tpic]; decide)).trans exwo
                have s51 := (xq30.2.2.2.2.2 pic 6 (by rw [tpic]; decide)).trans exhho
                have s52 := (xq30.2.2.2.2.2 pic 10 (by rw [tpic]; decide)).trans exgho
                have s53 := (xq30.2.2.2.2.2 pic 11 (by rw [tpic]; decide)).trans exgvo
                have s54 := (xq30.2.2.2.2.2 b0 1 (by rw [tb0]; decide)).trans exhb0o
                have s55 := (xq30.2.2.2.2.2 b0 2 (by rw [tb0]; decide)).trans exvb0o
                have s56 := (xq30.2.2.2.2.2 b0 3 (by rw [tb0]; decide)).trans extq0o
                have s57 := (xq30.2.2.2.2.2 b0 4 (by rw [tb0]; decide)).trans exC0o
                have s58 := (xq30.2.2.2.2.2 b0 5 (by rw [tb0]; decide)).trans exR0o
                have s59 := (xq30.2.2.2.2.2 b0 6 (by rw [tb0]; decide)).trans exoc0o
                have s60 := (xq30.2.2.2.2.2 b0 7 (by rw [tb0]; decide)).trans exor0o
                have s61 := (xq30.2.2.2.2.2 b0 8 (by rw [tb0]; decide)).trans exf0o
                have s62 := (xq30.2.2.2.2.2 b1 1 (by rw [tb1]; decide)).trans exhb1o
                have s63 := (xq30.2.2.2.2.2 b1 2 (by rw [tb1]; decide)).trans exvb1o
                have s64 := (xq30.2.2.2.2.2 b1 3 (by rw [tb1]; decide)).trans extq1o
                have s65 := (xq30.2.2.2.2.2 b1 4 (by rw [tb1]; decide)).trans exC1o
                have s66 := (xq30.2.2.2.2.2 b1 5 (by rw [tb1]; decide)).trans exR1o
                have s67 := (xq30.2.2.2.2.2 b1 6 (by rw [tb1]; decide)).trans exoc1o
                have s68 := (xq30.2.2.2.2.2 b1 7 (by rw [tb1]; decide)).trans exor1o
                have s69 := (xq30.2.2.2.2.2 b1 8 (by rw [tb1]; decide)).trans exf1o
                have s70 := (xq30.2.2.2.2.2 b2 1 (by rw [tb2]; decide)).trans exhb2o
                have s71 := (xq30.2.2.2.2.2 b2 2 (by rw [tb2]; decide)).trans exvb2o
                have s72 := (xq30.2.2.2.2.2 b2 3 (by rw [tb2]; decide)).trans extq2o
                have s73 := (xq30.2.2.2.2.2 b2 4 (by rw [tb2]; decide)).trans exC2o
                have s74 := (xq30.2.2.2.2.2 b2 5 (by rw [tb2]; decide)).trans exR2o
                have s75 := (xq30.2.2.2.2.2 b2 6 (by rw [tb2]; decide)).trans exoc2o
                have s76 := (xq30.2.2.2.2.2 b2 7 (by rw [tb2]; decide)).trans exor2o
                have s77 := (xq30.2.2.2.2.2 b2 8 (by rw [tb2]; decide)).trans exf2o
                have pr78 := gXr.fr xq30.2 (by decide) hxr
                have pr79 := gSW.fr xq30.2 (by decide) hsw
                have pr80 := gPC.fr xq30.2 (by decide) hpc
                have pr81 := gTc.fr xq30.2 (by decide) htc
                have pr82 := gRr.fr xq30.2 (by decide) hrr
                have pr83 := gRw.fr xq30.2 (by decide) hrw
                refine gz_s 2 (pc' := 112) (L' := [some (.ref x), some (.int (zi a)), some (.int (zi b)), some (.int (zi c)), some (.int (zi jn2v0)), some (.int (zi zq30)), none, none]) (S' := [.ref x]) rfl ?_
                refine gs_gtk rfl (by decide) rfl sq30.1 tx rfl rfl s31 ?_
                refine gs_gtk rfl (by decide) rfl sq30.1 tpic rfl rfl s46 ?_
                refine gz_s 1 (pc' := 119) (L' := [some (.ref x), some (.int (zi a)), some (.int (zi b)), some (.int (zi c)), some (.int (zi jn2v0)), some (.int (zi zq30)), none, none]) (S' := [.int (zi 3), .int (zi (vvo 0))]) rfl ?_
                by_cases hc84 : (3 : Int) ≤ vvo 0
                · refine gy_icT (pc' := 125) rfl (by decide) (by decide) (by omega) (by omega) hc84 ?_
                  refine gz_s 1 (pc' := 126) (L' := [some (.ref x), some (.int (zi a)), some (.int (zi b)), some (.int (zi c)), some (.int (zi jn2v0)), some (.int (zi zq30)), none, none]) (S' := [.ref x]) rfl ?_
                  refine gs_gtk rfl (by decide) rfl sq30.1 tx rfl rfl s31 ?_
                  refine gz_s 3 (pc' := 132) (L' := [some (.ref x), some (.int (zi a)), some (.int (zi b)), some (.int (zi c)), some (.int (zi jn2v0)), some (.int (zi zq30)), none, none]) (S' := [.int (zi b), .int (zi a), .int (zi 1), .ref pic]) rfl ?_
                  have k85 := sq30.2.1
                  have k85b := sq30.2.2.1
                  have hl86 : hq30.2.2.2.1 bt = h.2.2.2.1 bt := congrFun sq30.2.2.2.2.1 bt
                  have hl87 : hq30.2.2.2.1 coo = h.2.2.2.1 coo := congrFun sq30.2.2.2.2.1 coo
                  have hl88 : hq30.2.2.2.1 dmo = h.2.2.2.1 dmo := congrFun sq30.2.2.2.2.1 dmo
                  have hl89 : hq30.2.2.2.1 coo = h.2.2.2.1 coo := congrFun sq30.2.2.2.2.1 coo
                  refine gz_call rfl (by decide) rfl (by decide) (by decide) (gcal_of rfl rfl rfl (Nat.le_of_ble_eq_true rfl) (gJ.recv (G := gGG) sq30.1 tpic rfl rfl)) (cl_Picture_sampleAt _ sq30.1 pic tpic 1 ⟨by omega, by omega⟩ a ⟨by omega, by omega⟩ b ⟨by omega, by omega⟩ bno s40 tbno b0 s41 tb0 b1 s42 tb1 b2 s43 tb2 coo s44 tcoo (gSta.fr sq30.2 (by decide) hyst) (vvo 0) s46 ⟨by omega, by omega⟩ (vvo 1) s47 ⟨by omega, by omega⟩ (vvo 2) s48 ⟨by omega, by omega⟩ (vvo 3) s49 ⟨by omega, by omega⟩ (vvo 4) s50 ⟨by omega, by omega⟩ (vvo 5) s51 ⟨by omega, by omega⟩ (vvo 6) s52 ⟨by omega, by omega⟩ (vvo 7) s53 ⟨by omega, by omega⟩ (vvo 8) s54 ⟨by omega, by omega⟩ (vvo 9) s55 ⟨by omega, by omega⟩ (vvo 11) s57 ⟨by omega, by omega⟩ (vvo 12) s58 ⟨by omega, by omega⟩ (vvo 13) s59 ⟨by omega, by omega⟩ (vvo 14) s60 ⟨by omega, by omega⟩ (vvo 15) s61 ⟨by omega, by omega⟩ (vvo 16) s62 ⟨by omega, by omega⟩ (vvo 17) s63 ⟨by omega, by omega⟩ (vvo 19) s65 ⟨by omega, by omega⟩ (vvo 20) s66 ⟨by omega, by omega⟩ (vvo 21) s67 ⟨by omega, by omega⟩ (vvo 22) s68 ⟨by omega, by omega⟩ (vvo 23) s69 ⟨by omega, by omega⟩ (vvo 24) s70 ⟨by omega, by omega⟩ (vvo 25) s71 ⟨by omega, by omega⟩ (vvo 27) s73 ⟨by omega, by omega⟩ (vvo 28) s74 ⟨by omega, by omega⟩ (vvo 29) s75 ⟨by omega, by omega⟩ (vvo 30) s76 ⟨by omega, by omega⟩ (vvo 31) s77 ⟨by omega, by omega⟩ (vvo 10) s56 ⟨by omega, by omega⟩ (vvo 18) s64 ⟨by omega, by omega⟩ (vvo 26) s72 ⟨by omega, by omega⟩ (by omega) (by omega) (by omega) (by omega) uq yy0o yy1o yy2o yy3o yy4o yy5o yy7o) (fun q90 _ wq90 => ?_)
                  obtain ⟨pq90, oq90, hq90⟩ := q90
                  obtain ⟨xq90, zq90, gq90, aq90, bq90⟩ := wq90
                  refine ⟨_, gq90, ?_⟩
                  show gz gPP gGG gcn _ _ 135 [some (.ref x), some (.int (zi a)), some (.int (zi b)), some (.int (zi c)), some (.int (zi jn2v0)), some (.int (zi zq30)), none, none] [.int (zi zq90)] hq90 _
                  have sq90 : gSs rT 1027 ty [] h hq90 := gSs.tr sq30 xq90 (by decide)
                  have s91 := (xq90.2.2.2.2.2 x 2 (by rw [tx]; decide)).trans s31
                  have s92 := (xq90.2.2.2.2.2 x 3 (by rw [tx]; decide)).trans s32
                  have s93 := (xq90.2.2.2.2.2 x 4 (by rw [tx]; decide)).trans s33
                  have s94 := (xq90.2.2.2.2.2 sk 0 (by rw [tsk]; decide)).trans s34
                  have s95 := (xq90.2.2.2.2.2 dr 8 (by rw [tdr]; decide)).trans s35
                  have s96 := (xq90.2.2.2.2.2 dr 3 (by rw [tdr]; decide)).trans s36
                  have s97 := (xq90.2.2.2.2.2 dr 1 (by rw [tdr]; decide)).trans s37
                  have s98 := (xq90.2.2.2.2.2 dr 2 (by rw [tdr]; decide)).trans s38
                  have s99 := (xq90.2.2.2.2.2 sk 1 (by rw [tsk]; decide)).trans s39
                  have s100 := (xq90.2.2.2.2.2 pic 0 (by rw [tpic]; decide)).trans s40
                  have s101 := (xq90.2.2.2.2.2 bno 0 (by rw [tbno]; decide)).trans s41
                  have s102 := (xq90.2.2.2.2.2 bno 1 (by rw [tbno]; decide)).trans s42
                  have s103 := (xq90.2.2.2.2.2 bno 2 (by rw [tbno]; decide)).trans s43
                  have s104 := (xq90.2.2.2.2.2 pic 2 (by rw [tpic]; decide)).trans s44
                  have s105 := (xq90.2.2.2.2.2 pic 3 (by rw [tpic]; decide)).trans s45
                  have s106 := (xq90.2.2.2.2.2 pic 7 (by rw [tpic]; decide)).trans s46
                  have s107 := (xq90.2.2.2.2.2 pic 12 (by rw [tpic]; decide)).trans s47
                  have s108 := (xq90.2.2.2.2.2 pic 13 (by rw [tpic]; decide)).trans s48
                  have s109 := (xq90.2.2.2.2.2 pic 8 (by rw [tpic]; decide)).trans s49
                  have s110 := (xq90.2.2.2.2.2 pic 5 (by rw [tpic]; decide)).trans s50
                  have s111 := (xq90.2.2.2.2.2 pic 6 (by rw [tpic]; decide)).trans s51
                  have s112 := (xq90.2.2.2.2.2 pic 10 (by rw [tpic]; decide)).trans s52
                  have s113 := (xq90.2.2.2.2.2 pic 11 (by rw [tpic]; decide)).trans s53
                  have s114 := (xq90.2.2.2.2.2 b0 1 (by rw [tb0]; decide)).trans s54
                  have s115 := (xq90.2.2.2.2.2 b0 2 (by rw [tb0]; decide)).trans s55
                  have s116 := (xq90.2.2.2.2.2 b0 3 (by rw [tb0]; decide)).trans s56
                  have s117 := (xq90.2.2.2.2.2 b0 4 (by rw [tb0]; decide)).trans s57
                  have s118 := (xq90.2.2.2.2.2 b0 5 (by rw [tb0]; decide)).trans s58
                  have s119 := (xq90.2.2.2.2.2 b0 6 (by rw [tb0]; decide)).trans s59
                  have s120 := (xq90.2.2.2.2.2 b0 7 (by rw [tb0]; decide)).trans s60
                  have s121 := (xq90.2.2.2.2.2 b0 8 (by rw [tb0]; decide)).trans s61
                  have s122 := (xq90.2.2.2.2.2 b1 1 (by rw [tb1]; decide)).trans s62
                  have s123 := (xq90.2.2.2.2.2 b1 2 (by rw [tb1]; decide)).trans s63
                  have s124 := (xq90.2.2.2.2.2 b1 3 (by rw [tb1]; decide)).trans s64
                  have s125 := (xq90.2.2.2.2.2 b1 4 (by rw [tb1]; decide)).trans s65
                  have s126 := (xq90.2.2.2.2.2 b1 5 (by rw [tb1]; decide)).trans s66
                  have s127 := (xq90.2.2.2.2.2 b1 6 (by rw [tb1]; decide)).trans s67
                  have s128 := (xq90.2.2.2.2.2 b1 7 (by rw [tb1]; decide)).trans s68
                  have s129 := (xq90.2.2.2.2.2 b1 8 (by rw [tb1]; decide)).trans s69
                  have s130 := (xq90.2.2.2.2.2 b2 1 (by rw [tb2]; decide)).trans s70
                  have s131 := (xq90.2.2.2.2.2 b2 2 (by rw [tb2]; decide)).trans s71
                  have s132 := (xq90.2.2.2.2.2 b2 3 (by rw [tb2]; decide)).trans s72
                  have s133 := (xq90.2.2.2.2.2 b2 4 (by rw [tb2]; decide)).trans s73
                  have s134 := (xq90.2.2.2.2.2 b2 5 (by rw [tb2]; decide)).trans s74
                  have s135 := (xq90.2.2.2.2.2 b2 6 (by rw [tb2]; decide)).trans s75
                  have s136 := (xq90.2.2.2.2.2 b2 7 (by rw [tb2]; decide)).trans s76
                  have s137 := (xq90.2.2.2.2.2 b2 8 (by rw [tb2]; decide)).trans s77
                  have pr138 := gXr.fr xq90.2 (by decide) pr78
                  have pr139 := gSW.fr xq90.2 (by decide) pr79
                  have pr140 := gPC.fr xq90.2 (by decide) pr80
                  have pr141 := gTc.fr xq90.2 (by decide) pr81
                  have pr142 := gRr.fr xq90.2 (by decide) pr82
                  have pr143 := gRw.fr xq90.2 (by decide) pr83
                  refine gy_s 2 (pc' := 139) (L' := [some (.ref x), some (.int (zi a)), some (.int (zi b)), some (.int (zi c)), some (.int (zi jn2v0)), some (.int (zi zq30)), none, none]) (S' := [.int ((zi zq90) - (zi 128))]) (L2 := [some (.ref x), some (.int (zi a)), some (.int (zi b)), some (.int (zi c)), some (.int (zi jn2v0)), some (.int (zi zq30)), none, none]) (S2 := [.int (zi (zq90 - 128))]) rfl (by simp only [zi_add, zi_sub, zi_mul, zi_neg, zi_and1, zi_and7, zi_and15, zi_and31, zi_and255]) (by simp only [zi_add, zi_sub, zi_mul, zi_neg, zi_and1, zi_and7, zi_and15, zi_and31, zi_and255]) ?_
                  refine gy_any (fun z144 ez144 az144 bz144 => ?_)
                  refine gz_s 2 (pc' := 142) (L' := [some (.ref x), some (.int (zi a)), some (.int (zi b)), some (.int (zi c)), some (.int (zi jn2v0)), some (.int (zi zq30)), some (.int (zi z144)), none]) (S' := [.ref x]) rfl ?_
                  refine gs_gtk rfl (by decide) rfl sq90.1 tx rfl rfl s91 ?_
                  refine gz_s 3 (pc' := 148) (L' := [some (.ref x), some (.int (zi a)), some (.int (zi b)), some (.int (zi c)), some (.int (zi jn2v0)), some (.int (zi zq30)), some (.int (zi z144)), none]) (S' := [.int (zi b), .int (zi a), .int (zi 2), .ref pic]) rfl ?_
                  have k145 := sq90.2.1
                  have k145b := sq90.2.2.1
                  have hl146 : hq90.2.2.2.1 bt = h.2.2.2.1 bt := congrFun sq90.2.2.2.2.1 bt
                  have hl147 : hq90.2.2.2.1 coo = h.2.2.2.1 coo := congrFun sq90.2.2.2.2.1 coo
                  have hl148 : hq90.2.2.2.1 dmo = h.2.2.2.1 dmo := congrFun sq90.2.2.2.2.1 dmo
                  have hl149 : hq90.2.2.2.1 coo = h.2.2.2.1 coo := congrFun sq90.2.2.2.2.1 coo
                  refine gz_call rfl (by decide) rfl (by decide) (by decide) (gcal_of rfl rfl rfl (Nat.le_of_ble_eq_true rfl) (gJ.recv (G := gGG) sq90.1 tpic rfl rfl)) (cl_Picture_sampleAt _ sq90.1 pic tpic 2 ⟨by omega, by omega⟩ a ⟨by omega, by omega⟩ b ⟨by omega, by omega⟩ bno s100 tbno b0 s101 tb0 b1 s102 tb1 b2 s103 tb2 coo s104 tcoo (gSta.fr sq90.2 (by decide) hyst) (vvo 0) s106 ⟨by omega, by omega⟩ (vvo 1) s107 ⟨by omega, by omega⟩ (vvo 2) s108 ⟨by omega, by omega⟩ (vvo 3) s109 ⟨by omega, by omega⟩ (vvo 4) s110 ⟨by omega, by omega⟩ (vvo 5) s111 ⟨by omega, by omega⟩ (vvo 6) s112 ⟨by omega, by omega⟩ (vvo 7) s113 ⟨by omega, by omega⟩ (vvo 8) s114 ⟨by omega, by omega⟩ (vvo 9) s115 ⟨by omega, by omega⟩ (vvo 11) s117 ⟨by omega, by omega⟩ (vvo 12) s118 ⟨by omega, by omega⟩ (vvo 13) s119 ⟨by omega, by omega⟩ (vvo 14) s120 ⟨by omega, by omega⟩ (vvo 15) s121 ⟨by omega, by omega⟩ (vvo 16) s122 ⟨by omega, by omega⟩ (vvo 17) s123 ⟨by omega, by omega⟩ (vvo 19) s125 ⟨by omega, by omega⟩ (vvo 20) s126 ⟨by omega, by omega⟩ (vvo 21) s127 ⟨by omega, by omega⟩ (vvo 22) s128 ⟨by omega, by omega⟩ (vvo 23) s129 ⟨by omega, by omega⟩ (vvo 24) s130 ⟨by omega, by omega⟩ (vvo 25) s131 ⟨by omega, by omega⟩ (vvo 27) s133 ⟨by omega, by omega⟩ (vvo 28) s134 ⟨by omega, by omega⟩ (vvo 29) s135 ⟨by omega, by omega⟩ (vvo 30) s136 ⟨by omega, by omega⟩ (vvo 31) s137 ⟨by omega, by omega⟩ (vvo 10) s116 ⟨by omega, by omega⟩ (vvo 18) s124 ⟨by omega, by omega⟩ (vvo 26) s132 ⟨by omega, by omega⟩ (by omega) (by omega) (by omega) (by omega) uq yy0o yy1o yy2o yy3o yy4o yy5o yy7o) (fun q150 _ wq150 => ?_)
                  obtain ⟨pq150, oq150, hq150⟩ := q150
                  obtain ⟨xq150, zq150, gq150, aq150, bq150⟩ := wq150
                  refine ⟨_, gq150, ?_⟩
                  show gz gPP gGG gcn _ _ 151 [some (.ref x), some (.int (zi a)), some (.int (zi b)), some (.int (zi c)), some (.int (zi jn2v0)), some (.int (zi zq30)), some (.int (zi z144)), none] [.int (zi zq150)] hq150 _
                  have sq150 : gSs rT 1027 ty [] h hq150 := gSs.tr sq90 xq150 (by decide)
                  have s151 := (xq150.2.2.2.2.2 x 2 (by rw [tx]; decide)).trans s91
                  have s152 := (xq150.2.2.2.2.2 x 3 (by rw [tx]; decide)).trans s92
                  have s153 := (xq150.2.2.2.2.2 x 4 (by rw [tx]; decide)).trans s93
                  have s154 := (xq150.2.2.2.2.2 sk 0 (by rw [tsk]; decide)).trans s94
                  have s155 := (xq150.2.2.2.2.2 dr 8 (by rw [tdr]; decide)).trans s95
                  have s156 := (xq150.2.2.2.2.2 dr 3 (by rw [tdr]; decide)).trans s96
                  have s157 := (xq150.2.2.2.2.2 dr 1 (by rw [tdr]; decide)).trans s97
                  have s158 := (xq150.2.2.2.2.2 dr 2 (by rw [tdr]; decide)).trans s98
                  have s159 := (xq150.2.2.2.2.2 sk 1 (by rw [tsk]; decide)).trans s99
                  have s160 := (xq150.2.2.2.2.2 pic 0 (by rw [tpic]; decide)).trans s100
                  have s161 := (xq150.2.2.2.2.2 bno 0 (by rw [tbno]; decide)).trans s101
                  have s162 := (xq150.2.2.2.2.2 bno 1 (by rw [tbno]; decide)).trans s102
                  have s163 := (xq150.2.2.2.2.2 bno 2 (by rw [tbno]; decide)).trans s103
                  have s164 := (xq150.2.2.2.2.2 pic 2 (by rw [tpic]; decide)).trans s104
                  have s165 := (xq150.2.2.2.2.2 pic 3 (by rw [tpic]; decide)).trans s105
                  have s166 := (xq150.2.2.2.2.2 pic 7 (by rw [tpic]; decide)).trans s106
                  have s167 := (xq150.2.2.2.2.2 pic 12 (by rw [tpic]; decide)).trans s107
                  have s168 := (xq150.2.2.2.2.2 pic 13 (by rw [tpic]; decide)).trans s108
                  have s169 := (xq150.2.2.2.2.2 pic 8 (by rw [tpic]; decide)).trans s109
                  have s170 := (xq150.2.2.2.2.2 pic 5 (by rw [tpic]; decide)).trans s110
                  have s171 := (xq150.2.2.2.2.2 pic 6 (by rw [tpic]; decide)).trans s111
                  have s172 := (xq150.2.2.2.2.2 pic 10 (by rw [tpic]; decide)).trans s112
                  have s173 := (xq150.2.2.2.2.2 pic 11 (by rw [tpic]; decide)).trans s113
                  have s174 := (xq150.2.2.2.2.2 b0 1 (by rw [tb0]; decide)).trans s114
                  have s175 := (xq150.2.2.2.2.2 b0 2 (by rw [tb0]; decide)).trans s115
                  have s176 := (xq150.2.2.2.2.2 b0 3 (by rw [tb0]; decide)).trans s116
                  have s177 := (xq150.2.2.2.2.2 b0 4 (by rw [tb0]; decide)).trans s117
                  have s178 := (xq150.2.2.2.2.2 b0 5 (by rw [tb0]; decide)).trans s118
                  have s179 := (xq150.2.2.2.2.2 b0 6 (by rw [tb0]; decide)).trans s119
                  have s180 := (xq150.2.2.2.2.2 b0 7 (by rw [tb0]; decide)).trans s120
                  have s181 := (xq150.2.2.2.2.2 b0 8 (by rw [tb0]; decide)).trans s121
                  have s182 := (xq150.2.2.2.2.2 b1 1 (by rw [tb1]; decide)).trans s122
                  have s183 := (xq150.2.2.2.2.2 b1 2 (by rw [tb1]; decide)).trans s123
                  have s184 := (xq150.2.2.2.2.2 b1 3 (by rw [tb1]; decide)).trans s124
                  have s185 := (xq150.2.2.2.2.2 b1 4 (by rw [tb1]; decide)).trans s125
                  have s186 := (xq150.2.2.2.2.2 b1 5 (by rw [tb1]; decide)).trans s126
                  have s187 := (xq150.2.2.2.2.2 b1 6 (by rw [tb1]; decide)).trans s127
                  have s188 := (xq150.2.2.2.2.2 b1 7 (by rw [tb1]; decide)).trans s128
                  have s189 := (xq150.2.2.2.2.2 b1 8 (by rw [tb1]; decide)).trans s129
                  have s190 := (xq150.2.2.2.2.2 b2 1 (by rw [tb2]; decide)).trans s130
                  have s191 := (xq150.2.2.2.2.2 b2 2 (by rw [tb2]; decide)).trans s131
                  have s192 := (xq150.2.2.2.2.2 b2 3 (by rw [tb2]; decide)).trans s132
                  have s193 := (xq150.2.2.2.2.2 b2 4 (by rw [tb2]; decide)).trans s133
                  have s194 := (xq150.2.2.2.2.2 b2 5 (by rw [tb2]; decide)).trans s134
                  have s195 := (xq150.2.2.2.2.2 b2 6 (by rw [tb2]; decide)).trans s135
                  have s196 := (xq150.2.2.2.2.2 b2 7 (by rw [tb2]; decide)).trans s136
                  have s197 := (xq150.2.2.2.2.2 b2 8 (by rw [tb2]; decide)).trans s137
                  have pr198 := gXr.fr xq150.2 (by decide) pr138
                  have pr199 := gSW.fr xq150.2 (by decide) pr139
                  have pr200 := gPC.fr xq150.2 (by decide) pr140
                  have pr201 := gTc.fr xq150.2 (by decide) pr141
                  have pr202 := gRr.fr xq150.2 (by decide) pr142
                  have pr203 := gRw.fr xq150.2 (by decide) pr143
                  refine gy_s 2 (pc' := 155) (L' := [some (.ref x), some (.int (zi a)), some (.int (zi b)), some (.int (zi c)), some (.int (zi jn2v0)), some (.int (zi zq30)), some (.int (zi z144)), none]) (S' := [.int ((zi zq150) - (zi 128))]) (L2 := [some (.ref x), some (.int (zi a)), some (.int (zi b)), some (.int (zi c)), some (.int (zi jn2v0)), some (.int (zi zq30)), some (.int (zi z144)), none]) (S2 := [.int (zi (zq150 - 128))]) rfl (by simp only [zi_add, zi_sub, zi_mul, zi_neg, zi_and1, zi_and7, zi_and15, zi_and31, zi_and255]) (by simp only [zi_add, zi_sub, zi_mul, zi_neg, zi_and1, zi_and7, zi_and15, zi_and31, zi_and255]) ?_
                  refine gy_any (fun z204 ez204 az204 bz204 => ?_)
                  refine gz_s 5 (pc' := 164) (L' := [some (.ref x), some (.int (zi a)), some (.int (zi b)), some (.int (zi c)), some (.int (zi jn2v0)), some (.int (zi zq30)), some (.int (zi z144)), some (.int (zi z204))]) (S' := [.int (zi z204), .int (zi z144), .int (zi zq30), .int (zi c)]) rfl ?_
                  refine gz_call rfl (by decide) rfl (by decide) (by decide) (gcal_of rfl rfl rfl (Nat.le_of_ble_eq_true rfl) rfl) (cl_DctFilter_colourW _ sq150.1 c ⟨by omega, by omega⟩ zq30 ⟨by omega, by omega⟩ z144 ⟨by omega, by omega⟩ z204 ⟨by omega, by omega⟩ ) (fun q205 _ wq205 => ?_)
                  obtain ⟨pq205, oq205, hq205⟩ := q205
                  obtain ⟨xq205, zq205, gq205, aq205, bq205⟩ := wq205
                  refine ⟨_, gq205, ?_⟩
                  show gz gPP gGG gcn _ _ 167 [some (.ref x), some (.int (zi a)), some (.int (zi b)), some (.int (zi c)), some (.int (zi jn2v0)), some (.int (zi zq30)), some (.int (zi z144)), some (.int (zi z204))] [.int (zi zq205)] hq205 _
                  have sq205 : gSs rT 1027 ty [] h hq205 := gSs.tr sq150 xq205 (by decide)
                  have s206 := (xq205.2.2.2.2.2 x 2 (by rw [tx]; decide)).trans s151
                  have s207 := (xq205.2.2.2.2.2 x 3 (by rw [tx]; decide)).trans s152
                  have s208 := (xq205.2.2.2.2.2 x 4 (by rw [tx]; decide)).trans s153
                  have s209 := (xq205.2.2.2.2.2 sk 0 (by rw [tsk]; decide)).trans s154
                  have s210 := (xq205.2.2.2.2.2 dr 8 (by rw [tdr]; decide)).trans s155
                  have s211 := (xq205.2.2.2.2.2 dr 3 (by rw [tdr]; decide)).trans s156
                  have s212 := (xq205.2.2.2.2.2 dr 1 (by rw [tdr]; decide)).trans s157
                  have s213 := (xq205.2.2.2.2.2 dr 2 (by rw [tdr]; decide)).trans s158
                  have s214 := (xq205.2.2.2.2.2 sk 1 (by rw [tsk]; decide)).trans s159
                  have s215 := (xq205.2.2.2.2.2 pic 0 (by rw [tpic]; decide)).trans s160
                  have s216 := (xq205.2.2.2.2.2 bno 0 (by rw [tbno]; decide)).trans s161
                  have s217 := (xq205.2.2.2.2.2 bno 1 (by rw [tbno]; decide)).trans s162
                  have s218 := (xq205.2.2.2.2.2 bno 2 (by rw [tbno]; decide)).trans s163
                  have s219 := (xq205.2.2.2.2.2 pic 2 (by rw [tpic]; decide)).trans s164
                  have s220 := (xq205.2.2.2.2.2 pic 3 (by rw [tpic]; decide)).trans s165
                  have s221 := (xq205.2.2.2.2.2 pic 7 (by rw [tpic]; decide)).trans s166
                  have s222 := (xq205.2.2.2.2.2 pic 12 (by rw [tpic]; decide)).trans s167
                  have s223 := (xq205.2.2.2.2.2 pic 13 (by rw [tpic]; decide)).trans s168
                  have s224 := (xq205.2.2.2.2.2 pic 8 (by rw [tpic]; decide)).trans s169
                  have s225 := (xq205.2.2.2.2.2 pic 5 (by rw [tpic]; decide)).trans s170
                  have s226 := (xq205.2.2.2.2.2 pic 6 (by rw [tpic]; decide)).trans s171
                  have s227 := (xq205.2.2.2.2.2 pic 10 (by rw [tpic]; decide)).trans s172
                  have s228 := (xq205.2.2.2.2.2 pic 11 (by rw [tpic]; decide)).trans s173
                  have s229 := (xq205.2.2.2.2.2 b0 1 (by rw [tb0]; decide)).trans s174
                  have s230 := (xq205.2.2.2.2.2 b0 2 (by rw [tb0]; decide)).trans s175
                  have s231 := (xq205.2.2.2.2.2 b0 3 (by rw [tb0]; decide)).trans s176
                  have s232 := (xq205.2.2.2.2.2 b0 4 (by rw [tb0]; decide)).trans s177
                  have s233 := (xq205.2.2.2.2.2 b0 5 (by rw [tb0]; decide)).trans s178
                  have s234 := (xq205.2.2.2.2.2 b0 6 (by rw [tb0]; decide)).trans s179
                  have s235 := (xq205.2.2.2.2.2 b0 7 (by rw [tb0]; decide)).trans s180
                  have s236 := (xq205.2.2.2.2.2 b0 8 (by rw [tb0]; decide)).trans s181
                  have s237 := (xq205.2.2.2.2.2 b1 1 (by rw [tb1]; decide)).trans s182
                  have s238 := (xq205.2.2.2.2.2 b1 2 (by rw [tb1]; decide)).trans s183
                  have s239 := (xq205.2.2.2.2.2 b1 3 (by rw [tb1]; decide)).trans s184
                  have s240 := (xq205.2.2.2.2.2 b1 4 (by rw [tb1]; decide)).trans s185
                  have s241 := (xq205.2.2.2.2.2 b1 5 (by rw [tb1]; decide)).trans s186
                  have s242 := (xq205.2.2.2.2.2 b1 6 (by rw [tb1]; decide)).trans s187
                  have s243 := (xq205.2.2.2.2.2 b1 7 (by rw [tb1]; decide)).trans s188
                  have s244 := (xq205.2.2.2.2.2 b1 8 (by rw [tb1]; decide)).trans s189
                  have s245 := (xq205.2.2.2.2.2 b2 1 (by rw [tb2]; decide)).trans s190
                  have s246 := (xq205.2.2.2.2.2 b2 2 (by rw [tb2]; decide)).trans s191
                  have s247 := (xq205.2.2.2.2.2 b2 3 (by rw [tb2]; decide)).trans s192
                  have s248 := (xq205.2.2.2.2.2 b2 4 (by rw [tb2]; decide)).trans s193
                  have s249 := (xq205.2.2.2.2.2 b2 5 (by rw [tb2]; decide)).trans s194
                  have s250 := (xq205.2.2.2.2.2 b2 6 (by rw [tb2]; decide)).trans s195
                  have s251 := (xq205.2.2.2.2.2 b2 7 (by rw [tb2]; decide)).trans s196
                  have s252 := (xq205.2.2.2.2.2 b2 8 (by rw [tb2]; decide)).trans s197
                  have pr253 := gXr.fr xq205.2 (by decide) pr198
                  have pr254 := gSW.fr xq205.2 (by decide) pr199
                  have pr255 := gPC.fr xq205.2 (by decide) pr200
                  have pr256 := gTc.fr xq205.2 (by decide) pr201
                  have pr257 := gRr.fr xq205.2 (by decide) pr202
                  have pr258 := gRw.fr xq205.2 (by decide) pr203
                  have k259 := sq205.2.1
                  have k259b := sq205.2.2.1
                  have hl260 : hq205.2.2.2.1 bt = h.2.2.2.1 bt := congrFun sq205.2.2.2.2.1 bt
                  have hl261 : hq205.2.2.2.1 coo = h.2.2.2.1 coo := congrFun sq205.2.2.2.2.1 coo
                  have hl262 : hq205.2.2.2.1 dmo = h.2.2.2.1 dmo := congrFun sq205.2.2.2.2.1 dmo
                  have hl263 : 1024 ≤ hq205.2.2.2.1 bt ∧ hq205.2.2.2.1 bt ≤ 1000000 := gJ.rowl (G := gGG) sq205.1 tbt rfl
                  have hl264 : 0 ≤ hq205.2.2.2.1 coo ∧ hq205.2.2.2.1 coo ≤ 12288 := gJ.rowl (G := gGG) sq205.1 tcoo rfl
                  have hl265 : 0 ≤ hq205.2.2.2.1 dmo ∧ hq205.2.2.2.1 dmo ≤ 192 := gJ.rowl (G := gGG) sq205.1 tdmo rfl
                  have k266 := sq205.2.1
                  have k266b := sq205.2.2.1
                  have hl267 : hq205.2.2.2.1 bt = h.2.2.2.1 bt := congrFun sq205.2.2.2.2.1 bt
                  have hl268 : hq205.2.2.2.1 coo = h.2.2.2.1 coo := congrFun sq205.2.2.2.2.1 coo
                  have hl269 : hq205.2.2.2.1 dmo = h.2.2.2.1 dmo := congrFun sq205.2.2.2.2.1 dmo
                  have hix270 : gIx ty x ld (hq205.2.2.2.1 bt : Int) (64 * dw + n0 + 4096 * dh + 262144 * i0) S hq205 := ⟨pic, b0, b1, b2, dr, sk, bt, n0, c0, i0, dw, dh, ⟨tx, tdr, tsk, tbt⟩, ⟨s206, s207, s208, s209⟩, pr255, pr256, ⟨s210, by omega, by omega⟩, ⟨s211, by omega, by omega⟩, ⟨s214, by omega, by omega⟩, ⟨by omega, by omega⟩, pr257, pr258, ⟨s212, by omega, by omega⟩, ⟨s213, by omega, by omega⟩, by omega, rfl, pr253, ⟨pr254, hc0⟩, htz⟩
                  have G271 : gSg [] [] [] ty h ty hq205 := gSg.ss G0 sq205 (by decide)
                  exact gz_end (I := .ireturn) (len := 1) rfl (Or.inl rfl) ⟨ty, G271, ld, (hq205.2.2.2.1 bt : Int), (64 * dw + n0 + 4096 * dh + 262144 * i0), (by omega), (by omega), (by omega), (by omega), (by omega), (by omega), hix270, Or.inl ⟨zq205, rfl, (by omega), (by omega), (by omega), (by dsimp only; omega), (by dsimp only; omega), (by omega), (by omega)⟩⟩
                · refine gy_icF rfl (by decide) (by decide) (by omega) (by omega) hc84 ?_
                  refine gz_s 1 (pc' := 124) (L' := [some (.ref x), some (.int (zi a)), some (.int (zi b)), some (.int (zi c)), some (.int (zi jn2v0)), some (.int (zi zq30)), none, none]) (S' := [.int (zi zq30)]) rfl ?_
                  have k272 := sq30.2.1
                  have k272b := sq30.2.2.1
                  have hl273 : hq30.2.2.2.1 bt = h.2.2.2.1 bt := congrFun sq30.2.2.2.2.1 bt
                  have hl274 : hq30.2.2.2.1 coo = h.2.2.2.1 coo := congrFun sq30.2.2.2.2.1 coo
                  have hl275 : hq30.2.2.2.1 dmo = h.2.2.2.1 dmo := congrFun sq30.2.2.2.2.1 dmo
                  have hl276 : 1024 ≤ hq30.2.2.2.1 bt ∧ hq30.2.2.2.1 bt ≤ 1000000 := gJ.rowl (G := gGG) sq30.1 tbt rfl
                  have hl277 : 0 ≤ hq30.2.2.2.1 coo ∧ hq30.2.2.2.1 coo ≤ 12288 := gJ.rowl (G := gGG) sq30.1 tcoo rfl
                  have hl278 : 0 ≤ hq30.2.2.2.1 dmo ∧ hq30.2.2.2.1 dmo ≤ 192 := gJ.rowl (G := gGG) sq30.1 tdmo rfl
                  have k279 := sq30.2.1
                  have k279b := sq30.2.2.1
                  have hl280 : hq30.2.2.2.1 bt = h.2.2.2.1 bt := congrFun sq30.2.2.2.2.1 bt
                  have hl281 : hq30.2.2.2.1 coo = h.2.2.2.1 coo := congrFun sq30.2.2.2.2.1 coo
                  have hl282 : hq30.2.2.2.1 dmo = h.2.2.2.1 dmo := congrFun sq30.2.2.2.2.1 dmo
                  have hix283 : gIx ty x ld (hq30.2.2.2.1 bt : Int) (64 * dw + n0 + 4096 * dh + 262144 * i0) S hq30 := ⟨pic, b0, b1, b2, dr, sk, bt, n0, c0, i0, dw, dh, ⟨tx, tdr, tsk, tbt⟩, ⟨s31, s32, s33, s34⟩, pr80, pr81, ⟨s35, by omega, by omega⟩, ⟨s36, by omega, by omega⟩, ⟨s39, by omega, by omega⟩, ⟨by omega, by omega⟩, pr82, pr83, ⟨s37, by omega, by omega⟩, ⟨s38, by omega, by omega⟩, by omega, rfl, pr78, ⟨pr79, hc0⟩, htz⟩
                  have G284 : gSg [] [] [] ty h ty hq30 := gSg.ss G0 sq30 (by decide)
                  exact gz_end (I := .ireturn) (len := 1) rfl (Or.inl rfl) ⟨ty, G284, ld, (hq30.2.2.2.1 bt : Int), (64 * dw + n0 + 4096 * dh + 262144 * i0), (by omega), (by omega), (by omega), (by omega), (by omega), (by omega), hix283, Or.inl ⟨zq30, rfl, (by omega), (by omega), (by omega), (by dsimp only; omega), (by dsimp only; omega), (by omega), (by omega)⟩⟩
              · refine gy_icF rfl (by decide) (by decide) (by omega) (by omega) hc28 ?_
                refine gz_s 1 (pc' := 89) (L' := [some (.ref x), some (.int (zi a)), some (.int (zi b)), some (.int (zi c)), some (.int (zi jn2v0)), none, none, none]) (S' := [.ref x]) rfl ?_
                refine gs_gtk rfl (by decide) rfl hS.1 tx rfl rfl ex2 ?_
                refine gz_s 3 (pc' := 95) (L' := [some (.ref x), some (.int (zi a)), some (.int (zi b)), some (.int (zi c)), some (.int (zi jn2v0)), none, none, none]) (S' := [.int (zi b), .int (zi a), .int (zi c), .ref pic]) rfl ?_
                have hl285 : h.2.2.2.1 coo = h.2.2.2.1 coo := congrFun hS.2.2.2.2.1 coo
                refine gz_call rfl (by decide) rfl (by decide) (by decide) (gcal_of rfl rfl rfl (Nat.le_of_ble_eq_true rfl) (gJ.recv (G := gGG) hS.1 tpic rfl rfl)) (cl_Picture_sampleAt _ hS.1 pic tpic c ⟨by omega, by omega⟩ a ⟨by omega, by omega⟩ b ⟨by omega, by omega⟩ bno er0o tbno b0 er1o tb0 b1 er2o tb1 b2 er3o tb2 coo er4o tcoo (gSta.fr hS.2 (by decide) hyst) (vvo 0) excno ⟨by omega, by omega⟩ (vvo 1) exuco ⟨by omega, by omega⟩ (vvo 2) exuro ⟨by omega, by omega⟩ (vvo 3) exblo ⟨by omega, by omega⟩ (vvo 4) exwo ⟨by omega, by omega⟩ (vvo 5) exhho ⟨by omega, by omega⟩ (vvo 6) exgho ⟨by omega, by omega⟩ (vvo 7) exgvo ⟨by omega, by omega⟩ (vvo 8) exhb0o ⟨by omega, by omega⟩ (vvo 9) exvb0o ⟨by omega, by omega⟩ (vvo 11) exC0o ⟨by omega, by omega⟩ (vvo 12) exR0o ⟨by omega, by omega⟩ (vvo 13) exoc0o ⟨by omega, by omega⟩ (vvo 14) exor0o ⟨by omega, by omega⟩ (vvo 15) exf0o ⟨by omega, by omega⟩ (vvo 16) exhb1o ⟨by omega, by omega⟩ (vvo 17) exvb1o ⟨by omega, by omega⟩ (vvo 19) exC1o ⟨by omega, by omega⟩ (vvo 20) exR1o ⟨by omega, by omega⟩ (vvo 21) exoc1o ⟨by omega, by omega⟩ (vvo 22) exor1o ⟨by omega, by omega⟩ (vvo 23) exf1o ⟨by omega, by omega⟩ (vvo 24) exhb2o ⟨by omega, by omega⟩ (vvo 25) exvb2o ⟨by omega, by omega⟩ (vvo 27) exC2o ⟨by omega, by omega⟩ (vvo 28) exR2o ⟨by omega, by omega⟩ (vvo 29) exoc2o ⟨by omega, by omega⟩ (vvo 30) exor2o ⟨by omega, by omega⟩ (vvo 31) exf2o ⟨by omega, by omega⟩ (vvo 10) extq0o ⟨by omega, by omega⟩ (vvo 18) extq1o ⟨by omega, by omega⟩ (vvo 26) extq2o ⟨by omega, by omega⟩ (by omega) (by omega) (by omega) (by omega) uq yy0o yy1o yy2o yy3o yy4o yy5o yy7o) (fun q286 _ wq286 => ?_)
                obtain ⟨pq286, oq286, hq286⟩ := q286
                obtain ⟨xq286, zq286, gq286, aq286, bq286⟩ := wq286
                refine ⟨_, gq286, ?_⟩
                show gz gPP gGG gcn _ _ 98 [some (.ref x), some (.int (zi a)), some (.int (zi b)), some (.int (zi c)), some (.int (zi jn2v0)), none, none, none] [.int (zi zq286)] hq286 _
                have sq286 : gSs rT 1027 ty [] h hq286 := gSs.tr hS xq286 (by decide)
                have s287 := (xq286.2.2.2.2.2 x 2 (by rw [tx]; decide)).trans ex2
                have s288 := (xq286.2.2.2.2.2 x 3 (by rw [tx]; decide)).trans ex3
                have s289 := (xq286.2.2.2.2.2 x 4 (by rw [tx]; decide)).trans ex4
                have s290 := (xq286.2.2.2.2.2 sk 0 (by rw [tsk]; decide)).trans ex0
                have s291 := (xq286.2.2.2.2.2 dr 8 (by rw [tdr]; decide)).trans en0
                have s292 := (xq286.2.2.2.2.2 dr 3 (by rw [tdr]; decide)).trans eiv
                have s293 := (xq286.2.2.2.2.2 dr 1 (by rw [tdr]; decide)).trans edw
                have s294 := (xq286.2.2.2.2.2 dr 2 (by rw [tdr]; decide)).trans edh
                have s295 := (xq286.2.2.2.2.2 sk 1 (by rw [tsk]; decide)).trans ec0
                have s296 := (xq286.2.2.2.2.2 pic 0 (by rw [tpic]; decide)).trans er0o
                have s297 := (xq286.2.2.2.2.2 bno 0 (by rw [tbno]; decide)).trans er1o
                have s298 := (xq286.2.2.2.2.2 bno 1 (by rw [tbno]; decide)).trans er2o
                have s299 := (xq286.2.2.2.2.2 bno 2 (by rw [tbno]; decide)).trans er3o
                have s300 := (xq286.2.2.2.2.2 pic 2 (by rw [tpic]; decide)).trans er4o
                have s301 := (xq286.2.2.2.2.2 pic 3 (by rw [tpic]; decide)).trans er5o
                have s302 := (xq286.2.2.2.2.2 pic 7 (by rw [tpic]; decide)).trans excno
                have s303 := (xq286.2.2.2.2.2 pic 12 (by rw [tpic]; decide)).trans exuco
                have s304 := (xq286.2.2.2.2.2 pic 13 (by rw [tpic]; decide)).trans exuro
                have s305 := (xq286.2.2.2.2.2 pic 8 (by rw [tpic]; decide)).trans exblo
                have s306 := (xq286.2.2.2.2.2 pic 5 (by rw [tpic]; decide)).trans exwo
                have s307 := (xq286.2.2.2.2.2 pic 6 (by rw [tpic]; decide)).trans exhho
                have s308 := (xq286.2.2.2.2.2 pic 10 (by rw [tpic]; decide)).trans exgho
                have s309 := (xq286.2.2.2.2.2 pic 11 (by rw [tpic]; decide)).trans exgvo
                have s310 := (xq286.2.2.2.2.2 b0 1 (by rw [tb0]; decide)).trans exhb0o
                have s311 := (xq286.2.2.2.2.2 b0 2 (by rw [tb0]; decide)).trans exvb0o
                have s312 := (xq286.2.2.2.2.2 b0 3 (by rw [tb0]; decide)).trans extq0o
                have s313 := (xq286.2.2.2.2.2 b0 4 (by rw [tb0]; decide)).trans exC0o
                have s314 := (xq286.2.2.2.2.2 b0 5 (by rw [tb0]; decide)).trans exR0o
                have s315 := (xq286.2.2.2.2.2 b0 6 (by rw [tb0]; decide)).trans exoc0o
                have s316 := (xq286.2.2.2.2.2 b0 7 (by rw [tb0]; decide)).trans exor0o
                have s317 := (xq286.2.2.2.2.2 b0 8 (by rw [tb0]; decide)).trans exf0o
                have s318 := (xq286.2.2.2.2.2 b1 1 (by rw [tb1]; decide)).trans exhb1o
                have s319 := (xq286.2.2.2.2.2 b1 2 (by rw [tb1]; decide)).trans exvb1o
                have s320 := (xq286.2.2.2.2.2 b1 3 (by rw [tb1]; decide)).trans extq1o
                have s321 := (xq286.2.2.2.2.2 b1 4 (by rw [tb1]; decide)).trans exC1o
                have s322 := (xq286.2.2.2.2.2 b1 5 (by rw [tb1]; decide)).trans exR1o
                have s323 := (xq286.2.2.2.2.2 b1 6 (by rw [tb1]; decide)).trans exoc1o
                have s324 := (xq286.2.2.2.2.2 b1 7 (by rw [tb1]; decide)).trans exor1o
                have s325 := (xq286.2.2.2.2.2 b1 8 (by rw [tb1]; decide)).trans exf1o
                have s326 := (xq286.2.2.2.2.2 b2 1 (by rw [tb2]; decide)).trans exhb2o
                have s327 := (xq286.2.2.2.2.2 b2 2 (by rw [tb2]; decide)).trans exvb2o
                have s328 := (xq286.2.2.2.2.2 b2 3 (by rw [tb2]; decide)).trans extq2o
                have s329 := (xq286.2.2.2.2.2 b2 4 (by rw [tb2]; decide)).trans exC2o
                have s330 := (xq286.2.2.2.2.2 b2 5 (by rw [tb2]; decide)).trans exR2o
                have s331 := (xq286.2.2.2.2.2 b2 6 (by rw [tb2]; decide)).trans exoc2o
                have s332 := (xq286.2.2.2.2.2 b2 7 (by rw [tb2]; decide)).trans exor2o
                have s333 := (xq286.2.2.2.2.2 b2 8 (by rw [tb2]; decide)).trans exf2o
                have pr334 := gXr.fr xq286.2 (by decide) hxr
                have pr335 := gSW.fr xq286.2 (by decide) hsw
                have pr336 := gPC.fr xq286.2 (by decide) hpc
                have pr337 := gTc.fr xq286.2 (by decide) htc
                have pr338 := gRr.fr xq286.2 (by decide) hrr
                have pr339 := gRw.fr xq286.2 (by decide) hrw
                have k340 := sq286.2.1
                have k340b := sq286.2.2.1
                have hl341 : hq286.2.2.2.1 bt = h.2.2.2.1 bt := congrFun sq286.2.2.2.2.1 bt
                have hl342 : hq286.2.2.2.1 coo = h.2.2.2.1 coo := congrFun sq286.2.2.2.2.1 coo
                have hl343 : hq286.2.2.2.1 dmo = h.2.2.2.1 dmo := congrFun sq286.2.2.2.2.1 dmo
                have hl344 : 1024 ≤ hq286.2.2.2.1 bt ∧ hq286.2.2.2.1 bt ≤ 1000000 := gJ.rowl (G := gGG) sq286.1 tbt rfl
                have hl345 : 0 ≤ hq286.2.2.2.1 coo ∧ hq286.2.2.2.1 coo ≤ 12288 := gJ.rowl (G := gGG) sq286.1 tcoo rfl
                have hl346 : 0 ≤ hq286.2.2.2.1 dmo ∧ hq286.2.2.2.1 dmo ≤ 192 := gJ.rowl (G := gGG) sq286.1 tdmo rfl
                have k347 := sq286.2.1
                have k347b := sq286.2.2.1
                have hl348 : hq286.2.2.2.1 bt = h.2.2.2.1 bt := congrFun sq286.2.2.2.2.1 bt
                have hl349 : hq286.2.2.2.1 coo = h.2.2.2.1 coo := congrFun sq286.2.2.2.2.1 coo
                have hl350 : hq286.2.2.2.1 dmo = h.2.2.2.1 dmo := congrFun sq286.2.2.2.2.1 dmo
                have hix351 : gIx ty x ld (hq286.2.2.2.1 bt : Int) (64 * dw + n0 + 4096 * dh + 262144 * i0) S hq286 := ⟨pic, b0, b1, b2, dr, sk, bt, n0, c0, i0, dw, dh, ⟨tx, tdr, tsk, tbt⟩, ⟨s287, s288, s289, s290⟩, pr336, pr337, ⟨s291, by omega, by omega⟩, ⟨s292, by omega, by omega⟩, ⟨s295, by omega, by omega⟩, ⟨by omega, by omega⟩, pr338, pr339, ⟨s293, by omega, by omega⟩, ⟨s294, by omega, by omega⟩, by omega, rfl, pr334, ⟨pr335, hc0⟩, htz⟩
                have G352 : gSg [] [] [] ty h ty hq286 := gSg.ss G0 sq286 (by decide)
                exact gz_end (I := .ireturn) (len := 1) rfl (Or.inl rfl) ⟨ty, G352, ld, (hq286.2.2.2.1 bt : Int), (64 * dw + n0 + 4096 * dh + 262144 * i0), (by omega), (by omega), (by omega), (by omega), (by omega), (by omega), hix351, Or.inl ⟨zq286, rfl, (by omega), (by omega), (by omega), (by dsimp only; omega), (by dsimp only; omega), (by omega), (by omega)⟩⟩
            · refine gy_icF rfl (by decide) (by decide) (by omega) (by omega) hc27 ?_
              have hl353 : 1024 ≤ h.2.2.2.1 bt ∧ h.2.2.2.1 bt ≤ 1000000 := gJ.rowl (G := gGG) hS.1 tbt rfl
              have hl354 : 0 ≤ h.2.2.2.1 coo ∧ h.2.2.2.1 coo ≤ 12288 := gJ.rowl (G := gGG) hS.1 tcoo rfl
              have hl355 : 0 ≤ h.2.2.2.1 dmo ∧ h.2.2.2.1 dmo ≤ 192 := gJ.rowl (G := gGG) hS.1 tdmo rfl
              have hix356 : gIx ty x ld (h.2.2.2.1 bt : Int) (64 * dw + n0 + 4096 * dh + 262144 * i0) S h := ⟨pic, b0, b1, b2, dr, sk, bt, n0, c0, i0, dw, dh, ⟨tx, tdr, tsk, tbt⟩, ⟨ex2, ex3, ex4, ex0⟩, hpc, htc, ⟨en0, by omega, by omega⟩, ⟨eiv, by omega, by omega⟩, ⟨ec0, by omega, by omega⟩, ⟨by omega, by omega⟩, hrr, hrw, ⟨edw, by omega, by omega⟩, ⟨edh, by omega, by omega⟩, by omega, rfl, hxr, ⟨hsw, hc0⟩, htz⟩
              have G357 : gSg [] [] [] ty h ty h := gSg.ss G0 hS (by decide)
              exact gz_end (I := .new 84) (len := 3) rfl (Or.inr (by decide)) ⟨ty, G357, ld, (h.2.2.2.1 bt : Int), (64 * dw + n0 + 4096 * dh + 262144 * i0), (by omega), (by omega), (by omega), (by omega), (by omega), (by omega), hix356, Or.inr ⟨rfl, rfl, (by omega), (by dsimp only; omega), (by dsimp only; omega), (by omega), (by omega)⟩⟩
  by_cases hc358 : (c : Int) < 0
  · refine gy_ifT (pc' := 29) rfl (by decide) (by decide) (by omega) hc358 ?_
    refine gz_s 1 (pc' := 30) (L' := [some (.ref x), some (.int (zi a)), some (.int (zi b)), some (.int (zi c)), none, none, none, none]) (S' := [.int (zi 0)]) rfl ?_
    exact jn2 0 (by omega)
  · refine gy_ifF rfl (by decide) (by decide) (by omega) hc358 ?_
    refine gz_s 2 (pc' := 6) (L' := [some (.ref x), some (.int (zi a)), some (.int (zi b)), some (.int (zi c)), none, none, none, none]) (S' := [.ref x, .int (zi c)]) rfl ?_
    refine gs_gtk rfl (by decide) rfl hS.1 tx rfl rfl ex2 ?_
    refine gs_gtk rfl (by decide) rfl hS.1 tpic rfl rfl excno ?_
    by_cases hc359 : (c : Int) < vvo 0
    · refine gy_icT (pc' := 25) rfl (by decide) (by decide) (by omega) (by omega) hc359 ?_
      refine gz_s 2 (pc' := 30) (L' := [some (.ref x), some (.int (zi a)), some (.int (zi b)), some (.int (zi c)), none, none, none, none]) (S' := [.int (zi 1)]) rfl ?_
      exact jn2 1 (by omega)
    · refine gy_icF rfl (by decide) (by decide) (by omega) (by omega) hc359 ?_
      refine gz_s 2 (pc' := 17) (L' := [some (.ref x), some (.int (zi a)), some (.int (zi b)), some (.int (zi c)), none, none, none, none]) (S' := [.int (zi 3), .int (zi c)]) rfl ?_
      by_cases hc360 : (c : Int) < 3
      · refine gy_icT (pc' := 29) rfl (by decide) (by decide) (by omega) (by omega) hc360 ?_
        refine gz_s 1 (pc' := 30) (L' := [some (.ref x), some (.int (zi a)), some (.int (zi b)), some (.int (zi c)), none, none, none, none]) (S' := [.int (zi 0)]) rfl ?_
        exact jn2 0 (by omega)
      · refine gy_icF rfl (by decide) (by decide) (by omega) (by omega) hc360 ?_
        refine gz_s 2 (pc' := 22) (L' := [some (.ref x), some (.int (zi a)), some (.int (zi b)), some (.int (zi c)), none, none, none, none]) (S' := [.int (zi 5), .int (zi c)]) rfl ?_
        by_cases hc361 : (5 : Int) < c
        · refine gy_icT (pc' := 29) rfl (by decide) (by decide) (by omega) (by omega) hc361 ?_
          refine gz_s 1 (pc' := 30) (L' := [some (.ref x), some (.int (zi a)), some (.int (zi b)), some (.int (zi c)), none, none, none, none]) (S' := [.int (zi 0)]) rfl ?_
          exact jn2 0 (by omega)
        · refine gy_icF rfl (by decide) (by decide) (by omega) (by omega) hc361 ?_
          refine gz_s 2 (pc' := 30) (L' := [some (.ref x), some (.int (zi a)), some (.int (zi b)), some (.int (zi c)), none, none, none, none]) (S' := [.int (zi 1)]) rfl ?_
          exact jn2 1 (by omega)
set_option maxRecDepth 20000 in
set_option maxHeartbeats 4000000 in
theorem cl_DctFilter_coefficient (d : Nat) {ty : Nat → Nat} {h : gH} (hJ : gJ rT 1027 ty h) (x : Nat) (tx : ty x = 50) (a : Int) (ra : (-2147483648) ≤ a ∧ a ≤ 2147483647) (b : Int) (rb : (-2147483648) ≤ b ∧ b ≤ 2147483647) (S : gSS) (ld : Int) (rld : 0 ≤ ld ∧ ld ≤ 192) (lb : Int) (rlb : 1024 ≤ lb ∧ lb ≤ 1000000) (iv : Int) (riv : 0 ≤ iv ∧ iv ≤ 26476544) (uq : gUq ty) (hyix : gIx ty x ld lb iv S h) : gz gPP gGG gcn (d + 0) gt79 0 (gent [.ref x, .int (zi a), .int (zi b)] 3) [] h (fun q _ => ∃ ty9 : Nat → Nat, gSg [] [] [] ty h ty9 q.2.2 ∧ ∃ ld1 lb1 iv1 : Int, 0 ≤ ld1 ∧ ld1 ≤ 192 ∧ 1024 ≤ lb1 ∧ lb1 ≤ 1000000 ∧ 0 ≤ iv1 ∧ iv1 ≤ 26476544 ∧ (gIx ty9 x ld1 lb1 iv1 S q.2.2) ∧ ((∃ z : Int, gfin gt79 q.1 q.2.1 = some (some (.int (zi z))) ∧ (-2147483648) ≤ z ∧ z ≤ 2147483647 ∧ (iv1 = iv) ∧ (1024 * (((q.2.2.1 : Int) - h.1) - 31 - 2 * (ld1 - ld)) ≤ lb1 - lb) ∧ (((q.2.2.2.1 : Int) - h.2.1) ≤ 4303 + 12480 * (ld1 - ld) + 2 * (lb1 - lb)) ∧ (ld ≤ ld1) ∧ (lb ≤ lb1)) ∨ (q.2.1 = [] ∧ ((q.1 = 25)) ∧ (iv1 = iv) ∧ (1024 * (((q.2.2.1 : Int) - h.1) - 31 - 2 * (ld1 - ld)) ≤ lb1 - lb) ∧ (((q.2.2.2.1 : Int) - h.2.1) ≤ 4303 + 12480 * (ld1 - ld) + 2 * (lb1 - lb)) ∧ (ld ≤ ld1) ∧ (lb ≤ lb1)))) := by
  have hS : gSs rT 1027 ty [] h h := gSs.rf hJ
  have G0 : gSg [] [] [] ty h ty h := gSg.rf hJ (fun x hx => by cases hx)
  obtain ⟨pic, b0, b1, b2, dr, sk, bt, n0, c0, i0, dw, dh, ⟨_, tdr, tsk, tbt⟩, ⟨ex2, ex3, ex4, ex0⟩, hpc, htc, ⟨en0, rn0⟩, ⟨eiv, ri0⟩, ⟨ec0, rc0⟩, ⟨lc0, llb⟩, hrr, hrw, ⟨edw, rdw⟩, ⟨edh, rdh⟩, hwh, hcd, hxr, ⟨hsw, hc0⟩, htz⟩ := hyix
  have tpic := hpc.1.1
  have tb0 := hpc.1.2.1
  have tb1 := hpc.1.2.2.1
  have tb2 := hpc.1.2.2.2
  have hpq1 := hpc
  obtain ⟨_, bno, coo, dmo, vvo, ⟨tbno, tcoo, tdmo⟩, ⟨er0o, er1o, er2o, er3o, er4o, er5o⟩, hvvo, hrro, ⟨yy0o, yy1o, yy2o, yy3o, yy4o, yy5o, yy6o, yy7o⟩, ll0o, ll1o, ll2o, ll3o⟩ := hpq1
  have excno : h.2.2.2.2 pic 7 = .int (zi (vvo 0)) := hvvo (0, 7, 0) (by decide)
  have rrcno : 0 ≤ vvo 0 ∧ vvo 0 ≤ 3 := hrro (0, 0, 3) (by decide)
  have exuco : h.2.2.2.2 pic 12 = .int (zi (vvo 1)) := hvvo (0, 12, 1) (by decide)
  have rruco : 0 ≤ vvo 1 ∧ vvo 1 ≤ 8 := hrro (1, 0, 8) (by decide)
  have exuro : h.2.2.2.2 pic 13 = .int (zi (vvo 2)) := hvvo (0, 13, 2) (by decide)
  have rruro : 0 ≤ vvo 2 ∧ vvo 2 ≤ 8 := hrro (2, 0, 8) (by decide)
  have exblo : h.2.2.2.2 pic 8 = .int (zi (vvo 3)) := hvvo (0, 8, 3) (by decide)
  have rrblo : 0 ≤ vvo 3 ∧ vvo 3 ≤ 192 := hrro (3, 0, 192) (by decide)
  have exwo : h.2.2.2.2 pic 5 = .int (zi (vvo 4)) := hvvo (0, 5, 4) (by decide)
  have rrwo : 0 ≤ vvo 4 ∧ vvo 4 ≤ 64 := hrro (4, 0, 64) (by decide)
  have exhho : h.2.2.2.2 pic 6 = .int (zi (vvo 5)) := hvvo (0, 6, 5) (by decide)
  have rrhho : 0 ≤ vvo 5 ∧ vvo 5 ≤ 64 := hrro (5, 0, 64) (by decide)
  have exgho : h.2.2.2.2 pic 10 = .int (zi (vvo 6)) := hvvo (0, 10, 6) (by decide)
  have rrgho : 1 ≤ vvo 6 ∧ vvo 6 ≤ 2 := hrro (6, 1, 2) (by decide)
  have exgvo : h.2.2.2.2 pic 11 = .int (zi (vvo 7)) := hvvo (0, 11, 7) (by decide)
  have rrgvo : 1 ≤ vvo 7 ∧ vvo 7 ≤ 2 := hrro (7, 1, 2) (by decide)
  have exhb0o : h.2.2.2.2 b0 1 = .int (zi (vvo 8)) := hvvo (1, 1, 8) (by decide)
  have rrhb0o : (-1) ≤ vvo 8 ∧ vvo 8 ≤ 15 := hrro (8, (-1), 15) (by decide)
  have exvb0o : h.2.2.2.2 b0 2 = .int (zi (vvo 9)) := hvvo (1, 2, 9) (by decide)
  have rrvb0o : 0 ≤ vvo 9 ∧ vvo 9 ≤ 15 := hrro (9, 0, 15) (by decide)
  have extq0o : h.2.2.2.2 b0 3 = .int (zi (vvo 10)) := hvvo (1, 3, 10) (by decide)
  have rrtq0o : (-1) ≤ vvo 10 ∧ vvo 10 ≤ 255 := hrro (10, (-1), 255) (by decide)
  have exC0o : h.2.2.2.2 b0 4 = .int (zi (vvo 11)) := hvvo (1, 4, 11) (by decide)
  have rrC0o : 0 ≤ vvo 11 ∧ vvo 11 ≤ 16 := hrro (11, 0, 16) (by decide)
  have exR0o : h.2.2.2.2 b0 5 = .int (zi (vvo 12)) := hvvo (1, 5, 12) (by decide)
  have rrR0o : 0 ≤ vvo 12 ∧ vvo 12 ≤ 16 := hrro (12, 0, 16) (by decide)
  have exoc0o : h.2.2.2.2 b0 6 = .int (zi (vvo 13)) := hvvo (1, 6, 13) (by decide)
  have rroc0o : 0 ≤ vvo 13 ∧ vvo 13 ≤ 16 := hrro (13, 0, 16) (by decide)
  have exor0o : h.2.2.2.2 b0 7 = .int (zi (vvo 14)) := hvvo (1, 7, 14) (by decide)
  have rror0o : 0 ≤ vvo 14 ∧ vvo 14 ≤ 16 := hrro (14, 0, 16) (by decide)
  have exf0o : h.2.2.2.2 b0 8 = .int (zi (vvo 15)) := hvvo (1, 8, 15) (by decide)
  have rrf0o : 0 ≤ vvo 15 ∧ vvo 15 ≤ 192 := hrro (15, 0, 192) (by decide)
  have exhb1o : h.2.2.2.2 b1 1 = .int (zi (vvo 16)) := hvvo (2, 1, 16) (by decide)
  have rrhb1o : (-1) ≤ vvo 16 ∧ vvo 16 ≤ 15 := hrro (16, (-1), 15) (by decide)
  have exvb1o : h.2.2.2.2 b1 2 = .int (zi (vvo 17)) := hvvo (2, 2, 17) (by decide)
  have rrvb1o : 0 ≤ vvo 17 ∧ vvo 17 ≤ 15 := hrro (17, 0, 15) (by decide)
  have extq1o : h.2.2.2.2 b1 3 = .int (zi (vvo 18)) := hvvo (2, 3, 18) (by decide)
  have rrtq1o : (-1) ≤ vvo 18 ∧ vvo 18 ≤ 255 := hrro (18, (-1), 255) (by decide)
  have exC1o : h.2.2.2.2 b1 4 = .int (zi (vvo 19)) := hvvo (2, 4, 19) (by decide)
  have rrC1o : 0 ≤ vvo 19 ∧ vvo 19 ≤ 16 := hrro (19, 0, 16) (by decide)
  have exR1o : h.2.2.2.2 b1 5 = .int (zi (vvo 20)) := hvvo (2, 5, 20) (by decide)
  have rrR1o : 0 ≤ vvo 20 ∧ vvo 20 ≤ 16 := hrro (20, 0, 16) (by decide)
  have exoc1o : h.2.2.2.2 b1 6 = .int (zi (vvo 21)) := hvvo (2, 6, 21) (by decide)
  have rroc1o : 0 ≤ vvo 21 ∧ vvo 21 ≤ 16 := hrro (21, 0, 16) (by decide)
  have exor1o : h.2.2.2.2 b1 7 = .int (zi (vvo 22)) := hvvo (2, 7, 22) (by decide)
  have rror1o : 0 ≤ vvo 22 ∧ vvo 22 ≤ 16 := hrro (22, 0, 16) (by decide)
  have exf1o : h.2.2.2.2 b1 8 = .int (zi (vvo 23)) := hvvo (2, 8, 23) (by decide)
  have rrf1o : 0 ≤ vvo 23 ∧ vvo 23 ≤ 192 := hrro (23, 0, 192) (by decide)
  have exhb2o : h.2.2.2.2 b2 1 = .int (zi (vvo 24)) := hvvo (3, 1, 24) (by decide)
  have rrhb2o : (-1) ≤ vvo 24 ∧ vvo 24 ≤ 15 := hrro (24, (-1), 15) (by decide)
  have exvb2o : h.2.2.2.2 b2 2 = .int (zi (vvo 25)) := hvvo (3, 2, 25) (by decide)
  have rrvb2o : 0 ≤ vvo 25 ∧ vvo 25 ≤ 15 := hrro (25, 0, 15) (by decide)
  have extq2o : h.2.2.2.2 b2 3 = .int (zi (vvo 26)) := hvvo (3, 3, 26) (by decide)
  have rrtq2o : (-1) ≤ vvo 26 ∧ vvo 26 ≤ 255 := hrro (26, (-1), 255) (by decide)
  have exC2o : h.2.2.2.2 b2 4 = .int (zi (vvo 27)) := hvvo (3, 4, 27) (by decide)
  have rrC2o : 0 ≤ vvo 27 ∧ vvo 27 ≤ 16 := hrro (27, 0, 16) (by decide)
  have exR2o : h.2.2.2.2 b2 5 = .int (zi (vvo 28)) := hvvo (3, 5, 28) (by decide)
  have rrR2o : 0 ≤ vvo 28 ∧ vvo 28 ≤ 16 := hrro (28, 0, 16) (by decide)
  have exoc2o : h.2.2.2.2 b2 6 = .int (zi (vvo 29)) := hvvo (3, 6, 29) (by decide)
  have rroc2o : 0 ≤ vvo 29 ∧ vvo 29 ≤ 16 := hrro (29, 0, 16) (by decide)
  have exor2o : h.2.2.2.2 b2 7 = .int (zi (vvo 30)) := hvvo (3, 7, 30) (by decide)
  have rror2o : 0 ≤ vvo 30 ∧ vvo 30 ≤ 16 := hrro (30, 0, 16) (by decide)
  have exf2o : h.2.2.2.2 b2 8 = .int (zi (vvo 31)) := hvvo (3, 8, 31) (by decide)
  have rrf2o : 0 ≤ vvo 31 ∧ vvo 31 ≤ 192 := hrro (31, 0, 192) (by decide)
  refine gz_s 1 (pc' := 1) (L' := [some (.ref x), some (.int (zi a)), some (.int (zi b))]) (S' := [.int (zi a)]) rfl ?_
  by_cases hc2 : (a : Int) < 0
  · refine gy_ifT (pc' := 25) rfl (by decide) (by decide) (by omega) hc2 ?_
    have hl3 : 1024 ≤ h.2.2.2.1 bt ∧ h.2.2.2.1 bt ≤ 1000000 := gJ.rowl (G := gGG) hS.1 tbt rfl
    have hl4 : 0 ≤ h.2.2.2.1 coo ∧ h.2.2.2.1 coo ≤ 12288 := gJ.rowl (G := gGG) hS.1 tcoo rfl
    have hl5 : 0 ≤ h.2.2.2.1 dmo ∧ h.2.2.2.1 dmo ≤ 192 := gJ.rowl (G := gGG) hS.1 tdmo rfl
    have hix6 : gIx ty x ld (h.2.2.2.1 bt : Int) (64 * dw + n0 + 4096 * dh + 262144 * i0) S h := ⟨pic, b0, b1, b2, dr, sk, bt, n0, c0, i0, dw, dh, ⟨tx, tdr, tsk, tbt⟩, ⟨ex2, ex3, ex4, ex0⟩, hpc, htc, ⟨en0, by omega, by omega⟩, ⟨eiv, by omega, by omega⟩, ⟨ec0, by omega, by omega⟩, ⟨by omega, by omega⟩, hrr, hrw, ⟨edw, by omega, by omega⟩, ⟨edh, by omega, by omega⟩, by omega, rfl, hxr, ⟨hsw, hc0⟩, htz⟩
    have G7 : gSg [] [] [] ty h ty h := gSg.ss G0 hS (by decide)
    exact gz_end (I := .new 108) (len := 3) rfl (Or.inr (by decide)) ⟨ty, G7, ld, (h.2.2.2.1 bt : Int), (64 * dw + n0 + 4096 * dh + 262144 * i0), (by omega), (by omega), (by omega), (by omega), (by omega), (by omega), hix6, Or.inr ⟨rfl, rfl, (by omega), (by dsimp only; omega), (by dsimp only; omega), (by omega), (by omega)⟩⟩
  · refine gy_ifF rfl (by decide) (by decide) (by omega) hc2 ?_
    refine gz_s 2 (pc' := 6) (L' := [some (.ref x), some (.int (zi a)), some (.int (zi b))]) (S' := [.ref x, .int (zi a)]) rfl ?_
    refine gs_gtk rfl (by decide) rfl hS.1 tx rfl rfl ex2 ?_
    refine gs_gtk rfl (by decide) rfl hS.1 tpic rfl rfl exblo ?_
    by_cases hc8 : (vvo 3 : Int) ≤ a
    · refine gy_icT (pc' := 25) rfl (by decide) (by decide) (by omega) (by omega) hc8 ?_
      have hl9 : 1024 ≤ h.2.2.2.1 bt ∧ h.2.2.2.1 bt ≤ 1000000 := gJ.rowl (G := gGG) hS.1 tbt rfl
      have hl10 : 0 ≤ h.2.2.2.1 coo ∧ h.2.2.2.1 coo ≤ 12288 := gJ.rowl (G := gGG) hS.1 tcoo rfl
      have hl11 : 0 ≤ h.2.2.2.1 dmo ∧ h.2.2.2.1 dmo ≤ 192 := gJ.rowl (G := gGG) hS.1 tdmo rfl
      have hix12 : gIx ty x ld (h.2.2.2.1 bt : Int) (64 * dw + n0 + 4096 * dh + 262144 * i0) S h := ⟨pic, b0, b1, b2, dr, sk, bt, n0, c0, i0, dw, dh, ⟨tx, tdr, tsk, tbt⟩, ⟨ex2, ex3, ex4, ex0⟩, hpc, htc, ⟨en0, by omega, by omega⟩, ⟨eiv, by omega, by omega⟩, ⟨ec0, by omega, by omega⟩, ⟨by omega, by omega⟩, hrr, hrw, ⟨edw, by omega, by omega⟩, ⟨edh, by omega, by omega⟩, by omega, rfl, hxr, ⟨hsw, hc0⟩, htz⟩
      have G13 : gSg [] [] [] ty h ty h := gSg.ss G0 hS (by decide)
      exact gz_end (I := .new 108) (len := 3) rfl (Or.inr (by decide)) ⟨ty, G13, ld, (h.2.2.2.1 bt : Int), (64 * dw + n0 + 4096 * dh + 262144 * i0), (by omega), (by omega), (by omega), (by omega), (by omega), (by omega), hix12, Or.inr ⟨rfl, rfl, (by omega), (by dsimp only; omega), (by dsimp only; omega), (by omega), (by omega)⟩⟩
    · refine gy_icF rfl (by decide) (by decide) (by omega) (by omega) hc8 ?_
      refine gz_s 1 (pc' := 16) (L' := [some (.ref x), some (.int (zi a)), some (.int (zi b))]) (S' := [.int (zi b)]) rfl ?_
      by_cases hc14 : (b : Int) < 0
      · refine gy_ifT (pc' := 25) rfl (by decide) (by decide) (by omega) hc14 ?_
        have hl15 : 1024 ≤ h.2.2.2.1 bt ∧ h.2.2.2.1 bt ≤ 1000000 := gJ.rowl (G := gGG) hS.1 tbt rfl
        have hl16 : 0 ≤ h.2.2.2.1 coo ∧ h.2.2.2.1 coo ≤ 12288 := gJ.rowl (G := gGG) hS.1 tcoo rfl
        have hl17 : 0 ≤ h.2.2.2.1 dmo ∧ h.2.2.2.1 dmo ≤ 192 := gJ.rowl (G := gGG) hS.1 tdmo rfl
        have hix18 : gIx ty x ld (h.2.2.2.1 bt : Int) (64 * dw + n0 + 4096 * dh + 262144 * i0) S h := ⟨pic, b0, b1, b2, dr, sk, bt, n0, c0, i0, dw, dh, ⟨tx, tdr, tsk, tbt⟩, ⟨ex2, ex3, ex4, ex0⟩, hpc, htc, ⟨en0, by omega, by omega⟩, ⟨eiv, by omega, by omega⟩, ⟨ec0, by omega, by omega⟩, ⟨by omega, by omega⟩, hrr, hrw, ⟨edw, by omega, by omega⟩, ⟨edh, by omega, by omega⟩, by omega, rfl, hxr, ⟨hsw, hc0⟩, htz⟩
        have G19 : gSg [] [] [] ty h ty h := gSg.ss G0 hS (by decide)
        exact gz_end (I := .new 108) (len := 3) rfl (Or.inr (by decide)) ⟨ty, G19, ld, (h.2.2.2.1 bt : Int), (64 * dw + n0 + 4096 * dh + 262144 * i0), (by omega), (by omega), (by omega), (by omega), (by omega), (by omega), hix18, Or.inr ⟨rfl, rfl, (by omega), (by dsimp only; omega), (by dsimp only; omega), (by omega), (by omega)⟩⟩
      · refine gy_ifF rfl (by decide) (by decide) (by omega) hc14 ?_
        refine gz_s 2 (pc' := 22) (L' := [some (.ref x), some (.int (zi a)), some (.int (zi b))]) (S' := [.int (zi 63), .int (zi b)]) rfl ?_
        by_cases hc20 : (b : Int) ≤ 63
        · refine gy_icT (pc' := 35) rfl (by decide) (by decide) (by omega) (by omega) hc20 ?_
          refine gz_s 1 (pc' := 36) (L' := [some (.ref x), some (.int (zi a)), some (.int (zi b))]) (S' := [.ref x]) rfl ?_
          refine gs_gtk rfl (by decide) rfl hS.1 tx rfl rfl ex2 ?_
          refine gs_gtk rfl (by decide) rfl hS.1 tpic rfl rfl er4o ?_
          refine gy_s 5 (pc' := 48) (L' := [some (.ref x), some (.int (zi a)), some (.int (zi b))]) (S' := [.int (((zi a) * (zi 64)) + (zi b)), .ref coo]) (L2 := [some (.ref x), some (.int (zi a)), some (.int (zi b))]) (S2 := [.int (zi ((a * 64) + b)), .ref coo]) rfl (by simp only [zi_add, zi_sub, zi_mul, zi_neg, zi_and1, zi_and7, zi_and15, zi_and31, zi_and255]) (by simp only [zi_add, zi_sub, zi_mul, zi_neg, zi_and1, zi_and7, zi_and15, zi_and31, zi_and255]) ?_
          have hl21 : 0 ≤ h.2.2.2.1 coo ∧ h.2.2.2.1 coo ≤ 12288 := gJ.rowl (G := gGG) hS.1 tcoo rfl
          have hl22 : h.2.2.2.1 coo = h.2.2.2.1 coo := congrFun hS.2.2.2.2.1 coo
          refine gs_ald rfl (by decide) hS.1 tcoo rfl rfl rfl (by decide) (fun _ => rfl) (by omega) (by omega) (fun z23 ez23 az23 bz23 => ?_)
          have hl24 : 1024 ≤ h.2.2.2.1 bt ∧ h.2.2.2.1 bt ≤ 1000000 := gJ.rowl (G := gGG) hS.1 tbt rfl
          have hl25 : 0 ≤ h.2.2.2.1 coo ∧ h.2.2.2.1 coo ≤ 12288 := gJ.rowl (G := gGG) hS.1 tcoo rfl
          have hl26 : 0 ≤ h.2.2.2.1 dmo ∧ h.2.2.2.1 dmo ≤ 192 := gJ.rowl (G := gGG) hS.1 tdmo rfl
          have hix27 : gIx ty x ld (h.2.2.2.1 bt : Int) (64 * dw + n0 + 4096 * dh + 262144 * i0) S h := ⟨pic, b0, b1, b2, dr, sk, bt, n0, c0, i0, dw, dh, ⟨tx, tdr, tsk, tbt⟩, ⟨ex2, ex3, ex4, ex0⟩, hpc, htc, ⟨en0, by omega, by omega⟩, ⟨eiv, by omega, by omega⟩, ⟨ec0, by omega, by omega⟩, ⟨by omega, by omega⟩, hrr, hrw, ⟨edw, by omega, by omega⟩, ⟨edh, by omega, by omega⟩, by omega, rfl, hxr, ⟨hsw, hc0⟩, htz⟩
          have G28 : gSg [] [] [] ty h ty h := gSg.ss G0 hS (by decide)
          exact gz_end (I := .ireturn) (len := 1) rfl (Or.inl rfl) ⟨ty, G28, ld, (h.2.2.2.1 bt : Int), (64 * dw + n0 + 4096 * dh + 262144 * i0), (by omega), (by omega), (by omega), (by omega), (by omega), (by omega), hix27, Or.inl ⟨z23, rfl, (by omega), (by omega), (by omega), (by dsimp only; omega), (by dsimp only; omega), (by omega), (by omega)⟩⟩
        · refine gy_icF rfl (by decide) (by decide) (by omega) (by omega) hc20 ?_
          have hl29 : 1024 ≤ h.2.2.2.1 bt ∧ h.2.2.2.1 bt ≤ 1000000 := gJ.rowl (G := gGG) hS.1 tbt rfl
          have hl30 : 0 ≤ h.2.2.2.1 coo ∧ h.2.2.2.1 coo ≤ 12288 := gJ.rowl (G := gGG) hS.1 tcoo rfl
          have hl31 : 0 ≤ h.2.2.2.1 dmo ∧ h.2.2.2.1 dmo ≤ 192 := gJ.rowl (G := gGG) hS.1 tdmo rfl
          have hix32 : gIx ty x ld (h.2.2.2.1 bt : Int) (64 * dw + n0 + 4096 * dh + 262144 * i0) S h := ⟨pic, b0, b1, b2, dr, sk, bt, n0, c0, i0, dw, dh, ⟨tx, tdr, tsk, tbt⟩, ⟨ex2, ex3, ex4, ex0⟩, hpc, htc, ⟨en0, by omega, by omega⟩, ⟨eiv, by omega, by omega⟩, ⟨ec0, by omega, by omega⟩, ⟨by omega, by omega⟩, hrr, hrw, ⟨edw, by omega, by omega⟩, ⟨edh, by omega, by omega⟩, by omega, rfl, hxr, ⟨hsw, hc0⟩, htz⟩
          have G33 : gSg [] [] [] ty h ty h := gSg.ss G0 hS (by decide)
          exact gz_end (I := .new 108) (len := 3) rfl (Or.inr (by decide)) ⟨ty, G33, ld, (h.2.2.2.1 bt : Int), (64 * dw + n0 + 4096 * dh + 262144 * i0), (by omega), (by omega), (by omega), (by omega), (by omega), (by omega), hix32, Or.inr ⟨rfl, rfl, (by omega), (by dsimp only; omega), (by dsimp only; omega), (by omega), (by omega)⟩⟩
set_option maxRecDepth 20000 in
set_option maxHeartbeats 4000000 in
theorem cl_DctFilter_exact (d : Nat) {ty : Nat → Nat} {h : gH} (hJ : gJ rT 1027 ty h) (x : Nat) (tx : ty x = 50) (a : Int) (ra : (-2147483648) ≤ a ∧ a ≤ 2147483647) (b : Int) (rb : (-2147483648) ≤ b ∧ b ≤ 2147483647) (hyst : gSta ty h) (S : gSS) (ld : Int) (rld : 0 ≤ ld ∧ ld ≤ 192) (lb : Int) (rlb : 1024 ≤ lb ∧ lb ≤ 1000000) (iv : Int) (riv : 0 ≤ iv ∧ iv ≤ 26476544) (uq : gUq ty) (hyix : gIx ty x ld lb iv S h) : gz gPP gGG gcn (d + 2) gt80 0 (gent [.ref x, .int (zi a), .int (zi b)] 3) [] h (fun q _ => ∃ ty9 : Nat → Nat, gSg [] [] [] ty h ty9 q.2.2 ∧ ∃ ld1 lb1 iv1 : Int, 0 ≤ ld1 ∧ ld1 ≤ 192 ∧ 1024 ≤ lb1 ∧ lb1 ≤ 1000000 ∧ 0 ≤ iv1 ∧ iv1 ≤ 26476544 ∧ (gIx ty9 x ld1 lb1 iv1 S q.2.2) ∧ ((∃ z : Int, gfin gt80 q.1 q.2.1 = some (some (.long (zl z))) ∧ (-9223372036854775808) ≤ z ∧ z ≤ 9223372036854775807 ∧ (iv1 = iv) ∧ (1024 * (((q.2.2.1 : Int) - h.1) - 31 - 2 * (ld1 - ld)) ≤ lb1 - lb) ∧ (((q.2.2.2.1 : Int) - h.2.1) ≤ 4303 + 12480 * (ld1 - ld) + 2 * (lb1 - lb)) ∧ (ld ≤ ld1) ∧ (lb ≤ lb1)) ∨ (q.2.1 = [] ∧ ((q.1 = 25)) ∧ (iv1 = iv) ∧ (1024 * (((q.2.2.1 : Int) - h.1) - 31 - 2 * (ld1 - ld)) ≤ lb1 - lb) ∧ (((q.2.2.2.1 : Int) - h.2.1) ≤ 4303 + 12480 * (ld1 - ld) + 2 * (lb1 - lb)) ∧ (ld ≤ ld1) ∧ (lb ≤ lb1)))) := by
  have hS : gSs rT 1027 ty [] h h := gSs.rf hJ
  have G0 : gSg [] [] [] ty h ty h := gSg.rf hJ (fun x hx => by cases hx)
  obtain ⟨pic, b0, b1, b2, dr, sk, bt, n0, c0, i0, dw, dh, ⟨_, tdr, tsk, tbt⟩, ⟨ex2, ex3, ex4, ex0⟩, hpc, htc, ⟨en0, rn0⟩, ⟨eiv, ri0⟩, ⟨ec0, rc0⟩, ⟨lc0, llb⟩, hrr, hrw, ⟨edw, rdw⟩, ⟨edh, rdh⟩, hwh, hcd, hxr, ⟨hsw, hc0⟩, htz⟩ := hyix
  have tpic := hpc.1.1
  have tb0 := hpc.1.2.1
  have tb1 := hpc.1.2.2.1
  have tb2 := hpc.1.2.2.2
  have hpq1 := hpc
  obtain ⟨_, bno, coo, dmo, vvo, ⟨tbno, tcoo, tdmo⟩, ⟨er0o, er1o, er2o, er3o, er4o, er5o⟩, hvvo, hrro, ⟨yy0o, yy1o, yy2o, yy3o, yy4o, yy5o, yy6o, yy7o⟩, ll0o, ll1o, ll2o, ll3o⟩ := hpq1
  have excno : h.2.2.2.2 pic 7 = .int (zi (vvo 0)) := hvvo (0, 7, 0) (by decide)
  have rrcno : 0 ≤ vvo 0 ∧ vvo 0 ≤ 3 := hrro (0, 0, 3) (by decide)
  have exuco : h.2.2.2.2 pic 12 = .int (zi (vvo 1)) := hvvo (0, 12, 1) (by decide)
  have rruco : 0 ≤ vvo 1 ∧ vvo 1 ≤ 8 := hrro (1, 0, 8) (by decide)
  have exuro : h.2.2.2.2 pic 13 = .int (zi (vvo 2)) := hvvo (0, 13, 2) (by decide)
  have rruro : 0 ≤ vvo 2 ∧ vvo 2 ≤ 8 := hrro (2, 0, 8) (by decide)
  have exblo : h.2.2.2.2 pic 8 = .int (zi (vvo 3)) := hvvo (0, 8, 3) (by decide)
  have rrblo : 0 ≤ vvo 3 ∧ vvo 3 ≤ 192 := hrro (3, 0, 192) (by decide)
  have exwo : h.2.2.2.2 pic 5 = .int (zi (vvo 4)) := hvvo (0, 5, 4) (by decide)
  have rrwo : 0 ≤ vvo 4 ∧ vvo 4 ≤ 64 := hrro (4, 0, 64) (by decide)
  have exhho : h.2.2.2.2 pic 6 = .int (zi (vvo 5)) := hvvo (0, 6, 5) (by decide)
  have rrhho : 0 ≤ vvo 5 ∧ vvo 5 ≤ 64 := hrro (5, 0, 64) (by decide)
  have exgho : h.2.2.2.2 pic 10 = .int (zi (vvo 6)) := hvvo (0, 10, 6) (by decide)
  have rrgho : 1 ≤ vvo 6 ∧ vvo 6 ≤ 2 := hrro (6, 1, 2) (by decide)
  have exgvo : h.2.2.2.2 pic 11 = .int (zi (vvo 7)) := hvvo (0, 11, 7) (by decide)
  have rrgvo : 1 ≤ vvo 7 ∧ vvo 7 ≤ 2 := hrro (7, 1, 2) (by decide)
  have exhb0o : h.2.2.2.2 b0 1 = .int (zi (vvo 8)) := hvvo (1, 1, 8) (by decide)
  have rrhb0o : (-1) ≤ vvo 8 ∧ vvo 8 ≤ 15 := hrro (8, (-1), 15) (by decide)
  have exvb0o : h.2.2.2.2 b0 2 = .int (zi (vvo 9)) := hvvo (1, 2, 9) (by decide)
  have rrvb0o : 0 ≤ vvo 9 ∧ vvo 9 ≤ 15 := hrro (9, 0, 15) (by decide)
  have extq0o : h.2.2.2.2 b0 3 = .int (zi (vvo 10)) := hvvo (1, 3, 10) (by decide)
  have rrtq0o : (-1) ≤ vvo 10 ∧ vvo 10 ≤ 255 := hrro (10, (-1), 255) (by decide)
  have exC0o : h.2.2.2.2 b0 4 = .int (zi (vvo 11)) := hvvo (1, 4, 11) (by decide)
  have rrC0o : 0 ≤ vvo 11 ∧ vvo 11 ≤ 16 := hrro (11, 0, 16) (by decide)
  have exR0o : h.2.2.2.2 b0 5 = .int (zi (vvo 12)) := hvvo (1, 5, 12) (by decide)
  have rrR0o : 0 ≤ vvo 12 ∧ vvo 12 ≤ 16 := hrro (12, 0, 16) (by decide)
  have exoc0o : h.2.2.2.2 b0 6 = .int (zi (vvo 13)) := hvvo (1, 6, 13) (by decide)
  have rroc0o : 0 ≤ vvo 13 ∧ vvo 13 ≤ 16 := hrro (13, 0, 16) (by decide)
  have exor0o : h.2.2.2.2 b0 7 = .int (zi (vvo 14)) := hvvo (1, 7, 14) (by decide)
  have rror0o : 0 ≤ vvo 14 ∧ vvo 14 ≤ 16 := hrro (14, 0, 16) (by decide)
  have exf0o : h.2.2.2.2 b0 8 = .int (zi (vvo 15)) := hvvo (1, 8, 15) (by decide)
  have rrf0o : 0 ≤ vvo 15 ∧ vvo 15 ≤ 192 := hrro (15, 0, 192) (by decide)
  have exhb1o : h.2.2.2.2 b1 1 = .int (zi (vvo 16)) := hvvo (2, 1, 16) (by decide)
  have rrhb1o : (-1) ≤ vvo 16 ∧ vvo 16 ≤ 15 := hrro (16, (-1), 15) (by decide)
  have exvb1o : h.2.2.2.2 b1 2 = .int (zi (vvo 17)) := hvvo (2, 2, 17) (by decide)
  have rrvb1o : 0 ≤ vvo 17 ∧ vvo 17 ≤ 15 := hrro (17, 0, 15) (by decide)
  have extq1o : h.2.2.2.2 b1 3 = .int (zi (vvo 18)) := hvvo (2, 3, 18) (by decide)
  have rrtq1o : (-1) ≤ vvo 18 ∧ vvo 18 ≤ 255 := hrro (18, (-1), 255) (by decide)
  have exC1o : h.2.2.2.2 b1 4 = .int (zi (vvo 19)) := hvvo (2, 4, 19) (by decide)
  have rrC1o : 0 ≤ vvo 19 ∧ vvo 19 ≤ 16 := hrro (19, 0, 16) (by decide)
  have exR1o : h.2.2.2.2 b1 5 = .int (zi (vvo 20)) := hvvo (2, 5, 20) (by decide)
  have rrR1o : 0 ≤ vvo 20 ∧ vvo 20 ≤ 16 := hrro (20, 0, 16) (by decide)
  have exoc1o : h.2.2.2.2 b1 6 = .int (zi (vvo 21)) := hvvo (2, 6, 21) (by decide)
  have rroc1o : 0 ≤ vvo 21 ∧ vvo 21 ≤ 16 := hrro (21, 0, 16) (by decide)
  have exor1o : h.2.2.2.2 b1 7 = .int (zi (vvo 22)) := hvvo (2, 7, 22) (by decide)
  have rror1o : 0 ≤ vvo 22 ∧ vvo 22 ≤ 16 := hrro (22, 0, 16) (by decide)
  have exf1o : h.2.2.2.2 b1 8 = .int (zi (vvo 23)) := hvvo (2, 8, 23) (by decide)
  have rrf1o : 0 ≤ vvo 23 ∧ vvo 23 ≤ 192 := hrro (23, 0, 192) (by decide)
  have exhb2o : h.2.2.2.2 b2 1 = .int (zi (vvo 24)) := hvvo (3, 1, 24) (by decide)
  have rrhb2o : (-1) ≤ vvo 24 ∧ vvo 24 ≤ 15 := hrro (24, (-1), 15) (by decide)
  have exvb2o : h.2.2.2.2 b2 2 = .int (zi (vvo 25)) := hvvo (3, 2, 25) (by decide)
  have rrvb2o : 0 ≤ vvo 25 ∧ vvo 25 ≤ 15 := hrro (25, 0, 15) (by decide)
  have extq2o : h.2.2.2.2 b2 3 = .int (zi (vvo 26)) := hvvo (3, 3, 26) (by decide)
  have rrtq2o : (-1) ≤ vvo 26 ∧ vvo 26 ≤ 255 := hrro (26, (-1), 255) (by decide)
  have exC2o : h.2.2.2.2 b2 4 = .int (zi (vvo 27)) := hvvo (3, 4, 27) (by decide)
  have rrC2o : 0 ≤ vvo 27 ∧ vvo 27 ≤ 16 := hrro (27, 0, 16) (by decide)
  have exR2o : h.2.2.2.2 b2 5 = .int (zi (vvo 28)) := hvvo (3, 5, 28) (by decide)
  have rrR2o : 0 ≤ vvo 28 ∧ vvo 28 ≤ 16 := hrro (28, 0, 16) (by decide)
  have exoc2o : h.2.2.2.2 b2 6 = .int (zi (vvo 29)) := hvvo (3, 6, 29) (by decide)
  have rroc2o : 0 ≤ vvo 29 ∧ vvo 29 ≤ 16 := hrro (29, 0, 16) (by decide)
  have exor2o : h.2.2.2.2 b2 7 = .int (zi (vvo 30)) := hvvo (3, 7, 30) (by decide)
  have rror2o : 0 ≤ vvo 30 ∧ vvo 30 ≤ 16 := hrro (30, 0, 16) (by decide)
  have exf2o : h.2.2.2.2 b2 8 = .int (zi (vvo 31)) := hvvo (3, 8, 31) (by decide)
  have rrf2o : 0 ≤ vvo 31 ∧ vvo 31 ≤ 192 := hrro (31, 0, 192) (by decide)
  refine gz_s 1 (pc' := 1) (L' := [some (.ref x), some (.int (zi a)), some (.int (zi b))]) (S' := [.int (zi a)]) rfl ?_
  by_cases hc2 : (a : Int) < 0
  · refine gy_ifT (pc' := 25) rfl (by decide) (by decide) (by omega) hc2 ?_
    have hl3 : 1024 ≤ h.2.2.2.1 bt ∧ h.2.2.2.1 bt ≤ 1000000 := gJ.rowl (G := gGG) hS.1 tbt rfl
    have hl4 : 0 ≤ h.2.2.2.1 coo ∧ h.2.2.2.1 coo ≤ 12288 := gJ.rowl (G := gGG) hS.1 tcoo rfl
    have hl5 : 0 ≤ h.2.2.2.1 dmo ∧ h.2.2.2.1 dmo ≤ 192 := gJ.rowl (G := gGG) hS.1 tdmo rfl
    have hix6 : gIx ty x ld (h.2.2.2.1 bt : Int) (64 * dw + n0 + 4096 * dh + 262144 * i0) S h := ⟨pic, b0, b1, b2, dr, sk, bt, n0, c0, i0, dw, dh, ⟨tx, tdr, tsk, tbt⟩, ⟨ex2, ex3, ex4, ex0⟩, hpc, htc, ⟨en0, by omega, by omega⟩, ⟨eiv, by omega, by omega⟩, ⟨ec0, by omega, by omega⟩, ⟨by omega, by omega⟩, hrr, hrw, ⟨edw, by omega, by omega⟩, ⟨edh, by omega, by omega⟩, by omega, rfl, hxr, ⟨hsw, hc0⟩, htz⟩
    have G7 : gSg [] [] [] ty h ty h := gSg.ss G0 hS (by decide)
    exact gz_end (I := .new 108) (len := 3) rfl (Or.inr (by decide)) ⟨ty, G7, ld, (h.2.2.2.1 bt : Int), (64 * dw + n0 + 4096 * dh + 262144 * i0), (by omega), (by omega), (by omega), (by omega), (by omega), (by omega), hix6, Or.inr ⟨rfl, rfl, (by omega), (by dsimp only; omega), (by dsimp only; omega), (by omega), (by omega)⟩⟩
  · refine gy_ifF rfl (by decide) (by decide) (by omega) hc2 ?_
    refine gz_s 2 (pc' := 6) (L' := [some (.ref x), some (.int (zi a)), some (.int (zi b))]) (S' := [.ref x, .int (zi a)]) rfl ?_
    refine gs_gtk rfl (by decide) rfl hS.1 tx rfl rfl ex2 ?_
    refine gs_gtk rfl (by decide) rfl hS.1 tpic rfl rfl exblo ?_
    by_cases hc8 : (vvo 3 : Int) ≤ a
    · refine gy_icT (pc' := 25) rfl (by decide) (by decide) (by omega) (by omega) hc8 ?_
      have hl9 : 1024 ≤ h.2.2.2.1 bt ∧ h.2.2.2.1 bt ≤ 1000000 := gJ.rowl (G := gGG) hS.1 tbt rfl
      have hl10 : 0 ≤ h.2.2.2.1 coo ∧ h.2.2.2.1 coo ≤ 12288 := gJ.rowl (G := gGG) hS.1 tcoo rfl
      have hl11 : 0 ≤ h.2.2.2.1 dmo ∧ h.2.2.2.1 dmo ≤ 192 := gJ.rowl (G := gGG) hS.1 tdmo rfl
      have hix12 : gIx ty x ld (h.2.2.2.1 bt : Int) (64 * dw + n0 + 4096 * dh + 262144 * i0) S h := ⟨pic, b0, b1, b2, dr, sk, bt, n0, c0, i0, dw, dh, ⟨tx, tdr, tsk, tbt⟩, ⟨ex2, ex3, ex4, ex0⟩, hpc, htc, ⟨en0, by omega, by omega⟩, ⟨eiv, by omega, by omega⟩, ⟨ec0, by omega, by omega⟩, ⟨by omega, by omega⟩, hrr, hrw, ⟨edw, by omega, by omega⟩, ⟨edh, by omega, by omega⟩, by omega, rfl, hxr, ⟨hsw, hc0⟩, htz⟩
      have G13 : gSg [] [] [] ty h ty h := gSg.ss G0 hS (by decide)
      exact gz_end (I := .new 108) (len := 3) rfl (Or.inr (by decide)) ⟨ty, G13, ld, (h.2.2.2.1 bt : Int), (64 * dw + n0 + 4096 * dh + 262144 * i0), (by omega), (by omega), (by omega), (by omega), (by omega), (by omega), hix12, Or.inr ⟨rfl, rfl, (by omega), (by dsimp only; omega), (by dsimp only; omega), (by omega), (by omega)⟩⟩
    · refine gy_icF rfl (by decide) (by decide) (by omega) (by omega) hc8 ?_
      refine gz_s 1 (pc' := 16) (L' := [some (.ref x), some (.int (zi a)), some (.int (zi b))]) (S' := [.int (zi b)]) rfl ?_
      by_cases hc14 : (b : Int) < 0
      · refine gy_ifT (pc' := 25) rfl (by decide) (by decide) (by omega) hc14 ?_
        have hl15 : 1024 ≤ h.2.2.2.1 bt ∧ h.2.2.2.1 bt ≤ 1000000 := gJ.rowl (G := gGG) hS.1 tbt rfl
        have hl16 : 0 ≤ h.2.2.2.1 coo ∧ h.2.2.2.1 coo ≤ 12288 := gJ.rowl (G := gGG) hS.1 tcoo rfl
        have hl17 : 0 ≤ h.2.2.2.1 dmo ∧ h.2.2.2.1 dmo ≤ 192 := gJ.rowl (G := gGG) hS.1 tdmo rfl
        have hix18 : gIx ty x ld (h.2.2.2.1 bt : Int) (64 * dw + n0 + 4096 * dh + 262144 * i0) S h := ⟨pic, b0, b1, b2, dr, sk, bt, n0, c0, i0, dw, dh, ⟨tx, tdr, tsk, tbt⟩, ⟨ex2, ex3, ex4, ex0⟩, hpc, htc, ⟨en0, by omega, by omega⟩, ⟨eiv, by omega, by omega⟩, ⟨ec0, by omega, by omega⟩, ⟨by omega, by omega⟩, hrr, hrw, ⟨edw, by omega, by omega⟩, ⟨edh, by omega, by omega⟩, by omega, rfl, hxr, ⟨hsw, hc0⟩, htz⟩
        have G19 : gSg [] [] [] ty h ty h := gSg.ss G0 hS (by decide)
        exact gz_end (I := .new 108) (len := 3) rfl (Or.inr (by decide)) ⟨ty, G19, ld, (h.2.2.2.1 bt : Int), (64 * dw + n0 + 4096 * dh + 262144 * i0), (by omega), (by omega), (by omega), (by omega), (by omega), (by omega), hix18, Or.inr ⟨rfl, rfl, (by omega), (by dsimp only; omega), (by dsimp only; omega), (by omega), (by omega)⟩⟩
      · refine gy_ifF rfl (by decide) (by decide) (by omega) hc14 ?_
        refine gz_s 2 (pc' := 22) (L' := [some (.ref x), some (.int (zi a)), some (.int (zi b))]) (S' := [.int (zi 63), .int (zi b)]) rfl ?_
        by_cases hc20 : (b : Int) ≤ 63
        · refine gy_icT (pc' := 35) rfl (by decide) (by decide) (by omega) (by omega) hc20 ?_
          refine gz_s 1 (pc' := 36) (L' := [some (.ref x), some (.int (zi a)), some (.int (zi b))]) (S' := [.ref x]) rfl ?_
          refine gs_gtk rfl (by decide) rfl hS.1 tx rfl rfl ex2 ?_
          refine gy_s 6 (pc' := 46) (L' := [some (.ref x), some (.int (zi a)), some (.int (zi b))]) (S' := [.int (zi 3), .int (zi b), .int ((zi b) &&& (zi 7)), .int (zi a), .ref pic]) (L2 := [some (.ref x), some (.int (zi a)), some (.int (zi b))]) (S2 := [.int (zi 3), .int (zi b), .int (zi (b % 8)), .int (zi a), .ref pic]) rfl (by simp only [zi_add, zi_sub, zi_mul, zi_neg, zi_and1, zi_and7, zi_and15, zi_and31, zi_and255]) (by simp only [zi_add, zi_sub, zi_mul, zi_neg, zi_and1, zi_and7, zi_and15, zi_and31, zi_and255]) ?_
          refine gy_shc (n := 3) (v := 8) rfl (by decide) (by omega) (by decide) (by decide) rfl ?_
          have hl21 : h.2.2.2.1 coo = h.2.2.2.1 coo := congrFun hS.2.2.2.2.1 coo
          refine gz_call rfl (by decide) rfl (by decide) (by decide) (gcal_of rfl rfl rfl (Nat.le_of_ble_eq_true rfl) (gJ.recv (G := gGG) hS.1 tpic rfl rfl)) (cl_Picture_exactAt _ hS.1 pic tpic a ⟨by omega, by omega⟩ (b % 8) ⟨by omega, by omega⟩ (b / 8) ⟨by omega, by omega⟩ bno er0o tbno b0 er1o tb0 b1 er2o tb1 b2 er3o tb2 coo er4o tcoo (gSta.fr hS.2 (by decide) hyst) (vvo 0) excno ⟨by omega, by omega⟩ (vvo 10) extq0o ⟨by omega, by omega⟩ (vvo 18) extq1o ⟨by omega, by omega⟩ (vvo 26) extq2o ⟨by omega, by omega⟩ (by omega) (by omega) (by omega) (by omega) uq) (fun q22 _ wq22 => ?_)
          obtain ⟨pq22, oq22, hq22⟩ := q22
          obtain ⟨xq22, zq22, gq22, aq22, bq22⟩ := wq22
          refine ⟨_, gq22, ?_⟩
          show gz gPP gGG gcn _ _ 50 [some (.ref x), some (.int (zi a)), some (.int (zi b))] [.long (zl zq22)] hq22 _
          have sq22 : gSs rT 1027 ty [] h hq22 := gSs.tr hS xq22 (by decide)
          have s23 := (xq22.2.2.2.2.2 x 2 (by rw [tx]; decide)).trans ex2
          have s24 := (xq22.2.2.2.2.2 x 3 (by rw [tx]; decide)).trans ex3
          have s25 := (xq22.2.2.2.2.2 x 4 (by rw [tx]; decide)).trans ex4
          have s26 := (xq22.2.2.2.2.2 sk 0 (by rw [tsk]; decide)).trans ex0
          have s27 := (xq22.2.2.2.2.2 dr 8 (by rw [tdr]; decide)).trans en0
          have s28 := (xq22.2.2.2.2.2 dr 3 (by rw [tdr]; decide)).trans eiv
          have s29 := (xq22.2.2.2.2.2 dr 1 (by rw [tdr]; decide)).trans edw
          have s30 := (xq22.2.2.2.2.2 dr 2 (by rw [tdr]; decide)).trans edh
          have s31 := (xq22.2.2.2.2.2 sk 1 (by rw [tsk]; decide)).trans ec0
          have s32 := (xq22.2.2.2.2.2 pic 0 (by rw [tpic]; decide)).trans er0o
          have s33 := (xq22.2.2.2.2.2 bno 0 (by rw [tbno]; decide)).trans er1o
          have s34 := (xq22.2.2.2.2.2 bno 1 (by rw [tbno]; decide)).trans er2o
          have s35 := (xq22.2.2.2.2.2 bno 2 (by rw [tbno]; decide)).trans er3o
          have s36 := (xq22.2.2.2.2.2 pic 2 (by rw [tpic]; decide)).trans er4o
          have s37 := (xq22.2.2.2.2.2 pic 3 (by rw [tpic]; decide)).trans er5o
          have s38 := (xq22.2.2.2.2.2 pic 7 (by rw [tpic]; decide)).trans excno
          have s39 := (xq22.2.2.2.2.2 pic 12 (by rw [tpic]; decide)).trans exuco
          have s40 := (xq22.2.2.2.2.2 pic 13 (by rw [tpic]; decide)).trans exuro
          have s41 := (xq22.2.2.2.2.2 pic 8 (by rw [tpic]; decide)).trans exblo
          have s42 := (xq22.2.2.2.2.2 pic 5 (by rw [tpic]; decide)).trans exwo
          have s43 := (xq22.2.2.2.2.2 pic 6 (by rw [tpic]; decide)).trans exhho
          have s44 := (xq22.2.2.2.2.2 pic 10 (by rw [tpic]; decide)).trans exgho
          have s45 := (xq22.2.2.2.2.2 pic 11 (by rw [tpic]; decide)).trans exgvo
          have s46 := (xq22.2.2.2.2.2 b0 1 (by rw [tb0]; decide)).trans exhb0o
          have s47 := (xq22.2.2.2.2.2 b0 2 (by rw [tb0]; decide)).trans exvb0o
          have s48 := (xq22.2.2.2.2.2 b0 3 (by rw [tb0]; decide)).trans extq0o
          have s49 := (xq22.2.2.2.2.2 b0 4 (by rw [tb0]; decide)).trans exC0o
          have s50 := (xq22.2.2.2.2.2 b0 5 (by rw [tb0]; decide)).trans exR0o
          have s51 := (xq22.2.2.2.2.2 b0 6 (by rw [tb0]; decide)).trans exoc0o
          have s52 := (xq22.2.2.2.2.2 b0 7 (by rw [tb0]; decide)).trans exor0o
          have s53 := (xq22.2.2.2.2.2 b0 8 (by rw [tb0]; decide)).trans exf0o
          have s54 := (xq22.2.2.2.2.2 b1 1 (by rw [tb1]; decide)).trans exhb1o
          have s55 := (xq22.2.2.2.2.2 b1 2 (by rw [tb1]; decide)).trans exvb1o
          have s56 := (xq22.2.2.2.2.2 b1 3 (by rw [tb1]; decide)).trans extq1o
          have s57 := (xq22.2.2.2.2.2 b1 4 (by rw [tb1]; decide)).trans exC1o
          have s58 := (xq22.2.2.2.2.2 b1 5 (by rw [tb1]; decide)).trans exR1o
          have s59 := (xq22.2.2.2.2.2 b1 6 (by rw [tb1]; decide)).trans exoc1o
          have s60 := (xq22.2.2.2.2.2 b1 7 (by rw [tb1]; decide)).trans exor1o
          have s61 := (xq22.2.2.2.2.2 b1 8 (by rw [tb1]; decide)).trans exf1o
          have s62 := (xq22.2.2.2.2.2 b2 1 (by rw [tb2]; decide)).trans exhb2o
          have s63 := (xq22.2.2.2.2.2 b2 2 (by rw [tb2]; decide)).trans exvb2o
          have s64 := (xq22.2.2.2.2.2 b2 3 (by rw [tb2]; decide)).trans extq2o
          have s65 := (xq22.2.2.2.2.2 b2 4 (by rw [tb2]; decide)).trans exC2o
          have s66 := (xq22.2.2.2.2.2 b2 5 (by rw [tb2]; decide)).trans exR2o
          have s67 := (xq22.2.2.2.2.2 b2 6 (by rw [tb2]; decide)).trans exoc2o
          have s68 := (xq22.2.2.2.2.2 b2 7 (by rw [tb2]; decide)).trans exor2o
          have s69 := (xq22.2.2.2.2.2 b2 8 (by rw [tb2]; decide)).trans exf2o
          have pr70 := gXr.fr xq22.2 (by decide) hxr
          have pr71 := gSW.fr xq22.2 (by decide) hsw
          have pr72 := gPC.fr xq22.2 (by decide) hpc
          have pr73 := gTc.fr xq22.2 (by decide) htc
          have pr74 := gRr.fr xq22.2 (by decide) hrr
          have pr75 := gRw.fr xq22.2 (by decide) hrw
          have k76 := sq22.2.1
          have k76b := sq22.2.2.1
          have hl77 : hq22.2.2.2.1 bt = h.2.2.2.1 bt := congrFun sq22.2.2.2.2.1 bt
          have hl78 : hq22.2.2.2.1 coo = h.2.2.2.1 coo := congrFun sq22.2.2.2.2.1 coo
          have hl79 : hq22.2.2.2.1 dmo = h.2.2.2.1 dmo := congrFun sq22.2.2.2.2.1 dmo
          have hl80 : 1024 ≤ hq22.2.2.2.1 bt ∧ hq22.2.2.2.1 bt ≤ 1000000 := gJ.rowl (G := gGG) sq22.1 tbt rfl
          have hl81 : 0 ≤ hq22.2.2.2.1 coo ∧ hq22.2.2.2.1 coo ≤ 12288 := gJ.rowl (G := gGG) sq22.1 tcoo rfl
          have hl82 : 0 ≤ hq22.2.2.2.1 dmo ∧ hq22.2.2.2.1 dmo ≤ 192 := gJ.rowl (G := gGG) sq22.1 tdmo rfl
          have k83 := sq22.2.1
          have k83b := sq22.2.2.1
          have hl84 : hq22.2.2.2.1 bt = h.2.2.2.1 bt := congrFun sq22.2.2.2.2.1 bt
          have hl85 : hq22.2.2.2.1 coo = h.2.2.2.1 coo := congrFun sq22.2.2.2.2.1 coo
          have hl86 : hq22.2.2.2.1 dmo = h.2.2.2.1 dmo := congrFun sq22.2.2.2.2.1 dmo
          have hix87 : gIx ty x ld (hq22.2.2.2.1 bt : Int) (64 * dw + n0 + 4096 * dh + 262144 * i0) S hq22 := ⟨pic, b0, b1, b2, dr, sk, bt, n0, c0, i0, dw, dh, ⟨tx, tdr, tsk, tbt⟩, ⟨s23, s24, s25, s26⟩, pr72, pr73, ⟨s27, by omega, by omega⟩, ⟨s28, by omega, by omega⟩, ⟨s31, by omega, by omega⟩, ⟨by omega, by omega⟩, pr74, pr75, ⟨s29, by omega, by omega⟩, ⟨s30, by omega, by omega⟩, by omega, rfl, pr70, ⟨pr71, hc0⟩, htz⟩
          have G88 : gSg [] [] [] ty h ty hq22 := gSg.ss G0 sq22 (by decide)
          exact gz_end (I := .lreturn) (len := 1) rfl (Or.inl rfl) ⟨ty, G88, ld, (hq22.2.2.2.1 bt : Int), (64 * dw + n0 + 4096 * dh + 262144 * i0), (by omega), (by omega), (by omega), (by omega), (by omega), (by omega), hix87, Or.inl ⟨zq22, rfl, (by omega), (by omega), (by omega), (by dsimp only; omega), (by dsimp only; omega), (by omega), (by omega)⟩⟩
        · refine gy_icF rfl (by decide) (by decide) (by omega) (by omega) hc20 ?_
          have hl89 : 1024 ≤ h.2.2.2.1 bt ∧ h.2.2.2.1 bt ≤ 1000000 := gJ.rowl (G := gGG) hS.1 tbt rfl
          have hl90 : 0 ≤ h.2.2.2.1 coo ∧ h.2.2.2.1 coo ≤ 12288 := gJ.rowl (G := gGG) hS.1 tcoo rfl
          have hl91 : 0 ≤ h.2.2.2.1 dmo ∧ h.2.2.2.1 dmo ≤ 192 := gJ.rowl (G := gGG) hS.1 tdmo rfl
          have hix92 : gIx ty x ld (h.2.2.2.1 bt : Int) (64 * dw + n0 + 4096 * dh + 262144 * i0) S h := ⟨pic, b0, b1, b2, dr, sk, bt, n0, c0, i0, dw, dh, ⟨tx, tdr, tsk, tbt⟩, ⟨ex2, ex3, ex4, ex0⟩, hpc, htc, ⟨en0, by omega, by omega⟩, ⟨eiv, by omega, by omega⟩, ⟨ec0, by omega, by omega⟩, ⟨by omega, by omega⟩, hrr, hrw, ⟨edw, by omega, by omega⟩, ⟨edh, by omega, by omega⟩, by omega, rfl, hxr, ⟨hsw, hc0⟩, htz⟩
          have G93 : gSg [] [] [] ty h ty h := gSg.ss G0 hS (by decide)
          exact gz_end (I := .new 108) (len := 3) rfl (Or.inr (by decide)) ⟨ty, G93, ld, (h.2.2.2.1 bt : Int), (64 * dw + n0 + 4096 * dh + 262144 * i0), (by omega), (by omega), (by omega), (by omega), (by omega), (by omega), hix92, Or.inr ⟨rfl, rfl, (by omega), (by dsimp only; omega), (by dsimp only; omega), (by omega), (by omega)⟩⟩
set_option maxRecDepth 20000 in
set_option maxHeartbeats 4000000 in
theorem cl_DctFilter_told (d : Nat) {ty : Nat → Nat} {h : gH} (hJ : gJ rT 1027 ty h) (x : Nat) (tx : ty x = 50) (a : Int) (ra : (-2147483648) ≤ a ∧ a ≤ 2147483647) (b : Int) (rb : (-2147483648) ≤ b ∧ b ≤ 2147483647) (S : gSS) (ld : Int) (rld : 0 ≤ ld ∧ ld ≤ 192) (lb : Int) (rlb : 1024 ≤ lb ∧ lb ≤ 1000000) (iv : Int) (riv : 0 ≤ iv ∧ iv ≤ 26476544) (uq : gUq ty) (hyix : gIx ty x ld lb iv S h) : gz gPP gGG gcn (d + 2) gt81 0 (gent [.ref x, .int (zi a), .int (zi b)] 4) [] h (fun q _ => ∃ ty9 : Nat → Nat, gSg [] [] [] ty h ty9 q.2.2 ∧ ∃ ld1 lb1 iv1 : Int, 0 ≤ ld1 ∧ ld1 ≤ 192 ∧ 1024 ≤ lb1 ∧ lb1 ≤ 1000000 ∧ 0 ≤ iv1 ∧ iv1 ≤ 26476544 ∧ (gIx ty9 x ld1 lb1 iv1 S q.2.2) ∧ ((∃ z : Int, gfin gt81 q.1 q.2.1 = some (some (.int (zi z))) ∧ (-2147483648) ≤ z ∧ z ≤ 2147483647 ∧ (iv1 = iv) ∧ (1024 * (((q.2.2.1 : Int) - h.1) - 31 - 2 * (ld1 - ld)) ≤ lb1 - lb) ∧ (((q.2.2.2.1 : Int) - h.2.1) ≤ 4303 + 12480 * (ld1 - ld) + 2 * (lb1 - lb)) ∧ (ld ≤ ld1) ∧ (lb ≤ lb1)) ∨ (q.2.1 = [] ∧ ((q.1 = 36)) ∧ (iv1 = iv) ∧ (1024 * (((q.2.2.1 : Int) - h.1) - 31 - 2 * (ld1 - ld)) ≤ lb1 - lb) ∧ (((q.2.2.2.1 : Int) - h.2.1) ≤ 4303 + 12480 * (ld1 - ld) + 2 * (lb1 - lb)) ∧ (ld ≤ ld1) ∧ (lb ≤ lb1)))) := by
  have hS : gSs rT 1027 ty [] h h := gSs.rf hJ
  have G0 : gSg [] [] [] ty h ty h := gSg.rf hJ (fun x hx => by cases hx)
  obtain ⟨pic, b0, b1, b2, dr, sk, bt, n0, c0, i0, dw, dh, ⟨_, tdr, tsk, tbt⟩, ⟨ex2, ex3, ex4, ex0⟩, hpc, htc, ⟨en0, rn0⟩, ⟨eiv, ri0⟩, ⟨ec0, rc0⟩, ⟨lc0, llb⟩, hrr, hrw, ⟨edw, rdw⟩, ⟨edh, rdh⟩, hwh, hcd, hxr, ⟨hsw, hc0⟩, htz⟩ := hyix
  have tpic := hpc.1.1
  have tb0 := hpc.1.2.1
  have tb1 := hpc.1.2.2.1
  have tb2 := hpc.1.2.2.2
  have hpq1 := hpc
  obtain ⟨_, bno, coo, dmo, vvo, ⟨tbno, tcoo, tdmo⟩, ⟨er0o, er1o, er2o, er3o, er4o, er5o⟩, hvvo, hrro, ⟨yy0o, yy1o, yy2o, yy3o, yy4o, yy5o, yy6o, yy7o⟩, ll0o, ll1o, ll2o, ll3o⟩ := hpq1
  have excno : h.2.2.2.2 pic 7 = .int (zi (vvo 0)) := hvvo (0, 7, 0) (by decide)
  have rrcno : 0 ≤ vvo 0 ∧ vvo 0 ≤ 3 := hrro (0, 0, 3) (by decide)
  have exuco : h.2.2.2.2 pic 12 = .int (zi (vvo 1)) := hvvo (0, 12, 1) (by decide)
  have rruco : 0 ≤ vvo 1 ∧ vvo 1 ≤ 8 := hrro (1, 0, 8) (by decide)
  have exuro : h.2.2.2.2 pic 13 = .int (zi (vvo 2)) := hvvo (0, 13, 2) (by decide)
  have rruro : 0 ≤ vvo 2 ∧ vvo 2 ≤ 8 := hrro (2, 0, 8) (by decide)
  have exblo : h.2.2.2.2 pic 8 = .int (zi (vvo 3)) := hvvo (0, 8, 3) (by decide)
  have rrblo : 0 ≤ vvo 3 ∧ vvo 3 ≤ 192 := hrro (3, 0, 192) (by decide)
  have exwo : h.2.2.2.2 pic 5 = .int (zi (vvo 4)) := hvvo (0, 5, 4) (by decide)
  have rrwo : 0 ≤ vvo 4 ∧ vvo 4 ≤ 64 := hrro (4, 0, 64) (by decide)
  have exhho : h.2.2.2.2 pic 6 = .int (zi (vvo 5)) := hvvo (0, 6, 5) (by decide)
  have rrhho : 0 ≤ vvo 5 ∧ vvo 5 ≤ 64 := hrro (5, 0, 64) (by decide)
  have exgho : h.2.2.2.2 pic 10 = .int (zi (vvo 6)) := hvvo (0, 10, 6) (by decide)
  have rrgho : 1 ≤ vvo 6 ∧ vvo 6 ≤ 2 := hrro (6, 1, 2) (by decide)
  have exgvo : h.2.2.2.2 pic 11 = .int (zi (vvo 7)) := hvvo (0, 11, 7) (by decide)
  have rrgvo : 1 ≤ vvo 7 ∧ vvo 7 ≤ 2 := hrro (7, 1, 2) (by decide)
  have exhb0o : h.2.2.2.2 b0 1 = .int (zi (vvo 8)) := hvvo (1, 1, 8) (by decide)
  have rrhb0o : (-1) ≤ vvo 8 ∧ vvo 8 ≤ 15 := hrro (8, (-1), 15) (by decide)
  have exvb0o : h.2.2.2.2 b0 2 = .int (zi (vvo 9)) := hvvo (1, 2, 9) (by decide)
  have rrvb0o : 0 ≤ vvo 9 ∧ vvo 9 ≤ 15 := hrro (9, 0, 15) (by decide)
  have extq0o : h.2.2.2.2 b0 3 = .int (zi (vvo 10)) := hvvo (1, 3, 10) (by decide)
  have rrtq0o : (-1) ≤ vvo 10 ∧ vvo 10 ≤ 255 := hrro (10, (-1), 255) (by decide)
  have exC0o : h.2.2.2.2 b0 4 = .int (zi (vvo 11)) := hvvo (1, 4, 11) (by decide)
  have rrC0o : 0 ≤ vvo 11 ∧ vvo 11 ≤ 16 := hrro (11, 0, 16) (by decide)
  have exR0o : h.2.2.2.2 b0 5 = .int (zi (vvo 12)) := hvvo (1, 5, 12) (by decide)
  have rrR0o : 0 ≤ vvo 12 ∧ vvo 12 ≤ 16 := hrro (12, 0, 16) (by decide)
  have exoc0o : h.2.2.2.2 b0 6 = .int (zi (vvo 13)) := hvvo (1, 6, 13) (by decide)
  have rroc0o : 0 ≤ vvo 13 ∧ vvo 13 ≤ 16 := hrro (13, 0, 16) (by decide)
  have exor0o : h.2.2.2.2 b0 7 = .int (zi (vvo 14)) := hvvo (1, 7, 14) (by decide)
  have rror0o : 0 ≤ vvo 14 ∧ vvo 14 ≤ 16 := hrro (14, 0, 16) (by decide)
  have exf0o : h.2.2.2.2 b0 8 = .int (zi (vvo 15)) := hvvo (1, 8, 15) (by decide)
  have rrf0o : 0 ≤ vvo 15 ∧ vvo 15 ≤ 192 := hrro (15, 0, 192) (by decide)
  have exhb1o : h.2.2.2.2 b1 1 = .int (zi (vvo 16)) := hvvo (2, 1, 16) (by decide)
  have rrhb1o : (-1) ≤ vvo 16 ∧ vvo 16 ≤ 15 := hrro (16, (-1), 15) (by decide)
  have exvb1o : h.2.2.2.2 b1 2 = .int (zi (vvo 17)) := hvvo (2, 2, 17) (by decide)
  have rrvb1o : 0 ≤ vvo 17 ∧ vvo 17 ≤ 15 := hrro (17, 0, 15) (by decide)
  have extq1o : h.2.2.2.2 b1 3 = .int (zi (vvo 18)) := hvvo (2, 3, 18) (by decide)
  have rrtq1o : (-1) ≤ vvo 18 ∧ vvo 18 ≤ 255 := hrro (18, (-1), 255) (by decide)
  have exC1o : h.2.2.2.2 b1 4 = .int (zi (vvo 19)) := hvvo (2, 4, 19) (by decide)
  have rrC1o : 0 ≤ vvo 19 ∧ vvo 19 ≤ 16 := hrro (19, 0, 16) (by decide)
  have exR1o : h.2.2.2.2 b1 5 = .int (zi (vvo 20)) := hvvo (2, 5, 20) (by decide)
  have rrR1o : 0 ≤ vvo 20 ∧ vvo 20 ≤ 16 := hrro (20, 0, 16) (by decide)
  have exoc1o : h.2.2.2.2 b1 6 = .int (zi (vvo 21)) := hvvo (2, 6, 21) (by decide)
  have rroc1o : 0 ≤ vvo 21 ∧ vvo 21 ≤ 16 := hrro (21, 0, 16) (by decide)
  have exor1o : h.2.2.2.2 b1 7 = .int (zi (vvo 22)) := hvvo (2, 7, 22) (by decide)
  have rror1o : 0 ≤ vvo 22 ∧ vvo 22 ≤ 16 := hrro (22, 0, 16) (by decide)
  have exf1o : h.2.2.2.2 b1 8 = .int (zi (vvo 23)) := hvvo (2, 8, 23) (by decide)
  have rrf1o : 0 ≤ vvo 23 ∧ vvo 23 ≤ 192 := hrro (23, 0, 192) (by decide)
  have exhb2o : h.2.2.2.2 b2 1 = .int (zi (vvo 24)) := hvvo (3, 1, 24) (by decide)
  have rrhb2o : (-1) ≤ vvo 24 ∧ vvo 24 ≤ 15 := hrro (24, (-1), 15) (by decide)
  have exvb2o : h.2.2.2.2 b2 2 = .int (zi (vvo 25)) := hvvo (3, 2, 25) (by decide)
  have rrvb2o : 0 ≤ vvo 25 ∧ vvo 25 ≤ 15 := hrro (25, 0, 15) (by decide)
  have extq2o : h.2.2.2.2 b2 3 = .int (zi (vvo 26)) := hvvo (3, 3, 26) (by decide)
  have rrtq2o : (-1) ≤ vvo 26 ∧ vvo 26 ≤ 255 := hrro (26, (-1), 255) (by decide)
  have exC2o : h.2.2.2.2 b2 4 = .int (zi (vvo 27)) := hvvo (3, 4, 27) (by decide)
  have rrC2o : 0 ≤ vvo 27 ∧ vvo 27 ≤ 16 := hrro (27, 0, 16) (by decide)
  have exR2o : h.2.2.2.2 b2 5 = .int (zi (vvo 28)) := hvvo (3, 5, 28) (by decide)
  have rrR2o : 0 ≤ vvo 28 ∧ vvo 28 ≤ 16 := hrro (28, 0, 16) (by decide)
  have exoc2o : h.2.2.2.2 b2 6 = .int (zi (vvo 29)) := hvvo (3, 6, 29) (by decide)
  have rroc2o : 0 ≤ vvo 29 ∧ vvo 29 ≤ 16 := hrro (29, 0, 16) (by decide)
  have exor2o : h.2.2.2.2 b2 7 = .int (zi (vvo 30)) := hvvo (3, 7, 30) (by decide)
  have rror2o : 0 ≤ vvo 30 ∧ vvo 30 ≤ 16 := hrro (30, 0, 16) (by decide)
  have exf2o : h.2.2.2.2 b2 8 = .int (zi (vvo 31)) := hvvo (3, 8, 31) (by decide)
  have rrf2o : 0 ≤ vvo 31 ∧ vvo 31 ≤ 192 := hrro (31, 0, 192) (by decide)
  refine gz_s 1 (pc' := 1) (L' := [some (.ref x), some (.int (zi a)), some (.int (zi b)), none]) (S' := [.int (zi a)]) rfl ?_
  have jn2 : ∀ (jn2v0 : Int), ((3 ≤ jn2v0) ∧ (jn2v0 ≤ 6) ∧ (a < 0 → jn2v0 = 6) ∧ (0 ≤ a → jn2v0 = 3)) → gz gPP gGG gcn (d + 2) gt81 10 [some (.ref x), some (.int (zi a)), some (.int (zi b)), none] [.int (zi jn2v0)] h (fun q _ => ∃ ty9 : Nat → Nat, gSg [] [] [] ty h ty9 q.2.2 ∧ ∃ ld1 lb1 iv1 : Int, 0 ≤ ld1 ∧ ld1 ≤ 192 ∧ 1024 ≤ lb1 ∧ lb1 ≤ 1000000 ∧ 0 ≤ iv1 ∧ iv1 ≤ 26476544 ∧ (gIx ty9 x ld1 lb1 iv1 S q.2.2) ∧ ((∃ z : Int, gfin gt81 q.1 q.2.1 = some (some (.int (zi z))) ∧ (-2147483648) ≤ z ∧ z ≤ 2147483647 ∧ (iv1 = iv) ∧ (1024 * (((q.2.2.1 : Int) - h.1) - 31 - 2 * (ld1 - ld)) ≤ lb1 - lb) ∧ (((q.2.2.2.1 : Int) - h.2.1) ≤ 4303 + 12480 * (ld1 - ld) + 2 * (lb1 - lb)) ∧ (ld ≤ ld1) ∧ (lb ≤ lb1)) ∨ (q.2.1 = [] ∧ ((q.1 = 36)) ∧ (iv1 = iv) ∧ (1024 * (((q.2.2.1 : Int) - h.1) - 31 - 2 * (ld1 - ld)) ≤ lb1 - lb) ∧ (((q.2.2.2.1 : Int) - h.2.1) ≤ 4303 + 12480 * (ld1 - ld) + 2 * (lb1 - lb)) ∧ (ld ≤ ld1) ∧ (lb ≤ lb1)))) := by
    intro jn2v0 jn2d
    refine gz_s 3 (pc' := 13) (L' := [some (.ref x), some (.int (zi a)), some (.int (zi b)), some (.int (zi jn2v0))]) (S' := [.int (zi (-1)), .int (zi a)]) rfl ?_
    by_cases hc3 : (a : Int) < (-1)
    · refine gy_icT (pc' := 36) rfl (by decide) (by decide) (by omega) (by omega) hc3 ?_
      have hl4 : 1024 ≤ h.2.2.2.1 bt ∧ h.2.2.2.1 bt ≤ 1000000 := gJ.rowl (G := gGG) hS.1 tbt rfl
      have hl5 : 0 ≤ h.2.2.2.1 coo ∧ h.2.2.2.1 coo ≤ 12288 := gJ.rowl (G := gGG) hS.1 tcoo rfl
      have hl6 : 0 ≤ h.2.2.2.1 dmo ∧ h.2.2.2.1 dmo ≤ 192 := gJ.rowl (G := gGG) hS.1 tdmo rfl
      have hix7 : gIx ty x ld (h.2.2.2.1 bt : Int) (64 * dw + n0 + 4096 * dh + 262144 * i0) S h := ⟨pic, b0, b1, b2, dr, sk, bt, n0, c0, i0, dw, dh, ⟨tx, tdr, tsk, tbt⟩, ⟨ex2, ex3, ex4, ex0⟩, hpc, htc, ⟨en0, by omega, by omega⟩, ⟨eiv, by omega, by omega⟩, ⟨ec0, by omega, by omega⟩, ⟨by omega, by omega⟩, hrr, hrw, ⟨edw, by omega, by omega⟩, ⟨edh, by omega, by omega⟩, by omega, rfl, hxr, ⟨hsw, hc0⟩, htz⟩
      have G8 : gSg [] [] [] ty h ty h := gSg.ss G0 hS (by decide)
      exact gz_end (I := .new 84) (len := 3) rfl (Or.inr (by decide)) ⟨ty, G8, ld, (h.2.2.2.1 bt : Int), (64 * dw + n0 + 4096 * dh + 262144 * i0), (by omega), (by omega), (by omega), (by omega), (by omega), (by omega), hix7, Or.inr ⟨rfl, rfl, (by omega), (by dsimp only; omega), (by dsimp only; omega), (by omega), (by omega)⟩⟩
    · refine gy_icF rfl (by decide) (by decide) (by omega) (by omega) hc3 ?_
      refine gz_s 2 (pc' := 18) (L' := [some (.ref x), some (.int (zi a)), some (.int (zi b)), some (.int (zi jn2v0))]) (S' := [.ref x, .int (zi a)]) rfl ?_
      refine gs_gtk rfl (by decide) rfl hS.1 tx rfl rfl ex2 ?_
      refine gs_gtk rfl (by decide) rfl hS.1 tpic rfl rfl exblo ?_
      by_cases hc9 : (vvo 3 : Int) ≤ a
      · refine gy_icT (pc' := 36) rfl (by decide) (by decide) (by omega) (by omega) hc9 ?_
        have hl10 : 1024 ≤ h.2.2.2.1 bt ∧ h.2.2.2.1 bt ≤ 1000000 := gJ.rowl (G := gGG) hS.1 tbt rfl
        have hl11 : 0 ≤ h.2.2.2.1 coo ∧ h.2.2.2.1 coo ≤ 12288 := gJ.rowl (G := gGG) hS.1 tcoo rfl
        have hl12 : 0 ≤ h.2.2.2.1 dmo ∧ h.2.2.2.1 dmo ≤ 192 := gJ.rowl (G := gGG) hS.1 tdmo rfl
        have hix13 : gIx ty x ld (h.2.2.2.1 bt : Int) (64 * dw + n0 + 4096 * dh + 262144 * i0) S h := ⟨pic, b0, b1, b2, dr, sk, bt, n0, c0, i0, dw, dh, ⟨tx, tdr, tsk, tbt⟩, ⟨ex2, ex3, ex4, ex0⟩, hpc, htc, ⟨en0, by omega, by omega⟩, ⟨eiv, by omega, by omega⟩, ⟨ec0, by omega, by omega⟩, ⟨by omega, by omega⟩, hrr, hrw, ⟨edw, by omega, by omega⟩, ⟨edh, by omega, by omega⟩, by omega, rfl, hxr, ⟨hsw, hc0⟩, htz⟩
        have G14 : gSg [] [] [] ty h ty h := gSg.ss G0 hS (by decide)
        exact gz_end (I := .new 84) (len := 3) rfl (Or.inr (by decide)) ⟨ty, G14, ld, (h.2.2.2.1 bt : Int), (64 * dw + n0 + 4096 * dh + 262144 * i0), (by omega), (by omega), (by omega), (by omega), (by omega), (by omega), hix13, Or.inr ⟨rfl, rfl, (by omega), (by dsimp only; omega), (by dsimp only; omega), (by omega), (by omega)⟩⟩
      · refine gy_icF rfl (by decide) (by decide) (by omega) (by omega) hc9 ?_
        refine gz_s 1 (pc' := 28) (L' := [some (.ref x), some (.int (zi a)), some (.int (zi b)), some (.int (zi jn2v0))]) (S' := [.int (zi b)]) rfl ?_
        by_cases hc15 : (b : Int) < 0
        · refine gy_ifT (pc' := 36) rfl (by decide) (by decide) (by omega) hc15 ?_
          have hl16 : 1024 ≤ h.2.2.2.1 bt ∧ h.2.2.2.1 bt ≤ 1000000 := gJ.rowl (G := gGG) hS.1 tbt rfl
          have hl17 : 0 ≤ h.2.2.2.1 coo ∧ h.2.2.2.1 coo ≤ 12288 := gJ.rowl (G := gGG) hS.1 tcoo rfl
          have hl18 : 0 ≤ h.2.2.2.1 dmo ∧ h.2.2.2.1 dmo ≤ 192 := gJ.rowl (G := gGG) hS.1 tdmo rfl
          have hix19 : gIx ty x ld (h.2.2.2.1 bt : Int) (64 * dw + n0 + 4096 * dh + 262144 * i0) S h := ⟨pic, b0, b1, b2, dr, sk, bt, n0, c0, i0, dw, dh, ⟨tx, tdr, tsk, tbt⟩, ⟨ex2, ex3, ex4, ex0⟩, hpc, htc, ⟨en0, by omega, by omega⟩, ⟨eiv, by omega, by omega⟩, ⟨ec0, by omega, by omega⟩, ⟨by omega, by omega⟩, hrr, hrw, ⟨edw, by omega, by omega⟩, ⟨edh, by omega, by omega⟩, by omega, rfl, hxr, ⟨hsw, hc0⟩, htz⟩
          have G20 : gSg [] [] [] ty h ty h := gSg.ss G0 hS (by decide)
          exact gz_end (I := .new 84) (len := 3) rfl (Or.inr (by decide)) ⟨ty, G20, ld, (h.2.2.2.1 bt : Int), (64 * dw + n0 + 4096 * dh + 262144 * i0), (by omega), (by omega), (by omega), (by omega), (by omega), (by omega), hix19, Or.inr ⟨rfl, rfl, (by omega), (by dsimp only; omega), (by dsimp only; omega), (by omega), (by omega)⟩⟩
        · refine gy_ifF rfl (by decide) (by decide) (by omega) hc15 ?_
          refine gz_s 2 (pc' := 33) (L' := [some (.ref x), some (.int (zi a)), some (.int (zi b)), some (.int (zi jn2v0))]) (S' := [.int (zi jn2v0), .int (zi b)]) rfl ?_
          by_cases hc21 : (b : Int) ≤ jn2v0
          · refine gy_icT (pc' := 46) rfl (by decide) (by decide) (by omega) (by omega) hc21 ?_
            refine gz_s 1 (pc' := 47) (L' := [some (.ref x), some (.int (zi a)), some (.int (zi b)), some (.int (zi jn2v0))]) (S' := [.int (zi a)]) rfl ?_
            by_cases hc22 : (0 : Int) ≤ a
            · refine gy_ifT (pc' := 75) rfl (by decide) (by decide) (by omega) hc22 ?_
              refine gz_s 1 (pc' := 76) (L' := [some (.ref x), some (.int (zi a)), some (.int (zi b)), some (.int (zi jn2v0))]) (S' := [.ref x]) rfl ?_
              refine gs_gtk rfl (by decide) rfl hS.1 tx rfl rfl ex2 ?_
              refine gz_s 2 (pc' := 81) (L' := [some (.ref x), some (.int (zi a)), some (.int (zi b)), some (.int (zi jn2v0))]) (S' := [.int (zi b), .int (zi a), .ref pic]) rfl ?_
              have hl23 : h.2.2.2.1 dmo = h.2.2.2.1 dmo := congrFun hS.2.2.2.2.1 dmo
              refine gz_call rfl (by decide) rfl (by decide) (by decide) (gcal_of rfl rfl rfl (Nat.le_of_ble_eq_true rfl) (gJ.recv (G := gGG) hS.1 tpic rfl rfl)) (cl_Picture_toldOfBlock _ hS.1 pic tpic a ⟨by omega, by omega⟩ b ⟨by omega, by omega⟩ bno er0o tbno b0 er1o tb0 b1 er2o tb1 b2 er3o tb2 dmo er5o tdmo (vvo 0) excno ⟨by omega, by omega⟩ (vvo 3) exblo ⟨by omega, by omega⟩ (by omega) (by omega) uq) (fun q24 _ wq24 => ?_)
              obtain ⟨pq24, oq24, hq24⟩ := q24
              obtain ⟨xq24, zq24, gq24, aq24, bq24⟩ := wq24
              refine ⟨_, gq24, ?_⟩
              show gz gPP gGG gcn _ _ 84 [some (.ref x), some (.int (zi a)), some (.int (zi b)), some (.int (zi jn2v0))] [.int (zi zq24)] hq24 _
              have sq24 : gSs rT 1027 ty [] h hq24 := gSs.tr hS xq24 (by decide)
              have s25 := (xq24.2.2.2.2.2 x 2 (by rw [tx]; decide)).trans ex2
              have s26 := (xq24.2.2.2.2.2 x 3 (by rw [tx]; decide)).trans ex3
              have s27 := (xq24.2.2.2.2.2 x 4 (by rw [tx]; decide)).trans ex4
              have s28 := (xq24.2.2.2.2.2 sk 0 (by rw [tsk]; decide)).trans ex0
              have s29 := (xq24.2.2.2.2.2 dr 8 (by rw [tdr]; decide)).trans en0
              have s30 := (xq24.2.2.2.2.2 dr 3 (by rw [tdr]; decide)).trans eiv
              have s31 := (xq24.2.2.2.2.2 dr 1 (by rw [tdr]; decide)).trans edw
              have s32 := (xq24.2.2.2.2.2 dr 2 (by rw [tdr]; decide)).trans edh
              have s33 := (xq24.2.2.2.2.2 sk 1 (by rw [tsk]; decide)).trans ec0
              have s34 := (xq24.2.2.2.2.2 pic 0 (by rw [tpic]; decide)).trans er0o
              have s35 := (xq24.2.2.2.2.2 bno 0 (by rw [tbno]; decide)).trans er1o
              have s36 := (xq24.2.2.2.2.2 bno 1 (by rw [tbno]; decide)).trans er2o
              have s37 := (xq24.2.2.2.2.2 bno 2 (by rw [tbno]; decide)).trans er3o
              have s38 := (xq24.2.2.2.2.2 pic 2 (by rw [tpic]; decide)).trans er4o
              have s39 := (xq24.2.2.2.2.2 pic 3 (by rw [tpic]; decide)).trans er5o
              have s40 := (xq24.2.2.2.2.2 pic 7 (by rw [tpic]; decide)).trans excno
              have s41 := (xq24.2.2.2.2.2 pic 12 (by rw [tpic]; decide)).trans exuco
              have s42 := (xq24.2.2.2.2.2 pic 13 (by rw [tpic]; decide)).trans exuro
              have s43 := (xq24.2.2.2.2.2 pic 8 (by rw [tpic]; decide)).trans exblo
              have s44 := (xq24.2.2.2.2.2 pic 5 (by rw [tpic]; decide)).trans exwo
              have s45 := (xq24.2.2.2.2.2 pic 6 (by rw [tpic]; decide)).trans exhho
              have s46 := (xq24.2.2.2.2.2 pic 10 (by rw [tpic]; decide)).trans exgho
              have s47 := (xq24.2.2.2.2.2 pic 11 (by rw [tpic]; decide)).trans exgvo
              have s48 := (xq24.2.2.2.2.2 b0 1 (by rw [tb0]; decide)).trans exhb0o
              have s49 := (xq24.2.2.2.2.2 b0 2 (by rw [tb0]; decide)).trans exvb0o
              have s50 := (xq24.2.2.2.2.2 b0 3 (by rw [tb0]; decide)).trans extq0o
              have s51 := (xq24.2.2.2.2.2 b0 4 (by rw [tb0]; decide)).trans exC0o
              have s52 := (xq24.2.2.2.2.2 b0 5 (by rw [tb0]; decide)).trans exR0o
              have s53 := (xq24.2.2.2.2.2 b0 6 (by rw [tb0]; decide)).trans exoc0o
              have s54 := (xq24.2.2.2.2.2 b0 7 (by rw [tb0]; decide)).trans exor0o
              have s55 := (xq24.2.2.2.2.2 b0 8 (by rw [tb0]; decide)).trans exf0o
              have s56 := (xq24.2.2.2.2.2 b1 1 (by rw [tb1]; decide)).trans exhb1o
              have s57 := (xq24.2.2.2.2.2 b1 2 (by rw [tb1]; decide)).trans exvb1o
              have s58 := (xq24.2.2.2.2.2 b1 3 (by rw [tb1]; decide)).trans extq1o
              have s59 := (xq24.2.2.2.2.2 b1 4 (by rw [tb1]; decide)).trans exC1o
              have s60 := (xq24.2.2.2.2.2 b1 5 (by rw [tb1]; decide)).trans exR1o
              have s61 := (xq24.2.2.2.2.2 b1 6 (by rw [tb1]; decide)).trans exoc1o
              have s62 := (xq24.2.2.2.2.2 b1 7 (by rw [tb1]; decide)).trans exor1o
              have s63 := (xq24.2.2.2.2.2 b1 8 (by rw [tb1]; decide)).trans exf1o
              have s64 := (xq24.2.2.2.2.2 b2 1 (by rw [tb2]; decide)).trans exhb2o
              have s65 := (xq24.2.2.2.2.2 b2 2 (by rw [tb2]; decide)).trans exvb2o
              have s66 := (xq24.2.2.2.2.2 b2 3 (by rw [tb2]; decide)).trans extq2o
              have s67 := (xq24.2.2.2.2.2 b2 4 (by rw [tb2]; decide)).trans exC2o
              have s68 := (xq24.2.2.2.2.2 b2 5 (by rw [tb2]; decide)).trans exR2o
              have s69 := (xq24.2.2.2.2.2 b2 6 (by rw [tb2]; decide)).trans exoc2o
              have s70 := (xq24.2.2.2.2.2 b2 7 (by rw [tb2]; decide)).trans exor2o
              have s71 := (xq24.2.2.2.2.2 b2 8 (by rw [tb2]; decide)).trans exf2o
              have pr72 := gXr.fr xq24.2 (by decide) hxr
              have pr73 := gSW.fr xq24.2 (by decide) hsw
              have pr74 := gPC.fr xq24.2 (by decide) hpc
              have pr75 := gTc.fr xq24.2 (by decide) htc
              have pr76 := gRr.fr xq24.2 (by decide) hrr
              have pr77 := gRw.fr xq24.2 (by decide) hrw
              have k78 := sq24.2.1
              have k78b := sq24.2.2.1
              have hl79 : hq24.2.2.2.1 bt = h.2.2.2.1 bt := congrFun sq24.2.2.2.2.1 bt
              have hl80 : hq24.2.2.2.1 coo = h.2.2.2.1 coo := congrFun sq24.2.2.2.2.1 coo
              have hl81 : hq24.2.2.2.1 dmo = h.2.2.2.1 dmo := congrFun sq24.2.2.2.2.1 dmo
              have hl82 : 1024 ≤ hq24.2.2.2.1 bt ∧ hq24.2.2.2.1 bt ≤ 1000000 := gJ.rowl (G := gGG) sq24.1 tbt rfl
              have hl83 : 0 ≤ hq24.2.2.2.1 coo ∧ hq24.2.2.2.1 coo ≤ 12288 := gJ.rowl (G := gGG) sq24.1 tcoo rfl
              have hl84 : 0 ≤ hq24.2.2.2.1 dmo ∧ hq24.2.2.2.1 dmo ≤ 192 := gJ.rowl (G := gGG) sq24.1 tdmo rfl
              have k85 := sq24.2.1
              have k85b := sq24.2.2.1
              have hl86 : hq24.2.2.2.1 bt = h.2.2.2.1 bt := congrFun sq24.2.2.2.2.1 bt
              have hl87 : hq24.2.2.2.1 coo = h.2.2.2.1 coo := congrFun sq24.2.2.2.2.1 coo
              have hl88 : hq24.2.2.2.1 dmo = h.2.2.2.1 dmo := congrFun sq24.2.2.2.2.1 dmo
              have hix89 : gIx ty x ld (hq24.2.2.2.1 bt : Int) (64 * dw + n0 + 4096 * dh + 262144 * i0) S hq24 := ⟨pic, b0, b1, b2, dr, sk, bt, n0, c0, i0, dw, dh, ⟨tx, tdr, tsk, tbt⟩, ⟨s25, s26, s27, s28⟩, pr74, pr75, ⟨s29, by omega, by omega⟩, ⟨s30, by omega, by omega⟩, ⟨s33, by omega, by omega⟩, ⟨by omega, by omega⟩, pr76, pr77, ⟨s31, by omega, by omega⟩, ⟨s32, by omega, by omega⟩, by omega, rfl, pr72, ⟨pr73, hc0⟩, htz⟩
              have G90 : gSg [] [] [] ty h ty hq24 := gSg.ss G0 sq24 (by decide)
              exact gz_end (I := .ireturn) (len := 1) rfl (Or.inl rfl) ⟨ty, G90, ld, (hq24.2.2.2.1 bt : Int), (64 * dw + n0 + 4096 * dh + 262144 * i0), (by omega), (by omega), (by omega), (by omega), (by omega), (by omega), hix89, Or.inl ⟨zq24, rfl, (by omega), (by omega), (by omega), (by dsimp only; omega), (by dsimp only; omega), (by omega), (by omega)⟩⟩
            · refine gy_ifF rfl (by decide) (by decide) (by omega) hc22 ?_
              refine gz_s 2 (pc' := 53) (L' := [some (.ref x), some (.int (zi a)), some (.int (zi b)), some (.int (zi jn2v0))]) (S' := [.int (zi 6), .int (zi b)]) rfl ?_
              by_cases hc91 : ¬ (b : Int) = 6
              · refine gy_icT (pc' := 66) rfl (by decide) (by decide) (by omega) (by omega) hc91 ?_
                refine gz_s 1 (pc' := 67) (L' := [some (.ref x), some (.int (zi a)), some (.int (zi b)), some (.int (zi jn2v0))]) (S' := [.ref x]) rfl ?_
                refine gs_gtk rfl (by decide) rfl hS.1 tx rfl rfl ex2 ?_
                refine gz_s 1 (pc' := 71) (L' := [some (.ref x), some (.int (zi a)), some (.int (zi b)), some (.int (zi jn2v0))]) (S' := [.int (zi b), .ref pic]) rfl ?_
                have hl92 : h.2.2.2.1 dmo = h.2.2.2.1 dmo := congrFun hS.2.2.2.2.1 dmo
                refine gz_call rfl (by decide) rfl (by decide) (by decide) (gcal_of rfl rfl rfl (Nat.le_of_ble_eq_true rfl) (gJ.recv (G := gGG) hS.1 tpic rfl rfl)) (cl_Picture_toldOfAll _ hS.1 pic tpic b ⟨by omega, by omega⟩ dmo er5o tdmo (vvo 3) exblo ⟨by omega, by omega⟩ (by omega) uq) (fun q93 _ wq93 => ?_)
                obtain ⟨pq93, oq93, hq93⟩ := q93
                obtain ⟨xq93, zq93, gq93, aq93, bq93⟩ := wq93
                refine ⟨_, gq93, ?_⟩
                show gz gPP gGG gcn _ _ 74 [some (.ref x), some (.int (zi a)), some (.int (zi b)), some (.int (zi jn2v0))] [.int (zi zq93)] hq93 _
                have sq93 : gSs rT 1027 ty [] h hq93 := gSs.tr hS xq93 (by decide)
                have s94 := (xq93.2.2.2.2.2 x 2 (by rw [tx]; decide)).trans ex2
                have s95 := (xq93.2.2.2.2.2 x 3 (by rw [tx]; decide)).trans ex3
                have s96 := (xq93.2.2.2.2.2 x 4 (by rw [tx]; decide)).trans ex4
                have s97 := (xq93.2.2.2.2.2 sk 0 (by rw [tsk]; decide)).trans ex0
                have s98 := (xq93.2.2.2.2.2 dr 8 (by rw [tdr]; decide)).trans en0
                have s99 := (xq93.2.2.2.2.2 dr 3 (by rw [tdr]; decide)).trans eiv
                have s100 := (xq93.2.2.2.2.2 dr 1 (by rw [tdr]; decide)).trans edw
                have s101 := (xq93.2.2.2.2.2 dr 2 (by rw [tdr]; decide)).trans edh
                have s102 := (xq93.2.2.2.2.2 sk 1 (by rw [tsk]; decide)).trans ec0
                have s103 := (xq93.2.2.2.2.2 pic 0 (by rw [tpic]; decide)).trans er0o
                have s104 := (xq93.2.2.2.2.2 bno 0 (by rw [tbno]; decide)).trans er1o
                have s105 := (xq93.2.2.2.2.2 bno 1 (by rw [tbno]; decide)).trans er2o
                have s106 := (xq93.2.2.2.2.2 bno 2 (by rw [tbno]; decide)).trans er3o
                have s107 := (xq93.2.2.2.2.2 pic 2 (by rw [tpic]; decide)).trans er4o
                have s108 := (xq93.2.2.2.2.2 pic 3 (by rw [tpic]; decide)).trans er5o
                have s109 := (xq93.2.2.2.2.2 pic 7 (by rw [tpic]; decide)).trans excno
                have s110 := (xq93.2.2.2.2.2 pic 12 (by rw [tpic]; decide)).trans exuco
                have s111 := (xq93.2.2.2.2.2 pic 13 (by rw [tpic]; decide)).trans exuro
                have s112 := (xq93.2.2.2.2.2 pic 8 (by rw [tpic]; decide)).trans exblo
                have s113 := (xq93.2.2.2.2.2 pic 5 (by rw [tpic]; decide)).trans exwo
                have s114 := (xq93.2.2.2.2.2 pic 6 (by rw [tpic]; decide)).trans exhho
                have s115 := (xq93.2.2.2.2.2 pic 10 (by rw [tpic]; decide)).trans exgho
                have s116 := (xq93.2.2.2.2.2 pic 11 (by rw [tpic]; decide)).trans exgvo
                have s117 := (xq93.2.2.2.2.2 b0 1 (by rw [tb0]; decide)).trans exhb0o
                have s118 := (xq93.2.2.2.2.2 b0 2 (by rw [tb0]; decide)).trans exvb0o
                have s119 := (xq93.2.2.2.2.2 b0 3 (by rw [tb0]; decide)).trans extq0o
                have s120 := (xq93.2.2.2.2.2 b0 4 (by rw [tb0]; decide)).trans exC0o
                have s121 := (xq93.2.2.2.2.2 b0 5 (by rw [tb0]; decide)).trans exR0o
                have s122 := (xq93.2.2.2.2.2 b0 6 (by rw [tb0]; decide)).trans exoc0o
                have s123 := (xq93.2.2.2.2.2 b0 7 (by rw [tb0]; decide)).trans exor0o
                have s124 := (xq93.2.2.2.2.2 b0 8 (by rw [tb0]; decide)).trans exf0o
                have s125 := (xq93.2.2.2.2.2 b1 1 (by rw [tb1]; decide)).trans exhb1o
                have s126 := (xq93.2.2.2.2.2 b1 2 (by rw [tb1]; decide)).trans exvb1o
                have s127 := (xq93.2.2.2.2.2 b1 3 (by rw [tb1]; decide)).trans extq1o
                have s128 := (xq93.2.2.2.2.2 b1 4 (by rw [tb1]; decide)).trans exC1o
                have s129 := (xq93.2.2.2.2.2 b1 5 (by rw [tb1]; decide)).trans exR1o
                have s130 := (xq93.2.2.2.2.2 b1 6 (by rw [tb1]; decide)).trans exoc1o
                have s131 := (xq93.2.2.2.2.2 b1 7 (by rw [tb1]; decide)).trans exor1o
                have s132 := (xq93.2.2.2.2.2 b1 8 (by rw [tb1]; decide)).trans exf1o
                have s133 := (xq93.2.2.2.2.2 b2 1 (by rw [tb2]; decide)).trans exhb2o
                have s134 := (xq93.2.2.2.2.2 b2 2 (by rw [tb2]; decide)).trans exvb2o
                have s135 := (xq93.2.2.2.2.2 b2 3 (by rw [tb2]; decide)).trans extq2o
                have s136 := (xq93.2.2.2.2.2 b2 4 (by rw [tb2]; decide)).trans exC2o
                have s137 := (xq93.2.2.2.2.2 b2 5 (by rw [tb2]; decide)).trans exR2o
                have s138 := (xq93.2.2.2.2.2 b2 6 (by rw [tb2]; decide)).trans exoc2o
                have s139 := (xq93.2.2.2.2.2 b2 7 (by rw [tb2]; decide)).trans exor2o
                have s140 := (xq93.2.2.2.2.2 b2 8 (by rw [tb2]; decide)).trans exf2o
                have pr141 := gXr.fr xq93.2 (by decide) hxr
                have pr142 := gSW.fr xq93.2 (by decide) hsw
                have pr143 := gPC.fr xq93.2 (by decide) hpc
                have pr144 := gTc.fr xq93.2 (by decide) htc
                have pr145 := gRr.fr xq93.2 (by decide) hrr
                have pr146 := gRw.fr xq93.2 (by decide) hrw
                have k147 := sq93.2.1
                have k147b := sq93.2.2.1
                have hl148 : hq93.2.2.2.1 bt = h.2.2.2.1 bt := congrFun sq93.2.2.2.2.1 bt
                have hl149 : hq93.2.2.2.1 coo = h.2.2.2.1 coo := congrFun sq93.2.2.2.2.1 coo
                have hl150 : hq93.2.2.2.1 dmo = h.2.2.2.1 dmo := congrFun sq93.2.2.2.2.1 dmo
                have hl151 : 1024 ≤ hq93.2.2.2.1 bt ∧ hq93.2.2.2.1 bt ≤ 1000000 := gJ.rowl (G := gGG) sq93.1 tbt rfl
                have hl152 : 0 ≤ hq93.2.2.2.1 coo ∧ hq93.2.2.2.1 coo ≤ 12288 := gJ.rowl (G := gGG) sq93.1 tcoo rfl
                have hl153 : 0 ≤ hq93.2.2.2.1 dmo ∧ hq93.2.2.2.1 dmo ≤ 192 := gJ.rowl (G := gGG) sq93.1 tdmo rfl
                have k154 := sq93.2.1
                have k154b := sq93.2.2.1
                have hl155 : hq93.2.2.2.1 bt = h.2.2.2.1 bt := congrFun sq93.2.2.2.2.1 bt
                have hl156 : hq93.2.2.2.1 coo = h.2.2.2.1 coo := congrFun sq93.2.2.2.2.1 coo
                have hl157 : hq93.2.2.2.1 dmo = h.2.2.2.1 dmo := congrFun sq93.2.2.2.2.1 dmo
                have hix158 : gIx ty x ld (hq93.2.2.2.1 bt : Int) (64 * dw + n0 + 4096 * dh + 262144 * i0) S hq93 := ⟨pic, b0, b1, b2, dr, sk, bt, n0, c0, i0, dw, dh, ⟨tx, tdr, tsk, tbt⟩, ⟨s94, s95, s96, s97⟩, pr143, pr144, ⟨s98, by omega, by omega⟩, ⟨s99, by omega, by omega⟩, ⟨s102, by omega, by omega⟩, ⟨by omega, by omega⟩, pr145, pr146, ⟨s100, by omega, by omega⟩, ⟨s101, by omega, by omega⟩, by omega, rfl, pr141, ⟨pr142, hc0⟩, htz⟩
                have G159 : gSg [] [] [] ty h ty hq93 := gSg.ss G0 sq93 (by decide)
                exact gz_end (I := .ireturn) (len := 1) rfl (Or.inl rfl) ⟨ty, G159, ld, (hq93.2.2.2.1 bt : Int), (64 * dw + n0 + 4096 * dh + 262144 * i0), (by omega), (by omega), (by omega), (by omega), (by omega), (by omega), hix158, Or.inl ⟨zq93, rfl, (by omega), (by omega), (by omega), (by dsimp only; omega), (by dsimp only; omega), (by omega), (by omega)⟩⟩
              · refine gy_icF rfl (by decide) (by decide) (by omega) (by omega) hc91 ?_
                refine gz_s 1 (pc' := 57) (L' := [some (.ref x), some (.int (zi a)), some (.int (zi b)), some (.int (zi jn2v0))]) (S' := [.ref x]) rfl ?_
                refine gs_gtk rfl (by decide) rfl hS.1 tx rfl rfl ex4 ?_
                refine gs_gtk rfl (by decide) rfl hS.1 tsk rfl rfl ec0 ?_
                refine gz_s 1 (pc' := 74) (L' := [some (.ref x), some (.int (zi a)), some (.int (zi b)), some (.int (zi jn2v0))]) (S' := [.int (zi c0)]) rfl ?_
                have hl160 : 1024 ≤ h.2.2.2.1 bt ∧ h.2.2.2.1 bt ≤ 1000000 := gJ.rowl (G := gGG) hS.1 tbt rfl
                have hl161 : 0 ≤ h.2.2.2.1 coo ∧ h.2.2.2.1 coo ≤ 12288 := gJ.rowl (G := gGG) hS.1 tcoo rfl
                have hl162 : 0 ≤ h.2.2.2.1 dmo ∧ h.2.2.2.1 dmo ≤ 192 := gJ.rowl (G := gGG) hS.1 tdmo rfl
                have hix163 : gIx ty x ld (h.2.2.2.1 bt : Int) (64 * dw + n0 + 4096 * dh + 262144 * i0) S h := ⟨pic, b0, b1, b2, dr, sk, bt, n0, c0, i0, dw, dh, ⟨tx, tdr, tsk, tbt⟩, ⟨ex2, ex3, ex4, ex0⟩, hpc, htc, ⟨en0, by omega, by omega⟩, ⟨eiv, by omega, by omega⟩, ⟨ec0, by omega, by omega⟩, ⟨by omega, by omega⟩, hrr, hrw, ⟨edw, by omega, by omega⟩, ⟨edh, by omega, by omega⟩, by omega, rfl, hxr, ⟨hsw, hc0⟩, htz⟩
                have G164 : gSg [] [] [] ty h ty h := gSg.ss G0 hS (by decide)
                exact gz_end (I := .ireturn) (len := 1) rfl (Or.inl rfl) ⟨ty, G164, ld, (h.2.2.2.1 bt : Int), (64 * dw + n0 + 4096 * dh + 262144 * i0), (by omega), (by omega), (by omega), (by omega), (by omega), (by omega), hix163, Or.inl ⟨c0, rfl, (by omega), (by omega), (by omega), (by dsimp only; omega), (by dsimp only; omega), (by omega), (by omega)⟩⟩
          · refine gy_icF rfl (by decide) (by decide) (by omega) (by omega) hc21 ?_
            have hl165 : 1024 ≤ h.2.2.2.1 bt ∧ h.2.2.2.1 bt ≤ 1000000 := gJ.rowl (G := gGG) hS.1 tbt rfl
            have hl166 : 0 ≤ h.2.2.2.1 coo ∧ h.2.2.2.1 coo ≤ 12288 := gJ.rowl (G := gGG) hS.1 tcoo rfl
            have hl167 : 0 ≤ h.2.2.2.1 dmo ∧ h.2.2.2.1 dmo ≤ 192 := gJ.rowl (G := gGG) hS.1 tdmo rfl
            have hix168 : gIx ty x ld (h.2.2.2.1 bt : Int) (64 * dw + n0 + 4096 * dh + 262144 * i0) S h := ⟨pic, b0, b1, b2, dr, sk, bt, n0, c0, i0, dw, dh, ⟨tx, tdr, tsk, tbt⟩, ⟨ex2, ex3, ex4, ex0⟩, hpc, htc, ⟨en0, by omega, by omega⟩, ⟨eiv, by omega, by omega⟩, ⟨ec0, by omega, by omega⟩, ⟨by omega, by omega⟩, hrr, hrw, ⟨edw, by omega, by omega⟩, ⟨edh, by omega, by omega⟩, by omega, rfl, hxr, ⟨hsw, hc0⟩, htz⟩
            have G169 : gSg [] [] [] ty h ty h := gSg.ss G0 hS (by decide)
            exact gz_end (I := .new 84) (len := 3) rfl (Or.inr (by decide)) ⟨ty, G169, ld, (h.2.2.2.1 bt : Int), (64 * dw + n0 + 4096 * dh + 262144 * i0), (by omega), (by omega), (by omega), (by omega), (by omega), (by omega), hix168, Or.inr ⟨rfl, rfl, (by omega), (by dsimp only; omega), (by dsimp only; omega), (by omega), (by omega)⟩⟩
  by_cases hc170 : (0 : Int) ≤ a
  · refine gy_ifT (pc' := 9) rfl (by decide) (by decide) (by omega) hc170 ?_
    refine gz_s 1 (pc' := 10) (L' := [some (.ref x), some (.int (zi a)), some (.int (zi b)), none]) (S' := [.int (zi 3)]) rfl ?_
    exact jn2 3 (by omega)
  · refine gy_ifF rfl (by decide) (by decide) (by omega) hc170 ?_
    refine gz_s 2 (pc' := 10) (L' := [some (.ref x), some (.int (zi a)), some (.int (zi b)), none]) (S' := [.int (zi 6)]) rfl ?_
    exact jn2 6 (by omega)
set_option maxRecDepth 20000 in
set_option maxHeartbeats 4000000 in
theorem cl_DctFilter_table (d : Nat) {ty : Nat → Nat} {h : gH} (hJ : gJ rT 1027 ty h) (x : Nat) (tx : ty x = 50) (a : Int) (ra : (-2147483648) ≤ a ∧ a ≤ 2147483647) (b : Int) (rb : (-2147483648) ≤ b ∧ b ≤ 2147483647) (v : Int) (rv : (-2147483648) ≤ v ∧ v ≤ 2147483647) (S : gSS) (ld : Int) (rld : 0 ≤ ld ∧ ld ≤ 192) (lb : Int) (rlb : 1024 ≤ lb ∧ lb ≤ 1000000) (iv : Int) (riv : 0 ≤ iv ∧ iv ≤ 26476544) (uq : gUq ty) (hyix : gIx ty x ld lb iv S h) : gz gPP gGG gcn (d + 0) gt85 0 (gent [.ref x, .int (zi a), .int (zi b), .int (zi v)] 5) [] h (fun q _ => ∃ ty9 : Nat → Nat, gSg [] [] [53999] ty h ty9 q.2.2 ∧ ∃ ld1 lb1 iv1 : Int, 0 ≤ ld1 ∧ ld1 ≤ 192 ∧ 1024 ≤ lb1 ∧ lb1 ≤ 1000000 ∧ 0 ≤ iv1 ∧ iv1 ≤ 26476544 ∧ (gIx ty9 x ld1 lb1 iv1 (eQ0 S a b v) q.2.2) ∧ ((∃ z : Int, gfin gt85 q.1 q.2.1 = some (some (.int (zi z))) ∧ 0 ≤ z ∧ z ≤ 255 ∧ (z = S.1.1 (a * 64 + b).toNat) ∧ (0 ≤ a) ∧ (a ≤ 3) ∧ (0 ≤ b) ∧ (b ≤ 63) ∧ (v = -1 ∨ (1 ≤ v ∧ v ≤ 255)) ∧ (iv1 = iv) ∧ (1024 * (((q.2.2.1 : Int) - h.1) - 31 - 2 * (ld1 - ld)) ≤ lb1 - lb) ∧ (((q.2.2.2.1 : Int) - h.2.1) ≤ 4303 + 12480 * (ld1 - ld) + 2 * (lb1 - lb)) ∧ (ld ≤ ld1) ∧ (lb ≤ lb1)) ∨ (q.2.1 = [] ∧ ((q.1 = 19 ∧ (¬ (0 ≤ a ∧ a ≤ 3 ∧ 0 ≤ b ∧ b ≤ 63))) ∨ (q.1 = 46 ∧ (0 ≤ a) ∧ (a ≤ 3) ∧ (0 ≤ b) ∧ (b ≤ 63) ∧ (¬ (v = -1 ∨ (1 ≤ v ∧ v ≤ 255))))) ∧ (iv1 = iv) ∧ (1024 * (((q.2.2.1 : Int) - h.1) - 31 - 2 * (ld1 - ld)) ≤ lb1 - lb) ∧ (((q.2.2.2.1 : Int) - h.2.1) ≤ 4303 + 12480 * (ld1 - ld) + 2 * (lb1 - lb)) ∧ (ld ≤ ld1) ∧ (lb ≤ lb1)))) := by
  have hS : gSs rT 1027 ty [53999] h h := gSs.rf hJ
  have G0 : gSg [] [] [53999] ty h ty h := gSg.rf hJ (fun x hx => by cases hx)
  obtain ⟨pic, b0, b1, b2, dr, sk, bt, n0, c0, i0, dw, dh, ⟨_, tdr, tsk, tbt⟩, ⟨ex2, ex3, ex4, ex0⟩, hpc, htc, ⟨en0, rn0⟩, ⟨eiv, ri0⟩, ⟨ec0, rc0⟩, ⟨lc0, llb⟩, hrr, hrw, ⟨edw, rdw⟩, ⟨edh, rdh⟩, hwh, hcd, hxr, ⟨hsw, hc0⟩, htz⟩ := hyix
  have tpic := hpc.1.1
  have tb0 := hpc.1.2.1
  have tb1 := hpc.1.2.2.1
  have tb2 := hpc.1.2.2.2
  obtain ⟨xr1, xr2, xr3, xr4, xr5, xr6, xr7⟩ := hxr
  refine gz_s 1 (pc' := 1) (L' := [some (.ref x), some (.int (zi a)), some (.int (zi b)), some (.int (zi v)), none]) (S' := [.int (zi a)]) rfl ?_
  by_cases hc8 : (a : Int) < 0
  · refine gy_ifT (pc' := 19) rfl (by decide) (by decide) (by omega) hc8 ?_
    have hl9 : 1024 ≤ h.2.2.2.1 bt ∧ h.2.2.2.1 bt ≤ 1000000 := gJ.rowl (G := gGG) hS.1 tbt rfl
    have hrw10 : gRn 256 ty 53 (gVt S.1.1 a b v) h := gVt.n (by omega) xr1
    have hxr11 : gXr ty (eQ0 S a b v) h := ⟨hrw10, xr2, xr3, xr4, xr5, xr6, xr7⟩
    have hix12 : gIx ty x ld (h.2.2.2.1 bt : Int) (64 * dw + n0 + 4096 * dh + 262144 * i0) (eQ0 S a b v) h := ⟨pic, b0, b1, b2, dr, sk, bt, n0, c0, i0, dw, dh, ⟨tx, tdr, tsk, tbt⟩, ⟨ex2, ex3, ex4, ex0⟩, hpc, htc, ⟨en0, by omega, by omega⟩, ⟨eiv, by omega, by omega⟩, ⟨ec0, by omega, by omega⟩, ⟨by omega, by omega⟩, hrr, hrw, ⟨edw, by omega, by omega⟩, ⟨edh, by omega, by omega⟩, by omega, rfl, hxr11, ⟨hsw, hc0⟩, htz⟩
    have G13 : gSg [] [] [53999] ty h ty h := gSg.ss G0 hS (by decide)
    exact gz_end (I := .new 84) (len := 3) rfl (Or.inr (by decide)) ⟨ty, G13, ld, (h.2.2.2.1 bt : Int), (64 * dw + n0 + 4096 * dh + 262144 * i0), (by omega), (by omega), (by omega), (by omega), (by omega), (by omega), hix12, Or.inr ⟨rfl, Or.inl ⟨rfl, (by omega)⟩, (by omega), (by dsimp only; omega), (by dsimp only; omega), (by omega), (by omega)⟩⟩
  · refine gy_ifF rfl (by decide) (by decide) (by omega) hc8 ?_
    refine gz_s 2 (pc' := 6) (L' := [some (.ref x), some (.int (zi a)), some (.int (zi b)), some (.int (zi v)), none]) (S' := [.int (zi 4), .int (zi a)]) rfl ?_
    by_cases hc14 : (4 : Int) ≤ a
    · refine gy_icT (pc' := 19) rfl (by decide) (by decide) (by omega) (by omega) hc14 ?_
      have hl15 : 1024 ≤ h.2.2.2.1 bt ∧ h.2.2.2.1 bt ≤ 1000000 := gJ.rowl (G := gGG) hS.1 tbt rfl
      have hrw16 : gRn 256 ty 53 (gVt S.1.1 a b v) h := gVt.n (by omega) xr1
      have hxr17 : gXr ty (eQ0 S a b v) h := ⟨hrw16, xr2, xr3, xr4, xr5, xr6, xr7⟩
      have hix18 : gIx ty x ld (h.2.2.2.1 bt : Int) (64 * dw + n0 + 4096 * dh + 262144 * i0) (eQ0 S a b v) h := ⟨pic, b0, b1, b2, dr, sk, bt, n0, c0, i0, dw, dh, ⟨tx, tdr, tsk, tbt⟩, ⟨ex2, ex3, ex4, ex0⟩, hpc, htc, ⟨en0, by omega, by omega⟩, ⟨eiv, by omega, by omega⟩, ⟨ec0, by omega, by omega⟩, ⟨by omega, by omega⟩, hrr, hrw, ⟨edw, by omega, by omega⟩, ⟨edh, by omega, by omega⟩, by omega, rfl, hxr17, ⟨hsw, hc0⟩, htz⟩
      have G19 : gSg [] [] [53999] ty h ty h := gSg.ss G0 hS (by decide)
      exact gz_end (I := .new 84) (len := 3) rfl (Or.inr (by decide)) ⟨ty, G19, ld, (h.2.2.2.1 bt : Int), (64 * dw + n0 + 4096 * dh + 262144 * i0), (by omega), (by omega), (by omega), (by omega), (by omega), (by omega), hix18, Or.inr ⟨rfl, Or.inl ⟨rfl, (by omega)⟩, (by omega), (by dsimp only; omega), (by dsimp only; omega), (by omega), (by omega)⟩⟩
    · refine gy_icF rfl (by decide) (by decide) (by omega) (by omega) hc14 ?_
      refine gz_s 1 (pc' := 10) (L' := [some (.ref x), some (.int (zi a)), some (.int (zi b)), some (.int (zi v)), none]) (S' := [.int (zi b)]) rfl ?_
      by_cases hc20 : (b : Int) < 0
      · refine gy_ifT (pc' := 19) rfl (by decide) (by decide) (by omega) hc20 ?_
        have hl21 : 1024 ≤ h.2.2.2.1 bt ∧ h.2.2.2.1 bt ≤ 1000000 := gJ.rowl (G := gGG) hS.1 tbt rfl
        have hrw22 : gRn 256 ty 53 (gVt S.1.1 a b v) h := gVt.n (by omega) xr1
        have hxr23 : gXr ty (eQ0 S a b v) h := ⟨hrw22, xr2, xr3, xr4, xr5, xr6, xr7⟩
        have hix24 : gIx ty x ld (h.2.2.2.1 bt : Int) (64 * dw + n0 + 4096 * dh + 262144 * i0) (eQ0 S a b v) h := ⟨pic, b0, b1, b2, dr, sk, bt, n0, c0, i0, dw, dh, ⟨tx, tdr, tsk, tbt⟩, ⟨ex2, ex3, ex4, ex0⟩, hpc, htc, ⟨en0, by omega, by omega⟩, ⟨eiv, by omega, by omega⟩, ⟨ec0, by omega, by omega⟩, ⟨by omega, by omega⟩, hrr, hrw, ⟨edw, by omega, by omega⟩, ⟨edh, by omega, by omega⟩, by omega, rfl, hxr23, ⟨hsw, hc0⟩, htz⟩
        have G25 : gSg [] [] [53999] ty h ty h := gSg.ss G0 hS (by decide)
        exact gz_end (I := .new 84) (len := 3) rfl (Or.inr (by decide)) ⟨ty, G25, ld, (h.2.2.2.1 bt : Int), (64 * dw + n0 + 4096 * dh + 262144 * i0), (by omega), (by omega), (by omega), (by omega), (by omega), (by omega), hix24, Or.inr ⟨rfl, Or.inl ⟨rfl, (by omega)⟩, (by omega), (by dsimp only; omega), (by dsimp only; omega), (by omega), (by omega)⟩⟩
      · refine gy_ifF rfl (by decide) (by decide) (by omega) hc20 ?_
        refine gz_s 2 (pc' := 16) (L' := [some (.ref x), some (.int (zi a)), some (.int (zi b)), some (.int (zi v)), none]) (S' := [.int (zi 63), .int (zi b)]) rfl ?_
        by_cases hc26 : (b : Int) ≤ 63
        · refine gy_icT (pc' := 29) rfl (by decide) (by decide) (by omega) (by omega) hc26 ?_
          refine gz_s 2 (pc' := 31) (L' := [some (.ref x), some (.int (zi a)), some (.int (zi b)), some (.int (zi v)), none]) (S' := [.int (zi (-1)), .int (zi v)]) rfl ?_
          by_cases hc27 : (v : Int) = (-1)
          · refine gy_icT (pc' := 56) rfl (by decide) (by decide) (by omega) (by omega) hc27 ?_
            refine gz_s 1 (pc' := 57) (L' := [some (.ref x), some (.int (zi a)), some (.int (zi b)), some (.int (zi v)), none]) (S' := [.ref x]) rfl ?_
            refine gs_gtr rfl (by decide) rfl hS.1 tx rfl rfl rfl (fun c28 ec28 tc28 => ?_)
            refine gy_s 5 (pc' := 66) (L' := [some (.ref x), some (.int (zi a)), some (.int (zi b)), some (.int (zi v)), none]) (S' := [.int (((zi a) * (zi 64)) + (zi b)), .ref c28]) (L2 := [some (.ref x), some (.int (zi a)), some (.int (zi b)), some (.int (zi v)), none]) (S2 := [.int (zi ((a * 64) + b)), .ref c28]) rfl (by simp only [zi_add, zi_sub, zi_mul, zi_neg, zi_and1, zi_and7, zi_and15, zi_and31, zi_and255]) (by simp only [zi_add, zi_sub, zi_mul, zi_neg, zi_and1, zi_and7, zi_and15, zi_and31, zi_and255]) ?_
            have hl29 : 256 ≤ h.2.2.2.1 c28 ∧ h.2.2.2.1 c28 ≤ 256 := gJ.rowl (G := gGG) hS.1 tc28 rfl
            refine gs_ald rfl (by decide) hS.1 tc28 rfl rfl rfl (by decide) (fun _ => rfl) (by omega) (by omega) (fun z30 ez30 az30 bz30 => ?_)
            have hf31 := gRn.at (i := (a * 64) + b) (z := z30) xr1 tc28 ez30 (by omega) (by omega) (by omega)
            have hfx : z30 = S.1.1 (a * 64 + b).toNat := ((congrArg S.1.1 (by omega)).trans hf31).symm
            refine gz_s 3 (pc' := 71) (L' := [some (.ref x), some (.int (zi a)), some (.int (zi b)), some (.int (zi v)), some (.int (zi z30))]) (S' := [.int (zi (-1)), .int (zi v)]) rfl ?_
            refine gy_icT (pc' := 86) rfl (by decide) (by decide) ⟨by omega, by omega⟩ ⟨by omega, by omega⟩ (by first | (simp [zc]; done) | (simp only [zc]; omega)) ?_
            refine gz_s 1 (pc' := 88) (L' := [some (.ref x), some (.int (zi a)), some (.int (zi b)), some (.int (zi v)), some (.int (zi z30))]) (S' := [.int (zi z30)]) rfl ?_
            have hl32 : 1024 ≤ h.2.2.2.1 bt ∧ h.2.2.2.1 bt ≤ 1000000 := gJ.rowl (G := gGG) hS.1 tbt rfl
            have hrw33 : gRn 256 ty 53 (gVt S.1.1 a b v) h := gVt.n (by omega) xr1
            have hxr34 : gXr ty (eQ0 S a b v) h := ⟨hrw33, xr2, xr3, xr4, xr5, xr6, xr7⟩
            have hix35 : gIx ty x ld (h.2.2.2.1 bt : Int) (64 * dw + n0 + 4096 * dh + 262144 * i0) (eQ0 S a b v) h := ⟨pic, b0, b1, b2, dr, sk, bt, n0, c0, i0, dw, dh, ⟨tx, tdr, tsk, tbt⟩, ⟨ex2, ex3, ex4, ex0⟩, hpc, htc, ⟨en0, by omega, by omega⟩, ⟨eiv, by omega, by omega⟩, ⟨ec0, by omega, by omega⟩, ⟨by omega, by omega⟩, hrr, hrw, ⟨edw, by omega, by omega⟩, ⟨edh, by omega, by omega⟩, by omega, rfl, hxr34, ⟨hsw, hc0⟩, htz⟩
            have G36 : gSg [] [] [53999] ty h ty h := gSg.ss G0 hS (by decide)
            exact gz_end (I := .ireturn) (len := 1) rfl (Or.inl rfl) ⟨ty, G36, ld, (h.2.2.2.1 bt : Int), (64 * dw + n0 + 4096 * dh + 262144 * i0), (by omega), (by omega), (by omega), (by omega), (by omega), (by omega), hix35, Or.inl ⟨z30, rfl, (by omega), (by omega), (by omega), (by omega), (by omega), (by omega), (by omega), (by omega), (by omega), (by dsimp only; omega), (by dsimp only; omega), (by omega), (by omega)⟩⟩
          · refine gy_icF rfl (by decide) (by decide) (by omega) (by omega) hc27 ?_
            refine gz_s 2 (pc' := 36) (L' := [some (.ref x), some (.int (zi a)), some (.int (zi b)), some (.int (zi v)), none]) (S' := [.int (zi 1), .int (zi v)]) rfl ?_
            by_cases hc37 : (v : Int) < 1
            · refine gy_icT (pc' := 46) rfl (by decide) (by decide) (by omega) (by omega) hc37 ?_
              have hl38 : 1024 ≤ h.2.2.2.1 bt ∧ h.2.2.2.1 bt ≤ 1000000 := gJ.rowl (G := gGG) hS.1 tbt rfl
              have hrw39 : gRn 256 ty 53 (gVt S.1.1 a b v) h := gVt.n (by omega) xr1
              have hxr40 : gXr ty (eQ0 S a b v) h := ⟨hrw39, xr2, xr3, xr4, xr5, xr6, xr7⟩
              have hix41 : gIx ty x ld (h.2.2.2.1 bt : Int) (64 * dw + n0 + 4096 * dh + 262144 * i0) (eQ0 S a b v) h := ⟨pic, b0, b1, b2, dr, sk, bt, n0, c0, i0, dw, dh, ⟨tx, tdr, tsk, tbt⟩, ⟨ex2, ex3, ex4, ex0⟩, hpc, htc, ⟨en0, by omega, by omega⟩, ⟨eiv, by omega, by omega⟩, ⟨ec0, by omega, by omega⟩, ⟨by omega, by omega⟩, hrr, hrw, ⟨edw, by omega, by omega⟩, ⟨edh, by omega, by omega⟩, by omega, rfl, hxr40, ⟨hsw, hc0⟩, htz⟩
              have G42 : gSg [] [] [53999] ty h ty h := gSg.ss G0 hS (by decide)
              exact gz_end (I := .new 134) (len := 3) rfl (Or.inr (by decide)) ⟨ty, G42, ld, (h.2.2.2.1 bt : Int), (64 * dw + n0 + 4096 * dh + 262144 * i0), (by omega), (by omega), (by omega), (by omega), (by omega), (by omega), hix41, Or.inr ⟨rfl, Or.inr (⟨rfl, (by omega), (by omega), (by omega), (by omega), (by omega)⟩), (by omega), (by dsimp only; omega), (by dsimp only; omega), (by omega), (by omega)⟩⟩
            · refine gy_icF rfl (by decide) (by decide) (by omega) (by omega) hc37 ?_
              refine gz_s 2 (pc' := 43) (L' := [some (.ref x), some (.int (zi a)), some (.int (zi b)), some (.int (zi v)), none]) (S' := [.int (zi 255), .int (zi v)]) rfl ?_
              by_cases hc43 : (v : Int) ≤ 255
              · refine gy_icT (pc' := 56) rfl (by decide) (by decide) (by omega) (by omega) hc43 ?_
                refine gz_s 1 (pc' := 57) (L' := [some (.ref x), some (.int (zi a)), some (.int (zi b)), some (.int (zi v)), none]) (S' := [.ref x]) rfl ?_
                refine gs_gtr rfl (by decide) rfl hS.1 tx rfl rfl rfl (fun c44 ec44 tc44 => ?_)
                refine gy_s 5 (pc' := 66) (L' := [some (.ref x), some (.int (zi a)), some (.int (zi b)), some (.int (zi v)), none]) (S' := [.int (((zi a) * (zi 64)) + (zi b)), .ref c44]) (L2 := [some (.ref x), some (.int (zi a)), some (.int (zi b)), some (.int (zi v)), none]) (S2 := [.int (zi ((a * 64) + b)), .ref c44]) rfl (by simp only [zi_add, zi_sub, zi_mul, zi_neg, zi_and1, zi_and7, zi_and15, zi_and31, zi_and255]) (by simp only [zi_add, zi_sub, zi_mul, zi_neg, zi_and1, zi_and7, zi_and15, zi_and31, zi_and255]) ?_
                have hl45 : 256 ≤ h.2.2.2.1 c44 ∧ h.2.2.2.1 c44 ≤ 256 := gJ.rowl (G := gGG) hS.1 tc44 rfl
                refine gs_ald rfl (by decide) hS.1 tc44 rfl rfl rfl (by decide) (fun _ => rfl) (by omega) (by omega) (fun z46 ez46 az46 bz46 => ?_)
                have hf47 := gRn.at (i := (a * 64) + b) (z := z46) xr1 tc44 ez46 (by omega) (by omega) (by omega)
                have hfx : z46 = S.1.1 (a * 64 + b).toNat := ((congrArg S.1.1 (by omega)).trans hf47).symm
                refine gz_s 3 (pc' := 71) (L' := [some (.ref x), some (.int (zi a)), some (.int (zi b)), some (.int (zi v)), some (.int (zi z46))]) (S' := [.int (zi (-1)), .int (zi v)]) rfl ?_
                refine gy_icF rfl (by decide) (by decide) ⟨by omega, by omega⟩ ⟨by omega, by omega⟩ (by first | (simp [zc]; done) | (simp only [zc]; omega)) ?_
                refine gz_s 1 (pc' := 75) (L' := [some (.ref x), some (.int (zi a)), some (.int (zi b)), some (.int (zi v)), some (.int (zi z46))]) (S' := [.ref x]) rfl ?_
                refine gs_gtk rfl (by decide) rfl hS.1 tx rfl rfl ec44 ?_
                refine gy_s 6 (pc' := 85) (L' := [some (.ref x), some (.int (zi a)), some (.int (zi b)), some (.int (zi v)), some (.int (zi z46))]) (S' := [.int (zi v), .int (((zi a) * (zi 64)) + (zi b)), .ref c44]) (L2 := [some (.ref x), some (.int (zi a)), some (.int (zi b)), some (.int (zi v)), some (.int (zi z46))]) (S2 := [.int (zi v), .int (zi ((a * 64) + b)), .ref c44]) rfl (by simp only [zi_add, zi_sub, zi_mul, zi_neg, zi_and1, zi_and7, zi_and15, zi_and31, zi_and255]) (by simp only [zi_add, zi_sub, zi_mul, zi_neg, zi_and1, zi_and7, zi_and15, zi_and31, zi_and255]) ?_
                have hl48 : 256 ≤ h.2.2.2.1 c44 ∧ h.2.2.2.1 c44 ≤ 256 := gJ.rowl (G := gGG) hS.1 tc44 rfl
                refine gs_ast rfl (by decide) hS tc44 rfl rfl rfl (by decide) (fun _ => rfl) (by omega) (by omega) (fun _ => (by decide : (53999 : Nat) ∈ ([53999] : List Nat))) (by omega) (by omega) (fun h49 sh49 eh49 fh49 => ?_)
                have pr50 := gSW.pt fh49 tc44 (by decide) hsw
                have pr51 := gPC.pa fh49 (sh49.2.2.2.2.1.trans hS.2.2.2.2.1.symm) tc44 (fun _ => (by decide : ¬ (53999 : Nat) ∈ gPCp)) hpc
                have pr52 := gTc.pt fh49 tc44 (by decide) htc
                have pr53 := gRr.pa fh49 (sh49.2.2.2.2.1.trans hS.2.2.2.2.1.symm) tc44 (fun _ => (by decide : ¬ (53999 : Nat) ∈ gRrp)) hrr
                have pr54 := gRw.pa fh49 (sh49.2.2.2.2.1.trans hS.2.2.2.2.1.symm) tc44 (fun _ => (by decide : ¬ (53999 : Nat) ∈ gRwp)) hrw
                have pr55 := gRn.put (i := (a * 64) + b) (z := v) uq tc44 (by decide) fh49 eh49 (by omega) (by omega) xr1
                have pr56 := gRn.pt fh49 tc44 (by decide) xr2
                have pr57 := gRn.pt fh49 tc44 (by decide) xr3
                have pr58 := gRn.pt fh49 tc44 (by decide) xr4
                have pr59 := gRn.pt fh49 tc44 (by decide) xr5
                have pr60 := gRn.pt fh49 tc44 (by decide) xr6
                have pr61 := gRn.pt fh49 tc44 (by decide) xr7
                have s62 := (fh49 x 2 (fun q => absurd (((tx).symm.trans (congrArg ty q.1)).trans tc44) (by decide))).trans ex2
                have s63 := (fh49 x 3 (fun q => absurd (((tx).symm.trans (congrArg ty q.1)).trans tc44) (by decide))).trans ex3
                have s64 := (fh49 x 4 (fun q => absurd (((tx).symm.trans (congrArg ty q.1)).trans tc44) (by decide))).trans ex4
                have s65 := (fh49 sk 0 (fun q => absurd (((tsk).symm.trans (congrArg ty q.1)).trans tc44) (by decide))).trans ex0
                have s66 := (fh49 dr 8 (fun q => absurd (((tdr).symm.trans (congrArg ty q.1)).trans tc44) (by decide))).trans en0
                have s67 := (fh49 dr 3 (fun q => absurd (((tdr).symm.trans (congrArg ty q.1)).trans tc44) (by decide))).trans eiv
                have s68 := (fh49 dr 1 (fun q => absurd (((tdr).symm.trans (congrArg ty q.1)).trans tc44) (by decide))).trans edw
                have s69 := (fh49 dr 2 (fun q => absurd (((tdr).symm.trans (congrArg ty q.1)).trans tc44) (by decide))).trans edh
                have s70 := (fh49 sk 1 (fun q => absurd (((tsk).symm.trans (congrArg ty q.1)).trans tc44) (by decide))).trans ec0
                have s71 := (fh49 x 1 (fun q => absurd (((tx).symm.trans (congrArg ty q.1)).trans tc44) (by decide))).trans ec44
                have pr72 := gEl.set (i := (a * 64) + b) (z := v) uq tc44 (by decide) eh49 (by omega) (by omega)
                refine gz_s 1 (pc' := 88) (L' := [some (.ref x), some (.int (zi a)), some (.int (zi b)), some (.int (zi v)), some (.int (zi z46))]) (S' := [.int (zi z46)]) rfl ?_
                have k73 := sh49.2.1
                have k73b := sh49.2.2.1
                have hl74 : h49.2.2.2.1 bt = h.2.2.2.1 bt := congrFun sh49.2.2.2.2.1 bt
                have hl75 : 1024 ≤ h49.2.2.2.1 bt ∧ h49.2.2.2.1 bt ≤ 1000000 := gJ.rowl (G := gGG) sh49.1 tbt rfl
                have hrw76 : gRn 256 ty 53 (gVt S.1.1 a b v) h49 := gVt.y ⟨⟨by omega, by omega, by omega, by omega⟩, by omega, by omega⟩ (by omega) pr55
                have hxr77 : gXr ty (eQ0 S a b v) h49 := ⟨hrw76, pr56, pr57, pr58, pr59, pr60, pr61⟩
                have k78 := sh49.2.1
                have k78b := sh49.2.2.1
                have hl79 : h49.2.2.2.1 bt = h.2.2.2.1 bt := congrFun sh49.2.2.2.2.1 bt
                have hix80 : gIx ty x ld (h49.2.2.2.1 bt : Int) (64 * dw + n0 + 4096 * dh + 262144 * i0) (eQ0 S a b v) h49 := ⟨pic, b0, b1, b2, dr, sk, bt, n0, c0, i0, dw, dh, ⟨tx, tdr, tsk, tbt⟩, ⟨s62, s63, s64, s65⟩, pr51, pr52, ⟨s66, by omega, by omega⟩, ⟨s67, by omega, by omega⟩, ⟨s70, by omega, by omega⟩, ⟨by omega, by omega⟩, pr53, pr54, ⟨s68, by omega, by omega⟩, ⟨s69, by omega, by omega⟩, by omega, rfl, hxr77, ⟨pr50, hc0⟩, htz⟩
                have G81 : gSg [] [] [53999] ty h ty h49 := gSg.ss G0 sh49 (by decide)
                exact gz_end (I := .ireturn) (len := 1) rfl (Or.inl rfl) ⟨ty, G81, ld, (h49.2.2.2.1 bt : Int), (64 * dw + n0 + 4096 * dh + 262144 * i0), (by omega), (by omega), (by omega), (by omega), (by omega), (by omega), hix80, Or.inl ⟨z46, rfl, (by omega), (by omega), (by omega), (by omega), (by omega), (by omega), (by omega), (by omega), (by omega), (by dsimp only; omega), (by dsimp only; omega), (by omega), (by omega)⟩⟩
              · refine gy_icF rfl (by decide) (by decide) (by omega) (by omega) hc43 ?_
                have hl82 : 1024 ≤ h.2.2.2.1 bt ∧ h.2.2.2.1 bt ≤ 1000000 := gJ.rowl (G := gGG) hS.1 tbt rfl
                have hrw83 : gRn 256 ty 53 (gVt S.1.1 a b v) h := gVt.n (by omega) xr1
                have hxr84 : gXr ty (eQ0 S a b v) h := ⟨hrw83, xr2, xr3, xr4, xr5, xr6, xr7⟩
                have hix85 : gIx ty x ld (h.2.2.2.1 bt : Int) (64 * dw + n0 + 4096 * dh + 262144 * i0) (eQ0 S a b v) h := ⟨pic, b0, b1, b2, dr, sk, bt, n0, c0, i0, dw, dh, ⟨tx, tdr, tsk, tbt⟩, ⟨ex2, ex3, ex4, ex0⟩, hpc, htc, ⟨en0, by omega, by omega⟩, ⟨eiv, by omega, by omega⟩, ⟨ec0, by omega, by omega⟩, ⟨by omega, by omega⟩, hrr, hrw, ⟨edw, by omega, by omega⟩, ⟨edh, by omega, by omega⟩, by omega, rfl, hxr84, ⟨hsw, hc0⟩, htz⟩
                have G86 : gSg [] [] [53999] ty h ty h := gSg.ss G0 hS (by decide)
                exact gz_end (I := .new 134) (len := 3) rfl (Or.inr (by decide)) ⟨ty, G86, ld, (h.2.2.2.1 bt : Int), (64 * dw + n0 + 4096 * dh + 262144 * i0), (by omega), (by omega), (by omega), (by omega), (by omega), (by omega), hix85, Or.inr ⟨rfl, Or.inr (⟨rfl, (by omega), (by omega), (by omega), (by omega), (by omega)⟩), (by omega), (by dsimp only; omega), (by dsimp only; omega), (by omega), (by omega)⟩⟩
        · refine gy_icF rfl (by decide) (by decide) (by omega) (by omega) hc26 ?_
          have hl87 : 1024 ≤ h.2.2.2.1 bt ∧ h.2.2.2.1 bt ≤ 1000000 := gJ.rowl (G := gGG) hS.1 tbt rfl
          have hrw88 : gRn 256 ty 53 (gVt S.1.1 a b v) h := gVt.n (by omega) xr1
          have hxr89 : gXr ty (eQ0 S a b v) h := ⟨hrw88, xr2, xr3, xr4, xr5, xr6, xr7⟩
          have hix90 : gIx ty x ld (h.2.2.2.1 bt : Int) (64 * dw + n0 + 4096 * dh + 262144 * i0) (eQ0 S a b v) h := ⟨pic, b0, b1, b2, dr, sk, bt, n0, c0, i0, dw, dh, ⟨tx, tdr, tsk, tbt⟩, ⟨ex2, ex3, ex4, ex0⟩, hpc, htc, ⟨en0, by omega, by omega⟩, ⟨eiv, by omega, by omega⟩, ⟨ec0, by omega, by omega⟩, ⟨by omega, by omega⟩, hrr, hrw, ⟨edw, by omega, by omega⟩, ⟨edh, by omega, by omega⟩, by omega, rfl, hxr89, ⟨hsw, hc0⟩, htz⟩
          have G91 : gSg [] [] [53999] ty h ty h := gSg.ss G0 hS (by decide)
          exact gz_end (I := .new 84) (len := 3) rfl (Or.inr (by decide)) ⟨ty, G91, ld, (h.2.2.2.1 bt : Int), (64 * dw + n0 + 4096 * dh + 262144 * i0), (by omega), (by omega), (by omega), (by omega), (by omega), (by omega), hix90, Or.inr ⟨rfl, Or.inl ⟨rfl, (by omega)⟩, (by omega), (by dsimp only; omega), (by dsimp only; omega), (by omega), (by omega)⟩⟩
set_option maxRecDepth 20000 in
set_option maxHeartbeats 4000000 in
theorem cl_DctFilter_point (d : Nat) {ty : Nat → Nat} {h : gH} (hJ : gJ rT 1027 ty h) (x : Nat) (tx : ty x = 50) (a : Int) (ra : (-2147483648) ≤ a ∧ a ≤ 2147483647) (b : Int) (rb : (-2147483648) ≤ b ∧ b ≤ 2147483647) (v : Int) (rv : (-2147483648) ≤ v ∧ v ≤ 2147483647) (S : gSS) (ld : Int) (rld : 0 ≤ ld ∧ ld ≤ 192) (lb : Int) (rlb : 1024 ≤ lb ∧ lb ≤ 1000000) (iv : Int) (riv : 0 ≤ iv ∧ iv ≤ 26476544) (uq : gUq ty) (hyix : gIx ty x ld lb iv S h) : gz gPP gGG gcn (d + 2) gt86 0 (gent [.ref x, .int (zi a), .int (zi b), .int (zi v)] 4) [] h (fun q _ => ∃ ty9 : Nat → Nat, gSg [] [] [55001, 55002, 59999] ty h ty9 q.2.2 ∧ ∃ ld1 lb1 iv1 : Int, 0 ≤ ld1 ∧ ld1 ≤ 192 ∧ 1024 ≤ lb1 ∧ lb1 ≤ 1000000 ∧ 0 ≤ iv1 ∧ iv1 ≤ 26476544 ∧ (gIx ty9 x ld1 lb1 iv1 (eQ1 S a b v) q.2.2) ∧ ((∃ z : Int, gfin gt86 q.1 q.2.1 = some (some (.int (zi z))) ∧ 0 ≤ z ∧ z ≤ 255 ∧ (z = S.1.2.1 (b * 32 + a).toNat) ∧ (0 ≤ a) ∧ (a ≤ 31) ∧ (0 ≤ b) ∧ (b ≤ 31) ∧ (0 ≤ v) ∧ (v ≤ 255) ∧ (iv1 = iv + 64 * (if iv / 64 % 64 ≤ a then a + 1 - iv / 64 % 64 else 0) + 4096 * (if iv / 4096 % 64 ≤ b then b + 1 - iv / 4096 % 64 else 0)) ∧ (1024 * (((q.2.2.1 : Int) - h.1) - 31 - 2 * (ld1 - ld)) ≤ lb1 - lb) ∧ (((q.2.2.2.1 : Int) - h.2.1) ≤ 4303 + 12480 * (ld1 - ld) + 2 * (lb1 - lb)) ∧ (ld ≤ ld1) ∧ (lb ≤ lb1)) ∨ (q.2.1 = [] ∧ ((q.1 = 20 ∧ (¬ (0 ≤ a ∧ a ≤ 31 ∧ 0 ≤ b ∧ b ≤ 31))) ∨ (q.1 = 41 ∧ (0 ≤ a) ∧ (a ≤ 31) ∧ (0 ≤ b) ∧ (b ≤ 31) ∧ (¬ (0 ≤ v ∧ v ≤ 255)))) ∧ (iv1 = iv) ∧ (1024 * (((q.2.2.1 : Int) - h.1) - 31 - 2 * (ld1 - ld)) ≤ lb1 - lb) ∧ (((q.2.2.2.1 : Int) - h.2.1) ≤ 4303 + 12480 * (ld1 - ld) + 2 * (lb1 - lb)) ∧ (ld ≤ ld1) ∧ (lb ≤ lb1)))) := by
  have hS : gSs rT 1027 ty [55001, 55002, 59999] h h := gSs.rf hJ
  have G0 : gSg [] [] [55001, 55002, 59999] ty h ty h := gSg.rf hJ (fun x hx => by cases hx)
  obtain ⟨pic, b0, b1, b2, dr, sk, bt, n0, c0, i0, dw, dh, ⟨_, tdr, tsk, tbt⟩, ⟨ex2, ex3, ex4, ex0⟩, hpc, htc, ⟨en0, rn0⟩, ⟨eiv, ri0⟩, ⟨ec0, rc0⟩, ⟨lc0, llb⟩, hrr, hrw, ⟨edw, rdw⟩, ⟨edh, rdh⟩, hwh, hcd, hxr, ⟨hsw, hc0⟩, htz⟩ := hyix
  have tpic := hpc.1.1
  have tb0 := hpc.1.2.1
  have tb1 := hpc.1.2.2.1
  have tb2 := hpc.1.2.2.2
  obtain ⟨xr1, xr2, xr3, xr4, xr5, xr6, xr7⟩ := hxr
  have hdw : iv / 64 % 64 = dw := by omega
  have hdh : iv / 4096 % 64 = dh := by omega
  refine gz_s 1 (pc' := 1) (L' := [some (.ref x), some (.int (zi a)), some (.int (zi b)), some (.int (zi v))]) (S' := [.int (zi a)]) rfl ?_
  by_cases hc8 : (a : Int) < 0
  · refine gy_ifT (pc' := 20) rfl (by decide) (by decide) (by omega) hc8 ?_
    have hl9 : 1024 ≤ h.2.2.2.1 bt ∧ h.2.2.2.1 bt ≤ 1000000 := gJ.rowl (G := gGG) hS.1 tbt rfl
    have hrw10 : gRn 1024 ty 59 (gVp S.1.2.1 a b v) h := gVp.n (by omega) xr2
    have hxr11 : gXr ty (eQ1 S a b v) h := ⟨xr1, hrw10, xr3, xr4, xr5, xr6, xr7⟩
    have hix12 : gIx ty x ld (h.2.2.2.1 bt : Int) (64 * dw + n0 + 4096 * dh + 262144 * i0) (eQ1 S a b v) h := ⟨pic, b0, b1, b2, dr, sk, bt, n0, c0, i0, dw, dh, ⟨tx, tdr, tsk, tbt⟩, ⟨ex2, ex3, ex4, ex0⟩, hpc, htc, ⟨en0, by omega, by omega⟩, ⟨eiv, by omega, by omega⟩, ⟨ec0, by omega, by omega⟩, ⟨by omega, by omega⟩, hrr, hrw, ⟨edw, by omega, by omega⟩, ⟨edh, by omega, by omega⟩, by omega, rfl, hxr11, ⟨hsw, hc0⟩, htz⟩
    have G13 : gSg [] [] [55001, 55002, 59999] ty h ty h := gSg.ss G0 hS (by decide)
    exact gz_end (I := .new 84) (len := 3) rfl (Or.inr (by decide)) ⟨ty, G13, ld, (h.2.2.2.1 bt : Int), (64 * dw + n0 + 4096 * dh + 262144 * i0), (by omega), (by omega), (by omega), (by omega), (by omega), (by omega), hix12, Or.inr ⟨rfl, Or.inl ⟨rfl, (by omega)⟩, (by omega), (by dsimp only; omega), (by dsimp only; omega), (by omega), (by omega)⟩⟩
  · refine gy_ifF rfl (by decide) (by decide) (by omega) hc8 ?_
    refine gz_s 2 (pc' := 7) (L' := [some (.ref x), some (.int (zi a)), some (.int (zi b)), some (.int (zi v))]) (S' := [.int (zi 32), .int (zi a)]) rfl ?_
    by_cases hc14 : (32 : Int) ≤ a
    · refine gy_icT (pc' := 20) rfl (by decide) (by decide) (by omega) (by omega) hc14 ?_
      have hl15 : 1024 ≤ h.2.2.2.1 bt ∧ h.2.2.2.1 bt ≤ 1000000 := gJ.rowl (G := gGG) hS.1 tbt rfl
      have hrw16 : gRn 1024 ty 59 (gVp S.1.2.1 a b v) h := gVp.n (by omega) xr2
      have hxr17 : gXr ty (eQ1 S a b v) h := ⟨xr1, hrw16, xr3, xr4, xr5, xr6, xr7⟩
      have hix18 : gIx ty x ld (h.2.2.2.1 bt : Int) (64 * dw + n0 + 4096 * dh + 262144 * i0) (eQ1 S a b v) h := ⟨pic, b0, b1, b2, dr, sk, bt, n0, c0, i0, dw, dh, ⟨tx, tdr, tsk, tbt⟩, ⟨ex2, ex3, ex4, ex0⟩, hpc, htc, ⟨en0, by omega, by omega⟩, ⟨eiv, by omega, by omega⟩, ⟨ec0, by omega, by omega⟩, ⟨by omega, by omega⟩, hrr, hrw, ⟨edw, by omega, by omega⟩, ⟨edh, by omega, by omega⟩, by omega, rfl, hxr17, ⟨hsw, hc0⟩, htz⟩
      have G19 : gSg [] [] [55001, 55002, 59999] ty h ty h := gSg.ss G0 hS (by decide)
      exact gz_end (I := .new 84) (len := 3) rfl (Or.inr (by decide)) ⟨ty, G19, ld, (h.2.2.2.1 bt : Int), (64 * dw + n0 + 4096 * dh + 262144 * i0), (by omega), (by omega), (by omega), (by omega), (by omega), (by omega), hix18, Or.inr ⟨rfl, Or.inl ⟨rfl, (by omega)⟩, (by omega), (by dsimp only; omega), (by dsimp only; omega), (by omega), (by omega)⟩⟩
    · refine gy_icF rfl (by decide) (by decide) (by omega) (by omega) hc14 ?_
      refine gz_s 1 (pc' := 11) (L' := [some (.ref x), some (.int (zi a)), some (.int (zi b)), some (.int (zi v))]) (S' := [.int (zi b)]) rfl ?_
      by_cases hc20 : (b : Int) < 0
      · refine gy_ifT (pc' := 20) rfl (by decide) (by decide) (by omega) hc20 ?_
        have hl21 : 1024 ≤ h.2.2.2.1 bt ∧ h.2.2.2.1 bt ≤ 1000000 := gJ.rowl (G := gGG) hS.1 tbt rfl
        have hrw22 : gRn 1024 ty 59 (gVp S.1.2.1 a b v) h := gVp.n (by omega) xr2
        have hxr23 : gXr ty (eQ1 S a b v) h := ⟨xr1, hrw22, xr3, xr4, xr5, xr6, xr7⟩
        have hix24 : gIx ty x ld (h.2.2.2.1 bt : Int) (64 * dw + n0 + 4096 * dh + 262144 * i0) (eQ1 S a b v) h := ⟨pic, b0, b1, b2, dr, sk, bt, n0, c0, i0, dw, dh, ⟨tx, tdr, tsk, tbt⟩, ⟨ex2, ex3, ex4, ex0⟩, hpc, htc, ⟨en0, by omega, by omega⟩, ⟨eiv, by omega, by omega⟩, ⟨ec0, by omega, by omega⟩, ⟨by omega, by omega⟩, hrr, hrw, ⟨edw, by omega, by omega⟩, ⟨edh, by omega, by omega⟩, by omega, rfl, hxr23, ⟨hsw, hc0⟩, htz⟩
        have G25 : gSg [] [] [55001, 55002, 59999] ty h ty h := gSg.ss G0 hS (by decide)
        exact gz_end (I := .new 84) (len := 3) rfl (Or.inr (by decide)) ⟨ty, G25, ld, (h.2.2.2.1 bt : Int), (64 * dw + n0 + 4096 * dh + 262144 * i0), (by omega), (by omega), (by omega), (by omega), (by omega), (by omega), hix24, Or.inr ⟨rfl, Or.inl ⟨rfl, (by omega)⟩, (by omega), (by dsimp only; omega), (by dsimp only; omega), (by omega), (by omega)⟩⟩
      · refine gy_ifF rfl (by decide) (by decide) (by omega) hc20 ?_
        refine gz_s 2 (pc' := 17) (L' := [some (.ref x), some (.int (zi a)), some (.int (zi b)), some (.int (zi v))]) (S' := [.int (zi 32), .int (zi b)]) rfl ?_
        by_cases hc26 : (b : Int) < 32
        · refine gy_icT (pc' := 30) rfl (by decide) (by decide) (by omega) (by omega) hc26 ?_
          refine gz_s 1 (pc' := 31) (L' := [some (.ref x), some (.int (zi a)), some (.int (zi b)), some (.int (zi v))]) (S' := [.int (zi v)]) rfl ?_
          by_cases hc27 : (v : Int) < 0
          · refine gy_ifT (pc' := 41) rfl (by decide) (by decide) (by omega) hc27 ?_
            have hl28 : 1024 ≤ h.2.2.2.1 bt ∧ h.2.2.2.1 bt ≤ 1000000 := gJ.rowl (G := gGG) hS.1 tbt rfl
            have hrw29 : gRn 1024 ty 59 (gVp S.1.2.1 a b v) h := gVp.n (by omega) xr2
            have hxr30 : gXr ty (eQ1 S a b v) h := ⟨xr1, hrw29, xr3, xr4, xr5, xr6, xr7⟩
            have hix31 : gIx ty x ld (h.2.2.2.1 bt : Int) (64 * dw + n0 + 4096 * dh + 262144 * i0) (eQ1 S a b v) h := ⟨pic, b0, b1, b2, dr, sk, bt, n0, c0, i0, dw, dh, ⟨tx, tdr, tsk, tbt⟩, ⟨ex2, ex3, ex4, ex0⟩, hpc, htc, ⟨en0, by omega, by omega⟩, ⟨eiv, by omega, by omega⟩, ⟨ec0, by omega, by omega⟩, ⟨by omega, by omega⟩, hrr, hrw, ⟨edw, by omega, by omega⟩, ⟨edh, by omega, by omega⟩, by omega, rfl, hxr30, ⟨hsw, hc0⟩, htz⟩
            have G32 : gSg [] [] [55001, 55002, 59999] ty h ty h := gSg.ss G0 hS (by decide)
            exact gz_end (I := .new 134) (len := 3) rfl (Or.inr (by decide)) ⟨ty, G32, ld, (h.2.2.2.1 bt : Int), (64 * dw + n0 + 4096 * dh + 262144 * i0), (by omega), (by omega), (by omega), (by omega), (by omega), (by omega), hix31, Or.inr ⟨rfl, Or.inr (⟨rfl, (by omega), (by omega), (by omega), (by omega), (by omega)⟩), (by omega), (by dsimp only; omega), (by dsimp only; omega), (by omega), (by omega)⟩⟩
          · refine gy_ifF rfl (by decide) (by decide) (by omega) hc27 ?_
            refine gz_s 2 (pc' := 38) (L' := [some (.ref x), some (.int (zi a)), some (.int (zi b)), some (.int (zi v))]) (S' := [.int (zi 255), .int (zi v)]) rfl ?_
            by_cases hc33 : (v : Int) ≤ 255
            · refine gy_icT (pc' := 51) rfl (by decide) (by decide) (by omega) (by omega) hc33 ?_
              refine gz_s 1 (pc' := 52) (L' := [some (.ref x), some (.int (zi a)), some (.int (zi b)), some (.int (zi v))]) (S' := [.ref x]) rfl ?_
              refine gs_gtk rfl (by decide) rfl hS.1 tx rfl rfl ex3 ?_
              refine gz_s 3 (pc' := 58) (L' := [some (.ref x), some (.int (zi a)), some (.int (zi b)), some (.int (zi v))]) (S' := [.int (zi v), .int (zi b), .int (zi a), .ref dr]) rfl ?_
              refine gz_call rfl (by decide) rfl (by decide) (by decide) (gcal_of rfl rfl rfl (Nat.le_of_ble_eq_true rfl) (gJ.recv (G := gGG) hS.1 tdr rfl rfl)) (cl_Draft_putPoint _ hS.1 dr tdr a ⟨by omega, by omega⟩ b ⟨by omega, by omega⟩ v ⟨by omega, by omega⟩ dw edw ⟨by omega, by omega⟩ dh edh ⟨by omega, by omega⟩ S.1.2.1 uq xr2) (fun q34 _ wq34 => ?_)
              obtain ⟨pq34, oq34, hq34⟩ := q34
              obtain ⟨xq34, zq34, fq34_0, fq34_1, gq34, aq34, bq34, efq34_0, afq34_0, bfq34_0, efq34_1, afq34_1, bfq34_1, uq34_0, uq34_1, uq34_2, uq34_3, uq34_4, uq34_5, uq34_6, yq34_0⟩ := wq34
              refine ⟨_, gq34, ?_⟩
              show gz gPP gGG gcn _ _ 61 [some (.ref x), some (.int (zi a)), some (.int (zi b)), some (.int (zi v))] [.int (zi zq34)] hq34 _
              have sq34 : gSs rT 1027 ty [55001, 55002, 59999] h hq34 := gSs.tr hS xq34 (by decide)
              have s35 := (xq34.2.2.2.2.2 x 2 (by rw [tx]; decide)).trans ex2
              have s36 := (xq34.2.2.2.2.2 x 3 (by rw [tx]; decide)).trans ex3
              have s37 := (xq34.2.2.2.2.2 x 4 (by rw [tx]; decide)).trans ex4
              have s38 := (xq34.2.2.2.2.2 sk 0 (by rw [tsk]; decide)).trans ex0
              have s39 := (xq34.2.2.2.2.2 dr 8 (by rw [tdr]; decide)).trans en0
              have s40 := (xq34.2.2.2.2.2 dr 3 (by rw [tdr]; decide)).trans eiv
              have s41 := (xq34.2.2.2.2.2 sk 1 (by rw [tsk]; decide)).trans ec0
              have pr42 := gSW.fr xq34.2 (by decide) hsw
              have pr43 := gPC.fr xq34.2 (by decide) hpc
              have pr44 := gTc.fr xq34.2 (by decide) htc
              have pr45 := gRr.fr xq34.2 (by decide) hrr
              have pr46 := gRw.fr xq34.2 (by decide) hrw
              have pr47 := gRn.fr xq34.2 (by decide) xr1
              have pr48 := gRn.fr xq34.2 (by decide) xr3
              have pr49 := gRn.fr xq34.2 (by decide) xr4
              have pr50 := gRn.fr xq34.2 (by decide) xr5
              have pr51 := gRn.fr xq34.2 (by decide) xr6
              have pr52 := gRn.fr xq34.2 (by decide) xr7
              have k53 := sq34.2.1
              have k53b := sq34.2.2.1
              have hl54 : hq34.2.2.2.1 bt = h.2.2.2.1 bt := congrFun sq34.2.2.2.2.1 bt
              have hl55 : 1024 ≤ hq34.2.2.2.1 bt ∧ hq34.2.2.2.1 bt ≤ 1000000 := gJ.rowl (G := gGG) sq34.1 tbt rfl
              have hrw56 : gRn 1024 ty 59 (gVp S.1.2.1 a b v) hq34 := gVp.y ⟨⟨by omega, by omega, by omega, by omega⟩, by omega, by omega⟩ (by omega) yq34_0
              have hxr57 : gXr ty (eQ1 S a b v) hq34 := ⟨pr47, hrw56, pr48, pr49, pr50, pr51, pr52⟩
              have k58 := sq34.2.1
              have k58b := sq34.2.2.1
              have hl59 : hq34.2.2.2.1 bt = h.2.2.2.1 bt := congrFun sq34.2.2.2.2.1 bt
              have hix60 : gIx ty x ld (hq34.2.2.2.1 bt : Int) (64 * fq34_0 + n0 + 4096 * fq34_1 + 262144 * i0) (eQ1 S a b v) hq34 := ⟨pic, b0, b1, b2, dr, sk, bt, n0, c0, i0, fq34_0, fq34_1, ⟨tx, tdr, tsk, tbt⟩, ⟨s35, s36, s37, s38⟩, pr43, pr44, ⟨s39, by omega, by omega⟩, ⟨s40, by omega, by omega⟩, ⟨s41, by omega, by omega⟩, ⟨by omega, by omega⟩, pr45, pr46, ⟨efq34_0, by omega, by omega⟩, ⟨efq34_1, by omega, by omega⟩, by omega, rfl, hxr57, ⟨pr42, hc0⟩, htz⟩
              have G61 : gSg [] [] [55001, 55002, 59999] ty h ty hq34 := gSg.ss G0 sq34 (by decide)
              exact gz_end (I := .ireturn) (len := 1) rfl (Or.inl rfl) ⟨ty, G61, ld, (hq34.2.2.2.1 bt : Int), (64 * fq34_0 + n0 + 4096 * fq34_1 + 262144 * i0), (by omega), (by omega), (by omega), (by omega), (by omega), (by omega), hix60, Or.inl ⟨zq34, rfl, (by omega), (by omega), (by omega), (by omega), (by omega), (by omega), (by omega), (by omega), (by omega), (by omega), (by dsimp only; omega), (by dsimp only; omega), (by omega), (by omega)⟩⟩
            · refine gy_icF rfl (by decide) (by decide) (by omega) (by omega) hc33 ?_
              have hl62 : 1024 ≤ h.2.2.2.1 bt ∧ h.2.2.2.1 bt ≤ 1000000 := gJ.rowl (G := gGG) hS.1 tbt rfl
              have hrw63 : gRn 1024 ty 59 (gVp S.1.2.1 a b v) h := gVp.n (by omega) xr2
              have hxr64 : gXr ty (eQ1 S a b v) h := ⟨xr1, hrw63, xr3, xr4, xr5, xr6, xr7⟩
              have hix65 : gIx ty x ld (h.2.2.2.1 bt : Int) (64 * dw + n0 + 4096 * dh + 262144 * i0) (eQ1 S a b v) h := ⟨pic, b0, b1, b2, dr, sk, bt, n0, c0, i0, dw, dh, ⟨tx, tdr, tsk, tbt⟩, ⟨ex2, ex3, ex4, ex0⟩, hpc, htc, ⟨en0, by omega, by omega⟩, ⟨eiv, by omega, by omega⟩, ⟨ec0, by omega, by omega⟩, ⟨by omega, by omega⟩, hrr, hrw, ⟨edw, by omega, by omega⟩, ⟨edh, by omega, by omega⟩, by omega, rfl, hxr64, ⟨hsw, hc0⟩, htz⟩
              have G66 : gSg [] [] [55001, 55002, 59999] ty h ty h := gSg.ss G0 hS (by decide)
              exact gz_end (I := .new 134) (len := 3) rfl (Or.inr (by decide)) ⟨ty, G66, ld, (h.2.2.2.1 bt : Int), (64 * dw + n0 + 4096 * dh + 262144 * i0), (by omega), (by omega), (by omega), (by omega), (by omega), (by omega), hix65, Or.inr ⟨rfl, Or.inr (⟨rfl, (by omega), (by omega), (by omega), (by omega), (by omega)⟩), (by omega), (by dsimp only; omega), (by dsimp only; omega), (by omega), (by omega)⟩⟩
        · refine gy_icF rfl (by decide) (by decide) (by omega) (by omega) hc26 ?_
          have hl67 : 1024 ≤ h.2.2.2.1 bt ∧ h.2.2.2.1 bt ≤ 1000000 := gJ.rowl (G := gGG) hS.1 tbt rfl
          have hrw68 : gRn 1024 ty 59 (gVp S.1.2.1 a b v) h := gVp.n (by omega) xr2
          have hxr69 : gXr ty (eQ1 S a b v) h := ⟨xr1, hrw68, xr3, xr4, xr5, xr6, xr7⟩
          have hix70 : gIx ty x ld (h.2.2.2.1 bt : Int) (64 * dw + n0 + 4096 * dh + 262144 * i0) (eQ1 S a b v) h := ⟨pic, b0, b1, b2, dr, sk, bt, n0, c0, i0, dw, dh, ⟨tx, tdr, tsk, tbt⟩, ⟨ex2, ex3, ex4, ex0⟩, hpc, htc, ⟨en0, by omega, by omega⟩, ⟨eiv, by omega, by omega⟩, ⟨ec0, by omega, by omega⟩, ⟨by omega, by omega⟩, hrr, hrw, ⟨edw, by omega, by omega⟩, ⟨edh, by omega, by omega⟩, by omega, rfl, hxr69, ⟨hsw, hc0⟩, htz⟩
          have G71 : gSg [] [] [55001, 55002, 59999] ty h ty h := gSg.ss G0 hS (by decide)
          exact gz_end (I := .new 84) (len := 3) rfl (Or.inr (by decide)) ⟨ty, G71, ld, (h.2.2.2.1 bt : Int), (64 * dw + n0 + 4096 * dh + 262144 * i0), (by omega), (by omega), (by omega), (by omega), (by omega), (by omega), hix70, Or.inr ⟨rfl, Or.inl ⟨rfl, (by omega)⟩, (by omega), (by dsimp only; omega), (by dsimp only; omega), (by omega), (by omega)⟩⟩
set_option maxRecDepth 20000 in
set_option maxHeartbeats 4000000 in
theorem cl_DctFilter_scan (d : Nat) {ty : Nat → Nat} {h : gH} (hJ : gJ rT 1027 ty h) (x : Nat) (tx : ty x = 50) (a : Int) (ra : (-2147483648) ≤ a ∧ a ≤ 2147483647) (b : Int) (rb : (-2147483648) ≤ b ∧ b ≤ 2147483647) (t : Int) (rt : (-2147483648) ≤ t ∧ t ≤ 2147483647) (S : gSS) (ld : Int) (rld : 0 ≤ ld ∧ ld ≤ 192) (lb : Int) (rlb : 1024 ≤ lb ∧ lb ≤ 1000000) (iv : Int) (riv : 0 ≤ iv ∧ iv ≤ 26476544) (uq : gUq ty) (hyix : gIx ty x ld lb iv S h) : gz gPP gGG gcn (d + 3) gt61 0 (gent [.ref x, .int (zi a), .int (zi b), .int (zi t)] 4) [] h (fun q _ => ∃ ty9 : Nat → Nat, gSg [] [] [55008, 60999, 61999, 62999, 63999, 64999] ty h ty9 q.2.2 ∧ ∃ z ld1 lb1 iv1 : Int, gfin gt61 q.1 q.2.1 = some (some (.int (zi z))) ∧ 0 ≤ z ∧ z ≤ 10 ∧ 0 ≤ ld1 ∧ ld1 ≤ 192 ∧ 1024 ≤ lb1 ∧ lb1 ≤ 1000000 ∧ 0 ≤ iv1 ∧ iv1 ≤ 26476544 ∧ (iv1 / 64 = iv / 64) ∧ (1024 * (((q.2.2.1 : Int) - h.1) - 31 - 2 * (ld1 - ld)) ≤ lb1 - lb) ∧ (((q.2.2.2.1 : Int) - h.2.1) ≤ 4303 + 12480 * (ld1 - ld) + 2 * (lb1 - lb)) ∧ (ld ≤ ld1) ∧ (lb ≤ lb1) ∧ (gSz S.1.2.2.2.2.2.2 (iv % 64) a b t z (iv1 % 64)) ∧ (gIx ty9 x ld1 lb1 iv1 (eQ2 (iv % 64) S a b t) q.2.2)) := by
  have hS : gSs rT 1027 ty [55008, 60999, 61999, 62999, 63999, 64999] h h := gSs.rf hJ
  have G0 : gSg [] [] [55008, 60999, 61999, 62999, 63999, 64999] ty h ty h := gSg.rf hJ (fun x hx => by cases hx)
  obtain ⟨pic, b0, b1, b2, dr, sk, bt, n0, c0, i0, dw, dh, ⟨_, tdr, tsk, tbt⟩, ⟨ex2, ex3, ex4, ex0⟩, hpc, htc, ⟨en0, rn0⟩, ⟨eiv, ri0⟩, ⟨ec0, rc0⟩, ⟨lc0, llb⟩, hrr, hrw, ⟨edw, rdw⟩, ⟨edh, rdh⟩, hwh, hcd, hxr, ⟨hsw, hc0⟩, htz⟩ := hyix
  have tpic := hpc.1.1
  have tb0 := hpc.1.2.1
  have tb1 := hpc.1.2.2.1
  have tb2 := hpc.1.2.2.2
  refine gz_s 1 (pc' := 1) (L' := [some (.ref x), some (.int (zi a)), some (.int (zi b)), some (.int (zi t))]) (S' := [.ref x]) rfl ?_
  refine gs_gtk rfl (by decide) rfl hS.1 tx rfl rfl ex3 ?_
  refine gz_s 3 (pc' := 7) (L' := [some (.ref x), some (.int (zi a)), some (.int (zi b)), some (.int (zi t))]) (S' := [.int (zi t), .int (zi b), .int (zi a), .ref dr]) rfl ?_
  refine gz_call rfl (by decide) rfl (by decide) (by decide) (gcal_of rfl rfl rfl (Nat.le_of_ble_eq_true rfl) (gJ.recv (G := gGG) hS.1 tdr rfl rfl)) (cl_Draft_tellScan _ hS.1 dr tdr a ⟨by omega, by omega⟩ b ⟨by omega, by omega⟩ t ⟨by omega, by omega⟩ n0 en0 ⟨by omega, by omega⟩ S uq htc hxr) (fun q1 _ wq1 => ?_)
  obtain ⟨pq1, oq1, hq1⟩ := q1
  obtain ⟨xq1, zq1, fq1_0, gq1, aq1, bq1, efq1_0, afq1_0, bfq1_0, yq1_0, yq1_1, yq1_2⟩ := wq1
  refine ⟨_, gq1, ?_⟩
  show gz gPP gGG gcn _ _ 10 [some (.ref x), some (.int (zi a)), some (.int (zi b)), some (.int (zi t))] [.int (zi zq1)] hq1 _
  have sq1 : gSs rT 1027 ty [55008, 60999, 61999, 62999, 63999, 64999] h hq1 := gSs.tr hS xq1 (by decide)
  have s2 := (xq1.2.2.2.2.2 x 2 (by rw [tx]; decide)).trans ex2
  have s3 := (xq1.2.2.2.2.2 x 3 (by rw [tx]; decide)).trans ex3
  have s4 := (xq1.2.2.2.2.2 x 4 (by rw [tx]; decide)).trans ex4
  have s5 := (xq1.2.2.2.2.2 sk 0 (by rw [tsk]; decide)).trans ex0
  have s6 := (xq1.2.2.2.2.2 dr 3 (by rw [tdr]; decide)).trans eiv
  have s7 := (xq1.2.2.2.2.2 dr 1 (by rw [tdr]; decide)).trans edw
  have s8 := (xq1.2.2.2.2.2 dr 2 (by rw [tdr]; decide)).trans edh
  have s9 := (xq1.2.2.2.2.2 sk 1 (by rw [tsk]; decide)).trans ec0
  have pr10 := gSW.fr xq1.2 (by decide) hsw
  have pr11 := gPC.fr xq1.2 (by decide) hpc
  have pr12 := gRr.fr xq1.2 (by decide) hrr
  have pr13 := gRw.fr xq1.2 (by decide) hrw
  have k14 := sq1.2.1
  have k14b := sq1.2.2.1
  have hl15 : hq1.2.2.2.1 bt = h.2.2.2.1 bt := congrFun sq1.2.2.2.2.1 bt
  have hl16 : 1024 ≤ hq1.2.2.2.1 bt ∧ hq1.2.2.2.1 bt ≤ 1000000 := gJ.rowl (G := gGG) sq1.1 tbt rfl
  have hsz17 : gSz S.1.2.2.2.2.2.2 (iv % 64) a b t zq1 ((64 * dw + fq1_0 + 4096 * dh + 262144 * i0) % 64) := by
    rw [(by omega : iv % 64 = n0), (by omega : (64 * dw + fq1_0 + 4096 * dh + 262144 * i0) % 64 = fq1_0)]
    exact yq1_1
  have htz18 : eTz fq1_0 (eQ2 n0 S a b t) := by
    have e9 := yq1_1
    by_cases k9 : gSk S.1.2.2.2.2.2.2 n0 a b t
    · rw [eQ2_y k9, (e9.1 k9).2]; exact htz.tell (by omega) k9
    · rw [eQ2_n k9, (e9.2 k9).2]; exact htz
  have htz18b : (eQ2 n0 S a b t).2 = S.2 := by
    by_cases k9 : gSk S.1.2.2.2.2.2.2 n0 a b t
    · rw [eQ2_y k9]; rfl
    · rw [eQ2_n k9]
  have htz18w : gSW ty bt (eQ2 n0 S a b t).2 hq1 := by rw [htz18b]; exact pr10
  have k19 := sq1.2.1
  have k19b := sq1.2.2.1
  have hl20 : hq1.2.2.2.1 bt = h.2.2.2.1 bt := congrFun sq1.2.2.2.2.1 bt
  have hix21 : gIx ty x ld (hq1.2.2.2.1 bt : Int) (64 * dw + fq1_0 + 4096 * dh + 262144 * i0) (eQ2 n0 S a b t) hq1 := ⟨pic, b0, b1, b2, dr, sk, bt, fq1_0, c0, i0, dw, dh, ⟨tx, tdr, tsk, tbt⟩, ⟨s2, s3, s4, s5⟩, pr11, yq1_0, ⟨efq1_0, by omega, by omega⟩, ⟨s6, by omega, by omega⟩, ⟨s9, by omega, by omega⟩, ⟨by omega, by omega⟩, pr12, pr13, ⟨s7, by omega, by omega⟩, ⟨s8, by omega, by omega⟩, by omega, rfl, yq1_2, ⟨htz18w, by rw [htz18b]; exact hc0⟩, htz18⟩
  have hix22 : gIx ty x ld (hq1.2.2.2.1 bt : Int) (64 * dw + fq1_0 + 4096 * dh + 262144 * i0) (eQ2 (iv % 64) S a b t) hq1 := by rw [(by omega : iv % 64 = n0)]; exact hix21
  have G23 : gSg [] [] [55008, 60999, 61999, 62999, 63999, 64999] ty h ty hq1 := gSg.ss G0 sq1 (by decide)
  exact gz_end (I := .ireturn) (len := 1) rfl (Or.inl rfl) ⟨ty, G23, zq1, ld, (hq1.2.2.2.1 bt : Int), (64 * dw + fq1_0 + 4096 * dh + 262144 * i0), rfl, (by omega), (by omega), (by omega), (by omega), (by omega), (by omega), (by omega), (by omega), (by omega), (by dsimp only; omega), (by dsimp only; omega), (by omega), (by omega), hsz17, hix22⟩
set_option maxRecDepth 20000 in
set_option maxHeartbeats 4000000 in
theorem cl_DctFilter_restart (d : Nat) {ty : Nat → Nat} {h : gH} (hJ : gJ rT 1027 ty h) (x : Nat) (tx : ty x = 50) (n : Int) (rn : (-2147483648) ≤ n ∧ n ≤ 2147483647) (S : gSS) (ld : Int) (rld : 0 ≤ ld ∧ ld ≤ 192) (lb : Int) (rlb : 1024 ≤ lb ∧ lb ≤ 1000000) (iv : Int) (riv : 0 ≤ iv ∧ iv ≤ 26476544) (uq : gUq ty) (hyix : gIx ty x ld lb iv S h) : gz gPP gGG gcn (d + 0) gt88 0 (gent [.ref x, .int (zi n)] 3) [] h (fun q _ => ∃ ty9 : Nat → Nat, gSg [] [] [55003] ty h ty9 q.2.2 ∧ ∃ ld1 lb1 iv1 : Int, 0 ≤ ld1 ∧ ld1 ≤ 192 ∧ 1024 ≤ lb1 ∧ lb1 ≤ 1000000 ∧ 0 ≤ iv1 ∧ iv1 ≤ 26476544 ∧ (gIx ty9 x ld1 lb1 iv1 S q.2.2) ∧ ((∃ z : Int, gfin gt88 q.1 q.2.1 = some (some (.int (zi z))) ∧ 0 ≤ z ∧ z ≤ 100 ∧ (0 ≤ n) ∧ (n ≤ 100) ∧ (z = iv / 262144) ∧ (iv1 = iv % 262144 + 262144 * n) ∧ (1024 * (((q.2.2.1 : Int) - h.1) - 31 - 2 * (ld1 - ld)) ≤ lb1 - lb) ∧ (((q.2.2.2.1 : Int) - h.2.1) ≤ 4303 + 12480 * (ld1 - ld) + 2 * (lb1 - lb)) ∧ (ld ≤ ld1) ∧ (lb ≤ lb1)) ∨ (q.2.1 = [] ∧ ((q.1 = 10 ∧ (¬ (0 ≤ n ∧ n ≤ 100)))) ∧ (iv1 = iv) ∧ (1024 * (((q.2.2.1 : Int) - h.1) - 31 - 2 * (ld1 - ld)) ≤ lb1 - lb) ∧ (((q.2.2.2.1 : Int) - h.2.1) ≤ 4303 + 12480 * (ld1 - ld) + 2 * (lb1 - lb)) ∧ (ld ≤ ld1) ∧ (lb ≤ lb1)))) := by
  have hS : gSs rT 1027 ty [55003] h h := gSs.rf hJ
  have G0 : gSg [] [] [55003] ty h ty h := gSg.rf hJ (fun x hx => by cases hx)
  obtain ⟨pic, b0, b1, b2, dr, sk, bt, n0, c0, i0, dw, dh, ⟨_, tdr, tsk, tbt⟩, ⟨ex2, ex3, ex4, ex0⟩, hpc, htc, ⟨en0, rn0⟩, ⟨eiv, ri0⟩, ⟨ec0, rc0⟩, ⟨lc0, llb⟩, hrr, hrw, ⟨edw, rdw⟩, ⟨edh, rdh⟩, hwh, hcd, hxr, ⟨hsw, hc0⟩, htz⟩ := hyix
  have tpic := hpc.1.1
  have tb0 := hpc.1.2.1
  have tb1 := hpc.1.2.2.1
  have tb2 := hpc.1.2.2.2
  refine gz_s 1 (pc' := 1) (L' := [some (.ref x), some (.int (zi n)), none]) (S' := [.int (zi n)]) rfl ?_
  by_cases hc1 : (n : Int) < 0
  · refine gy_ifT (pc' := 10) rfl (by decide) (by decide) (by omega) hc1 ?_
    have hl2 : 1024 ≤ h.2.2.2.1 bt ∧ h.2.2.2.1 bt ≤ 1000000 := gJ.rowl (G := gGG) hS.1 tbt rfl
    have hix3 : gIx ty x ld (h.2.2.2.1 bt : Int) (64 * dw + n0 + 4096 * dh + 262144 * i0) S h := ⟨pic, b0, b1, b2, dr, sk, bt, n0, c0, i0, dw, dh, ⟨tx, tdr, tsk, tbt⟩, ⟨ex2, ex3, ex4, ex0⟩, hpc, htc, ⟨en0, by omega, by omega⟩, ⟨eiv, by omega, by omega⟩, ⟨ec0, by omega, by omega⟩, ⟨by omega, by omega⟩, hrr, hrw, ⟨edw, by omega, by omega⟩, ⟨edh, by omega, by omega⟩, by omega, rfl, hxr, ⟨hsw, hc0⟩, htz⟩
    have G4 : gSg [] [] [55003] ty h ty h := gSg.ss G0 hS (by decide)
    exact gz_end (I := .new 134) (len := 3) rfl (Or.inr (by decide)) ⟨ty, G4, ld, (h.2.2.2.1 bt : Int), (64 * dw + n0 + 4096 * dh + 262144 * i0), (by omega), (by omega), (by omega), (by omega), (by omega), (by omega), hix3, Or.inr ⟨rfl, ⟨rfl, (by omega)⟩, (by omega), (by dsimp only; omega), (by dsimp only; omega), (by omega), (by omega)⟩⟩
  · refine gy_ifF rfl (by decide) (by decide) (by omega) hc1 ?_
    refine gz_s 2 (pc' := 7) (L' := [some (.ref x), some (.int (zi n)), none]) (S' := [.int (zi 100), .int (zi n)]) rfl ?_
    by_cases hc5 : (n : Int) ≤ 100
    · refine gy_icT (pc' := 20) rfl (by decide) (by decide) (by omega) (by omega) hc5 ?_
      refine gz_s 1 (pc' := 21) (L' := [some (.ref x), some (.int (zi n)), none]) (S' := [.ref x]) rfl ?_
      refine gs_gtk rfl (by decide) rfl hS.1 tx rfl rfl ex3 ?_
      refine gs_gtk rfl (by decide) rfl hS.1 tdr rfl rfl eiv ?_
      refine gz_s 2 (pc' := 29) (L' := [some (.ref x), some (.int (zi n)), some (.int (zi i0))]) (S' := [.ref x]) rfl ?_
      refine gs_gtk rfl (by decide) rfl hS.1 tx rfl rfl ex3 ?_
      refine gz_s 1 (pc' := 33) (L' := [some (.ref x), some (.int (zi n)), some (.int (zi i0))]) (S' := [.int (zi n), .ref dr]) rfl ?_
      refine gs_put rfl (by decide) rfl hS tdr rfl rfl rfl rfl (Or.inl rfl) (by decide) (by omega) (by omega) (fun h6 sh6 eh6 fh6 => ?_)
      have pr7 := gXr.pt fh6 tdr (by decide) hxr
      have pr8 := gSW.pt fh6 tdr (by decide) hsw
      have pr9 := gPC.pk fh6 (sh6.2.2.2.2.1.trans hS.2.2.2.2.1.symm) tdr (by decide) hpc
      have pr10 := gTc.pt fh6 tdr (by decide) htc
      have pr11 := gRr.pk fh6 (sh6.2.2.2.2.1.trans hS.2.2.2.2.1.symm) tdr (by decide) hrr
      have pr12 := gRw.pk fh6 (sh6.2.2.2.2.1.trans hS.2.2.2.2.1.symm) tdr (by decide) hrw
      have s13 := (fh6 x 2 (fun q => absurd q.2 (by decide))).trans ex2
      have s14 := (fh6 x 3 (fun q => absurd (((tx).symm.trans (congrArg ty q.1)).trans tdr) (by decide))).trans ex3
      have s15 := (fh6 x 4 (fun q => absurd q.2 (by decide))).trans ex4
      have s16 := (fh6 sk 0 (fun q => absurd q.2 (by decide))).trans ex0
      have s17 := (fh6 dr 8 (fun q => absurd q.2 (by decide))).trans en0
      have s18 := (fh6 dr 1 (fun q => absurd q.2 (by decide))).trans edw
      have s19 := (fh6 dr 2 (fun q => absurd q.2 (by decide))).trans edh
      have s20 := (fh6 sk 1 (fun q => absurd q.2 (by decide))).trans ec0
      refine gz_s 1 (pc' := 37) (L' := [some (.ref x), some (.int (zi n)), some (.int (zi i0))]) (S' := [.int (zi i0)]) rfl ?_
      have k21 := sh6.2.1
      have k21b := sh6.2.2.1
      have hl22 : h6.2.2.2.1 bt = h.2.2.2.1 bt := congrFun sh6.2.2.2.2.1 bt
      have hl23 : 1024 ≤ h6.2.2.2.1 bt ∧ h6.2.2.2.1 bt ≤ 1000000 := gJ.rowl (G := gGG) sh6.1 tbt rfl
      have k24 := sh6.2.1
      have k24b := sh6.2.2.1
      have hl25 : h6.2.2.2.1 bt = h.2.2.2.1 bt := congrFun sh6.2.2.2.2.1 bt
      have hix26 : gIx ty x ld (h6.2.2.2.1 bt : Int) (64 * dw + n0 + 4096 * dh + 262144 * n) S h6 := ⟨pic, b0, b1, b2, dr, sk, bt, n0, c0, n, dw, dh, ⟨tx, tdr, tsk, tbt⟩, ⟨s13, s14, s15, s16⟩, pr9, pr10, ⟨s17, by omega, by omega⟩, ⟨eh6, by omega, by omega⟩, ⟨s20, by omega, by omega⟩, ⟨by omega, by omega⟩, pr11, pr12, ⟨s18, by omega, by omega⟩, ⟨s19, by omega, by omega⟩, by omega, rfl, pr7, ⟨pr8, hc0⟩, htz⟩
      have G27 : gSg [] [] [55003] ty h ty h6 := gSg.ss G0 sh6 (by decide)
      exact gz_end (I := .ireturn) (len := 1) rfl (Or.inl rfl) ⟨ty, G27, ld, (h6.2.2.2.1 bt : Int), (64 * dw + n0 + 4096 * dh + 262144 * n), (by omega), (by omega), (by omega), (by omega), (by omega), (by omega), hix26, Or.inl ⟨i0, rfl, (by omega), (by omega), (by omega), (by omega), (by omega), (by omega), (by dsimp only; omega), (by dsimp only; omega), (by omega), (by omega)⟩⟩
    · refine gy_icF rfl (by decide) (by decide) (by omega) (by omega) hc5 ?_
      have hl28 : 1024 ≤ h.2.2.2.1 bt ∧ h.2.2.2.1 bt ≤ 1000000 := gJ.rowl (G := gGG) hS.1 tbt rfl
      have hix29 : gIx ty x ld (h.2.2.2.1 bt : Int) (64 * dw + n0 + 4096 * dh + 262144 * i0) S h := ⟨pic, b0, b1, b2, dr, sk, bt, n0, c0, i0, dw, dh, ⟨tx, tdr, tsk, tbt⟩, ⟨ex2, ex3, ex4, ex0⟩, hpc, htc, ⟨en0, by omega, by omega⟩, ⟨eiv, by omega, by omega⟩, ⟨ec0, by omega, by omega⟩, ⟨by omega, by omega⟩, hrr, hrw, ⟨edw, by omega, by omega⟩, ⟨edh, by omega, by omega⟩, by omega, rfl, hxr, ⟨hsw, hc0⟩, htz⟩
      have G30 : gSg [] [] [55003] ty h ty h := gSg.ss G0 hS (by decide)
      exact gz_end (I := .new 134) (len := 3) rfl (Or.inr (by decide)) ⟨ty, G30, ld, (h.2.2.2.1 bt : Int), (64 * dw + n0 + 4096 * dh + 262144 * i0), (by omega), (by omega), (by omega), (by omega), (by omega), (by omega), hix29, Or.inr ⟨rfl, ⟨rfl, (by omega)⟩, (by omega), (by dsimp only; omega), (by dsimp only; omega), (by omega), (by omega)⟩⟩
set_option maxRecDepth 20000 in
set_option maxHeartbeats 4000000 in
theorem cl_DctFilter_octet (d : Nat) {ty : Nat → Nat} {h : gH} (hJ : gJ rT 1027 ty h) (x : Nat) (tx : ty x = 50) (i : Int) (ri : (-2147483648) ≤ i ∧ i ≤ 2147483647) (S : gSS) (ld : Int) (rld : 0 ≤ ld ∧ ld ≤ 192) (lb : Int) (rlb : 1024 ≤ lb ∧ lb ≤ 1000000) (iv : Int) (riv : 0 ≤ iv ∧ iv ≤ 26476544) (uq : gUq ty) (hyix : gIx ty x ld lb iv S h) : gz gPP gGG gcn (d + 0) gt129 0 (gent [.ref x, .int (zi i)] 2) [] h (fun q _ => ∃ ty9 : Nat → Nat, gSg [] [] [] ty h ty9 q.2.2 ∧ ∃ ld1 lb1 iv1 : Int, 0 ≤ ld1 ∧ ld1 ≤ 192 ∧ 1024 ≤ lb1 ∧ lb1 ≤ 1000000 ∧ 0 ≤ iv1 ∧ iv1 ≤ 26476544 ∧ (gIx ty9 x ld1 lb1 iv1 S q.2.2) ∧ ((∃ z : Int, gfin gt129 q.1 q.2.1 = some (some (.int (zi z))) ∧ (-128) ≤ z ∧ z ≤ 127 ∧ (0 ≤ i) ∧ (i < S.2.1) ∧ (z = eeS (S.2.2.2.2 i.toNat)) ∧ (iv1 = iv) ∧ (1024 * (((q.2.2.1 : Int) - h.1) - 31 - 2 * (ld1 - ld)) ≤ lb1 - lb) ∧ (((q.2.2.2.1 : Int) - h.2.1) ≤ 4303 + 12480 * (ld1 - ld) + 2 * (lb1 - lb)) ∧ (ld ≤ ld1) ∧ (lb ≤ lb1)) ∨ (q.2.1 = [] ∧ ((q.1 = 15 ∧ (¬ (0 ≤ i ∧ i < S.2.1)))) ∧ (iv1 = iv) ∧ (1024 * (((q.2.2.1 : Int) - h.1) - 31 - 2 * (ld1 - ld)) ≤ lb1 - lb) ∧ (((q.2.2.2.1 : Int) - h.2.1) ≤ 4303 + 12480 * (ld1 - ld) + 2 * (lb1 - lb)) ∧ (ld ≤ ld1) ∧ (lb ≤ lb1)))) := by
  have hS : gSs rT 1027 ty [] h h := gSs.rf hJ
  have G0 : gSg [] [] [] ty h ty h := gSg.rf hJ (fun x hx => by cases hx)
  obtain ⟨pic, b0, b1, b2, dr, sk, bt, n0, c0, i0, dw, dh, ⟨_, tdr, tsk, tbt⟩, ⟨ex2, ex3, ex4, ex0⟩, hpc, htc, ⟨en0, rn0⟩, ⟨eiv, ri0⟩, ⟨ec0, rc0⟩, ⟨lc0, llb⟩, hrr, hrw, ⟨edw, rdw⟩, ⟨edh, rdh⟩, hwh, hcd, hxr, ⟨hsw, hc0⟩, htz⟩ := hyix
  have tpic := hpc.1.1
  have tb0 := hpc.1.2.1
  have tb1 := hpc.1.2.2.1
  have tb2 := hpc.1.2.2.2
  refine gz_s 1 (pc' := 1) (L' := [some (.ref x), some (.int (zi i))]) (S' := [.int (zi i)]) rfl ?_
  by_cases hc1 : (i : Int) < 0
  · refine gy_ifT (pc' := 15) rfl (by decide) (by decide) (by omega) hc1 ?_
    have hl2 : 1024 ≤ h.2.2.2.1 bt ∧ h.2.2.2.1 bt ≤ 1000000 := gJ.rowl (G := gGG) hS.1 tbt rfl
    have hix3 : gIx ty x ld (h.2.2.2.1 bt : Int) (64 * dw + n0 + 4096 * dh + 262144 * i0) S h := ⟨pic, b0, b1, b2, dr, sk, bt, n0, c0, i0, dw, dh, ⟨tx, tdr, tsk, tbt⟩, ⟨ex2, ex3, ex4, ex0⟩, hpc, htc, ⟨en0, by omega, by omega⟩, ⟨eiv, by omega, by omega⟩, ⟨ec0, by omega, by omega⟩, ⟨by omega, by omega⟩, hrr, hrw, ⟨edw, by omega, by omega⟩, ⟨edh, by omega, by omega⟩, by omega, rfl, hxr, ⟨hsw, hc0⟩, htz⟩
    have G4 : gSg [] [] [] ty h ty h := gSg.ss G0 hS (by decide)
    exact gz_end (I := .new 108) (len := 3) rfl (Or.inr (by decide)) ⟨ty, G4, ld, (h.2.2.2.1 bt : Int), (64 * dw + n0 + 4096 * dh + 262144 * i0), (by omega), (by omega), (by omega), (by omega), (by omega), (by omega), hix3, Or.inr ⟨rfl, ⟨rfl, (by omega)⟩, (by omega), (by dsimp only; omega), (by dsimp only; omega), (by omega), (by omega)⟩⟩
  · refine gy_ifF rfl (by decide) (by decide) (by omega) hc1 ?_
    refine gz_s 2 (pc' := 6) (L' := [some (.ref x), some (.int (zi i))]) (S' := [.ref x, .int (zi i)]) rfl ?_
    refine gs_gtk rfl (by decide) rfl hS.1 tx rfl rfl ex4 ?_
    refine gs_gtk rfl (by decide) rfl hS.1 tsk rfl rfl ec0 ?_
    by_cases hc5 : (i : Int) < c0
    · refine gy_icT (pc' := 25) rfl (by decide) (by decide) (by omega) (by omega) hc5 ?_
      refine gz_s 1 (pc' := 26) (L' := [some (.ref x), some (.int (zi i))]) (S' := [.ref x]) rfl ?_
      refine gs_gtk rfl (by decide) rfl hS.1 tx rfl rfl ex4 ?_
      refine gs_gtk rfl (by decide) rfl hS.1 tsk rfl rfl ex0 ?_
      refine gz_s 1 (pc' := 33) (L' := [some (.ref x), some (.int (zi i))]) (S' := [.int (zi i), .ref bt]) rfl ?_
      have hl6 : 1024 ≤ h.2.2.2.1 bt ∧ h.2.2.2.1 bt ≤ 1000000 := gJ.rowl (G := gGG) hS.1 tbt rfl
      have hl7 : h.2.2.2.1 bt = h.2.2.2.1 bt := congrFun hS.2.2.2.2.1 bt
      refine gs_bald rfl (by decide) hS.1 tbt rfl rfl (Or.inl rfl) (by decide) (fun _ => rfl) (by omega) (by omega) (fun z8 ez8 az8 bz8 => ?_)
      have hoc := gSW.rd (i := i) (z := z8) hsw ez8 (by omega) (by omega) (by omega)
      have hl9 : 1024 ≤ h.2.2.2.1 bt ∧ h.2.2.2.1 bt ≤ 1000000 := gJ.rowl (G := gGG) hS.1 tbt rfl
      have hix10 : gIx ty x ld (h.2.2.2.1 bt : Int) (64 * dw + n0 + 4096 * dh + 262144 * i0) S h := ⟨pic, b0, b1, b2, dr, sk, bt, n0, c0, i0, dw, dh, ⟨tx, tdr, tsk, tbt⟩, ⟨ex2, ex3, ex4, ex0⟩, hpc, htc, ⟨en0, by omega, by omega⟩, ⟨eiv, by omega, by omega⟩, ⟨ec0, by omega, by omega⟩, ⟨by omega, by omega⟩, hrr, hrw, ⟨edw, by omega, by omega⟩, ⟨edh, by omega, by omega⟩, by omega, rfl, hxr, ⟨hsw, hc0⟩, htz⟩
      have G11 : gSg [] [] [] ty h ty h := gSg.ss G0 hS (by decide)
      exact gz_end (I := .ireturn) (len := 1) rfl (Or.inl rfl) ⟨ty, G11, ld, (h.2.2.2.1 bt : Int), (64 * dw + n0 + 4096 * dh + 262144 * i0), (by omega), (by omega), (by omega), (by omega), (by omega), (by omega), hix10, Or.inl ⟨z8, (gfin_b rfl rfl (zi_in8 (by omega) (by omega))), (by omega), (by omega), (by omega), (by omega), (by omega), (by omega), (by dsimp only; omega), (by dsimp only; omega), (by omega), (by omega)⟩⟩
    · refine gy_icF rfl (by decide) (by decide) (by omega) (by omega) hc5 ?_
      have hl12 : 1024 ≤ h.2.2.2.1 bt ∧ h.2.2.2.1 bt ≤ 1000000 := gJ.rowl (G := gGG) hS.1 tbt rfl
      have hix13 : gIx ty x ld (h.2.2.2.1 bt : Int) (64 * dw + n0 + 4096 * dh + 262144 * i0) S h := ⟨pic, b0, b1, b2, dr, sk, bt, n0, c0, i0, dw, dh, ⟨tx, tdr, tsk, tbt⟩, ⟨ex2, ex3, ex4, ex0⟩, hpc, htc, ⟨en0, by omega, by omega⟩, ⟨eiv, by omega, by omega⟩, ⟨ec0, by omega, by omega⟩, ⟨by omega, by omega⟩, hrr, hrw, ⟨edw, by omega, by omega⟩, ⟨edh, by omega, by omega⟩, by omega, rfl, hxr, ⟨hsw, hc0⟩, htz⟩
      have G14 : gSg [] [] [] ty h ty h := gSg.ss G0 hS (by decide)
      exact gz_end (I := .new 108) (len := 3) rfl (Or.inr (by decide)) ⟨ty, G14, ld, (h.2.2.2.1 bt : Int), (64 * dw + n0 + 4096 * dh + 262144 * i0), (by omega), (by omega), (by omega), (by omega), (by omega), (by omega), hix13, Or.inr ⟨rfl, ⟨rfl, (by omega)⟩, (by omega), (by dsimp only; omega), (by dsimp only; omega), (by omega), (by omega)⟩⟩
set_option maxRecDepth 20000 in
set_option maxHeartbeats 4000000 in
theorem cl_DctFilter_take (d : Nat) {ty : Nat → Nat} {h : gH} (hJ : gJ rT 1027 ty h) (x : Nat) (tx : ty x = 50) (S : gSS) (ld : Int) (rld : 0 ≤ ld ∧ ld ≤ 192) (lb : Int) (rlb : 1024 ≤ lb ∧ lb ≤ 1000000) (iv : Int) (riv : 0 ≤ iv ∧ iv ≤ 26476544) (uq : gUq ty) (hyix : gIx ty x ld lb iv S h) : gz gPP gGG gcn (d + 1) gt67 0 (gent [.ref x] 2) [] h (fun q _ => ∃ ty9 : Nat → Nat, gSg [] [] [51001, 52999] ty h ty9 q.2.2 ∧ ∃ z ld1 lb1 iv1 : Int, gfin gt67 q.1 q.2.1 = some (some (.int (zi z))) ∧ 0 ≤ z ∧ z ≤ 2000 ∧ 0 ≤ ld1 ∧ ld1 ≤ 192 ∧ 1024 ≤ lb1 ∧ lb1 ≤ 1000000 ∧ 0 ≤ iv1 ∧ iv1 ≤ 26476544 ∧ (z = if S.2.1 < 2000 then S.2.1 else 2000) ∧ (iv1 = iv) ∧ (1024 * (((q.2.2.1 : Int) - h.1) - 31 - 2 * (ld1 - ld)) ≤ lb1 - lb) ∧ (((q.2.2.2.1 : Int) - h.2.1) ≤ 4303 + 12480 * (ld1 - ld) + 2 * (lb1 - lb)) ∧ (ld ≤ ld1) ∧ (lb ≤ lb1) ∧ (gIx ty9 x ld1 lb1 iv1 S q.2.2)) := by
  have hS : gSs rT 1027 ty [51001, 52999] h h := gSs.rf hJ
  have G0 : gSg [] [] [51001, 52999] ty h ty h := gSg.rf hJ (fun x hx => by cases hx)
  obtain ⟨pic, b0, b1, b2, dr, sk, bt, n0, c0, i0, dw, dh, ⟨_, tdr, tsk, tbt⟩, ⟨ex2, ex3, ex4, ex0⟩, hpc, htc, ⟨en0, rn0⟩, ⟨eiv, ri0⟩, ⟨ec0, rc0⟩, ⟨lc0, llb⟩, hrr, hrw, ⟨edw, rdw⟩, ⟨edh, rdh⟩, hwh, hcd, hxr, ⟨hsw, hc0⟩, htz⟩ := hyix
  have tpic := hpc.1.1
  have tb0 := hpc.1.2.1
  have tb1 := hpc.1.2.2.1
  have tb2 := hpc.1.2.2.2
  refine gz_s 1 (pc' := 1) (L' := [some (.ref x), none]) (S' := [.ref x]) rfl ?_
  refine gs_gtk rfl (by decide) rfl hS.1 tx rfl rfl ex4 ?_
  refine gs_gtk rfl (by decide) rfl hS.1 tsk rfl rfl ec0 ?_
  refine gz_s 1 (pc' := 10) (L' := [some (.ref x), none]) (S' := [.int (zi 2000), .int (zi c0)]) rfl ?_
  refine gz_call rfl (by decide) rfl (by decide) (by decide) (gcal_of rfl rfl rfl (Nat.le_of_ble_eq_true rfl) rfl) (cl_Math_min _ hS.1 c0 ⟨by omega, by omega⟩ 2000 ⟨by omega, by omega⟩ ) (fun q1 _ wq1 => ?_)
  obtain ⟨pq1, oq1, hq1⟩ := q1
  obtain ⟨xq1, zq1, gq1, aq1, bq1, uq1_0, uq1_1, uq1_2⟩ := wq1
  refine ⟨_, gq1, ?_⟩
  show gz gPP gGG gcn _ _ 13 [some (.ref x), none] [.int (zi zq1)] hq1 _
  have sq1 : gSs rT 1027 ty [51001, 52999] h hq1 := gSs.tr hS xq1 (by decide)
  have s2 := (xq1.2.2.2.2.2 x 2 (by rw [tx]; decide)).trans ex2
  have s3 := (xq1.2.2.2.2.2 x 3 (by rw [tx]; decide)).trans ex3
  have s4 := (xq1.2.2.2.2.2 x 4 (by rw [tx]; decide)).trans ex4
  have s5 := (xq1.2.2.2.2.2 sk 0 (by rw [tsk]; decide)).trans ex0
  have s6 := (xq1.2.2.2.2.2 dr 8 (by rw [tdr]; decide)).trans en0
  have s7 := (xq1.2.2.2.2.2 dr 3 (by rw [tdr]; decide)).trans eiv
  have s8 := (xq1.2.2.2.2.2 dr 1 (by rw [tdr]; decide)).trans edw
  have s9 := (xq1.2.2.2.2.2 dr 2 (by rw [tdr]; decide)).trans edh
  have s10 := (xq1.2.2.2.2.2 sk 1 (by rw [tsk]; decide)).trans ec0
  have pr11 := gXr.fr xq1.2 (by decide) hxr
  have pr12 := gSW.fr xq1.2 (by decide) hsw
  have pr13 := gPC.fr xq1.2 (by decide) hpc
  have pr14 := gTc.fr xq1.2 (by decide) htc
  have pr15 := gRr.fr xq1.2 (by decide) hrr
  have pr16 := gRw.fr xq1.2 (by decide) hrw
  refine gz_s 2 (pc' := 15) (L' := [some (.ref x), some (.int (zi zq1))]) (S' := [.ref x]) rfl ?_
  refine gs_gtk rfl (by decide) rfl sq1.1 tx rfl rfl s4 ?_
  refine gs_gtk rfl (by decide) rfl sq1.1 tsk rfl rfl s5 ?_
  refine gz_s 2 (pc' := 23) (L' := [some (.ref x), some (.int (zi zq1))]) (S' := [.ref x, .int (zi 0), .ref bt]) rfl ?_
  refine gs_gtr rfl (by decide) rfl sq1.1 tx rfl rfl rfl (fun c17 ec17 tc17 => ?_)
  refine gs_gtr rfl (by decide) rfl sq1.1 tc17 rfl rfl rfl (fun c18 ec18 tc18 => ?_)
  refine gz_s 2 (pc' := 31) (L' := [some (.ref x), some (.int (zi zq1))]) (S' := [.int (zi zq1), .int (zi 0), .ref c18, .int (zi 0), .ref bt]) rfl ?_
  have k20 := sq1.2.1
  have k20b := sq1.2.2.1
  have hl21 : hq1.2.2.2.1 bt = h.2.2.2.1 bt := congrFun sq1.2.2.2.2.1 bt
  have hl22 : 2000 ≤ hq1.2.2.2.1 c18 ∧ hq1.2.2.2.1 c18 ≤ 2000 := gJ.rowl (G := gGG) sq1.1 tc18 rfl
  have hl23 : 1024 ≤ hq1.2.2.2.1 bt ∧ hq1.2.2.2.1 bt ≤ 1000000 := gJ.rowl (G := gGG) sq1.1 tbt rfl
  refine gs_copy rfl (by decide) (by omega) rfl sq1 tc18 rfl rfl tbt rfl rfl (Or.inr ⟨rfl, rfl⟩) (by decide) (by decide) (fun _ => rfl) (fun _ => rfl) (by decide) (by decide) (by omega) (by omega) (by omega) (by omega) (by omega) (by decide) (fun _ => (by decide : (52999 : Nat) ∈ ([51001, 52999] : List Nat))) (fun h19 sh19 f9h19 => ?_)
  have fh19 : ∀ b j, ¬ (b = c18 ∧ True) → h19.2.2.2.2 b j = hq1.2.2.2.2 b j := fun b j hn => f9h19 b j (fun e => hn ⟨e, trivial⟩)
  have pr24 := gXr.pa fh19 tc18 (by decide) pr11
  have pr25 := gSW.pa fh19 tc18 (by decide) pr12
  have pr26 := gPC.pa fh19 (sh19.2.2.2.2.1.trans sq1.2.2.2.2.1.symm) tc18 (fun _ => (by decide : ¬ (52999 : Nat) ∈ gPCp)) pr13
  have pr27 := gTc.pa fh19 tc18 (by decide) pr14
  have pr28 := gRr.pa fh19 (sh19.2.2.2.2.1.trans sq1.2.2.2.2.1.symm) tc18 (fun _ => (by decide : ¬ (52999 : Nat) ∈ gRrp)) pr15
  have pr29 := gRw.pa fh19 (sh19.2.2.2.2.1.trans sq1.2.2.2.2.1.symm) tc18 (fun _ => (by decide : ¬ (52999 : Nat) ∈ gRwp)) pr16
  have s30 := (fh19 x 2 (fun q => absurd (((tx).symm.trans (congrArg ty q.1)).trans tc18) (by decide))).trans s2
  have s31 := (fh19 x 3 (fun q => absurd (((tx).symm.trans (congrArg ty q.1)).trans tc18) (by decide))).trans s3
  have s32 := (fh19 x 4 (fun q => absurd (((tx).symm.trans (congrArg ty q.1)).trans tc18) (by decide))).trans s4
  have s33 := (fh19 sk 0 (fun q => absurd (((tsk).symm.trans (congrArg ty q.1)).trans tc18) (by decide))).trans s5
  have s34 := (fh19 dr 8 (fun q => absurd (((tdr).symm.trans (congrArg ty q.1)).trans tc18) (by decide))).trans s6
  have s35 := (fh19 dr 3 (fun q => absurd (((tdr).symm.trans (congrArg ty q.1)).trans tc18) (by decide))).trans s7
  have s36 := (fh19 dr 1 (fun q => absurd (((tdr).symm.trans (congrArg ty q.1)).trans tc18) (by decide))).trans s8
  have s37 := (fh19 dr 2 (fun q => absurd (((tdr).symm.trans (congrArg ty q.1)).trans tc18) (by decide))).trans s9
  have s38 := (fh19 sk 1 (fun q => absurd (((tsk).symm.trans (congrArg ty q.1)).trans tc18) (by decide))).trans s10
  have s39 := (fh19 x 0 (fun q => absurd (((tx).symm.trans (congrArg ty q.1)).trans tc18) (by decide))).trans ec17
  have s40 := (fh19 c17 0 (fun q => absurd (((tc17).symm.trans (congrArg ty q.1)).trans tc18) (by decide))).trans ec18
  refine gz_s 1 (pc' := 35) (L' := [some (.ref x), some (.int (zi zq1))]) (S' := [.ref x]) rfl ?_
  refine gs_gtk rfl (by decide) rfl sh19.1 tx rfl rfl s39 ?_
  refine gz_s 1 (pc' := 39) (L' := [some (.ref x), some (.int (zi zq1))]) (S' := [.int (zi zq1), .ref c17]) rfl ?_
  refine gs_put rfl (by decide) rfl sh19 tc17 rfl rfl rfl rfl (Or.inl rfl) (by decide) (by omega) (by omega) (fun h41 sh41 eh41 fh41 => ?_)
  have pr42 := gXr.pt fh41 tc17 (by decide) pr24
  have pr43 := gSW.pt fh41 tc17 (by decide) pr25
  have pr44 := gPC.pk fh41 (sh41.2.2.2.2.1.trans sh19.2.2.2.2.1.symm) tc17 (by decide) pr26
  have pr45 := gTc.pt fh41 tc17 (by decide) pr27
  have pr46 := gRr.pk fh41 (sh41.2.2.2.2.1.trans sh19.2.2.2.2.1.symm) tc17 (by decide) pr28
  have pr47 := gRw.pk fh41 (sh41.2.2.2.2.1.trans sh19.2.2.2.2.1.symm) tc17 (by decide) pr29
  have s48 := (fh41 x 2 (fun q => absurd q.2 (by decide))).trans s30
  have s49 := (fh41 x 3 (fun q => absurd q.2 (by decide))).trans s31
  have s50 := (fh41 x 4 (fun q => absurd q.2 (by decide))).trans s32
  have s51 := (fh41 sk 0 (fun q => absurd q.2 (by decide))).trans s33
  have s52 := (fh41 dr 8 (fun q => absurd q.2 (by decide))).trans s34
  have s53 := (fh41 dr 3 (fun q => absurd q.2 (by decide))).trans s35
  have s54 := (fh41 dr 1 (fun q => absurd (((tdr).symm.trans (congrArg ty q.1)).trans tc17) (by decide))).trans s36
  have s55 := (fh41 dr 2 (fun q => absurd q.2 (by decide))).trans s37
  have s56 := (fh41 sk 1 (fun q => absurd (((tsk).symm.trans (congrArg ty q.1)).trans tc17) (by decide))).trans s38
  have s57 := (fh41 x 0 (fun q => absurd q.2 (by decide))).trans s39
  have s58 := (fh41 c17 0 (fun q => absurd q.2 (by decide))).trans s40
  refine gz_s 1 (pc' := 43) (L' := [some (.ref x), some (.int (zi zq1))]) (S' := [.int (zi zq1)]) rfl ?_
  have k59 := sh41.2.1
  have k59b := sh41.2.2.1
  have hl60 : h41.2.2.2.1 bt = h.2.2.2.1 bt := congrFun sh41.2.2.2.2.1 bt
  have hl61 : 1024 ≤ h41.2.2.2.1 bt ∧ h41.2.2.2.1 bt ≤ 1000000 := gJ.rowl (G := gGG) sh41.1 tbt rfl
  have k62 := sh41.2.1
  have k62b := sh41.2.2.1
  have hl63 : h41.2.2.2.1 bt = h.2.2.2.1 bt := congrFun sh41.2.2.2.2.1 bt
  have hix64 : gIx ty x ld (h41.2.2.2.1 bt : Int) (64 * dw + n0 + 4096 * dh + 262144 * i0) S h41 := ⟨pic, b0, b1, b2, dr, sk, bt, n0, c0, i0, dw, dh, ⟨tx, tdr, tsk, tbt⟩, ⟨s48, s49, s50, s51⟩, pr44, pr45, ⟨s52, by omega, by omega⟩, ⟨s53, by omega, by omega⟩, ⟨s56, by omega, by omega⟩, ⟨by omega, by omega⟩, pr46, pr47, ⟨s54, by omega, by omega⟩, ⟨s55, by omega, by omega⟩, by omega, rfl, pr42, ⟨pr43, hc0⟩, htz⟩
  have G65 : gSg [] [] [51001, 52999] ty h ty h41 := gSg.ss G0 sh41 (by decide)
  exact gz_end (I := .ireturn) (len := 1) rfl (Or.inl rfl) ⟨ty, G65, zq1, ld, (h41.2.2.2.1 bt : Int), (64 * dw + n0 + 4096 * dh + 262144 * i0), rfl, (by omega), (by omega), (by omega), (by omega), (by omega), (by omega), (by omega), (by omega), (by omega), (by omega), (by dsimp only; omega), (by dsimp only; omega), (by omega), (by omega), hix64⟩
set_option maxRecDepth 20000 in
set_option maxHeartbeats 4000000 in
theorem cl_DctFilter_read (d : Nat) {ty : Nat → Nat} {h : gH} (hJ : gJ rT 1027 ty h) (x : Nat) (tx : ty x = 50) (S : gSS) (ld : Int) (rld : 0 ≤ ld ∧ ld ≤ 192) (lb : Int) (rlb : 1024 ≤ lb ∧ lb ≤ 1000000) (iv : Int) (riv : 0 ≤ iv ∧ iv ≤ 26476544) (uq : gUq ty) (hyix : gIx ty x ld lb iv S h) : gz gPP gGG gcn (d + 8) gt7 0 (gent [.ref x] 2) [] h (fun q _ => ∃ ty9 : Nat → Nat, gSg [65, 66, 67, 68, 69, 70, 101, 102, 103, 112, 113, 200] [] [50005, 51001, 54002, 54003, 54004, 54005, 54006, 54007, 54008, 54009, 54010, 54011, 54012, 54013, 58999, 65003, 66001, 66002, 66003, 66004, 66005, 66010, 66011, 66012, 66013, 66014, 67001, 67002, 67003, 69999, 70999, 82000, 82001, 82002, 82003, 82004, 82005, 82006, 82007, 82008, 82009, 82010, 82011, 83000, 83001, 83002, 83003, 83004, 83005, 83006, 83007, 83008, 83009, 83010, 83011, 84000, 84001, 84002, 84003, 84004, 84005, 84006, 84007, 84008, 84009, 84010, 84011, 102999, 103999, 112999, 113999] ty h ty9 q.2.2 ∧ ∃ z ld1 lb1 iv1 : Int, gfin gt7 q.1 q.2.1 = some (some (.int (zi z))) ∧ (-2147483648) ≤ z ∧ z ≤ 2147483647 ∧ 0 ≤ ld1 ∧ ld1 ≤ 192 ∧ 1024 ≤ lb1 ∧ lb1 ≤ 1000000 ∧ 0 ≤ iv1 ∧ iv1 ≤ 26476544 ∧ (iv1 = iv) ∧ (1024 * (((q.2.2.1 : Int) - h.1) - 31 - 2 * (ld1 - ld)) ≤ lb1 - lb) ∧ (((q.2.2.2.1 : Int) - h.2.1) ≤ 4303 + 12480 * (ld1 - ld) + 2 * (lb1 - lb)) ∧ (ld ≤ ld1) ∧ (lb ≤ lb1) ∧ (gIx ty9 x ld1 lb1 iv1 S q.2.2) ∧ gUq ty9) := by
  have hS : gSs rT 1027 ty [50005, 51001, 54002, 54003, 54004, 54005, 54006, 54007, 54008, 54009, 54010, 54011, 54012, 54013, 58999, 65003, 66001, 66002, 66003, 66004, 66005, 66010, 66011, 66012, 66013, 66014, 67001, 67002, 67003, 69999, 70999, 82000, 82001, 82002, 82003, 82004, 82005, 82006, 82007, 82008, 82009, 82010, 82011, 83000, 83001, 83002, 83003, 83004, 83005, 83006, 83007, 83008, 83009, 83010, 83011, 84000, 84001, 84002, 84003, 84004, 84005, 84006, 84007, 84008, 84009, 84010, 84011, 102999, 103999, 112999, 113999] h h := gSs.rf hJ
  have G0 : gSg [65, 66, 67, 68, 69, 70, 101, 102, 103, 112, 113, 200] [] [50005, 51001, 54002, 54003, 54004, 54005, 54006, 54007, 54008, 54009, 54010, 54011, 54012, 54013, 58999, 65003, 66001, 66002, 66003, 66004, 66005, 66010, 66011, 66012, 66013, 66014, 67001, 67002, 67003, 69999, 70999, 82000, 82001, 82002, 82003, 82004, 82005, 82006, 82007, 82008, 82009, 82010, 82011, 83000, 83001, 83002, 83003, 83004, 83005, 83006, 83007, 83008, 83009, 83010, 83011, 84000, 84001, 84002, 84003, 84004, 84005, 84006, 84007, 84008, 84009, 84010, 84011, 102999, 103999, 112999, 113999] ty h ty h := gSg.rf hJ (fun x hx => by cases hx)
  obtain ⟨pic, b0, b1, b2, dr, sk, bt, n0, c0, i0, dw, dh, ⟨_, tdr, tsk, tbt⟩, ⟨ex2, ex3, ex4, ex0⟩, hpc, htc, ⟨en0, rn0⟩, ⟨eiv, ri0⟩, ⟨ec0, rc0⟩, ⟨lc0, llb⟩, hrr, hrw, ⟨edw, rdw⟩, ⟨edh, rdh⟩, hwh, hcd, hxr, ⟨hsw, hc0⟩, htz⟩ := hyix
  have tpic := hpc.1.1
  have tb0 := hpc.1.2.1
  have tb1 := hpc.1.2.2.1
  have tb2 := hpc.1.2.2.2
  refine gz_s 1 (pc' := 1) (L' := [some (.ref x), none]) (S' := [.ref x]) rfl ?_
  refine gs_nul rfl (by decide) rfl hS.1 tx rfl rfl rfl (fun ec1 => ?_) (fun c1 ec1 tc1 => ?_)
  · skip
    have no9 := gRr.no hrr ec1
    refine gz_s 2 (pc' := 8) (L' := [some (.ref x), none]) (S' := [.ref x]) rfl ?_
    refine gs_newo rfl (by decide) rfl hS.1 (Nat.le_of_lt (Nat.lt_of_le_of_lt (gJ.cell hS.1 tx rfl).1 (gJ.cell hS.1 tx rfl).2.1)) (fun ty2 h3 c4 g5 tc4 kc4 zc4 nc4 mc4 ec4 dc4 => ?_)
    have mfc4 : h3.2.1 = h.2.1 + 4 := mc4
    have gac4 : h.1 ≤ c4 := by have h8 := G0.2.1; have h9 := hS.2.1; omega
    have nnc4 : 1027 ≤ c4 := by have h8 := (Nat.le_of_lt (Nat.lt_of_le_of_lt (gJ.cell hS.1 tx rfl).1 (gJ.cell hS.1 tx rfl).2.1)); omega
    have llc4 := Nat.lt_of_lt_of_eq (Nat.lt_succ_of_le (Nat.le_of_eq ec4)) nc4.symm
    have G6 : gSg [65, 66, 67, 68, 69, 70, 101, 102, 103, 112, 113, 200] [] [50005, 51001, 54002, 54003, 54004, 54005, 54006, 54007, 54008, 54009, 54010, 54011, 54012, 54013, 58999, 65003, 66001, 66002, 66003, 66004, 66005, 66010, 66011, 66012, 66013, 66014, 67001, 67002, 67003, 69999, 70999, 82000, 82001, 82002, 82003, 82004, 82005, 82006, 82007, 82008, 82009, 82010, 82011, 83000, 83001, 83002, 83003, 83004, 83005, 83006, 83007, 83008, 83009, 83010, 83011, 84000, 84001, 84002, 84003, 84004, 84005, 84006, 84007, 84008, 84009, 84010, 84011, 102999, 103999, 112999, 113999] ty h ty2 h3 := gSg.tr (gSg.ss G0 hS (by decide)) g5 (by decide) (by decide) (fun x hx => by cases hx)
    have t7 : ty2 x = 50 := gSg.typ g5 hS.1 tx rfl
    have t8 : ty2 pic = 54 := gSg.typ g5 hS.1 tpic rfl
    have t9 : ty2 b0 = 82 := gSg.typ g5 hS.1 tb0 rfl
    have t10 : ty2 b1 = 83 := gSg.typ g5 hS.1 tb1 rfl
    have t11 : ty2 b2 = 84 := gSg.typ g5 hS.1 tb2 rfl
    have t12 : ty2 dr = 55 := gSg.typ g5 hS.1 tdr rfl
    have t13 : ty2 sk = 56 := gSg.typ g5 hS.1 tsk rfl
    have t14 : ty2 bt = 114 := gSg.typ g5 hS.1 tbt rfl
    have hl15 : h3.2.2.2.1 bt = h.2.2.2.1 bt := gSg.len g5 hS.1 tbt rfl
    have s16 := gSg.at g5 hS.1 tx rfl (by decide) ex2
    have s17 := gSg.at g5 hS.1 tx rfl (by decide) ex3
    have s18 := gSg.at g5 hS.1 tx rfl (by decide) ex4
    have s19 := gSg.at g5 hS.1 tsk rfl (by decide) ex0
    have s20 := gSg.at g5 hS.1 tdr rfl (by decide) en0
    have s21 := gSg.at g5 hS.1 tdr rfl (by decide) eiv
    have s22 := gSg.at g5 hS.1 tdr rfl (by decide) edw
    have s23 := gSg.at g5 hS.1 tdr rfl (by decide) edh
    have s24 := gSg.at g5 hS.1 tsk rfl (by decide) ec0
    have s25 := gSg.at g5 hS.1 tx rfl (by decide) ec1
    have pr26 := gXr.gr g5 hS.1 (by decide) (by decide) hxr
    have pr27 := gSW.gr g5 hS.1 (by decide) hsw
    have pr28 := gPC.gr g5 hS.1 (by decide) hpc
    have pr29 := gTc.gr g5 hS.1 (by decide) (by decide) htc
    have pr30 := gRr.gr g5 hS.1 (by decide) (by decide) hrr
    have pr31 := gRw.gr g5 hS.1 (by decide) (by decide) hrw
    have pr32 : gNo [65, 66, 67, 68, 69, 70] ty2 := gNo.gr g5 (by decide) (gNo.sub (by decide) no9)
    have uq33 := gSg.uq g5 uq (by decide)
    have sS34 : gSs rT 1027 ty2 [50005, 51001, 54002, 54003, 54004, 54005, 54006, 54007, 54008, 54009, 54010, 54011, 54012, 54013, 58999, 65003, 66001, 66002, 66003, 66004, 66005, 66010, 66011, 66012, 66013, 66014, 67001, 67002, 67003, 69999, 70999, 82000, 82001, 82002, 82003, 82004, 82005, 82006, 82007, 82008, 82009, 82010, 82011, 83000, 83001, 83002, 83003, 83004, 83005, 83006, 83007, 83008, 83009, 83010, 83011, 84000, 84001, 84002, 84003, 84004, 84005, 84006, 84007, 84008, 84009, 84010, 84011, 102999, 103999, 112999, 113999] h3 h3 := gSs.rf g5.1
    refine gz_s 2 (pc' := 13) (L' := [some (.ref x), none]) (S' := [.ref x, .ref c4, .ref c4, .ref x]) rfl ?_
    refine gs_gtr rfl (by decide) rfl sS34.1 t7 rfl rfl rfl (fun c35 ec35 tc35 => ?_)
    refine gz_s 1 (pc' := 17) (L' := [some (.ref x), none]) (S' := [.ref x, .ref c35, .ref c4, .ref c4, .ref x]) rfl ?_
    refine gs_gtk rfl (by decide) rfl sS34.1 t7 rfl rfl s16 ?_
    refine gz_call rfl (by decide) rfl (by decide) (by decide) (gcal_of rfl rfl rfl (Nat.le_of_ble_eq_true rfl) rfl) (ct_Reader _ sS34.1 c4 tc4 nnc4 llc4 kc4 zc4 dc4 c35 tc35 pic t8 pr32 uq33) (fun q36 _ wq36 => ?_)
    obtain ⟨pq36, oq36, hq36⟩ := q36
    obtain ⟨tyq36, xq36, trq36_0, gq36, uq36_0, uq36_1, uqq36⟩ := wq36
    dsimp only at uq36_0 uq36_1
    refine ⟨_, gq36, ?_⟩
    show gz gPP gGG gcn _ _ 23 [some (.ref x), none] [.ref c4, .ref x] hq36 _
    have G37 : gSg [65, 66, 67, 68, 69, 70, 101, 102, 103, 112, 113, 200] [] [50005, 51001, 54002, 54003, 54004, 54005, 54006, 54007, 54008, 54009, 54010, 54011, 54012, 54013, 58999, 65003, 66001, 66002, 66003, 66004, 66005, 66010, 66011, 66012, 66013, 66014, 67001, 67002, 67003, 69999, 70999, 82000, 82001, 82002, 82003, 82004, 82005, 82006, 82007, 82008, 82009, 82010, 82011, 83000, 83001, 83002, 83003, 83004, 83005, 83006, 83007, 83008, 83009, 83010, 83011, 84000, 84001, 84002, 84003, 84004, 84005, 84006, 84007, 84008, 84009, 84010, 84011, 102999, 103999, 112999, 113999] ty h tyq36 hq36 := gSg.tr (gSg.ss G6 sS34 (by decide)) xq36 (by decide) (by decide) (fun x hx => Or.inl (by rw [List.mem_singleton.mp hx]; exact gac4))
    have t38 : tyq36 x = 50 := gSg.typ xq36 sS34.1 t7 rfl
    have t39 : tyq36 pic = 54 := gSg.typ xq36 sS34.1 t8 rfl
    have t40 : tyq36 b0 = 82 := gSg.typ xq36 sS34.1 t9 rfl
    have t41 : tyq36 b1 = 83 := gSg.typ xq36 sS34.1 t10 rfl
    have t42 : tyq36 b2 = 84 := gSg.typ xq36 sS34.1 t11 rfl
    have t43 : tyq36 dr = 55 := gSg.typ xq36 sS34.1 t12 rfl
    have t44 : tyq36 sk = 56 := gSg.typ xq36 sS34.1 t13 rfl
    have t45 : tyq36 bt = 114 := gSg.typ xq36 sS34.1 t14 rfl
    have hl46 : hq36.2.2.2.1 bt = h3.2.2.2.1 bt := gSg.len xq36 sS34.1 t14 rfl
    have t47 : tyq36 c35 = 51 := gSg.typ xq36 sS34.1 tc35 rfl
    have s48 := gSg.at xq36 sS34.1 t7 rfl (by decide) s16
    have s49 := gSg.at xq36 sS34.1 t7 rfl (by decide) s17
    have s50 := gSg.at xq36 sS34.1 t7 rfl (by decide) s18
    have s51 := gSg.at xq36 sS34.1 t13 rfl (by decide) s19
    have s52 := gSg.at xq36 sS34.1 t12 rfl (by decide) s20
    have s53 := gSg.at xq36 sS34.1 t12 rfl (by decide) s21
    have s54 := gSg.at xq36 sS34.1 t12 rfl (by decide) s22
    have s55 := gSg.at xq36 sS34.1 t12 rfl (by decide) s23
    have s56 := gSg.at xq36 sS34.1 t13 rfl (by decide) s24
    have s57 := gSg.at xq36 sS34.1 t7 rfl (by decide) s25
    have s58 := gSg.at xq36 sS34.1 t7 rfl (by decide) ec35
    have pr59 := gXr.gr xq36 sS34.1 (by decide) (by decide) pr26
    have pr60 := gSW.gr xq36 sS34.1 (by decide) pr27
    have pr61 := gPC.gr xq36 sS34.1 (by decide) pr28
    have pr62 := gTc.gr xq36 sS34.1 (by decide) (by decide) pr29
    have pr63 := gRw.gr xq36 sS34.1 (by decide) (by decide) pr31
    have sS64 : gSs rT 1027 tyq36 [50005, 51001, 54002, 54003, 54004, 54005, 54006, 54007, 54008, 54009, 54010, 54011, 54012, 54013, 58999, 65003, 66001, 66002, 66003, 66004, 66005, 66010, 66011, 66012, 66013, 66014, 67001, 67002, 67003, 69999, 70999, 82000, 82001, 82002, 82003, 82004, 82005, 82006, 82007, 82008, 82009, 82010, 82011, 83000, 83001, 83002, 83003, 83004, 83005, 83006, 83007, 83008, 83009, 83010, 83011, 84000, 84001, 84002, 84003, 84004, 84005, 84006, 84007, 84008, 84009, 84010, 84011, 102999, 103999, 112999, 113999] hq36 hq36 := gSs.rf xq36.1
    refine gs_ptr (s9 := 0) rfl (by decide) rfl sS64 t38 rfl rfl (Or.inr rfl) rfl (Or.inl rfl) (by decide) trq36_0 (fun h65 sh65 eh65 fh65 => ?_)
    have pr66 := gXr.pt fh65 t38 (by decide) pr59
    have pr67 := gSW.pt fh65 t38 (by decide) pr60
    have pr68 := gPC.pk fh65 (sh65.2.2.2.2.1.trans sS64.2.2.2.2.1.symm) t38 (by decide) pr61
    have pr69 := gTc.pt fh65 t38 (by decide) pr62
    have pr70 := gRw.pk fh65 (sh65.2.2.2.2.1.trans sS64.2.2.2.2.1.symm) t38 (by decide) pr63
    have s71 := (fh65 x 2 (fun q => absurd q.2 (by decide))).trans s48
    have s72 := (fh65 x 3 (fun q => absurd q.2 (by decide))).trans s49
    have s73 := (fh65 x 4 (fun q => absurd q.2 (by decide))).trans s50
    have s74 := (fh65 sk 0 (fun q => absurd q.2 (by decide))).trans s51
    have s75 := (fh65 dr 8 (fun q => absurd q.2 (by decide))).trans s52
    have s76 := (fh65 dr 3 (fun q => absurd q.2 (by decide))).trans s53
    have s77 := (fh65 dr 1 (fun q => absurd q.2 (by decide))).trans s54
    have s78 := (fh65 dr 2 (fun q => absurd q.2 (by decide))).trans s55
    have s79 := (fh65 sk 1 (fun q => absurd q.2 (by decide))).trans s56
    have s80 := (fh65 x 0 (fun q => absurd q.2 (by decide))).trans s58
    refine gz_s 1 (pc' := 27) (L' := [some (.ref x), none]) (S' := [.ref x]) rfl ?_
    refine gs_gtk rfl (by decide) rfl sh65.1 t38 rfl rfl eh65 ?_
    refine gz_s 1 (pc' := 31) (L' := [some (.ref x), none]) (S' := [.ref x, .ref c4]) rfl ?_
    refine gs_gtr rfl (by decide) rfl sh65.1 t38 rfl rfl rfl (fun c81 ec81 tc81 => ?_)
    have k82 := sh65.2.1
    have k82b := sh65.2.2.1
    have hl83 : h65.2.2.2.1 bt = hq36.2.2.2.1 bt := congrFun sh65.2.2.2.2.1 bt
    obtain ⟨c84, ec84, tc84⟩ := gJ.ref (k := 0) (G := gGG) sh65.1 trq36_0 rfl rfl rfl
    have ee85 : c35 = c84 := uqq36 c35 c84 (t47.trans tc84.symm) (by rw [t47]; decide) (by rw [t47]; decide)
    subst ee85
    obtain ⟨c86, ec86, tc86⟩ := gJ.ref (k := 1) (G := gGG) sh65.1 trq36_0 rfl rfl rfl
    have ee87 : pic = c86 := uqq36 pic c86 (t39.trans tc86.symm) (by rw [t39]; decide) (by rw [t39]; decide)
    subst ee87
    obtain ⟨c88, ec88, tc88⟩ := gJ.ref (k := 0) (G := gGG) sh65.1 t39 rfl rfl rfl
    obtain ⟨c89, ec89, tc89⟩ := gJ.arl (j := 0) (q2 := 82) sh65.1 tc88 rfl rfl rfl (by decide)
    have ee90 : b0 = c89 := uqq36 b0 c89 (t40.trans tc89.symm) (by rw [t40]; decide) (by rw [t40]; decide)
    subst ee90
    obtain ⟨c91, ec91, tc91⟩ := gJ.arl (j := 1) (q2 := 83) sh65.1 tc88 rfl rfl rfl (by decide)
    have ee92 : b1 = c91 := uqq36 b1 c91 (t41.trans tc91.symm) (by rw [t41]; decide) (by rw [t41]; decide)
    subst ee92
    obtain ⟨c93, ec93, tc93⟩ := gJ.arl (j := 2) (q2 := 84) sh65.1 tc88 rfl rfl rfl (by decide)
    have ee94 : b2 = c93 := uqq36 b2 c93 (t42.trans tc93.symm) (by rw [t42]; decide) (by rw [t42]; decide)
    subst ee94
    obtain ⟨c95, ec95, tc95⟩ := gJ.ref (k := 2) (G := gGG) sh65.1 trq36_0 rfl rfl rfl
    obtain ⟨z96, ez96, az96, bz96⟩ := gJ.int (k := 1) (G := gGG) sh65.1 t47 rfl rfl rfl
    refine gz_call rfl (by decide) rfl (by decide) (by decide) (gcal_of rfl rfl rfl (Nat.le_of_ble_eq_true rfl) (gJ.recv (G := gGG) sh65.1 trq36_0 rfl rfl)) (cl_Reader_readPicture _ sh65.1 c4 trq36_0 c81 tc81 c35 ec84 t47 pic ec86 t39 c88 ec88 tc88 b0 ec89 t40 b1 ec91 t41 b2 ec93 t42 c95 ec95 tc95 z96 ez96 ⟨by omega, by omega⟩ ld ⟨by omega, by omega⟩ uqq36 pr68) (fun q97 _ wq97 => ?_)
    obtain ⟨pq97, oq97, hq97⟩ := q97
    obtain ⟨tyq97, xq97, zq97, xq97_0, gq97, aq97, bq97, axq97_0, bxq97_0, uq97_0, uq97_1, uq97_2, yq97_0⟩ := wq97
    dsimp only at uq97_0 uq97_1
    refine ⟨_, gq97, ?_⟩
    show gz gPP gGG gcn _ _ 37 [some (.ref x), none] [.int (zi zq97)] hq97 _
    have G98 : gSg [65, 66, 67, 68, 69, 70, 101, 102, 103, 112, 113, 200] [] [50005, 51001, 54002, 54003, 54004, 54005, 54006, 54007, 54008, 54009, 54010, 54011, 54012, 54013, 58999, 65003, 66001, 66002, 66003, 66004, 66005, 66010, 66011, 66012, 66013, 66014, 67001, 67002, 67003, 69999, 70999, 82000, 82001, 82002, 82003, 82004, 82005, 82006, 82007, 82008, 82009, 82010, 82011, 83000, 83001, 83002, 83003, 83004, 83005, 83006, 83007, 83008, 83009, 83010, 83011, 84000, 84001, 84002, 84003, 84004, 84005, 84006, 84007, 84008, 84009, 84010, 84011, 102999, 103999, 112999, 113999] ty h tyq97 hq97 := gSg.tr (gSg.ss G37 sh65 (by decide)) xq97 (by decide) (by decide) (fun x hx => by cases hx)
    have t99 : tyq97 x = 50 := gSg.typ xq97 sh65.1 t38 rfl
    have t100 : tyq97 pic = 54 := gSg.typ xq97 sh65.1 t39 rfl
    have t101 : tyq97 b0 = 82 := gSg.typ xq97 sh65.1 t40 rfl
    have t102 : tyq97 b1 = 83 := gSg.typ xq97 sh65.1 t41 rfl
    have t103 : tyq97 b2 = 84 := gSg.typ xq97 sh65.1 t42 rfl
    have t104 : tyq97 dr = 55 := gSg.typ xq97 sh65.1 t43 rfl
    have t105 : tyq97 sk = 56 := gSg.typ xq97 sh65.1 t44 rfl
    have t106 : tyq97 bt = 114 := gSg.typ xq97 sh65.1 t45 rfl
    have hl107 : hq97.2.2.2.1 bt = h65.2.2.2.1 bt := gSg.len xq97 sh65.1 t45 rfl
    have t108 : tyq97 c4 = 65 := gSg.typ xq97 sh65.1 trq36_0 rfl
    have t109 : tyq97 c35 = 51 := gSg.typ xq97 sh65.1 t47 rfl
    have t110 : tyq97 c81 = 53 := gSg.typ xq97 sh65.1 tc81 rfl
    have t111 : tyq97 c88 = 57 := gSg.typ xq97 sh65.1 tc88 rfl
    have t112 : tyq97 c95 = 66 := gSg.typ xq97 sh65.1 tc95 rfl
    have s113 := gSg.at xq97 sh65.1 t38 rfl (by decide) s71
    have s114 := gSg.at xq97 sh65.1 t38 rfl (by decide) s72
    have s115 := gSg.at xq97 sh65.1 t38 rfl (by decide) s73
    have s116 := gSg.at xq97 sh65.1 t44 rfl (by decide) s74
    have s117 := gSg.at xq97 sh65.1 t43 rfl (by decide) s75
    have s118 := gSg.at xq97 sh65.1 t43 rfl (by decide) s76
    have s119 := gSg.at xq97 sh65.1 t43 rfl (by decide) s77
    have s120 := gSg.at xq97 sh65.1 t43 rfl (by decide) s78
    have s121 := gSg.at xq97 sh65.1 t44 rfl (by decide) s79
    have s122 := gSg.at xq97 sh65.1 t38 rfl (by decide) s80
    have s123 := gSg.at xq97 sh65.1 t38 rfl (by decide) eh65
    have s124 := gSg.at xq97 sh65.1 t38 rfl (by decide) ec81
    have s125 := gSg.at xq97 sh65.1 trq36_0 rfl (by decide) ec84
    have s126 := gSg.at xq97 sh65.1 trq36_0 rfl (by decide) ec86
    have s127 := gSg.at xq97 sh65.1 t39 rfl (by decide) ec88
    have s128 := gSg.at xq97 sh65.1 tc88 rfl (by decide) ec89
    have s129 := gSg.at xq97 sh65.1 tc88 rfl (by decide) ec91
    have s130 := gSg.at xq97 sh65.1 tc88 rfl (by decide) ec93
    have s131 := gSg.at xq97 sh65.1 trq36_0 rfl (by decide) ec95
    have s132 := gSg.at xq97 sh65.1 t47 rfl (by decide) ez96
    have pr133 := gXr.gr xq97 sh65.1 (by decide) (by decide) pr66
    have pr134 := gSW.gr xq97 sh65.1 (by decide) pr67
    have pr135 := gTc.gr xq97 sh65.1 (by decide) (by decide) pr69
    have pr136 := gRw.gr xq97 sh65.1 (by decide) (by decide) pr70
    have uq137 := gSg.uq xq97 uqq36 (by decide)
    have sS138 : gSs rT 1027 tyq97 [50005, 51001, 54002, 54003, 54004, 54005, 54006, 54007, 54008, 54009, 54010, 54011, 54012, 54013, 58999, 65003, 66001, 66002, 66003, 66004, 66005, 66010, 66011, 66012, 66013, 66014, 67001, 67002, 67003, 69999, 70999, 82000, 82001, 82002, 82003, 82004, 82005, 82006, 82007, 82008, 82009, 82010, 82011, 83000, 83001, 83002, 83003, 83004, 83005, 83006, 83007, 83008, 83009, 83010, 83011, 84000, 84001, 84002, 84003, 84004, 84005, 84006, 84007, 84008, 84009, 84010, 84011, 102999, 103999, 112999, 113999] hq97 hq97 := gSs.rf xq97.1
    refine gz_s 2 (pc' := 39) (L' := [some (.ref x), some (.int (zi zq97))]) (S' := [.ref x]) rfl ?_
    refine gs_gtk rfl (by decide) rfl sS138.1 t99 rfl rfl s122 ?_
    refine gz_s 1 (pc' := 43) (L' := [some (.ref x), some (.int (zi zq97))]) (S' := [.int (zi 0), .ref c35]) rfl ?_
    refine gs_put rfl (by decide) rfl sS138 t109 rfl rfl rfl rfl (Or.inl rfl) (by decide) (by omega) (by omega) (fun h139 sh139 eh139 fh139 => ?_)
    have pr140 := gXr.pt fh139 t109 (by decide) pr133
    have pr141 := gSW.pt fh139 t109 (by decide) pr134
    have pr142 := gTc.pt fh139 t109 (by decide) pr135
    have pr143 := gRw.pk fh139 (sh139.2.2.2.2.1.trans sS138.2.2.2.2.1.symm) t109 (by decide) pr136
    have pr144 := gPC.pk fh139 (sh139.2.2.2.2.1.trans sS138.2.2.2.2.1.symm) t109 (by decide) yq97_0
    have s145 := (fh139 x 2 (fun q => absurd q.2 (by decide))).trans s113
    have s146 := (fh139 x 3 (fun q => absurd q.2 (by decide))).trans s114
    have s147 := (fh139 x 4 (fun q => absurd q.2 (by decide))).trans s115
    have s148 := (fh139 sk 0 (fun q => absurd q.2 (by decide))).trans s116
    have s149 := (fh139 dr 8 (fun q => absurd q.2 (by decide))).trans s117
    have s150 := (fh139 dr 3 (fun q => absurd q.2 (by decide))).trans s118
    have s151 := (fh139 dr 1 (fun q => absurd (((t104).symm.trans (congrArg tyq97 q.1)).trans t109) (by decide))).trans s119
    have s152 := (fh139 dr 2 (fun q => absurd q.2 (by decide))).trans s120
    have s153 := (fh139 sk 1 (fun q => absurd (((t105).symm.trans (congrArg tyq97 q.1)).trans t109) (by decide))).trans s121
    have s154 := (fh139 x 0 (fun q => absurd q.2 (by decide))).trans s122
    have s155 := (fh139 x 5 (fun q => absurd q.2 (by decide))).trans s123
    have s156 := (fh139 x 1 (fun q => absurd (((t99).symm.trans (congrArg tyq97 q.1)).trans t109) (by decide))).trans s124
    have s157 := (fh139 c4 0 (fun q => absurd q.2 (by decide))).trans s125
    have s158 := (fh139 c4 1 (fun q => absurd (((t108).symm.trans (congrArg tyq97 q.1)).trans t109) (by decide))).trans s126
    have s159 := (fh139 pic 0 (fun q => absurd q.2 (by decide))).trans s127
    have s160 := (fh139 c88 0 (fun q => absurd (((t111).symm.trans (congrArg tyq97 q.1)).trans t109) (by decide))).trans s128
    have s161 := (fh139 c88 1 (fun q => absurd (((t111).symm.trans (congrArg tyq97 q.1)).trans t109) (by decide))).trans s129
    have s162 := (fh139 c88 2 (fun q => absurd (((t111).symm.trans (congrArg tyq97 q.1)).trans t109) (by decide))).trans s130
    have s163 := (fh139 c4 2 (fun q => absurd q.2 (by decide))).trans s131
    refine gz_s 1 (pc' := 47) (L' := [some (.ref x), some (.int (zi zq97))]) (S' := [.int (zi zq97)]) rfl ?_
    have k164 := sh139.2.1
    have k164b := sh139.2.2.1
    have hl165 : h139.2.2.2.1 bt = hq97.2.2.2.1 bt := congrFun sh139.2.2.2.2.1 bt
    have hl166 : 1024 ≤ h139.2.2.2.1 bt ∧ h139.2.2.2.1 bt ≤ 1000000 := gJ.rowl (G := gGG) sh139.1 t106 rfl
    have k167 := sh139.2.1
    have k167b := sh139.2.2.1
    have hl168 : h139.2.2.2.1 bt = hq97.2.2.2.1 bt := congrFun sh139.2.2.2.2.1 bt
    have hix169 : gIx tyq97 x xq97_0 (h139.2.2.2.1 bt : Int) (64 * dw + n0 + 4096 * dh + 262144 * i0) S h139 := ⟨pic, b0, b1, b2, dr, sk, bt, n0, c0, i0, dw, dh, ⟨t99, t104, t105, t106⟩, ⟨s145, s146, s147, s148⟩, pr144, pr142, ⟨s149, by omega, by omega⟩, ⟨s150, by omega, by omega⟩, ⟨s153, by omega, by omega⟩, ⟨by omega, by omega⟩, ⟨t99, Or.inr ⟨c4, s155, t108⟩⟩, pr143, ⟨s151, by omega, by omega⟩, ⟨s152, by omega, by omega⟩, by omega, rfl, pr140, ⟨pr141, hc0⟩, htz⟩
    have G170 : gSg [65, 66, 67, 68, 69, 70, 101, 102, 103, 112, 113, 200] [] [50005, 51001, 54002, 54003, 54004, 54005, 54006, 54007, 54008, 54009, 54010, 54011, 54012, 54013, 58999, 65003, 66001, 66002, 66003, 66004, 66005, 66010, 66011, 66012, 66013, 66014, 67001, 67002, 67003, 69999, 70999, 82000, 82001, 82002, 82003, 82004, 82005, 82006, 82007, 82008, 82009, 82010, 82011, 83000, 83001, 83002, 83003, 83004, 83005, 83006, 83007, 83008, 83009, 83010, 83011, 84000, 84001, 84002, 84003, 84004, 84005, 84006, 84007, 84008, 84009, 84010, 84011, 102999, 103999, 112999, 113999] ty h tyq97 h139 := gSg.ss G98 sh139 (by decide)
    exact gz_end (I := .ireturn) (len := 1) rfl (Or.inl rfl) ⟨tyq97, G170, zq97, xq97_0, (h139.2.2.2.1 bt : Int), (64 * dw + n0 + 4096 * dh + 262144 * i0), rfl, (by omega), (by omega), (by omega), (by omega), (by omega), (by omega), (by omega), (by omega), (by omega), (by dsimp only; omega), (by dsimp only; omega), (by omega), (by omega), hix169, uq137⟩
  · skip
    refine gz_s 2 (pc' := 27) (L' := [some (.ref x), none]) (S' := [.ref x]) rfl ?_
    refine gs_gtk rfl (by decide) rfl hS.1 tx rfl rfl ec1 ?_
    refine gz_s 1 (pc' := 31) (L' := [some (.ref x), none]) (S' := [.ref x, .ref c1]) rfl ?_
    refine gs_gtr rfl (by decide) rfl hS.1 tx rfl rfl rfl (fun c171 ec171 tc171 => ?_)
    obtain ⟨c172, ec172, tc172⟩ := gJ.ref (k := 0) (G := gGG) hS.1 tc1 rfl rfl rfl
    obtain ⟨c173, ec173, tc173⟩ := gJ.ref (k := 1) (G := gGG) hS.1 tc1 rfl rfl rfl
    have ee174 : pic = c173 := uq pic c173 (tpic.trans tc173.symm) (by rw [tpic]; decide) (by rw [tpic]; decide)
    subst ee174
    obtain ⟨c175, ec175, tc175⟩ := gJ.ref (k := 0) (G := gGG) hS.1 tpic rfl rfl rfl
    obtain ⟨c176, ec176, tc176⟩ := gJ.arl (j := 0) (q2 := 82) hS.1 tc175 rfl rfl rfl (by decide)
    have ee177 : b0 = c176 := uq b0 c176 (tb0.trans tc176.symm) (by rw [tb0]; decide) (by rw [tb0]; decide)
    subst ee177
    obtain ⟨c178, ec178, tc178⟩ := gJ.arl (j := 1) (q2 := 83) hS.1 tc175 rfl rfl rfl (by decide)
    have ee179 : b1 = c178 := uq b1 c178 (tb1.trans tc178.symm) (by rw [tb1]; decide) (by rw [tb1]; decide)
    subst ee179
    obtain ⟨c180, ec180, tc180⟩ := gJ.arl (j := 2) (q2 := 84) hS.1 tc175 rfl rfl rfl (by decide)
    have ee181 : b2 = c180 := uq b2 c180 (tb2.trans tc180.symm) (by rw [tb2]; decide) (by rw [tb2]; decide)
    subst ee181
    obtain ⟨c182, ec182, tc182⟩ := gJ.ref (k := 2) (G := gGG) hS.1 tc1 rfl rfl rfl
    obtain ⟨z183, ez183, az183, bz183⟩ := gJ.int (k := 1) (G := gGG) hS.1 tc172 rfl rfl rfl
    refine gz_call rfl (by decide) rfl (by decide) (by decide) (gcal_of rfl rfl rfl (Nat.le_of_ble_eq_true rfl) (gJ.recv (G := gGG) hS.1 tc1 rfl rfl)) (cl_Reader_readPicture _ hS.1 c1 tc1 c171 tc171 c172 ec172 tc172 pic ec173 tpic c175 ec175 tc175 b0 ec176 tb0 b1 ec178 tb1 b2 ec180 tb2 c182 ec182 tc182 z183 ez183 ⟨by omega, by omega⟩ ld ⟨by omega, by omega⟩ uq hpc) (fun q184 _ wq184 => ?_)
    obtain ⟨pq184, oq184, hq184⟩ := q184
    obtain ⟨tyq184, xq184, zq184, xq184_0, gq184, aq184, bq184, axq184_0, bxq184_0, uq184_0, uq184_1, uq184_2, yq184_0⟩ := wq184
    dsimp only at uq184_0 uq184_1
    refine ⟨_, gq184, ?_⟩
    show gz gPP gGG gcn _ _ 37 [some (.ref x), none] [.int (zi zq184)] hq184 _
    have G185 : gSg [65, 66, 67, 68, 69, 70, 101, 102, 103, 112, 113, 200] [] [50005, 51001, 54002, 54003, 54004, 54005, 54006, 54007, 54008, 54009, 54010, 54011, 54012, 54013, 58999, 65003, 66001, 66002, 66003, 66004, 66005, 66010, 66011, 66012, 66013, 66014, 67001, 67002, 67003, 69999, 70999, 82000, 82001, 82002, 82003, 82004, 82005, 82006, 82007, 82008, 82009, 82010, 82011, 83000, 83001, 83002, 83003, 83004, 83005, 83006, 83007, 83008, 83009, 83010, 83011, 84000, 84001, 84002, 84003, 84004, 84005, 84006, 84007, 84008, 84009, 84010, 84011, 102999, 103999, 112999, 113999] ty h tyq184 hq184 := gSg.tr (gSg.ss G0 hS (by decide)) xq184 (by decide) (by decide) (fun x hx => by cases hx)
    have t186 : tyq184 x = 50 := gSg.typ xq184 hS.1 tx rfl
    have t187 : tyq184 pic = 54 := gSg.typ xq184 hS.1 tpic rfl
    have t188 : tyq184 b0 = 82 := gSg.typ xq184 hS.1 tb0 rfl
    have t189 : tyq184 b1 = 83 := gSg.typ xq184 hS.1 tb1 rfl
    have t190 : tyq184 b2 = 84 := gSg.typ xq184 hS.1 tb2 rfl
    have t191 : tyq184 dr = 55 := gSg.typ xq184 hS.1 tdr rfl
    have t192 : tyq184 sk = 56 := gSg.typ xq184 hS.1 tsk rfl
    have t193 : tyq184 bt = 114 := gSg.typ xq184 hS.1 tbt rfl
    have hl194 : hq184.2.2.2.1 bt = h.2.2.2.1 bt := gSg.len xq184 hS.1 tbt rfl
    have t195 : tyq184 c1 = 65 := gSg.typ xq184 hS.1 tc1 rfl
    have t196 : tyq184 c171 = 53 := gSg.typ xq184 hS.1 tc171 rfl
    have t197 : tyq184 c172 = 51 := gSg.typ xq184 hS.1 tc172 rfl
    have t198 : tyq184 c175 = 57 := gSg.typ xq184 hS.1 tc175 rfl
    have t199 : tyq184 c182 = 66 := gSg.typ xq184 hS.1 tc182 rfl
    have s200 := gSg.at xq184 hS.1 tx rfl (by decide) ex2
    have s201 := gSg.at xq184 hS.1 tx rfl (by decide) ex3
    have s202 := gSg.at xq184 hS.1 tx rfl (by decide) ex4
    have s203 := gSg.at xq184 hS.1 tsk rfl (by decide) ex0
    have s204 := gSg.at xq184 hS.1 tdr rfl (by decide) en0
    have s205 := gSg.at xq184 hS.1 tdr rfl (by decide) eiv
    have s206 := gSg.at xq184 hS.1 tdr rfl (by decide) edw
    have s207 := gSg.at xq184 hS.1 tdr rfl (by decide) edh
    have s208 := gSg.at xq184 hS.1 tsk rfl (by decide) ec0
    have s209 := gSg.at xq184 hS.1 tx rfl (by decide) ec1
    have s210 := gSg.at xq184 hS.1 tx rfl (by decide) ec171
    have s211 := gSg.at xq184 hS.1 tc1 rfl (by decide) ec172
    have s212 := gSg.at xq184 hS.1 tc1 rfl (by decide) ec173
    have s213 := gSg.at xq184 hS.1 tpic rfl (by decide) ec175
    have s214 := gSg.at xq184 hS.1 tc175 rfl (by decide) ec176
    have s215 := gSg.at xq184 hS.1 tc175 rfl (by decide) ec178
    have s216 := gSg.at xq184 hS.1 tc175 rfl (by decide) ec180
    have s217 := gSg.at xq184 hS.1 tc1 rfl (by decide) ec182
    have s218 := gSg.at xq184 hS.1 tc172 rfl (by decide) ez183
    have pr219 := gXr.gr xq184 hS.1 (by decide) (by decide) hxr
    have pr220 := gSW.gr xq184 hS.1 (by decide) hsw
    have pr221 := gTc.gr xq184 hS.1 (by decide) (by decide) htc
    have pr222 := gRr.gr xq184 hS.1 (by decide) (by decide) hrr
    have pr223 := gRw.gr xq184 hS.1 (by decide) (by decide) hrw
    have uq224 := gSg.uq xq184 uq (by decide)
    have sS225 : gSs rT 1027 tyq184 [50005, 51001, 54002, 54003, 54004, 54005, 54006, 54007, 54008, 54009, 54010, 54011, 54012, 54013, 58999, 65003, 66001, 66002, 66003, 66004, 66005, 66010, 66011, 66012, 66013, 66014, 67001, 67002, 67003, 69999, 70999, 82000, 82001, 82002, 82003, 82004, 82005, 82006, 82007, 82008, 82009, 82010, 82011, 83000, 83001, 83002, 83003, 83004, 83005, 83006, 83007, 83008, 83009, 83010, 83011, 84000, 84001, 84002, 84003, 84004, 84005, 84006, 84007, 84008, 84009, 84010, 84011, 102999, 103999, 112999, 113999] hq184 hq184 := gSs.rf xq184.1
    refine gz_s 2 (pc' := 39) (L' := [some (.ref x), some (.int (zi zq184))]) (S' := [.ref x]) rfl ?_
    refine gs_gtr rfl (by decide) rfl sS225.1 t186 rfl rfl rfl (fun c226 ec226 tc226 => ?_)
    have ee227 : c172 = c226 := uq224 c172 c226 (t197.trans tc226.symm) (by rw [t197]; decide) (by rw [t197]; decide)
    subst ee227
    refine gz_s 1 (pc' := 43) (L' := [some (.ref x), some (.int (zi zq184))]) (S' := [.int (zi 0), .ref c172]) rfl ?_
    refine gs_put rfl (by decide) rfl sS225 t197 rfl rfl rfl rfl (Or.inl rfl) (by decide) (by omega) (by omega) (fun h228 sh228 eh228 fh228 => ?_)
    have pr229 := gXr.pt fh228 t197 (by decide) pr219
    have pr230 := gSW.pt fh228 t197 (by decide) pr220
    have pr231 := gTc.pt fh228 t197 (by decide) pr221
    have pr232 := gRr.pk fh228 (sh228.2.2.2.2.1.trans sS225.2.2.2.2.1.symm) t197 (by decide) pr222
    have pr233 := gRw.pk fh228 (sh228.2.2.2.2.1.trans sS225.2.2.2.2.1.symm) t197 (by decide) pr223
    have pr234 := gPC.pk fh228 (sh228.2.2.2.2.1.trans sS225.2.2.2.2.1.symm) t197 (by decide) yq184_0
    have s235 := (fh228 x 2 (fun q => absurd q.2 (by decide))).trans s200
    have s236 := (fh228 x 3 (fun q => absurd q.2 (by decide))).trans s201
    have s237 := (fh228 x 4 (fun q => absurd q.2 (by decide))).trans s202
    have s238 := (fh228 sk 0 (fun q => absurd q.2 (by decide))).trans s203
    have s239 := (fh228 dr 8 (fun q => absurd q.2 (by decide))).trans s204
    have s240 := (fh228 dr 3 (fun q => absurd q.2 (by decide))).trans s205
    have s241 := (fh228 dr 1 (fun q => absurd (((t191).symm.trans (congrArg tyq184 q.1)).trans t197) (by decide))).trans s206
    have s242 := (fh228 dr 2 (fun q => absurd q.2 (by decide))).trans s207
    have s243 := (fh228 sk 1 (fun q => absurd (((t192).symm.trans (congrArg tyq184 q.1)).trans t197) (by decide))).trans s208
    have s244 := (fh228 x 5 (fun q => absurd q.2 (by decide))).trans s209
    have s245 := (fh228 x 1 (fun q => absurd (((t186).symm.trans (congrArg tyq184 q.1)).trans t197) (by decide))).trans s210
    have s246 := (fh228 c1 0 (fun q => absurd q.2 (by decide))).trans s211
    have s247 := (fh228 c1 1 (fun q => absurd (((t195).symm.trans (congrArg tyq184 q.1)).trans t197) (by decide))).trans s212
    have s248 := (fh228 pic 0 (fun q => absurd q.2 (by decide))).trans s213
    have s249 := (fh228 c175 0 (fun q => absurd (((t198).symm.trans (congrArg tyq184 q.1)).trans t197) (by decide))).trans s214
    have s250 := (fh228 c175 1 (fun q => absurd (((t198).symm.trans (congrArg tyq184 q.1)).trans t197) (by decide))).trans s215
    have s251 := (fh228 c175 2 (fun q => absurd (((t198).symm.trans (congrArg tyq184 q.1)).trans t197) (by decide))).trans s216
    have s252 := (fh228 c1 2 (fun q => absurd q.2 (by decide))).trans s217
    have s253 := (fh228 x 0 (fun q => absurd q.2 (by decide))).trans ec226
    refine gz_s 1 (pc' := 47) (L' := [some (.ref x), some (.int (zi zq184))]) (S' := [.int (zi zq184)]) rfl ?_
    have k254 := sh228.2.1
    have k254b := sh228.2.2.1
    have hl255 : h228.2.2.2.1 bt = hq184.2.2.2.1 bt := congrFun sh228.2.2.2.2.1 bt
    have hl256 : 1024 ≤ h228.2.2.2.1 bt ∧ h228.2.2.2.1 bt ≤ 1000000 := gJ.rowl (G := gGG) sh228.1 t193 rfl
    have k257 := sh228.2.1
    have k257b := sh228.2.2.1
    have hl258 : h228.2.2.2.1 bt = hq184.2.2.2.1 bt := congrFun sh228.2.2.2.2.1 bt
    have hix259 : gIx tyq184 x xq184_0 (h228.2.2.2.1 bt : Int) (64 * dw + n0 + 4096 * dh + 262144 * i0) S h228 := ⟨pic, b0, b1, b2, dr, sk, bt, n0, c0, i0, dw, dh, ⟨t186, t191, t192, t193⟩, ⟨s235, s236, s237, s238⟩, pr234, pr231, ⟨s239, by omega, by omega⟩, ⟨s240, by omega, by omega⟩, ⟨s243, by omega, by omega⟩, ⟨by omega, by omega⟩, ⟨t186, Or.inr ⟨c1, s244, t195⟩⟩, pr233, ⟨s241, by omega, by omega⟩, ⟨s242, by omega, by omega⟩, by omega, rfl, pr229, ⟨pr230, hc0⟩, htz⟩
    have G260 : gSg [65, 66, 67, 68, 69, 70, 101, 102, 103, 112, 113, 200] [] [50005, 51001, 54002, 54003, 54004, 54005, 54006, 54007, 54008, 54009, 54010, 54011, 54012, 54013, 58999, 65003, 66001, 66002, 66003, 66004, 66005, 66010, 66011, 66012, 66013, 66014, 67001, 67002, 67003, 69999, 70999, 82000, 82001, 82002, 82003, 82004, 82005, 82006, 82007, 82008, 82009, 82010, 82011, 83000, 83001, 83002, 83003, 83004, 83005, 83006, 83007, 83008, 83009, 83010, 83011, 84000, 84001, 84002, 84003, 84004, 84005, 84006, 84007, 84008, 84009, 84010, 84011, 102999, 103999, 112999, 113999] ty h tyq184 h228 := gSg.ss G185 sh228 (by decide)
    exact gz_end (I := .ireturn) (len := 1) rfl (Or.inl rfl) ⟨tyq184, G260, zq184, xq184_0, (h228.2.2.2.1 bt : Int), (64 * dw + n0 + 4096 * dh + 262144 * i0), rfl, (by omega), (by omega), (by omega), (by omega), (by omega), (by omega), (by omega), (by omega), (by omega), (by dsimp only; omega), (by dsimp only; omega), (by omega), (by omega), hix259, uq224⟩
