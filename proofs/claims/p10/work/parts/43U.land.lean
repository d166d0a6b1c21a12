/-! ===== methods of the landed text (by program) ===== -/
theorem gTc.pa {ty : Nat → Nat} {n : Int} {c9 q2 : Nat} {Q : Nat → Prop} {h h' : gH} (g : ∀ x j, ¬ (x = c9 ∧ Q j) → h'.2.2.2.2 x j = h.2.2.2.2 x j) (ht : ty c9 = q2) (hq : ∀ x ∈ ([60, 61, 64] : List Nat), q2 ≠ x) (s : gTc ty n h) : gTc ty n h' := by
  have k : ∀ (q : Nat) (f : Nat → Int), q2 ≠ q → gRow ty q f h → gRow ty q f h' := fun q f hne p => ⟨p.1, fun c hc i hi => by
    rw [g c i (fun w => hne (by rw [← ht, ← w.1]; exact hc))]
    exact p.2 c hc i hi⟩
  obtain ⟨f, t, c, x1, x2, x3, x4⟩ := s
  exact ⟨f, t, c, k _ _ (hq _ (by decide)) x1, k _ _ (hq _ (by decide)) x2, k _ _ (hq _ (by decide)) x3, x4⟩
theorem zi_in8 {z : Int} (h0 : -128 ≤ z) (h1 : z ≤ 127) : (zi z).toInt8.toInt32 = zi z := by
  have h := (by decide +kernel : ∀ k : Fin 256, (zi ((k.val : Int) - 128)).toInt8.toInt32 = zi ((k.val : Int) - 128)) ⟨(z + 128).toNat, by omega⟩
  have e : (((z + 128).toNat : Nat) : Int) - 128 = z := by omega
  rw [← e]
  exact h
set_option maxRecDepth 20000 in
set_option maxHeartbeats 4000000 in
theorem cl_DctFilter_colourW (d : Nat) {ty : Nat → Nat} {h : gH} (hJ : gJ rT 1027 ty h) (bd : Int) (rbd : (-2147483648) ≤ bd ∧ bd ≤ 2147483647) (a : Int) (ra : (-2147483648) ≤ a ∧ a ≤ 2147483647) (b : Int) (rb : (-2147483648) ≤ b ∧ b ≤ 2147483647) (c : Int) (rc : (-2147483648) ≤ c ∧ c ≤ 2147483647) : gz gPP gGG gcn (d + 2) gt77 0 (gent [.int (zi bd), .int (zi a), .int (zi b), .int (zi c)] 4) [] h (fun q _ => gSs rT 1027 ty [] h q.2.2 ∧ ∃ z : Int, gfin gt77 q.1 q.2.1 = some (some (.int (zi z))) ∧ 0 ≤ z ∧ z ≤ 255) := by
  have hS : gSs rT 1027 ty [] h h := gSs.rf hJ
  refine gz_s 2 (pc' := 2) (L' := [some (.int (zi bd)), some (.int (zi a)), some (.int (zi b)), some (.int (zi c))]) (S' := [.int (zi 3), .int (zi bd)]) rfl ?_
  by_cases hc1 : ¬ (bd : Int) = 3
  · refine gy_icT (pc' := 21) rfl (by decide) (by decide) (by omega) (by omega) hc1 ?_
    refine gz_s 2 (pc' := 23) (L' := [some (.int (zi bd)), some (.int (zi a)), some (.int (zi b)), some (.int (zi c))]) (S' := [.int (zi 4), .int (zi bd)]) rfl ?_
    by_cases hc2 : ¬ (bd : Int) = 4
    · refine gy_icT (pc' := 48) rfl (by decide) (by decide) (by omega) (by omega) hc2 ?_
      refine gz_s 1 (pc' := 49) (L' := [some (.int (zi bd)), some (.int (zi a)), some (.int (zi b)), some (.int (zi c))]) (S' := [.int (zi a)]) rfl ?_
      refine gz_1 rfl (by decide) rfl rfl (pc' := 51) (S' := [.int (zi 116130), .int (zi a)]) (h' := h) rfl ?_
      refine gy_s 2 (pc' := 53) (L' := [some (.int (zi bd)), some (.int (zi a)), some (.int (zi b)), some (.int (zi c))]) (S' := [.int ((zi 116130) * (zi b)), .int (zi a)]) (L2 := [some (.int (zi bd)), some (.int (zi a)), some (.int (zi b)), some (.int (zi c))]) (S2 := [.int (zi (116130 * b)), .int (zi a)]) rfl (by simp only [zi_add, zi_sub, zi_mul, zi_neg, zi_and1, zi_and7, zi_and15, zi_and31, zi_and255]) (by simp only [zi_add, zi_sub, zi_mul, zi_neg, zi_and1, zi_and7, zi_and15, zi_and31, zi_and255]) ?_
      refine gy_any (fun z3 ez3 az3 bz3 => ?_)
      refine gz_1 rfl (by decide) rfl rfl (pc' := 55) (S' := [.int (zi 32768), .int (zi z3), .int (zi a)]) (h' := h) rfl ?_
      refine gy_s 1 (pc' := 56) (L' := [some (.int (zi bd)), some (.int (zi a)), some (.int (zi b)), some (.int (zi c))]) (S' := [.int ((zi z3) + (zi 32768)), .int (zi a)]) (L2 := [some (.int (zi bd)), some (.int (zi a)), some (.int (zi b)), some (.int (zi c))]) (S2 := [.int (zi (z3 + 32768)), .int (zi a)]) rfl (by simp only [zi_add, zi_sub, zi_mul, zi_neg, zi_and1, zi_and7, zi_and15, zi_and31, zi_and255]) (by simp only [zi_add, zi_sub, zi_mul, zi_neg, zi_and1, zi_and7, zi_and15, zi_and31, zi_and255]) ?_
      refine gy_any (fun z4 ez4 az4 bz4 => ?_)
      refine gz_s 1 (pc' := 58) (L' := [some (.int (zi bd)), some (.int (zi a)), some (.int (zi b)), some (.int (zi c))]) (S' := [.int (zi 16), .int (zi z4), .int (zi a)]) rfl ?_
      refine gy_shc (n := 16) (v := 65536) rfl (by decide) (by omega) (by decide) (by decide) rfl ?_
      refine gy_s 1 (pc' := 60) (L' := [some (.int (zi bd)), some (.int (zi a)), some (.int (zi b)), some (.int (zi c))]) (S' := [.int ((zi a) + (zi (z4 / 65536)))]) (L2 := [some (.int (zi bd)), some (.int (zi a)), some (.int (zi b)), some (.int (zi c))]) (S2 := [.int (zi (a + (z4 / 65536)))]) rfl (by simp only [zi_add, zi_sub, zi_mul, zi_neg, zi_and1, zi_and7, zi_and15, zi_and31, zi_and255]) (by simp only [zi_add, zi_sub, zi_mul, zi_neg, zi_and1, zi_and7, zi_and15, zi_and31, zi_and255]) ?_
      refine gy_any (fun z5 ez5 az5 bz5 => ?_)
      refine gz_call rfl (by decide) rfl (by decide) (by decide) (gcal_of rfl rfl rfl (Nat.le_of_ble_eq_true rfl) rfl) (cl_DctFilter_asByte _ hS.1 z5 ⟨by omega, by omega⟩ ) (fun q6 _ wq6 => ?_)
      obtain ⟨pq6, oq6, hq6⟩ := q6
      obtain ⟨xq6, zq6, gq6, aq6, bq6⟩ := wq6
      refine ⟨_, gq6, ?_⟩
      show gz gPP gGG gcn _ _ 63 [some (.int (zi bd)), some (.int (zi a)), some (.int (zi b)), some (.int (zi c))] [.int (zi zq6)] hq6 _
      have sq6 : gSs rT 1027 ty [] h hq6 := gSs.tr hS xq6 (by decide)
      exact gz_end (I := .ireturn) (len := 1) rfl (Or.inl rfl) ⟨sq6, zq6, rfl, (by omega), (by omega)⟩
    · refine gy_icF rfl (by decide) (by decide) (by omega) (by omega) hc2 ?_
      refine gy_s 4 (pc' := 32) (L' := [some (.int (zi bd)), some (.int (zi a)), some (.int (zi b)), some (.int (zi c))]) (S' := [.int ((zi 22554) * (zi b)), .int (zi a)]) (L2 := [some (.int (zi bd)), some (.int (zi a)), some (.int (zi b)), some (.int (zi c))]) (S2 := [.int (zi (22554 * b)), .int (zi a)]) rfl (by simp only [zi_add, zi_sub, zi_mul, zi_neg, zi_and1, zi_and7, zi_and15, zi_and31, zi_and255]) (by simp only [zi_add, zi_sub, zi_mul, zi_neg, zi_and1, zi_and7, zi_and15, zi_and31, zi_and255]) ?_
      refine gy_any (fun z7 ez7 az7 bz7 => ?_)
      refine gz_1 rfl (by decide) rfl rfl (pc' := 34) (S' := [.int (zi 46802), .int (zi z7), .int (zi a)]) (h' := h) rfl ?_
      refine gy_s 2 (pc' := 36) (L' := [some (.int (zi bd)), some (.int (zi a)), some (.int (zi b)), some (.int (zi c))]) (S' := [.int ((zi 46802) * (zi c)), .int (zi z7), .int (zi a)]) (L2 := [some (.int (zi bd)), some (.int (zi a)), some (.int (zi b)), some (.int (zi c))]) (S2 := [.int (zi (46802 * c)), .int (zi z7), .int (zi a)]) rfl (by simp only [zi_add, zi_sub, zi_mul, zi_neg, zi_and1, zi_and7, zi_and15, zi_and31, zi_and255]) (by simp only [zi_add, zi_sub, zi_mul, zi_neg, zi_and1, zi_and7, zi_and15, zi_and31, zi_and255]) ?_
      refine gy_any (fun z8 ez8 az8 bz8 => ?_)
      refine gy_s 1 (pc' := 37) (L' := [some (.int (zi bd)), some (.int (zi a)), some (.int (zi b)), some (.int (zi c))]) (S' := [.int ((zi z7) + (zi z8)), .int (zi a)]) (L2 := [some (.int (zi bd)), some (.int (zi a)), some (.int (zi b)), some (.int (zi c))]) (S2 := [.int (zi (z7 + z8)), .int (zi a)]) rfl (by simp only [zi_add, zi_sub, zi_mul, zi_neg, zi_and1, zi_and7, zi_and15, zi_and31, zi_and255]) (by simp only [zi_add, zi_sub, zi_mul, zi_neg, zi_and1, zi_and7, zi_and15, zi_and31, zi_and255]) ?_
      refine gy_any (fun z9 ez9 az9 bz9 => ?_)
      refine gz_1 rfl (by decide) rfl rfl (pc' := 39) (S' := [.int (zi 32768), .int (zi z9), .int (zi a)]) (h' := h) rfl ?_
      refine gy_s 1 (pc' := 40) (L' := [some (.int (zi bd)), some (.int (zi a)), some (.int (zi b)), some (.int (zi c))]) (S' := [.int ((zi z9) + (zi 32768)), .int (zi a)]) (L2 := [some (.int (zi bd)), some (.int (zi a)), some (.int (zi b)), some (.int (zi c))]) (S2 := [.int (zi (z9 + 32768)), .int (zi a)]) rfl (by simp only [zi_add, zi_sub, zi_mul, zi_neg, zi_and1, zi_and7, zi_and15, zi_and31, zi_and255]) (by simp only [zi_add, zi_sub, zi_mul, zi_neg, zi_and1, zi_and7, zi_and15, zi_and31, zi_and255]) ?_
      refine gy_any (fun z10 ez10 az10 bz10 => ?_)
      refine gz_s 1 (pc' := 42) (L' := [some (.int (zi bd)), some (.int (zi a)), some (.int (zi b)), some (.int (zi c))]) (S' := [.int (zi 16), .int (zi z10), .int (zi a)]) rfl ?_
      refine gy_shc (n := 16) (v := 65536) rfl (by decide) (by omega) (by decide) (by decide) rfl ?_
      refine gy_s 1 (pc' := 44) (L' := [some (.int (zi bd)), some (.int (zi a)), some (.int (zi b)), some (.int (zi c))]) (S' := [.int ((zi a) - (zi (z10 / 65536)))]) (L2 := [some (.int (zi bd)), some (.int (zi a)), some (.int (zi b)), some (.int (zi c))]) (S2 := [.int (zi (a - (z10 / 65536)))]) rfl (by simp only [zi_add, zi_sub, zi_mul, zi_neg, zi_and1, zi_and7, zi_and15, zi_and31, zi_and255]) (by simp only [zi_add, zi_sub, zi_mul, zi_neg, zi_and1, zi_and7, zi_and15, zi_and31, zi_and255]) ?_
      refine gy_any (fun z11 ez11 az11 bz11 => ?_)
      refine gz_call rfl (by decide) rfl (by decide) (by decide) (gcal_of rfl rfl rfl (Nat.le_of_ble_eq_true rfl) rfl) (cl_DctFilter_asByte _ hS.1 z11 ⟨by omega, by omega⟩ ) (fun q12 _ wq12 => ?_)
      obtain ⟨pq12, oq12, hq12⟩ := q12
      obtain ⟨xq12, zq12, gq12, aq12, bq12⟩ := wq12
      refine ⟨_, gq12, ?_⟩
      show gz gPP gGG gcn _ _ 47 [some (.int (zi bd)), some (.int (zi a)), some (.int (zi b)), some (.int (zi c))] [.int (zi zq12)] hq12 _
      have sq12 : gSs rT 1027 ty [] h hq12 := gSs.tr hS xq12 (by decide)
      exact gz_end (I := .ireturn) (len := 1) rfl (Or.inl rfl) ⟨sq12, zq12, rfl, (by omega), (by omega)⟩
  · refine gy_icF rfl (by decide) (by decide) (by omega) (by omega) hc1 ?_
    refine gz_s 1 (pc' := 6) (L' := [some (.int (zi bd)), some (.int (zi a)), some (.int (zi b)), some (.int (zi c))]) (S' := [.int (zi a)]) rfl ?_
    refine gz_1 rfl (by decide) rfl rfl (pc' := 8) (S' := [.int (zi 91881), .int (zi a)]) (h' := h) rfl ?_
    refine gy_s 2 (pc' := 10) (L' := [some (.int (zi bd)), some (.int (zi a)), some (.int (zi b)), some (.int (zi c))]) (S' := [.int ((zi 91881) * (zi c)), .int (zi a)]) (L2 := [some (.int (zi bd)), some (.int (zi a)), some (.int (zi b)), some (.int (zi c))]) (S2 := [.int (zi (91881 * c)), .int (zi a)]) rfl (by simp only [zi_add, zi_sub, zi_mul, zi_neg, zi_and1, zi_and7, zi_and15, zi_and31, zi_and255]) (by simp only [zi_add, zi_sub, zi_mul, zi_neg, zi_and1, zi_and7, zi_and15, zi_and31, zi_and255]) ?_
    refine gy_any (fun z13 ez13 az13 bz13 => ?_)
    refine gz_1 rfl (by decide) rfl rfl (pc' := 12) (S' := [.int (zi 32768), .int (zi z13), .int (zi a)]) (h' := h) rfl ?_
    refine gy_s 1 (pc' := 13) (L' := [some (.int (zi bd)), some (.int (zi a)), some (.int (zi b)), some (.int (zi c))]) (S' := [.int ((zi z13) + (zi 32768)), .int (zi a)]) (L2 := [some (.int (zi bd)), some (.int (zi a)), some (.int (zi b)), some (.int (zi c))]) (S2 := [.int (zi (z13 + 32768)), .int (zi a)]) rfl (by simp only [zi_add, zi_sub, zi_mul, zi_neg, zi_and1, zi_and7, zi_and15, zi_and31, zi_and255]) (by simp only [zi_add, zi_sub, zi_mul, zi_neg, zi_and1, zi_and7, zi_and15, zi_and31, zi_and255]) ?_
    refine gy_any (fun z14 ez14 az14 bz14 => ?_)
    refine gz_s 1 (pc' := 15) (L' := [some (.int (zi bd)), some (.int (zi a)), some (.int (zi b)), some (.int (zi c))]) (S' := [.int (zi 16), .int (zi z14), .int (zi a)]) rfl ?_
    refine gy_shc (n := 16) (v := 65536) rfl (by decide) (by omega) (by decide) (by decide) rfl ?_
    refine gy_s 1 (pc' := 17) (L' := [some (.int (zi bd)), some (.int (zi a)), some (.int (zi b)), some (.int (zi c))]) (S' := [.int ((zi a) + (zi (z14 / 65536)))]) (L2 := [some (.int (zi bd)), some (.int (zi a)), some (.int (zi b)), some (.int (zi c))]) (S2 := [.int (zi (a + (z14 / 65536)))]) rfl (by simp only [zi_add, zi_sub, zi_mul, zi_neg, zi_and1, zi_and7, zi_and15, zi_and31, zi_and255]) (by simp only [zi_add, zi_sub, zi_mul, zi_neg, zi_and1, zi_and7, zi_and15, zi_and31, zi_and255]) ?_
    refine gy_any (fun z15 ez15 az15 bz15 => ?_)
    refine gz_call rfl (by decide) rfl (by decide) (by decide) (gcal_of rfl rfl rfl (Nat.le_of_ble_eq_true rfl) rfl) (cl_DctFilter_asByte _ hS.1 z15 ⟨by omega, by omega⟩ ) (fun q16 _ wq16 => ?_)
    obtain ⟨pq16, oq16, hq16⟩ := q16
    obtain ⟨xq16, zq16, gq16, aq16, bq16⟩ := wq16
    refine ⟨_, gq16, ?_⟩
    show gz gPP gGG gcn _ _ 20 [some (.int (zi bd)), some (.int (zi a)), some (.int (zi b)), some (.int (zi c))] [.int (zi zq16)] hq16 _
    have sq16 : gSs rT 1027 ty [] h hq16 := gSs.tr hS xq16 (by decide)
    exact gz_end (I := .ireturn) (len := 1) rfl (Or.inl rfl) ⟨sq16, zq16, rfl, (by omega), (by omega)⟩
set_option maxRecDepth 20000 in
set_option maxHeartbeats 4000000 in
theorem cl_DctFilter_add (d : Nat) {ty : Nat → Nat} {h : gH} (hJ : gJ rT 1027 ty h) (x : Nat) (tx : ty x = 50) (b : Int) (rb : (-128) ≤ b ∧ b ≤ 127) (ld : Int) (rld : 0 ≤ ld ∧ ld ≤ 192) (lb : Int) (rlb : 1024 ≤ lb ∧ lb ≤ 1000000) (iv : Int) (riv : 0 ≤ iv ∧ iv ≤ 2058) (uq : gUq ty) (hyix : gIx ty x ld lb iv h) : gz gPP gGG gcn (d + 1) gt68 0 (gent [.ref x, .int (zi b)] 2) [] h (fun q _ => ∃ ty9 : Nat → Nat, gSg [] [] [51001, 52999] ty h ty9 q.2.2 ∧ ∃ ld1 lb1 iv1 : Int, 0 ≤ ld1 ∧ ld1 ≤ 192 ∧ 1024 ≤ lb1 ∧ lb1 ≤ 1000000 ∧ 0 ≤ iv1 ∧ iv1 ≤ 2058 ∧ (gIx ty9 x ld1 lb1 iv1 q.2.2) ∧ ((gfin gt68 q.1 q.2.1 = some none ∧ (iv1 = iv) ∧ (1024 * (((q.2.2.1 : Int) - h.1) - 31 - 2 * (ld1 - ld)) ≤ lb1 - lb) ∧ (((q.2.2.2.1 : Int) - h.2.1) ≤ 4303 + 12480 * (ld1 - ld) + 2 * (lb1 - lb)) ∧ (ld ≤ ld1) ∧ (lb ≤ lb1)) ∨ (q.2.1 = [] ∧ ((q.1 = 13)) ∧ (iv1 = iv) ∧ (1024 * (((q.2.2.1 : Int) - h.1) - 31 - 2 * (ld1 - ld)) ≤ lb1 - lb) ∧ (((q.2.2.2.1 : Int) - h.2.1) ≤ 4303 + 12480 * (ld1 - ld) + 2 * (lb1 - lb)) ∧ (ld ≤ ld1) ∧ (lb ≤ lb1)))) := by
  have hS : gSs rT 1027 ty [51001, 52999] h h := gSs.rf hJ
  have G0 : gSg [] [] [51001, 52999] ty h ty h := gSg.rf hJ (fun x hx => by cases hx)
  obtain ⟨pic, b0, b1, b2, dr, sk, bt, n0, c0, i0, dw, ⟨_, tdr, tsk, tbt⟩, ⟨ex2, ex3, ex4, ex0⟩, hpc, htc, ⟨en0, rn0⟩, ⟨eiv, ri0⟩, ⟨ec0, rc0⟩, ⟨lc0, llb⟩, hrr, hrw, ⟨edw, rdw⟩, hcd⟩ := hyix
  have tpic := hpc.1.1
  have tb0 := hpc.1.2.1
  have tb1 := hpc.1.2.2.1
  have tb2 := hpc.1.2.2.2
  refine gz_s 1 (pc' := 1) (L' := [some (.ref x), some (.int (zi b))]) (S' := [.ref x]) rfl ?_
  refine gs_gtr rfl (by decide) rfl hS.1 tx rfl rfl rfl (fun c1 ec1 tc1 => ?_)
  refine gs_get rfl (by decide) rfl hS.1 tc1 rfl rfl rfl (fun z2 ez2 az2 bz2 => ?_)
  refine gz_s 1 (pc' := 10) (L' := [some (.ref x), some (.int (zi b))]) (S' := [.int (zi 2000), .int (zi z2)]) rfl ?_
  by_cases hc3 : (z2 : Int) < 2000
  · refine gy_icT (pc' := 23) rfl (by decide) (by decide) (by omega) (by omega) hc3 ?_
    refine gz_s 1 (pc' := 24) (L' := [some (.ref x), some (.int (zi b))]) (S' := [.ref x]) rfl ?_
    refine gs_gtk rfl (by decide) rfl hS.1 tx rfl rfl ec1 ?_
    refine gz_s 1 (pc' := 28) (L' := [some (.ref x), some (.int (zi b))]) (S' := [.int (zi b), .ref c1]) rfl ?_
    refine gz_call rfl (by decide) rfl (by decide) (by decide) (gcal_of rfl rfl rfl (Nat.le_of_ble_eq_true rfl) (gJ.recv (G := gGG) hS.1 tc1 rfl rfl)) (cl_Collected_append _ hS.1 c1 tc1 b ⟨by omega, by omega⟩ z2 ez2 ⟨by omega, by omega⟩ uq) (fun q4 _ wq4 => ?_)
    obtain ⟨pq4, oq4, hq4⟩ := q4
    obtain ⟨xq4, gq4⟩ := wq4
    refine ⟨_, gq4, ?_⟩
    show gz gPP gGG gcn _ _ 31 [some (.ref x), some (.int (zi b))] [] hq4 _
    have sq4 : gSs rT 1027 ty [51001, 52999] h hq4 := gSs.tr hS xq4 (by decide)
    have s5 := (xq4.2.2.2.2.2 x 2 (by rw [tx]; decide)).trans ex2
    have s6 := (xq4.2.2.2.2.2 x 3 (by rw [tx]; decide)).trans ex3
    have s7 := (xq4.2.2.2.2.2 x 4 (by rw [tx]; decide)).trans ex4
    have s8 := (xq4.2.2.2.2.2 sk 0 (by rw [tsk]; decide)).trans ex0
    have s9 := (xq4.2.2.2.2.2 dr 8 (by rw [tdr]; decide)).trans en0
    have s10 := (xq4.2.2.2.2.2 dr 3 (by rw [tdr]; decide)).trans eiv
    have s11 := (xq4.2.2.2.2.2 dr 1 (by rw [tdr]; decide)).trans edw
    have s12 := (xq4.2.2.2.2.2 sk 1 (by rw [tsk]; decide)).trans ec0
    have s13 := (xq4.2.2.2.2.2 x 0 (by rw [tx]; decide)).trans ec1
    have pr14 := gPC.fr xq4.2 (by decide) hpc
    have pr15 := gTc.fr xq4.2 (by decide) htc
    have pr16 := gRr.fr xq4.2 (by decide) hrr
    have pr17 := gRw.fr xq4.2 (by decide) hrw
    have k18 := sq4.2.1
    have k18b := sq4.2.2.1
    have hl19 : hq4.2.2.2.1 bt = h.2.2.2.1 bt := congrFun sq4.2.2.2.2.1 bt
    have hl20 : 1024 ≤ hq4.2.2.2.1 bt ∧ hq4.2.2.2.1 bt ≤ 1000000 := gJ.rowl (G := gGG) sq4.1 tbt rfl
    have k21 := sq4.2.1
    have k21b := sq4.2.2.1
    have hl22 : hq4.2.2.2.1 bt = h.2.2.2.1 bt := congrFun sq4.2.2.2.2.1 bt
    have hix23 : gIx ty x ld (hq4.2.2.2.1 bt : Int) (64 * dw + n0) hq4 := ⟨pic, b0, b1, b2, dr, sk, bt, n0, c0, i0, dw, ⟨tx, tdr, tsk, tbt⟩, ⟨s5, s6, s7, s8⟩, pr14, pr15, ⟨s9, by omega, by omega⟩, ⟨s10, by omega, by omega⟩, ⟨s12, by omega, by omega⟩, ⟨by omega, by omega⟩, pr16, pr17, ⟨s11, by omega, by omega⟩, rfl⟩
    have G24 : gSg [] [] [51001, 52999] ty h ty hq4 := gSg.ss G0 sq4 (by decide)
    exact gz_end (I := .return_) (len := 1) rfl (Or.inl rfl) ⟨ty, G24, ld, (hq4.2.2.2.1 bt : Int), (64 * dw + n0), (by omega), (by omega), (by omega), (by omega), (by omega), (by omega), hix23, Or.inl ⟨rfl, (by omega), (by dsimp only; omega), (by dsimp only; omega), (by omega), (by omega)⟩⟩
  · refine gy_icF rfl (by decide) (by decide) (by omega) (by omega) hc3 ?_
    have hl25 : 1024 ≤ h.2.2.2.1 bt ∧ h.2.2.2.1 bt ≤ 1000000 := gJ.rowl (G := gGG) hS.1 tbt rfl
    have hix26 : gIx ty x ld (h.2.2.2.1 bt : Int) (64 * dw + n0) h := ⟨pic, b0, b1, b2, dr, sk, bt, n0, c0, i0, dw, ⟨tx, tdr, tsk, tbt⟩, ⟨ex2, ex3, ex4, ex0⟩, hpc, htc, ⟨en0, by omega, by omega⟩, ⟨eiv, by omega, by omega⟩, ⟨ec0, by omega, by omega⟩, ⟨by omega, by omega⟩, hrr, hrw, ⟨edw, by omega, by omega⟩, rfl⟩
    have G27 : gSg [] [] [51001, 52999] ty h ty h := gSg.ss G0 hS (by decide)
    exact gz_end (I := .new 51) (len := 3) rfl (Or.inr (by decide)) ⟨ty, G27, ld, (h.2.2.2.1 bt : Int), (64 * dw + n0), (by omega), (by omega), (by omega), (by omega), (by omega), (by omega), hix26, Or.inr ⟨rfl, rfl, (by omega), (by dsimp only; omega), (by dsimp only; omega), (by omega), (by omega)⟩⟩
set_option maxRecDepth 20000 in
set_option maxHeartbeats 4000000 in
theorem cl_DctFilter_sample (d : Nat) {ty : Nat → Nat} {h : gH} (hJ : gJ rT 1027 ty h) (x : Nat) (tx : ty x = 50) (a : Int) (ra : (-2147483648) ≤ a ∧ a ≤ 2147483647) (b : Int) (rb : (-2147483648) ≤ b ∧ b ≤ 2147483647) (c : Int) (rc : (-2147483648) ≤ c ∧ c ≤ 2147483647) (hyst : gSta ty h) (ld : Int) (rld : 0 ≤ ld ∧ ld ≤ 192) (lb : Int) (rlb : 1024 ≤ lb ∧ lb ≤ 1000000) (iv : Int) (riv : 0 ≤ iv ∧ iv ≤ 2058) (uq : gUq ty) (hyix : gIx ty x ld lb iv h) : gz gPP gGG gcn (d + 3) gt70 0 (gent [.ref x, .int (zi a), .int (zi b), .int (zi c)] 8) [] h (fun q _ => ∃ ty9 : Nat → Nat, gSg [] [] [] ty h ty9 q.2.2 ∧ ∃ ld1 lb1 iv1 : Int, 0 ≤ ld1 ∧ ld1 ≤ 192 ∧ 1024 ≤ lb1 ∧ lb1 ≤ 1000000 ∧ 0 ≤ iv1 ∧ iv1 ≤ 2058 ∧ (gIx ty9 x ld1 lb1 iv1 q.2.2) ∧ ((∃ z : Int, gfin gt70 q.1 q.2.1 = some (some (.int (zi z))) ∧ (-2147483648) ≤ z ∧ z ≤ 2147483647 ∧ (iv1 = iv) ∧ (1024 * (((q.2.2.1 : Int) - h.1) - 31 - 2 * (ld1 - ld)) ≤ lb1 - lb) ∧ (((q.2.2.2.1 : Int) - h.2.1) ≤ 4303 + 12480 * (ld1 - ld) + 2 * (lb1 - lb)) ∧ (ld ≤ ld1) ∧ (lb ≤ lb1)) ∨ (q.2.1 = [] ∧ ((q.1 = 67)) ∧ (iv1 = iv) ∧ (1024 * (((q.2.2.1 : Int) - h.1) - 31 - 2 * (ld1 - ld)) ≤ lb1 - lb) ∧ (((q.2.2.2.1 : Int) - h.2.1) ≤ 4303 + 12480 * (ld1 - ld) + 2 * (lb1 - lb)) ∧ (ld ≤ ld1) ∧ (lb ≤ lb1)))) := by
  have hS : gSs rT 1027 ty [] h h := gSs.rf hJ
  have G0 : gSg [] [] [] ty h ty h := gSg.rf hJ (fun x hx => by cases hx)
  obtain ⟨pic, b0, b1, b2, dr, sk, bt, n0, c0, i0, dw, ⟨_, tdr, tsk, tbt⟩, ⟨ex2, ex3, ex4, ex0⟩, hpc, htc, ⟨en0, rn0⟩, ⟨eiv, ri0⟩, ⟨ec0, rc0⟩, ⟨lc0, llb⟩, hrr, hrw, ⟨edw, rdw⟩, hcd⟩ := hyix
  have tpic := hpc.1.1
  have tb0 := hpc.1.2.1
  have tb1 := hpc.1.2.2.1
  have tb2 := hpc.1.2.2.2
  have hpq1 := hpc
  obtain ⟨_, bno, coo, dmo, vvo, ⟨tbno, tcoo, tdmo⟩, ⟨er0o, er1o, er2o, er3o, er4o, er5o⟩, hvvo, hrro, ⟨yy0o, yy1o, yy2o, yy3o, yy4o, yy5o, yy6o, yy7o⟩, ll0o, ll1o, ll2o, ll3o⟩ := hpq1
  have excno : h.2.2.2.2 pic 7 = .int (zi (vvo 0)) := hvvo (0, 7, 0) (by decide)
  have rrcno : 0 ≤ vvo 0 ∧ vvo 0 ≤ 3 := hrro (0, 0, 3) (by decide)
  have exuco : h.2.2.2.2 pic 12 = .int (zi (vvo 1)) := hvvo (0, 12, 1) (by decide)
  have rruco : 0 ≤ vvo 1 ∧ vvo 1 ≤ 8 := hrro (1, 0, 8) (by decide)
  have exuro : h.2.2.2.2 pic 13 = .int (zi (vvo 2)) := hvvo (0, 13, 2) (by decide)
  have rruro : 0 ≤ vvo 2 ∧ vvo 2 ≤ 8 := hrro (2, 0, 8) (by decide)
  have exblo : h.2.2.2.2 pic 8 = .int (zi (vvo 3)) := hvvo (0, 8, 3) (by decide)
  have rrblo : 0 ≤ vvo 3 ∧ vvo 3 ≤ 192 := hrro (3, 0, 192) (by decide)
  have exwo : h.2.2.2.2 pic 5 = .int (zi (vvo 4)) := hvvo (0, 5, 4) (by decide)
  have rrwo : 0 ≤ vvo 4 ∧ vvo 4 ≤ 64 := hrro (4, 0, 64) (by decide)
  have exhho : h.2.2.2.2 pic 6 = .int (zi (vvo 5)) := hvvo (0, 6, 5) (by decide)
  have rrhho : 0 ≤ vvo 5 ∧ vvo 5 ≤ 64 := hrro (5, 0, 64) (by decide)
  have exgho : h.2.2.2.2 pic 10 = .int (zi (vvo 6)) := hvvo (0, 10, 6) (by decide)
  have rrgho : 1 ≤ vvo 6 ∧ vvo 6 ≤ 2 := hrro (6, 1, 2) (by decide)
  have exgvo : h.2.2.2.2 pic 11 = .int (zi (vvo 7)) := hvvo (0, 11, 7) (by decide)
  have rrgvo : 1 ≤ vvo 7 ∧ vvo 7 ≤ 2 := hrro (7, 1, 2) (by decide)
  have exhb0o : h.2.2.2.2 b0 1 = .int (zi (vvo 8)) := hvvo (1, 1, 8) (by decide)
  have rrhb0o : (-1) ≤ vvo 8 ∧ vvo 8 ≤ 15 := hrro (8, (-1), 15) (by decide)
  have exvb0o : h.2.2.2.2 b0 2 = .int (zi (vvo 9)) := hvvo (1, 2, 9) (by decide)
  have rrvb0o : 0 ≤ vvo 9 ∧ vvo 9 ≤ 15 := hrro (9, 0, 15) (by decide)
  have extq0o : h.2.2.2.2 b0 3 = .int (zi (vvo 10)) := hvvo (1, 3, 10) (by decide)
  have rrtq0o : (-1) ≤ vvo 10 ∧ vvo 10 ≤ 255 := hrro (10, (-1), 255) (by decide)
  have exC0o : h.2.2.2.2 b0 4 = .int (zi (vvo 11)) := hvvo (1, 4, 11) (by decide)
  have rrC0o : 0 ≤ vvo 11 ∧ vvo 11 ≤ 16 := hrro (11, 0, 16) (by decide)
  have exR0o : h.2.2.2.2 b0 5 = .int (zi (vvo 12)) := hvvo (1, 5, 12) (by decide)
  have rrR0o : 0 ≤ vvo 12 ∧ vvo 12 ≤ 16 := hrro (12, 0, 16) (by decide)
  have exoc0o : h.2.2.2.2 b0 6 = .int (zi (vvo 13)) := hvvo (1, 6, 13) (by decide)
  have rroc0o : 0 ≤ vvo 13 ∧ vvo 13 ≤ 16 := hrro (13, 0, 16) (by decide)
  have exor0o : h.2.2.2.2 b0 7 = .int (zi (vvo 14)) := hvvo (1, 7, 14) (by decide)
  have rror0o : 0 ≤ vvo 14 ∧ vvo 14 ≤ 16 := hrro (14, 0, 16) (by decide)
  have exf0o : h.2.2.2.2 b0 8 = .int (zi (vvo 15)) := hvvo (1, 8, 15) (by decide)
  have rrf0o : 0 ≤ vvo 15 ∧ vvo 15 ≤ 192 := hrro (15, 0, 192) (by decide)
  have exhb1o : h.2.2.2.2 b1 1 = .int (zi (vvo 16)) := hvvo (2, 1, 16) (by decide)
  have rrhb1o : (-1) ≤ vvo 16 ∧ vvo 16 ≤ 15 := hrro (16, (-1), 15) (by decide)
  have exvb1o : h.2.2.2.2 b1 2 = .int (zi (vvo 17)) := hvvo (2, 2, 17) (by decide)
  have rrvb1o : 0 ≤ vvo 17 ∧ vvo 17 ≤ 15 := hrro (17, 0, 15) (by decide)
  have extq1o : h.2.2.2.2 b1 3 = .int (zi (vvo 18)) := hvvo (2, 3, 18) (by decide)
  have rrtq1o : (-1) ≤ vvo 18 ∧ vvo 18 ≤ 255 := hrro (18, (-1), 255) (by decide)
  have exC1o : h.2.2.2.2 b1 4 = .int (zi (vvo 19)) := hvvo (2, 4, 19) (by decide)
  have rrC1o : 0 ≤ vvo 19 ∧ vvo 19 ≤ 16 := hrro (19, 0, 16) (by decide)
  have exR1o : h.2.2.2.2 b1 5 = .int (zi (vvo 20)) := hvvo (2, 5, 20) (by decide)
  have rrR1o : 0 ≤ vvo 20 ∧ vvo 20 ≤ 16 := hrro (20, 0, 16) (by decide)
  have exoc1o : h.2.2.2.2 b1 6 = .int (zi (vvo 21)) := hvvo (2, 6, 21) (by decide)
  have rroc1o : 0 ≤ vvo 21 ∧ vvo 21 ≤ 16 := hrro (21, 0, 16) (by decide)
  have exor1o : h.2.2.2.2 b1 7 = .int (zi (vvo 22)) := hvvo (2, 7, 22) (by decide)
  have rror1o : 0 ≤ vvo 22 ∧ vvo 22 ≤ 16 := hrro (22, 0, 16) (by decide)
  have exf1o : h.2.2.2.2 b1 8 = .int (zi (vvo 23)) := hvvo (2, 8, 23) (by decide)
  have rrf1o : 0 ≤ vvo 23 ∧ vvo 23 ≤ 192 := hrro (23, 0, 192) (by decide)
  have exhb2o : h.2.2.2.2 b2 1 = .int (zi (vvo 24)) := hvvo (3, 1, 24) (by decide)
  have rrhb2o : (-1) ≤ vvo 24 ∧ vvo 24 ≤ 15 := hrro (24, (-1), 15) (by decide)
  have exvb2o : h.2.2.2.2 b2 2 = .int (zi (vvo 25)) := hvvo (3, 2, 25) (by decide)
  have rrvb2o : 0 ≤ vvo 25 ∧ vvo 25 ≤ 15 := hrro (25, 0, 15) (by decide)
  have extq2o : h.2.2.2.2 b2 3 = .int (zi (vvo 26)) := hvvo (3, 3, 26) (by decide)
  have rrtq2o : (-1) ≤ vvo 26 ∧ vvo 26 ≤ 255 := hrro (26, (-1), 255) (by decide)
  have exC2o : h.2.2.2.2 b2 4 = .int (zi (vvo 27)) := hvvo (3, 4, 27) (by decide)
  have rrC2o : 0 ≤ vvo 27 ∧ vvo 27 ≤ 16 := hrro (27, 0, 16) (by decide)
  have exR2o : h.2.2.2.2 b2 5 = .int (zi (vvo 28)) := hvvo (3, 5, 28) (by decide)
  have rrR2o : 0 ≤ vvo 28 ∧ vvo 28 ≤ 16 := hrro (28, 0, 16) (by decide)
  have exoc2o : h.2.2.2.2 b2 6 = .int (zi (vvo 29)) := hvvo (3, 6, 29) (by decide)
  have rroc2o : 0 ≤ vvo 29 ∧ vvo 29 ≤ 16 := hrro (29, 0, 16) (by decide)
  have exor2o : h.2.2.2.2 b2 7 = .int (zi (vvo 30)) := hvvo (3, 7, 30) (by decide)
  have rror2o : 0 ≤ vvo 30 ∧ vvo 30 ≤ 16 := hrro (30, 0, 16) (by decide)
  have exf2o : h.2.2.2.2 b2 8 = .int (zi (vvo 31)) := hvvo (3, 8, 31) (by decide)
  have rrf2o : 0 ≤ vvo 31 ∧ vvo 31 ≤ 192 := hrro (31, 0, 192) (by decide)
  refine gz_s 1 (pc' := 1) (L' := [some (.ref x), some (.int (zi a)), some (.int (zi b)), some (.int (zi c)), none, none, none, none]) (S' := [.int (zi c)]) rfl ?_
  have jn2 : ∀ (jn2v0 : Int), ((0 ≤ jn2v0) ∧ (jn2v0 ≤ 1) ∧ (jn2v0 = 1 → (0 ≤ c ∧ (c < vvo 0 ∨ (3 ≤ c ∧ c ≤ 5))))) → gz gPP gGG gcn (d + 3) gt70 30 [some (.ref x), some (.int (zi a)), some (.int (zi b)), some (.int (zi c)), none, none, none, none] [.int (zi jn2v0)] h (fun q _ => ∃ ty9 : Nat → Nat, gSg [] [] [] ty h ty9 q.2.2 ∧ ∃ ld1 lb1 iv1 : Int, 0 ≤ ld1 ∧ ld1 ≤ 192 ∧ 1024 ≤ lb1 ∧ lb1 ≤ 1000000 ∧ 0 ≤ iv1 ∧ iv1 ≤ 2058 ∧ (gIx ty9 x ld1 lb1 iv1 q.2.2) ∧ ((∃ z : Int, gfin gt70 q.1 q.2.1 = some (some (.int (zi z))) ∧ (-2147483648) ≤ z ∧ z ≤ 2147483647 ∧ (iv1 = iv) ∧ (1024 * (((q.2.2.1 : Int) - h.1) - 31 - 2 * (ld1 - ld)) ≤ lb1 - lb) ∧ (((q.2.2.2.1 : Int) - h.2.1) ≤ 4303 + 12480 * (ld1 - ld) + 2 * (lb1 - lb)) ∧ (ld ≤ ld1) ∧ (lb ≤ lb1)) ∨ (q.2.1 = [] ∧ ((q.1 = 67)) ∧ (iv1 = iv) ∧ (1024 * (((q.2.2.1 : Int) - h.1) - 31 - 2 * (ld1 - ld)) ≤ lb1 - lb) ∧ (((q.2.2.2.1 : Int) - h.2.1) ≤ 4303 + 12480 * (ld1 - ld) + 2 * (lb1 - lb)) ∧ (ld ≤ ld1) ∧ (lb ≤ lb1)))) := by
    intro jn2v0 jn2d
    refine gz_s 2 (pc' := 34) (L' := [some (.ref x), some (.int (zi a)), some (.int (zi b)), some (.int (zi c)), some (.int (zi jn2v0)), none, none, none]) (S' := [.int (zi jn2v0)]) rfl ?_
    by_cases hc3 : (jn2v0 : Int) = 0
    · refine gy_ifT (pc' := 67) rfl (by decide) (by decide) (by omega) hc3 ?_
      have hl4 : 1024 ≤ h.2.2.2.1 bt ∧ h.2.2.2.1 bt ≤ 1000000 := gJ.rowl (G := gGG) hS.1 tbt rfl
      have hl5 : 0 ≤ h.2.2.2.1 coo ∧ h.2.2.2.1 coo ≤ 12288 := gJ.rowl (G := gGG) hS.1 tcoo rfl
      have hl6 : 0 ≤ h.2.2.2.1 dmo ∧ h.2.2.2.1 dmo ≤ 192 := gJ.rowl (G := gGG) hS.1 tdmo rfl
      have hix7 : gIx ty x ld (h.2.2.2.1 bt : Int) (64 * dw + n0) h := ⟨pic, b0, b1, b2, dr, sk, bt, n0, c0, i0, dw, ⟨tx, tdr, tsk, tbt⟩, ⟨ex2, ex3, ex4, ex0⟩, hpc, htc, ⟨en0, by omega, by omega⟩, ⟨eiv, by omega, by omega⟩, ⟨ec0, by omega, by omega⟩, ⟨by omega, by omega⟩, hrr, hrw, ⟨edw, by omega, by omega⟩, rfl⟩
      have G8 : gSg [] [] [] ty h ty h := gSg.ss G0 hS (by decide)
      exact gz_end (I := .new 84) (len := 3) rfl (Or.inr (by decide)) ⟨ty, G8, ld, (h.2.2.2.1 bt : Int), (64 * dw + n0), (by omega), (by omega), (by omega), (by omega), (by omega), (by omega), hix7, Or.inr ⟨rfl, rfl, (by omega), (by dsimp only; omega), (by dsimp only; omega), (by omega), (by omega)⟩⟩
    · refine gy_ifF rfl (by decide) (by decide) (by omega) hc3 ?_
      refine gz_s 1 (pc' := 38) (L' := [some (.ref x), some (.int (zi a)), some (.int (zi b)), some (.int (zi c)), some (.int (zi jn2v0)), none, none, none]) (S' := [.int (zi a)]) rfl ?_
      by_cases hc9 : (a : Int) < 0
      · refine gy_ifT (pc' := 67) rfl (by decide) (by decide) (by omega) hc9 ?_
        have hl10 : 1024 ≤ h.2.2.2.1 bt ∧ h.2.2.2.1 bt ≤ 1000000 := gJ.rowl (G := gGG) hS.1 tbt rfl
        have hl11 : 0 ≤ h.2.2.2.1 coo ∧ h.2.2.2.1 coo ≤ 12288 := gJ.rowl (G := gGG) hS.1 tcoo rfl
        have hl12 : 0 ≤ h.2.2.2.1 dmo ∧ h.2.2.2.1 dmo ≤ 192 := gJ.rowl (G := gGG) hS.1 tdmo rfl
        have hix13 : gIx ty x ld (h.2.2.2.1 bt : Int) (64 * dw + n0) h := ⟨pic, b0, b1, b2, dr, sk, bt, n0, c0, i0, dw, ⟨tx, tdr, tsk, tbt⟩, ⟨ex2, ex3, ex4, ex0⟩, hpc, htc, ⟨en0, by omega, by omega⟩, ⟨eiv, by omega, by omega⟩, ⟨ec0, by omega, by omega⟩, ⟨by omega, by omega⟩, hrr, hrw, ⟨edw, by omega, by omega⟩, rfl⟩
        have G14 : gSg [] [] [] ty h ty h := gSg.ss G0 hS (by decide)
        exact gz_end (I := .new 84) (len := 3) rfl (Or.inr (by decide)) ⟨ty, G14, ld, (h.2.2.2.1 bt : Int), (64 * dw + n0), (by omega), (by omega), (by omega), (by omega), (by omega), (by omega), hix13, Or.inr ⟨rfl, rfl, (by omega), (by dsimp only; omega), (by dsimp only; omega), (by omega), (by omega)⟩⟩
      · refine gy_ifF rfl (by decide) (by decide) (by omega) hc9 ?_
        refine gz_s 2 (pc' := 43) (L' := [some (.ref x), some (.int (zi a)), some (.int (zi b)), some (.int (zi c)), some (.int (zi jn2v0)), none, none, none]) (S' := [.ref x, .int (zi a)]) rfl ?_
        refine gs_gtk rfl (by decide) rfl hS.1 tx rfl rfl ex2 ?_
        refine gs_gtk rfl (by decide) rfl hS.1 tpic rfl rfl exwo ?_
        by_cases hc15 : (vvo 4 : Int) ≤ a
        · refine gy_icT (pc' := 67) rfl (by decide) (by decide) (by omega) (by omega) hc15 ?_
          have hl16 : 1024 ≤ h.2.2.2.1 bt ∧ h.2.2.2.1 bt ≤ 1000000 := gJ.rowl (G := gGG) hS.1 tbt rfl
          have hl17 : 0 ≤ h.2.2.2.1 coo ∧ h.2.2.2.1 coo ≤ 12288 := gJ.rowl (G := gGG) hS.1 tcoo rfl
          have hl18 : 0 ≤ h.2.2.2.1 dmo ∧ h.2.2.2.1 dmo ≤ 192 := gJ.rowl (G := gGG) hS.1 tdmo rfl
          have hix19 : gIx ty x ld (h.2.2.2.1 bt : Int) (64 * dw + n0) h := ⟨pic, b0, b1, b2, dr, sk, bt, n0, c0, i0, dw, ⟨tx, tdr, tsk, tbt⟩, ⟨ex2, ex3, ex4, ex0⟩, hpc, htc, ⟨en0, by omega, by omega⟩, ⟨eiv, by omega, by omega⟩, ⟨ec0, by omega, by omega⟩, ⟨by omega, by omega⟩, hrr, hrw, ⟨edw, by omega, by omega⟩, rfl⟩
          have G20 : gSg [] [] [] ty h ty h := gSg.ss G0 hS (by decide)
          exact gz_end (I := .new 84) (len := 3) rfl (Or.inr (by decide)) ⟨ty, G20, ld, (h.2.2.2.1 bt : Int), (64 * dw + n0), (by omega), (by omega), (by omega), (by omega), (by omega), (by omega), hix19, Or.inr ⟨rfl, rfl, (by omega), (by dsimp only; omega), (by dsimp only; omega), (by omega), (by omega)⟩⟩
        · refine gy_icF rfl (by decide) (by decide) (by omega) (by omega) hc15 ?_
          refine gz_s 1 (pc' := 53) (L' := [some (.ref x), some (.int (zi a)), some (.int (zi b)), some (.int (zi c)), some (.int (zi jn2v0)), none, none, none]) (S' := [.int (zi b)]) rfl ?_
          by_cases hc21 : (b : Int) < 0
          · refine gy_ifT (pc' := 67) rfl (by decide) (by decide) (by omega) hc21 ?_
            have hl22 : 1024 ≤ h.2.2.2.1 bt ∧ h.2.2.2.1 bt ≤ 1000000 := gJ.rowl (G := gGG) hS.1 tbt rfl
            have hl23 : 0 ≤ h.2.2.2.1 coo ∧ h.2.2.2.1 coo ≤ 12288 := gJ.rowl (G := gGG) hS.1 tcoo rfl
            have hl24 : 0 ≤ h.2.2.2.1 dmo ∧ h.2.2.2.1 dmo ≤ 192 := gJ.rowl (G := gGG) hS.1 tdmo rfl
            have hix25 : gIx ty x ld (h.2.2.2.1 bt : Int) (64 * dw + n0) h := ⟨pic, b0, b1, b2, dr, sk, bt, n0, c0, i0, dw, ⟨tx, tdr, tsk, tbt⟩, ⟨ex2, ex3, ex4, ex0⟩, hpc, htc, ⟨en0, by omega, by omega⟩, ⟨eiv, by omega, by omega⟩, ⟨ec0, by omega, by omega⟩, ⟨by omega, by omega⟩, hrr, hrw, ⟨edw, by omega, by omega⟩, rfl⟩
            have G26 : gSg [] [] [] ty h ty h := gSg.ss G0 hS (by decide)
            exact gz_end (I := .new 84) (len := 3) rfl (Or.inr (by decide)) ⟨ty, G26, ld, (h.2.2.2.1 bt : Int), (64 * dw + n0), (by omega), (by omega), (by omega), (by omega), (by omega), (by omega), hix25, Or.inr ⟨rfl, rfl, (by omega), (by dsimp only; omega), (by dsimp only; omega), (by omega), (by omega)⟩⟩
          · refine gy_ifF rfl (by decide) (by decide) (by omega) hc21 ?_
            refine gz_s 2 (pc' := 58) (L' := [some (.ref x), some (.int (zi a)), some (.int (zi b)), some (.int (zi c)), some (.int (zi jn2v0)), none, none, none]) (S' := [.ref x, .int (zi b)]) rfl ?_
            refine gs_gtk rfl (by decide) rfl hS.1 tx rfl rfl ex2 ?_
            refine gs_gtk rfl (by decide) rfl hS.1 tpic rfl rfl exhho ?_
            by_cases hc27 : (b : Int) < vvo 5
            · refine gy_icT (pc' := 77) rfl (by decide) (by decide) (by omega) (by omega) hc27 ?_
              refine gz_s 2 (pc' := 79) (L' := [some (.ref x), some (.int (zi a)), some (.int (zi b)), some (.int (zi c)), some (.int (zi jn2v0)), none, none, none]) (S' := [.ref x, .int (zi c)]) rfl ?_
              refine gs_gtk rfl (by decide) rfl hS.1 tx rfl rfl ex2 ?_
              refine gs_gtk rfl (by decide) rfl hS.1 tpic rfl rfl excno ?_
              by_cases hc28 : (vvo 0 : Int) ≤ c
              · refine gy_icT (pc' := 99) rfl (by decide) (by decide) (by omega) (by omega) hc28 ?_
                refine gz_s 1 (pc' := 100) (L' := [some (.ref x), some (.int (zi a)), some (.int (zi b)), some (.int (zi c)), some (.int (zi jn2v0)), none, none, none]) (S' := [.ref x]) rfl ?_
                refine gs_gtk rfl (by decide) rfl hS.1 tx rfl rfl ex2 ?_
                refine gz_s 3 (pc' := 106) (L' := [some (.ref x), some (.int (zi a)), some (.int (zi b)), some (.int (zi c)), some (.int (zi jn2v0)), none, none, none]) (S' := [.int (zi b), .int (zi a), .int (zi 0), .ref pic]) rfl ?_
                have hl29 : h.2.2.2.1 coo = h.2.2.2.1 coo := congrFun hS.2.2.2.2.1 coo
                refine gz_call rfl (by decide) rfl (by decide) (by decide) (gcal_of rfl rfl rfl (Nat.le_of_ble_eq_true rfl) (gJ.recv (G := gGG) hS.1 tpic rfl rfl)) (cl_Picture_sampleAt _ hS.1 pic tpic 0 ⟨by omega, by omega⟩ a ⟨by omega, by omega⟩ b ⟨by omega, by omega⟩ bno er0o tbno b0 er1o tb0 b1 er2o tb1 b2 er3o tb2 coo er4o tcoo (gSta.fr hS.2 (by decide) hyst) (vvo 0) excno ⟨by omega, by omega⟩ (vvo 1) exuco ⟨by omega, by omega⟩ (vvo 2) exuro ⟨by omega, by omega⟩ (vvo 3) exblo ⟨by omega, by omega⟩ (vvo 4) exwo ⟨by omega, by omega⟩ (vvo 5) exhho ⟨by omega, by omega⟩ (vvo 6) exgho ⟨by omega, by omega⟩ (vvo 7) exgvo ⟨by omega, by omega⟩ (vvo 8) exhb0o ⟨by omega, by omega⟩ (vvo 9) exvb0o ⟨by omega, by omega⟩ (vvo 11) exC0o ⟨by omega, by omega⟩ (vvo 12) exR0o ⟨by omega, by omega⟩ (vvo 13) exoc0o ⟨by omega, by omega⟩ (vvo 14) exor0o ⟨by omega, by omega⟩ (vvo 15) exf0o ⟨by omega, by omega⟩ (vvo 16) exhb1o ⟨by omega, by omega⟩ (vvo 17) exvb1o ⟨by omega, by omega⟩ (vvo 19) exC1o ⟨by omega, by omega⟩ (vvo 20) exR1o ⟨by omega, by omega⟩ (vvo 21) exoc1o ⟨by omega, by omega⟩ (vvo 22) exor1o ⟨by omega, by omega⟩ (vvo 23) exf1o ⟨by omega, by omega⟩ (vvo 24) exhb2o ⟨by omega, by omega⟩ (vvo 25) exvb2o ⟨by omega, by omega⟩ (vvo 27) exC2o ⟨by omega, by omega⟩ (vvo 28) exR2o ⟨by omega, by omega⟩ (vvo 29) exoc2o ⟨by omega, by omega⟩ (vvo 30) exor2o ⟨by omega, by omega⟩ (vvo 31) exf2o ⟨by omega, by omega⟩ (vvo 10) extq0o ⟨by omega, by omega⟩ (vvo 18) extq1o ⟨by omega, by omega⟩ (vvo 26) extq2o ⟨by omega, by omega⟩ (by omega) (by omega) (by omega) (by omega) uq yy0o yy1o yy2o yy3o yy4o yy5o yy7o) (fun q30 _ wq30 => ?_)
                obtain ⟨pq30, oq30, hq30⟩ := q30
                obtain ⟨xq30, zq30, gq30, aq30, bq30⟩ := wq30
                refine ⟨_, gq30, ?_⟩
                show gz gPP gGG gcn _ _ 109 [some (.ref x), some (.int (zi a)), some (.int (zi b)), some (.int (zi c)), some (.int (zi jn2v0)), none, none, none] [.int (zi zq30)] hq30 _
                have sq30 : gSs rT 1027 ty [] h hq30 := gSs.tr hS xq30 (by decide)
                have s31 := (xq30.2.2.2.2.2 x 2 (by rw [tx]; decide)).trans ex2
                have s32 := (xq30.2.2.2.2.2 x 3 (by rw [tx]; decide)).trans ex3
                have s33 := (xq30.2.2.2.2.2 x 4 (by rw [tx]; decide)).trans ex4
                have s34 := (xq30.2.2.2.2.2 sk 0 (by rw [tsk]; decide)).trans ex0
                have s35 := (xq30.2.2.2.2.2 dr 8 (by rw [tdr]; decide)).trans en0
                have s36 := (xq30.2.2.2.2.2 dr 3 (by rw [tdr]; decide)).trans eiv
                have s37 := (xq30.2.2.2.2.2 dr 1 (by rw [tdr]; decide)).trans edw
                have s38 := (xq30.2.2.2.2.2 sk 1 (by rw [tsk]; decide)).trans ec0
                have s39 := (xq30.2.2.2.2.2 pic 0 (by rw [tpic]; decide)).trans er0o
                have s40 := (xq30.2.2.2.2.2 bno 0 (by rw [tbno]; decide)).trans er1o
                have s41 := (xq30.2.2.2.2.2 bno 1 (by rw [tbno]; decide)).trans er2o
                have s42 := (xq30.2.2.2.2.2 bno 2 (by rw [tbno]; decide)).trans er3o
                have s43 := (xq30.2.2.2.2.2 pic 2 (by rw [tpic]; decide)).trans er4o
                have s44 := (xq30.2.2.2.2.2 pic 3 (by rw [tpic]; decide)).trans er5o
                have s45 := (xq30.2.2.2.2.2 pic 7 (by rw [tpic]; decide)).trans excno
                have s46 := (xq30.2.2.2.2.2 pic 12 (by rw [tpic]; decide)).trans exuco
                have s47 := (xq30.2.2.2.2.2 pic 13 (by rw [tpic]; decide)).trans exuro
                have s48 := (xq30.2.2.2.2.2 pic 8 (by rw [tpic]; decide)).trans exblo
                have s49 := (xq30.2.2.2.2.2 pic 5 (by rw [tpic]; decide)).trans exwo
                have s50 := (xq30.2.2.2.2.2 pic 6 (by rw [tpic]; decide)).trans exhho
                have s51 := (xq30.2.2.2.2.2 pic 10 (by rw [tpic]; decide)).trans exgho
                have s52 := (xq30.2.2.2.2.2 pic 11 (by rw [tpic]; decide)).trans exgvo
                have s53 := (xq30.2.2.2.2.2 b0 1 (by rw [tb0]; decide)).trans exhb0o
                have s54 := (xq30.2.2.2.2.2 b0 2 (by rw [tb0]; decide)).trans exvb0o
                have s55 := (xq30.2.2.2.2.2 b0 3 (by rw [tb0]; decide)).trans extq0o
                have s56 := (xq30.2.2.2.2.2 b0 4 (by rw [tb0]; decide)).trans exC0o
                have s57 := (xq30.2.2.2.2.2 b0 5 (by rw [tb0]; decide)).trans exR0o
                have s58 := (xq30.2.2.2.2.2 b0 6 (by rw [tb0]; decide)).trans exoc0o
                have s59 := (xq30.2.2.2.2.2 b0 7 (by rw [tb0]; decide)).trans exor0o
                have s60 := (xq30.2.2.2.2.2 b0 8 (by rw [tb0]; decide)).trans exf0o
                have s61 := (xq30.2.2.2.2.2 b1 1 (by rw [tb1]; decide)).trans exhb1o
                have s62 := (xq30.2.2.2.2.2 b1 2 (by rw [tb1]; decide)).trans exvb1o
                have s63 := (xq30.2.2.2.2.2 b1 3 (by rw [tb1]; decide)).trans extq1o
                have s64 := (xq30.2.2.2.2.2 b1 4 (by rw [tb1]; decide)).trans exC1o
                have s65 := (xq30.2.2.2.2.2 b1 5 (by rw [tb1]; decide)).trans exR1o
                have s66 := (xq30.2.2.2.2.2 b1 6 (by rw [tb1]; decide)).trans exoc1o
                have s67 := (xq30.2.2.2.2.2 b1 7 (by rw [tb1]; decide)).trans exor1o
                have s68 := (xq30.2.2.2.2.2 b1 8 (by rw [tb1]; decide)).trans exf1o
                have s69 := (xq30.2.2.2.2.2 b2 1 (by rw [tb2]; decide)).trans exhb2o
                have s70 := (xq30.2.2.2.2.2 b2 2 (by rw [tb2]; decide)).trans exvb2o
                have s71 := (xq30.2.2.2.2.2 b2 3 (by rw [tb2]; decide)).trans extq2o
                have s72 := (xq30.2.2.2.2.2 b2 4 (by rw [tb2]; decide)).trans exC2o
                have s73 := (xq30.2.2.2.2.2 b2 5 (by rw [tb2]; decide)).trans exR2o
                have s74 := (xq30.2.2.2.2.2 b2 6 (by rw [tb2]; decide)).trans exoc2o
                have s75 := (xq30.2.2.2.2.2 b2 7 (by rw [tb2]; decide)).trans exor2o
                have s76 := (xq30.2.2.2.2.2 b2 8 (by rw [tb2]; decide)).trans exf2o
                have pr77 := gPC.fr xq30.2 (by decide) hpc
                have pr78 := gTc.fr xq30.2 (by decide) htc
                have pr79 := gRr.fr xq30.2 (by decide) hrr
                have pr80 := gRw.fr xq30.2 (by decide) hrw
                refine gz_s 2 (pc' := 112) (L' := [some (.ref x), some (.int (zi a)), some (.int (zi b)), some (.int (zi c)), some (.int (zi jn2v0)), some (.int (zi zq30)), none, none]) (S' := [.ref x]) rfl ?_
                refine gs_gtk rfl (by decide) rfl sq30.1 tx rfl rfl s31 ?_
                refine gs_gtk rfl (by decide) rfl sq30.1 tpic rfl rfl s45 ?_
                refine gz_s 1 (pc' := 119) (L' := [some (.ref x), some (.int (zi a)), some (.int (zi b)), some (.int (zi c)), some (.int (zi jn2v0)), some (.int (zi zq30)), none, none]) (S' := [.int (zi 3), .int (zi (vvo 0))]) rfl ?_
                by_cases hc81 : (3 : Int) ≤ vvo 0
                · refine gy_icT (pc' := 125) rfl (by decide) (by decide) (by omega) (by omega) hc81 ?_
                  refine gz_s 1 (pc' := 126) (L' := [some (.ref x), some (.int (zi a)), some (.int (zi b)), some (.int (zi c)), some (.int (zi jn2v0)), some (.int (zi zq30)), none, none]) (S' := [.ref x]) rfl ?_
                  refine gs_gtk rfl (by decide) rfl sq30.1 tx rfl rfl s31 ?_
                  refine gz_s 3 (pc' := 132) (L' := [some (.ref x), some (.int (zi a)), some (.int (zi b)), some (.int (zi c)), some (.int (zi jn2v0)), some (.int (zi zq30)), none, none]) (S' := [.int (zi b), .int (zi a), .int (zi 1), .ref pic]) rfl ?_
                  have k82 := sq30.2.1
                  have k82b := sq30.2.2.1
                  have hl83 : hq30.2.2.2.1 bt = h.2.2.2.1 bt := congrFun sq30.2.2.2.2.1 bt
                  have hl84 : hq30.2.2.2.1 coo = h.2.2.2.1 coo := congrFun sq30.2.2.2.2.1 coo
                  have hl85 : hq30.2.2.2.1 dmo = h.2.2.2.1 dmo := congrFun sq30.2.2.2.2.1 dmo
                  have hl86 : hq30.2.2.2.1 coo = h.2.2.2.1 coo := congrFun sq30.2.2.2.2.1 coo
                  refine gz_call rfl (by decide) rfl (by decide) (by decide) (gcal_of rfl rfl rfl (Nat.le_of_ble_eq_true rfl) (gJ.recv (G := gGG) sq30.1 tpic rfl rfl)) (cl_Picture_sampleAt _ sq30.1 pic tpic 1 ⟨by omega, by omega⟩ a ⟨by omega, by omega⟩ b ⟨by omega, by omega⟩ bno s39 tbno b0 s40 tb0 b1 s41 tb1 b2 s42 tb2 coo s43 tcoo (gSta.fr sq30.2 (by decide) hyst) (vvo 0) s45 ⟨by omega, by omega⟩ (vvo 1) s46 ⟨by omega, by omega⟩ (vvo 2) s47 ⟨by omega, by omega⟩ (vvo 3) s48 ⟨by omega, by omega⟩ (vvo 4) s49 ⟨by omega, by omega⟩ (vvo 5) s50 ⟨by omega, by omega⟩ (vvo 6) s51 ⟨by omega, by omega⟩ (vvo 7) s52 ⟨by omega, by omega⟩ (vvo 8) s53 ⟨by omega, by omega⟩ (vvo 9) s54 ⟨by omega, by omega⟩ (vvo 11) s56 ⟨by omega, by omega⟩ (vvo 12) s57 ⟨by omega, by omega⟩ (vvo 13) s58 ⟨by omega, by omega⟩ (vvo 14) s59 ⟨by omega, by omega⟩ (vvo 15) s60 ⟨by omega, by omega⟩ (vvo 16) s61 ⟨by omega, by omega⟩ (vvo 17) s62 ⟨by omega, by omega⟩ (vvo 19) s64 ⟨by omega, by omega⟩ (vvo 20) s65 ⟨by omega, by omega⟩ (vvo 21) s66 ⟨by omega, by omega⟩ (vvo 22) s67 ⟨by omega, by omega⟩ (vvo 23) s68 ⟨by omega, by omega⟩ (vvo 24) s69 ⟨by omega, by omega⟩ (vvo 25) s70 ⟨by omega, by omega⟩ (vvo 27) s72 ⟨by omega, by omega⟩ (vvo 28) s73 ⟨by omega, by omega⟩ (vvo 29) s74 ⟨by omega, by omega⟩ (vvo 30) s75 ⟨by omega, by omega⟩ (vvo 31) s76 ⟨by omega, by omega⟩ (vvo 10) s55 ⟨by omega, by omega⟩ (vvo 18) s63 ⟨by omega, by omega⟩ (vvo 26) s71 ⟨by omega, by omega⟩ (by omega) (by omega) (by omega) (by omega) uq yy0o yy1o yy2o yy3o yy4o yy5o yy7o) (fun q87 _ wq87 => ?_)
                  obtain ⟨pq87, oq87, hq87⟩ := q87
                  obtain ⟨xq87, zq87, gq87, aq87, bq87⟩ := wq87
                  refine ⟨_, gq87, ?_⟩
                  show gz gPP gGG gcn _ _ 135 [some (.ref x), some (.int (zi a)), some (.int (zi b)), some (.int (zi c)), some (.int (zi jn2v0)), some (.int (zi zq30)), none, none] [.int (zi zq87)] hq87 _
                  have sq87 : gSs rT 1027 ty [] h hq87 := gSs.tr sq30 xq87 (by decide)
                  have s88 := (xq87.2.2.2.2.2 x 2 (by rw [tx]; decide)).trans s31
                  have s89 := (xq87.2.2.2.2.2 x 3 (by rw [tx]; decide)).trans s32
                  have s90 := (xq87.2.2.2.2.2 x 4 (by rw [tx]; decide)).trans s33
                  have s91 := (xq87.2.2.2.2.2 sk 0 (by rw [tsk]; decide)).trans s34
                  have s92 := (xq87.2.2.2.2.2 dr 8 (by rw [tdr]; decide)).trans s35
                  have s93 := (xq87.2.2.2.2.2 dr 3 (by rw [tdr]; decide)).trans s36
                  have s94 := (xq87.2.2.2.2.2 dr 1 (by rw [tdr]; decide)).trans s37
                  have s95 := (xq87.2.2.2.2.2 sk 1 (by rw [tsk]; decide)).trans s38
                  have s96 := (xq87.2.2.2.2.2 pic 0 (by rw [tpic]; decide)).trans s39
                  have s97 := (xq87.2.2.2.2.2 bno 0 (by rw [tbno]; decide)).trans s40
                  have s98 := (xq87.2.2.2.2.2 bno 1 (by rw [tbno]; decide)).trans s41
                  have s99 := (xq87.2.2.2.2.2 bno 2 (by rw [tbno]; decide)).trans s42
                  have s100 := (xq87.2.2.2.2.2 pic 2 (by rw [tpic]; decide)).trans s43
                  have s101 := (xq87.2.2.2.2.2 pic 3 (by rw [tpic]; decide)).trans s44
                  have s102 := (xq87.2.2.2.2.2 pic 7 (by rw [tpic]; decide)).trans s45
                  have s103 := (xq87.2.2.2.2.2 pic 12 (by rw [tpic]; decide)).trans s46
                  have s104 := (xq87.2.2.2.2.2 pic 13 (by rw [tpic]; decide)).trans s47
                  have s105 := (xq87.2.2.2.2.2 pic 8 (by rw [tpic]; decide)).trans s48
                  have s106 := (xq87.2.2.2.2.2 pic 5 (by rw [tpic]; decide)).trans s49
                  have s107 := (xq87.2.2.2.2.2 pic 6 (by rw [tpic]; decide)).trans s50
                  have s108 := (xq87.2.2.2.2.2 pic 10 (by rw [tpic]; decide)).trans s51
                  have s109 := (xq87.2.2.2.2.2 pic 11 (by rw [tpic]; decide)).trans s52
                  have s110 := (xq87.2.2.2.2.2 b0 1 (by rw [tb0]; decide)).trans s53
                  have s111 := (xq87.2.2.2.2.2 b0 2 (by rw [tb0]; decide)).trans s54
                  have s112 := (xq87.2.2.2.2.2 b0 3 (by rw [tb0]; decide)).trans s55
                  have s113 := (xq87.2.2.2.2.2 b0 4 (by rw [tb0]; decide)).trans s56
                  have s114 := (xq87.2.2.2.2.2 b0 5 (by rw [tb0]; decide)).trans s57
                  have s115 := (xq87.2.2.2.2.2 b0 6 (by rw [tb0]; decide)).trans s58
                  have s116 := (xq87.2.2.2.2.2 b0 7 (by rw [tb0]; decide)).trans s59
                  have s117 := (xq87.2.2.2.2.2 b0 8 (by rw [tb0]; decide)).trans s60
                  have s118 := (xq87.2.2.2.2.2 b1 1 (by rw [tb1]; decide)).trans s61
                  have s119 := (xq87.2.2.2.2.2 b1 2 (by rw [tb1]; decide)).trans s62
                  have s120 := (xq87.2.2.2.2.2 b1 3 (by rw [tb1]; decide)).trans s63
                  have s121 := (xq87.2.2.2.2.2 b1 4 (by rw [tb1]; decide)).trans s64
                  have s122 := (xq87.2.2.2.2.2 b1 5 (by rw [tb1]; decide)).trans s65
                  have s123 := (xq87.2.2.2.2.2 b1 6 (by rw [tb1]; decide)).trans s66
                  have s124 := (xq87.2.2.2.2.2 b1 7 (by rw [tb1]; decide)).trans s67
                  have s125 := (xq87.2.2.2.2.2 b1 8 (by rw [tb1]; decide)).trans s68
                  have s126 := (xq87.2.2.2.2.2 b2 1 (by rw [tb2]; decide)).trans s69
                  have s127 := (xq87.2.2.2.2.2 b2 2 (by rw [tb2]; decide)).trans s70
                  have s128 := (xq87.2.2.2.2.2 b2 3 (by rw [tb2]; decide)).trans s71
                  have s129 := (xq87.2.2.2.2.2 b2 4 (by rw [tb2]; decide)).trans s72
                  have s130 := (xq87.2.2.2.2.2 b2 5 (by rw [tb2]; decide)).trans s73
                  have s131 := (xq87.2.2.2.2.2 b2 6 (by rw [tb2]; decide)).trans s74
                  have s132 := (xq87.2.2.2.2.2 b2 7 (by rw [tb2]; decide)).trans s75
                  have s133 := (xq87.2.2.2.2.2 b2 8 (by rw [tb2]; decide)).trans s76
                  have pr134 := gPC.fr xq87.2 (by decide) pr77
                  have pr135 := gTc.fr xq87.2 (by decide) pr78
                  have pr136 := gRr.fr xq87.2 (by decide) pr79
                  have pr137 := gRw.fr xq87.2 (by decide) pr80
                  refine gy_s 2 (pc' := 139) (L' := [some (.ref x), some (.int (zi a)), some (.int (zi b)), some (.int (zi c)), some (.int (zi jn2v0)), some (.int (zi zq30)), none, none]) (S' := [.int ((zi zq87) - (zi 128))]) (L2 := [some (.ref x), some (.int (zi a)), some (.int (zi b)), some (.int (zi c)), some (.int (zi jn2v0)), some (.int (zi zq30)), none, none]) (S2 := [.int (zi (zq87 - 128))]) rfl (by simp only [zi_add, zi_sub, zi_mul, zi_neg, zi_and1, zi_and7, zi_and15, zi_and31, zi_and255]) (by simp only [zi_add, zi_sub, zi_mul, zi_neg, zi_and1, zi_and7, zi_and15, zi_and31, zi_and255]) ?_
                  refine gy_any (fun z138 ez138 az138 bz138 => ?_)
                  refine gz_s 2 (pc' := 142) (L' := [some (.ref x), some (.int (zi a)), some (.int (zi b)), some (.int (zi c)), some (.int (zi jn2v0)), some (.int (zi zq30)), some (.int (zi z138)), none]) (S' := [.ref x]) rfl ?_
                  refine gs_gtk rfl (by decide) rfl sq87.1 tx rfl rfl s88 ?_
                  refine gz_s 3 (pc' := 148) (L' := [some (.ref x), some (.int (zi a)), some (.int (zi b)), some (.int (zi c)), some (.int (zi jn2v0)), some (.int (zi zq30)), some (.int (zi z138)), none]) (S' := [.int (zi b), .int (zi a), .int (zi 2), .ref pic]) rfl ?_
                  have k139 := sq87.2.1
                  have k139b := sq87.2.2.1
                  have hl140 : hq87.2.2.2.1 bt = h.2.2.2.1 bt := congrFun sq87.2.2.2.2.1 bt
                  have hl141 : hq87.2.2.2.1 coo = h.2.2.2.1 coo := congrFun sq87.2.2.2.2.1 coo
                  have hl142 : hq87.2.2.2.1 dmo = h.2.2.2.1 dmo := congrFun sq87.2.2.2.2.1 dmo
                  have hl143 : hq87.2.2.2.1 coo = h.2.2.2.1 coo := congrFun sq87.2.2.2.2.1 coo
                  refine gz_call rfl (by decide) rfl (by decide) (by decide) (gcal_of rfl rfl rfl (Nat.le_of_ble_eq_true rfl) (gJ.recv (G := gGG) sq87.1 tpic rfl rfl)) (cl_Picture_sampleAt _ sq87.1 pic tpic 2 ⟨by omega, by omega⟩ a ⟨by omega, by omega⟩ b ⟨by omega, by omega⟩ bno s96 tbno b0 s97 tb0 b1 s98 tb1 b2 s99 tb2 coo s100 tcoo (gSta.fr sq87.2 (by decide) hyst) (vvo 0) s102 ⟨by omega, by omega⟩ (vvo 1) s103 ⟨by omega, by omega⟩ (vvo 2) s104 ⟨by omega, by omega⟩ (vvo 3) s105 ⟨by omega, by omega⟩ (vvo 4) s106 ⟨by omega, by omega⟩ (vvo 5) s107 ⟨by omega, by omega⟩ (vvo 6) s108 ⟨by omega, by omega⟩ (vvo 7) s109 ⟨by omega, by omega⟩ (vvo 8) s110 ⟨by omega, by omega⟩ (vvo 9) s111 ⟨by omega, by omega⟩ (vvo 11) s113 ⟨by omega, by omega⟩ (vvo 12) s114 ⟨by omega, by omega⟩ (vvo 13) s115 ⟨by omega, by omega⟩ (vvo 14) s116 ⟨by omega, by omega⟩ (vvo 15) s117 ⟨by omega, by omega⟩ (vvo 16) s118 ⟨by omega, by omega⟩ (vvo 17) s119 ⟨by omega, by omega⟩ (vvo 19) s121 ⟨by omega, by omega⟩ (vvo 20) s122 ⟨by omega, by omega⟩ (vvo 21) s123 ⟨by omega, by omega⟩ (vvo 22) s124 ⟨by omega, by omega⟩ (vvo 23) s125 ⟨by omega, by omega⟩ (vvo 24) s126 ⟨by omega, by omega⟩ (vvo 25) s127 ⟨by omega, by omega⟩ (vvo 27) s129 ⟨by omega, by omega⟩ (vvo 28) s130 ⟨by omega, by omega⟩ (vvo 29) s131 ⟨by omega, by omega⟩ (vvo 30) s132 ⟨by omega, by omega⟩ (vvo 31) s133 ⟨by omega, by omega⟩ (vvo 10) s112 ⟨by omega, by omega⟩ (vvo 18) s120 ⟨by omega, by omega⟩ (vvo 26) s128 ⟨by omega, by omega⟩ (by omega) (by omega) (by omega) (by omega) uq yy0o yy1o yy2o yy3o yy4o yy5o yy7o) (fun q144 _ wq144 => ?_)
                  obtain ⟨pq144, oq144, hq144⟩ := q144
                  obtain ⟨xq144, zq144, gq144, aq144, bq144⟩ := wq144
                  refine ⟨_, gq144, ?_⟩
                  show gz gPP gGG gcn _ _ 151 [some (.ref x), some (.int (zi a)), some (.int (zi b)), some (.int (zi c)), some (.int (zi jn2v0)), some (.int (zi zq30)), some (.int (zi z138)), none] [.int (zi zq144)] hq144 _
                  have sq144 : gSs rT 1027 ty [] h hq144 := gSs.tr sq87 xq144 (by decide)
                  have s145 := (xq144.2.2.2.2.2 x 2 (by rw [tx]; decide)).trans s88
                  have s146 := (xq144.2.2.2.2.2 x 3 (by rw [tx]; decide)).trans s89
                  have s147 := (xq144.2.2.2.2.2 x 4 (by rw [tx]; decide)).trans s90
                  have s148 := (xq144.2.2.2.2.2 sk 0 (by rw [tsk]; decide)).trans s91
                  have s149 := (xq144.2.2.2.2.2 dr 8 (by rw [tdr]; decide)).trans s92
                  have s150 := (xq144.2.2.2.2.2 dr 3 (by rw [tdr]; decide)).trans s93
                  have s151 := (xq144.2.2.2.2.2 dr 1 (by rw [tdr]; decide)).trans s94
                  have s152 := (xq144.2.2.2.2.2 sk 1 (by rw [tsk]; decide)).trans s95
                  have s153 := (xq144.2.2.2.2.2 pic 0 (by rw [tpic]; decide)).trans s96
                  have s154 := (xq144.2.2.2.2.2 bno 0 (by rw [tbno]; decide)).trans s97
                  have s155 := (xq144.2.2.2.2.2 bno 1 (by rw [tbno]; decide)).trans s98
                  have s156 := (xq144.2.2.2.2.2 bno 2 (by rw [tbno]; decide)).trans s99
                  have s157 := (xq144.2.2.2.2.2 pic 2 (by rw [tpic]; decide)).trans s100
                  have s158 := (xq144.2.2.2.2.2 pic 3 (by rw [tpic]; decide)).trans s101
                  have s159 := (xq144.2.2.2.2.2 pic 7 (by rw [tpic]; decide)).trans s102
                  have s160 := (xq144.2.2.2.2.2 pic 12 (by rw [tpic]; decide)).trans s103
                  have s161 := (xq144.2.2.2.2.2 pic 13 (by rw [tpic]; decide)).trans s104
                  have s162 := (xq144.2.2.2.2.2 pic 8 (by rw [tpic]; decide)).trans s105
                  have s163 := (xq144.2.2.2.2.2 pic 5 (by rw [tpic]; decide)).trans s106
                  have s164 := (xq144.2.2.2.2.2 pic 6 (by rw [tpic]; decide)).trans s107
                  have s165 := (xq144.2.2.2.2.2 pic 10 (by rw [tpic]; decide)).trans s108
                  have s166 := (xq144.2.2.2.2.2 pic 11 (by rw [tpic]; decide)).trans s109
                  have s167 := (xq144.2.2.2.2.2 b0 1 (by rw [tb0]; decide)).trans s110
                  have s168 := (xq144.2.2.2.2.2 b0 2 (by rw [tb0]; decide)).trans s111
                  have s169 := (xq144.2.2.2.2.2 b0 3 (by rw [tb0]; decide)).trans s112
                  have s170 := (xq144.2.2.2.2.2 b0 4 (by rw [tb0]; decide)).trans s113
                  have s171 := (xq144.2.2.2.2.2 b0 5 (by rw [tb0]; decide)).trans s114
                  have s172 := (xq144.2.2.2.2.2 b0 6 (by rw [tb0]; decide)).trans s115
                  have s173 := (xq144.2.2.2.2.2 b0 7 (by rw [tb0]; decide)).trans s116
                  have s174 := (xq144.2.2.2.2.2 b0 8 (by rw [tb0]; decide)).trans s117
                  have s175 := (xq144.2.2.2.2.2 b1 1 (by rw [tb1]; decide)).trans s118
                  have s176 := (xq144.2.2.2.2.2 b1 2 (by rw [tb1]; decide)).trans s119
                  have s177 := (xq144.2.2.2.2.2 b1 3 (by rw [tb1]; decide)).trans s120
                  have s178 := (xq144.2.2.2.2.2 b1 4 (by rw [tb1]; decide)).trans s121
                  have s179 := (xq144.2.2.2.2.2 b1 5 (by rw [tb1]; decide)).trans s122
                  have s180 := (xq144.2.2.2.2.2 b1 6 (by rw [tb1]; decide)).trans s123
                  have s181 := (xq144.2.2.2.2.2 b1 7 (by rw [tb1]; decide)).trans s124
                  have s182 := (xq144.2.2.2.2.2 b1 8 (by rw [tb1]; decide)).trans s125
                  have s183 := (xq144.2.2.2.2.2 b2 1 (by rw [tb2]; decide)).trans s126
                  have s184 := (xq144.2.2.2.2.2 b2 2 (by rw [tb2]; decide)).trans s127
                  have s185 := (xq144.2.2.2.2.2 b2 3 (by rw [tb2]; decide)).trans s128
                  have s186 := (xq144.2.2.2.2.2 b2 4 (by rw [tb2]; decide)).trans s129
                  have s187 := (xq144.2.2.2.2.2 b2 5 (by rw [tb2]; decide)).trans s130
                  have s188 := (xq144.2.2.2.2.2 b2 6 (by rw [tb2]; decide)).trans s131
                  have s189 := (xq144.2.2.2.2.2 b2 7 (by rw [tb2]; decide)).trans s132
                  have s190 := (xq144.2.2.2.2.2 b2 8 (by rw [tb2]; decide)).trans s133
                  have pr191 := gPC.fr xq144.2 (by decide) pr134
                  have pr192 := gTc.fr xq144.2 (by decide) pr135
                  have pr193 := gRr.fr xq144.2 (by decide) pr136
                  have pr194 := gRw.fr xq144.2 (by decide) pr137
                  refine gy_s 2 (pc' := 155) (L' := [some (.ref x), some (.int (zi a)), some (.int (zi b)), some (.int (zi c)), some (.int (zi jn2v0)), some (.int (zi zq30)), some (.int (zi z138)), none]) (S' := [.int ((zi zq144) - (zi 128))]) (L2 := [some (.ref x), some (.int (zi a)), some (.int (zi b)), some (.int (zi c)), some (.int (zi jn2v0)), some (.int (zi zq30)), some (.int (zi z138)), none]) (S2 := [.int (zi (zq144 - 128))]) rfl (by simp only [zi_add, zi_sub, zi_mul, zi_neg, zi_and1, zi_and7, zi_and15, zi_and31, zi_and255]) (by simp only [zi_add, zi_sub, zi_mul, zi_neg, zi_and1, zi_and7, zi_and15, zi_and31, zi_and255]) ?_
                  refine gy_any (fun z195 ez195 az195 bz195 => ?_)
                  refine gz_s 5 (pc' := 164) (L' := [some (.ref x), some (.int (zi a)), some (.int (zi b)), some (.int (zi c)), some (.int (zi jn2v0)), some (.int (zi zq30)), some (.int (zi z138)), some (.int (zi z195))]) (S' := [.int (zi z195), .int (zi z138), .int (zi zq30), .int (zi c)]) rfl ?_
                  refine gz_call rfl (by decide) rfl (by decide) (by decide) (gcal_of rfl rfl rfl (Nat.le_of_ble_eq_true rfl) rfl) (cl_DctFilter_colourW _ sq144.1 c ⟨by omega, by omega⟩ zq30 ⟨by omega, by omega⟩ z138 ⟨by omega, by omega⟩ z195 ⟨by omega, by omega⟩ ) (fun q196 _ wq196 => ?_)
                  obtain ⟨pq196, oq196, hq196⟩ := q196
                  obtain ⟨xq196, zq196, gq196, aq196, bq196⟩ := wq196
                  refine ⟨_, gq196, ?_⟩
                  show gz gPP gGG gcn _ _ 167 [some (.ref x), some (.int (zi a)), some (.int (zi b)), some (.int (zi c)), some (.int (zi jn2v0)), some (.int (zi zq30)), some (.int (zi z138)), some (.int (zi z195))] [.int (zi zq196)] hq196 _
                  have sq196 : gSs rT 1027 ty [] h hq196 := gSs.tr sq144 xq196 (by decide)
                  have s197 := (xq196.2.2.2.2.2 x 2 (by rw [tx]; decide)).trans s145
                  have s198 := (xq196.2.2.2.2.2 x 3 (by rw [tx]; decide)).trans s146
                  have s199 := (xq196.2.2.2.2.2 x 4 (by rw [tx]; decide)).trans s147
                  have s200 := (xq196.2.2.2.2.2 sk 0 (by rw [tsk]; decide)).trans s148
                  have s201 := (xq196.2.2.2.2.2 dr 8 (by rw [tdr]; decide)).trans s149
                  have s202 := (xq196.2.2.2.2.2 dr 3 (by rw [tdr]; decide)).trans s150
                  have s203 := (xq196.2.2.2.2.2 dr 1 (by rw [tdr]; decide)).trans s151
                  have s204 := (xq196.2.2.2.2.2 sk 1 (by rw [tsk]; decide)).trans s152
                  have s205 := (xq196.2.2.2.2.2 pic 0 (by rw [tpic]; decide)).trans s153
                  have s206 := (xq196.2.2.2.2.2 bno 0 (by rw [tbno]; decide)).trans s154
                  have s207 := (xq196.2.2.2.2.2 bno 1 (by rw [tbno]; decide)).trans s155
                  have s208 := (xq196.2.2.2.2.2 bno 2 (by rw [tbno]; decide)).trans s156
                  have s209 := (xq196.2.2.2.2.2 pic 2 (by rw [tpic]; decide)).trans s157
                  have s210 := (xq196.2.2.2.2.2 pic 3 (by rw [tpic]; decide)).trans s158
                  have s211 := (xq196.2.2.2.2.2 pic 7 (by rw [tpic]; decide)).trans s159
                  have s212 := (xq196.2.2.2.2.2 pic 12 (by rw [tpic]; decide)).trans s160
                  have s213 := (xq196.2.2.2.2.2 pic 13 (by rw [tpic]; decide)).trans s161
                  have s214 := (xq196.2.2.2.2.2 pic 8 (by rw [tpic]; decide)).trans s162
                  have s215 := (xq196.2.2.2.2.2 pic 5 (by rw [tpic]; decide)).trans s163
                  have s216 := (xq196.2.2.2.2.2 pic 6 (by rw [tpic]; decide)).trans s164
                  have s217 := (xq196.2.2.2.2.2 pic 10 (by rw [tpic]; decide)).trans s165
                  have s218 := (xq196.2.2.2.2.2 pic 11 (by rw [tpic]; decide)).trans s166
                  have s219 := (xq196.2.2.2.2.2 b0 1 (by rw [tb0]; decide)).trans s167
                  have s220 := (xq196.2.2.2.2.2 b0 2 (by rw [tb0]; decide)).trans s168
                  have s221 := (xq196.2.2.2.2.2 b0 3 (by rw [tb0]; decide)).trans s169
                  have s222 := (xq196.2.2.2.2.2 b0 4 (by rw [tb0]; decide)).trans s170
                  have s223 := (xq196.2.2.2.2.2 b0 5 (by rw [tb0]; decide)).trans s171
                  have s224 := (xq196.2.2.2.2.2 b0 6 (by rw [tb0]; decide)).trans s172
                  have s225 := (xq196.2.2.2.2.2 b0 7 (by rw [tb0]; decide)).trans s173
                  have s226 := (xq196.2.2.2.2.2 b0 8 (by rw [tb0]; decide)).trans s174
                  have s227 := (xq196.2.2.2.2.2 b1 1 (by rw [tb1]; decide)).trans s175
                  have s228 := (xq196.2.2.2.2.2 b1 2 (by rw [tb1]; decide)).trans s176
                  have s229 := (xq196.2.2.2.2.2 b1 3 (by rw [tb1]; decide)).trans s177
                  have s230 := (xq196.2.2.2.2.2 b1 4 (by rw [tb1]; decide)).trans s178
                  have s231 := (xq196.2.2.2.2.2 b1 5 (by rw [tb1]; decide)).trans s179
                  have s232 := (xq196.2.2.2.2.2 b1 6 (by rw [tb1]; decide)).trans s180
                  have s233 := (xq196.2.2.2.2.2 b1 7 (by rw [tb1]; decide)).trans s181
                  have s234 := (xq196.2.2.2.2.2 b1 8 (by rw [tb1]; decide)).trans s182
                  have s235 := (xq196.2.2.2.2.2 b2 1 (by rw [tb2]; decide)).trans s183
                  have s236 := (xq196.2.2.2.2.2 b2 2 (by rw [tb2]; decide)).trans s184
                  have s237 := (xq196.2.2.2.2.2 b2 3 (by rw [tb2]; decide)).trans s185
                  have s238 := (xq196.2.2.2.2.2 b2 4 (by rw [tb2]; decide)).trans s186
                  have s239 := (xq196.2.2.2.2.2 b2 5 (by rw [tb2]; decide)).trans s187
                  have s240 := (xq196.2.2.2.2.2 b2 6 (by rw [tb2]; decide)).trans s188
                  have s241 := (xq196.2.2.2.2.2 b2 7 (by rw [tb2]; decide)).trans s189
                  have s242 := (xq196.2.2.2.2.2 b2 8 (by rw [tb2]; decide)).trans s190
                  have pr243 := gPC.fr xq196.2 (by decide) pr191
                  have pr244 := gTc.fr xq196.2 (by decide) pr192
                  have pr245 := gRr.fr xq196.2 (by decide) pr193
                  have pr246 := gRw.fr xq196.2 (by decide) pr194
                  have k247 := sq196.2.1
                  have k247b := sq196.2.2.1
                  have hl248 : hq196.2.2.2.1 bt = h.2.2.2.1 bt := congrFun sq196.2.2.2.2.1 bt
                  have hl249 : hq196.2.2.2.1 coo = h.2.2.2.1 coo := congrFun sq196.2.2.2.2.1 coo
                  have hl250 : hq196.2.2.2.1 dmo = h.2.2.2.1 dmo := congrFun sq196.2.2.2.2.1 dmo
                  have hl251 : 1024 ≤ hq196.2.2.2.1 bt ∧ hq196.2.2.2.1 bt ≤ 1000000 := gJ.rowl (G := gGG) sq196.1 tbt rfl
                  have hl252 : 0 ≤ hq196.2.2.2.1 coo ∧ hq196.2.2.2.1 coo ≤ 12288 := gJ.rowl (G := gGG) sq196.1 tcoo rfl
                  have hl253 : 0 ≤ hq196.2.2.2.1 dmo ∧ hq196.2.2.2.1 dmo ≤ 192 := gJ.rowl (G := gGG) sq196.1 tdmo rfl
                  have k254 := sq196.2.1
                  have k254b := sq196.2.2.1
                  have hl255 : hq196.2.2.2.1 bt = h.2.2.2.1 bt := congrFun sq196.2.2.2.2.1 bt
                  have hl256 : hq196.2.2.2.1 coo = h.2.2.2.1 coo := congrFun sq196.2.2.2.2.1 coo
                  have hl257 : hq196.2.2.2.1 dmo = h.2.2.2.1 dmo := congrFun sq196.2.2.2.2.1 dmo
                  have hix258 : gIx ty x ld (hq196.2.2.2.1 bt : Int) (64 * dw + n0) hq196 := ⟨pic, b0, b1, b2, dr, sk, bt, n0, c0, i0, dw, ⟨tx, tdr, tsk, tbt⟩, ⟨s197, s198, s199, s200⟩, pr243, pr244, ⟨s201, by omega, by omega⟩, ⟨s202, by omega, by omega⟩, ⟨s204, by omega, by omega⟩, ⟨by omega, by omega⟩, pr245, pr246, ⟨s203, by omega, by omega⟩, rfl⟩
                  have G259 : gSg [] [] [] ty h ty hq196 := gSg.ss G0 sq196 (by decide)
                  exact gz_end (I := .ireturn) (len := 1) rfl (Or.inl rfl) ⟨ty, G259, ld, (hq196.2.2.2.1 bt : Int), (64 * dw + n0), (by omega), (by omega), (by omega), (by omega), (by omega), (by omega), hix258, Or.inl ⟨zq196, rfl, (by omega), (by omega), (by omega), (by dsimp only; omega), (by dsimp only; omega), (by omega), (by omega)⟩⟩
                · refine gy_icF rfl (by decide) (by decide) (by omega) (by omega) hc81 ?_
                  refine gz_s 1 (pc' := 124) (L' := [some (.ref x), some (.int (zi a)), some (.int (zi b)), some (.int (zi c)), some (.int (zi jn2v0)), some (.int (zi zq30)), none, none]) (S' := [.int (zi zq30)]) rfl ?_
                  have k260 := sq30.2.1
                  have k260b := sq30.2.2.1
                  have hl261 : hq30.2.2.2.1 bt = h.2.2.2.1 bt := congrFun sq30.2.2.2.2.1 bt
                  have hl262 : hq30.2.2.2.1 coo = h.2.2.2.1 coo := congrFun sq30.2.2.2.2.1 coo
                  have hl263 : hq30.2.2.2.1 dmo = h.2.2.2.1 dmo := congrFun sq30.2.2.2.2.1 dmo
                  have hl264 : 1024 ≤ hq30.2.2.2.1 bt ∧ hq30.2.2.2.1 bt ≤ 1000000 := gJ.rowl (G := gGG) sq30.1 tbt rfl
                  have hl265 : 0 ≤ hq30.2.2.2.1 coo ∧ hq30.2.2.2.1 coo ≤ 12288 := gJ.rowl (G := gGG) sq30.1 tcoo rfl
                  have hl266 : 0 ≤ hq30.2.2.2.1 dmo ∧ hq30.2.2.2.1 dmo ≤ 192 := gJ.rowl (G := gGG) sq30.1 tdmo rfl
                  have k267 := sq30.2.1
                  have k267b := sq30.2.2.1
                  have hl268 : hq30.2.2.2.1 bt = h.2.2.2.1 bt := congrFun sq30.2.2.2.2.1 bt
                  have hl269 : hq30.2.2.2.1 coo = h.2.2.2.1 coo := congrFun sq30.2.2.2.2.1 coo
                  have hl270 : hq30.2.2.2.1 dmo = h.2.2.2.1 dmo := congrFun sq30.2.2.2.2.1 dmo
                  have hix271 : gIx ty x ld (hq30.2.2.2.1 bt : Int) (64 * dw + n0) hq30 := ⟨pic, b0, b1, b2, dr, sk, bt, n0, c0, i0, dw, ⟨tx, tdr, tsk, tbt⟩, ⟨s31, s32, s33, s34⟩, pr77, pr78, ⟨s35, by omega, by omega⟩, ⟨s36, by omega, by omega⟩, ⟨s38, by omega, by omega⟩, ⟨by omega, by omega⟩, pr79, pr80, ⟨s37, by omega, by omega⟩, rfl⟩
                  have G272 : gSg [] [] [] ty h ty hq30 := gSg.ss G0 sq30 (by decide)
                  exact gz_end (I := .ireturn) (len := 1) rfl (Or.inl rfl) ⟨ty, G272, ld, (hq30.2.2.2.1 bt : Int), (64 * dw + n0), (by omega), (by omega), (by omega), (by omega), (by omega), (by omega), hix271, Or.inl ⟨zq30, rfl, (by omega), (by omega), (by omega), (by dsimp only; omega), (by dsimp only; omega), (by omega), (by omega)⟩⟩
              · refine gy_icF rfl (by decide) (by decide) (by omega) (by omega) hc28 ?_
                refine gz_s 1 (pc' := 89) (L' := [some (.ref x), some (.int (zi a)), some (.int (zi b)), some (.int (zi c)), some (.int (zi jn2v0)), none, none, none]) (S' := [.ref x]) rfl ?_
                refine gs_gtk rfl (by decide) rfl hS.1 tx rfl rfl ex2 ?_
                refine gz_s 3 (pc' := 95) (L' := [some (.ref x), some (.int (zi a)), some (.int (zi b)), some (.int (zi c)), some (.int (zi jn2v0)), none, none, none]) (S' := [.int (zi b), .int (zi a), .int (zi c), .ref pic]) rfl ?_
                have hl273 : h.2.2.2.1 coo = h.2.2.2.1 coo := congrFun hS.2.2.2.2.1 coo
                refine gz_call rfl (by decide) rfl (by decide) (by decide) (gcal_of rfl rfl rfl (Nat.le_of_ble_eq_true rfl) (gJ.recv (G := gGG) hS.1 tpic rfl rfl)) (cl_Picture_sampleAt _ hS.1 pic tpic c ⟨by omega, by omega⟩ a ⟨by omega, by omega⟩ b ⟨by omega, by omega⟩ bno er0o tbno b0 er1o tb0 b1 er2o tb1 b2 er3o tb2 coo er4o tcoo (gSta.fr hS.2 (by decide) hyst) (vvo 0) excno ⟨by omega, by omega⟩ (vvo 1) exuco ⟨by omega, by omega⟩ (vvo 2) exuro ⟨by omega, by omega⟩ (vvo 3) exblo ⟨by omega, by omega⟩ (vvo 4) exwo ⟨by omega, by omega⟩ (vvo 5) exhho ⟨by omega, by omega⟩ (vvo 6) exgho ⟨by omega, by omega⟩ (vvo 7) exgvo ⟨by omega, by omega⟩ (vvo 8) exhb0o ⟨by omega, by omega⟩ (vvo 9) exvb0o ⟨by omega, by omega⟩ (vvo 11) exC0o ⟨by omega, by omega⟩ (vvo 12) exR0o ⟨by omega, by omega⟩ (vvo 13) exoc0o ⟨by omega, by omega⟩ (vvo 14) exor0o ⟨by omega, by omega⟩ (vvo 15) exf0o ⟨by omega, by omega⟩ (vvo 16) exhb1o ⟨by omega, by omega⟩ (vvo 17) exvb1o ⟨by omega, by omega⟩ (vvo 19) exC1o ⟨by omega, by omega⟩ (vvo 20) exR1o ⟨by omega, by omega⟩ (vvo 21) exoc1o ⟨by omega, by omega⟩ (vvo 22) exor1o ⟨by omega, by omega⟩ (vvo 23) exf1o ⟨by omega, by omega⟩ (vvo 24) exhb2o ⟨by omega, by omega⟩ (vvo 25) exvb2o ⟨by omega, by omega⟩ (vvo 27) exC2o ⟨by omega, by omega⟩ (vvo 28) exR2o ⟨by omega, by omega⟩ (vvo 29) exoc2o ⟨by omega, by omega⟩ (vvo 30) exor2o ⟨by omega, by omega⟩ (vvo 31) exf2o ⟨by omega, by omega⟩ (vvo 10) extq0o ⟨by omega, by omega⟩ (vvo 18) extq1o ⟨by omega, by omega⟩ (vvo 26) extq2o ⟨by omega, by omega⟩ (by omega) (by omega) (by omega) (by omega) uq yy0o yy1o yy2o yy3o yy4o yy5o yy7o) (fun q274 _ wq274 => ?_)
                obtain ⟨pq274, oq274, hq274⟩ := q274
                obtain ⟨xq274, zq274, gq274, aq274, bq274⟩ := wq274
                refine ⟨_, gq274, ?_⟩
                show gz gPP gGG gcn _ _ 98 [some (.ref x), some (.int (zi a)), some (.int (zi b)), some (.int (zi c)), some (.int (zi jn2v0)), none, none, none] [.int (zi zq274)] hq274 _
                have sq274 : gSs rT 1027 ty [] h hq274 := gSs.tr hS xq274 (by decide)
                have s275 := (xq274.2.2.2.2.2 x 2 (by rw [tx]; decide)).trans ex2
                have s276 := (xq274.2.2.2.2.2 x 3 (by rw [tx]; decide)).trans ex3
                have s277 := (xq274.2.2.2.2.2 x 4 (by rw [tx]; decide)).trans ex4
                have s278 := (xq274.2.2.2.2.2 sk 0 (by rw [tsk]; decide)).trans ex0
                have s279 := (xq274.2.2.2.2.2 dr 8 (by rw [tdr]; decide)).trans en0
                have s280 := (xq274.2.2.2.2.2 dr 3 (by rw [tdr]; decide)).trans eiv
                have s281 := (xq274.2.2.2.2.2 dr 1 (by rw [tdr]; decide)).trans edw
                have s282 := (xq274.2.2.2.2.2 sk 1 (by rw [tsk]; decide)).trans ec0
                have s283 := (xq274.2.2.2.2.2 pic 0 (by rw [tpic]; decide)).trans er0o
                have s284 := (xq274.2.2.2.2.2 bno 0 (by rw [tbno]; decide)).trans er1o
                have s285 := (xq274.2.2.2.2.2 bno 1 (by rw [tbno]; decide)).trans er2o
                have s286 := (xq274.2.2.2.2.2 bno 2 (by rw [tbno]; decide)).trans er3o
                have s287 := (xq274.2.2.2.2.2 pic 2 (by rw [tpic]; decide)).trans er4o
                have s288 := (xq274.2.2.2.2.2 pic 3 (by rw [tpic]; decide)).trans er5o
                have s289 := (xq274.2.2.2.2.2 pic 7 (by rw [tpic]; decide)).trans excno
                have s290 := (xq274.2.2.2.2.2 pic 12 (by rw [tpic]; decide)).trans exuco
                have s291 := (xq274.2.2.2.2.2 pic 13 (by rw [tpic]; decide)).trans exuro
                have s292 := (xq274.2.2.2.2.2 pic 8 (by rw [tpic]; decide)).trans exblo
                have s293 := (xq274.2.2.2.2.2 pic 5 (by rw [tpic]; decide)).trans exwo
                have s294 := (xq274.2.2.2.2.2 pic 6 (by rw [tpic]; decide)).trans exhho
                have s295 := (xq274.2.2.2.2.2 pic 10 (by rw [tpic]; decide)).trans exgho
                have s296 := (xq274.2.2.2.2.2 pic 11 (by rw [tpic]; decide)).trans exgvo
                have s297 := (xq274.2.2.2.2.2 b0 1 (by rw [tb0]; decide)).trans exhb0o
                have s298 := (xq274.2.2.2.2.2 b0 2 (by rw [tb0]; decide)).trans exvb0o
                have s299 := (xq274.2.2.2.2.2 b0 3 (by rw [tb0]; decide)).trans extq0o
                have s300 := (xq274.2.2.2.2.2 b0 4 (by rw [tb0]; decide)).trans exC0o
                have s301 := (xq274.2.2.2.2.2 b0 5 (by rw [tb0]; decide)).trans exR0o
                have s302 := (xq274.2.2.2.2.2 b0 6 (by rw [tb0]; decide)).trans exoc0o
                have s303 := (xq274.2.2.2.2.2 b0 7 (by rw [tb0]; decide)).trans exor0o
                have s304 := (xq274.2.2.2.2.2 b0 8 (by rw [tb0]; decide)).trans exf0o
                have s305 := (xq274.2.2.2.2.2 b1 1 (by rw [tb1]; decide)).trans exhb1o
                have s306 := (xq274.2.2.2.2.2 b1 2 (by rw [tb1]; decide)).trans exvb1o
                have s307 := (xq274.2.2.2.2.2 b1 3 (by rw [tb1]; decide)).trans extq1o
                have s308 := (xq274.2.2.2.2.2 b1 4 (by rw [tb1]; decide)).trans exC1o
                have s309 := (xq274.2.2.2.2.2 b1 5 (by rw [tb1]; decide)).trans exR1o
                have s310 := (xq274.2.2.2.2.2 b1 6 (by rw [tb1]; decide)).trans exoc1o
                have s311 := (xq274.2.2.2.2.2 b1 7 (by rw [tb1]; decide)).trans exor1o
                have s312 := (xq274.2.2.2.2.2 b1 8 (by rw [tb1]; decide)).trans exf1o
                have s313 := (xq274.2.2.2.2.2 b2 1 (by rw [tb2]; decide)).trans exhb2o
                have s314 := (xq274.2.2.2.2.2 b2 2 (by rw [tb2]; decide)).trans exvb2o
                have s315 := (xq274.2.2.2.2.2 b2 3 (by rw [tb2]; decide)).trans extq2o
                have s316 := (xq274.2.2.2.2.2 b2 4 (by rw [tb2]; decide)).trans exC2o
                have s317 := (xq274.2.2.2.2.2 b2 5 (by rw [tb2]; decide)).trans exR2o
                have s318 := (xq274.2.2.2.2.2 b2 6 (by rw [tb2]; decide)).trans exoc2o
                have s319 := (xq274.2.2.2.2.2 b2 7 (by rw [tb2]; decide)).trans exor2o
                have s320 := (xq274.2.2.2.2.2 b2 8 (by rw [tb2]; decide)).trans exf2o
                have pr321 := gPC.fr xq274.2 (by decide) hpc
                have pr322 := gTc.fr xq274.2 (by decide) htc
                have pr323 := gRr.fr xq274.2 (by decide) hrr
                have pr324 := gRw.fr xq274.2 (by decide) hrw
                have k325 := sq274.2.1
                have k325b := sq274.2.2.1
                have hl326 : hq274.2.2.2.1 bt = h.2.2.2.1 bt := congrFun sq274.2.2.2.2.1 bt
                have hl327 : hq274.2.2.2.1 coo = h.2.2.2.1 coo := congrFun sq274.2.2.2.2.1 coo
                have hl328 : hq274.2.2.2.1 dmo = h.2.2.2.1 dmo := congrFun sq274.2.2.2.2.1 dmo
                have hl329 : 1024 ≤ hq274.2.2.2.1 bt ∧ hq274.2.2.2.1 bt ≤ 1000000 := gJ.rowl (G := gGG) sq274.1 tbt rfl
                have hl330 : 0 ≤ hq274.2.2.2.1 coo ∧ hq274.2.2.2.1 coo ≤ 12288 := gJ.rowl (G := gGG) sq274.1 tcoo rfl
                have hl331 : 0 ≤ hq274.2.2.2.1 dmo ∧ hq274.2.2.2.1 dmo ≤ 192 := gJ.rowl (G := gGG) sq274.1 tdmo rfl
                have k332 := sq274.2.1
                have k332b := sq274.2.2.1
                have hl333 : hq274.2.2.2.1 bt = h.2.2.2.1 bt := congrFun sq274.2.2.2.2.1 bt
                have hl334 : hq274.2.2.2.1 coo = h.2.2.2.1 coo := congrFun sq274.2.2.2.2.1 coo
                have hl335 : hq274.2.2.2.1 dmo = h.2.2.2.1 dmo := congrFun sq274.2.2.2.2.1 dmo
                have hix336 : gIx ty x ld (hq274.2.2.2.1 bt : Int) (64 * dw + n0) hq274 := ⟨pic, b0, b1, b2, dr, sk, bt, n0, c0, i0, dw, ⟨tx, tdr, tsk, tbt⟩, ⟨s275, s276, s277, s278⟩, pr321, pr322, ⟨s279, by omega, by omega⟩, ⟨s280, by omega, by omega⟩, ⟨s282, by omega, by omega⟩, ⟨by omega, by omega⟩, pr323, pr324, ⟨s281, by omega, by omega⟩, rfl⟩
                have G337 : gSg [] [] [] ty h ty hq274 := gSg.ss G0 sq274 (by decide)
                exact gz_end (I := .ireturn) (len := 1) rfl (Or.inl rfl) ⟨ty, G337, ld, (hq274.2.2.2.1 bt : Int), (64 * dw + n0), (by omega), (by omega), (by omega), (by omega), (by omega), (by omega), hix336, Or.inl ⟨zq274, rfl, (by omega), (by omega), (by omega), (by dsimp only; omega), (by dsimp only; omega), (by omega), (by omega)⟩⟩
            · refine gy_icF rfl (by decide) (by decide) (by omega) (by omega) hc27 ?_
              have hl338 : 1024 ≤ h.2.2.2.1 bt ∧ h.2.2.2.1 bt ≤ 1000000 := gJ.rowl (G := gGG) hS.1 tbt rfl
              have hl339 : 0 ≤ h.2.2.2.1 coo ∧ h.2.2.2.1 coo ≤ 12288 := gJ.rowl (G := gGG) hS.1 tcoo rfl
              have hl340 : 0 ≤ h.2.2.2.1 dmo ∧ h.2.2.2.1 dmo ≤ 192 := gJ.rowl (G := gGG) hS.1 tdmo rfl
              have hix341 : gIx ty x ld (h.2.2.2.1 bt : Int) (64 * dw + n0) h := ⟨pic, b0, b1, b2, dr, sk, bt, n0, c0, i0, dw, ⟨tx, tdr, tsk, tbt⟩, ⟨ex2, ex3, ex4, ex0⟩, hpc, htc, ⟨en0, by omega, by omega⟩, ⟨eiv, by omega, by omega⟩, ⟨ec0, by omega, by omega⟩, ⟨by omega, by omega⟩, hrr, hrw, ⟨edw, by omega, by omega⟩, rfl⟩
              have G342 : gSg [] [] [] ty h ty h := gSg.ss G0 hS (by decide)
              exact gz_end (I := .new 84) (len := 3) rfl (Or.inr (by decide)) ⟨ty, G342, ld, (h.2.2.2.1 bt : Int), (64 * dw + n0), (by omega), (by omega), (by omega), (by omega), (by omega), (by omega), hix341, Or.inr ⟨rfl, rfl, (by omega), (by dsimp only; omega), (by dsimp only; omega), (by omega), (by omega)⟩⟩
  by_cases hc343 : (c : Int) < 0
  · refine gy_ifT (pc' := 29) rfl (by decide) (by decide) (by omega) hc343 ?_
    refine gz_s 1 (pc' := 30) (L' := [some (.ref x), some (.int (zi a)), some (.int (zi b)), some (.int (zi c)), none, none, none, none]) (S' := [.int (zi 0)]) rfl ?_
    exact jn2 0 (by omega)
  · refine gy_ifF rfl (by decide) (by decide) (by omega) hc343 ?_
    refine gz_s 2 (pc' := 6) (L' := [some (.ref x), some (.int (zi a)), some (.int (zi b)), some (.int (zi c)), none, none, none, none]) (S' := [.ref x, .int (zi c)]) rfl ?_
    refine gs_gtk rfl (by decide) rfl hS.1 tx rfl rfl ex2 ?_
    refine gs_gtk rfl (by decide) rfl hS.1 tpic rfl rfl excno ?_
    by_cases hc344 : (c : Int) < vvo 0
    · refine gy_icT (pc' := 25) rfl (by decide) (by decide) (by omega) (by omega) hc344 ?_
      refine gz_s 2 (pc' := 30) (L' := [some (.ref x), some (.int (zi a)), some (.int (zi b)), some (.int (zi c)), none, none, none, none]) (S' := [.int (zi 1)]) rfl ?_
      exact jn2 1 (by omega)
    · refine gy_icF rfl (by decide) (by decide) (by omega) (by omega) hc344 ?_
      refine gz_s 2 (pc' := 17) (L' := [some (.ref x), some (.int (zi a)), some (.int (zi b)), some (.int (zi c)), none, none, none, none]) (S' := [.int (zi 3), .int (zi c)]) rfl ?_
      by_cases hc345 : (c : Int) < 3
      · refine gy_icT (pc' := 29) rfl (by decide) (by decide) (by omega) (by omega) hc345 ?_
        refine gz_s 1 (pc' := 30) (L' := [some (.ref x), some (.int (zi a)), some (.int (zi b)), some (.int (zi c)), none, none, none, none]) (S' := [.int (zi 0)]) rfl ?_
        exact jn2 0 (by omega)
      · refine gy_icF rfl (by decide) (by decide) (by omega) (by omega) hc345 ?_
        refine gz_s 2 (pc' := 22) (L' := [some (.ref x), some (.int (zi a)), some (.int (zi b)), some (.int (zi c)), none, none, none, none]) (S' := [.int (zi 5), .int (zi c)]) rfl ?_
        by_cases hc346 : (5 : Int) < c
        · refine gy_icT (pc' := 29) rfl (by decide) (by decide) (by omega) (by omega) hc346 ?_
          refine gz_s 1 (pc' := 30) (L' := [some (.ref x), some (.int (zi a)), some (.int (zi b)), some (.int (zi c)), none, none, none, none]) (S' := [.int (zi 0)]) rfl ?_
          exact jn2 0 (by omega)
        · refine gy_icF rfl (by decide) (by decide) (by omega) (by omega) hc346 ?_
          refine gz_s 2 (pc' := 30) (L' := [some (.ref x), some (.int (zi a)), some (.int (zi b)), some (.int (zi c)), none, none, none, none]) (S' := [.int (zi 1)]) rfl ?_
          exact jn2 1 (by omega)
set_option maxRecDepth 20000 in
set_option maxHeartbeats 4000000 in
theorem cl_DctFilter_coefficient (d : Nat) {ty : Nat → Nat} {h : gH} (hJ : gJ rT 1027 ty h) (x : Nat) (tx : ty x = 50) (a : Int) (ra : (-2147483648) ≤ a ∧ a ≤ 2147483647) (b : Int) (rb : (-2147483648) ≤ b ∧ b ≤ 2147483647) (ld : Int) (rld : 0 ≤ ld ∧ ld ≤ 192) (lb : Int) (rlb : 1024 ≤ lb ∧ lb ≤ 1000000) (iv : Int) (riv : 0 ≤ iv ∧ iv ≤ 2058) (uq : gUq ty) (hyix : gIx ty x ld lb iv h) : gz gPP gGG gcn (d + 0) gt79 0 (gent [.ref x, .int (zi a), .int (zi b)] 3) [] h (fun q _ => ∃ ty9 : Nat → Nat, gSg [] [] [] ty h ty9 q.2.2 ∧ ∃ ld1 lb1 iv1 : Int, 0 ≤ ld1 ∧ ld1 ≤ 192 ∧ 1024 ≤ lb1 ∧ lb1 ≤ 1000000 ∧ 0 ≤ iv1 ∧ iv1 ≤ 2058 ∧ (gIx ty9 x ld1 lb1 iv1 q.2.2) ∧ ((∃ z : Int, gfin gt79 q.1 q.2.1 = some (some (.int (zi z))) ∧ (-2147483648) ≤ z ∧ z ≤ 2147483647 ∧ (iv1 = iv) ∧ (1024 * (((q.2.2.1 : Int) - h.1) - 31 - 2 * (ld1 - ld)) ≤ lb1 - lb) ∧ (((q.2.2.2.1 : Int) - h.2.1) ≤ 4303 + 12480 * (ld1 - ld) + 2 * (lb1 - lb)) ∧ (ld ≤ ld1) ∧ (lb ≤ lb1)) ∨ (q.2.1 = [] ∧ ((q.1 = 25)) ∧ (iv1 = iv) ∧ (1024 * (((q.2.2.1 : Int) - h.1) - 31 - 2 * (ld1 - ld)) ≤ lb1 - lb) ∧ (((q.2.2.2.1 : Int) - h.2.1) ≤ 4303 + 12480 * (ld1 - ld) + 2 * (lb1 - lb)) ∧ (ld ≤ ld1) ∧ (lb ≤ lb1)))) := by
  have hS : gSs rT 1027 ty [] h h := gSs.rf hJ
  have G0 : gSg [] [] [] ty h ty h := gSg.rf hJ (fun x hx => by cases hx)
  obtain ⟨pic, b0, b1, b2, dr, sk, bt, n0, c0, i0, dw, ⟨_, tdr, tsk, tbt⟩, ⟨ex2, ex3, ex4, ex0⟩, hpc, htc, ⟨en0, rn0⟩, ⟨eiv, ri0⟩, ⟨ec0, rc0⟩, ⟨lc0, llb⟩, hrr, hrw, ⟨edw, rdw⟩, hcd⟩ := hyix
  have tpic := hpc.1.1
  have tb0 := hpc.1.2.1
  have tb1 := hpc.1.2.2.1
  have tb2 := hpc.1.2.2.2
  have hpq1 := hpc
  obtain ⟨_, bno, coo, dmo, vvo, ⟨tbno, tcoo, tdmo⟩, ⟨er0o, er1o, er2o, er3o, er4o, er5o⟩, hvvo, hrro, ⟨yy0o, yy1o, yy2o, yy3o, yy4o, yy5o, yy6o, yy7o⟩, ll0o, ll1o, ll2o, ll3o⟩ := hpq1
  have excno : h.2.2.2.2 pic 7 = .int (zi (vvo 0)) := hvvo (0, 7, 0) (by decide)
  have rrcno : 0 ≤ vvo 0 ∧ vvo 0 ≤ 3 := hrro (0, 0, 3) (by decide)
  have exuco : h.2.2.2.2 pic 12 = .int (zi (vvo 1)) := hvvo (0, 12, 1) (by decide)
  have rruco : 0 ≤ vvo 1 ∧ vvo 1 ≤ 8 := hrro (1, 0, 8) (by decide)
  have exuro : h.2.2.2.2 pic 13 = .int (zi (vvo 2)) := hvvo (0, 13, 2) (by decide)
  have rruro : 0 ≤ vvo 2 ∧ vvo 2 ≤ 8 := hrro (2, 0, 8) (by decide)
  have exblo : h.2.2.2.2 pic 8 = .int (zi (vvo 3)) := hvvo (0, 8, 3) (by decide)
  have rrblo : 0 ≤ vvo 3 ∧ vvo 3 ≤ 192 := hrro (3, 0, 192) (by decide)
  have exwo : h.2.2.2.2 pic 5 = .int (zi (vvo 4)) := hvvo (0, 5, 4) (by decide)
  have rrwo : 0 ≤ vvo 4 ∧ vvo 4 ≤ 64 := hrro (4, 0, 64) (by decide)
  have exhho : h.2.2.2.2 pic 6 = .int (zi (vvo 5)) := hvvo (0, 6, 5) (by decide)
  have rrhho : 0 ≤ vvo 5 ∧ vvo 5 ≤ 64 := hrro (5, 0, 64) (by decide)
  have exgho : h.2.2.2.2 pic 10 = .int (zi (vvo 6)) := hvvo (0, 10, 6) (by decide)
  have rrgho : 1 ≤ vvo 6 ∧ vvo 6 ≤ 2 := hrro (6, 1, 2) (by decide)
  have exgvo : h.2.2.2.2 pic 11 = .int (zi (vvo 7)) := hvvo (0, 11, 7) (by decide)
  have rrgvo : 1 ≤ vvo 7 ∧ vvo 7 ≤ 2 := hrro (7, 1, 2) (by decide)
  have exhb0o : h.2.2.2.2 b0 1 = .int (zi (vvo 8)) := hvvo (1, 1, 8) (by decide)
  have rrhb0o : (-1) ≤ vvo 8 ∧ vvo 8 ≤ 15 := hrro (8, (-1), 15) (by decide)
  have exvb0o : h.2.2.2.2 b0 2 = .int (zi (vvo 9)) := hvvo (1, 2, 9) (by decide)
  have rrvb0o : 0 ≤ vvo 9 ∧ vvo 9 ≤ 15 := hrro (9, 0, 15) (by decide)
  have extq0o : h.2.2.2.2 b0 3 = .int (zi (vvo 10)) := hvvo (1, 3, 10) (by decide)
  have rrtq0o : (-1) ≤ vvo 10 ∧ vvo 10 ≤ 255 := hrro (10, (-1), 255) (by decide)
  have exC0o : h.2.2.2.2 b0 4 = .int (zi (vvo 11)) := hvvo (1, 4, 11) (by decide)
  have rrC0o : 0 ≤ vvo 11 ∧ vvo 11 ≤ 16 := hrro (11, 0, 16) (by decide)
  have exR0o : h.2.2.2.2 b0 5 = .int (zi (vvo 12)) := hvvo (1, 5, 12) (by decide)
  have rrR0o : 0 ≤ vvo 12 ∧ vvo 12 ≤ 16 := hrro (12, 0, 16) (by decide)
  have exoc0o : h.2.2.2.2 b0 6 = .int (zi (vvo 13)) := hvvo (1, 6, 13) (by decide)
  have rroc0o : 0 ≤ vvo 13 ∧ vvo 13 ≤ 16 := hrro (13, 0, 16) (by decide)
  have exor0o : h.2.2.2.2 b0 7 = .int (zi (vvo 14)) := hvvo (1, 7, 14) (by decide)
  have rror0o : 0 ≤ vvo 14 ∧ vvo 14 ≤ 16 := hrro (14, 0, 16) (by decide)
  have exf0o : h.2.2.2.2 b0 8 = .int (zi (vvo 15)) := hvvo (1, 8, 15) (by decide)
  have rrf0o : 0 ≤ vvo 15 ∧ vvo 15 ≤ 192 := hrro (15, 0, 192) (by decide)
  have exhb1o : h.2.2.2.2 b1 1 = .int (zi (vvo 16)) := hvvo (2, 1, 16) (by decide)
  have rrhb1o : (-1) ≤ vvo 16 ∧ vvo 16 ≤ 15 := hrro (16, (-1), 15) (by decide)
  have exvb1o : h.2.2.2.2 b1 2 = .int (zi (vvo 17)) := hvvo (2, 2, 17) (by decide)
  have rrvb1o : 0 ≤ vvo 17 ∧ vvo 17 ≤ 15 := hrro (17, 0, 15) (by decide)
  have extq1o : h.2.2.2.2 b1 3 = .int (zi (vvo 18)) := hvvo (2, 3, 18) (by decide)
  have rrtq1o : (-1) ≤ vvo 18 ∧ vvo 18 ≤ 255 := hrro (18, (-1), 255) (by decide)
  have exC1o : h.2.2.2.2 b1 4 = .int (zi (vvo 19)) := hvvo (2, 4, 19) (by decide)
  have rrC1o : 0 ≤ vvo 19 ∧ vvo 19 ≤ 16 := hrro (19, 0, 16) (by decide)
  have exR1o : h.2.2.2.2 b1 5 = .int (zi (vvo 20)) := hvvo (2, 5, 20) (by decide)
  have rrR1o : 0 ≤ vvo 20 ∧ vvo 20 ≤ 16 := hrro (20, 0, 16) (by decide)
  have exoc1o : h.2.2.2.2 b1 6 = .int (zi (vvo 21)) := hvvo (2, 6, 21) (by decide)
  have rroc1o : 0 ≤ vvo 21 ∧ vvo 21 ≤ 16 := hrro (21, 0, 16) (by decide)
  have exor1o : h.2.2.2.2 b1 7 = .int (zi (vvo 22)) := hvvo (2, 7, 22) (by decide)
  have rror1o : 0 ≤ vvo 22 ∧ vvo 22 ≤ 16 := hrro (22, 0, 16) (by decide)
  have exf1o : h.2.2.2.2 b1 8 = .int (zi (vvo 23)) := hvvo (2, 8, 23) (by decide)
  have rrf1o : 0 ≤ vvo 23 ∧ vvo 23 ≤ 192 := hrro (23, 0, 192) (by decide)
  have exhb2o : h.2.2.2.2 b2 1 = .int (zi (vvo 24)) := hvvo (3, 1, 24) (by decide)
  have rrhb2o : (-1) ≤ vvo 24 ∧ vvo 24 ≤ 15 := hrro (24, (-1), 15) (by decide)
  have exvb2o : h.2.2.2.2 b2 2 = .int (zi (vvo 25)) := hvvo (3, 2, 25) (by decide)
  have rrvb2o : 0 ≤ vvo 25 ∧ vvo 25 ≤ 15 := hrro (25, 0, 15) (by decide)
  have extq2o : h.2.2.2.2 b2 3 = .int (zi (vvo 26)) := hvvo (3, 3, 26) (by decide)
  have rrtq2o : (-1) ≤ vvo 26 ∧ vvo 26 ≤ 255 := hrro (26, (-1), 255) (by decide)
  have exC2o : h.2.2.2.2 b2 4 = .int (zi (vvo 27)) := hvvo (3, 4, 27) (by decide)
  have rrC2o : 0 ≤ vvo 27 ∧ vvo 27 ≤ 16 := hrro (27, 0, 16) (by decide)
  have exR2o : h.2.2.2.2 b2 5 = .int (zi (vvo 28)) := hvvo (3, 5, 28) (by decide)
  have rrR2o : 0 ≤ vvo 28 ∧ vvo 28 ≤ 16 := hrro (28, 0, 16) (by decide)
  have exoc2o : h.2.2.2.2 b2 6 = .int (zi (vvo 29)) := hvvo (3, 6, 29) (by decide)
  have rroc2o : 0 ≤ vvo 29 ∧ vvo 29 ≤ 16 := hrro (29, 0, 16) (by decide)
  have exor2o : h.2.2.2.2 b2 7 = .int (zi (vvo 30)) := hvvo (3, 7, 30) (by decide)
  have rror2o : 0 ≤ vvo 30 ∧ vvo 30 ≤ 16 := hrro (30, 0, 16) (by decide)
  have exf2o : h.2.2.2.2 b2 8 = .int (zi (vvo 31)) := hvvo (3, 8, 31) (by decide)
  have rrf2o : 0 ≤ vvo 31 ∧ vvo 31 ≤ 192 := hrro (31, 0, 192) (by decide)
  refine gz_s 1 (pc' := 1) (L' := [some (.ref x), some (.int (zi a)), some (.int (zi b))]) (S' := [.int (zi a)]) rfl ?_
  by_cases hc2 : (a : Int) < 0
  · refine gy_ifT (pc' := 25) rfl (by decide) (by decide) (by omega) hc2 ?_
    have hl3 : 1024 ≤ h.2.2.2.1 bt ∧ h.2.2.2.1 bt ≤ 1000000 := gJ.rowl (G := gGG) hS.1 tbt rfl
    have hl4 : 0 ≤ h.2.2.2.1 coo ∧ h.2.2.2.1 coo ≤ 12288 := gJ.rowl (G := gGG) hS.1 tcoo rfl
    have hl5 : 0 ≤ h.2.2.2.1 dmo ∧ h.2.2.2.1 dmo ≤ 192 := gJ.rowl (G := gGG) hS.1 tdmo rfl
    have hix6 : gIx ty x ld (h.2.2.2.1 bt : Int) (64 * dw + n0) h := ⟨pic, b0, b1, b2, dr, sk, bt, n0, c0, i0, dw, ⟨tx, tdr, tsk, tbt⟩, ⟨ex2, ex3, ex4, ex0⟩, hpc, htc, ⟨en0, by omega, by omega⟩, ⟨eiv, by omega, by omega⟩, ⟨ec0, by omega, by omega⟩, ⟨by omega, by omega⟩, hrr, hrw, ⟨edw, by omega, by omega⟩, rfl⟩
    have G7 : gSg [] [] [] ty h ty h := gSg.ss G0 hS (by decide)
    exact gz_end (I := .new 108) (len := 3) rfl (Or.inr (by decide)) ⟨ty, G7, ld, (h.2.2.2.1 bt : Int), (64 * dw + n0), (by omega), (by omega), (by omega), (by omega), (by omega), (by omega), hix6, Or.inr ⟨rfl, rfl, (by omega), (by dsimp only; omega), (by dsimp only; omega), (by omega), (by omega)⟩⟩
  · refine gy_ifF rfl (by decide) (by decide) (by omega) hc2 ?_
    refine gz_s 2 (pc' := 6) (L' := [some (.ref x), some (.int (zi a)), some (.int (zi b))]) (S' := [.ref x, .int (zi a)]) rfl ?_
    refine gs_gtk rfl (by decide) rfl hS.1 tx rfl rfl ex2 ?_
    refine gs_gtk rfl (by decide) rfl hS.1 tpic rfl rfl exblo ?_
    by_cases hc8 : (vvo 3 : Int) ≤ a
    · refine gy_icT (pc' := 25) rfl (by decide) (by decide) (by omega) (by omega) hc8 ?_
      have hl9 : 1024 ≤ h.2.2.2.1 bt ∧ h.2.2.2.1 bt ≤ 1000000 := gJ.rowl (G := gGG) hS.1 tbt rfl
      have hl10 : 0 ≤ h.2.2.2.1 coo ∧ h.2.2.2.1 coo ≤ 12288 := gJ.rowl (G := gGG) hS.1 tcoo rfl
      have hl11 : 0 ≤ h.2.2.2.1 dmo ∧ h.2.2.2.1 dmo ≤ 192 := gJ.rowl (G := gGG) hS.1 tdmo rfl
      have hix12 : gIx ty x ld (h.2.2.2.1 bt : Int) (64 * dw + n0) h := ⟨pic, b0, b1, b2, dr, sk, bt, n0, c0, i0, dw, ⟨tx, tdr, tsk, tbt⟩, ⟨ex2, ex3, ex4, ex0⟩, hpc, htc, ⟨en0, by omega, by omega⟩, ⟨eiv, by omega, by omega⟩, ⟨ec0, by omega, by omega⟩, ⟨by omega, by omega⟩, hrr, hrw, ⟨edw, by omega, by omega⟩, rfl⟩
      have G13 : gSg [] [] [] ty h ty h := gSg.ss G0 hS (by decide)
      exact gz_end (I := .new 108) (len := 3) rfl (Or.inr (by decide)) ⟨ty, G13, ld, (h.2.2.2.1 bt : Int), (64 * dw + n0), (by omega), (by omega), (by omega), (by omega), (by omega), (by omega), hix12, Or.inr ⟨rfl, rfl, (by omega), (by dsimp only; omega), (by dsimp only; omega), (by omega), (by omega)⟩⟩
    · refine gy_icF rfl (by decide) (by decide) (by omega) (by omega) hc8 ?_
      refine gz_s 1 (pc' := 16) (L' := [some (.ref x), some (.int (zi a)), some (.int (zi b))]) (S' := [.int (zi b)]) rfl ?_
      by_cases hc14 : (b : Int) < 0
      · refine gy_ifT (pc' := 25) rfl (by decide) (by decide) (by omega) hc14 ?_
        have hl15 : 1024 ≤ h.2.2.2.1 bt ∧ h.2.2.2.1 bt ≤ 1000000 := gJ.rowl (G := gGG) hS.1 tbt rfl
        have hl16 : 0 ≤ h.2.2.2.1 coo ∧ h.2.2.2.1 coo ≤ 12288 := gJ.rowl (G := gGG) hS.1 tcoo rfl
        have hl17 : 0 ≤ h.2.2.2.1 dmo ∧ h.2.2.2.1 dmo ≤ 192 := gJ.rowl (G := gGG) hS.1 tdmo rfl
        have hix18 : gIx ty x ld (h.2.2.2.1 bt : Int) (64 * dw + n0) h := ⟨pic, b0, b1, b2, dr, sk, bt, n0, c0, i0, dw, ⟨tx, tdr, tsk, tbt⟩, ⟨ex2, ex3, ex4, ex0⟩, hpc, htc, ⟨en0, by omega, by omega⟩, ⟨eiv, by omega, by omega⟩, ⟨ec0, by omega, by omega⟩, ⟨by omega, by omega⟩, hrr, hrw, ⟨edw, by omega, by omega⟩, rfl⟩
        have G19 : gSg [] [] [] ty h ty h := gSg.ss G0 hS (by decide)
        exact gz_end (I := .new 108) (len := 3) rfl (Or.inr (by decide)) ⟨ty, G19, ld, (h.2.2.2.1 bt : Int), (64 * dw + n0), (by omega), (by omega), (by omega), (by omega), (by omega), (by omega), hix18, Or.inr ⟨rfl, rfl, (by omega), (by dsimp only; omega), (by dsimp only; omega), (by omega), (by omega)⟩⟩
      · refine gy_ifF rfl (by decide) (by decide) (by omega) hc14 ?_
        refine gz_s 2 (pc' := 22) (L' := [some (.ref x), some (.int (zi a)), some (.int (zi b))]) (S' := [.int (zi 63), .int (zi b)]) rfl ?_
        by_cases hc20 : (b : Int) ≤ 63
        · refine gy_icT (pc' := 35) rfl (by decide) (by decide) (by omega) (by omega) hc20 ?_
          refine gz_s 1 (pc' := 36) (L' := [some (.ref x), some (.int (zi a)), some (.int (zi b))]) (S' := [.ref x]) rfl ?_
          refine gs_gtk rfl (by decide) rfl hS.1 tx rfl rfl ex2 ?_
          refine gs_gtk rfl (by decide) rfl hS.1 tpic rfl rfl er4o ?_
          refine gy_s 5 (pc' := 48) (L' := [some (.ref x), some (.int (zi a)), some (.int (zi b))]) (S' := [.int (((zi a) * (zi 64)) + (zi b)), .ref coo]) (L2 := [some (.ref x), some (.int (zi a)), some (.int (zi b))]) (S2 := [.int (zi ((a * 64) + b)), .ref coo]) rfl (by simp only [zi_add, zi_sub, zi_mul, zi_neg, zi_and1, zi_and7, zi_and15, zi_and31, zi_and255]) (by simp only [zi_add, zi_sub, zi_mul, zi_neg, zi_and1, zi_and7, zi_and15, zi_and31, zi_and255]) ?_
          have hl21 : 0 ≤ h.2.2.2.1 coo ∧ h.2.2.2.1 coo ≤ 12288 := gJ.rowl (G := gGG) hS.1 tcoo rfl
          have hl22 : h.2.2.2.1 coo = h.2.2.2.1 coo := congrFun hS.2.2.2.2.1 coo
          refine gs_ald rfl (by decide) hS.1 tcoo rfl rfl rfl (by decide) (fun _ => rfl) (by omega) (by omega) (fun z23 ez23 az23 bz23 => ?_)
          have hl24 : 1024 ≤ h.2.2.2.1 bt ∧ h.2.2.2.1 bt ≤ 1000000 := gJ.rowl (G := gGG) hS.1 tbt rfl
          have hl25 : 0 ≤ h.2.2.2.1 coo ∧ h.2.2.2.1 coo ≤ 12288 := gJ.rowl (G := gGG) hS.1 tcoo rfl
          have hl26 : 0 ≤ h.2.2.2.1 dmo ∧ h.2.2.2.1 dmo ≤ 192 := gJ.rowl (G := gGG) hS.1 tdmo rfl
          have hix27 : gIx ty x ld (h.2.2.2.1 bt : Int) (64 * dw + n0) h := ⟨pic, b0, b1, b2, dr, sk, bt, n0, c0, i0, dw, ⟨tx, tdr, tsk, tbt⟩, ⟨ex2, ex3, ex4, ex0⟩, hpc, htc, ⟨en0, by omega, by omega⟩, ⟨eiv, by omega, by omega⟩, ⟨ec0, by omega, by omega⟩, ⟨by omega, by omega⟩, hrr, hrw, ⟨edw, by omega, by omega⟩, rfl⟩
          have G28 : gSg [] [] [] ty h ty h := gSg.ss G0 hS (by decide)
          exact gz_end (I := .ireturn) (len := 1) rfl (Or.inl rfl) ⟨ty, G28, ld, (h.2.2.2.1 bt : Int), (64 * dw + n0), (by omega), (by omega), (by omega), (by omega), (by omega), (by omega), hix27, Or.inl ⟨z23, rfl, (by omega), (by omega), (by omega), (by dsimp only; omega), (by dsimp only; omega), (by omega), (by omega)⟩⟩
        · refine gy_icF rfl (by decide) (by decide) (by omega) (by omega) hc20 ?_
          have hl29 : 1024 ≤ h.2.2.2.1 bt ∧ h.2.2.2.1 bt ≤ 1000000 := gJ.rowl (G := gGG) hS.1 tbt rfl
          have hl30 : 0 ≤ h.2.2.2.1 coo ∧ h.2.2.2.1 coo ≤ 12288 := gJ.rowl (G := gGG) hS.1 tcoo rfl
          have hl31 : 0 ≤ h.2.2.2.1 dmo ∧ h.2.2.2.1 dmo ≤ 192 := gJ.rowl (G := gGG) hS.1 tdmo rfl
          have hix32 : gIx ty x ld (h.2.2.2.1 bt : Int) (64 * dw + n0) h := ⟨pic, b0, b1, b2, dr, sk, bt, n0, c0, i0, dw, ⟨tx, tdr, tsk, tbt⟩, ⟨ex2, ex3, ex4, ex0⟩, hpc, htc, ⟨en0, by omega, by omega⟩, ⟨eiv, by omega, by omega⟩, ⟨ec0, by omega, by omega⟩, ⟨by omega, by omega⟩, hrr, hrw, ⟨edw, by omega, by omega⟩, rfl⟩
          have G33 : gSg [] [] [] ty h ty h := gSg.ss G0 hS (by decide)
          exact gz_end (I := .new 108) (len := 3) rfl (Or.inr (by decide)) ⟨ty, G33, ld, (h.2.2.2.1 bt : Int), (64 * dw + n0), (by omega), (by omega), (by omega), (by omega), (by omega), (by omega), hix32, Or.inr ⟨rfl, rfl, (by omega), (by dsimp only; omega), (by dsimp only; omega), (by omega), (by omega)⟩⟩
set_option maxRecDepth 20000 in
set_option maxHeartbeats 4000000 in
theorem cl_DctFilter_exact (d : Nat) {ty : Nat → Nat} {h : gH} (hJ : gJ rT 1027 ty h) (x : Nat) (tx : ty x = 50) (a : Int) (ra : (-2147483648) ≤ a ∧ a ≤ 2147483647) (b : Int) (rb : (-2147483648) ≤ b ∧ b ≤ 2147483647) (hyst : gSta ty h) (ld : Int) (rld : 0 ≤ ld ∧ ld ≤ 192) (lb : Int) (rlb : 1024 ≤ lb ∧ lb ≤ 1000000) (iv : Int) (riv : 0 ≤ iv ∧ iv ≤ 2058) (uq : gUq ty) (hyix : gIx ty x ld lb iv h) : gz gPP gGG gcn (d + 2) gt80 0 (gent [.ref x, .int (zi a), .int (zi b)] 3) [] h (fun q _ => ∃ ty9 : Nat → Nat, gSg [] [] [] ty h ty9 q.2.2 ∧ ∃ ld1 lb1 iv1 : Int, 0 ≤ ld1 ∧ ld1 ≤ 192 ∧ 1024 ≤ lb1 ∧ lb1 ≤ 1000000 ∧ 0 ≤ iv1 ∧ iv1 ≤ 2058 ∧ (gIx ty9 x ld1 lb1 iv1 q.2.2) ∧ ((∃ z : Int, gfin gt80 q.1 q.2.1 = some (some (.long (zl z))) ∧ (-9223372036854775808) ≤ z ∧ z ≤ 9223372036854775807 ∧ (iv1 = iv) ∧ (1024 * (((q.2.2.1 : Int) - h.1) - 31 - 2 * (ld1 - ld)) ≤ lb1 - lb) ∧ (((q.2.2.2.1 : Int) - h.2.1) ≤ 4303 + 12480 * (ld1 - ld) + 2 * (lb1 - lb)) ∧ (ld ≤ ld1) ∧ (lb ≤ lb1)) ∨ (q.2.1 = [] ∧ ((q.1 = 25)) ∧ (iv1 = iv) ∧ (1024 * (((q.2.2.1 : Int) - h.1) - 31 - 2 * (ld1 - ld)) ≤ lb1 - lb) ∧ (((q.2.2.2.1 : Int) - h.2.1) ≤ 4303 + 12480 * (ld1 - ld) + 2 * (lb1 - lb)) ∧ (ld ≤ ld1) ∧ (lb ≤ lb1)))) := by
  have hS : gSs rT 1027 ty [] h h := gSs.rf hJ
  have G0 : gSg [] [] [] ty h ty h := gSg.rf hJ (fun x hx => by cases hx)
  obtain ⟨pic, b0, b1, b2, dr, sk, bt, n0, c0, i0, dw, ⟨_, tdr, tsk, tbt⟩, ⟨ex2, ex3, ex4, ex0⟩, hpc, htc, ⟨en0, rn0⟩, ⟨eiv, ri0⟩, ⟨ec0, rc0⟩, ⟨lc0, llb⟩, hrr, hrw, ⟨edw, rdw⟩, hcd⟩ := hyix
  have tpic := hpc.1.1
  have tb0 := hpc.1.2.1
  have tb1 := hpc.1.2.2.1
  have tb2 := hpc.1.2.2.2
  have hpq1 := hpc
  obtain ⟨_, bno, coo, dmo, vvo, ⟨tbno, tcoo, tdmo⟩, ⟨er0o, er1o, er2o, er3o, er4o, er5o⟩, hvvo, hrro, ⟨yy0o, yy1o, yy2o, yy3o, yy4o, yy5o, yy6o, yy7o⟩, ll0o, ll1o, ll2o, ll3o⟩ := hpq1
  have excno : h.2.2.2.2 pic 7 = .int (zi (vvo 0)) := hvvo (0, 7, 0) (by decide)
  have rrcno : 0 ≤ vvo 0 ∧ vvo 0 ≤ 3 := hrro (0, 0, 3) (by decide)
  have exuco : h.2.2.2.2 pic 12 = .int (zi (vvo 1)) := hvvo (0, 12, 1) (by decide)
  have rruco : 0 ≤ vvo 1 ∧ vvo 1 ≤ 8 := hrro (1, 0, 8) (by decide)
  have exuro : h.2.2.2.2 pic 13 = .int (zi (vvo 2)) := hvvo (0, 13, 2) (by decide)
  have rruro : 0 ≤ vvo 2 ∧ vvo 2 ≤ 8 := hrro (2, 0, 8) (by decide)
  have exblo : h.2.2.2.2 pic 8 = .int (zi (vvo 3)) := hvvo (0, 8, 3) (by decide)
  have rrblo : 0 ≤ vvo 3 ∧ vvo 3 ≤ 192 := hrro (3, 0, 192) (by decide)
  have exwo : h.2.2.2.2 pic 5 = .int (zi (vvo 4)) := hvvo (0, 5, 4) (by decide)
  have rrwo : 0 ≤ vvo 4 ∧ vvo 4 ≤ 64 := hrro (4, 0, 64) (by decide)
  have exhho : h.2.2.2.2 pic 6 = .int (zi (vvo 5)) := hvvo (0, 6, 5) (by decide)
  have rrhho : 0 ≤ vvo 5 ∧ vvo 5 ≤ 64 := hrro (5, 0, 64) (by decide)
  have exgho : h.2.2.2.2 pic 10 = .int (zi (vvo 6)) := hvvo (0, 10, 6) (by decide)
  have rrgho : 1 ≤ vvo 6 ∧ vvo 6 ≤ 2 := hrro (6, 1, 2) (by decide)
  have exgvo : h.2.2.2.2 pic 11 = .int (zi (vvo 7)) := hvvo (0, 11, 7) (by decide)
  have rrgvo : 1 ≤ vvo 7 ∧ vvo 7 ≤ 2 := hrro (7, 1, 2) (by decide)
  have exhb0o : h.2.2.2.2 b0 1 = .int (zi (vvo 8)) := hvvo (1, 1, 8) (by decide)
  have rrhb0o : (-1) ≤ vvo 8 ∧ vvo 8 ≤ 15 := hrro (8, (-1), 15) (by decide)
  have exvb0o : h.2.2.2.2 b0 2 = .int (zi (vvo 9)) := hvvo (1, 2, 9) (by decide)
  have rrvb0o : 0 ≤ vvo 9 ∧ vvo 9 ≤ 15 := hrro (9, 0, 15) (by decide)
  have extq0o : h.2.2.2.2 b0 3 = .int (zi (vvo 10)) := hvvo (1, 3, 10) (by decide)
  have rrtq0o : (-1) ≤ vvo 10 ∧ vvo 10 ≤ 255 := hrro (10, (-1), 255) (by decide)
  have exC0o : h.2.2.2.2 b0 4 = .int (zi (vvo 11)) := hvvo (1, 4, 11) (by decide)
  have rrC0o : 0 ≤ vvo 11 ∧ vvo 11 ≤ 16 := hrro (11, 0, 16) (by decide)
  have exR0o : h.2.2.2.2 b0 5 = .int (zi (vvo 12)) := hvvo (1, 5, 12) (by decide)
  have rrR0o : 0 ≤ vvo 12 ∧ vvo 12 ≤ 16 := hrro (12, 0, 16) (by decide)
  have exoc0o : h.2.2.2.2 b0 6 = .int (zi (vvo 13)) := hvvo (1, 6, 13) (by decide)
  have rroc0o : 0 ≤ vvo 13 ∧ vvo 13 ≤ 16 := hrro (13, 0, 16) (by decide)
  have exor0o : h.2.2.2.2 b0 7 = .int (zi (vvo 14)) := hvvo (1, 7, 14) (by decide)
  have rror0o : 0 ≤ vvo 14 ∧ vvo 14 ≤ 16 := hrro (14, 0, 16) (by decide)
  have exf0o : h.2.2.2.2 b0 8 = .int (zi (vvo 15)) := hvvo (1, 8, 15) (by decide)
  have rrf0o : 0 ≤ vvo 15 ∧ vvo 15 ≤ 192 := hrro (15, 0, 192) (by decide)
  have exhb1o : h.2.2.2.2 b1 1 = .int (zi (vvo 16)) := hvvo (2, 1, 16) (by decide)
  have rrhb1o : (-1) ≤ vvo 16 ∧ vvo 16 ≤ 15 := hrro (16, (-1), 15) (by decide)
  have exvb1o : h.2.2.2.2 b1 2 = .int (zi (vvo 17)) := hvvo (2, 2, 17) (by decide)
  have rrvb1o : 0 ≤ vvo 17 ∧ vvo 17 ≤ 15 := hrro (17, 0, 15) (by decide)
  have extq1o : h.2.2.2.2 b1 3 = .int (zi (vvo 18)) := hvvo (2, 3, 18) (by decide)
  have rrtq1o : (-1) ≤ vvo 18 ∧ vvo 18 ≤ 255 := hrro (18, (-1), 255) (by decide)
  have exC1o : h.2.2.2.2 b1 4 = .int (zi (vvo 19)) := hvvo (2, 4, 19) (by decide)
  have rrC1o : 0 ≤ vvo 19 ∧ vvo 19 ≤ 16 := hrro (19, 0, 16) (by decide)
  have exR1o : h.2.2.2.2 b1 5 = .int (zi (vvo 20)) := hvvo (2, 5, 20) (by decide)
  have rrR1o : 0 ≤ vvo 20 ∧ vvo 20 ≤ 16 := hrro (20, 0, 16) (by decide)
  have exoc1o : h.2.2.2.2 b1 6 = .int (zi (vvo 21)) := hvvo (2, 6, 21) (by decide)
  have rroc1o : 0 ≤ vvo 21 ∧ vvo 21 ≤ 16 := hrro (21, 0, 16) (by decide)
  have exor1o : h.2.2.2.2 b1 7 = .int (zi (vvo 22)) := hvvo (2, 7, 22) (by decide)
  have rror1o : 0 ≤ vvo 22 ∧ vvo 22 ≤ 16 := hrro (22, 0, 16) (by decide)
  have exf1o : h.2.2.2.2 b1 8 = .int (zi (vvo 23)) := hvvo (2, 8, 23) (by decide)
  have rrf1o : 0 ≤ vvo 23 ∧ vvo 23 ≤ 192 := hrro (23, 0, 192) (by decide)
  have exhb2o : h.2.2.2.2 b2 1 = .int (zi (vvo 24)) := hvvo (3, 1, 24) (by decide)
  have rrhb2o : (-1) ≤ vvo 24 ∧ vvo 24 ≤ 15 := hrro (24, (-1), 15) (by decide)
  have exvb2o : h.2.2.2.2 b2 2 = .int (zi (vvo 25)) := hvvo (3, 2, 25) (by decide)
  have rrvb2o : 0 ≤ vvo 25 ∧ vvo 25 ≤ 15 := hrro (25, 0, 15) (by decide)
  have extq2o : h.2.2.2.2 b2 3 = .int (zi (vvo 26)) := hvvo (3, 3, 26) (by decide)
  have rrtq2o : (-1) ≤ vvo 26 ∧ vvo 26 ≤ 255 := hrro (26, (-1), 255) (by decide)
  have exC2o : h.2.2.2.2 b2 4 = .int (zi (vvo 27)) := hvvo (3, 4, 27) (by decide)
  have rrC2o : 0 ≤ vvo 27 ∧ vvo 27 ≤ 16 := hrro (27, 0, 16) (by decide)
  have exR2o : h.2.2.2.2 b2 5 = .int (zi (vvo 28)) := hvvo (3, 5, 28) (by decide)
  have rrR2o : 0 ≤ vvo 28 ∧ vvo 28 ≤ 16 := hrro (28, 0, 16) (by decide)
  have exoc2o : h.2.2.2.2 b2 6 = .int (zi (vvo 29)) := hvvo (3, 6, 29) (by decide)
  have rroc2o : 0 ≤ vvo 29 ∧ vvo 29 ≤ 16 := hrro (29, 0, 16) (by decide)
  have exor2o : h.2.2.2.2 b2 7 = .int (zi (vvo 30)) := hvvo (3, 7, 30) (by decide)
  have rror2o : 0 ≤ vvo 30 ∧ vvo 30 ≤ 16 := hrro (30, 0, 16) (by decide)
  have exf2o : h.2.2.2.2 b2 8 = .int (zi (vvo 31)) := hvvo (3, 8, 31) (by decide)
  have rrf2o : 0 ≤ vvo 31 ∧ vvo 31 ≤ 192 := hrro (31, 0, 192) (by decide)
  refine gz_s 1 (pc' := 1) (L' := [some (.ref x), some (.int (zi a)), some (.int (zi b))]) (S' := [.int (zi a)]) rfl ?_
  by_cases hc2 : (a : Int) < 0
  · refine gy_ifT (pc' := 25) rfl (by decide) (by decide) (by omega) hc2 ?_
    have hl3 : 1024 ≤ h.2.2.2.1 bt ∧ h.2.2.2.1 bt ≤ 1000000 := gJ.rowl (G := gGG) hS.1 tbt rfl
    have hl4 : 0 ≤ h.2.2.2.1 coo ∧ h.2.2.2.1 coo ≤ 12288 := gJ.rowl (G := gGG) hS.1 tcoo rfl
    have hl5 : 0 ≤ h.2.2.2.1 dmo ∧ h.2.2.2.1 dmo ≤ 192 := gJ.rowl (G := gGG) hS.1 tdmo rfl
    have hix6 : gIx ty x ld (h.2.2.2.1 bt : Int) (64 * dw + n0) h := ⟨pic, b0, b1, b2, dr, sk, bt, n0, c0, i0, dw, ⟨tx, tdr, tsk, tbt⟩, ⟨ex2, ex3, ex4, ex0⟩, hpc, htc, ⟨en0, by omega, by omega⟩, ⟨eiv, by omega, by omega⟩, ⟨ec0, by omega, by omega⟩, ⟨by omega, by omega⟩, hrr, hrw, ⟨edw, by omega, by omega⟩, rfl⟩
    have G7 : gSg [] [] [] ty h ty h := gSg.ss G0 hS (by decide)
    exact gz_end (I := .new 108) (len := 3) rfl (Or.inr (by decide)) ⟨ty, G7, ld, (h.2.2.2.1 bt : Int), (64 * dw + n0), (by omega), (by omega), (by omega), (by omega), (by omega), (by omega), hix6, Or.inr ⟨rfl, rfl, (by omega), (by dsimp only; omega), (by dsimp only; omega), (by omega), (by omega)⟩⟩
  · refine gy_ifF rfl (by decide) (by decide) (by omega) hc2 ?_
    refine gz_s 2 (pc' := 6) (L' := [some (.ref x), some (.int (zi a)), some (.int (zi b))]) (S' := [.ref x, .int (zi a)]) rfl ?_
    refine gs_gtk rfl (by decide) rfl hS.1 tx rfl rfl ex2 ?_
    refine gs_gtk rfl (by decide) rfl hS.1 tpic rfl rfl exblo ?_
    by_cases hc8 : (vvo 3 : Int) ≤ a
    · refine gy_icT (pc' := 25) rfl (by decide) (by decide) (by omega) (by omega) hc8 ?_
      have hl9 : 1024 ≤ h.2.2.2.1 bt ∧ h.2.2.2.1 bt ≤ 1000000 := gJ.rowl (G := gGG) hS.1 tbt rfl
      have hl10 : 0 ≤ h.2.2.2.1 coo ∧ h.2.2.2.1 coo ≤ 12288 := gJ.rowl (G := gGG) hS.1 tcoo rfl
      have hl11 : 0 ≤ h.2.2.2.1 dmo ∧ h.2.2.2.1 dmo ≤ 192 := gJ.rowl (G := gGG) hS.1 tdmo rfl
      have hix12 : gIx ty x ld (h.2.2.2.1 bt : Int) (64 * dw + n0) h := ⟨pic, b0, b1, b2, dr, sk, bt, n0, c0, i0, dw, ⟨tx, tdr, tsk, tbt⟩, ⟨ex2, ex3, ex4, ex0⟩, hpc, htc, ⟨en0, by omega, by omega⟩, ⟨eiv, by omega, by omega⟩, ⟨ec0, by omega, by omega⟩, ⟨by omega, by omega⟩, hrr, hrw, ⟨edw, by omega, by omega⟩, rfl⟩
      have G13 : gSg [] [] [] ty h ty h := gSg.ss G0 hS (by decide)
      exact gz_end (I := .new 108) (len := 3) rfl (Or.inr (by decide)) ⟨ty, G13, ld, (h.2.2.2.1 bt : Int), (64 * dw + n0), (by omega), (by omega), (by omega), (by omega), (by omega), (by omega), hix12, Or.inr ⟨rfl, rfl, (by omega), (by dsimp only; omega), (by dsimp only; omega), (by omega), (by omega)⟩⟩
    · refine gy_icF rfl (by decide) (by decide) (by omega) (by omega) hc8 ?_
      refine gz_s 1 (pc' := 16) (L' := [some (.ref x), some (.int (zi a)), some (.int (zi b))]) (S' := [.int (zi b)]) rfl ?_
      by_cases hc14 : (b : Int) < 0
      · refine gy_ifT (pc' := 25) rfl (by decide) (by decide) (by omega) hc14 ?_
        have hl15 : 1024 ≤ h.2.2.2.1 bt ∧ h.2.2.2.1 bt ≤ 1000000 := gJ.rowl (G := gGG) hS.1 tbt rfl
        have hl16 : 0 ≤ h.2.2.2.1 coo ∧ h.2.2.2.1 coo ≤ 12288 := gJ.rowl (G := gGG) hS.1 tcoo rfl
        have hl17 : 0 ≤ h.2.2.2.1 dmo ∧ h.2.2.2.1 dmo ≤ 192 := gJ.rowl (G := gGG) hS.1 tdmo rfl
        have hix18 : gIx ty x ld (h.2.2.2.1 bt : Int) (64 * dw + n0) h := ⟨pic, b0, b1, b2, dr, sk, bt, n0, c0, i0, dw, ⟨tx, tdr, tsk, tbt⟩, ⟨ex2, ex3, ex4, ex0⟩, hpc, htc, ⟨en0, by omega, by omega⟩, ⟨eiv, by omega, by omega⟩, ⟨ec0, by omega, by omega⟩, ⟨by omega, by omega⟩, hrr, hrw, ⟨edw, by omega, by omega⟩, rfl⟩
        have G19 : gSg [] [] [] ty h ty h := gSg.ss G0 hS (by decide)
        exact gz_end (I := .new 108) (len := 3) rfl (Or.inr (by decide)) ⟨ty, G19, ld, (h.2.2.2.1 bt : Int), (64 * dw + n0), (by omega), (by omega), (by omega), (by omega), (by omega), (by omega), hix18, Or.inr ⟨rfl, rfl, (by omega), (by dsimp only; omega), (by dsimp only; omega), (by omega), (by omega)⟩⟩
      · refine gy_ifF rfl (by decide) (by decide) (by omega) hc14 ?_
        refine gz_s 2 (pc' := 22) (L' := [some (.ref x), some (.int (zi a)), some (.int (zi b))]) (S' := [.int (zi 63), .int (zi b)]) rfl ?_
        by_cases hc20 : (b : Int) ≤ 63
        · refine gy_icT (pc' := 35) rfl (by decide) (by decide) (by omega) (by omega) hc20 ?_
          refine gz_s 1 (pc' := 36) (L' := [some (.ref x), some (.int (zi a)), some (.int (zi b))]) (S' := [.ref x]) rfl ?_
          refine gs_gtk rfl (by decide) rfl hS.1 tx rfl rfl ex2 ?_
          refine gy_s 6 (pc' := 46) (L' := [some (.ref x), some (.int (zi a)), some (.int (zi b))]) (S' := [.int (zi 3), .int (zi b), .int ((zi b) &&& (zi 7)), .int (zi a), .ref pic]) (L2 := [some (.ref x), some (.int (zi a)), some (.int (zi b))]) (S2 := [.int (zi 3), .int (zi b), .int (zi (b % 8)), .int (zi a), .ref pic]) rfl (by simp only [zi_add, zi_sub, zi_mul, zi_neg, zi_and1, zi_and7, zi_and15, zi_and31, zi_and255]) (by simp only [zi_add, zi_sub, zi_mul, zi_neg, zi_and1, zi_and7, zi_and15, zi_and31, zi_and255]) ?_
          refine gy_shc (n := 3) (v := 8) rfl (by decide) (by omega) (by decide) (by decide) rfl ?_
          have hl21 : h.2.2.2.1 coo = h.2.2.2.1 coo := congrFun hS.2.2.2.2.1 coo
          refine gz_call rfl (by decide) rfl (by decide) (by decide) (gcal_of rfl rfl rfl (Nat.le_of_ble_eq_true rfl) (gJ.recv (G := gGG) hS.1 tpic rfl rfl)) (cl_Picture_exactAt _ hS.1 pic tpic a ⟨by omega, by omega⟩ (b % 8) ⟨by omega, by omega⟩ (b / 8) ⟨by omega, by omega⟩ bno er0o tbno b0 er1o tb0 b1 er2o tb1 b2 er3o tb2 coo er4o tcoo (gSta.fr hS.2 (by decide) hyst) (vvo 0) excno ⟨by omega, by omega⟩ (vvo 10) extq0o ⟨by omega, by omega⟩ (vvo 18) extq1o ⟨by omega, by omega⟩ (vvo 26) extq2o ⟨by omega, by omega⟩ (by omega) (by omega) (by omega) (by omega) uq) (fun q22 _ wq22 => ?_)
          obtain ⟨pq22, oq22, hq22⟩ := q22
          obtain ⟨xq22, zq22, gq22, aq22, bq22⟩ := wq22
          refine ⟨_, gq22, ?_⟩
          show gz gPP gGG gcn _ _ 50 [some (.ref x), some (.int (zi a)), some (.int (zi b))] [.long (zl zq22)] hq22 _
          have sq22 : gSs rT 1027 ty [] h hq22 := gSs.tr hS xq22 (by decide)
          have s23 := (xq22.2.2.2.2.2 x 2 (by rw [tx]; decide)).trans ex2
          have s24 := (xq22.2.2.2.2.2 x 3 (by rw [tx]; decide)).trans ex3
          have s25 := (xq22.2.2.2.2.2 x 4 (by rw [tx]; decide)).trans ex4
          have s26 := (xq22.2.2.2.2.2 sk 0 (by rw [tsk]; decide)).trans ex0
          have s27 := (xq22.2.2.2.2.2 dr 8 (by rw [tdr]; decide)).trans en0
          have s28 := (xq22.2.2.2.2.2 dr 3 (by rw [tdr]; decide)).trans eiv
          have s29 := (xq22.2.2.2.2.2 dr 1 (by rw [tdr]; decide)).trans edw
          have s30 := (xq22.2.2.2.2.2 sk 1 (by rw [tsk]; decide)).trans ec0
          have s31 := (xq22.2.2.2.2.2 pic 0 (by rw [tpic]; decide)).trans er0o
          have s32 := (xq22.2.2.2.2.2 bno 0 (by rw [tbno]; decide)).trans er1o
          have s33 := (xq22.2.2.2.2.2 bno 1 (by rw [tbno]; decide)).trans er2o
          have s34 := (xq22.2.2.2.2.2 bno 2 (by rw [tbno]; decide)).trans er3o
          have s35 := (xq22.2.2.2.2.2 pic 2 (by rw [tpic]; decide)).trans er4o
          have s36 := (xq22.2.2.2.2.2 pic 3 (by rw [tpic]; decide)).trans er5o
          have s37 := (xq22.2.2.2.2.2 pic 7 (by rw [tpic]; decide)).trans excno
          have s38 := (xq22.2.2.2.2.2 pic 12 (by rw [tpic]; decide)).trans exuco
          have s39 := (xq22.2.2.2.2.2 pic 13 (by rw [tpic]; decide)).trans exuro
          have s40 := (xq22.2.2.2.2.2 pic 8 (by rw [tpic]; decide)).trans exblo
          have s41 := (xq22.2.2.2.2.2 pic 5 (by rw [tpic]; decide)).trans exwo
          have s42 := (xq22.2.2.2.2.2 pic 6 (by rw [tpic]; decide)).trans exhho
          have s43 := (xq22.2.2.2.2.2 pic 10 (by rw [tpic]; decide)).trans exgho
          have s44 := (xq22.2.2.2.2.2 pic 11 (by rw [tpic]; decide)).trans exgvo
          have s45 := (xq22.2.2.2.2.2 b0 1 (by rw [tb0]; decide)).trans exhb0o
          have s46 := (xq22.2.2.2.2.2 b0 2 (by rw [tb0]; decide)).trans exvb0o
          have s47 := (xq22.2.2.2.2.2 b0 3 (by rw [tb0]; decide)).trans extq0o
          have s48 := (xq22.2.2.2.2.2 b0 4 (by rw [tb0]; decide)).trans exC0o
          have s49 := (xq22.2.2.2.2.2 b0 5 (by rw [tb0]; decide)).trans exR0o
          have s50 := (xq22.2.2.2.2.2 b0 6 (by rw [tb0]; decide)).trans exoc0o
          have s51 := (xq22.2.2.2.2.2 b0 7 (by rw [tb0]; decide)).trans exor0o
          have s52 := (xq22.2.2.2.2.2 b0 8 (by rw [tb0]; decide)).trans exf0o
          have s53 := (xq22.2.2.2.2.2 b1 1 (by rw [tb1]; decide)).trans exhb1o
          have s54 := (xq22.2.2.2.2.2 b1 2 (by rw [tb1]; decide)).trans exvb1o
          have s55 := (xq22.2.2.2.2.2 b1 3 (by rw [tb1]; decide)).trans extq1o
          have s56 := (xq22.2.2.2.2.2 b1 4 (by rw [tb1]; decide)).trans exC1o
          have s57 := (xq22.2.2.2.2.2 b1 5 (by rw [tb1]; decide)).trans exR1o
          have s58 := (xq22.2.2.2.2.2 b1 6 (by rw [tb1]; decide)).trans exoc1o
          have s59 := (xq22.2.2.2.2.2 b1 7 (by rw [tb1]; decide)).trans exor1o
          have s60 := (xq22.2.2.2.2.2 b1 8 (by rw [tb1]; decide)).trans exf1o
          have s61 := (xq22.2.2.2.2.2 b2 1 (by rw [tb2]; decide)).trans exhb2o
          have s62 := (xq22.2.2.2.2.2 b2 2 (by rw [tb2]; decide)).trans exvb2o
          have s63 := (xq22.2.2.2.2.2 b2 3 (by rw [tb2]; decide)).trans extq2o
          have s64 := (xq22.2.2.2.2.2 b2 4 (by rw [tb2]; decide)).trans exC2o
          have s65 := (xq22.2.2.2.2.2 b2 5 (by rw [tb2]; decide)).trans exR2o
          have s66 := (xq22.2.2.2.2.2 b2 6 (by rw [tb2]; decide)).trans exoc2o
          have s67 := (xq22.2.2.2.2.2 b2 7 (by rw [tb2]; decide)).trans exor2o
          have s68 := (xq22.2.2.2.2.2 b2 8 (by rw [tb2]; decide)).trans exf2o
          have pr69 := gPC.fr xq22.2 (by decide) hpc
          have pr70 := gTc.fr xq22.2 (by decide) htc
          have pr71 := gRr.fr xq22.2 (by decide) hrr
          have pr72 := gRw.fr xq22.2 (by decide) hrw
          have k73 := sq22.2.1
          have k73b := sq22.2.2.1
          have hl74 : hq22.2.2.2.1 bt = h.2.2.2.1 bt := congrFun sq22.2.2.2.2.1 bt
          have hl75 : hq22.2.2.2.1 coo = h.2.2.2.1 coo := congrFun sq22.2.2.2.2.1 coo
          have hl76 : hq22.2.2.2.1 dmo = h.2.2.2.1 dmo := congrFun sq22.2.2.2.2.1 dmo
          have hl77 : 1024 ≤ hq22.2.2.2.1 bt ∧ hq22.2.2.2.1 bt ≤ 1000000 := gJ.rowl (G := gGG) sq22.1 tbt rfl
          have hl78 : 0 ≤ hq22.2.2.2.1 coo ∧ hq22.2.2.2.1 coo ≤ 12288 := gJ.rowl (G := gGG) sq22.1 tcoo rfl
          have hl79 : 0 ≤ hq22.2.2.2.1 dmo ∧ hq22.2.2.2.1 dmo ≤ 192 := gJ.rowl (G := gGG) sq22.1 tdmo rfl
          have k80 := sq22.2.1
          have k80b := sq22.2.2.1
          have hl81 : hq22.2.2.2.1 bt = h.2.2.2.1 bt := congrFun sq22.2.2.2.2.1 bt
          have hl82 : hq22.2.2.2.1 coo = h.2.2.2.1 coo := congrFun sq22.2.2.2.2.1 coo
          have hl83 : hq22.2.2.2.1 dmo = h.2.2.2.1 dmo := congrFun sq22.2.2.2.2.1 dmo
          have hix84 : gIx ty x ld (hq22.2.2.2.1 bt : Int) (64 * dw + n0) hq22 := ⟨pic, b0, b1, b2, dr, sk, bt, n0, c0, i0, dw, ⟨tx, tdr, tsk, tbt⟩, ⟨s23, s24, s25, s26⟩, pr69, pr70, ⟨s27, by omega, by omega⟩, ⟨s28, by omega, by omega⟩, ⟨s30, by omega, by omega⟩, ⟨by omega, by omega⟩, pr71, pr72, ⟨s29, by omega, by omega⟩, rfl⟩
          have G85 : gSg [] [] [] ty h ty hq22 := gSg.ss G0 sq22 (by decide)
          exact gz_end (I := .lreturn) (len := 1) rfl (Or.inl rfl) ⟨ty, G85, ld, (hq22.2.2.2.1 bt : Int), (64 * dw + n0), (by omega), (by omega), (by omega), (by omega), (by omega), (by omega), hix84, Or.inl ⟨zq22, rfl, (by omega), (by omega), (by omega), (by dsimp only; omega), (by dsimp only; omega), (by omega), (by omega)⟩⟩
        · refine gy_icF rfl (by decide) (by decide) (by omega) (by omega) hc20 ?_
          have hl86 : 1024 ≤ h.2.2.2.1 bt ∧ h.2.2.2.1 bt ≤ 1000000 := gJ.rowl (G := gGG) hS.1 tbt rfl
          have hl87 : 0 ≤ h.2.2.2.1 coo ∧ h.2.2.2.1 coo ≤ 12288 := gJ.rowl (G := gGG) hS.1 tcoo rfl
          have hl88 : 0 ≤ h.2.2.2.1 dmo ∧ h.2.2.2.1 dmo ≤ 192 := gJ.rowl (G := gGG) hS.1 tdmo rfl
          have hix89 : gIx ty x ld (h.2.2.2.1 bt : Int) (64 * dw + n0) h := ⟨pic, b0, b1, b2, dr, sk, bt, n0, c0, i0, dw, ⟨tx, tdr, tsk, tbt⟩, ⟨ex2, ex3, ex4, ex0⟩, hpc, htc, ⟨en0, by omega, by omega⟩, ⟨eiv, by omega, by omega⟩, ⟨ec0, by omega, by omega⟩, ⟨by omega, by omega⟩, hrr, hrw, ⟨edw, by omega, by omega⟩, rfl⟩
          have G90 : gSg [] [] [] ty h ty h := gSg.ss G0 hS (by decide)
          exact gz_end (I := .new 108) (len := 3) rfl (Or.inr (by decide)) ⟨ty, G90, ld, (h.2.2.2.1 bt : Int), (64 * dw + n0), (by omega), (by omega), (by omega), (by omega), (by omega), (by omega), hix89, Or.inr ⟨rfl, rfl, (by omega), (by dsimp only; omega), (by dsimp only; omega), (by omega), (by omega)⟩⟩
set_option maxRecDepth 20000 in
set_option maxHeartbeats 4000000 in
theorem cl_DctFilter_told (d : Nat) {ty : Nat → Nat} {h : gH} (hJ : gJ rT 1027 ty h) (x : Nat) (tx : ty x = 50) (a : Int) (ra : (-2147483648) ≤ a ∧ a ≤ 2147483647) (b : Int) (rb : (-2147483648) ≤ b ∧ b ≤ 2147483647) (ld : Int) (rld : 0 ≤ ld ∧ ld ≤ 192) (lb : Int) (rlb : 1024 ≤ lb ∧ lb ≤ 1000000) (iv : Int) (riv : 0 ≤ iv ∧ iv ≤ 2058) (uq : gUq ty) (hyix : gIx ty x ld lb iv h) : gz gPP gGG gcn (d + 2) gt81 0 (gent [.ref x, .int (zi a), .int (zi b)] 4) [] h (fun q _ => ∃ ty9 : Nat → Nat, gSg [] [] [] ty h ty9 q.2.2 ∧ ∃ ld1 lb1 iv1 : Int, 0 ≤ ld1 ∧ ld1 ≤ 192 ∧ 1024 ≤ lb1 ∧ lb1 ≤ 1000000 ∧ 0 ≤ iv1 ∧ iv1 ≤ 2058 ∧ (gIx ty9 x ld1 lb1 iv1 q.2.2) ∧ ((∃ z : Int, gfin gt81 q.1 q.2.1 = some (some (.int (zi z))) ∧ (-2147483648) ≤ z ∧ z ≤ 2147483647 ∧ (iv1 = iv) ∧ (1024 * (((q.2.2.1 : Int) - h.1) - 31 - 2 * (ld1 - ld)) ≤ lb1 - lb) ∧ (((q.2.2.2.1 : Int) - h.2.1) ≤ 4303 + 12480 * (ld1 - ld) + 2 * (lb1 - lb)) ∧ (ld ≤ ld1) ∧ (lb ≤ lb1)) ∨ (q.2.1 = [] ∧ ((q.1 = 36)) ∧ (iv1 = iv) ∧ (1024 * (((q.2.2.1 : Int) - h.1) - 31 - 2 * (ld1 - ld)) ≤ lb1 - lb) ∧ (((q.2.2.2.1 : Int) - h.2.1) ≤ 4303 + 12480 * (ld1 - ld) + 2 * (lb1 - lb)) ∧ (ld ≤ ld1) ∧ (lb ≤ lb1)))) := by
  have hS : gSs rT 1027 ty [] h h := gSs.rf hJ
  have G0 : gSg [] [] [] ty h ty h := gSg.rf hJ (fun x hx => by cases hx)
  obtain ⟨pic, b0, b1, b2, dr, sk, bt, n0, c0, i0, dw, ⟨_, tdr, tsk, tbt⟩, ⟨ex2, ex3, ex4, ex0⟩, hpc, htc, ⟨en0, rn0⟩, ⟨eiv, ri0⟩, ⟨ec0, rc0⟩, ⟨lc0, llb⟩, hrr, hrw, ⟨edw, rdw⟩, hcd⟩ := hyix
  have tpic := hpc.1.1
  have tb0 := hpc.1.2.1
  have tb1 := hpc.1.2.2.1
  have tb2 := hpc.1.2.2.2
  have hpq1 := hpc
  obtain ⟨_, bno, coo, dmo, vvo, ⟨tbno, tcoo, tdmo⟩, ⟨er0o, er1o, er2o, er3o, er4o, er5o⟩, hvvo, hrro, ⟨yy0o, yy1o, yy2o, yy3o, yy4o, yy5o, yy6o, yy7o⟩, ll0o, ll1o, ll2o, ll3o⟩ := hpq1
  have excno : h.2.2.2.2 pic 7 = .int (zi (vvo 0)) := hvvo (0, 7, 0) (by decide)
  have rrcno : 0 ≤ vvo 0 ∧ vvo 0 ≤ 3 := hrro (0, 0, 3) (by decide)
  have exuco : h.2.2.2.2 pic 12 = .int (zi (vvo 1)) := hvvo (0, 12, 1) (by decide)
  have rruco : 0 ≤ vvo 1 ∧ vvo 1 ≤ 8 := hrro (1, 0, 8) (by decide)
  have exuro : h.2.2.2.2 pic 13 = .int (zi (vvo 2)) := hvvo (0, 13, 2) (by decide)
  have rruro : 0 ≤ vvo 2 ∧ vvo 2 ≤ 8 := hrro (2, 0, 8) (by decide)
  have exblo : h.2.2.2.2 pic 8 = .int (zi (vvo 3)) := hvvo (0, 8, 3) (by decide)
  have rrblo : 0 ≤ vvo 3 ∧ vvo 3 ≤ 192 := hrro (3, 0, 192) (by decide)
  have exwo : h.2.2.2.2 pic 5 = .int (zi (vvo 4)) := hvvo (0, 5, 4) (by decide)
  have rrwo : 0 ≤ vvo 4 ∧ vvo 4 ≤ 64 := hrro (4, 0, 64) (by decide)
  have exhho : h.2.2.2.2 pic 6 = .int (zi (vvo 5)) := hvvo (0, 6, 5) (by decide)
  have rrhho : 0 ≤ vvo 5 ∧ vvo 5 ≤ 64 := hrro (5, 0, 64) (by decide)
  have exgho : h.2.2.2.2 pic 10 = .int (zi (vvo 6)) := hvvo (0, 10, 6) (by decide)
  have rrgho : 1 ≤ vvo 6 ∧ vvo 6 ≤ 2 := hrro (6, 1, 2) (by decide)
  have exgvo : h.2.2.2.2 pic 11 = .int (zi (vvo 7)) := hvvo (0, 11, 7) (by decide)
  have rrgvo : 1 ≤ vvo 7 ∧ vvo 7 ≤ 2 := hrro (7, 1, 2) (by decide)
  have exhb0o : h.2.2.2.2 b0 1 = .int (zi (vvo 8)) := hvvo (1, 1, 8) (by decide)
  have rrhb0o : (-1) ≤ vvo 8 ∧ vvo 8 ≤ 15 := hrro (8, (-1), 15) (by decide)
  have exvb0o : h.2.2.2.2 b0 2 = .int (zi (vvo 9)) := hvvo (1, 2, 9) (by decide)
  have rrvb0o : 0 ≤ vvo 9 ∧ vvo 9 ≤ 15 := hrro (9, 0, 15) (by decide)
  have extq0o : h.2.2.2.2 b0 3 = .int (zi (vvo 10)) := hvvo (1, 3, 10) (by decide)
  have rrtq0o : (-1) ≤ vvo 10 ∧ vvo 10 ≤ 255 := hrro (10, (-1), 255) (by decide)
  have exC0o : h.2.2.2.2 b0 4 = .int (zi (vvo 11)) := hvvo (1, 4, 11) (by decide)
  have rrC0o : 0 ≤ vvo 11 ∧ vvo 11 ≤ 16 := hrro (11, 0, 16) (by decide)
  have exR0o : h.2.2.2.2 b0 5 = .int (zi (vvo 12)) := hvvo (1, 5, 12) (by decide)
  have rrR0o : 0 ≤ vvo 12 ∧ vvo 12 ≤ 16 := hrro (12, 0, 16) (by decide)
  have exoc0o : h.2.2.2.2 b0 6 = .int (zi (vvo 13)) := hvvo (1, 6, 13) (by decide)
  have rroc0o : 0 ≤ vvo 13 ∧ vvo 13 ≤ 16 := hrro (13, 0, 16) (by decide)
  have exor0o : h.2.2.2.2 b0 7 = .int (zi (vvo 14)) := hvvo (1, 7, 14) (by decide)
  have rror0o : 0 ≤ vvo 14 ∧ vvo 14 ≤ 16 := hrro (14, 0, 16) (by decide)
  have exf0o : h.2.2.2.2 b0 8 = .int (zi (vvo 15)) := hvvo (1, 8, 15) (by decide)
  have rrf0o : 0 ≤ vvo 15 ∧ vvo 15 ≤ 192 := hrro (15, 0, 192) (by decide)
  have exhb1o : h.2.2.2.2 b1 1 = .int (zi (vvo 16)) := hvvo (2, 1, 16) (by decide)
  have rrhb1o : (-1) ≤ vvo 16 ∧ vvo 16 ≤ 15 := hrro (16, (-1), 15) (by decide)
  have exvb1o : h.2.2.2.2 b1 2 = .int (zi (vvo 17)) := hvvo (2, 2, 17) (by decide)
  have rrvb1o : 0 ≤ vvo 17 ∧ vvo 17 ≤ 15 := hrro (17, 0, 15) (by decide)
  have extq1o : h.2.2.2.2 b1 3 = .int (zi (vvo 18)) := hvvo (2, 3, 18) (by decide)
  have rrtq1o : (-1) ≤ vvo 18 ∧ vvo 18 ≤ 255 := hrro (18, (-1), 255) (by decide)
  have exC1o : h.2.2.2.2 b1 4 = .int (zi (vvo 19)) := hvvo (2, 4, 19) (by decide)
  have rrC1o : 0 ≤ vvo 19 ∧ vvo 19 ≤ 16 := hrro (19, 0, 16) (by decide)
  have exR1o : h.2.2.2.2 b1 5 = .int (zi (vvo 20)) := hvvo (2, 5, 20) (by decide)
  have rrR1o : 0 ≤ vvo 20 ∧ vvo 20 ≤ 16 := hrro (20, 0, 16) (by decide)
  have exoc1o : h.2.2.2.2 b1 6 = .int (zi (vvo 21)) := hvvo (2, 6, 21) (by decide)
  have rroc1o : 0 ≤ vvo 21 ∧ vvo 21 ≤ 16 := hrro (21, 0, 16) (by decide)
  have exor1o : h.2.2.2.2 b1 7 = .int (zi (vvo 22)) := hvvo (2, 7, 22) (by decide)
  have rror1o : 0 ≤ vvo 22 ∧ vvo 22 ≤ 16 := hrro (22, 0, 16) (by decide)
  have exf1o : h.2.2.2.2 b1 8 = .int (zi (vvo 23)) := hvvo (2, 8, 23) (by decide)
  have rrf1o : 0 ≤ vvo 23 ∧ vvo 23 ≤ 192 := hrro (23, 0, 192) (by decide)
  have exhb2o : h.2.2.2.2 b2 1 = .int (zi (vvo 24)) := hvvo (3, 1, 24) (by decide)
  have rrhb2o : (-1) ≤ vvo 24 ∧ vvo 24 ≤ 15 := hrro (24, (-1), 15) (by decide)
  have exvb2o : h.2.2.2.2 b2 2 = .int (zi (vvo 25)) := hvvo (3, 2, 25) (by decide)
  have rrvb2o : 0 ≤ vvo 25 ∧ vvo 25 ≤ 15 := hrro (25, 0, 15) (by decide)
  have extq2o : h.2.2.2.2 b2 3 = .int (zi (vvo 26)) := hvvo (3, 3, 26) (by decide)
  have rrtq2o : (-1) ≤ vvo 26 ∧ vvo 26 ≤ 255 := hrro (26, (-1), 255) (by decide)
  have exC2o : h.2.2.2.2 b2 4 = .int (zi (vvo 27)) := hvvo (3, 4, 27) (by decide)
  have rrC2o : 0 ≤ vvo 27 ∧ vvo 27 ≤ 16 := hrro (27, 0, 16) (by decide)
  have exR2o : h.2.2.2.2 b2 5 = .int (zi (vvo 28)) := hvvo (3, 5, 28) (by decide)
  have rrR2o : 0 ≤ vvo 28 ∧ vvo 28 ≤ 16 := hrro (28, 0, 16) (by decide)
  have exoc2o : h.2.2.2.2 b2 6 = .int (zi (vvo 29)) := hvvo (3, 6, 29) (by decide)
  have rroc2o : 0 ≤ vvo 29 ∧ vvo 29 ≤ 16 := hrro (29, 0, 16) (by decide)
  have exor2o : h.2.2.2.2 b2 7 = .int (zi (vvo 30)) := hvvo (3, 7, 30) (by decide)
  have rror2o : 0 ≤ vvo 30 ∧ vvo 30 ≤ 16 := hrro (30, 0, 16) (by decide)
  have exf2o : h.2.2.2.2 b2 8 = .int (zi (vvo 31)) := hvvo (3, 8, 31) (by decide)
  have rrf2o : 0 ≤ vvo 31 ∧ vvo 31 ≤ 192 := hrro (31, 0, 192) (by decide)
  refine gz_s 1 (pc' := 1) (L' := [some (.ref x), some (.int (zi a)), some (.int (zi b)), none]) (S' := [.int (zi a)]) rfl ?_
  have jn2 : ∀ (jn2v0 : Int), ((3 ≤ jn2v0) ∧ (jn2v0 ≤ 6) ∧ (a < 0 → jn2v0 = 6) ∧ (0 ≤ a → jn2v0 = 3)) → gz gPP gGG gcn (d + 2) gt81 10 [some (.ref x), some (.int (zi a)), some (.int (zi b)), none] [.int (zi jn2v0)] h (fun q _ => ∃ ty9 : Nat → Nat, gSg [] [] [] ty h ty9 q.2.2 ∧ ∃ ld1 lb1 iv1 : Int, 0 ≤ ld1 ∧ ld1 ≤ 192 ∧ 1024 ≤ lb1 ∧ lb1 ≤ 1000000 ∧ 0 ≤ iv1 ∧ iv1 ≤ 2058 ∧ (gIx ty9 x ld1 lb1 iv1 q.2.2) ∧ ((∃ z : Int, gfin gt81 q.1 q.2.1 = some (some (.int (zi z))) ∧ (-2147483648) ≤ z ∧ z ≤ 2147483647 ∧ (iv1 = iv) ∧ (1024 * (((q.2.2.1 : Int) - h.1) - 31 - 2 * (ld1 - ld)) ≤ lb1 - lb) ∧ (((q.2.2.2.1 : Int) - h.2.1) ≤ 4303 + 12480 * (ld1 - ld) + 2 * (lb1 - lb)) ∧ (ld ≤ ld1) ∧ (lb ≤ lb1)) ∨ (q.2.1 = [] ∧ ((q.1 = 36)) ∧ (iv1 = iv) ∧ (1024 * (((q.2.2.1 : Int) - h.1) - 31 - 2 * (ld1 - ld)) ≤ lb1 - lb) ∧ (((q.2.2.2.1 : Int) - h.2.1) ≤ 4303 + 12480 * (ld1 - ld) + 2 * (lb1 - lb)) ∧ (ld ≤ ld1) ∧ (lb ≤ lb1)))) := by
    intro jn2v0 jn2d
    refine gz_s 3 (pc' := 13) (L' := [some (.ref x), some (.int (zi a)), some (.int (zi b)), some (.int (zi jn2v0))]) (S' := [.int (zi (-1)), .int (zi a)]) rfl ?_
    by_cases hc3 : (a : Int) < (-1)
    · refine gy_icT (pc' := 36) rfl (by decide) (by decide) (by omega) (by omega) hc3 ?_
      have hl4 : 1024 ≤ h.2.2.2.1 bt ∧ h.2.2.2.1 bt ≤ 1000000 := gJ.rowl (G := gGG) hS.1 tbt rfl
      have hl5 : 0 ≤ h.2.2.2.1 coo ∧ h.2.2.2.1 coo ≤ 12288 := gJ.rowl (G := gGG) hS.1 tcoo rfl
      have hl6 : 0 ≤ h.2.2.2.1 dmo ∧ h.2.2.2.1 dmo ≤ 192 := gJ.rowl (G := gGG) hS.1 tdmo rfl
      have hix7 : gIx ty x ld (h.2.2.2.1 bt : Int) (64 * dw + n0) h := ⟨pic, b0, b1, b2, dr, sk, bt, n0, c0, i0, dw, ⟨tx, tdr, tsk, tbt⟩, ⟨ex2, ex3, ex4, ex0⟩, hpc, htc, ⟨en0, by omega, by omega⟩, ⟨eiv, by omega, by omega⟩, ⟨ec0, by omega, by omega⟩, ⟨by omega, by omega⟩, hrr, hrw, ⟨edw, by omega, by omega⟩, rfl⟩
      have G8 : gSg [] [] [] ty h ty h := gSg.ss G0 hS (by decide)
      exact gz_end (I := .new 84) (len := 3) rfl (Or.inr (by decide)) ⟨ty, G8, ld, (h.2.2.2.1 bt : Int), (64 * dw + n0), (by omega), (by omega), (by omega), (by omega), (by omega), (by omega), hix7, Or.inr ⟨rfl, rfl, (by omega), (by dsimp only; omega), (by dsimp only; omega), (by omega), (by omega)⟩⟩
    · refine gy_icF rfl (by decide) (by decide) (by omega) (by omega) hc3 ?_
      refine gz_s 2 (pc' := 18) (L' := [some (.ref x), some (.int (zi a)), some (.int (zi b)), some (.int (zi jn2v0))]) (S' := [.ref x, .int (zi a)]) rfl ?_
      refine gs_gtk rfl (by decide) rfl hS.1 tx rfl rfl ex2 ?_
      refine gs_gtk rfl (by decide) rfl hS.1 tpic rfl rfl exblo ?_
      by_cases hc9 : (vvo 3 : Int) ≤ a
      · refine gy_icT (pc' := 36) rfl (by decide) (by decide) (by omega) (by omega) hc9 ?_
        have hl10 : 1024 ≤ h.2.2.2.1 bt ∧ h.2.2.2.1 bt ≤ 1000000 := gJ.rowl (G := gGG) hS.1 tbt rfl
        have hl11 : 0 ≤ h.2.2.2.1 coo ∧ h.2.2.2.1 coo ≤ 12288 := gJ.rowl (G := gGG) hS.1 tcoo rfl
        have hl12 : 0 ≤ h.2.2.2.1 dmo ∧ h.2.2.2.1 dmo ≤ 192 := gJ.rowl (G := gGG) hS.1 tdmo rfl
        have hix13 : gIx ty x ld (h.2.2.2.1 bt : Int) (64 * dw + n0) h := ⟨pic, b0, b1, b2, dr, sk, bt, n0, c0, i0, dw, ⟨tx, tdr, tsk, tbt⟩, ⟨ex2, ex3, ex4, ex0⟩, hpc, htc, ⟨en0, by omega, by omega⟩, ⟨eiv, by omega, by omega⟩, ⟨ec0, by omega, by omega⟩, ⟨by omega, by omega⟩, hrr, hrw, ⟨edw, by omega, by omega⟩, rfl⟩
        have G14 : gSg [] [] [] ty h ty h := gSg.ss G0 hS (by decide)
        exact gz_end (I := .new 84) (len := 3) rfl (Or.inr (by decide)) ⟨ty, G14, ld, (h.2.2.2.1 bt : Int), (64 * dw + n0), (by omega), (by omega), (by omega), (by omega), (by omega), (by omega), hix13, Or.inr ⟨rfl, rfl, (by omega), (by dsimp only; omega), (by dsimp only; omega), (by omega), (by omega)⟩⟩
      · refine gy_icF rfl (by decide) (by decide) (by omega) (by omega) hc9 ?_
        refine gz_s 1 (pc' := 28) (L' := [some (.ref x), some (.int (zi a)), some (.int (zi b)), some (.int (zi jn2v0))]) (S' := [.int (zi b)]) rfl ?_
        by_cases hc15 : (b : Int) < 0
        · refine gy_ifT (pc' := 36) rfl (by decide) (by decide) (by omega) hc15 ?_
          have hl16 : 1024 ≤ h.2.2.2.1 bt ∧ h.2.2.2.1 bt ≤ 1000000 := gJ.rowl (G := gGG) hS.1 tbt rfl
          have hl17 : 0 ≤ h.2.2.2.1 coo ∧ h.2.2.2.1 coo ≤ 12288 := gJ.rowl (G := gGG) hS.1 tcoo rfl
          have hl18 : 0 ≤ h.2.2.2.1 dmo ∧ h.2.2.2.1 dmo ≤ 192 := gJ.rowl (G := gGG) hS.1 tdmo rfl
          have hix19 : gIx ty x ld (h.2.2.2.1 bt : Int) (64 * dw + n0) h := ⟨pic, b0, b1, b2, dr, sk, bt, n0, c0, i0, dw, ⟨tx, tdr, tsk, tbt⟩, ⟨ex2, ex3, ex4, ex0⟩, hpc, htc, ⟨en0, by omega, by omega⟩, ⟨eiv, by omega, by omega⟩, ⟨ec0, by omega, by omega⟩, ⟨by omega, by omega⟩, hrr, hrw, ⟨edw, by omega, by omega⟩, rfl⟩
          have G20 : gSg [] [] [] ty h ty h := gSg.ss G0 hS (by decide)
          exact gz_end (I := .new 84) (len := 3) rfl (Or.inr (by decide)) ⟨ty, G20, ld, (h.2.2.2.1 bt : Int), (64 * dw + n0), (by omega), (by omega), (by omega), (by omega), (by omega), (by omega), hix19, Or.inr ⟨rfl, rfl, (by omega), (by dsimp only; omega), (by dsimp only; omega), (by omega), (by omega)⟩⟩
        · refine gy_ifF rfl (by decide) (by decide) (by omega) hc15 ?_
          refine gz_s 2 (pc' := 33) (L' := [some (.ref x), some (.int (zi a)), some (.int (zi b)), some (.int (zi jn2v0))]) (S' := [.int (zi jn2v0), .int (zi b)]) rfl ?_
          by_cases hc21 : (b : Int) ≤ jn2v0
          · refine gy_icT (pc' := 46) rfl (by decide) (by decide) (by omega) (by omega) hc21 ?_
            refine gz_s 1 (pc' := 47) (L' := [some (.ref x), some (.int (zi a)), some (.int (zi b)), some (.int (zi jn2v0))]) (S' := [.int (zi a)]) rfl ?_
            by_cases hc22 : (0 : Int) ≤ a
            · refine gy_ifT (pc' := 75) rfl (by decide) (by decide) (by omega) hc22 ?_
              refine gz_s 1 (pc' := 76) (L' := [some (.ref x), some (.int (zi a)), some (.int (zi b)), some (.int (zi jn2v0))]) (S' := [.ref x]) rfl ?_
              refine gs_gtk rfl (by decide) rfl hS.1 tx rfl rfl ex2 ?_
              refine gz_s 2 (pc' := 81) (L' := [some (.ref x), some (.int (zi a)), some (.int (zi b)), some (.int (zi jn2v0))]) (S' := [.int (zi b), .int (zi a), .ref pic]) rfl ?_
              have hl23 : h.2.2.2.1 dmo = h.2.2.2.1 dmo := congrFun hS.2.2.2.2.1 dmo
              refine gz_call rfl (by decide) rfl (by decide) (by decide) (gcal_of rfl rfl rfl (Nat.le_of_ble_eq_true rfl) (gJ.recv (G := gGG) hS.1 tpic rfl rfl)) (cl_Picture_toldOfBlock _ hS.1 pic tpic a ⟨by omega, by omega⟩ b ⟨by omega, by omega⟩ bno er0o tbno b0 er1o tb0 b1 er2o tb1 b2 er3o tb2 dmo er5o tdmo (vvo 0) excno ⟨by omega, by omega⟩ (vvo 3) exblo ⟨by omega, by omega⟩ (by omega) (by omega) uq) (fun q24 _ wq24 => ?_)
              obtain ⟨pq24, oq24, hq24⟩ := q24
              obtain ⟨xq24, zq24, gq24, aq24, bq24⟩ := wq24
              refine ⟨_, gq24, ?_⟩
              show gz gPP gGG gcn _ _ 84 [some (.ref x), some (.int (zi a)), some (.int (zi b)), some (.int (zi jn2v0))] [.int (zi zq24)] hq24 _
              have sq24 : gSs rT 1027 ty [] h hq24 := gSs.tr hS xq24 (by decide)
              have s25 := (xq24.2.2.2.2.2 x 2 (by rw [tx]; decide)).trans ex2
              have s26 := (xq24.2.2.2.2.2 x 3 (by rw [tx]; decide)).trans ex3
              have s27 := (xq24.2.2.2.2.2 x 4 (by rw [tx]; decide)).trans ex4
              have s28 := (xq24.2.2.2.2.2 sk 0 (by rw [tsk]; decide)).trans ex0
              have s29 := (xq24.2.2.2.2.2 dr 8 (by rw [tdr]; decide)).trans en0
              have s30 := (xq24.2.2.2.2.2 dr 3 (by rw [tdr]; decide)).trans eiv
              have s31 := (xq24.2.2.2.2.2 dr 1 (by rw [tdr]; decide)).trans edw
              have s32 := (xq24.2.2.2.2.2 sk 1 (by rw [tsk]; decide)).trans ec0
              have s33 := (xq24.2.2.2.2.2 pic 0 (by rw [tpic]; decide)).trans er0o
              have s34 := (xq24.2.2.2.2.2 bno 0 (by rw [tbno]; decide)).trans er1o
              have s35 := (xq24.2.2.2.2.2 bno 1 (by rw [tbno]; decide)).trans er2o
              have s36 := (xq24.2.2.2.2.2 bno 2 (by rw [tbno]; decide)).trans er3o
              have s37 := (xq24.2.2.2.2.2 pic 2 (by rw [tpic]; decide)).trans er4o
              have s38 := (xq24.2.2.2.2.2 pic 3 (by rw [tpic]; decide)).trans er5o
              have s39 := (xq24.2.2.2.2.2 pic 7 (by rw [tpic]; decide)).trans excno
              have s40 := (xq24.2.2.2.2.2 pic 12 (by rw [tpic]; decide)).trans exuco
              have s41 := (xq24.2.2.2.2.2 pic 13 (by rw [tpic]; decide)).trans exuro
              have s42 := (xq24.2.2.2.2.2 pic 8 (by rw [tpic]; decide)).trans exblo
              have s43 := (xq24.2.2.2.2.2 pic 5 (by rw [tpic]; decide)).trans exwo
              have s44 := (xq24.2.2.2.2.2 pic 6 (by rw [tpic]; decide)).trans exhho
              have s45 := (xq24.2.2.2.2.2 pic 10 (by rw [tpic]; decide)).trans exgho
              have s46 := (xq24.2.2.2.2.2 pic 11 (by rw [tpic]; decide)).trans exgvo
              have s47 := (xq24.2.2.2.2.2 b0 1 (by rw [tb0]; decide)).trans exhb0o
              have s48 := (xq24.2.2.2.2.2 b0 2 (by rw [tb0]; decide)).trans exvb0o
              have s49 := (xq24.2.2.2.2.2 b0 3 (by rw [tb0]; decide)).trans extq0o
              have s50 := (xq24.2.2.2.2.2 b0 4 (by rw [tb0]; decide)).trans exC0o
              have s51 := (xq24.2.2.2.2.2 b0 5 (by rw [tb0]; decide)).trans exR0o
              have s52 := (xq24.2.2.2.2.2 b0 6 (by rw [tb0]; decide)).trans exoc0o
              have s53 := (xq24.2.2.2.2.2 b0 7 (by rw [tb0]; decide)).trans exor0o
              have s54 := (xq24.2.2.2.2.2 b0 8 (by rw [tb0]; decide)).trans exf0o
              have s55 := (xq24.2.2.2.2.2 b1 1 (by rw [tb1]; decide)).trans exhb1o
              have s56 := (xq24.2.2.2.2.2 b1 2 (by rw [tb1]; decide)).trans exvb1o
              have s57 := (xq24.2.2.2.2.2 b1 3 (by rw [tb1]; decide)).trans extq1o
              have s58 := (xq24.2.2.2.2.2 b1 4 (by rw [tb1]; decide)).trans exC1o
              have s59 := (xq24.2.2.2.2.2 b1 5 (by rw [tb1]; decide)).trans exR1o
              have s60 := (xq24.2.2.2.2.2 b1 6 (by rw [tb1]; decide)).trans exoc1o
              have s61 := (xq24.2.2.2.2.2 b1 7 (by rw [tb1]; decide)).trans exor1o
              have s62 := (xq24.2.2.2.2.2 b1 8 (by rw [tb1]; decide)).trans exf1o
              have s63 := (xq24.2.2.2.2.2 b2 1 (by rw [tb2]; decide)).trans exhb2o
              have s64 := (xq24.2.2.2.2.2 b2 2 (by rw [tb2]; decide)).trans exvb2o
              have s65 := (xq24.2.2.2.2.2 b2 3 (by rw [tb2]; decide)).trans extq2o
              have s66 := (xq24.2.2.2.2.2 b2 4 (by rw [tb2]; decide)).trans exC2o
              have s67 := (xq24.2.2.2.2.2 b2 5 (by rw [tb2]; decide)).trans exR2o
              have s68 := (xq24.2.2.2.2.2 b2 6 (by rw [tb2]; decide)).trans exoc2o
              have s69 := (xq24.2.2.2.2.2 b2 7 (by rw [tb2]; decide)).trans exor2o
              have s70 := (xq24.2.2.2.2.2 b2 8 (by rw [tb2]; decide)).trans exf2o
              have pr71 := gPC.fr xq24.2 (by decide) hpc
              have pr72 := gTc.fr xq24.2 (by decide) htc
              have pr73 := gRr.fr xq24.2 (by decide) hrr
              have pr74 := gRw.fr xq24.2 (by decide) hrw
              have k75 := sq24.2.1
              have k75b := sq24.2.2.1
              have hl76 : hq24.2.2.2.1 bt = h.2.2.2.1 bt := congrFun sq24.2.2.2.2.1 bt
              have hl77 : hq24.2.2.2.1 coo = h.2.2.2.1 coo := congrFun sq24.2.2.2.2.1 coo
              have hl78 : hq24.2.2.2.1 dmo = h.2.2.2.1 dmo := congrFun sq24.2.2.2.2.1 dmo
              have hl79 : 1024 ≤ hq24.2.2.2.1 bt ∧ hq24.2.2.2.1 bt ≤ 1000000 := gJ.rowl (G := gGG) sq24.1 tbt rfl
              have hl80 : 0 ≤ hq24.2.2.2.1 coo ∧ hq24.2.2.2.1 coo ≤ 12288 := gJ.rowl (G := gGG) sq24.1 tcoo rfl
              have hl81 : 0 ≤ hq24.2.2.2.1 dmo ∧ hq24.2.2.2.1 dmo ≤ 192 := gJ.rowl (G := gGG) sq24.1 tdmo rfl
              have k82 := sq24.2.1
              have k82b := sq24.2.2.1
              have hl83 : hq24.2.2.2.1 bt = h.2.2.2.1 bt := congrFun sq24.2.2.2.2.1 bt
              have hl84 : hq24.2.2.2.1 coo = h.2.2.2.1 coo := congrFun sq24.2.2.2.2.1 coo
              have hl85 : hq24.2.2.2.1 dmo = h.2.2.2.1 dmo := congrFun sq24.2.2.2.2.1 dmo
              have hix86 : gIx ty x ld (hq24.2.2.2.1 bt : Int) (64 * dw + n0) hq24 := ⟨pic, b0, b1, b2, dr, sk, bt, n0, c0, i0, dw, ⟨tx, tdr, tsk, tbt⟩, ⟨s25, s26, s27, s28⟩, pr71, pr72, ⟨s29, by omega, by omega⟩, ⟨s30, by omega, by omega⟩, ⟨s32, by omega, by omega⟩, ⟨by omega, by omega⟩, pr73, pr74, ⟨s31, by omega, by omega⟩, rfl⟩
              have G87 : gSg [] [] [] ty h ty hq24 := gSg.ss G0 sq24 (by decide)
              exact gz_end (I := .ireturn) (len := 1) rfl (Or.inl rfl) ⟨ty, G87, ld, (hq24.2.2.2.1 bt : Int), (64 * dw + n0), (by omega), (by omega), (by omega), (by omega), (by omega), (by omega), hix86, Or.inl ⟨zq24, rfl, (by omega), (by omega), (by omega), (by dsimp only; omega), (by dsimp only; omega), (by omega), (by omega)⟩⟩
            · refine gy_ifF rfl (by decide) (by decide) (by omega) hc22 ?_
              refine gz_s 2 (pc' := 53) (L' := [some (.ref x), some (.int (zi a)), some (.int (zi b)), some (.int (zi jn2v0))]) (S' := [.int (zi 6), .int (zi b)]) rfl ?_
              by_cases hc88 : ¬ (b : Int) = 6
              · refine gy_icT (pc' := 66) rfl (by decide) (by decide) (by omega) (by omega) hc88 ?_
                refine gz_s 1 (pc' := 67) (L' := [some (.ref x), some (.int (zi a)), some (.int (zi b)), some (.int (zi jn2v0))]) (S' := [.ref x]) rfl ?_
                refine gs_gtk rfl (by decide) rfl hS.1 tx rfl rfl ex2 ?_
                refine gz_s 1 (pc' := 71) (L' := [some (.ref x), some (.int (zi a)), some (.int (zi b)), some (.int (zi jn2v0))]) (S' := [.int (zi b), .ref pic]) rfl ?_
                have hl89 : h.2.2.2.1 dmo = h.2.2.2.1 dmo := congrFun hS.2.2.2.2.1 dmo
                refine gz_call rfl (by decide) rfl (by decide) (by decide) (gcal_of rfl rfl rfl (Nat.le_of_ble_eq_true rfl) (gJ.recv (G := gGG) hS.1 tpic rfl rfl)) (cl_Picture_toldOfAll _ hS.1 pic tpic b ⟨by omega, by omega⟩ dmo er5o tdmo (vvo 3) exblo ⟨by omega, by omega⟩ (by omega) uq) (fun q90 _ wq90 => ?_)
                obtain ⟨pq90, oq90, hq90⟩ := q90
                obtain ⟨xq90, zq90, gq90, aq90, bq90⟩ := wq90
                refine ⟨_, gq90, ?_⟩
                show gz gPP gGG gcn _ _ 74 [some (.ref x), some (.int (zi a)), some (.int (zi b)), some (.int (zi jn2v0))] [.int (zi zq90)] hq90 _
                have sq90 : gSs rT 1027 ty [] h hq90 := gSs.tr hS xq90 (by decide)
                have s91 := (xq90.2.2.2.2.2 x 2 (by rw [tx]; decide)).trans ex2
                have s92 := (xq90.2.2.2.2.2 x 3 (by rw [tx]; decide)).trans ex3
                have s93 := (xq90.2.2.2.2.2 x 4 (by rw [tx]; decide)).trans ex4
                have s94 := (xq90.2.2.2.2.2 sk 0 (by rw [tsk]; decide)).trans ex0
                have s95 := (xq90.2.2.2.2.2 dr 8 (by rw [tdr]; decide)).trans en0
                have s96 := (xq90.2.2.2.2.2 dr 3 (by rw [tdr]; decide)).trans eiv
                have s97 := (xq90.2.2.2.2.2 dr 1 (by rw [tdr]; decide)).trans edw
                have s98 := (xq90.2.2.2.2.2 sk 1 (by rw [tsk]; decide)).trans ec0
                have s99 := (xq90.2.2.2.2.2 pic 0 (by rw [tpic]; decide)).trans er0o
                have s100 := (xq90.2.2.2.2.2 bno 0 (by rw [tbno]; decide)).trans er1o
                have s101 := (xq90.2.2.2.2.2 bno 1 (by rw [tbno]; decide)).trans er2o
                have s102 := (xq90.2.2.2.2.2 bno 2 (by rw [tbno]; decide)).trans er3o
                have s103 := (xq90.2.2.2.2.2 pic 2 (by rw [tpic]; decide)).trans er4o
                have s104 := (xq90.2.2.2.2.2 pic 3 (by rw [tpic]; decide)).trans er5o
                have s105 := (xq90.2.2.2.2.2 pic 7 (by rw [tpic]; decide)).trans excno
                have s106 := (xq90.2.2.2.2.2 pic 12 (by rw [tpic]; decide)).trans exuco
                have s107 := (xq90.2.2.2.2.2 pic 13 (by rw [tpic]; decide)).trans exuro
                have s108 := (xq90.2.2.2.2.2 pic 8 (by rw [tpic]; decide)).trans exblo
                have s109 := (xq90.2.2.2.2.2 pic 5 (by rw [tpic]; decide)).trans exwo
                have s110 := (xq90.2.2.2.2.2 pic 6 (by rw [tpic]; decide)).trans exhho
                have s111 := (xq90.2.2.2.2.2 pic 10 (by rw [tpic]; decide)).trans exgho
                have s112 := (xq90.2.2.2.2.2 pic 11 (by rw [tpic]; decide)).trans exgvo
                have s113 := (xq90.2.2.2.2.2 b0 1 (by rw [tb0]; decide)).trans exhb0o
                have s114 := (xq90.2.2.2.2.2 b0 2 (by rw [tb0]; decide)).trans exvb0o
                have s115 := (xq90.2.2.2.2.2 b0 3 (by rw [tb0]; decide)).trans extq0o
                have s116 := (xq90.2.2.2.2.2 b0 4 (by rw [tb0]; decide)).trans exC0o
                have s117 := (xq90.2.2.2.2.2 b0 5 (by rw [tb0]; decide)).trans exR0o
                have s118 := (xq90.2.2.2.2.2 b0 6 (by rw [tb0]; decide)).trans exoc0o
                have s119 := (xq90.2.2.2.2.2 b0 7 (by rw [tb0]; decide)).trans exor0o
                have s120 := (xq90.2.2.2.2.2 b0 8 (by rw [tb0]; decide)).trans exf0o
                have s121 := (xq90.2.2.2.2.2 b1 1 (by rw [tb1]; decide)).trans exhb1o
                have s122 := (xq90.2.2.2.2.2 b1 2 (by rw [tb1]; decide)).trans exvb1o
                have s123 := (xq90.2.2.2.2.2 b1 3 (by rw [tb1]; decide)).trans extq1o
                have s124 := (xq90.2.2.2.2.2 b1 4 (by rw [tb1]; decide)).trans exC1o
                have s125 := (xq90.2.2.2.2.2 b1 5 (by rw [tb1]; decide)).trans exR1o
                have s126 := (xq90.2.2.2.2.2 b1 6 (by rw [tb1]; decide)).trans exoc1o
                have s127 := (xq90.2.2.2.2.2 b1 7 (by rw [tb1]; decide)).trans exor1o
                have s128 := (xq90.2.2.2.2.2 b1 8 (by rw [tb1]; decide)).trans exf1o
                have s129 := (xq90.2.2.2.2.2 b2 1 (by rw [tb2]; decide)).trans exhb2o
                have s130 := (xq90.2.2.2.2.2 b2 2 (by rw [tb2]; decide)).trans exvb2o
                have s131 := (xq90.2.2.2.2.2 b2 3 (by rw [tb2]; decide)).trans extq2o
                have s132 := (xq90.2.2.2.2.2 b2 4 (by rw [tb2]; decide)).trans exC2o
                have s133 := (xq90.2.2.2.2.2 b2 5 (by rw [tb2]; decide)).trans exR2o
                have s134 := (xq90.2.2.2.2.2 b2 6 (by rw [tb2]; decide)).trans exoc2o
                have s135 := (xq90.2.2.2.2.2 b2 7 (by rw [tb2]; decide)).trans exor2o
                have s136 := (xq90.2.2.2.2.2 b2 8 (by rw [tb2]; decide)).trans exf2o
                have pr137 := gPC.fr xq90.2 (by decide) hpc
                have pr138 := gTc.fr xq90.2 (by decide) htc
                have pr139 := gRr.fr xq90.2 (by decide) hrr
                have pr140 := gRw.fr xq90.2 (by decide) hrw
                have k141 := sq90.2.1
                have k141b := sq90.2.2.1
                have hl142 : hq90.2.2.2.1 bt = h.2.2.2.1 bt := congrFun sq90.2.2.2.2.1 bt
                have hl143 : hq90.2.2.2.1 coo = h.2.2.2.1 coo := congrFun sq90.2.2.2.2.1 coo
                have hl144 : hq90.2.2.2.1 dmo = h.2.2.2.1 dmo := congrFun sq90.2.2.2.2.1 dmo
                have hl145 : 1024 ≤ hq90.2.2.2.1 bt ∧ hq90.2.2.2.1 bt ≤ 1000000 := gJ.rowl (G := gGG) sq90.1 tbt rfl
                have hl146 : 0 ≤ hq90.2.2.2.1 coo ∧ hq90.2.2.2.1 coo ≤ 12288 := gJ.rowl (G := gGG) sq90.1 tcoo rfl
                have hl147 : 0 ≤ hq90.2.2.2.1 dmo ∧ hq90.2.2.2.1 dmo ≤ 192 := gJ.rowl (G := gGG) sq90.1 tdmo rfl
                have k148 := sq90.2.1
                have k148b := sq90.2.2.1
                have hl149 : hq90.2.2.2.1 bt = h.2.2.2.1 bt := congrFun sq90.2.2.2.2.1 bt
                have hl150 : hq90.2.2.2.1 coo = h.2.2.2.1 coo := congrFun sq90.2.2.2.2.1 coo
                have hl151 : hq90.2.2.2.1 dmo = h.2.2.2.1 dmo := congrFun sq90.2.2.2.2.1 dmo
                have hix152 : gIx ty x ld (hq90.2.2.2.1 bt : Int) (64 * dw + n0) hq90 := ⟨pic, b0, b1, b2, dr, sk, bt, n0, c0, i0, dw, ⟨tx, tdr, tsk, tbt⟩, ⟨s91, s92, s93, s94⟩, pr137, pr138, ⟨s95, by omega, by omega⟩, ⟨s96, by omega, by omega⟩, ⟨s98, by omega, by omega⟩, ⟨by omega, by omega⟩, pr139, pr140, ⟨s97, by omega, by omega⟩, rfl⟩
                have G153 : gSg [] [] [] ty h ty hq90 := gSg.ss G0 sq90 (by decide)
                exact gz_end (I := .ireturn) (len := 1) rfl (Or.inl rfl) ⟨ty, G153, ld, (hq90.2.2.2.1 bt : Int), (64 * dw + n0), (by omega), (by omega), (by omega), (by omega), (by omega), (by omega), hix152, Or.inl ⟨zq90, rfl, (by omega), (by omega), (by omega), (by dsimp only; omega), (by dsimp only; omega), (by omega), (by omega)⟩⟩
              · refine gy_icF rfl (by decide) (by decide) (by omega) (by omega) hc88 ?_
                refine gz_s 1 (pc' := 57) (L' := [some (.ref x), some (.int (zi a)), some (.int (zi b)), some (.int (zi jn2v0))]) (S' := [.ref x]) rfl ?_
                refine gs_gtk rfl (by decide) rfl hS.1 tx rfl rfl ex4 ?_
                refine gs_gtk rfl (by decide) rfl hS.1 tsk rfl rfl ec0 ?_
                refine gz_s 1 (pc' := 74) (L' := [some (.ref x), some (.int (zi a)), some (.int (zi b)), some (.int (zi jn2v0))]) (S' := [.int (zi c0)]) rfl ?_
                have hl154 : 1024 ≤ h.2.2.2.1 bt ∧ h.2.2.2.1 bt ≤ 1000000 := gJ.rowl (G := gGG) hS.1 tbt rfl
                have hl155 : 0 ≤ h.2.2.2.1 coo ∧ h.2.2.2.1 coo ≤ 12288 := gJ.rowl (G := gGG) hS.1 tcoo rfl
                have hl156 : 0 ≤ h.2.2.2.1 dmo ∧ h.2.2.2.1 dmo ≤ 192 := gJ.rowl (G := gGG) hS.1 tdmo rfl
                have hix157 : gIx ty x ld (h.2.2.2.1 bt : Int) (64 * dw + n0) h := ⟨pic, b0, b1, b2, dr, sk, bt, n0, c0, i0, dw, ⟨tx, tdr, tsk, tbt⟩, ⟨ex2, ex3, ex4, ex0⟩, hpc, htc, ⟨en0, by omega, by omega⟩, ⟨eiv, by omega, by omega⟩, ⟨ec0, by omega, by omega⟩, ⟨by omega, by omega⟩, hrr, hrw, ⟨edw, by omega, by omega⟩, rfl⟩
                have G158 : gSg [] [] [] ty h ty h := gSg.ss G0 hS (by decide)
                exact gz_end (I := .ireturn) (len := 1) rfl (Or.inl rfl) ⟨ty, G158, ld, (h.2.2.2.1 bt : Int), (64 * dw + n0), (by omega), (by omega), (by omega), (by omega), (by omega), (by omega), hix157, Or.inl ⟨c0, rfl, (by omega), (by omega), (by omega), (by dsimp only; omega), (by dsimp only; omega), (by omega), (by omega)⟩⟩
          · refine gy_icF rfl (by decide) (by decide) (by omega) (by omega) hc21 ?_
            have hl159 : 1024 ≤ h.2.2.2.1 bt ∧ h.2.2.2.1 bt ≤ 1000000 := gJ.rowl (G := gGG) hS.1 tbt rfl
            have hl160 : 0 ≤ h.2.2.2.1 coo ∧ h.2.2.2.1 coo ≤ 12288 := gJ.rowl (G := gGG) hS.1 tcoo rfl
            have hl161 : 0 ≤ h.2.2.2.1 dmo ∧ h.2.2.2.1 dmo ≤ 192 := gJ.rowl (G := gGG) hS.1 tdmo rfl
            have hix162 : gIx ty x ld (h.2.2.2.1 bt : Int) (64 * dw + n0) h := ⟨pic, b0, b1, b2, dr, sk, bt, n0, c0, i0, dw, ⟨tx, tdr, tsk, tbt⟩, ⟨ex2, ex3, ex4, ex0⟩, hpc, htc, ⟨en0, by omega, by omega⟩, ⟨eiv, by omega, by omega⟩, ⟨ec0, by omega, by omega⟩, ⟨by omega, by omega⟩, hrr, hrw, ⟨edw, by omega, by omega⟩, rfl⟩
            have G163 : gSg [] [] [] ty h ty h := gSg.ss G0 hS (by decide)
            exact gz_end (I := .new 84) (len := 3) rfl (Or.inr (by decide)) ⟨ty, G163, ld, (h.2.2.2.1 bt : Int), (64 * dw + n0), (by omega), (by omega), (by omega), (by omega), (by omega), (by omega), hix162, Or.inr ⟨rfl, rfl, (by omega), (by dsimp only; omega), (by dsimp only; omega), (by omega), (by omega)⟩⟩
  by_cases hc164 : (0 : Int) ≤ a
  · refine gy_ifT (pc' := 9) rfl (by decide) (by decide) (by omega) hc164 ?_
    refine gz_s 1 (pc' := 10) (L' := [some (.ref x), some (.int (zi a)), some (.int (zi b)), none]) (S' := [.int (zi 3)]) rfl ?_
    exact jn2 3 (by omega)
  · refine gy_ifF rfl (by decide) (by decide) (by omega) hc164 ?_
    refine gz_s 2 (pc' := 10) (L' := [some (.ref x), some (.int (zi a)), some (.int (zi b)), none]) (S' := [.int (zi 6)]) rfl ?_
    exact jn2 6 (by omega)
set_option maxRecDepth 20000 in
set_option maxHeartbeats 4000000 in
theorem cl_DctFilter_table (d : Nat) {ty : Nat → Nat} {h : gH} (hJ : gJ rT 1027 ty h) (x : Nat) (tx : ty x = 50) (a : Int) (ra : (-2147483648) ≤ a ∧ a ≤ 2147483647) (b : Int) (rb : (-2147483648) ≤ b ∧ b ≤ 2147483647) (v : Int) (rv : (-2147483648) ≤ v ∧ v ≤ 2147483647) (ld : Int) (rld : 0 ≤ ld ∧ ld ≤ 192) (lb : Int) (rlb : 1024 ≤ lb ∧ lb ≤ 1000000) (iv : Int) (riv : 0 ≤ iv ∧ iv ≤ 2058) (uq : gUq ty) (hyix : gIx ty x ld lb iv h) : gz gPP gGG gcn (d + 0) gt85 0 (gent [.ref x, .int (zi a), .int (zi b), .int (zi v)] 5) [] h (fun q _ => ∃ ty9 : Nat → Nat, gSg [] [] [53999] ty h ty9 q.2.2 ∧ ∃ ld1 lb1 iv1 : Int, 0 ≤ ld1 ∧ ld1 ≤ 192 ∧ 1024 ≤ lb1 ∧ lb1 ≤ 1000000 ∧ 0 ≤ iv1 ∧ iv1 ≤ 2058 ∧ (gIx ty9 x ld1 lb1 iv1 q.2.2) ∧ ((∃ z : Int, gfin gt85 q.1 q.2.1 = some (some (.int (zi z))) ∧ 0 ≤ z ∧ z ≤ 255 ∧ (iv1 = iv) ∧ (1024 * (((q.2.2.1 : Int) - h.1) - 31 - 2 * (ld1 - ld)) ≤ lb1 - lb) ∧ (((q.2.2.2.1 : Int) - h.2.1) ≤ 4303 + 12480 * (ld1 - ld) + 2 * (lb1 - lb)) ∧ (ld ≤ ld1) ∧ (lb ≤ lb1)) ∨ (q.2.1 = [] ∧ ((q.1 = 19) ∨ (q.1 = 46)) ∧ (iv1 = iv) ∧ (1024 * (((q.2.2.1 : Int) - h.1) - 31 - 2 * (ld1 - ld)) ≤ lb1 - lb) ∧ (((q.2.2.2.1 : Int) - h.2.1) ≤ 4303 + 12480 * (ld1 - ld) + 2 * (lb1 - lb)) ∧ (ld ≤ ld1) ∧ (lb ≤ lb1)))) := by
  have hS : gSs rT 1027 ty [53999] h h := gSs.rf hJ
  have G0 : gSg [] [] [53999] ty h ty h := gSg.rf hJ (fun x hx => by cases hx)
  obtain ⟨pic, b0, b1, b2, dr, sk, bt, n0, c0, i0, dw, ⟨_, tdr, tsk, tbt⟩, ⟨ex2, ex3, ex4, ex0⟩, hpc, htc, ⟨en0, rn0⟩, ⟨eiv, ri0⟩, ⟨ec0, rc0⟩, ⟨lc0, llb⟩, hrr, hrw, ⟨edw, rdw⟩, hcd⟩ := hyix
  have tpic := hpc.1.1
  have tb0 := hpc.1.2.1
  have tb1 := hpc.1.2.2.1
  have tb2 := hpc.1.2.2.2
  refine gz_s 1 (pc' := 1) (L' := [some (.ref x), some (.int (zi a)), some (.int (zi b)), some (.int (zi v)), none]) (S' := [.int (zi a)]) rfl ?_
  by_cases hc1 : (a : Int) < 0
  · refine gy_ifT (pc' := 19) rfl (by decide) (by decide) (by omega) hc1 ?_
    have hl2 : 1024 ≤ h.2.2.2.1 bt ∧ h.2.2.2.1 bt ≤ 1000000 := gJ.rowl (G := gGG) hS.1 tbt rfl
    have hix3 : gIx ty x ld (h.2.2.2.1 bt : Int) (64 * dw + n0) h := ⟨pic, b0, b1, b2, dr, sk, bt, n0, c0, i0, dw, ⟨tx, tdr, tsk, tbt⟩, ⟨ex2, ex3, ex4, ex0⟩, hpc, htc, ⟨en0, by omega, by omega⟩, ⟨eiv, by omega, by omega⟩, ⟨ec0, by omega, by omega⟩, ⟨by omega, by omega⟩, hrr, hrw, ⟨edw, by omega, by omega⟩, rfl⟩
    have G4 : gSg [] [] [53999] ty h ty h := gSg.ss G0 hS (by decide)
    exact gz_end (I := .new 84) (len := 3) rfl (Or.inr (by decide)) ⟨ty, G4, ld, (h.2.2.2.1 bt : Int), (64 * dw + n0), (by omega), (by omega), (by omega), (by omega), (by omega), (by omega), hix3, Or.inr ⟨rfl, Or.inl rfl, (by omega), (by dsimp only; omega), (by dsimp only; omega), (by omega), (by omega)⟩⟩
  · refine gy_ifF rfl (by decide) (by decide) (by omega) hc1 ?_
    refine gz_s 2 (pc' := 6) (L' := [some (.ref x), some (.int (zi a)), some (.int (zi b)), some (.int (zi v)), none]) (S' := [.int (zi 4), .int (zi a)]) rfl ?_
    by_cases hc5 : (4 : Int) ≤ a
    · refine gy_icT (pc' := 19) rfl (by decide) (by decide) (by omega) (by omega) hc5 ?_
      have hl6 : 1024 ≤ h.2.2.2.1 bt ∧ h.2.2.2.1 bt ≤ 1000000 := gJ.rowl (G := gGG) hS.1 tbt rfl
      have hix7 : gIx ty x ld (h.2.2.2.1 bt : Int) (64 * dw + n0) h := ⟨pic, b0, b1, b2, dr, sk, bt, n0, c0, i0, dw, ⟨tx, tdr, tsk, tbt⟩, ⟨ex2, ex3, ex4, ex0⟩, hpc, htc, ⟨en0, by omega, by omega⟩, ⟨eiv, by omega, by omega⟩, ⟨ec0, by omega, by omega⟩, ⟨by omega, by omega⟩, hrr, hrw, ⟨edw, by omega, by omega⟩, rfl⟩
      have G8 : gSg [] [] [53999] ty h ty h := gSg.ss G0 hS (by decide)
      exact gz_end (I := .new 84) (len := 3) rfl (Or.inr (by decide)) ⟨ty, G8, ld, (h.2.2.2.1 bt : Int), (64 * dw + n0), (by omega), (by omega), (by omega), (by omega), (by omega), (by omega), hix7, Or.inr ⟨rfl, Or.inl rfl, (by omega), (by dsimp only; omega), (by dsimp only; omega), (by omega), (by omega)⟩⟩
    · refine gy_icF rfl (by decide) (by decide) (by omega) (by omega) hc5 ?_
      refine gz_s 1 (pc' := 10) (L' := [some (.ref x), some (.int (zi a)), some (.int (zi b)), some (.int (zi v)), none]) (S' := [.int (zi b)]) rfl ?_
      by_cases hc9 : (b : Int) < 0
      · refine gy_ifT (pc' := 19) rfl (by decide) (by decide) (by omega) hc9 ?_
        have hl10 : 1024 ≤ h.2.2.2.1 bt ∧ h.2.2.2.1 bt ≤ 1000000 := gJ.rowl (G := gGG) hS.1 tbt rfl
        have hix11 : gIx ty x ld (h.2.2.2.1 bt : Int) (64 * dw + n0) h := ⟨pic, b0, b1, b2, dr, sk, bt, n0, c0, i0, dw, ⟨tx, tdr, tsk, tbt⟩, ⟨ex2, ex3, ex4, ex0⟩, hpc, htc, ⟨en0, by omega, by omega⟩, ⟨eiv, by omega, by omega⟩, ⟨ec0, by omega, by omega⟩, ⟨by omega, by omega⟩, hrr, hrw, ⟨edw, by omega, by omega⟩, rfl⟩
        have G12 : gSg [] [] [53999] ty h ty h := gSg.ss G0 hS (by decide)
        exact gz_end (I := .new 84) (len := 3) rfl (Or.inr (by decide)) ⟨ty, G12, ld, (h.2.2.2.1 bt : Int), (64 * dw + n0), (by omega), (by omega), (by omega), (by omega), (by omega), (by omega), hix11, Or.inr ⟨rfl, Or.inl rfl, (by omega), (by dsimp only; omega), (by dsimp only; omega), (by omega), (by omega)⟩⟩
      · refine gy_ifF rfl (by decide) (by decide) (by omega) hc9 ?_
        refine gz_s 2 (pc' := 16) (L' := [some (.ref x), some (.int (zi a)), some (.int (zi b)), some (.int (zi v)), none]) (S' := [.int (zi 63), .int (zi b)]) rfl ?_
        by_cases hc13 : (b : Int) ≤ 63
        · refine gy_icT (pc' := 29) rfl (by decide) (by decide) (by omega) (by omega) hc13 ?_
          refine gz_s 2 (pc' := 31) (L' := [some (.ref x), some (.int (zi a)), some (.int (zi b)), some (.int (zi v)), none]) (S' := [.int (zi (-1)), .int (zi v)]) rfl ?_
          by_cases hc14 : (v : Int) = (-1)
          · refine gy_icT (pc' := 56) rfl (by decide) (by decide) (by omega) (by omega) hc14 ?_
            refine gz_s 1 (pc' := 57) (L' := [some (.ref x), some (.int (zi a)), some (.int (zi b)), some (.int (zi v)), none]) (S' := [.ref x]) rfl ?_
            refine gs_gtr rfl (by decide) rfl hS.1 tx rfl rfl rfl (fun c15 ec15 tc15 => ?_)
            refine gy_s 5 (pc' := 66) (L' := [some (.ref x), some (.int (zi a)), some (.int (zi b)), some (.int (zi v)), none]) (S' := [.int (((zi a) * (zi 64)) + (zi b)), .ref c15]) (L2 := [some (.ref x), some (.int (zi a)), some (.int (zi b)), some (.int (zi v)), none]) (S2 := [.int (zi ((a * 64) + b)), .ref c15]) rfl (by simp only [zi_add, zi_sub, zi_mul, zi_neg, zi_and1, zi_and7, zi_and15, zi_and31, zi_and255]) (by simp only [zi_add, zi_sub, zi_mul, zi_neg, zi_and1, zi_and7, zi_and15, zi_and31, zi_and255]) ?_
            have hl16 : 256 ≤ h.2.2.2.1 c15 ∧ h.2.2.2.1 c15 ≤ 256 := gJ.rowl (G := gGG) hS.1 tc15 rfl
            refine gs_ald rfl (by decide) hS.1 tc15 rfl rfl rfl (by decide) (fun _ => rfl) (by omega) (by omega) (fun z17 ez17 az17 bz17 => ?_)
            refine gz_s 3 (pc' := 71) (L' := [some (.ref x), some (.int (zi a)), some (.int (zi b)), some (.int (zi v)), some (.int (zi z17))]) (S' := [.int (zi (-1)), .int (zi v)]) rfl ?_
            refine gy_icT (pc' := 86) rfl (by decide) (by decide) ⟨by omega, by omega⟩ ⟨by omega, by omega⟩ (by first | (simp [zc]; done) | (simp only [zc]; omega)) ?_
            refine gz_s 1 (pc' := 88) (L' := [some (.ref x), some (.int (zi a)), some (.int (zi b)), some (.int (zi v)), some (.int (zi z17))]) (S' := [.int (zi z17)]) rfl ?_
            have hl18 : 1024 ≤ h.2.2.2.1 bt ∧ h.2.2.2.1 bt ≤ 1000000 := gJ.rowl (G := gGG) hS.1 tbt rfl
            have hix19 : gIx ty x ld (h.2.2.2.1 bt : Int) (64 * dw + n0) h := ⟨pic, b0, b1, b2, dr, sk, bt, n0, c0, i0, dw, ⟨tx, tdr, tsk, tbt⟩, ⟨ex2, ex3, ex4, ex0⟩, hpc, htc, ⟨en0, by omega, by omega⟩, ⟨eiv, by omega, by omega⟩, ⟨ec0, by omega, by omega⟩, ⟨by omega, by omega⟩, hrr, hrw, ⟨edw, by omega, by omega⟩, rfl⟩
            have G20 : gSg [] [] [53999] ty h ty h := gSg.ss G0 hS (by decide)
            exact gz_end (I := .ireturn) (len := 1) rfl (Or.inl rfl) ⟨ty, G20, ld, (h.2.2.2.1 bt : Int), (64 * dw + n0), (by omega), (by omega), (by omega), (by omega), (by omega), (by omega), hix19, Or.inl ⟨z17, rfl, (by omega), (by omega), (by omega), (by dsimp only; omega), (by dsimp only; omega), (by omega), (by omega)⟩⟩
          · refine gy_icF rfl (by decide) (by decide) (by omega) (by omega) hc14 ?_
            refine gz_s 2 (pc' := 36) (L' := [some (.ref x), some (.int (zi a)), some (.int (zi b)), some (.int (zi v)), none]) (S' := [.int (zi 1), .int (zi v)]) rfl ?_
            by_cases hc21 : (v : Int) < 1
            · refine gy_icT (pc' := 46) rfl (by decide) (by decide) (by omega) (by omega) hc21 ?_
              have hl22 : 1024 ≤ h.2.2.2.1 bt ∧ h.2.2.2.1 bt ≤ 1000000 := gJ.rowl (G := gGG) hS.1 tbt rfl
              have hix23 : gIx ty x ld (h.2.2.2.1 bt : Int) (64 * dw + n0) h := ⟨pic, b0, b1, b2, dr, sk, bt, n0, c0, i0, dw, ⟨tx, tdr, tsk, tbt⟩, ⟨ex2, ex3, ex4, ex0⟩, hpc, htc, ⟨en0, by omega, by omega⟩, ⟨eiv, by omega, by omega⟩, ⟨ec0, by omega, by omega⟩, ⟨by omega, by omega⟩, hrr, hrw, ⟨edw, by omega, by omega⟩, rfl⟩
              have G24 : gSg [] [] [53999] ty h ty h := gSg.ss G0 hS (by decide)
              exact gz_end (I := .new 134) (len := 3) rfl (Or.inr (by decide)) ⟨ty, G24, ld, (h.2.2.2.1 bt : Int), (64 * dw + n0), (by omega), (by omega), (by omega), (by omega), (by omega), (by omega), hix23, Or.inr ⟨rfl, Or.inr (rfl), (by omega), (by dsimp only; omega), (by dsimp only; omega), (by omega), (by omega)⟩⟩
            · refine gy_icF rfl (by decide) (by decide) (by omega) (by omega) hc21 ?_
              refine gz_s 2 (pc' := 43) (L' := [some (.ref x), some (.int (zi a)), some (.int (zi b)), some (.int (zi v)), none]) (S' := [.int (zi 255), .int (zi v)]) rfl ?_
              by_cases hc25 : (v : Int) ≤ 255
              · refine gy_icT (pc' := 56) rfl (by decide) (by decide) (by omega) (by omega) hc25 ?_
                refine gz_s 1 (pc' := 57) (L' := [some (.ref x), some (.int (zi a)), some (.int (zi b)), some (.int (zi v)), none]) (S' := [.ref x]) rfl ?_
                refine gs_gtr rfl (by decide) rfl hS.1 tx rfl rfl rfl (fun c26 ec26 tc26 => ?_)
                refine gy_s 5 (pc' := 66) (L' := [some (.ref x), some (.int (zi a)), some (.int (zi b)), some (.int (zi v)), none]) (S' := [.int (((zi a) * (zi 64)) + (zi b)), .ref c26]) (L2 := [some (.ref x), some (.int (zi a)), some (.int (zi b)), some (.int (zi v)), none]) (S2 := [.int (zi ((a * 64) + b)), .ref c26]) rfl (by simp only [zi_add, zi_sub, zi_mul, zi_neg, zi_and1, zi_and7, zi_and15, zi_and31, zi_and255]) (by simp only [zi_add, zi_sub, zi_mul, zi_neg, zi_and1, zi_and7, zi_and15, zi_and31, zi_and255]) ?_
                have hl27 : 256 ≤ h.2.2.2.1 c26 ∧ h.2.2.2.1 c26 ≤ 256 := gJ.rowl (G := gGG) hS.1 tc26 rfl
                refine gs_ald rfl (by decide) hS.1 tc26 rfl rfl rfl (by decide) (fun _ => rfl) (by omega) (by omega) (fun z28 ez28 az28 bz28 => ?_)
                refine gz_s 3 (pc' := 71) (L' := [some (.ref x), some (.int (zi a)), some (.int (zi b)), some (.int (zi v)), some (.int (zi z28))]) (S' := [.int (zi (-1)), .int (zi v)]) rfl ?_
                refine gy_icF rfl (by decide) (by decide) ⟨by omega, by omega⟩ ⟨by omega, by omega⟩ (by first | (simp [zc]; done) | (simp only [zc]; omega)) ?_
                refine gz_s 1 (pc' := 75) (L' := [some (.ref x), some (.int (zi a)), some (.int (zi b)), some (.int (zi v)), some (.int (zi z28))]) (S' := [.ref x]) rfl ?_
                refine gs_gtk rfl (by decide) rfl hS.1 tx rfl rfl ec26 ?_
                refine gy_s 6 (pc' := 85) (L' := [some (.ref x), some (.int (zi a)), some (.int (zi b)), some (.int (zi v)), some (.int (zi z28))]) (S' := [.int (zi v), .int (((zi a) * (zi 64)) + (zi b)), .ref c26]) (L2 := [some (.ref x), some (.int (zi a)), some (.int (zi b)), some (.int (zi v)), some (.int (zi z28))]) (S2 := [.int (zi v), .int (zi ((a * 64) + b)), .ref c26]) rfl (by simp only [zi_add, zi_sub, zi_mul, zi_neg, zi_and1, zi_and7, zi_and15, zi_and31, zi_and255]) (by simp only [zi_add, zi_sub, zi_mul, zi_neg, zi_and1, zi_and7, zi_and15, zi_and31, zi_and255]) ?_
                have hl29 : 256 ≤ h.2.2.2.1 c26 ∧ h.2.2.2.1 c26 ≤ 256 := gJ.rowl (G := gGG) hS.1 tc26 rfl
                refine gs_ast rfl (by decide) hS tc26 rfl rfl rfl (by decide) (fun _ => rfl) (by omega) (by omega) (fun _ => (by decide : (53999 : Nat) ∈ ([53999] : List Nat))) (by omega) (by omega) (fun h30 sh30 eh30 fh30 => ?_)
                have pr31 := gPC.pa fh30 (sh30.2.2.2.2.1.trans hS.2.2.2.2.1.symm) tc26 (fun _ => (by decide : ¬ (53999 : Nat) ∈ gPCp)) hpc
                have pr32 := gTc.pt fh30 tc26 (by decide) htc
                have pr33 := gRr.pa fh30 (sh30.2.2.2.2.1.trans hS.2.2.2.2.1.symm) tc26 (fun _ => (by decide : ¬ (53999 : Nat) ∈ gRrp)) hrr
                have pr34 := gRw.pa fh30 (sh30.2.2.2.2.1.trans hS.2.2.2.2.1.symm) tc26 (fun _ => (by decide : ¬ (53999 : Nat) ∈ gRwp)) hrw
                have s35 := (fh30 x 2 (fun q => absurd (((tx).symm.trans (congrArg ty q.1)).trans tc26) (by decide))).trans ex2
                have s36 := (fh30 x 3 (fun q => absurd (((tx).symm.trans (congrArg ty q.1)).trans tc26) (by decide))).trans ex3
                have s37 := (fh30 x 4 (fun q => absurd (((tx).symm.trans (congrArg ty q.1)).trans tc26) (by decide))).trans ex4
                have s38 := (fh30 sk 0 (fun q => absurd (((tsk).symm.trans (congrArg ty q.1)).trans tc26) (by decide))).trans ex0
                have s39 := (fh30 dr 8 (fun q => absurd (((tdr).symm.trans (congrArg ty q.1)).trans tc26) (by decide))).trans en0
                have s40 := (fh30 dr 3 (fun q => absurd (((tdr).symm.trans (congrArg ty q.1)).trans tc26) (by decide))).trans eiv
                have s41 := (fh30 dr 1 (fun q => absurd (((tdr).symm.trans (congrArg ty q.1)).trans tc26) (by decide))).trans edw
                have s42 := (fh30 sk 1 (fun q => absurd (((tsk).symm.trans (congrArg ty q.1)).trans tc26) (by decide))).trans ec0
                have s43 := (fh30 x 1 (fun q => absurd (((tx).symm.trans (congrArg ty q.1)).trans tc26) (by decide))).trans ec26
                have pr44 := gEl.set (i := (a * 64) + b) (z := v) uq tc26 (by decide) eh30 (by omega) (by omega)
                refine gz_s 1 (pc' := 88) (L' := [some (.ref x), some (.int (zi a)), some (.int (zi b)), some (.int (zi v)), some (.int (zi z28))]) (S' := [.int (zi z28)]) rfl ?_
                have k45 := sh30.2.1
                have k45b := sh30.2.2.1
                have hl46 : h30.2.2.2.1 bt = h.2.2.2.1 bt := congrFun sh30.2.2.2.2.1 bt
                have hl47 : 1024 ≤ h30.2.2.2.1 bt ∧ h30.2.2.2.1 bt ≤ 1000000 := gJ.rowl (G := gGG) sh30.1 tbt rfl
                have k48 := sh30.2.1
                have k48b := sh30.2.2.1
                have hl49 : h30.2.2.2.1 bt = h.2.2.2.1 bt := congrFun sh30.2.2.2.2.1 bt
                have hix50 : gIx ty x ld (h30.2.2.2.1 bt : Int) (64 * dw + n0) h30 := ⟨pic, b0, b1, b2, dr, sk, bt, n0, c0, i0, dw, ⟨tx, tdr, tsk, tbt⟩, ⟨s35, s36, s37, s38⟩, pr31, pr32, ⟨s39, by omega, by omega⟩, ⟨s40, by omega, by omega⟩, ⟨s42, by omega, by omega⟩, ⟨by omega, by omega⟩, pr33, pr34, ⟨s41, by omega, by omega⟩, rfl⟩
                have G51 : gSg [] [] [53999] ty h ty h30 := gSg.ss G0 sh30 (by decide)
                exact gz_end (I := .ireturn) (len := 1) rfl (Or.inl rfl) ⟨ty, G51, ld, (h30.2.2.2.1 bt : Int), (64 * dw + n0), (by omega), (by omega), (by omega), (by omega), (by omega), (by omega), hix50, Or.inl ⟨z28, rfl, (by omega), (by omega), (by omega), (by dsimp only; omega), (by dsimp only; omega), (by omega), (by omega)⟩⟩
              · refine gy_icF rfl (by decide) (by decide) (by omega) (by omega) hc25 ?_
                have hl52 : 1024 ≤ h.2.2.2.1 bt ∧ h.2.2.2.1 bt ≤ 1000000 := gJ.rowl (G := gGG) hS.1 tbt rfl
                have hix53 : gIx ty x ld (h.2.2.2.1 bt : Int) (64 * dw + n0) h := ⟨pic, b0, b1, b2, dr, sk, bt, n0, c0, i0, dw, ⟨tx, tdr, tsk, tbt⟩, ⟨ex2, ex3, ex4, ex0⟩, hpc, htc, ⟨en0, by omega, by omega⟩, ⟨eiv, by omega, by omega⟩, ⟨ec0, by omega, by omega⟩, ⟨by omega, by omega⟩, hrr, hrw, ⟨edw, by omega, by omega⟩, rfl⟩
                have G54 : gSg [] [] [53999] ty h ty h := gSg.ss G0 hS (by decide)
                exact gz_end (I := .new 134) (len := 3) rfl (Or.inr (by decide)) ⟨ty, G54, ld, (h.2.2.2.1 bt : Int), (64 * dw + n0), (by omega), (by omega), (by omega), (by omega), (by omega), (by omega), hix53, Or.inr ⟨rfl, Or.inr (rfl), (by omega), (by dsimp only; omega), (by dsimp only; omega), (by omega), (by omega)⟩⟩
        · refine gy_icF rfl (by decide) (by decide) (by omega) (by omega) hc13 ?_
          have hl55 : 1024 ≤ h.2.2.2.1 bt ∧ h.2.2.2.1 bt ≤ 1000000 := gJ.rowl (G := gGG) hS.1 tbt rfl
          have hix56 : gIx ty x ld (h.2.2.2.1 bt : Int) (64 * dw + n0) h := ⟨pic, b0, b1, b2, dr, sk, bt, n0, c0, i0, dw, ⟨tx, tdr, tsk, tbt⟩, ⟨ex2, ex3, ex4, ex0⟩, hpc, htc, ⟨en0, by omega, by omega⟩, ⟨eiv, by omega, by omega⟩, ⟨ec0, by omega, by omega⟩, ⟨by omega, by omega⟩, hrr, hrw, ⟨edw, by omega, by omega⟩, rfl⟩
          have G57 : gSg [] [] [53999] ty h ty h := gSg.ss G0 hS (by decide)
          exact gz_end (I := .new 84) (len := 3) rfl (Or.inr (by decide)) ⟨ty, G57, ld, (h.2.2.2.1 bt : Int), (64 * dw + n0), (by omega), (by omega), (by omega), (by omega), (by omega), (by omega), hix56, Or.inr ⟨rfl, Or.inl rfl, (by omega), (by dsimp only; omega), (by dsimp only; omega), (by omega), (by omega)⟩⟩
set_option maxRecDepth 20000 in
set_option maxHeartbeats 4000000 in
theorem cl_DctFilter_point (d : Nat) {ty : Nat → Nat} {h : gH} (hJ : gJ rT 1027 ty h) (x : Nat) (tx : ty x = 50) (a : Int) (ra : (-2147483648) ≤ a ∧ a ≤ 2147483647) (b : Int) (rb : (-2147483648) ≤ b ∧ b ≤ 2147483647) (v : Int) (rv : (-2147483648) ≤ v ∧ v ≤ 2147483647) (ld : Int) (rld : 0 ≤ ld ∧ ld ≤ 192) (lb : Int) (rlb : 1024 ≤ lb ∧ lb ≤ 1000000) (iv : Int) (riv : 0 ≤ iv ∧ iv ≤ 2058) (uq : gUq ty) (hyix : gIx ty x ld lb iv h) : gz gPP gGG gcn (d + 2) gt86 0 (gent [.ref x, .int (zi a), .int (zi b), .int (zi v)] 4) [] h (fun q _ => ∃ ty9 : Nat → Nat, gSg [] [] [55001, 55002, 59999] ty h ty9 q.2.2 ∧ ∃ ld1 lb1 iv1 : Int, 0 ≤ ld1 ∧ ld1 ≤ 192 ∧ 1024 ≤ lb1 ∧ lb1 ≤ 1000000 ∧ 0 ≤ iv1 ∧ iv1 ≤ 2058 ∧ (gIx ty9 x ld1 lb1 iv1 q.2.2) ∧ ((∃ z : Int, gfin gt86 q.1 q.2.1 = some (some (.int (zi z))) ∧ 0 ≤ z ∧ z ≤ 255 ∧ (0 ≤ a) ∧ (a ≤ 31) ∧ (0 ≤ b) ∧ (b ≤ 31) ∧ (0 ≤ v) ∧ (v ≤ 255) ∧ (a < iv / 64 → iv1 = iv) ∧ (iv / 64 ≤ a → iv1 = 64 * (a + 1) + iv % 64) ∧ (1024 * (((q.2.2.1 : Int) - h.1) - 31 - 2 * (ld1 - ld)) ≤ lb1 - lb) ∧ (((q.2.2.2.1 : Int) - h.2.1) ≤ 4303 + 12480 * (ld1 - ld) + 2 * (lb1 - lb)) ∧ (ld ≤ ld1) ∧ (lb ≤ lb1)) ∨ (q.2.1 = [] ∧ ((q.1 = 20 ∧ (¬ (0 ≤ a ∧ a ≤ 31 ∧ 0 ≤ b ∧ b ≤ 31))) ∨ (q.1 = 41 ∧ (¬ (0 ≤ v ∧ v ≤ 255)))) ∧ (iv1 = iv) ∧ (1024 * (((q.2.2.1 : Int) - h.1) - 31 - 2 * (ld1 - ld)) ≤ lb1 - lb) ∧ (((q.2.2.2.1 : Int) - h.2.1) ≤ 4303 + 12480 * (ld1 - ld) + 2 * (lb1 - lb)) ∧ (ld ≤ ld1) ∧ (lb ≤ lb1)))) := by
  have hS : gSs rT 1027 ty [55001, 55002, 59999] h h := gSs.rf hJ
  have G0 : gSg [] [] [55001, 55002, 59999] ty h ty h := gSg.rf hJ (fun x hx => by cases hx)
  obtain ⟨pic, b0, b1, b2, dr, sk, bt, n0, c0, i0, dw, ⟨_, tdr, tsk, tbt⟩, ⟨ex2, ex3, ex4, ex0⟩, hpc, htc, ⟨en0, rn0⟩, ⟨eiv, ri0⟩, ⟨ec0, rc0⟩, ⟨lc0, llb⟩, hrr, hrw, ⟨edw, rdw⟩, hcd⟩ := hyix
  have tpic := hpc.1.1
  have tb0 := hpc.1.2.1
  have tb1 := hpc.1.2.2.1
  have tb2 := hpc.1.2.2.2
  refine gz_s 1 (pc' := 1) (L' := [some (.ref x), some (.int (zi a)), some (.int (zi b)), some (.int (zi v))]) (S' := [.int (zi a)]) rfl ?_
  by_cases hc1 : (a : Int) < 0
  · refine gy_ifT (pc' := 20) rfl (by decide) (by decide) (by omega) hc1 ?_
    have hl2 : 1024 ≤ h.2.2.2.1 bt ∧ h.2.2.2.1 bt ≤ 1000000 := gJ.rowl (G := gGG) hS.1 tbt rfl
    have hix3 : gIx ty x ld (h.2.2.2.1 bt : Int) (64 * dw + n0) h := ⟨pic, b0, b1, b2, dr, sk, bt, n0, c0, i0, dw, ⟨tx, tdr, tsk, tbt⟩, ⟨ex2, ex3, ex4, ex0⟩, hpc, htc, ⟨en0, by omega, by omega⟩, ⟨eiv, by omega, by omega⟩, ⟨ec0, by omega, by omega⟩, ⟨by omega, by omega⟩, hrr, hrw, ⟨edw, by omega, by omega⟩, rfl⟩
    have G4 : gSg [] [] [55001, 55002, 59999] ty h ty h := gSg.ss G0 hS (by decide)
    exact gz_end (I := .new 84) (len := 3) rfl (Or.inr (by decide)) ⟨ty, G4, ld, (h.2.2.2.1 bt : Int), (64 * dw + n0), (by omega), (by omega), (by omega), (by omega), (by omega), (by omega), hix3, Or.inr ⟨rfl, Or.inl ⟨rfl, (by omega)⟩, (by omega), (by dsimp only; omega), (by dsimp only; omega), (by omega), (by omega)⟩⟩
  · refine gy_ifF rfl (by decide) (by decide) (by omega) hc1 ?_
    refine gz_s 2 (pc' := 7) (L' := [some (.ref x), some (.int (zi a)), some (.int (zi b)), some (.int (zi v))]) (S' := [.int (zi 32), .int (zi a)]) rfl ?_
    by_cases hc5 : (32 : Int) ≤ a
    · refine gy_icT (pc' := 20) rfl (by decide) (by decide) (by omega) (by omega) hc5 ?_
      have hl6 : 1024 ≤ h.2.2.2.1 bt ∧ h.2.2.2.1 bt ≤ 1000000 := gJ.rowl (G := gGG) hS.1 tbt rfl
      have hix7 : gIx ty x ld (h.2.2.2.1 bt : Int) (64 * dw + n0) h := ⟨pic, b0, b1, b2, dr, sk, bt, n0, c0, i0, dw, ⟨tx, tdr, tsk, tbt⟩, ⟨ex2, ex3, ex4, ex0⟩, hpc, htc, ⟨en0, by omega, by omega⟩, ⟨eiv, by omega, by omega⟩, ⟨ec0, by omega, by omega⟩, ⟨by omega, by omega⟩, hrr, hrw, ⟨edw, by omega, by omega⟩, rfl⟩
      have G8 : gSg [] [] [55001, 55002, 59999] ty h ty h := gSg.ss G0 hS (by decide)
      exact gz_end (I := .new 84) (len := 3) rfl (Or.inr (by decide)) ⟨ty, G8, ld, (h.2.2.2.1 bt : Int), (64 * dw + n0), (by omega), (by omega), (by omega), (by omega), (by omega), (by omega), hix7, Or.inr ⟨rfl, Or.inl ⟨rfl, (by omega)⟩, (by omega), (by dsimp only; omega), (by dsimp only; omega), (by omega), (by omega)⟩⟩
    · refine gy_icF rfl (by decide) (by decide) (by omega) (by omega) hc5 ?_
      refine gz_s 1 (pc' := 11) (L' := [some (.ref x), some (.int (zi a)), some (.int (zi b)), some (.int (zi v))]) (S' := [.int (zi b)]) rfl ?_
      by_cases hc9 : (b : Int) < 0
      · refine gy_ifT (pc' := 20) rfl (by decide) (by decide) (by omega) hc9 ?_
        have hl10 : 1024 ≤ h.2.2.2.1 bt ∧ h.2.2.2.1 bt ≤ 1000000 := gJ.rowl (G := gGG) hS.1 tbt rfl
        have hix11 : gIx ty x ld (h.2.2.2.1 bt : Int) (64 * dw + n0) h := ⟨pic, b0, b1, b2, dr, sk, bt, n0, c0, i0, dw, ⟨tx, tdr, tsk, tbt⟩, ⟨ex2, ex3, ex4, ex0⟩, hpc, htc, ⟨en0, by omega, by omega⟩, ⟨eiv, by omega, by omega⟩, ⟨ec0, by omega, by omega⟩, ⟨by omega, by omega⟩, hrr, hrw, ⟨edw, by omega, by omega⟩, rfl⟩
        have G12 : gSg [] [] [55001, 55002, 59999] ty h ty h := gSg.ss G0 hS (by decide)
        exact gz_end (I := .new 84) (len := 3) rfl (Or.inr (by decide)) ⟨ty, G12, ld, (h.2.2.2.1 bt : Int), (64 * dw + n0), (by omega), (by omega), (by omega), (by omega), (by omega), (by omega), hix11, Or.inr ⟨rfl, Or.inl ⟨rfl, (by omega)⟩, (by omega), (by dsimp only; omega), (by dsimp only; omega), (by omega), (by omega)⟩⟩
      · refine gy_ifF rfl (by decide) (by decide) (by omega) hc9 ?_
        refine gz_s 2 (pc' := 17) (L' := [some (.ref x), some (.int (zi a)), some (.int (zi b)), some (.int (zi v))]) (S' := [.int (zi 32), .int (zi b)]) rfl ?_
        by_cases hc13 : (b : Int) < 32
        · refine gy_icT (pc' := 30) rfl (by decide) (by decide) (by omega) (by omega) hc13 ?_
          refine gz_s 1 (pc' := 31) (L' := [some (.ref x), some (.int (zi a)), some (.int (zi b)), some (.int (zi v))]) (S' := [.int (zi v)]) rfl ?_
          by_cases hc14 : (v : Int) < 0
          · refine gy_ifT (pc' := 41) rfl (by decide) (by decide) (by omega) hc14 ?_
            have hl15 : 1024 ≤ h.2.2.2.1 bt ∧ h.2.2.2.1 bt ≤ 1000000 := gJ.rowl (G := gGG) hS.1 tbt rfl
            have hix16 : gIx ty x ld (h.2.2.2.1 bt : Int) (64 * dw + n0) h := ⟨pic, b0, b1, b2, dr, sk, bt, n0, c0, i0, dw, ⟨tx, tdr, tsk, tbt⟩, ⟨ex2, ex3, ex4, ex0⟩, hpc, htc, ⟨en0, by omega, by omega⟩, ⟨eiv, by omega, by omega⟩, ⟨ec0, by omega, by omega⟩, ⟨by omega, by omega⟩, hrr, hrw, ⟨edw, by omega, by omega⟩, rfl⟩
            have G17 : gSg [] [] [55001, 55002, 59999] ty h ty h := gSg.ss G0 hS (by decide)
            exact gz_end (I := .new 134) (len := 3) rfl (Or.inr (by decide)) ⟨ty, G17, ld, (h.2.2.2.1 bt : Int), (64 * dw + n0), (by omega), (by omega), (by omega), (by omega), (by omega), (by omega), hix16, Or.inr ⟨rfl, Or.inr (⟨rfl, (by omega)⟩), (by omega), (by dsimp only; omega), (by dsimp only; omega), (by omega), (by omega)⟩⟩
          · refine gy_ifF rfl (by decide) (by decide) (by omega) hc14 ?_
            refine gz_s 2 (pc' := 38) (L' := [some (.ref x), some (.int (zi a)), some (.int (zi b)), some (.int (zi v))]) (S' := [.int (zi 255), .int (zi v)]) rfl ?_
            by_cases hc18 : (v : Int) ≤ 255
            · refine gy_icT (pc' := 51) rfl (by decide) (by decide) (by omega) (by omega) hc18 ?_
              refine gz_s 1 (pc' := 52) (L' := [some (.ref x), some (.int (zi a)), some (.int (zi b)), some (.int (zi v))]) (S' := [.ref x]) rfl ?_
              refine gs_gtk rfl (by decide) rfl hS.1 tx rfl rfl ex3 ?_
              refine gz_s 3 (pc' := 58) (L' := [some (.ref x), some (.int (zi a)), some (.int (zi b)), some (.int (zi v))]) (S' := [.int (zi v), .int (zi b), .int (zi a), .ref dr]) rfl ?_
              obtain ⟨z19, ez19, az19, bz19⟩ := gJ.int (k := 2) (G := gGG) hS.1 tdr rfl rfl rfl
              refine gz_call rfl (by decide) rfl (by decide) (by decide) (gcal_of rfl rfl rfl (Nat.le_of_ble_eq_true rfl) (gJ.recv (G := gGG) hS.1 tdr rfl rfl)) (cl_Draft_putPoint _ hS.1 dr tdr a ⟨by omega, by omega⟩ b ⟨by omega, by omega⟩ v ⟨by omega, by omega⟩ dw edw ⟨by omega, by omega⟩ z19 ez19 ⟨by omega, by omega⟩ uq) (fun q20 _ wq20 => ?_)
              obtain ⟨pq20, oq20, hq20⟩ := q20
              obtain ⟨xq20, zq20, fq20_0, fq20_1, gq20, aq20, bq20, efq20_0, afq20_0, bfq20_0, efq20_1, afq20_1, bfq20_1, uq20_0, uq20_1, uq20_2, uq20_3⟩ := wq20
              refine ⟨_, gq20, ?_⟩
              show gz gPP gGG gcn _ _ 61 [some (.ref x), some (.int (zi a)), some (.int (zi b)), some (.int (zi v))] [.int (zi zq20)] hq20 _
              have sq20 : gSs rT 1027 ty [55001, 55002, 59999] h hq20 := gSs.tr hS xq20 (by decide)
              have s21 := (xq20.2.2.2.2.2 x 2 (by rw [tx]; decide)).trans ex2
              have s22 := (xq20.2.2.2.2.2 x 3 (by rw [tx]; decide)).trans ex3
              have s23 := (xq20.2.2.2.2.2 x 4 (by rw [tx]; decide)).trans ex4
              have s24 := (xq20.2.2.2.2.2 sk 0 (by rw [tsk]; decide)).trans ex0
              have s25 := (xq20.2.2.2.2.2 dr 8 (by rw [tdr]; decide)).trans en0
              have s26 := (xq20.2.2.2.2.2 dr 3 (by rw [tdr]; decide)).trans eiv
              have s27 := (xq20.2.2.2.2.2 sk 1 (by rw [tsk]; decide)).trans ec0
              have pr28 := gPC.fr xq20.2 (by decide) hpc
              have pr29 := gTc.fr xq20.2 (by decide) htc
              have pr30 := gRr.fr xq20.2 (by decide) hrr
              have pr31 := gRw.fr xq20.2 (by decide) hrw
              have k32 := sq20.2.1
              have k32b := sq20.2.2.1
              have hl33 : hq20.2.2.2.1 bt = h.2.2.2.1 bt := congrFun sq20.2.2.2.2.1 bt
              have hl34 : 1024 ≤ hq20.2.2.2.1 bt ∧ hq20.2.2.2.1 bt ≤ 1000000 := gJ.rowl (G := gGG) sq20.1 tbt rfl
              have k35 := sq20.2.1
              have k35b := sq20.2.2.1
              have hl36 : hq20.2.2.2.1 bt = h.2.2.2.1 bt := congrFun sq20.2.2.2.2.1 bt
              have hix37 : gIx ty x ld (hq20.2.2.2.1 bt : Int) (64 * fq20_0 + n0) hq20 := ⟨pic, b0, b1, b2, dr, sk, bt, n0, c0, i0, fq20_0, ⟨tx, tdr, tsk, tbt⟩, ⟨s21, s22, s23, s24⟩, pr28, pr29, ⟨s25, by omega, by omega⟩, ⟨s26, by omega, by omega⟩, ⟨s27, by omega, by omega⟩, ⟨by omega, by omega⟩, pr30, pr31, ⟨efq20_0, by omega, by omega⟩, rfl⟩
              have G38 : gSg [] [] [55001, 55002, 59999] ty h ty hq20 := gSg.ss G0 sq20 (by decide)
              exact gz_end (I := .ireturn) (len := 1) rfl (Or.inl rfl) ⟨ty, G38, ld, (hq20.2.2.2.1 bt : Int), (64 * fq20_0 + n0), (by omega), (by omega), (by omega), (by omega), (by omega), (by omega), hix37, Or.inl ⟨zq20, rfl, (by omega), (by omega), (by omega), (by omega), (by omega), (by omega), (by omega), (by omega), (by omega), (by omega), (by dsimp only; omega), (by dsimp only; omega), (by omega), (by omega)⟩⟩
            · refine gy_icF rfl (by decide) (by decide) (by omega) (by omega) hc18 ?_
              have hl39 : 1024 ≤ h.2.2.2.1 bt ∧ h.2.2.2.1 bt ≤ 1000000 := gJ.rowl (G := gGG) hS.1 tbt rfl
              have hix40 : gIx ty x ld (h.2.2.2.1 bt : Int) (64 * dw + n0) h := ⟨pic, b0, b1, b2, dr, sk, bt, n0, c0, i0, dw, ⟨tx, tdr, tsk, tbt⟩, ⟨ex2, ex3, ex4, ex0⟩, hpc, htc, ⟨en0, by omega, by omega⟩, ⟨eiv, by omega, by omega⟩, ⟨ec0, by omega, by omega⟩, ⟨by omega, by omega⟩, hrr, hrw, ⟨edw, by omega, by omega⟩, rfl⟩
              have G41 : gSg [] [] [55001, 55002, 59999] ty h ty h := gSg.ss G0 hS (by decide)
              exact gz_end (I := .new 134) (len := 3) rfl (Or.inr (by decide)) ⟨ty, G41, ld, (h.2.2.2.1 bt : Int), (64 * dw + n0), (by omega), (by omega), (by omega), (by omega), (by omega), (by omega), hix40, Or.inr ⟨rfl, Or.inr (⟨rfl, (by omega)⟩), (by omega), (by dsimp only; omega), (by dsimp only; omega), (by omega), (by omega)⟩⟩
        · refine gy_icF rfl (by decide) (by decide) (by omega) (by omega) hc13 ?_
          have hl42 : 1024 ≤ h.2.2.2.1 bt ∧ h.2.2.2.1 bt ≤ 1000000 := gJ.rowl (G := gGG) hS.1 tbt rfl
          have hix43 : gIx ty x ld (h.2.2.2.1 bt : Int) (64 * dw + n0) h := ⟨pic, b0, b1, b2, dr, sk, bt, n0, c0, i0, dw, ⟨tx, tdr, tsk, tbt⟩, ⟨ex2, ex3, ex4, ex0⟩, hpc, htc, ⟨en0, by omega, by omega⟩, ⟨eiv, by omega, by omega⟩, ⟨ec0, by omega, by omega⟩, ⟨by omega, by omega⟩, hrr, hrw, ⟨edw, by omega, by omega⟩, rfl⟩
          have G44 : gSg [] [] [55001, 55002, 59999] ty h ty h := gSg.ss G0 hS (by decide)
          exact gz_end (I := .new 84) (len := 3) rfl (Or.inr (by decide)) ⟨ty, G44, ld, (h.2.2.2.1 bt : Int), (64 * dw + n0), (by omega), (by omega), (by omega), (by omega), (by omega), (by omega), hix43, Or.inr ⟨rfl, Or.inl ⟨rfl, (by omega)⟩, (by omega), (by dsimp only; omega), (by dsimp only; omega), (by omega), (by omega)⟩⟩
set_option maxRecDepth 20000 in
set_option maxHeartbeats 4000000 in
theorem cl_DctFilter_scan (d : Nat) {ty : Nat → Nat} {h : gH} (hJ : gJ rT 1027 ty h) (x : Nat) (tx : ty x = 50) (a : Int) (ra : (-2147483648) ≤ a ∧ a ≤ 2147483647) (b : Int) (rb : (-2147483648) ≤ b ∧ b ≤ 2147483647) (t : Int) (rt : (-2147483648) ≤ t ∧ t ≤ 2147483647) (f : Nat → Int) (ld : Int) (rld : 0 ≤ ld ∧ ld ≤ 192) (lb : Int) (rlb : 1024 ≤ lb ∧ lb ≤ 1000000) (iv : Int) (riv : 0 ≤ iv ∧ iv ≤ 2058) (uq : gUq ty) (hyix : gIx ty x ld lb iv h) (hyf64 : gRow ty 64 f h) : gz gPP gGG gcn (d + 3) gt61 0 (gent [.ref x, .int (zi a), .int (zi b), .int (zi t)] 4) [] h (fun q _ => ∃ ty9 : Nat → Nat, gSg [] [] [55008, 60999, 61999, 62999, 63999, 64999] ty h ty9 q.2.2 ∧ ∃ z ld1 lb1 iv1 : Int, gfin gt61 q.1 q.2.1 = some (some (.int (zi z))) ∧ 0 ≤ z ∧ z ≤ 10 ∧ 0 ≤ ld1 ∧ ld1 ≤ 192 ∧ 1024 ≤ lb1 ∧ lb1 ≤ 1000000 ∧ 0 ≤ iv1 ∧ iv1 ≤ 2058 ∧ (iv1 / 64 = iv / 64) ∧ (1024 * (((q.2.2.1 : Int) - h.1) - 31 - 2 * (ld1 - ld)) ≤ lb1 - lb) ∧ (((q.2.2.2.1 : Int) - h.2.1) ≤ 4303 + 12480 * (ld1 - ld) + 2 * (lb1 - lb)) ∧ (ld ≤ ld1) ∧ (lb ≤ lb1) ∧ (gIx ty9 x ld1 lb1 iv1 q.2.2) ∧ (gSz f (iv % 64) a b t z (iv1 % 64)) ∧ (gSx ty9 64 f (iv % 64) a b t q.2.2)) := by
  have hS : gSs rT 1027 ty [55008, 60999, 61999, 62999, 63999, 64999] h h := gSs.rf hJ
  have G0 : gSg [] [] [55008, 60999, 61999, 62999, 63999, 64999] ty h ty h := gSg.rf hJ (fun x hx => by cases hx)
  obtain ⟨pic, b0, b1, b2, dr, sk, bt, n0, c0, i0, dw, ⟨_, tdr, tsk, tbt⟩, ⟨ex2, ex3, ex4, ex0⟩, hpc, htc, ⟨en0, rn0⟩, ⟨eiv, ri0⟩, ⟨ec0, rc0⟩, ⟨lc0, llb⟩, hrr, hrw, ⟨edw, rdw⟩, hcd⟩ := hyix
  have tpic := hpc.1.1
  have tb0 := hpc.1.2.1
  have tb1 := hpc.1.2.2.1
  have tb2 := hpc.1.2.2.2
  refine gz_s 1 (pc' := 1) (L' := [some (.ref x), some (.int (zi a)), some (.int (zi b)), some (.int (zi t))]) (S' := [.ref x]) rfl ?_
  refine gs_gtk rfl (by decide) rfl hS.1 tx rfl rfl ex3 ?_
  refine gz_s 3 (pc' := 7) (L' := [some (.ref x), some (.int (zi a)), some (.int (zi b)), some (.int (zi t))]) (S' := [.int (zi t), .int (zi b), .int (zi a), .ref dr]) rfl ?_
  refine gz_call rfl (by decide) rfl (by decide) (by decide) (gcal_of rfl rfl rfl (Nat.le_of_ble_eq_true rfl) (gJ.recv (G := gGG) hS.1 tdr rfl rfl)) (cl_Draft_tellScan _ hS.1 dr tdr a ⟨by omega, by omega⟩ b ⟨by omega, by omega⟩ t ⟨by omega, by omega⟩ n0 en0 ⟨by omega, by omega⟩ f uq htc hyf64) (fun q1 _ wq1 => ?_)
  obtain ⟨pq1, oq1, hq1⟩ := q1
  obtain ⟨xq1, zq1, fq1_0, gq1, aq1, bq1, efq1_0, afq1_0, bfq1_0, yq1_0, yq1_1, yq1_2⟩ := wq1
  refine ⟨_, gq1, ?_⟩
  show gz gPP gGG gcn _ _ 10 [some (.ref x), some (.int (zi a)), some (.int (zi b)), some (.int (zi t))] [.int (zi zq1)] hq1 _
  have sq1 : gSs rT 1027 ty [55008, 60999, 61999, 62999, 63999, 64999] h hq1 := gSs.tr hS xq1 (by decide)
  have s2 := (xq1.2.2.2.2.2 x 2 (by rw [tx]; decide)).trans ex2
  have s3 := (xq1.2.2.2.2.2 x 3 (by rw [tx]; decide)).trans ex3
  have s4 := (xq1.2.2.2.2.2 x 4 (by rw [tx]; decide)).trans ex4
  have s5 := (xq1.2.2.2.2.2 sk 0 (by rw [tsk]; decide)).trans ex0
  have s6 := (xq1.2.2.2.2.2 dr 3 (by rw [tdr]; decide)).trans eiv
  have s7 := (xq1.2.2.2.2.2 dr 1 (by rw [tdr]; decide)).trans edw
  have s8 := (xq1.2.2.2.2.2 sk 1 (by rw [tsk]; decide)).trans ec0
  have pr9 := gPC.fr xq1.2 (by decide) hpc
  have pr10 := gRr.fr xq1.2 (by decide) hrr
  have pr11 := gRw.fr xq1.2 (by decide) hrw
  have k12 := sq1.2.1
  have k12b := sq1.2.2.1
  have hl13 : hq1.2.2.2.1 bt = h.2.2.2.1 bt := congrFun sq1.2.2.2.2.1 bt
  have hl14 : 1024 ≤ hq1.2.2.2.1 bt ∧ hq1.2.2.2.1 bt ≤ 1000000 := gJ.rowl (G := gGG) sq1.1 tbt rfl
  have k15 := sq1.2.1
  have k15b := sq1.2.2.1
  have hl16 : hq1.2.2.2.1 bt = h.2.2.2.1 bt := congrFun sq1.2.2.2.2.1 bt
  have hix17 : gIx ty x ld (hq1.2.2.2.1 bt : Int) (64 * dw + fq1_0) hq1 := ⟨pic, b0, b1, b2, dr, sk, bt, fq1_0, c0, i0, dw, ⟨tx, tdr, tsk, tbt⟩, ⟨s2, s3, s4, s5⟩, pr9, yq1_0, ⟨efq1_0, by omega, by omega⟩, ⟨s6, by omega, by omega⟩, ⟨s8, by omega, by omega⟩, ⟨by omega, by omega⟩, pr10, pr11, ⟨s7, by omega, by omega⟩, rfl⟩
  have hsz18 : gSz f (iv % 64) a b t zq1 ((64 * dw + fq1_0) % 64) := by
    rw [(by omega : iv % 64 = n0), (by omega : (64 * dw + fq1_0) % 64 = fq1_0)]
    exact yq1_1
  have hsx19 : gSx ty 64 f (iv % 64) a b t hq1 := by
    rw [(by omega : iv % 64 = n0)]
    exact yq1_2
  have G20 : gSg [] [] [55008, 60999, 61999, 62999, 63999, 64999] ty h ty hq1 := gSg.ss G0 sq1 (by decide)
  exact gz_end (I := .ireturn) (len := 1) rfl (Or.inl rfl) ⟨ty, G20, zq1, ld, (hq1.2.2.2.1 bt : Int), (64 * dw + fq1_0), rfl, (by omega), (by omega), (by omega), (by omega), (by omega), (by omega), (by omega), (by omega), (by omega), (by dsimp only; omega), (by dsimp only; omega), (by omega), (by omega), hix17, hsz18, hsx19⟩
set_option maxRecDepth 20000 in
set_option maxHeartbeats 4000000 in
theorem cl_DctFilter_restart (d : Nat) {ty : Nat → Nat} {h : gH} (hJ : gJ rT 1027 ty h) (x : Nat) (tx : ty x = 50) (n : Int) (rn : (-2147483648) ≤ n ∧ n ≤ 2147483647) (ld : Int) (rld : 0 ≤ ld ∧ ld ≤ 192) (lb : Int) (rlb : 1024 ≤ lb ∧ lb ≤ 1000000) (iv : Int) (riv : 0 ≤ iv ∧ iv ≤ 2058) (uq : gUq ty) (hyix : gIx ty x ld lb iv h) : gz gPP gGG gcn (d + 0) gt88 0 (gent [.ref x, .int (zi n)] 3) [] h (fun q _ => ∃ ty9 : Nat → Nat, gSg [] [] [55003] ty h ty9 q.2.2 ∧ ∃ ld1 lb1 iv1 : Int, 0 ≤ ld1 ∧ ld1 ≤ 192 ∧ 1024 ≤ lb1 ∧ lb1 ≤ 1000000 ∧ 0 ≤ iv1 ∧ iv1 ≤ 2058 ∧ (gIx ty9 x ld1 lb1 iv1 q.2.2) ∧ ((∃ z : Int, gfin gt88 q.1 q.2.1 = some (some (.int (zi z))) ∧ 0 ≤ z ∧ z ≤ 100 ∧ (iv1 = iv) ∧ (1024 * (((q.2.2.1 : Int) - h.1) - 31 - 2 * (ld1 - ld)) ≤ lb1 - lb) ∧ (((q.2.2.2.1 : Int) - h.2.1) ≤ 4303 + 12480 * (ld1 - ld) + 2 * (lb1 - lb)) ∧ (ld ≤ ld1) ∧ (lb ≤ lb1)) ∨ (q.2.1 = [] ∧ ((q.1 = 10)) ∧ (iv1 = iv) ∧ (1024 * (((q.2.2.1 : Int) - h.1) - 31 - 2 * (ld1 - ld)) ≤ lb1 - lb) ∧ (((q.2.2.2.1 : Int) - h.2.1) ≤ 4303 + 12480 * (ld1 - ld) + 2 * (lb1 - lb)) ∧ (ld ≤ ld1) ∧ (lb ≤ lb1)))) := by
  have hS : gSs rT 1027 ty [55003] h h := gSs.rf hJ
  have G0 : gSg [] [] [55003] ty h ty h := gSg.rf hJ (fun x hx => by cases hx)
  obtain ⟨pic, b0, b1, b2, dr, sk, bt, n0, c0, i0, dw, ⟨_, tdr, tsk, tbt⟩, ⟨ex2, ex3, ex4, ex0⟩, hpc, htc, ⟨en0, rn0⟩, ⟨eiv, ri0⟩, ⟨ec0, rc0⟩, ⟨lc0, llb⟩, hrr, hrw, ⟨edw, rdw⟩, hcd⟩ := hyix
  have tpic := hpc.1.1
  have tb0 := hpc.1.2.1
  have tb1 := hpc.1.2.2.1
  have tb2 := hpc.1.2.2.2
  refine gz_s 1 (pc' := 1) (L' := [some (.ref x), some (.int (zi n)), none]) (S' := [.int (zi n)]) rfl ?_
  by_cases hc1 : (n : Int) < 0
  · refine gy_ifT (pc' := 10) rfl (by decide) (by decide) (by omega) hc1 ?_
    have hl2 : 1024 ≤ h.2.2.2.1 bt ∧ h.2.2.2.1 bt ≤ 1000000 := gJ.rowl (G := gGG) hS.1 tbt rfl
    have hix3 : gIx ty x ld (h.2.2.2.1 bt : Int) (64 * dw + n0) h := ⟨pic, b0, b1, b2, dr, sk, bt, n0, c0, i0, dw, ⟨tx, tdr, tsk, tbt⟩, ⟨ex2, ex3, ex4, ex0⟩, hpc, htc, ⟨en0, by omega, by omega⟩, ⟨eiv, by omega, by omega⟩, ⟨ec0, by omega, by omega⟩, ⟨by omega, by omega⟩, hrr, hrw, ⟨edw, by omega, by omega⟩, rfl⟩
    have G4 : gSg [] [] [55003] ty h ty h := gSg.ss G0 hS (by decide)
    exact gz_end (I := .new 134) (len := 3) rfl (Or.inr (by decide)) ⟨ty, G4, ld, (h.2.2.2.1 bt : Int), (64 * dw + n0), (by omega), (by omega), (by omega), (by omega), (by omega), (by omega), hix3, Or.inr ⟨rfl, rfl, (by omega), (by dsimp only; omega), (by dsimp only; omega), (by omega), (by omega)⟩⟩
  · refine gy_ifF rfl (by decide) (by decide) (by omega) hc1 ?_
    refine gz_s 2 (pc' := 7) (L' := [some (.ref x), some (.int (zi n)), none]) (S' := [.int (zi 100), .int (zi n)]) rfl ?_
    by_cases hc5 : (n : Int) ≤ 100
    · refine gy_icT (pc' := 20) rfl (by decide) (by decide) (by omega) (by omega) hc5 ?_
      refine gz_s 1 (pc' := 21) (L' := [some (.ref x), some (.int (zi n)), none]) (S' := [.ref x]) rfl ?_
      refine gs_gtk rfl (by decide) rfl hS.1 tx rfl rfl ex3 ?_
      refine gs_gtk rfl (by decide) rfl hS.1 tdr rfl rfl eiv ?_
      refine gz_s 2 (pc' := 29) (L' := [some (.ref x), some (.int (zi n)), some (.int (zi i0))]) (S' := [.ref x]) rfl ?_
      refine gs_gtk rfl (by decide) rfl hS.1 tx rfl rfl ex3 ?_
      refine gz_s 1 (pc' := 33) (L' := [some (.ref x), some (.int (zi n)), some (.int (zi i0))]) (S' := [.int (zi n), .ref dr]) rfl ?_
      refine gs_put rfl (by decide) rfl hS tdr rfl rfl rfl rfl (Or.inl rfl) (by decide) (by omega) (by omega) (fun h6 sh6 eh6 fh6 => ?_)
      have pr7 := gPC.pk fh6 (sh6.2.2.2.2.1.trans hS.2.2.2.2.1.symm) tdr (by decide) hpc
      have pr8 := gTc.pt fh6 tdr (by decide) htc
      have pr9 := gRr.pk fh6 (sh6.2.2.2.2.1.trans hS.2.2.2.2.1.symm) tdr (by decide) hrr
      have pr10 := gRw.pk fh6 (sh6.2.2.2.2.1.trans hS.2.2.2.2.1.symm) tdr (by decide) hrw
      have s11 := (fh6 x 2 (fun q => absurd q.2 (by decide))).trans ex2
      have s12 := (fh6 x 3 (fun q => absurd (((tx).symm.trans (congrArg ty q.1)).trans tdr) (by decide))).trans ex3
      have s13 := (fh6 x 4 (fun q => absurd q.2 (by decide))).trans ex4
      have s14 := (fh6 sk 0 (fun q => absurd q.2 (by decide))).trans ex0
      have s15 := (fh6 dr 8 (fun q => absurd q.2 (by decide))).trans en0
      have s16 := (fh6 dr 1 (fun q => absurd q.2 (by decide))).trans edw
      have s17 := (fh6 sk 1 (fun q => absurd q.2 (by decide))).trans ec0
      refine gz_s 1 (pc' := 37) (L' := [some (.ref x), some (.int (zi n)), some (.int (zi i0))]) (S' := [.int (zi i0)]) rfl ?_
      have k18 := sh6.2.1
      have k18b := sh6.2.2.1
      have hl19 : h6.2.2.2.1 bt = h.2.2.2.1 bt := congrFun sh6.2.2.2.2.1 bt
      have hl20 : 1024 ≤ h6.2.2.2.1 bt ∧ h6.2.2.2.1 bt ≤ 1000000 := gJ.rowl (G := gGG) sh6.1 tbt rfl
      have k21 := sh6.2.1
      have k21b := sh6.2.2.1
      have hl22 : h6.2.2.2.1 bt = h.2.2.2.1 bt := congrFun sh6.2.2.2.2.1 bt
      have hix23 : gIx ty x ld (h6.2.2.2.1 bt : Int) (64 * dw + n0) h6 := ⟨pic, b0, b1, b2, dr, sk, bt, n0, c0, n, dw, ⟨tx, tdr, tsk, tbt⟩, ⟨s11, s12, s13, s14⟩, pr7, pr8, ⟨s15, by omega, by omega⟩, ⟨eh6, by omega, by omega⟩, ⟨s17, by omega, by omega⟩, ⟨by omega, by omega⟩, pr9, pr10, ⟨s16, by omega, by omega⟩, rfl⟩
      have G24 : gSg [] [] [55003] ty h ty h6 := gSg.ss G0 sh6 (by decide)
      exact gz_end (I := .ireturn) (len := 1) rfl (Or.inl rfl) ⟨ty, G24, ld, (h6.2.2.2.1 bt : Int), (64 * dw + n0), (by omega), (by omega), (by omega), (by omega), (by omega), (by omega), hix23, Or.inl ⟨i0, rfl, (by omega), (by omega), (by omega), (by dsimp only; omega), (by dsimp only; omega), (by omega), (by omega)⟩⟩
    · refine gy_icF rfl (by decide) (by decide) (by omega) (by omega) hc5 ?_
      have hl25 : 1024 ≤ h.2.2.2.1 bt ∧ h.2.2.2.1 bt ≤ 1000000 := gJ.rowl (G := gGG) hS.1 tbt rfl
      have hix26 : gIx ty x ld (h.2.2.2.1 bt : Int) (64 * dw + n0) h := ⟨pic, b0, b1, b2, dr, sk, bt, n0, c0, i0, dw, ⟨tx, tdr, tsk, tbt⟩, ⟨ex2, ex3, ex4, ex0⟩, hpc, htc, ⟨en0, by omega, by omega⟩, ⟨eiv, by omega, by omega⟩, ⟨ec0, by omega, by omega⟩, ⟨by omega, by omega⟩, hrr, hrw, ⟨edw, by omega, by omega⟩, rfl⟩
      have G27 : gSg [] [] [55003] ty h ty h := gSg.ss G0 hS (by decide)
      exact gz_end (I := .new 134) (len := 3) rfl (Or.inr (by decide)) ⟨ty, G27, ld, (h.2.2.2.1 bt : Int), (64 * dw + n0), (by omega), (by omega), (by omega), (by omega), (by omega), (by omega), hix26, Or.inr ⟨rfl, rfl, (by omega), (by dsimp only; omega), (by dsimp only; omega), (by omega), (by omega)⟩⟩
set_option maxRecDepth 20000 in
set_option maxHeartbeats 4000000 in
theorem cl_DctFilter_octet (d : Nat) {ty : Nat → Nat} {h : gH} (hJ : gJ rT 1027 ty h) (x : Nat) (tx : ty x = 50) (i : Int) (ri : (-2147483648) ≤ i ∧ i ≤ 2147483647) (ld : Int) (rld : 0 ≤ ld ∧ ld ≤ 192) (lb : Int) (rlb : 1024 ≤ lb ∧ lb ≤ 1000000) (iv : Int) (riv : 0 ≤ iv ∧ iv ≤ 2058) (uq : gUq ty) (hyix : gIx ty x ld lb iv h) : gz gPP gGG gcn (d + 0) gt129 0 (gent [.ref x, .int (zi i)] 2) [] h (fun q _ => ∃ ty9 : Nat → Nat, gSg [] [] [] ty h ty9 q.2.2 ∧ ∃ ld1 lb1 iv1 : Int, 0 ≤ ld1 ∧ ld1 ≤ 192 ∧ 1024 ≤ lb1 ∧ lb1 ≤ 1000000 ∧ 0 ≤ iv1 ∧ iv1 ≤ 2058 ∧ (gIx ty9 x ld1 lb1 iv1 q.2.2) ∧ ((∃ z : Int, gfin gt129 q.1 q.2.1 = some (some (.int (zi z))) ∧ (-128) ≤ z ∧ z ≤ 127 ∧ (iv1 = iv) ∧ (1024 * (((q.2.2.1 : Int) - h.1) - 31 - 2 * (ld1 - ld)) ≤ lb1 - lb) ∧ (((q.2.2.2.1 : Int) - h.2.1) ≤ 4303 + 12480 * (ld1 - ld) + 2 * (lb1 - lb)) ∧ (ld ≤ ld1) ∧ (lb ≤ lb1)) ∨ (q.2.1 = [] ∧ ((q.1 = 15)) ∧ (iv1 = iv) ∧ (1024 * (((q.2.2.1 : Int) - h.1) - 31 - 2 * (ld1 - ld)) ≤ lb1 - lb) ∧ (((q.2.2.2.1 : Int) - h.2.1) ≤ 4303 + 12480 * (ld1 - ld) + 2 * (lb1 - lb)) ∧ (ld ≤ ld1) ∧ (lb ≤ lb1)))) := by
  have hS : gSs rT 1027 ty [] h h := gSs.rf hJ
  have G0 : gSg [] [] [] ty h ty h := gSg.rf hJ (fun x hx => by cases hx)
  obtain ⟨pic, b0, b1, b2, dr, sk, bt, n0, c0, i0, dw, ⟨_, tdr, tsk, tbt⟩, ⟨ex2, ex3, ex4, ex0⟩, hpc, htc, ⟨en0, rn0⟩, ⟨eiv, ri0⟩, ⟨ec0, rc0⟩, ⟨lc0, llb⟩, hrr, hrw, ⟨edw, rdw⟩, hcd⟩ := hyix
  have tpic := hpc.1.1
  have tb0 := hpc.1.2.1
  have tb1 := hpc.1.2.2.1
  have tb2 := hpc.1.2.2.2
  refine gz_s 1 (pc' := 1) (L' := [some (.ref x), some (.int (zi i))]) (S' := [.int (zi i)]) rfl ?_
  by_cases hc1 : (i : Int) < 0
  · refine gy_ifT (pc' := 15) rfl (by decide) (by decide) (by omega) hc1 ?_
    have hl2 : 1024 ≤ h.2.2.2.1 bt ∧ h.2.2.2.1 bt ≤ 1000000 := gJ.rowl (G := gGG) hS.1 tbt rfl
    have hix3 : gIx ty x ld (h.2.2.2.1 bt : Int) (64 * dw + n0) h := ⟨pic, b0, b1, b2, dr, sk, bt, n0, c0, i0, dw, ⟨tx, tdr, tsk, tbt⟩, ⟨ex2, ex3, ex4, ex0⟩, hpc, htc, ⟨en0, by omega, by omega⟩, ⟨eiv, by omega, by omega⟩, ⟨ec0, by omega, by omega⟩, ⟨by omega, by omega⟩, hrr, hrw, ⟨edw, by omega, by omega⟩, rfl⟩
    have G4 : gSg [] [] [] ty h ty h := gSg.ss G0 hS (by decide)
    exact gz_end (I := .new 108) (len := 3) rfl (Or.inr (by decide)) ⟨ty, G4, ld, (h.2.2.2.1 bt : Int), (64 * dw + n0), (by omega), (by omega), (by omega), (by omega), (by omega), (by omega), hix3, Or.inr ⟨rfl, rfl, (by omega), (by dsimp only; omega), (by dsimp only; omega), (by omega), (by omega)⟩⟩
  · refine gy_ifF rfl (by decide) (by decide) (by omega) hc1 ?_
    refine gz_s 2 (pc' := 6) (L' := [some (.ref x), some (.int (zi i))]) (S' := [.ref x, .int (zi i)]) rfl ?_
    refine gs_gtk rfl (by decide) rfl hS.1 tx rfl rfl ex4 ?_
    refine gs_gtk rfl (by decide) rfl hS.1 tsk rfl rfl ec0 ?_
    by_cases hc5 : (i : Int) < c0
    · refine gy_icT (pc' := 25) rfl (by decide) (by decide) (by omega) (by omega) hc5 ?_
      refine gz_s 1 (pc' := 26) (L' := [some (.ref x), some (.int (zi i))]) (S' := [.ref x]) rfl ?_
      refine gs_gtk rfl (by decide) rfl hS.1 tx rfl rfl ex4 ?_
      refine gs_gtk rfl (by decide) rfl hS.1 tsk rfl rfl ex0 ?_
      refine gz_s 1 (pc' := 33) (L' := [some (.ref x), some (.int (zi i))]) (S' := [.int (zi i), .ref bt]) rfl ?_
      have hl6 : 1024 ≤ h.2.2.2.1 bt ∧ h.2.2.2.1 bt ≤ 1000000 := gJ.rowl (G := gGG) hS.1 tbt rfl
      have hl7 : h.2.2.2.1 bt = h.2.2.2.1 bt := congrFun hS.2.2.2.2.1 bt
      refine gs_bald rfl (by decide) hS.1 tbt rfl rfl (Or.inl rfl) (by decide) (fun _ => rfl) (by omega) (by omega) (fun z8 ez8 az8 bz8 => ?_)
      have hl9 : 1024 ≤ h.2.2.2.1 bt ∧ h.2.2.2.1 bt ≤ 1000000 := gJ.rowl (G := gGG) hS.1 tbt rfl
      have hix10 : gIx ty x ld (h.2.2.2.1 bt : Int) (64 * dw + n0) h := ⟨pic, b0, b1, b2, dr, sk, bt, n0, c0, i0, dw, ⟨tx, tdr, tsk, tbt⟩, ⟨ex2, ex3, ex4, ex0⟩, hpc, htc, ⟨en0, by omega, by omega⟩, ⟨eiv, by omega, by omega⟩, ⟨ec0, by omega, by omega⟩, ⟨by omega, by omega⟩, hrr, hrw, ⟨edw, by omega, by omega⟩, rfl⟩
      have G11 : gSg [] [] [] ty h ty h := gSg.ss G0 hS (by decide)
      exact gz_end (I := .ireturn) (len := 1) rfl (Or.inl rfl) ⟨ty, G11, ld, (h.2.2.2.1 bt : Int), (64 * dw + n0), (by omega), (by omega), (by omega), (by omega), (by omega), (by omega), hix10, Or.inl ⟨z8, (gfin_b rfl rfl (zi_in8 (by omega) (by omega))), (by omega), (by omega), (by omega), (by dsimp only; omega), (by dsimp only; omega), (by omega), (by omega)⟩⟩
    · refine gy_icF rfl (by decide) (by decide) (by omega) (by omega) hc5 ?_
      have hl12 : 1024 ≤ h.2.2.2.1 bt ∧ h.2.2.2.1 bt ≤ 1000000 := gJ.rowl (G := gGG) hS.1 tbt rfl
      have hix13 : gIx ty x ld (h.2.2.2.1 bt : Int) (64 * dw + n0) h := ⟨pic, b0, b1, b2, dr, sk, bt, n0, c0, i0, dw, ⟨tx, tdr, tsk, tbt⟩, ⟨ex2, ex3, ex4, ex0⟩, hpc, htc, ⟨en0, by omega, by omega⟩, ⟨eiv, by omega, by omega⟩, ⟨ec0, by omega, by omega⟩, ⟨by omega, by omega⟩, hrr, hrw, ⟨edw, by omega, by omega⟩, rfl⟩
      have G14 : gSg [] [] [] ty h ty h := gSg.ss G0 hS (by decide)
      exact gz_end (I := .new 108) (len := 3) rfl (Or.inr (by decide)) ⟨ty, G14, ld, (h.2.2.2.1 bt : Int), (64 * dw + n0), (by omega), (by omega), (by omega), (by omega), (by omega), (by omega), hix13, Or.inr ⟨rfl, rfl, (by omega), (by dsimp only; omega), (by dsimp only; omega), (by omega), (by omega)⟩⟩
set_option maxRecDepth 20000 in
set_option maxHeartbeats 4000000 in
theorem cl_DctFilter_take (d : Nat) {ty : Nat → Nat} {h : gH} (hJ : gJ rT 1027 ty h) (x : Nat) (tx : ty x = 50) (ld : Int) (rld : 0 ≤ ld ∧ ld ≤ 192) (lb : Int) (rlb : 1024 ≤ lb ∧ lb ≤ 1000000) (iv : Int) (riv : 0 ≤ iv ∧ iv ≤ 2058) (uq : gUq ty) (hyix : gIx ty x ld lb iv h) : gz gPP gGG gcn (d + 1) gt67 0 (gent [.ref x] 2) [] h (fun q _ => ∃ ty9 : Nat → Nat, gSg [] [] [51001, 52999] ty h ty9 q.2.2 ∧ ∃ z ld1 lb1 iv1 : Int, gfin gt67 q.1 q.2.1 = some (some (.int (zi z))) ∧ 0 ≤ z ∧ z ≤ 2000 ∧ 0 ≤ ld1 ∧ ld1 ≤ 192 ∧ 1024 ≤ lb1 ∧ lb1 ≤ 1000000 ∧ 0 ≤ iv1 ∧ iv1 ≤ 2058 ∧ (iv1 = iv) ∧ (1024 * (((q.2.2.1 : Int) - h.1) - 31 - 2 * (ld1 - ld)) ≤ lb1 - lb) ∧ (((q.2.2.2.1 : Int) - h.2.1) ≤ 4303 + 12480 * (ld1 - ld) + 2 * (lb1 - lb)) ∧ (ld ≤ ld1) ∧ (lb ≤ lb1) ∧ (gIx ty9 x ld1 lb1 iv1 q.2.2)) := by
  have hS : gSs rT 1027 ty [51001, 52999] h h := gSs.rf hJ
  have G0 : gSg [] [] [51001, 52999] ty h ty h := gSg.rf hJ (fun x hx => by cases hx)
  obtain ⟨pic, b0, b1, b2, dr, sk, bt, n0, c0, i0, dw, ⟨_, tdr, tsk, tbt⟩, ⟨ex2, ex3, ex4, ex0⟩, hpc, htc, ⟨en0, rn0⟩, ⟨eiv, ri0⟩, ⟨ec0, rc0⟩, ⟨lc0, llb⟩, hrr, hrw, ⟨edw, rdw⟩, hcd⟩ := hyix
  have tpic := hpc.1.1
  have tb0 := hpc.1.2.1
  have tb1 := hpc.1.2.2.1
  have tb2 := hpc.1.2.2.2
  refine gz_s 1 (pc' := 1) (L' := [some (.ref x), none]) (S' := [.ref x]) rfl ?_
  refine gs_gtk rfl (by decide) rfl hS.1 tx rfl rfl ex4 ?_
  refine gs_gtk rfl (by decide) rfl hS.1 tsk rfl rfl ec0 ?_
  refine gz_s 1 (pc' := 10) (L' := [some (.ref x), none]) (S' := [.int (zi 2000), .int (zi c0)]) rfl ?_
  refine gz_call rfl (by decide) rfl (by decide) (by decide) (gcal_of rfl rfl rfl (Nat.le_of_ble_eq_true rfl) rfl) (cl_Math_min _ hS.1 c0 ⟨by omega, by omega⟩ 2000 ⟨by omega, by omega⟩ ) (fun q1 _ wq1 => ?_)
  obtain ⟨pq1, oq1, hq1⟩ := q1
  obtain ⟨xq1, zq1, gq1, aq1, bq1, uq1_0, uq1_1, uq1_2⟩ := wq1
  refine ⟨_, gq1, ?_⟩
  show gz gPP gGG gcn _ _ 13 [some (.ref x), none] [.int (zi zq1)] hq1 _
  have sq1 : gSs rT 1027 ty [51001, 52999] h hq1 := gSs.tr hS xq1 (by decide)
  have s2 := (xq1.2.2.2.2.2 x 2 (by rw [tx]; decide)).trans ex2
  have s3 := (xq1.2.2.2.2.2 x 3 (by rw [tx]; decide)).trans ex3
  have s4 := (xq1.2.2.2.2.2 x 4 (by rw [tx]; decide)).trans ex4
  have s5 := (xq1.2.2.2.2.2 sk 0 (by rw [tsk]; decide)).trans ex0
  have s6 := (xq1.2.2.2.2.2 dr 8 (by rw [tdr]; decide)).trans en0
  have s7 := (xq1.2.2.2.2.2 dr 3 (by rw [tdr]; decide)).trans eiv
  have s8 := (xq1.2.2.2.2.2 dr 1 (by rw [tdr]; decide)).trans edw
  have s9 := (xq1.2.2.2.2.2 sk 1 (by rw [tsk]; decide)).trans ec0
  have pr10 := gPC.fr xq1.2 (by decide) hpc
  have pr11 := gTc.fr xq1.2 (by decide) htc
  have pr12 := gRr.fr xq1.2 (by decide) hrr
  have pr13 := gRw.fr xq1.2 (by decide) hrw
  refine gz_s 2 (pc' := 15) (L' := [some (.ref x), some (.int (zi zq1))]) (S' := [.ref x]) rfl ?_
  refine gs_gtk rfl (by decide) rfl sq1.1 tx rfl rfl s4 ?_
  refine gs_gtk rfl (by decide) rfl sq1.1 tsk rfl rfl s5 ?_
  refine gz_s 2 (pc' := 23) (L' := [some (.ref x), some (.int (zi zq1))]) (S' := [.ref x, .int (zi 0), .ref bt]) rfl ?_
  refine gs_gtr rfl (by decide) rfl sq1.1 tx rfl rfl rfl (fun c14 ec14 tc14 => ?_)
  refine gs_gtr rfl (by decide) rfl sq1.1 tc14 rfl rfl rfl (fun c15 ec15 tc15 => ?_)
  refine gz_s 2 (pc' := 31) (L' := [some (.ref x), some (.int (zi zq1))]) (S' := [.int (zi zq1), .int (zi 0), .ref c15, .int (zi 0), .ref bt]) rfl ?_
  have k17 := sq1.2.1
  have k17b := sq1.2.2.1
  have hl18 : hq1.2.2.2.1 bt = h.2.2.2.1 bt := congrFun sq1.2.2.2.2.1 bt
  have hl19 : 2000 ≤ hq1.2.2.2.1 c15 ∧ hq1.2.2.2.1 c15 ≤ 2000 := gJ.rowl (G := gGG) sq1.1 tc15 rfl
  have hl20 : 1024 ≤ hq1.2.2.2.1 bt ∧ hq1.2.2.2.1 bt ≤ 1000000 := gJ.rowl (G := gGG) sq1.1 tbt rfl
  refine gs_copy rfl (by decide) (by omega) rfl sq1 tc15 rfl rfl tbt rfl rfl (Or.inr ⟨rfl, rfl⟩) (by decide) (by decide) (fun _ => rfl) (fun _ => rfl) (by decide) (by decide) (by omega) (by omega) (by omega) (by omega) (by omega) (by decide) (fun _ => (by decide : (52999 : Nat) ∈ ([51001, 52999] : List Nat))) (fun h16 sh16 f9h16 => ?_)
  have fh16 : ∀ b j, ¬ (b = c15 ∧ True) → h16.2.2.2.2 b j = hq1.2.2.2.2 b j := fun b j hn => f9h16 b j (fun e => hn ⟨e, trivial⟩)
  have pr21 := gPC.pa fh16 (sh16.2.2.2.2.1.trans sq1.2.2.2.2.1.symm) tc15 (fun _ => (by decide : ¬ (52999 : Nat) ∈ gPCp)) pr10
  have pr22 := gTc.pa fh16 tc15 (by decide) pr11
  have pr23 := gRr.pa fh16 (sh16.2.2.2.2.1.trans sq1.2.2.2.2.1.symm) tc15 (fun _ => (by decide : ¬ (52999 : Nat) ∈ gRrp)) pr12
  have pr24 := gRw.pa fh16 (sh16.2.2.2.2.1.trans sq1.2.2.2.2.1.symm) tc15 (fun _ => (by decide : ¬ (52999 : Nat) ∈ gRwp)) pr13
  have s25 := (fh16 x 2 (fun q => absurd (((tx).symm.trans (congrArg ty q.1)).trans tc15) (by decide))).trans s2
  have s26 := (fh16 x 3 (fun q => absurd (((tx).symm.trans (congrArg ty q.1)).trans tc15) (by decide))).trans s3
  have s27 := (fh16 x 4 (fun q => absurd (((tx).symm.trans (congrArg ty q.1)).trans tc15) (by decide))).trans s4
  have s28 := (fh16 sk 0 (fun q => absurd (((tsk).symm.trans (congrArg ty q.1)).trans tc15) (by decide))).trans s5
  have s29 := (fh16 dr 8 (fun q => absurd (((tdr).symm.trans (congrArg ty q.1)).trans tc15) (by decide))).trans s6
  have s30 := (fh16 dr 3 (fun q => absurd (((tdr).symm.trans (congrArg ty q.1)).trans tc15) (by decide))).trans s7
  have s31 := (fh16 dr 1 (fun q => absurd (((tdr).symm.trans (congrArg ty q.1)).trans tc15) (by decide))).trans s8
  have s32 := (fh16 sk 1 (fun q => absurd (((tsk).symm.trans (congrArg ty q.1)).trans tc15) (by decide))).trans s9
  have s33 := (fh16 x 0 (fun q => absurd (((tx).symm.trans (congrArg ty q.1)).trans tc15) (by decide))).trans ec14
  have s34 := (fh16 c14 0 (fun q => absurd (((tc14).symm.trans (congrArg ty q.1)).trans tc15) (by decide))).trans ec15
  refine gz_s 1 (pc' := 35) (L' := [some (.ref x), some (.int (zi zq1))]) (S' := [.ref x]) rfl ?_
  refine gs_gtk rfl (by decide) rfl sh16.1 tx rfl rfl s33 ?_
  refine gz_s 1 (pc' := 39) (L' := [some (.ref x), some (.int (zi zq1))]) (S' := [.int (zi zq1), .ref c14]) rfl ?_
  refine gs_put rfl (by decide) rfl sh16 tc14 rfl rfl rfl rfl (Or.inl rfl) (by decide) (by omega) (by omega) (fun h35 sh35 eh35 fh35 => ?_)
  have pr36 := gPC.pk fh35 (sh35.2.2.2.2.1.trans sh16.2.2.2.2.1.symm) tc14 (by decide) pr21
  have pr37 := gTc.pt fh35 tc14 (by decide) pr22
  have pr38 := gRr.pk fh35 (sh35.2.2.2.2.1.trans sh16.2.2.2.2.1.symm) tc14 (by decide) pr23
  have pr39 := gRw.pk fh35 (sh35.2.2.2.2.1.trans sh16.2.2.2.2.1.symm) tc14 (by decide) pr24
  have s40 := (fh35 x 2 (fun q => absurd q.2 (by decide))).trans s25
  have s41 := (fh35 x 3 (fun q => absurd q.2 (by decide))).trans s26
  have s42 := (fh35 x 4 (fun q => absurd q.2 (by decide))).trans s27
  have s43 := (fh35 sk 0 (fun q => absurd q.2 (by decide))).trans s28
  have s44 := (fh35 dr 8 (fun q => absurd q.2 (by decide))).trans s29
  have s45 := (fh35 dr 3 (fun q => absurd q.2 (by decide))).trans s30
  have s46 := (fh35 dr 1 (fun q => absurd (((tdr).symm.trans (congrArg ty q.1)).trans tc14) (by decide))).trans s31
  have s47 := (fh35 sk 1 (fun q => absurd (((tsk).symm.trans (congrArg ty q.1)).trans tc14) (by decide))).trans s32
  have s48 := (fh35 x 0 (fun q => absurd q.2 (by decide))).trans s33
  have s49 := (fh35 c14 0 (fun q => absurd q.2 (by decide))).trans s34
  refine gz_s 1 (pc' := 43) (L' := [some (.ref x), some (.int (zi zq1))]) (S' := [.int (zi zq1)]) rfl ?_
  have k50 := sh35.2.1
  have k50b := sh35.2.2.1
  have hl51 : h35.2.2.2.1 bt = h.2.2.2.1 bt := congrFun sh35.2.2.2.2.1 bt
  have hl52 : 1024 ≤ h35.2.2.2.1 bt ∧ h35.2.2.2.1 bt ≤ 1000000 := gJ.rowl (G := gGG) sh35.1 tbt rfl
  have k53 := sh35.2.1
  have k53b := sh35.2.2.1
  have hl54 : h35.2.2.2.1 bt = h.2.2.2.1 bt := congrFun sh35.2.2.2.2.1 bt
  have hix55 : gIx ty x ld (h35.2.2.2.1 bt : Int) (64 * dw + n0) h35 := ⟨pic, b0, b1, b2, dr, sk, bt, n0, c0, i0, dw, ⟨tx, tdr, tsk, tbt⟩, ⟨s40, s41, s42, s43⟩, pr36, pr37, ⟨s44, by omega, by omega⟩, ⟨s45, by omega, by omega⟩, ⟨s47, by omega, by omega⟩, ⟨by omega, by omega⟩, pr38, pr39, ⟨s46, by omega, by omega⟩, rfl⟩
  have G56 : gSg [] [] [51001, 52999] ty h ty h35 := gSg.ss G0 sh35 (by decide)
  exact gz_end (I := .ireturn) (len := 1) rfl (Or.inl rfl) ⟨ty, G56, zq1, ld, (h35.2.2.2.1 bt : Int), (64 * dw + n0), rfl, (by omega), (by omega), (by omega), (by omega), (by omega), (by omega), (by omega), (by omega), (by omega), (by dsimp only; omega), (by dsimp only; omega), (by omega), (by omega), hix55⟩
set_option maxRecDepth 20000 in
set_option maxHeartbeats 4000000 in
theorem cl_DctFilter_read (d : Nat) {ty : Nat → Nat} {h : gH} (hJ : gJ rT 1027 ty h) (x : Nat) (tx : ty x = 50) (ld : Int) (rld : 0 ≤ ld ∧ ld ≤ 192) (lb : Int) (rlb : 1024 ≤ lb ∧ lb ≤ 1000000) (iv : Int) (riv : 0 ≤ iv ∧ iv ≤ 2058) (uq : gUq ty) (hyix : gIx ty x ld lb iv h) : gz gPP gGG gcn (d + 8) gt7 0 (gent [.ref x] 2) [] h (fun q _ => ∃ ty9 : Nat → Nat, gSg [65, 66, 67, 68, 69, 70, 101, 102, 103, 112, 113, 200] [] [50005, 51001, 54002, 54003, 54004, 54005, 54006, 54007, 54008, 54009, 54010, 54011, 54012, 54013, 58999, 65003, 66001, 66002, 66003, 66004, 66005, 66010, 66011, 66012, 66013, 66014, 67001, 67002, 67003, 69999, 70999, 82000, 82001, 82002, 82003, 82004, 82005, 82006, 82007, 82008, 82009, 82010, 82011, 83000, 83001, 83002, 83003, 83004, 83005, 83006, 83007, 83008, 83009, 83010, 83011, 84000, 84001, 84002, 84003, 84004, 84005, 84006, 84007, 84008, 84009, 84010, 84011, 102999, 103999, 112999, 113999] ty h ty9 q.2.2 ∧ ∃ z ld1 lb1 iv1 : Int, gfin gt7 q.1 q.2.1 = some (some (.int (zi z))) ∧ (-2147483648) ≤ z ∧ z ≤ 2147483647 ∧ 0 ≤ ld1 ∧ ld1 ≤ 192 ∧ 1024 ≤ lb1 ∧ lb1 ≤ 1000000 ∧ 0 ≤ iv1 ∧ iv1 ≤ 2058 ∧ (iv1 = iv) ∧ (1024 * (((q.2.2.1 : Int) - h.1) - 31 - 2 * (ld1 - ld)) ≤ lb1 - lb) ∧ (((q.2.2.2.1 : Int) - h.2.1) ≤ 4303 + 12480 * (ld1 - ld) + 2 * (lb1 - lb)) ∧ (ld ≤ ld1) ∧ (lb ≤ lb1) ∧ (gIx ty9 x ld1 lb1 iv1 q.2.2) ∧ gUq ty9) := by
  have hS : gSs rT 1027 ty [50005, 51001, 54002, 54003, 54004, 54005, 54006, 54007, 54008, 54009, 54010, 54011, 54012, 54013, 58999, 65003, 66001, 66002, 66003, 66004, 66005, 66010, 66011, 66012, 66013, 66014, 67001, 67002, 67003, 69999, 70999, 82000, 82001, 82002, 82003, 82004, 82005, 82006, 82007, 82008, 82009, 82010, 82011, 83000, 83001, 83002, 83003, 83004, 83005, 83006, 83007, 83008, 83009, 83010, 83011, 84000, 84001, 84002, 84003, 84004, 84005, 84006, 84007, 84008, 84009, 84010, 84011, 102999, 103999, 112999, 113999] h h := gSs.rf hJ
  have G0 : gSg [65, 66, 67, 68, 69, 70, 101, 102, 103, 112, 113, 200] [] [50005, 51001, 54002, 54003, 54004, 54005, 54006, 54007, 54008, 54009, 54010, 54011, 54012, 54013, 58999, 65003, 66001, 66002, 66003, 66004, 66005, 66010, 66011, 66012, 66013, 66014, 67001, 67002, 67003, 69999, 70999, 82000, 82001, 82002, 82003, 82004, 82005, 82006, 82007, 82008, 82009, 82010, 82011, 83000, 83001, 83002, 83003, 83004, 83005, 83006, 83007, 83008, 83009, 83010, 83011, 84000, 84001, 84002, 84003, 84004, 84005, 84006, 84007, 84008, 84009, 84010, 84011, 102999, 103999, 112999, 113999] ty h ty h := gSg.rf hJ (fun x hx => by cases hx)
  obtain ⟨pic, b0, b1, b2, dr, sk, bt, n0, c0, i0, dw, ⟨_, tdr, tsk, tbt⟩, ⟨ex2, ex3, ex4, ex0⟩, hpc, htc, ⟨en0, rn0⟩, ⟨eiv, ri0⟩, ⟨ec0, rc0⟩, ⟨lc0, llb⟩, hrr, hrw, ⟨edw, rdw⟩, hcd⟩ := hyix
  have tpic := hpc.1.1
  have tb0 := hpc.1.2.1
  have tb1 := hpc.1.2.2.1
  have tb2 := hpc.1.2.2.2
  refine gz_s 1 (pc' := 1) (L' := [some (.ref x), none]) (S' := [.ref x]) rfl ?_
  refine gs_nul rfl (by decide) rfl hS.1 tx rfl rfl rfl (fun ec1 => ?_) (fun c1 ec1 tc1 => ?_)
  · skip
    have no9 := gRr.no hrr ec1
    refine gz_s 2 (pc' := 8) (L' := [some (.ref x), none]) (S' := [.ref x]) rfl ?_
    refine gs_newo rfl (by decide) rfl hS.1 (Nat.le_of_lt (Nat.lt_of_le_of_lt (gJ.cell hS.1 tx rfl).1 (gJ.cell hS.1 tx rfl).2.1)) (fun ty2 h3 c4 g5 tc4 kc4 zc4 nc4 mc4 ec4 dc4 => ?_)
    have mfc4 : h3.2.1 = h.2.1 + 4 := mc4
    have gac4 : h.1 ≤ c4 := by have h8 := G0.2.1; have h9 := hS.2.1; omega
    have nnc4 : 1027 ≤ c4 := by have h8 := (Nat.le_of_lt (Nat.lt_of_le_of_lt (gJ.cell hS.1 tx rfl).1 (gJ.cell hS.1 tx rfl).2.1)); omega
    have llc4 := Nat.lt_of_lt_of_eq (Nat.lt_succ_of_le (Nat.le_of_eq ec4)) nc4.symm
    have G6 : gSg [65, 66, 67, 68, 69, 70, 101, 102, 103, 112, 113, 200] [] [50005, 51001, 54002, 54003, 54004, 54005, 54006, 54007, 54008, 54009, 54010, 54011, 54012, 54013, 58999, 65003, 66001, 66002, 66003, 66004, 66005, 66010, 66011, 66012, 66013, 66014, 67001, 67002, 67003, 69999, 70999, 82000, 82001, 82002, 82003, 82004, 82005, 82006, 82007, 82008, 82009, 82010, 82011, 83000, 83001, 83002, 83003, 83004, 83005, 83006, 83007, 83008, 83009, 83010, 83011, 84000, 84001, 84002, 84003, 84004, 84005, 84006, 84007, 84008, 84009, 84010, 84011, 102999, 103999, 112999, 113999] ty h ty2 h3 := gSg.tr (gSg.ss G0 hS (by decide)) g5 (by decide) (by decide) (fun x hx => by cases hx)
    have t7 : ty2 x = 50 := gSg.typ g5 hS.1 tx rfl
    have t8 : ty2 pic = 54 := gSg.typ g5 hS.1 tpic rfl
    have t9 : ty2 b0 = 82 := gSg.typ g5 hS.1 tb0 rfl
    have t10 : ty2 b1 = 83 := gSg.typ g5 hS.1 tb1 rfl
    have t11 : ty2 b2 = 84 := gSg.typ g5 hS.1 tb2 rfl
    have t12 : ty2 dr = 55 := gSg.typ g5 hS.1 tdr rfl
    have t13 : ty2 sk = 56 := gSg.typ g5 hS.1 tsk rfl
    have t14 : ty2 bt = 114 := gSg.typ g5 hS.1 tbt rfl
    have hl15 : h3.2.2.2.1 bt = h.2.2.2.1 bt := gSg.len g5 hS.1 tbt rfl
    have s16 := gSg.at g5 hS.1 tx rfl (by decide) ex2
    have s17 := gSg.at g5 hS.1 tx rfl (by decide) ex3
    have s18 := gSg.at g5 hS.1 tx rfl (by decide) ex4
    have s19 := gSg.at g5 hS.1 tsk rfl (by decide) ex0
    have s20 := gSg.at g5 hS.1 tdr rfl (by decide) en0
    have s21 := gSg.at g5 hS.1 tdr rfl (by decide) eiv
    have s22 := gSg.at g5 hS.1 tdr rfl (by decide) edw
    have s23 := gSg.at g5 hS.1 tsk rfl (by decide) ec0
    have s24 := gSg.at g5 hS.1 tx rfl (by decide) ec1
    have pr25 := gPC.gr g5 hS.1 (by decide) hpc
    have pr26 := gTc.gr g5 hS.1 (by decide) (by decide) htc
    have pr27 := gRr.gr g5 hS.1 (by decide) (by decide) hrr
    have pr28 := gRw.gr g5 hS.1 (by decide) (by decide) hrw
    have pr29 : gNo [65, 66, 67, 68, 69, 70] ty2 := gNo.gr g5 (by decide) (gNo.sub (by decide) no9)
    have uq30 := gSg.uq g5 uq (by decide)
    have sS31 : gSs rT 1027 ty2 [50005, 51001, 54002, 54003, 54004, 54005, 54006, 54007, 54008, 54009, 54010, 54011, 54012, 54013, 58999, 65003, 66001, 66002, 66003, 66004, 66005, 66010, 66011, 66012, 66013, 66014, 67001, 67002, 67003, 69999, 70999, 82000, 82001, 82002, 82003, 82004, 82005, 82006, 82007, 82008, 82009, 82010, 82011, 83000, 83001, 83002, 83003, 83004, 83005, 83006, 83007, 83008, 83009, 83010, 83011, 84000, 84001, 84002, 84003, 84004, 84005, 84006, 84007, 84008, 84009, 84010, 84011, 102999, 103999, 112999, 113999] h3 h3 := gSs.rf g5.1
    refine gz_s 2 (pc' := 13) (L' := [some (.ref x), none]) (S' := [.ref x, .ref c4, .ref c4, .ref x]) rfl ?_
    refine gs_gtr rfl (by decide) rfl sS31.1 t7 rfl rfl rfl (fun c32 ec32 tc32 => ?_)
    refine gz_s 1 (pc' := 17) (L' := [some (.ref x), none]) (S' := [.ref x, .ref c32, .ref c4, .ref c4, .ref x]) rfl ?_
    refine gs_gtk rfl (by decide) rfl sS31.1 t7 rfl rfl s16 ?_
    refine gz_call rfl (by decide) rfl (by decide) (by decide) (gcal_of rfl rfl rfl (Nat.le_of_ble_eq_true rfl) rfl) (ct_Reader _ sS31.1 c4 tc4 nnc4 llc4 kc4 zc4 dc4 c32 tc32 pic t8 pr29 uq30) (fun q33 _ wq33 => ?_)
    obtain ⟨pq33, oq33, hq33⟩ := q33
    obtain ⟨tyq33, xq33, trq33_0, gq33, uq33_0, uq33_1, uqq33⟩ := wq33
    dsimp only at uq33_0 uq33_1
    refine ⟨_, gq33, ?_⟩
    show gz gPP gGG gcn _ _ 23 [some (.ref x), none] [.ref c4, .ref x] hq33 _
    have G34 : gSg [65, 66, 67, 68, 69, 70, 101, 102, 103, 112, 113, 200] [] [50005, 51001, 54002, 54003, 54004, 54005, 54006, 54007, 54008, 54009, 54010, 54011, 54012, 54013, 58999, 65003, 66001, 66002, 66003, 66004, 66005, 66010, 66011, 66012, 66013, 66014, 67001, 67002, 67003, 69999, 70999, 82000, 82001, 82002, 82003, 82004, 82005, 82006, 82007, 82008, 82009, 82010, 82011, 83000, 83001, 83002, 83003, 83004, 83005, 83006, 83007, 83008, 83009, 83010, 83011, 84000, 84001, 84002, 84003, 84004, 84005, 84006, 84007, 84008, 84009, 84010, 84011, 102999, 103999, 112999, 113999] ty h tyq33 hq33 := gSg.tr (gSg.ss G6 sS31 (by decide)) xq33 (by decide) (by decide) (fun x hx => Or.inl (by rw [List.mem_singleton.mp hx]; exact gac4))
    have t35 : tyq33 x = 50 := gSg.typ xq33 sS31.1 t7 rfl
    have t36 : tyq33 pic = 54 := gSg.typ xq33 sS31.1 t8 rfl
    have t37 : tyq33 b0 = 82 := gSg.typ xq33 sS31.1 t9 rfl
    have t38 : tyq33 b1 = 83 := gSg.typ xq33 sS31.1 t10 rfl
    have t39 : tyq33 b2 = 84 := gSg.typ xq33 sS31.1 t11 rfl
    have t40 : tyq33 dr = 55 := gSg.typ xq33 sS31.1 t12 rfl
    have t41 : tyq33 sk = 56 := gSg.typ xq33 sS31.1 t13 rfl
    have t42 : tyq33 bt = 114 := gSg.typ xq33 sS31.1 t14 rfl
    have hl43 : hq33.2.2.2.1 bt = h3.2.2.2.1 bt := gSg.len xq33 sS31.1 t14 rfl
    have t44 : tyq33 c32 = 51 := gSg.typ xq33 sS31.1 tc32 rfl
    have s45 := gSg.at xq33 sS31.1 t7 rfl (by decide) s16
    have s46 := gSg.at xq33 sS31.1 t7 rfl (by decide) s17
    have s47 := gSg.at xq33 sS31.1 t7 rfl (by decide) s18
    have s48 := gSg.at xq33 sS31.1 t13 rfl (by decide) s19
    have s49 := gSg.at xq33 sS31.1 t12 rfl (by decide) s20
    have s50 := gSg.at xq33 sS31.1 t12 rfl (by decide) s21
    have s51 := gSg.at xq33 sS31.1 t12 rfl (by decide) s22
    have s52 := gSg.at xq33 sS31.1 t13 rfl (by decide) s23
    have s53 := gSg.at xq33 sS31.1 t7 rfl (by decide) s24
    have s54 := gSg.at xq33 sS31.1 t7 rfl (by decide) ec32
    have pr55 := gPC.gr xq33 sS31.1 (by decide) pr25
    have pr56 := gTc.gr xq33 sS31.1 (by decide) (by decide) pr26
    have pr57 := gRw.gr xq33 sS31.1 (by decide) (by decide) pr28
    have sS58 : gSs rT 1027 tyq33 [50005, 51001, 54002, 54003, 54004, 54005, 54006, 54007, 54008, 54009, 54010, 54011, 54012, 54013, 58999, 65003, 66001, 66002, 66003, 66004, 66005, 66010, 66011, 66012, 66013, 66014, 67001, 67002, 67003, 69999, 70999, 82000, 82001, 82002, 82003, 82004, 82005, 82006, 82007, 82008, 82009, 82010, 82011, 83000, 83001, 83002, 83003, 83004, 83005, 83006, 83007, 83008, 83009, 83010, 83011, 84000, 84001, 84002, 84003, 84004, 84005, 84006, 84007, 84008, 84009, 84010, 84011, 102999, 103999, 112999, 113999] hq33 hq33 := gSs.rf xq33.1
    refine gs_ptr (s9 := 0) rfl (by decide) rfl sS58 t35 rfl rfl (Or.inr rfl) rfl (Or.inl rfl) (by decide) trq33_0 (fun h59 sh59 eh59 fh59 => ?_)
    have pr60 := gPC.pk fh59 (sh59.2.2.2.2.1.trans sS58.2.2.2.2.1.symm) t35 (by decide) pr55
    have pr61 := gTc.pt fh59 t35 (by decide) pr56
    have pr62 := gRw.pk fh59 (sh59.2.2.2.2.1.trans sS58.2.2.2.2.1.symm) t35 (by decide) pr57
    have s63 := (fh59 x 2 (fun q => absurd q.2 (by decide))).trans s45
    have s64 := (fh59 x 3 (fun q => absurd q.2 (by decide))).trans s46
    have s65 := (fh59 x 4 (fun q => absurd q.2 (by decide))).trans s47
    have s66 := (fh59 sk 0 (fun q => absurd q.2 (by decide))).trans s48
    have s67 := (fh59 dr 8 (fun q => absurd q.2 (by decide))).trans s49
    have s68 := (fh59 dr 3 (fun q => absurd q.2 (by decide))).trans s50
    have s69 := (fh59 dr 1 (fun q => absurd q.2 (by decide))).trans s51
    have s70 := (fh59 sk 1 (fun q => absurd q.2 (by decide))).trans s52
    have s71 := (fh59 x 0 (fun q => absurd q.2 (by decide))).trans s54
    refine gz_s 1 (pc' := 27) (L' := [some (.ref x), none]) (S' := [.ref x]) rfl ?_
    refine gs_gtk rfl (by decide) rfl sh59.1 t35 rfl rfl eh59 ?_
    refine gz_s 1 (pc' := 31) (L' := [some (.ref x), none]) (S' := [.ref x, .ref c4]) rfl ?_
    refine gs_gtr rfl (by decide) rfl sh59.1 t35 rfl rfl rfl (fun c72 ec72 tc72 => ?_)
    have k73 := sh59.2.1
    have k73b := sh59.2.2.1
    have hl74 : h59.2.2.2.1 bt = hq33.2.2.2.1 bt := congrFun sh59.2.2.2.2.1 bt
    obtain ⟨c75, ec75, tc75⟩ := gJ.ref (k := 0) (G := gGG) sh59.1 trq33_0 rfl rfl rfl
    have ee76 : c32 = c75 := uqq33 c32 c75 (t44.trans tc75.symm) (by rw [t44]; decide) (by rw [t44]; decide)
    subst ee76
    obtain ⟨c77, ec77, tc77⟩ := gJ.ref (k := 1) (G := gGG) sh59.1 trq33_0 rfl rfl rfl
    have ee78 : pic = c77 := uqq33 pic c77 (t36.trans tc77.symm) (by rw [t36]; decide) (by rw [t36]; decide)
    subst ee78
    obtain ⟨c79, ec79, tc79⟩ := gJ.ref (k := 0) (G := gGG) sh59.1 t36 rfl rfl rfl
    obtain ⟨c80, ec80, tc80⟩ := gJ.arl (j := 0) (q2 := 82) sh59.1 tc79 rfl rfl rfl (by decide)
    have ee81 : b0 = c80 := uqq33 b0 c80 (t37.trans tc80.symm) (by rw [t37]; decide) (by rw [t37]; decide)
    subst ee81
    obtain ⟨c82, ec82, tc82⟩ := gJ.arl (j := 1) (q2 := 83) sh59.1 tc79 rfl rfl rfl (by decide)
    have ee83 : b1 = c82 := uqq33 b1 c82 (t38.trans tc82.symm) (by rw [t38]; decide) (by rw [t38]; decide)
    subst ee83
    obtain ⟨c84, ec84, tc84⟩ := gJ.arl (j := 2) (q2 := 84) sh59.1 tc79 rfl rfl rfl (by decide)
    have ee85 : b2 = c84 := uqq33 b2 c84 (t39.trans tc84.symm) (by rw [t39]; decide) (by rw [t39]; decide)
    subst ee85
    obtain ⟨c86, ec86, tc86⟩ := gJ.ref (k := 2) (G := gGG) sh59.1 trq33_0 rfl rfl rfl
    obtain ⟨z87, ez87, az87, bz87⟩ := gJ.int (k := 1) (G := gGG) sh59.1 t44 rfl rfl rfl
    refine gz_call rfl (by decide) rfl (by decide) (by decide) (gcal_of rfl rfl rfl (Nat.le_of_ble_eq_true rfl) (gJ.recv (G := gGG) sh59.1 trq33_0 rfl rfl)) (cl_Reader_readPicture _ sh59.1 c4 trq33_0 c72 tc72 c32 ec75 t44 pic ec77 t36 c79 ec79 tc79 b0 ec80 t37 b1 ec82 t38 b2 ec84 t39 c86 ec86 tc86 z87 ez87 ⟨by omega, by omega⟩ ld ⟨by omega, by omega⟩ uqq33 pr60) (fun q88 _ wq88 => ?_)
    obtain ⟨pq88, oq88, hq88⟩ := q88
    obtain ⟨tyq88, xq88, zq88, xq88_0, gq88, aq88, bq88, axq88_0, bxq88_0, uq88_0, uq88_1, uq88_2, yq88_0⟩ := wq88
    dsimp only at uq88_0 uq88_1
    refine ⟨_, gq88, ?_⟩
    show gz gPP gGG gcn _ _ 37 [some (.ref x), none] [.int (zi zq88)] hq88 _
    have G89 : gSg [65, 66, 67, 68, 69, 70, 101, 102, 103, 112, 113, 200] [] [50005, 51001, 54002, 54003, 54004, 54005, 54006, 54007, 54008, 54009, 54010, 54011, 54012, 54013, 58999, 65003, 66001, 66002, 66003, 66004, 66005, 66010, 66011, 66012, 66013, 66014, 67001, 67002, 67003, 69999, 70999, 82000, 82001, 82002, 82003, 82004, 82005, 82006, 82007, 82008, 82009, 82010, 82011, 83000, 83001, 83002, 83003, 83004, 83005, 83006, 83007, 83008, 83009, 83010, 83011, 84000, 84001, 84002, 84003, 84004, 84005, 84006, 84007, 84008, 84009, 84010, 84011, 102999, 103999, 112999, 113999] ty h tyq88 hq88 := gSg.tr (gSg.ss G34 sh59 (by decide)) xq88 (by decide) (by decide) (fun x hx => by cases hx)
    have t90 : tyq88 x = 50 := gSg.typ xq88 sh59.1 t35 rfl
    have t91 : tyq88 pic = 54 := gSg.typ xq88 sh59.1 t36 rfl
    have t92 : tyq88 b0 = 82 := gSg.typ xq88 sh59.1 t37 rfl
    have t93 : tyq88 b1 = 83 := gSg.typ xq88 sh59.1 t38 rfl
    have t94 : tyq88 b2 = 84 := gSg.typ xq88 sh59.1 t39 rfl
    have t95 : tyq88 dr = 55 := gSg.typ xq88 sh59.1 t40 rfl
    have t96 : tyq88 sk = 56 := gSg.typ xq88 sh59.1 t41 rfl
    have t97 : tyq88 bt = 114 := gSg.typ xq88 sh59.1 t42 rfl
    have hl98 : hq88.2.2.2.1 bt = h59.2.2.2.1 bt := gSg.len xq88 sh59.1 t42 rfl
    have t99 : tyq88 c4 = 65 := gSg.typ xq88 sh59.1 trq33_0 rfl
    have t100 : tyq88 c32 = 51 := gSg.typ xq88 sh59.1 t44 rfl
    have t101 : tyq88 c72 = 53 := gSg.typ xq88 sh59.1 tc72 rfl
    have t102 : tyq88 c79 = 57 := gSg.typ xq88 sh59.1 tc79 rfl
    have t103 : tyq88 c86 = 66 := gSg.typ xq88 sh59.1 tc86 rfl
    have s104 := gSg.at xq88 sh59.1 t35 rfl (by decide) s63
    have s105 := gSg.at xq88 sh59.1 t35 rfl (by decide) s64
    have s106 := gSg.at xq88 sh59.1 t35 rfl (by decide) s65
    have s107 := gSg.at xq88 sh59.1 t41 rfl (by decide) s66
    have s108 := gSg.at xq88 sh59.1 t40 rfl (by decide) s67
    have s109 := gSg.at xq88 sh59.1 t40 rfl (by decide) s68
    have s110 := gSg.at xq88 sh59.1 t40 rfl (by decide) s69
    have s111 := gSg.at xq88 sh59.1 t41 rfl (by decide) s70
    have s112 := gSg.at xq88 sh59.1 t35 rfl (by decide) s71
    have s113 := gSg.at xq88 sh59.1 t35 rfl (by decide) eh59
    have s114 := gSg.at xq88 sh59.1 t35 rfl (by decide) ec72
    have s115 := gSg.at xq88 sh59.1 trq33_0 rfl (by decide) ec75
    have s116 := gSg.at xq88 sh59.1 trq33_0 rfl (by decide) ec77
    have s117 := gSg.at xq88 sh59.1 t36 rfl (by decide) ec79
    have s118 := gSg.at xq88 sh59.1 tc79 rfl (by decide) ec80
    have s119 := gSg.at xq88 sh59.1 tc79 rfl (by decide) ec82
    have s120 := gSg.at xq88 sh59.1 tc79 rfl (by decide) ec84
    have s121 := gSg.at xq88 sh59.1 trq33_0 rfl (by decide) ec86
    have s122 := gSg.at xq88 sh59.1 t44 rfl (by decide) ez87
    have pr123 := gTc.gr xq88 sh59.1 (by decide) (by decide) pr61
    have pr124 := gRw.gr xq88 sh59.1 (by decide) (by decide) pr62
    have uq125 := gSg.uq xq88 uqq33 (by decide)
    have sS126 : gSs rT 1027 tyq88 [50005, 51001, 54002, 54003, 54004, 54005, 54006, 54007, 54008, 54009, 54010, 54011, 54012, 54013, 58999, 65003, 66001, 66002, 66003, 66004, 66005, 66010, 66011, 66012, 66013, 66014, 67001, 67002, 67003, 69999, 70999, 82000, 82001, 82002, 82003, 82004, 82005, 82006, 82007, 82008, 82009, 82010, 82011, 83000, 83001, 83002, 83003, 83004, 83005, 83006, 83007, 83008, 83009, 83010, 83011, 84000, 84001, 84002, 84003, 84004, 84005, 84006, 84007, 84008, 84009, 84010, 84011, 102999, 103999, 112999, 113999] hq88 hq88 := gSs.rf xq88.1
    refine gz_s 2 (pc' := 39) (L' := [some (.ref x), some (.int (zi zq88))]) (S' := [.ref x]) rfl ?_
    refine gs_gtk rfl (by decide) rfl sS126.1 t90 rfl rfl s112 ?_
    refine gz_s 1 (pc' := 43) (L' := [some (.ref x), some (.int (zi zq88))]) (S' := [.int (zi 0), .ref c32]) rfl ?_
    refine gs_put rfl (by decide) rfl sS126 t100 rfl rfl rfl rfl (Or.inl rfl) (by decide) (by omega) (by omega) (fun h127 sh127 eh127 fh127 => ?_)
    have pr128 := gTc.pt fh127 t100 (by decide) pr123
    have pr129 := gRw.pk fh127 (sh127.2.2.2.2.1.trans sS126.2.2.2.2.1.symm) t100 (by decide) pr124
    have pr130 := gPC.pk fh127 (sh127.2.2.2.2.1.trans sS126.2.2.2.2.1.symm) t100 (by decide) yq88_0
    have s131 := (fh127 x 2 (fun q => absurd q.2 (by decide))).trans s104
    have s132 := (fh127 x 3 (fun q => absurd q.2 (by decide))).trans s105
    have s133 := (fh127 x 4 (fun q => absurd q.2 (by decide))).trans s106
    have s134 := (fh127 sk 0 (fun q => absurd q.2 (by decide))).trans s107
    have s135 := (fh127 dr 8 (fun q => absurd q.2 (by decide))).trans s108
    have s136 := (fh127 dr 3 (fun q => absurd q.2 (by decide))).trans s109
    have s137 := (fh127 dr 1 (fun q => absurd (((t95).symm.trans (congrArg tyq88 q.1)).trans t100) (by decide))).trans s110
    have s138 := (fh127 sk 1 (fun q => absurd (((t96).symm.trans (congrArg tyq88 q.1)).trans t100) (by decide))).trans s111
    have s139 := (fh127 x 0 (fun q => absurd q.2 (by decide))).trans s112
    have s140 := (fh127 x 5 (fun q => absurd q.2 (by decide))).trans s113
    have s141 := (fh127 x 1 (fun q => absurd (((t90).symm.trans (congrArg tyq88 q.1)).trans t100) (by decide))).trans s114
    have s142 := (fh127 c4 0 (fun q => absurd q.2 (by decide))).trans s115
    have s143 := (fh127 c4 1 (fun q => absurd (((t99).symm.trans (congrArg tyq88 q.1)).trans t100) (by decide))).trans s116
    have s144 := (fh127 pic 0 (fun q => absurd q.2 (by decide))).trans s117
    have s145 := (fh127 c79 0 (fun q => absurd (((t102).symm.trans (congrArg tyq88 q.1)).trans t100) (by decide))).trans s118
    have s146 := (fh127 c79 1 (fun q => absurd (((t102).symm.trans (congrArg tyq88 q.1)).trans t100) (by decide))).trans s119
    have s147 := (fh127 c79 2 (fun q => absurd (((t102).symm.trans (congrArg tyq88 q.1)).trans t100) (by decide))).trans s120
    have s148 := (fh127 c4 2 (fun q => absurd q.2 (by decide))).trans s121
    refine gz_s 1 (pc' := 47) (L' := [some (.ref x), some (.int (zi zq88))]) (S' := [.int (zi zq88)]) rfl ?_
    have k149 := sh127.2.1
    have k149b := sh127.2.2.1
    have hl150 : h127.2.2.2.1 bt = hq88.2.2.2.1 bt := congrFun sh127.2.2.2.2.1 bt
    have hl151 : 1024 ≤ h127.2.2.2.1 bt ∧ h127.2.2.2.1 bt ≤ 1000000 := gJ.rowl (G := gGG) sh127.1 t97 rfl
    have k152 := sh127.2.1
    have k152b := sh127.2.2.1
    have hl153 : h127.2.2.2.1 bt = hq88.2.2.2.1 bt := congrFun sh127.2.2.2.2.1 bt
    have hix154 : gIx tyq88 x xq88_0 (h127.2.2.2.1 bt : Int) (64 * dw + n0) h127 := ⟨pic, b0, b1, b2, dr, sk, bt, n0, c0, i0, dw, ⟨t90, t95, t96, t97⟩, ⟨s131, s132, s133, s134⟩, pr130, pr128, ⟨s135, by omega, by omega⟩, ⟨s136, by omega, by omega⟩, ⟨s138, by omega, by omega⟩, ⟨by omega, by omega⟩, ⟨t90, Or.inr ⟨c4, s140, t99⟩⟩, pr129, ⟨s137, by omega, by omega⟩, rfl⟩
    have G155 : gSg [65, 66, 67, 68, 69, 70, 101, 102, 103, 112, 113, 200] [] [50005, 51001, 54002, 54003, 54004, 54005, 54006, 54007, 54008, 54009, 54010, 54011, 54012, 54013, 58999, 65003, 66001, 66002, 66003, 66004, 66005, 66010, 66011, 66012, 66013, 66014, 67001, 67002, 67003, 69999, 70999, 82000, 82001, 82002, 82003, 82004, 82005, 82006, 82007, 82008, 82009, 82010, 82011, 83000, 83001, 83002, 83003, 83004, 83005, 83006, 83007, 83008, 83009, 83010, 83011, 84000, 84001, 84002, 84003, 84004, 84005, 84006, 84007, 84008, 84009, 84010, 84011, 102999, 103999, 112999, 113999] ty h tyq88 h127 := gSg.ss G89 sh127 (by decide)
    exact gz_end (I := .ireturn) (len := 1) rfl (Or.inl rfl) ⟨tyq88, G155, zq88, xq88_0, (h127.2.2.2.1 bt : Int), (64 * dw + n0), rfl, (by omega), (by omega), (by omega), (by omega), (by omega), (by omega), (by omega), (by omega), (by omega), (by dsimp only; omega), (by dsimp only; omega), (by omega), (by omega), hix154, uq125⟩
  · skip
    refine gz_s 2 (pc' := 27) (L' := [some (.ref x), none]) (S' := [.ref x]) rfl ?_
    refine gs_gtk rfl (by decide) rfl hS.1 tx rfl rfl ec1 ?_
    refine gz_s 1 (pc' := 31) (L' := [some (.ref x), none]) (S' := [.ref x, .ref c1]) rfl ?_
    refine gs_gtr rfl (by decide) rfl hS.1 tx rfl rfl rfl (fun c156 ec156 tc156 => ?_)
    obtain ⟨c157, ec157, tc157⟩ := gJ.ref (k := 0) (G := gGG) hS.1 tc1 rfl rfl rfl
    obtain ⟨c158, ec158, tc158⟩ := gJ.ref (k := 1) (G := gGG) hS.1 tc1 rfl rfl rfl
    have ee159 : pic = c158 := uq pic c158 (tpic.trans tc158.symm) (by rw [tpic]; decide) (by rw [tpic]; decide)
    subst ee159
    obtain ⟨c160, ec160, tc160⟩ := gJ.ref (k := 0) (G := gGG) hS.1 tpic rfl rfl rfl
    obtain ⟨c161, ec161, tc161⟩ := gJ.arl (j := 0) (q2 := 82) hS.1 tc160 rfl rfl rfl (by decide)
    have ee162 : b0 = c161 := uq b0 c161 (tb0.trans tc161.symm) (by rw [tb0]; decide) (by rw [tb0]; decide)
    subst ee162
    obtain ⟨c163, ec163, tc163⟩ := gJ.arl (j := 1) (q2 := 83) hS.1 tc160 rfl rfl rfl (by decide)
    have ee164 : b1 = c163 := uq b1 c163 (tb1.trans tc163.symm) (by rw [tb1]; decide) (by rw [tb1]; decide)
    subst ee164
    obtain ⟨c165, ec165, tc165⟩ := gJ.arl (j := 2) (q2 := 84) hS.1 tc160 rfl rfl rfl (by decide)
    have ee166 : b2 = c165 := uq b2 c165 (tb2.trans tc165.symm) (by rw [tb2]; decide) (by rw [tb2]; decide)
    subst ee166
    obtain ⟨c167, ec167, tc167⟩ := gJ.ref (k := 2) (G := gGG) hS.1 tc1 rfl rfl rfl
    obtain ⟨z168, ez168, az168, bz168⟩ := gJ.int (k := 1) (G := gGG) hS.1 tc157 rfl rfl rfl
    refine gz_call rfl (by decide) rfl (by decide) (by decide) (gcal_of rfl rfl rfl (Nat.le_of_ble_eq_true rfl) (gJ.recv (G := gGG) hS.1 tc1 rfl rfl)) (cl_Reader_readPicture _ hS.1 c1 tc1 c156 tc156 c157 ec157 tc157 pic ec158 tpic c160 ec160 tc160 b0 ec161 tb0 b1 ec163 tb1 b2 ec165 tb2 c167 ec167 tc167 z168 ez168 ⟨by omega, by omega⟩ ld ⟨by omega, by omega⟩ uq hpc) (fun q169 _ wq169 => ?_)
    obtain ⟨pq169, oq169, hq169⟩ := q169
    obtain ⟨tyq169, xq169, zq169, xq169_0, gq169, aq169, bq169, axq169_0, bxq169_0, uq169_0, uq169_1, uq169_2, yq169_0⟩ := wq169
    dsimp only at uq169_0 uq169_1
    refine ⟨_, gq169, ?_⟩
    show gz gPP gGG gcn _ _ 37 [some (.ref x), none] [.int (zi zq169)] hq169 _
    have G170 : gSg [65, 66, 67, 68, 69, 70, 101, 102, 103, 112, 113, 200] [] [50005, 51001, 54002, 54003, 54004, 54005, 54006, 54007, 54008, 54009, 54010, 54011, 54012, 54013, 58999, 65003, 66001, 66002, 66003, 66004, 66005, 66010, 66011, 66012, 66013, 66014, 67001, 67002, 67003, 69999, 70999, 82000, 82001, 82002, 82003, 82004, 82005, 82006, 82007, 82008, 82009, 82010, 82011, 83000, 83001, 83002, 83003, 83004, 83005, 83006, 83007, 83008, 83009, 83010, 83011, 84000, 84001, 84002, 84003, 84004, 84005, 84006, 84007, 84008, 84009, 84010, 84011, 102999, 103999, 112999, 113999] ty h tyq169 hq169 := gSg.tr (gSg.ss G0 hS (by decide)) xq169 (by decide) (by decide) (fun x hx => by cases hx)
    have t171 : tyq169 x = 50 := gSg.typ xq169 hS.1 tx rfl
    have t172 : tyq169 pic = 54 := gSg.typ xq169 hS.1 tpic rfl
    have t173 : tyq169 b0 = 82 := gSg.typ xq169 hS.1 tb0 rfl
    have t174 : tyq169 b1 = 83 := gSg.typ xq169 hS.1 tb1 rfl
    have t175 : tyq169 b2 = 84 := gSg.typ xq169 hS.1 tb2 rfl
    have t176 : tyq169 dr = 55 := gSg.typ xq169 hS.1 tdr rfl
    have t177 : tyq169 sk = 56 := gSg.typ xq169 hS.1 tsk rfl
    have t178 : tyq169 bt = 114 := gSg.typ xq169 hS.1 tbt rfl
    have hl179 : hq169.2.2.2.1 bt = h.2.2.2.1 bt := gSg.len xq169 hS.1 tbt rfl
    have t180 : tyq169 c1 = 65 := gSg.typ xq169 hS.1 tc1 rfl
    have t181 : tyq169 c156 = 53 := gSg.typ xq169 hS.1 tc156 rfl
    have t182 : tyq169 c157 = 51 := gSg.typ xq169 hS.1 tc157 rfl
    have t183 : tyq169 c160 = 57 := gSg.typ xq169 hS.1 tc160 rfl
    have t184 : tyq169 c167 = 66 := gSg.typ xq169 hS.1 tc167 rfl
    have s185 := gSg.at xq169 hS.1 tx rfl (by decide) ex2
    have s186 := gSg.at xq169 hS.1 tx rfl (by decide) ex3
    have s187 := gSg.at xq169 hS.1 tx rfl (by decide) ex4
    have s188 := gSg.at xq169 hS.1 tsk rfl (by decide) ex0
    have s189 := gSg.at xq169 hS.1 tdr rfl (by decide) en0
    have s190 := gSg.at xq169 hS.1 tdr rfl (by decide) eiv
    have s191 := gSg.at xq169 hS.1 tdr rfl (by decide) edw
    have s192 := gSg.at xq169 hS.1 tsk rfl (by decide) ec0
    have s193 := gSg.at xq169 hS.1 tx rfl (by decide) ec1
    have s194 := gSg.at xq169 hS.1 tx rfl (by decide) ec156
    have s195 := gSg.at xq169 hS.1 tc1 rfl (by decide) ec157
    have s196 := gSg.at xq169 hS.1 tc1 rfl (by decide) ec158
    have s197 := gSg.at xq169 hS.1 tpic rfl (by decide) ec160
    have s198 := gSg.at xq169 hS.1 tc160 rfl (by decide) ec161
    have s199 := gSg.at xq169 hS.1 tc160 rfl (by decide) ec163
    have s200 := gSg.at xq169 hS.1 tc160 rfl (by decide) ec165
    have s201 := gSg.at xq169 hS.1 tc1 rfl (by decide) ec167
    have s202 := gSg.at xq169 hS.1 tc157 rfl (by decide) ez168
    have pr203 := gTc.gr xq169 hS.1 (by decide) (by decide) htc
    have pr204 := gRr.gr xq169 hS.1 (by decide) (by decide) hrr
    have pr205 := gRw.gr xq169 hS.1 (by decide) (by decide) hrw
    have uq206 := gSg.uq xq169 uq (by decide)
    have sS207 : gSs rT 1027 tyq169 [50005, 51001, 54002, 54003, 54004, 54005, 54006, 54007, 54008, 54009, 54010, 54011, 54012, 54013, 58999, 65003, 66001, 66002, 66003, 66004, 66005, 66010, 66011, 66012, 66013, 66014, 67001, 67002, 67003, 69999, 70999, 82000, 82001, 82002, 82003, 82004, 82005, 82006, 82007, 82008, 82009, 82010, 82011, 83000, 83001, 83002, 83003, 83004, 83005, 83006, 83007, 83008, 83009, 83010, 83011, 84000, 84001, 84002, 84003, 84004, 84005, 84006, 84007, 84008, 84009, 84010, 84011, 102999, 103999, 112999, 113999] hq169 hq169 := gSs.rf xq169.1
    refine gz_s 2 (pc' := 39) (L' := [some (.ref x), some (.int (zi zq169))]) (S' := [.ref x]) rfl ?_
    refine gs_gtr rfl (by decide) rfl sS207.1 t171 rfl rfl rfl (fun c208 ec208 tc208 => ?_)
    have ee209 : c157 = c208 := uq206 c157 c208 (t182.trans tc208.symm) (by rw [t182]; decide) (by rw [t182]; decide)
    subst ee209
    refine gz_s 1 (pc' := 43) (L' := [some (.ref x), some (.int (zi zq169))]) (S' := [.int (zi 0), .ref c157]) rfl ?_
    refine gs_put rfl (by decide) rfl sS207 t182 rfl rfl rfl rfl (Or.inl rfl) (by decide) (by omega) (by omega) (fun h210 sh210 eh210 fh210 => ?_)
    have pr211 := gTc.pt fh210 t182 (by decide) pr203
    have pr212 := gRr.pk fh210 (sh210.2.2.2.2.1.trans sS207.2.2.2.2.1.symm) t182 (by decide) pr204
    have pr213 := gRw.pk fh210 (sh210.2.2.2.2.1.trans sS207.2.2.2.2.1.symm) t182 (by decide) pr205
    have pr214 := gPC.pk fh210 (sh210.2.2.2.2.1.trans sS207.2.2.2.2.1.symm) t182 (by decide) yq169_0
    have s215 := (fh210 x 2 (fun q => absurd q.2 (by decide))).trans s185
    have s216 := (fh210 x 3 (fun q => absurd q.2 (by decide))).trans s186
    have s217 := (fh210 x 4 (fun q => absurd q.2 (by decide))).trans s187
    have s218 := (fh210 sk 0 (fun q => absurd q.2 (by decide))).trans s188
    have s219 := (fh210 dr 8 (fun q => absurd q.2 (by decide))).trans s189
    have s220 := (fh210 dr 3 (fun q => absurd q.2 (by decide))).trans s190
    have s221 := (fh210 dr 1 (fun q => absurd (((t176).symm.trans (congrArg tyq169 q.1)).trans t182) (by decide))).trans s191
    have s222 := (fh210 sk 1 (fun q => absurd (((t177).symm.trans (congrArg tyq169 q.1)).trans t182) (by decide))).trans s192
    have s223 := (fh210 x 5 (fun q => absurd q.2 (by decide))).trans s193
    have s224 := (fh210 x 1 (fun q => absurd (((t171).symm.trans (congrArg tyq169 q.1)).trans t182) (by decide))).trans s194
    have s225 := (fh210 c1 0 (fun q => absurd q.2 (by decide))).trans s195
    have s226 := (fh210 c1 1 (fun q => absurd (((t180).symm.trans (congrArg tyq169 q.1)).trans t182) (by decide))).trans s196
    have s227 := (fh210 pic 0 (fun q => absurd q.2 (by decide))).trans s197
    have s228 := (fh210 c160 0 (fun q => absurd (((t183).symm.trans (congrArg tyq169 q.1)).trans t182) (by decide))).trans s198
    have s229 := (fh210 c160 1 (fun q => absurd (((t183).symm.trans (congrArg tyq169 q.1)).trans t182) (by decide))).trans s199
    have s230 := (fh210 c160 2 (fun q => absurd (((t183).symm.trans (congrArg tyq169 q.1)).trans t182) (by decide))).trans s200
    have s231 := (fh210 c1 2 (fun q => absurd q.2 (by decide))).trans s201
    have s232 := (fh210 x 0 (fun q => absurd q.2 (by decide))).trans ec208
    refine gz_s 1 (pc' := 47) (L' := [some (.ref x), some (.int (zi zq169))]) (S' := [.int (zi zq169)]) rfl ?_
    have k233 := sh210.2.1
    have k233b := sh210.2.2.1
    have hl234 : h210.2.2.2.1 bt = hq169.2.2.2.1 bt := congrFun sh210.2.2.2.2.1 bt
    have hl235 : 1024 ≤ h210.2.2.2.1 bt ∧ h210.2.2.2.1 bt ≤ 1000000 := gJ.rowl (G := gGG) sh210.1 t178 rfl
    have k236 := sh210.2.1
    have k236b := sh210.2.2.1
    have hl237 : h210.2.2.2.1 bt = hq169.2.2.2.1 bt := congrFun sh210.2.2.2.2.1 bt
    have hix238 : gIx tyq169 x xq169_0 (h210.2.2.2.1 bt : Int) (64 * dw + n0) h210 := ⟨pic, b0, b1, b2, dr, sk, bt, n0, c0, i0, dw, ⟨t171, t176, t177, t178⟩, ⟨s215, s216, s217, s218⟩, pr214, pr211, ⟨s219, by omega, by omega⟩, ⟨s220, by omega, by omega⟩, ⟨s222, by omega, by omega⟩, ⟨by omega, by omega⟩, ⟨t171, Or.inr ⟨c1, s223, t180⟩⟩, pr213, ⟨s221, by omega, by omega⟩, rfl⟩
    have G239 : gSg [65, 66, 67, 68, 69, 70, 101, 102, 103, 112, 113, 200] [] [50005, 51001, 54002, 54003, 54004, 54005, 54006, 54007, 54008, 54009, 54010, 54011, 54012, 54013, 58999, 65003, 66001, 66002, 66003, 66004, 66005, 66010, 66011, 66012, 66013, 66014, 67001, 67002, 67003, 69999, 70999, 82000, 82001, 82002, 82003, 82004, 82005, 82006, 82007, 82008, 82009, 82010, 82011, 83000, 83001, 83002, 83003, 83004, 83005, 83006, 83007, 83008, 83009, 83010, 83011, 84000, 84001, 84002, 84003, 84004, 84005, 84006, 84007, 84008, 84009, 84010, 84011, 102999, 103999, 112999, 113999] ty h tyq169 h210 := gSg.ss G170 sh210 (by decide)
    exact gz_end (I := .ireturn) (len := 1) rfl (Or.inl rfl) ⟨tyq169, G239, zq169, xq169_0, (h210.2.2.2.1 bt : Int), (64 * dw + n0), rfl, (by omega), (by omega), (by omega), (by omega), (by omega), (by omega), (by omega), (by omega), (by omega), (by dsimp only; omega), (by dsimp only; omega), (by omega), (by omega), hix238, uq206⟩
