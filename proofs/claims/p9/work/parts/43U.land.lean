/-! ===== methods of the landed text (by program) ===== -/
theorem gTc.pa {ty : Nat → Nat} {n : Int} {c9 q2 : Nat} {Q : Nat → Prop} {h h' : gH} (g : ∀ x j, ¬ (x = c9 ∧ Q j) → h'.2.2.2.2 x j = h.2.2.2.2 x j) (ht : ty c9 = q2) (hq : ∀ x ∈ ([60, 61, 64] : List Nat), q2 ≠ x) (s : gTc ty n h) : gTc ty n h' := by
  have k : ∀ (q : Nat) (f : Nat → Int), q2 ≠ q → gRow ty q f h → gRow ty q f h' := fun q f hne p => ⟨p.1, fun c hc i hi => by
    rw [g c i (fun w => hne (by rw [← ht, ← w.1]; exact hc))]
    exact p.2 c hc i hi⟩
  obtain ⟨f, t, c, x1, x2, x3, x4⟩ := s
  exact ⟨f, t, c, k _ _ (hq _ (by decide)) x1, k _ _ (hq _ (by decide)) x2, k _ _ (hq _ (by decide)) x3, x4⟩
theorem zi_in8 {z : Int} (h0 : -128 ≤ z) (h1 : z ≤ 127) : (zi z).toInt8.toInt32 = zi z := by
  have h := (by decide +kernel : ∀ k : Fin 256, (zi ((k.val : Int) - 128)).toInt8.toInt32 = zi ((k.val : Int) - 128)) ⟨(z + 128).toNat, by omega⟩
  have e : (((z + 128).toNat : Nat) : Int) - 128 = z := by omega
  rw [← e]
  exact h
set_option maxRecDepth 20000 in
set_option maxHeartbeats 4000000 in
theorem cl_DctFilter_colourW (d : Nat) {ty : Nat → Nat} {h : gH} (hJ : gJ rT 1027 ty h) (bd : Int) (rbd : (-2147483648) ≤ bd ∧ bd ≤ 2147483647) (a : Int) (ra : (-2147483648) ≤ a ∧ a ≤ 2147483647) (b : Int) (rb : (-2147483648) ≤ b ∧ b ≤ 2147483647) (c : Int) (rc : (-2147483648) ≤ c ∧ c ≤ 2147483647) : gz gPP gGG gcn (d + 2) gt77 0 (gent [.int (zi bd), .int (zi a), .int (zi b), .int (zi c)] 4) [] h (fun q _ => gSs rT 1027 ty [] h q.2.2 ∧ ∃ z : Int, gfin gt77 q.1 q.2.1 = some (some (.int (zi z))) ∧ 0 ≤ z ∧ z ≤ 255) := by
  have hS : gSs rT 1027 ty [] h h := gSs.rf hJ
  refine gz_s 2 (pc' := 2) (L' := [some (.int (zi bd)), some (.int (zi a)), some (.int (zi b)), some (.int (zi c))]) (S' := [.int (zi 3), .int (zi bd)]) rfl ?_
  by_cases hc1 : ¬ (bd : Int) = 3
  · refine gy_icT (pc' := 21) rfl (by decide) (by decide) (by omega) (by omega) hc1 ?_
    refine gz_s 2 (pc' := 23) (L' := [some (.int (zi bd)), some (.int (zi a)), some (.int (zi b)), some (.int (zi c))]) (S' := [.int (zi 4), .int (zi bd)]) rfl ?_
    by_cases hc2 : ¬ (bd : Int) = 4
    · refine gy_icT (pc' := 48) rfl (by decide) (by decide) (by omega) (by omega) hc2 ?_
      refine gz_s 1 (pc' := 49) (L' := [some (.int (zi bd)), some (.int (zi a)), some (.int (zi b)), some (.int (zi c))]) (S' := [.int (zi a)]) rfl ?_
      refine gz_1 rfl (by decide) rfl rfl (pc' := 51) (S' := [.int (zi 116130), .int (zi a)]) (h' := h) rfl ?_
      refine gy_s 2 (pc' := 53) (L' := [some (.int (zi bd)), some (.int (zi a)), some (.int (zi b)), some (.int (zi c))]) (S' := [.int ((zi 116130) * (zi b)), .int (zi a)]) (L2 := [some (.int (zi bd)), some (.int (zi a)), some (.int (zi b)), some (.int (zi c))]) (S2 := [.int (zi (116130 * b)), .int (zi a)]) rfl (by simp only [zi_add, zi_sub, zi_mul, zi_neg, zi_and1, zi_and7, zi_and15, zi_and31, zi_and255]) (by simp only [zi_add, zi_sub, zi_mul, zi_neg, zi_and1, zi_and7, zi_and15, zi_and31, zi_and255]) ?_
      refine gy_any (fun z3 ez3 az3 bz3 => ?_)
      refine gz_1 rfl (by decide) rfl rfl (pc' := 55) (S' := [.int (zi 32768), .int (zi z3), .int (zi a)]) (h' := h) rfl ?_
      refine gy_s 1 (pc' := 56) (L' := [some (.int (zi bd)), some (.int (zi a)), some (.int (zi b)), some (.int (zi c))]) (S' := [.int ((zi z3) + (zi 32768)), .int (zi a)]) (L2 := [some (.int (zi bd)), some (.int (zi a)), some (.int (zi b)), some (.int (zi c))]) (S2 := [.int (zi (z3 + 32768)), .int (zi a)]) rfl (by simp only [zi_add, zi_sub, zi_mul, zi_neg, zi_and1, zi_and7, zi_and15, zi_and31, zi_and255]) (by simp only [zi_add, zi_sub, zi_mul, zi_neg, zi_and1, zi_and7, zi_and15, zi_and31, zi_and255]) ?_
      refine gy_any (fun z4 ez4 az4 bz4 => ?_)
      refine gz_s 1 (pc' := 58) (L' := [some (.int (zi bd)), some (.int (zi a)), some (.int (zi b)), some (.int (zi c))]) (S' := [.int (zi 16), .int (zi z4), .int (zi a)]) rfl ?_
      refine gy_shc (n := 16) (v := 65536) rfl (by decide) (by omega) (by decide) (by decide) rfl ?_
      refine gy_s 1 (pc' := 60) (L' := [some (.int (zi bd)), some (.int (zi a)), some (.int (zi b)), some (.int (zi c))]) (S' := [.int ((zi a) + (zi (z4 / 65536)))]) (L2 := [some (.int (zi bd)), some (.int (zi a)), some (.int (zi b)), some (.int (zi c))]) (S2 := [.int (zi (a + (z4 / 65536)))]) rfl (by simp only [zi_add, zi_sub, zi_mul, zi_neg, zi_and1, zi_and7, zi_and15, zi_and31, zi_and255]) (by simp only [zi_add, zi_sub, zi_mul, zi_neg, zi_and1, zi_and7, zi_and15, zi_and31, zi_and255]) ?_
      refine gy_any (fun z5 ez5 az5 bz5 => ?_)
      refine gz_call rfl (by decide) rfl (by decide) (by decide) (gcal_of rfl rfl rfl (Nat.le_of_ble_eq_true rfl) rfl) (cl_DctFilter_asByte _ hS.1 z5 ⟨by omega, by omega⟩ ) (fun q6 _ wq6 => ?_)
      obtain ⟨pq6, oq6, hq6⟩ := q6
      obtain ⟨xq6, zq6, gq6, aq6, bq6⟩ := wq6
      refine ⟨_, gq6, ?_⟩
      show gz gPP gGG gcn _ _ 63 [some (.int (zi bd)), some (.int (zi a)), some (.int (zi b)), some (.int (zi c))] [.int (zi zq6)] hq6 _
      have sq6 : gSs rT 1027 ty [] h hq6 := gSs.tr hS xq6 (by decide)
      exact gz_end (I := .ireturn) (len := 1) rfl (Or.inl rfl) ⟨sq6, zq6, rfl, (by omega), (by omega)⟩
    · refine gy_icF rfl (by decide) (by decide) (by omega) (by omega) hc2 ?_
      refine gy_s 4 (pc' := 32) (L' := [some (.int (zi bd)), some (.int (zi a)), some (.int (zi b)), some (.int (zi c))]) (S' := [.int ((zi 22554) * (zi b)), .int (zi a)]) (L2 := [some (.int (zi bd)), some (.int (zi a)), some (.int (zi b)), some (.int (zi c))]) (S2 := [.int (zi (22554 * b)), .int (zi a)]) rfl (by simp only [zi_add, zi_sub, zi_mul, zi_neg, zi_and1, zi_and7, zi_and15, zi_and31, zi_and255]) (by simp only [zi_add, zi_sub, zi_mul, zi_neg, zi_and1, zi_and7, zi_and15, zi_and31, zi_and255]) ?_
      refine gy_any (fun z7 ez7 az7 bz7 => ?_)
      refine gz_1 rfl (by decide) rfl rfl (pc' := 34) (S' := [.int (zi 46802), .int (zi z7), .int (zi a)]) (h' := h) rfl ?_
      refine gy_s 2 (pc' := 36) (L' := [some (.int (zi bd)), some (.int (zi a)), some (.int (zi b)), some (.int (zi c))]) (S' := [.int ((zi 46802) * (zi c)), .int (zi z7), .int (zi a)]) (L2 := [some (.int (zi bd)), some (.int (zi a)), some (.int (zi b)), some (.int (zi c))]) (S2 := [.int (zi (46802 * c)), .int (zi z7), .int (zi a)]) rfl (by simp only [zi_add, zi_sub, zi_mul, zi_neg, zi_and1, zi_and7, zi_and15, zi_and31, zi_and255]) (by simp only [zi_add, zi_sub, zi_mul, zi_neg, zi_and1, zi_and7, zi_and15, zi_and31, zi_and255]) ?_
      refine gy_any (fun z8 ez8 az8 bz8 => ?_)
      refine gy_s 1 (pc' := 37) (L' := [some (.int (zi bd)), some (.int (zi a)), some (.int (zi b)), some (.int (zi c))]) (S' := [.int ((zi z7) + (zi z8)), .int (zi a)]) (L2 := [some (.int (zi bd)), some (.int (zi a)), some (.int (zi b)), some (.int (zi c))]) (S2 := [.int (zi (z7 + z8)), .int (zi a)]) rfl (by simp only [zi_add, zi_sub, zi_mul, zi_neg, zi_and1, zi_and7, zi_and15, zi_and31, zi_and255]) (by simp only [zi_add, zi_sub, zi_mul, zi_neg, zi_and1, zi_and7, zi_and15, zi_and31, zi_and255]) ?_
      refine gy_any (fun z9 ez9 az9 bz9 => ?_)
      refine gz_1 rfl (by decide) rfl rfl (pc' := 39) (S' := [.int (zi 32768), .int (zi z9), .int (zi a)]) (h' := h) rfl ?_
      refine gy_s 1 (pc' := 40) (L' := [some (.int (zi bd)), some (.int (zi a)), some (.int (zi b)), some (.int (zi c))]) (S' := [.int ((zi z9) + (zi 32768)), .int (zi a)]) (L2 := [some (.int (zi bd)), some (.int (zi a)), some (.int (zi b)), some (.int (zi c))]) (S2 := [.int (zi (z9 + 32768)), .int (zi a)]) rfl (by simp only [zi_add, zi_sub, zi_mul, zi_neg, zi_and1, zi_and7, zi_and15, zi_and31, zi_and255]) (by simp only [zi_add, zi_sub, zi_mul, zi_neg, zi_and1, zi_and7, zi_and15, zi_and31, zi_and255]) ?_
      refine gy_any (fun z10 ez10 az10 bz10 => ?_)
      refine gz_s 1 (pc' := 42) (L' := [some (.int (zi bd)), some (.int (zi a)), some (.int (zi b)), some (.int (zi c))]) (S' := [.int (zi 16), .int (zi z10), .int (zi a)]) rfl ?_
      refine gy_shc (n := 16) (v := 65536) rfl (by decide) (by omega) (by decide) (by decide) rfl ?_
      refine gy_s 1 (pc' := 44) (L' := [some (.int (zi bd)), some (.int (zi a)), some (.int (zi b)), some (.int (zi c))]) (S' := [.int ((zi a) - (zi (z10 / 65536)))]) (L2 := [some (.int (zi bd)), some (.int (zi a)), some (.int (zi b)), some (.int (zi c))]) (S2 := [.int (zi (a - (z10 / 65536)))]) rfl (by simp only [zi_add, zi_sub, zi_mul, zi_neg, zi_and1, zi_and7, zi_and15, zi_and31, zi_and255]) (by simp only [zi_add, zi_sub, zi_mul, zi_neg, zi_and1, zi_and7, zi_and15, zi_and31, zi_and255]) ?_
      refine gy_any (fun z11 ez11 az11 bz11 => ?_)
      refine gz_call rfl (by decide) rfl (by decide) (by decide) (gcal_of rfl rfl rfl (Nat.le_of_ble_eq_true rfl) rfl) (cl_DctFilter_asByte _ hS.1 z11 ⟨by omega, by omega⟩ ) (fun q12 _ wq12 => ?_)
      obtain ⟨pq12, oq12, hq12⟩ := q12
      obtain ⟨xq12, zq12, gq12, aq12, bq12⟩ := wq12
      refine ⟨_, gq12, ?_⟩
      show gz gPP gGG gcn _ _ 47 [some (.int (zi bd)), some (.int (zi a)), some (.int (zi b)), some (.int (zi c))] [.int (zi zq12)] hq12 _
      have sq12 : gSs rT 1027 ty [] h hq12 := gSs.tr hS xq12 (by decide)
      exact gz_end (I := .ireturn) (len := 1) rfl (Or.inl rfl) ⟨sq12, zq12, rfl, (by omega), (by omega)⟩
  · refine gy_icF rfl (by decide) (by decide) (by omega) (by omega) hc1 ?_
    refine gz_s 1 (pc' := 6) (L' := [some (.int (zi bd)), some (.int (zi a)), some (.int (zi b)), some (.int (zi c))]) (S' := [.int (zi a)]) rfl ?_
    refine gz_1 rfl (by decide) rfl rfl (pc' := 8) (S' := [.int (zi 91881), .int (zi a)]) (h' := h) rfl ?_
    refine gy_s 2 (pc' := 10) (L' := [some (.int (zi bd)), some (.int (zi a)), some (.int (zi b)), some (.int (zi c))]) (S' := [.int ((zi 91881) * (zi c)), .int (zi a)]) (L2 := [some (.int (zi bd)), some (.int (zi a)), some (.int (zi b)), some (.int (zi c))]) (S2 := [.int (zi (91881 * c)), .int (zi a)]) rfl (by simp only [zi_add, zi_sub, zi_mul, zi_neg, zi_and1, zi_and7, zi_and15, zi_and31, zi_and255]) (by simp only [zi_add, zi_sub, zi_mul, zi_neg, zi_and1, zi_and7, zi_and15, zi_and31, zi_and255]) ?_
    refine gy_any (fun z13 ez13 az13 bz13 => ?_)
    refine gz_1 rfl (by decide) rfl rfl (pc' := 12) (S' := [.int (zi 32768), .int (zi z13), .int (zi a)]) (h' := h) rfl ?_
    refine gy_s 1 (pc' := 13) (L' := [some (.int (zi bd)), some (.int (zi a)), some (.int (zi b)), some (.int (zi c))]) (S' := [.int ((zi z13) + (zi 32768)), .int (zi a)]) (L2 := [some (.int (zi bd)), some (.int (zi a)), some (.int (zi b)), some (.int (zi c))]) (S2 := [.int (zi (z13 + 32768)), .int (zi a)]) rfl (by simp only [zi_add, zi_sub, zi_mul, zi_neg, zi_and1, zi_and7, zi_and15, zi_and31, zi_and255]) (by simp only [zi_add, zi_sub, zi_mul, zi_neg, zi_and1, zi_and7, zi_and15, zi_and31, zi_and255]) ?_
    refine gy_any (fun z14 ez14 az14 bz14 => ?_)
    refine gz_s 1 (pc' := 15) (L' := [some (.int (zi bd)), some (.int (zi a)), some (.int (zi b)), some (.int (zi c))]) (S' := [.int (zi 16), .int (zi z14), .int (zi a)]) rfl ?_
    refine gy_shc (n := 16) (v := 65536) rfl (by decide) (by omega) (by decide) (by decide) rfl ?_
    refine gy_s 1 (pc' := 17) (L' := [some (.int (zi bd)), some (.int (zi a)), some (.int (zi b)), some (.int (zi c))]) (S' := [.int ((zi a) + (zi (z14 / 65536)))]) (L2 := [some (.int (zi bd)), some (.int (zi a)), some (.int (zi b)), some (.int (zi c))]) (S2 := [.int (zi (a + (z14 / 65536)))]) rfl (by simp only [zi_add, zi_sub, zi_mul, zi_neg, zi_and1, zi_and7, zi_and15, zi_and31, zi_and255]) (by simp only [zi_add, zi_sub, zi_mul, zi_neg, zi_and1, zi_and7, zi_and15, zi_and31, zi_and255]) ?_
    refine gy_any (fun z15 ez15 az15 bz15 => ?_)
    refine gz_call rfl (by decide) rfl (by decide) (by decide) (gcal_of rfl rfl rfl (Nat.le_of_ble_eq_true rfl) rfl) (cl_DctFilter_asByte _ hS.1 z15 ⟨by omega, by omega⟩ ) (fun q16 _ wq16 => ?_)
    obtain ⟨pq16, oq16, hq16⟩ := q16
    obtain ⟨xq16, zq16, gq16, aq16, bq16⟩ := wq16
    refine ⟨_, gq16, ?_⟩
    show gz gPP gGG gcn _ _ 20 [some (.int (zi bd)), some (.int (zi a)), some (.int (zi b)), some (.int (zi c))] [.int (zi zq16)] hq16 _
    have sq16 : gSs rT 1027 ty [] h hq16 := gSs.tr hS xq16 (by decide)
    exact gz_end (I := .ireturn) (len := 1) rfl (Or.inl rfl) ⟨sq16, zq16, rfl, (by omega), (by omega)⟩
set_option maxRecDepth 20000 in
set_option maxHeartbeats 4000000 in
theorem cl_DctFilter_add (d : Nat) {ty : Nat → Nat} {h : gH} (hJ : gJ rT 1027 ty h) (x : Nat) (tx : ty x = 50) (b : Int) (rb : (-128) ≤ b ∧ b ≤ 127) (ld : Int) (rld : 0 ≤ ld ∧ ld ≤ 192) (lb : Int) (rlb : 1024 ≤ lb ∧ lb ≤ 1000000) (iv : Int) (riv : 0 ≤ iv ∧ iv ≤ 100) (uq : gUq ty) (hyix : gIx ty x ld lb iv h) : gz gPP gGG gcn (d + 1) gt68 0 (gent [.ref x, .int (zi b)] 2) [] h (fun q _ => ∃ ty9 : Nat → Nat, gSg [] [] [51001, 52999] ty h ty9 q.2.2 ∧ ∃ ld1 lb1 iv1 : Int, 0 ≤ ld1 ∧ ld1 ≤ 192 ∧ 1024 ≤ lb1 ∧ lb1 ≤ 1000000 ∧ 0 ≤ iv1 ∧ iv1 ≤ 100 ∧ (gIx ty9 x ld1 lb1 iv1 q.2.2) ∧ ((gfin gt68 q.1 q.2.1 = some none ∧ (iv1 = iv) ∧ (1024 * (((q.2.2.1 : Int) - h.1) - 31 - 2 * (ld1 - ld)) ≤ lb1 - lb) ∧ (((q.2.2.2.1 : Int) - h.2.1) ≤ 4303 + 12480 * (ld1 - ld) + 2 * (lb1 - lb)) ∧ (ld ≤ ld1) ∧ (lb ≤ lb1)) ∨ (q.2.1 = [] ∧ ((q.1 = 13)) ∧ (iv1 = iv) ∧ (1024 * (((q.2.2.1 : Int) - h.1) - 31 - 2 * (ld1 - ld)) ≤ lb1 - lb) ∧ (((q.2.2.2.1 : Int) - h.2.1) ≤ 4303 + 12480 * (ld1 - ld) + 2 * (lb1 - lb)) ∧ (ld ≤ ld1) ∧ (lb ≤ lb1)))) := by
  have hS : gSs rT 1027 ty [51001, 52999] h h := gSs.rf hJ
  have G0 : gSg [] [] [51001, 52999] ty h ty h := gSg.rf hJ (fun x hx => by cases hx)
  obtain ⟨pic, b0, b1, b2, dr, sk, bt, n0, c0, ⟨_, tdr, tsk, tbt⟩, ⟨ex2, ex3, ex4, ex0⟩, hpc, htc, ⟨en0, rn0⟩, ⟨eiv, riv⟩, ⟨ec0, rc0⟩, ⟨lc0, llb⟩, hrr, hrw⟩ := hyix
  have tpic := hpc.1.1
  have tb0 := hpc.1.2.1
  have tb1 := hpc.1.2.2.1
  have tb2 := hpc.1.2.2.2
  refine gz_s 1 (pc' := 1) (L' := [some (.ref x), some (.int (zi b))]) (S' := [.ref x]) rfl ?_
  refine gs_gtr rfl (by decide) rfl hS.1 tx rfl rfl rfl (fun c1 ec1 tc1 => ?_)
  refine gs_get rfl (by decide) rfl hS.1 tc1 rfl rfl rfl (fun z2 ez2 az2 bz2 => ?_)
  refine gz_s 1 (pc' := 10) (L' := [some (.ref x), some (.int (zi b))]) (S' := [.int (zi 2000), .int (zi z2)]) rfl ?_
  by_cases hc3 : (z2 : Int) < 2000
  · refine gy_icT (pc' := 23) rfl (by decide) (by decide) (by omega) (by omega) hc3 ?_
    refine gz_s 1 (pc' := 24) (L' := [some (.ref x), some (.int (zi b))]) (S' := [.ref x]) rfl ?_
    refine gs_gtk rfl (by decide) rfl hS.1 tx rfl rfl ec1 ?_
    refine gz_s 1 (pc' := 28) (L' := [some (.ref x), some (.int (zi b))]) (S' := [.int (zi b), .ref c1]) rfl ?_
    refine gz_call rfl (by decide) rfl (by decide) (by decide) (gcal_of rfl rfl rfl (Nat.le_of_ble_eq_true rfl) (gJ.recv (G := gGG) hS.1 tc1 rfl rfl)) (cl_Collected_append _ hS.1 c1 tc1 b ⟨by omega, by omega⟩ z2 ez2 ⟨by omega, by omega⟩ uq) (fun q4 _ wq4 => ?_)
    obtain ⟨pq4, oq4, hq4⟩ := q4
    obtain ⟨xq4, gq4⟩ := wq4
    refine ⟨_, gq4, ?_⟩
    show gz gPP gGG gcn _ _ 31 [some (.ref x), some (.int (zi b))] [] hq4 _
    have sq4 : gSs rT 1027 ty [51001, 52999] h hq4 := gSs.tr hS xq4 (by decide)
    have s5 := (xq4.2.2.2.2.2 x 2 (by rw [tx]; decide)).trans ex2
    have s6 := (xq4.2.2.2.2.2 x 3 (by rw [tx]; decide)).trans ex3
    have s7 := (xq4.2.2.2.2.2 x 4 (by rw [tx]; decide)).trans ex4
    have s8 := (xq4.2.2.2.2.2 sk 0 (by rw [tsk]; decide)).trans ex0
    have s9 := (xq4.2.2.2.2.2 dr 8 (by rw [tdr]; decide)).trans en0
    have s10 := (xq4.2.2.2.2.2 dr 3 (by rw [tdr]; decide)).trans eiv
    have s11 := (xq4.2.2.2.2.2 sk 1 (by rw [tsk]; decide)).trans ec0
    have s12 := (xq4.2.2.2.2.2 x 0 (by rw [tx]; decide)).trans ec1
    have pr13 := gPC.fr xq4.2 (by decide) hpc
    have pr14 := gTc.fr xq4.2 (by decide) htc
    have pr15 := gRr.fr xq4.2 (by decide) hrr
    have pr16 := gRw.fr xq4.2 (by decide) hrw
    have k17 := sq4.2.1
    have k17b := sq4.2.2.1
    have hl18 : hq4.2.2.2.1 bt = h.2.2.2.1 bt := congrFun sq4.2.2.2.2.1 bt
    have hl19 : 1024 ≤ hq4.2.2.2.1 bt ∧ hq4.2.2.2.1 bt ≤ 1000000 := gJ.rowl (G := gGG) sq4.1 tbt rfl
    have k20 := sq4.2.1
    have k20b := sq4.2.2.1
    have hl21 : hq4.2.2.2.1 bt = h.2.2.2.1 bt := congrFun sq4.2.2.2.2.1 bt
    have hix22 : gIx ty x ld (hq4.2.2.2.1 bt : Int) iv hq4 := ⟨pic, b0, b1, b2, dr, sk, bt, n0, c0, ⟨tx, tdr, tsk, tbt⟩, ⟨s5, s6, s7, s8⟩, pr13, pr14, ⟨s9, by omega, by omega⟩, ⟨s10, by omega, by omega⟩, ⟨s11, by omega, by omega⟩, ⟨by omega, by omega⟩, pr15, pr16⟩
    have G23 : gSg [] [] [51001, 52999] ty h ty hq4 := gSg.ss G0 sq4 (by decide)
    exact gz_end (I := .return_) (len := 1) rfl (Or.inl rfl) ⟨ty, G23, ld, (hq4.2.2.2.1 bt : Int), iv, (by omega), (by omega), (by omega), (by omega), (by omega), (by omega), hix22, Or.inl ⟨rfl, (by omega), (by dsimp only; omega), (by dsimp only; omega), (by omega), (by omega)⟩⟩
  · refine gy_icF rfl (by decide) (by decide) (by omega) (by omega) hc3 ?_
    have hl24 : 1024 ≤ h.2.2.2.1 bt ∧ h.2.2.2.1 bt ≤ 1000000 := gJ.rowl (G := gGG) hS.1 tbt rfl
    have hix25 : gIx ty x ld (h.2.2.2.1 bt : Int) iv h := ⟨pic, b0, b1, b2, dr, sk, bt, n0, c0, ⟨tx, tdr, tsk, tbt⟩, ⟨ex2, ex3, ex4, ex0⟩, hpc, htc, ⟨en0, by omega, by omega⟩, ⟨eiv, by omega, by omega⟩, ⟨ec0, by omega, by omega⟩, ⟨by omega, by omega⟩, hrr, hrw⟩
    have G26 : gSg [] [] [51001, 52999] ty h ty h := gSg.ss G0 hS (by decide)
    exact gz_end (I := .new 51) (len := 3) rfl (Or.inr (by decide)) ⟨ty, G26, ld, (h.2.2.2.1 bt : Int), iv, (by omega), (by omega), (by omega), (by omega), (by omega), (by omega), hix25, Or.inr ⟨rfl, rfl, (by omega), (by dsimp only; omega), (by dsimp only; omega), (by omega), (by omega)⟩⟩
set_option maxRecDepth 20000 in
set_option maxHeartbeats 4000000 in
theorem cl_DctFilter_sample (d : Nat) {ty : Nat → Nat} {h : gH} (hJ : gJ rT 1027 ty h) (x : Nat) (tx : ty x = 50) (a : Int) (ra : (-2147483648) ≤ a ∧ a ≤ 2147483647) (b : Int) (rb : (-2147483648) ≤ b ∧ b ≤ 2147483647) (c : Int) (rc : (-2147483648) ≤ c ∧ c ≤ 2147483647) (hyst : gSta ty h) (ld : Int) (rld : 0 ≤ ld ∧ ld ≤ 192) (lb : Int) (rlb : 1024 ≤ lb ∧ lb ≤ 1000000) (iv : Int) (riv : 0 ≤ iv ∧ iv ≤ 100) (uq : gUq ty) (hyix : gIx ty x ld lb iv h) : gz gPP gGG gcn (d + 3) gt70 0 (gent [.ref x, .int (zi a), .int (zi b), .int (zi c)] 8) [] h (fun q _ => ∃ ty9 : Nat → Nat, gSg [] [] [] ty h ty9 q.2.2 ∧ ∃ ld1 lb1 iv1 : Int, 0 ≤ ld1 ∧ ld1 ≤ 192 ∧ 1024 ≤ lb1 ∧ lb1 ≤ 1000000 ∧ 0 ≤ iv1 ∧ iv1 ≤ 100 ∧ (gIx ty9 x ld1 lb1 iv1 q.2.2) ∧ ((∃ z : Int, gfin gt70 q.1 q.2.1 = some (some (.int (zi z))) ∧ (-2147483648) ≤ z ∧ z ≤ 2147483647 ∧ (iv1 = iv) ∧ (1024 * (((q.2.2.1 : Int) - h.1) - 31 - 2 * (ld1 - ld)) ≤ lb1 - lb) ∧ (((q.2.2.2.1 : Int) - h.2.1) ≤ 4303 + 12480 * (ld1 - ld) + 2 * (lb1 - lb)) ∧ (ld ≤ ld1) ∧ (lb ≤ lb1)) ∨ (q.2.1 = [] ∧ ((q.1 = 67)) ∧ (iv1 = iv) ∧ (1024 * (((q.2.2.1 : Int) - h.1) - 31 - 2 * (ld1 - ld)) ≤ lb1 - lb) ∧ (((q.2.2.2.1 : Int) - h.2.1) ≤ 4303 + 12480 * (ld1 - ld) + 2 * (lb1 - lb)) ∧ (ld ≤ ld1) ∧ (lb ≤ lb1)))) := by
  have hS : gSs rT 1027 ty [] h h := gSs.rf hJ
  have G0 : gSg [] [] [] ty h ty h := gSg.rf hJ (fun x hx => by cases hx)
  obtain ⟨pic, b0, b1, b2, dr, sk, bt, n0, c0, ⟨_, tdr, tsk, tbt⟩, ⟨ex2, ex3, ex4, ex0⟩, hpc, htc, ⟨en0, rn0⟩, ⟨eiv, riv⟩, ⟨ec0, rc0⟩, ⟨lc0, llb⟩, hrr, hrw⟩ := hyix
  have tpic := hpc.1.1
  have tb0 := hpc.1.2.1
  have tb1 := hpc.1.2.2.1
  have tb2 := hpc.1.2.2.2
  have hpq1 := hpc
  obtain ⟨_, bno, coo, dmo, vvo, ⟨tbno, tcoo, tdmo⟩, ⟨er0o, er1o, er2o, er3o, er4o, er5o⟩, hvvo, hrro, ⟨yy0o, yy1o, yy2o, yy3o, yy4o, yy5o, yy6o, yy7o⟩, ll0o, ll1o, ll2o, ll3o⟩ := hpq1
  have excno : h.2.2.2.2 pic 7 = .int (zi (vvo 0)) := hvvo (0, 7, 0) (by decide)
  have rrcno : 0 ≤ vvo 0 ∧ vvo 0 ≤ 3 := hrro (0, 0, 3) (by decide)
  have exuco : h.2.2.2.2 pic 12 = .int (zi (vvo 1)) := hvvo (0, 12, 1) (by decide)
  have rruco : 0 ≤ vvo 1 ∧ vvo 1 ≤ 8 := hrro (1, 0, 8) (by decide)
  have exuro : h.2.2.2.2 pic 13 = .int (zi (vvo 2)) := hvvo (0, 13, 2) (by decide)
  have rruro : 0 ≤ vvo 2 ∧ vvo 2 ≤ 8 := hrro (2, 0, 8) (by decide)
  have exblo : h.2.2.2.2 pic 8 = .int (zi (vvo 3)) := hvvo (0, 8, 3) (by decide)
  have rrblo : 0 ≤ vvo 3 ∧ vvo 3 ≤ 192 := hrro (3, 0, 192) (by decide)
  have exwo : h.2.2.2.2 pic 5 = .int (zi (vvo 4)) := hvvo (0, 5, 4) (by decide)
  have rrwo : 0 ≤ vvo 4 ∧ vvo 4 ≤ 64 := hrro (4, 0, 64) (by decide)
  have exhho : h.2.2.2.2 pic 6 = .int (zi (vvo 5)) := hvvo (0, 6, 5) (by decide)
  have rrhho : 0 ≤ vvo 5 ∧ vvo 5 ≤ 64 := hrro (5, 0, 64) (by decide)
  have exgho : h.2.2.2.2 pic 10 = .int (zi (vvo 6)) := hvvo (0, 10, 6) (by decide)
  have rrgho : 1 ≤ vvo 6 ∧ vvo 6 ≤ 2 := hrro (6, 1, 2) (by decide)
  have exgvo : h.2.2.2.2 pic 11 = .int (zi (vvo 7)) := hvvo (0, 11, 7) (by decide)
  have rrgvo : 1 ≤ vvo 7 ∧ vvo 7 ≤ 2 := hrro (7, 1, 2) (by decide)
  have exhb0o : h.2.2.2.2 b0 1 = .int (zi (vvo 8)) := hvvo (1, 1, 8) (by decide)
  have rrhb0o : (-1) ≤ vvo 8 ∧ vvo 8 ≤ 15 := hrro (8, (-1), 15) (by decide)
  have exvb0o : h.2.2.2.2 b0 2 = .int (zi (vvo 9)) := hvvo (1, 2, 9) (by decide)
  have rrvb0o : 0 ≤ vvo 9 ∧ vvo 9 ≤ 15 := hrro (9, 0, 15) (by decide)
  have extq0o : h.2.2.2.2 b0 3 = .int (zi (vvo 10)) := hvvo (1, 3, 10) (by decide)
  have rrtq0o : (-1) ≤ vvo 10 ∧ vvo 10 ≤ 255 := hrro (10, (-1), 255) (by decide)
  have exC0o : h.2.2.2.2 b0 4 = .int (zi (vvo 11)) := hvvo (1, 4, 11) (by decide)
  have rrC0o : 0 ≤ vvo 11 ∧ vvo 11 ≤ 16 := hrro (11, 0, 16) (by decide)
  have exR0o : h.2.2.2.2 b0 5 = .int (zi (vvo 12)) := hvvo (1, 5, 12) (by decide)
  have rrR0o : 0 ≤ vvo 12 ∧ vvo 12 ≤ 16 := hrro (12, 0, 16) (by decide)
  have exoc0o : h.2.2.2.2 b0 6 = .int (zi (vvo 13)) := hvvo (1, 6, 13) (by decide)
  have rroc0o : 0 ≤ vvo 13 ∧ vvo 13 ≤ 16 := hrro (13, 0, 16) (by decide)
  have exor0o : h.2.2.2.2 b0 7 = .int (zi (vvo 14)) := hvvo (1, 7, 14) (by decide)
  have rror0o : 0 ≤ vvo 14 ∧ vvo 14 ≤ 16 := hrro (14, 0, 16) (by decide)
  have exf0o : h.2.2.2.2 b0 8 = .int (zi (vvo 15)) := hvvo (1, 8, 15) (by decide)
  have rrf0o : 0 ≤ vvo 15 ∧ vvo 15 ≤ 192 := hrro (15, 0, 192) (by decide)
  have exhb1o : h.2.2.2.2 b1 1 = .int (zi (vvo 16)) := hvvo (2, 1, 16) (by decide)
  have rrhb1o : (-1) ≤ vvo 16 ∧ vvo 16 ≤ 15 := hrro (16, (-1), 15) (by decide)
  have exvb1o : h.2.2.2.2 b1 2 = .int (zi (vvo 17)) := hvvo (2, 2, 17) (by decide)
  have rrvb1o : 0 ≤ vvo 17 ∧ vvo 17 ≤ 15 := hrro (17, 0, 15) (by decide)
  have extq1o : h.2.2.2.2 b1 3 = .int (zi (vvo 18)) := hvvo (2, 3, 18) (by decide)
  have rrtq1o : (-1) ≤ vvo 18 ∧ vvo 18 ≤ 255 := hrro (18, (-1), 255) (by decide)
  have exC1o : h.2.2.2.2 b1 4 = .int (zi (vvo 19)) := hvvo (2, 4, 19) (by decide)
  have rrC1o : 0 ≤ vvo 19 ∧ vvo 19 ≤ 16 := hrro (19, 0, 16) (by decide)
  have exR1o : h.2.2.2.2 b1 5 = .int (zi (vvo 20)) := hvvo (2, 5, 20) (by decide)
  have rrR1o : 0 ≤ vvo 20 ∧ vvo 20 ≤ 16 := hrro (20, 0, 16) (by decide)
  have exoc1o : h.2.2.2.2 b1 6 = .int (zi (vvo 21)) := hvvo (2, 6, 21) (by decide)
  have rroc1o : 0 ≤ vvo 21 ∧ vvo 21 ≤ 16 := hrro (21, 0, 16) (by decide)
  have exor1o : h.2.2.2.2 b1 7 = .int (zi (vvo 22)) := hvvo (2, 7, 22) (by decide)
  have rror1o : 0 ≤ vvo 22 ∧ vvo 22 ≤ 16 := hrro (22, 0, 16) (by decide)
  have exf1o : h.2.2.2.2 b1 8 = .int (zi (vvo 23)) := hvvo (2, 8, 23) (by decide)
  have rrf1o : 0 ≤ vvo 23 ∧ vvo 23 ≤ 192 := hrro (23, 0, 192) (by decide)
  have exhb2o : h.2.2.2.2 b2 1 = .int (zi (vvo 24)) := hvvo (3, 1, 24) (by decide)
  have rrhb2o : (-1) ≤ vvo 24 ∧ vvo 24 ≤ 15 := hrro (24, (-1), 15) (by decide)
  have exvb2o : h.2.2.2.2 b2 2 = .int (zi (vvo 25)) := hvvo (3, 2, 25) (by decide)
  have rrvb2o : 0 ≤ vvo 25 ∧ vvo 25 ≤ 15 := hrro (25, 0, 15) (by decide)
  have extq2o : h.2.2.2.2 b2 3 = .int (zi (vvo 26)) := hvvo (3, 3, 26) (by decide)
  have rrtq2o : (-1) ≤ vvo 26 ∧ vvo 26 ≤ 255 := hrro (26, (-1), 255) (by decide)
  have exC2o : h.2.2.2.2 b2 4 = .int (zi (vvo 27)) := hvvo (3, 4, 27) (by decide)
  have rrC2o : 0 ≤ vvo 27 ∧ vvo 27 ≤ 16 := hrro (27, 0, 16) (by decide)
  have exR2o : h.2.2.2.2 b2 5 = .int (zi (vvo 28)) := hvvo (3, 5, 28) (by decide)
  have rrR2o : 0 ≤ vvo 28 ∧ vvo 28 ≤ 16 := hrro (28, 0, 16) (by decide)
  have exoc2o : h.2.2.2.2 b2 6 = .int (zi (vvo 29)) := hvvo (3, 6, 29) (by decide)
  have rroc2o : 0 ≤ vvo 29 ∧ vvo 29 ≤ 16 := hrro (29, 0, 16) (by decide)
  have exor2o : h.2.2.2.2 b2 7 = .int (zi (vvo 30)) := hvvo (3, 7, 30) (by decide)
  have rror2o : 0 ≤ vvo 30 ∧ vvo 30 ≤ 16 := hrro (30, 0, 16) (by decide)
  have exf2o : h.2.2.2.2 b2 8 = .int (zi (vvo 31)) := hvvo (3, 8, 31) (by decide)
  have rrf2o : 0 ≤ vvo 31 ∧ vvo 31 ≤ 192 := hrro (31, 0, 192) (by decide)
  refine gz_s 1 (pc' := 1) (L' := [some (.ref x), some (.int (zi a)), some (.int (zi b)), some (.int (zi c)), none, none, none, none]) (S' := [.int (zi c)]) rfl ?_
  have jn2 : ∀ (jn2v0 : Int), ((0 ≤ jn2v0) ∧ (jn2v0 ≤ 1) ∧ (jn2v0 = 1 → (0 ≤ c ∧ (c < vvo 0 ∨ (3 ≤ c ∧ c ≤ 5))))) → gz gPP gGG gcn (d + 3) gt70 30 [some (.ref x), some (.int (zi a)), some (.int (zi b)), some (.int (zi c)), none, none, none, none] [.int (zi jn2v0)] h (fun q _ => ∃ ty9 : Nat → Nat, gSg [] [] [] ty h ty9 q.2.2 ∧ ∃ ld1 lb1 iv1 : Int, 0 ≤ ld1 ∧ ld1 ≤ 192 ∧ 1024 ≤ lb1 ∧ lb1 ≤ 1000000 ∧ 0 ≤ iv1 ∧ iv1 ≤ 100 ∧ (gIx ty9 x ld1 lb1 iv1 q.2.2) ∧ ((∃ z : Int, gfin gt70 q.1 q.2.1 = some (some (.int (zi z))) ∧ (-2147483648) ≤ z ∧ z ≤ 2147483647 ∧ (iv1 = iv) ∧ (1024 * (((q.2.2.1 : Int) - h.1) - 31 - 2 * (ld1 - ld)) ≤ lb1 - lb) ∧ (((q.2.2.2.1 : Int) - h.2.1) ≤ 4303 + 12480 * (ld1 - ld) + 2 * (lb1 - lb)) ∧ (ld ≤ ld1) ∧ (lb ≤ lb1)) ∨ (q.2.1 = [] ∧ ((q.1 = 67)) ∧ (iv1 = iv) ∧ (1024 * (((q.2.2.1 : Int) - h.1) - 31 - 2 * (ld1 - ld)) ≤ lb1 - lb) ∧ (((q.2.2.2.1 : Int) - h.2.1) ≤ 4303 + 12480 * (ld1 - ld) + 2 * (lb1 - lb)) ∧ (ld ≤ ld1) ∧ (lb ≤ lb1)))) := by
    intro jn2v0 jn2d
    refine gz_s 2 (pc' := 34) (L' := [some (.ref x), some (.int (zi a)), some (.int (zi b)), some (.int (zi c)), some (.int (zi jn2v0)), none, none, none]) (S' := [.int (zi jn2v0)]) rfl ?_
    by_cases hc3 : (jn2v0 : Int) = 0
    · refine gy_ifT (pc' := 67) rfl (by decide) (by decide) (by omega) hc3 ?_
      have hl4 : 1024 ≤ h.2.2.2.1 bt ∧ h.2.2.2.1 bt ≤ 1000000 := gJ.rowl (G := gGG) hS.1 tbt rfl
      have hl5 : 0 ≤ h.2.2.2.1 coo ∧ h.2.2.2.1 coo ≤ 12288 := gJ.rowl (G := gGG) hS.1 tcoo rfl
      have hl6 : 0 ≤ h.2.2.2.1 dmo ∧ h.2.2.2.1 dmo ≤ 192 := gJ.rowl (G := gGG) hS.1 tdmo rfl
      have hix7 : gIx ty x ld (h.2.2.2.1 bt : Int) iv h := ⟨pic, b0, b1, b2, dr, sk, bt, n0, c0, ⟨tx, tdr, tsk, tbt⟩, ⟨ex2, ex3, ex4, ex0⟩, hpc, htc, ⟨en0, by omega, by omega⟩, ⟨eiv, by omega, by omega⟩, ⟨ec0, by omega, by omega⟩, ⟨by omega, by omega⟩, hrr, hrw⟩
      have G8 : gSg [] [] [] ty h ty h := gSg.ss G0 hS (by decide)
      exact gz_end (I := .new 84) (len := 3) rfl (Or.inr (by decide)) ⟨ty, G8, ld, (h.2.2.2.1 bt : Int), iv, (by omega), (by omega), (by omega), (by omega), (by omega), (by omega), hix7, Or.inr ⟨rfl, rfl, (by omega), (by dsimp only; omega), (by dsimp only; omega), (by omega), (by omega)⟩⟩
    · refine gy_ifF rfl (by decide) (by decide) (by omega) hc3 ?_
      refine gz_s 1 (pc' := 38) (L' := [some (.ref x), some (.int (zi a)), some (.int (zi b)), some (.int (zi c)), some (.int (zi jn2v0)), none, none, none]) (S' := [.int (zi a)]) rfl ?_
      by_cases hc9 : (a : Int) < 0
      · refine gy_ifT (pc' := 67) rfl (by decide) (by decide) (by omega) hc9 ?_
        have hl10 : 1024 ≤ h.2.2.2.1 bt ∧ h.2.2.2.1 bt ≤ 1000000 := gJ.rowl (G := gGG) hS.1 tbt rfl
        have hl11 : 0 ≤ h.2.2.2.1 coo ∧ h.2.2.2.1 coo ≤ 12288 := gJ.rowl (G := gGG) hS.1 tcoo rfl
        have hl12 : 0 ≤ h.2.2.2.1 dmo ∧ h.2.2.2.1 dmo ≤ 192 := gJ.rowl (G := gGG) hS.1 tdmo rfl
        have hix13 : gIx ty x ld (h.2.2.2.1 bt : Int) iv h := ⟨pic, b0, b1, b2, dr, sk, bt, n0, c0, ⟨tx, tdr, tsk, tbt⟩, ⟨ex2, ex3, ex4, ex0⟩, hpc, htc, ⟨en0, by omega, by omega⟩, ⟨eiv, by omega, by omega⟩, ⟨ec0, by omega, by omega⟩, ⟨by omega, by omega⟩, hrr, hrw⟩
        have G14 : gSg [] [] [] ty h ty h := gSg.ss G0 hS (by decide)
        exact gz_end (I := .new 84) (len := 3) rfl (Or.inr (by decide)) ⟨ty, G14, ld, (h.2.2.2.1 bt : Int), iv, (by omega), (by omega), (by omega), (by omega), (by omega), (by omega), hix13, Or.inr ⟨rfl, rfl, (by omega), (by dsimp only; omega), (by dsimp only; omega), (by omega), (by omega)⟩⟩
      · refine gy_ifF rfl (by decide) (by decide) (by omega) hc9 ?_
        refine gz_s 2 (pc' := 43) (L' := [some (.ref x), some (.int (zi a)), some (.int (zi b)), some (.int (zi c)), some (.int (zi jn2v0)), none, none, none]) (S' := [.ref x, .int (zi a)]) rfl ?_
        refine gs_gtk rfl (by decide) rfl hS.1 tx rfl rfl ex2 ?_
        refine gs_gtk rfl (by decide) rfl hS.1 tpic rfl rfl exwo ?_
        by_cases hc15 : (vvo 4 : Int) ≤ a
        · refine gy_icT (pc' := 67) rfl (by decide) (by decide) (by omega) (by omega) hc15 ?_
          have hl16 : 1024 ≤ h.2.2.2.1 bt ∧ h.2.2.2.1 bt ≤ 1000000 := gJ.rowl (G := gGG) hS.1 tbt rfl
          have hl17 : 0 ≤ h.2.2.2.1 coo ∧ h.2.2.2.1 coo ≤ 12288 := gJ.rowl (G := gGG) hS.1 tcoo rfl
          have hl18 : 0 ≤ h.2.2.2.1 dmo ∧ h.2.2.2.1 dmo ≤ 192 := gJ.rowl (G := gGG) hS.1 tdmo rfl
          have hix19 : gIx ty x ld (h.2.2.2.1 bt : Int) iv h := ⟨pic, b0, b1, b2, dr, sk, bt, n0, c0, ⟨tx, tdr, tsk, tbt⟩, ⟨ex2, ex3, ex4, ex0⟩, hpc, htc, ⟨en0, by omega, by omega⟩, ⟨eiv, by omega, by omega⟩, ⟨ec0, by omega, by omega⟩, ⟨by omega, by omega⟩, hrr, hrw⟩
          have G20 : gSg [] [] [] ty h ty h := gSg.ss G0 hS (by decide)
          exact gz_end (I := .new 84) (len := 3) rfl (Or.inr (by decide)) ⟨ty, G20, ld, (h.2.2.2.1 bt : Int), iv, (by omega), (by omega), (by omega), (by omega), (by omega), (by omega), hix19, Or.inr ⟨rfl, rfl, (by omega), (by dsimp only; omega), (by dsimp only; omega), (by omega), (by omega)⟩⟩
        · refine gy_icF rfl (by decide) (by decide) (by omega) (by omega) hc15 ?_
          refine gz_s 1 (pc' := 53) (L' := [some (.ref x), some (.int (zi a)), some (.int (zi b)), some (.int (zi c)), some (.int (zi jn2v0)), none, none, none]) (S' := [.int (zi b)]) rfl ?_
          by_cases hc21 : (b : Int) < 0
          · refine gy_ifT (pc' := 67) rfl (by decide) (by decide) (by omega) hc21 ?_
            have hl22 : 1024 ≤ h.2.2.2.1 bt ∧ h.2.2.2.1 bt ≤ 1000000 := gJ.rowl (G := gGG) hS.1 tbt rfl
            have hl23 : 0 ≤ h.2.2.2.1 coo ∧ h.2.2.2.1 coo ≤ 12288 := gJ.rowl (G := gGG) hS.1 tcoo rfl
            have hl24 : 0 ≤ h.2.2.2.1 dmo ∧ h.2.2.2.1 dmo ≤ 192 := gJ.rowl (G := gGG) hS.1 tdmo rfl
            have hix25 : gIx ty x ld (h.2.2.2.1 bt : Int) iv h := ⟨pic, b0, b1, b2, dr, sk, bt, n0, c0, ⟨tx, tdr, tsk, tbt⟩, ⟨ex2, ex3, ex4, ex0⟩, hpc, htc, ⟨en0, by omega, by omega⟩, ⟨eiv, by omega, by omega⟩, ⟨ec0, by omega, by omega⟩, ⟨by omega, by omega⟩, hrr, hrw⟩
            have G26 : gSg [] [] [] ty h ty h := gSg.ss G0 hS (by decide)
            exact gz_end (I := .new 84) (len := 3) rfl (Or.inr (by decide)) ⟨ty, G26, ld, (h.2.2.2.1 bt : Int), iv, (by omega), (by omega), (by omega), (by omega), (by omega), (by omega), hix25, Or.inr ⟨rfl, rfl, (by omega), (by dsimp only; omega), (by dsimp only; omega), (by omega), (by omega)⟩⟩
          · refine gy_ifF rfl (by decide) (by decide) (by omega) hc21 ?_
            refine gz_s 2 (pc' := 58) (L' := [some (.ref x), some (.int (zi a)), some (.int (zi b)), some (.int (zi c)), some (.int (zi jn2v0)), none, none, none]) (S' := [.ref x, .int (zi b)]) rfl ?_
            refine gs_gtk rfl (by decide) rfl hS.1 tx rfl rfl ex2 ?_
            refine gs_gtk rfl (by decide) rfl hS.1 tpic rfl rfl exhho ?_
            by_cases hc27 : (b : Int) < vvo 5
            · refine gy_icT (pc' := 77) rfl (by decide) (by decide) (by omega) (by omega) hc27 ?_
              refine gz_s 2 (pc' := 79) (L' := [some (.ref x), some (.int (zi a)), some (.int (zi b)), some (.int (zi c)), some (.int (zi jn2v0)), none, none, none]) (S' := [.ref x, .int (zi c)]) rfl ?_
              refine gs_gtk rfl (by decide) rfl hS.1 tx rfl rfl ex2 ?_
              refine gs_gtk rfl (by decide) rfl hS.1 tpic rfl rfl excno ?_
              by_cases hc28 : (vvo 0 : Int) ≤ c
              · refine gy_icT (pc' := 99) rfl (by decide) (by decide) (by omega) (by omega) hc28 ?_
                refine gz_s 1 (pc' := 100) (L' := [some (.ref x), some (.int (zi a)), some (.int (zi b)), some (.int (zi c)), some (.int (zi jn2v0)), none, none, none]) (S' := [.ref x]) rfl ?_
                refine gs_gtk rfl (by decide) rfl hS.1 tx rfl rfl ex2 ?_
                refine gz_s 3 (pc' := 106) (L' := [some (.ref x), some (.int (zi a)), some (.int (zi b)), some (.int (zi c)), some (.int (zi jn2v0)), none, none, none]) (S' := [.int (zi b), .int (zi a), .int (zi 0), .ref pic]) rfl ?_
                have hl29 : h.2.2.2.1 coo = h.2.2.2.1 coo := congrFun hS.2.2.2.2.1 coo
                refine gz_call rfl (by decide) rfl (by decide) (by decide) (gcal_of rfl rfl rfl (Nat.le_of_ble_eq_true rfl) (gJ.recv (G := gGG) hS.1 tpic rfl rfl)) (cl_Picture_sampleAt _ hS.1 pic tpic 0 ⟨by omega, by omega⟩ a ⟨by omega, by omega⟩ b ⟨by omega, by omega⟩ bno er0o tbno b0 er1o tb0 b1 er2o tb1 b2 er3o tb2 coo er4o tcoo (gSta.fr hS.2 (by decide) hyst) (vvo 0) excno ⟨by omega, by omega⟩ (vvo 1) exuco ⟨by omega, by omega⟩ (vvo 2) exuro ⟨by omega, by omega⟩ (vvo 3) exblo ⟨by omega, by omega⟩ (vvo 4) exwo ⟨by omega, by omega⟩ (vvo 5) exhho ⟨by omega, by omega⟩ (vvo 6) exgho ⟨by omega, by omega⟩ (vvo 7) exgvo ⟨by omega, by omega⟩ (vvo 8) exhb0o ⟨by omega, by omega⟩ (vvo 9) exvb0o ⟨by omega, by omega⟩ (vvo 11) exC0o ⟨by omega, by omega⟩ (vvo 12) exR0o ⟨by omega, by omega⟩ (vvo 13) exoc0o ⟨by omega, by omega⟩ (vvo 14) exor0o ⟨by omega, by omega⟩ (vvo 15) exf0o ⟨by omega, by omega⟩ (vvo 16) exhb1o ⟨by omega, by omega⟩ (vvo 17) exvb1o ⟨by omega, by omega⟩ (vvo 19) exC1o ⟨by omega, by omega⟩ (vvo 20) exR1o ⟨by omega, by omega⟩ (vvo 21) exoc1o ⟨by omega, by omega⟩ (vvo 22) exor1o ⟨by omega, by omega⟩ (vvo 23) exf1o ⟨by omega, by omega⟩ (vvo 24) exhb2o ⟨by omega, by omega⟩ (vvo 25) exvb2o ⟨by omega, by omega⟩ (vvo 27) exC2o ⟨by omega, by omega⟩ (vvo 28) exR2o ⟨by omega, by omega⟩ (vvo 29) exoc2o ⟨by omega, by omega⟩ (vvo 30) exor2o ⟨by omega, by omega⟩ (vvo 31) exf2o ⟨by omega, by omega⟩ (vvo 10) extq0o ⟨by omega, by omega⟩ (vvo 18) extq1o ⟨by omega, by omega⟩ (vvo 26) extq2o ⟨by omega, by omega⟩ (by omega) (by omega) (by omega) (by omega) uq yy0o yy1o yy2o yy3o yy4o yy5o yy7o) (fun q30 _ wq30 => ?_)
                obtain ⟨pq30, oq30, hq30⟩ := q30
                obtain ⟨xq30, zq30, gq30, aq30, bq30⟩ := wq30
                refine ⟨_, gq30, ?_⟩
                show gz gPP gGG gcn _ _ 109 [some (.ref x), some (.int (zi a)), some (.int (zi b)), some (.int (zi c)), some (.int (zi jn2v0)), none, none, none] [.int (zi zq30)] hq30 _
                have sq30 : gSs rT 1027 ty [] h hq30 := gSs.tr hS xq30 (by decide)
                have s31 := (xq30.2.2.2.2.2 x 2 (by rw [tx]; decide)).trans ex2
                have s32 := (xq30.2.2.2.2.2 x 3 (by rw [tx]; decide)).trans ex3
                have s33 := (xq30.2.2.2.2.2 x 4 (by rw [tx]; decide)).trans ex4
                have s34 := (xq30.2.2.2.2.2 sk 0 (by rw [tsk]; decide)).trans ex0
                have s35 := (xq30.2.2.2.2.2 dr 8 (by rw [tdr]; decide)).trans en0
                have s36 := (xq30.2.2.2.2.2 dr 3 (by rw [tdr]; decide)).trans eiv
                have s37 := (xq30.2.2.2.2.2 sk 1 (by rw [tsk]; decide)).trans ec0
                have s38 := (xq30.2.2.2.2.2 pic 0 (by rw [tpic]; decide)).trans er0o
                have s39 := (xq30.2.2.2.2.2 bno 0 (by rw [tbno]; decide)).trans er1o
                have s40 := (xq30.2.2.2.2.2 bno 1 (by rw [tbno]; decide)).trans er2o
                have s41 := (xq30.2.2.2.2.2 bno 2 (by rw [tbno]; decide)).trans er3o
                have s42 := (xq30.2.2.2.2.2 pic 2 (by rw [tpic]; decide)).trans er4o
                have s43 := (xq30.2.2.2.2.2 pic 3 (by rw [tpic]; decide)).trans er5o
                have s44 := (xq30.2.2.2.2.2 pic 7 (by rw [tpic]; decide)).trans excno
                have s45 := (xq30.2.2.2.2.2 pic 12 (by rw [tpic]; decide)).trans exuco
                have s46 := (xq30.2.2.2.2.2 pic 13 (by rw [tpic]; decide)).trans exuro
                have s47 := (xq30.2.2.2.2.2 pic 8 (by rw [tpic]; decide)).trans exblo
                have s48 := (xq30.2.2.2.2.2 pic 5 (by rw [tpic]; decide)).trans exwo
                have s49 := (xq30.2.2.2.2.2 pic 6 (by rw [tpic]; decide)).trans exhho
                have s50 := (xq30.2.2.2.2.2 pic 10 (by rw [tpic]; decide)).trans exgho
                have s51 := (xq30.2.2.2.2.2 pic 11 (by rw [tpic]; decide)).trans exgvo
                have s52 := (xq30.2.2.2.2.2 b0 1 (by rw [tb0]; decide)).trans exhb0o
                have s53 := (xq30.2.2.2.2.2 b0 2 (by rw [tb0]; decide)).trans exvb0o
                have s54 := (xq30.2.2.2.2.2 b0 3 (by rw [tb0]; decide)).trans extq0o
                have s55 := (xq30.2.2.2.2.2 b0 4 (by rw [tb0]; decide)).trans exC0o
                have s56 := (xq30.2.2.2.2.2 b0 5 (by rw [tb0]; decide)).trans exR0o
                have s57 := (xq30.2.2.2.2.2 b0 6 (by rw [tb0]; decide)).trans exoc0o
                have s58 := (xq30.2.2.2.2.2 b0 7 (by rw [tb0]; decide)).trans exor0o
                have s59 := (xq30.2.2.2.2.2 b0 8 (by rw [tb0]; decide)).trans exf0o
                have s60 := (xq30.2.2.2.2.2 b1 1 (by rw [tb1]; decide)).trans exhb1o
                have s61 := (xq30.2.2.2.2.2 b1 2 (by rw [tb1]; decide)).trans exvb1o
                have s62 := (xq30.2.2.2.2.2 b1 3 (by rw [tb1]; decide)).trans extq1o
                have s63 := (xq30.2.2.2.2.2 b1 4 (by rw [tb1]; decide)).trans exC1o
                have s64 := (xq30.2.2.2.2.2 b1 5 (by rw [tb1]; decide)).trans exR1o
                have s65 := (xq30.2.2.2.2.2 b1 6 (by rw [tb1]; decide)).trans exoc1o
                have s66 := (xq30.2.2.2.2.2 b1 7 (by rw [tb1]; decide)).trans exor1o
                have s67 := (xq30.2.2.2.2.2 b1 8 (by rw [tb1]; decide)).trans exf1o
                have s68 := (xq30.2.2.2.2.2 b2 1 (by rw [tb2]; decide)).trans exhb2o
                have s69 := (xq30.2.2.2.2.2 b2 2 (by rw [tb2]; decide)).trans exvb2o
                have s70 := (xq30.2.2.2.2.2 b2 3 (by rw [tb2]; decide)).trans extq2o
                have s71 := (xq30.2.2.2.2.2 b2 4 (by rw [tb2]; decide)).trans exC2o
                have s72 := (xq30.2.2.2.2.2 b2 5 (by rw [tb2]; decide)).trans exR2o
                have s73 := (xq30.2.2.2.2.2 b2 6 (by rw [tb2]; decide)).trans exoc2o
                have s74 := (xq30.2.2.2.2.2 b2 7 (by rw [tb2]; decide)).trans exor2o
                have s75 := (xq30.2.2.2.2.2 b2 8 (by rw [tb2]; decide)).trans exf2o
                have pr76 := gPC.fr xq30.2 (by decide) hpc
                have pr77 := gTc.fr xq30.2 (by decide) htc
                have pr78 := gRr.fr xq30.2 (by decide) hrr
                have pr79 := gRw.fr xq30.2 (by decide) hrw
                refine gz_s 2 (pc' := 112) (L' := [some (.ref x), some (.int (zi a)), some (.int (zi b)), some (.int (zi c)), some (.int (zi jn2v0)), some (.int (zi zq30)), none, none]) (S' := [.ref x]) rfl ?_
                refine gs_gtk rfl (by decide) rfl sq30.1 tx rfl rfl s31 ?_
                refine gs_gtk rfl (by decide) rfl sq30.1 tpic rfl rfl s44 ?_
                refine gz_s 1 (pc' := 119) (L' := [some (.ref x), some (.int (zi a)), some (.int (zi b)), some (.int (zi c)), some (.int (zi jn2v0)), some (.int (zi zq30)), none, none]) (S' := [.int (zi 3), .int (zi (vvo 0))]) rfl ?_
                by_cases hc80 : (3 : Int) ≤ vvo 0
                · refine gy_icT (pc' := 125) rfl (by decide) (by decide) (by omega) (by omega) hc80 ?_
                  refine gz_s 1 (pc' := 126) (L' := [some (.ref x), some (.int (zi a)), some (.int (zi b)), some (.int (zi c)), some (.int (zi jn2v0)), some (.int (zi zq30)), none, none]) (S' := [.ref x]) rfl ?_
                  refine gs_gtk rfl (by decide) rfl sq30.1 tx rfl rfl s31 ?_
                  refine gz_s 3 (pc' := 132) (L' := [some (.ref x), some (.int (zi a)), some (.int (zi b)), some (.int (zi c)), some (.int (zi jn2v0)), some (.int (zi zq30)), none, none]) (S' := [.int (zi b), .int (zi a), .int (zi 1), .ref pic]) rfl ?_
                  have k81 := sq30.2.1
                  have k81b := sq30.2.2.1
                  have hl82 : hq30.2.2.2.1 bt = h.2.2.2.1 bt := congrFun sq30.2.2.2.2.1 bt
                  have hl83 : hq30.2.2.2.1 coo = h.2.2.2.1 coo := congrFun sq30.2.2.2.2.1 coo
                  have hl84 : hq30.2.2.2.1 dmo = h.2.2.2.1 dmo := congrFun sq30.2.2.2.2.1 dmo
                  have hl85 : hq30.2.2.2.1 coo = h.2.2.2.1 coo := congrFun sq30.2.2.2.2.1 coo
                  refine gz_call rfl (by decide) rfl (by decide) (by decide) (gcal_of rfl rfl rfl (Nat.le_of_ble_eq_true rfl) (gJ.recv (G := gGG) sq30.1 tpic rfl rfl)) (cl_Picture_sampleAt _ sq30.1 pic tpic 1 ⟨by omega, by omega⟩ a ⟨by omega, by omega⟩ b ⟨by omega, by omega⟩ bno s38 tbno b0 s39 tb0 b1 s40 tb1 b2 s41 tb2 coo s42 tcoo (gSta.fr sq30.2 (by decide) hyst) (vvo 0) s44 ⟨by omega, by omega⟩ (vvo 1) s45 ⟨by omega, by omega⟩ (vvo 2) s46 ⟨by omega, by omega⟩ (vvo 3) s47 ⟨by omega, by omega⟩ (vvo 4) s48 ⟨by omega, by omega⟩ (vvo 5) s49 ⟨by omega, by omega⟩ (vvo 6) s50 ⟨by omega, by omega⟩ (vvo 7) s51 ⟨by omega, by omega⟩ (vvo 8) s52 ⟨by omega, by omega⟩ (vvo 9) s53 ⟨by omega, by omega⟩ (vvo 11) s55 ⟨by omega, by omega⟩ (vvo 12) s56 ⟨by omega, by omega⟩ (vvo 13) s57 ⟨by omega, by omega⟩ (vvo 14) s58 ⟨by omega, by omega⟩ (vvo 15) s59 ⟨by omega, by omega⟩ (vvo 16) s60 ⟨by omega, by omega⟩ (vvo 17) s61 ⟨by omega, by omega⟩ (vvo 19) s63 ⟨by omega, by omega⟩ (vvo 20) s64 ⟨by omega, by omega⟩ (vvo 21) s65 ⟨by omega, by omega⟩ (vvo 22) s66 ⟨by omega, by omega⟩ (vvo 23) s67 ⟨by omega, by omega⟩ (vvo 24) s68 ⟨by omega, by omega⟩ (vvo 25) s69 ⟨by omega, by omega⟩ (vvo 27) s71 ⟨by omega, by omega⟩ (vvo 28) s72 ⟨by omega, by omega⟩ (vvo 29) s73 ⟨by omega, by omega⟩ (vvo 30) s74 ⟨by omega, by omega⟩ (vvo 31) s75 ⟨by omega, by omega⟩ (vvo 10) s54 ⟨by omega, by omega⟩ (vvo 18) s62 ⟨by omega, by omega⟩ (vvo 26) s70 ⟨by omega, by omega⟩ (by omega) (by omega) (by omega) (by omega) uq yy0o yy1o yy2o yy3o yy4o yy5o yy7o) (fun q86 _ wq86 => ?_)
                  obtain ⟨pq86, oq86, hq86⟩ := q86
                  obtain ⟨xq86, zq86, gq86, aq86, bq86⟩ := wq86
                  refine ⟨_, gq86, ?_⟩
                  show gz gPP gGG gcn _ _ 135 [some (.ref x), some (.int (zi a)), some (.int (zi b)), some (.int (zi c)), some (.int (zi jn2v0)), some (.int (zi zq30)), none, none] [.int (zi zq86)] hq86 _
                  have sq86 : gSs rT 1027 ty [] h hq86 := gSs.tr sq30 xq86 (by decide)
                  have s87 := (xq86.2.2.2.2.2 x 2 (by rw [tx]; decide)).trans s31
                  have s88 := (xq86.2.2.2.2.2 x 3 (by rw [tx]; decide)).trans s32
                  have s89 := (xq86.2.2.2.2.2 x 4 (by rw [tx]; decide)).trans s33
                  have s90 := (xq86.2.2.2.2.2 sk 0 (by rw [tsk]; decide)).trans s34
                  have s91 := (xq86.2.2.2.2.2 dr 8 (by rw [tdr]; decide)).trans s35
                  have s92 := (xq86.2.2.2.2.2 dr 3 (by rw [tdr]; decide)).trans s36
                  have s93 := (xq86.2.2.2.2.2 sk 1 (by rw [tsk]; decide)).trans s37
                  have s94 := (xq86.2.2.2.2.2 pic 0 (by rw [tpic]; decide)).trans s38
                  have s95 := (xq86.2.2.2.2.2 bno 0 (by rw [tbno]; decide)).trans s39
                  have s96 := (xq86.2.2.2.2.2 bno 1 (by rw [tbno]; decide)).trans s40
                  have s97 := (xq86.2.2.2.2.2 bno 2 (by rw [tbno]; decide)).trans s41
                  have s98 := (xq86.2.2.2.2.2 pic 2 (by rw [tpic]; decide)).trans s42
                  have s99 := (xq86.2.2.2.2.2 pic 3 (by rw [tpic]; decide)).trans s43
                  have s100 := (xq86.2.2.2.2.2 pic 7 (by rw [tpic]; decide)).trans s44
                  have s101 := (xq86.2.2.2.2.2 pic 12 (by rw [tpic]; decide)).trans s45
                  have s102 := (xq86.2.2.2.2.2 pic 13 (by rw [tpic]; decide)).trans s46
                  have s103 := (xq86.2.2.2.2.2 pic 8 (by rw [tpic]; decide)).trans s47
                  have s104 := (xq86.2.2.2.2.2 pic 5 (by rw [tpic]; decide)).trans s48
                  have s105 := (xq86.2.2.2.2.2 pic 6 (by rw [tpic]; decide)).trans s49
                  have s106 := (xq86.2.2.2.2.2 pic 10 (by rw [tpic]; decide)).trans s50
                  have s107 := (xq86.2.2.2.2.2 pic 11 (by rw [tpic]; decide)).trans s51
                  have s108 := (xq86.2.2.2.2.2 b0 1 (by rw [tb0]; decide)).trans s52
                  have s109 := (xq86.2.2.2.2.2 b0 2 (by rw [tb0]; decide)).trans s53
                  have s110 := (xq86.2.2.2.2.2 b0 3 (by rw [tb0]; decide)).trans s54
                  have s111 := (xq86.2.2.2.2.2 b0 4 (by rw [tb0]; decide)).trans s55
                  have s112 := (xq86.2.2.2.2.2 b0 5 (by rw [tb0]; decide)).trans s56
                  have s113 := (xq86.2.2.2.2.2 b0 6 (by rw [tb0]; decide)).trans s57
                  have s114 := (xq86.2.2.2.2.2 b0 7 (by rw [tb0]; decide)).trans s58
                  have s115 := (xq86.2.2.2.2.2 b0 8 (by rw [tb0]; decide)).trans s59
                  have s116 := (xq86.2.2.2.2.2 b1 1 (by rw [tb1]; decide)).trans s60
                  have s117 := (xq86.2.2.2.2.2 b1 2 (by rw [tb1]; decide)).trans s61
                  have s118 := (xq86.2.2.2.2.2 b1 3 (by rw [tb1]; decide)).trans s62
                  have s119 := (xq86.2.2.2.2.2 b1 4 (by rw [tb1]; decide)).trans s63
                  have s120 := (xq86.2.2.2.2.2 b1 5 (by rw [tb1]; decide)).trans s64
                  have s121 := (xq86.2.2.2.2.2 b1 6 (by rw [tb1]; decide)).trans s65
                  have s122 := (xq86.2.2.2.2.2 b1 7 (by rw [tb1]; decide)).trans s66
                  have s123 := (xq86.2.2.2.2.2 b1 8 (by rw [tb1]; decide)).trans s67
                  have s124 := (xq86.2.2.2.2.2 b2 1 (by rw [tb2]; decide)).trans s68
                  have s125 := (xq86.2.2.2.2.2 b2 2 (by rw [tb2]; decide)).trans s69
                  have s126 := (xq86.2.2.2.2.2 b2 3 (by rw [tb2]; decide)).trans s70
                  have s127 := (xq86.2.2.2.2.2 b2 4 (by rw [tb2]; decide)).trans s71
                  have s128 := (xq86.2.2.2.2.2 b2 5 (by rw [tb2]; decide)).trans s72
                  have s129 := (xq86.2.2.2.2.2 b2 6 (by rw [tb2]; decide)).trans s73
                  have s130 := (xq86.2.2.2.2.2 b2 7 (by rw [tb2]; decide)).trans s74
                  have s131 := (xq86.2.2.2.2.2 b2 8 (by rw [tb2]; decide)).trans s75
                  have pr132 := gPC.fr xq86.2 (by decide) pr76
                  have pr133 := gTc.fr xq86.2 (by decide) pr77
                  have pr134 := gRr.fr xq86.2 (by decide) pr78
                  have pr135 := gRw.fr xq86.2 (by decide) pr79
                  refine gy_s 2 (pc' := 139) (L' := [some (.ref x), some (.int (zi a)), some (.int (zi b)), some (.int (zi c)), some (.int (zi jn2v0)), some (.int (zi zq30)), none, none]) (S' := [.int ((zi zq86) - (zi 128))]) (L2 := [some (.ref x), some (.int (zi a)), some (.int (zi b)), some (.int (zi c)), some (.int (zi jn2v0)), some (.int (zi zq30)), none, none]) (S2 := [.int (zi (zq86 - 128))]) rfl (by simp only [zi_add, zi_sub, zi_mul, zi_neg, zi_and1, zi_and7, zi_and15, zi_and31, zi_and255]) (by simp only [zi_add, zi_sub, zi_mul, zi_neg, zi_and1, zi_and7, zi_and15, zi_and31, zi_and255]) ?_
                  refine gy_any (fun z136 ez136 az136 bz136 => ?_)
                  refine gz_s 2 (pc' := 142) (L' := [some (.ref x), some (.int (zi a)), some (.int (zi b)), some (.int (zi c)), some (.int (zi jn2v0)), some (.int (zi zq30)), some (.int (zi z136)), none]) (S' := [.ref x]) rfl ?_
                  refine gs_gtk rfl (by decide) rfl sq86.1 tx rfl rfl s87 ?_
                  refine gz_s 3 (pc' := 148) (L' := [some (.ref x), some (.int (zi a)), some (.int (zi b)), some (.int (zi c)), some (.int (zi jn2v0)), some (.int (zi zq30)), some (.int (zi z136)), none]) (S' := [.int (zi b), .int (zi a), .int (zi 2), .ref pic]) rfl ?_
                  have k137 := sq86.2.1
                  have k137b := sq86.2.2.1
                  have hl138 : hq86.2.2.2.1 bt = h.2.2.2.1 bt := congrFun sq86.2.2.2.2.1 bt
                  have hl139 : hq86.2.2.2.1 coo = h.2.2.2.1 coo := congrFun sq86.2.2.2.2.1 coo
                  have hl140 : hq86.2.2.2.1 dmo = h.2.2.2.1 dmo := congrFun sq86.2.2.2.2.1 dmo
                  have hl141 : hq86.2.2.2.1 coo = h.2.2.2.1 coo := congrFun sq86.2.2.2.2.1 coo
                  refine gz_call rfl (by decide) rfl (by decide) (by decide) (gcal_of rfl rfl rfl (Nat.le_of_ble_eq_true rfl) (gJ.recv (G := gGG) sq86.1 tpic rfl rfl)) (cl_Picture_sampleAt _ sq86.1 pic tpic 2 ⟨by omega, by omega⟩ a ⟨by omega, by omega⟩ b ⟨by omega, by omega⟩ bno s94 tbno b0 s95 tb0 b1 s96 tb1 b2 s97 tb2 coo s98 tcoo (gSta.fr sq86.2 (by decide) hyst) (vvo 0) s100 ⟨by omega, by omega⟩ (vvo 1) s101 ⟨by omega, by omega⟩ (vvo 2) s102 ⟨by omega, by omega⟩ (vvo 3) s103 ⟨by omega, by omega⟩ (vvo 4) s104 ⟨by omega, by omega⟩ (vvo 5) s105 ⟨by omega, by omega⟩ (vvo 6) s106 ⟨by omega, by omega⟩ (vvo 7) s107 ⟨by omega, by omega⟩ (vvo 8) s108 ⟨by omega, by omega⟩ (vvo 9) s109 ⟨by omega, by omega⟩ (vvo 11) s111 ⟨by omega, by omega⟩ (vvo 12) s112 ⟨by omega, by omega⟩ (vvo 13) s113 ⟨by omega, by omega⟩ (vvo 14) s114 ⟨by omega, by omega⟩ (vvo 15) s115 ⟨by omega, by omega⟩ (vvo 16) s116 ⟨by omega, by omega⟩ (vvo 17) s117 ⟨by omega, by omega⟩ (vvo 19) s119 ⟨by omega, by omega⟩ (vvo 20) s120 ⟨by omega, by omega⟩ (vvo 21) s121 ⟨by omega, by omega⟩ (vvo 22) s122 ⟨by omega, by omega⟩ (vvo 23) s123 ⟨by omega, by omega⟩ (vvo 24) s124 ⟨by omega, by omega⟩ (vvo 25) s125 ⟨by omega, by omega⟩ (vvo 27) s127 ⟨by omega, by omega⟩ (vvo 28) s128 ⟨by omega, by omega⟩ (vvo 29) s129 ⟨by omega, by omega⟩ (vvo 30) s130 ⟨by omega, by omega⟩ (vvo 31) s131 ⟨by omega, by omega⟩ (vvo 10) s110 ⟨by omega, by omega⟩ (vvo 18) s118 ⟨by omega, by omega⟩ (vvo 26) s126 ⟨by omega, by omega⟩ (by omega) (by omega) (by omega) (by omega) uq yy0o yy1o yy2o yy3o yy4o yy5o yy7o) (fun q142 _ wq142 => ?_)
                  obtain ⟨pq142, oq142, hq142⟩ := q142
                  obtain ⟨xq142, zq142, gq142, aq142, bq142⟩ := wq142
                  refine ⟨_, gq142, ?_⟩
                  show gz gPP gGG gcn _ _ 151 [some (.ref x), some (.int (zi a)), some (.int (zi b)), some (.int (zi c)), some (.int (zi jn2v0)), some (.int (zi zq30)), some (.int (zi z136)), none] [.int (zi zq142)] hq142 _
                  have sq142 : gSs rT 1027 ty [] h hq142 := gSs.tr sq86 xq142 (by decide)
                  have s143 := (xq142.2.2.2.2.2 x 2 (by rw [tx]; decide)).trans s87
                  have s144 := (xq142.2.2.2.2.2 x 3 (by rw [tx]; decide)).trans s88
                  have s145 := (xq142.2.2.2.2.2 x 4 (by rw [tx]; decide)).trans s89
                  have s146 := (xq142.2.2.2.2.2 sk 0 (by rw [tsk]; decide)).trans s90
                  have s147 := (xq142.2.2.2.2.2 dr 8 (by rw [tdr]; decide)).trans s91
                  have s148 := (xq142.2.2.2.2.2 dr 3 (by rw [tdr]; decide)).trans s92
                  have s149 := (xq142.2.2.2.2.2 sk 1 (by rw [tsk]; decide)).trans s93
                  have s150 := (xq142.2.2.2.2.2 pic 0 (by rw [tpic]; decide)).trans s94
                  have s151 := (xq142.2.2.2.2.2 bno 0 (by rw [tbno]; decide)).trans s95
                  have s152 := (xq142.2.2.2.2.2 bno 1 (by rw [tbno]; decide)).trans s96
                  have s153 := (xq142.2.2.2.2.2 bno 2 (by rw [tbno]; decide)).trans s97
                  have s154 := (xq142.2.2.2.2.2 pic 2 (by rw [tpic]; decide)).trans s98
                  have s155 := (xq142.2.2.2.2.2 pic 3 (by rw [tpic]; decide)).trans s99
                  have s156 := (xq142.2.2.2.2.2 pic 7 (by rw [tpic]; decide)).trans s100
                  have s157 := (xq142.2.2.2.2.2 pic 12 (by rw [tpic]; decide)).trans s101
                  have s158 := (xq142.2.2.2.2.2 pic 13 (by rw [tpic]; decide)).trans s102
                  have s159 := (xq142.2.2.2.2.2 pic 8 (by rw [tpic]; decide)).trans s103
                  have s160 := (xq142.2.2.2.2.2 pic 5 (by rw [tpic]; decide)).trans s104
                  have s161 := (xq142.2.2.2.2.2 pic 6 (by rw [tpic]; decide)).trans s105
                  have s162 := (xq142.2.2.2.2.2 pic 10 (by rw [tpic]; decide)).trans s106
                  have s163 := (xq142.2.2.2.2.2 pic 11 (by rw [tpic]; decide)).trans s107
                  have s164 := (xq142.2.2.2.2.2 b0 1 (by rw [tb0]; decide)).trans s108
                  have s165 := (xq142.2.2.2.2.2 b0 2 (by rw [tb0]; decide)).trans s109
                  have s166 := (xq142.2.2.2.2.2 b0 3 (by rw [tb0]; decide)).trans s110
                  have s167 := (xq142.2.2.2.2.2 b0 4 (by rw [tb0]; decide)).trans s111
                  have s168 := (xq142.2.2.2.2.2 b0 5 (by rw [tb0]; decide)).trans s112
                  have s169 := (xq142.2.2.2.2.2 b0 6 (by rw [tb0]; decide)).trans s113
                  have s170 := (xq142.2.2.2.2.2 b0 7 (by rw [tb0]; decide)).trans s114
                  have s171 := (xq142.2.2.2.2.2 b0 8 (by rw [tb0]; decide)).trans s115
                  have s172 := (xq142.2.2.2.2.2 b1 1 (by rw [tb1]; decide)).trans s116
                  have s173 := (xq142.2.2.2.2.2 b1 2 (by rw [tb1]; decide)).trans s117
                  have s174 := (xq142.2.2.2.2.2 b1 3 (by rw [tb1]; decide)).trans s118
                  have s175 := (xq142.2.2.2.2.2 b1 4 (by rw [tb1]; decide)).trans s119
                  have s176 := (xq142.2.2.2.2.2 b1 5 (by rw [tb1]; decide)).trans s120
                  have s177 := (xq142.2.2.2.2.2 b1 6 (by rw [tb1]; decide)).trans s121
                  have s178 := (xq142.2.2.2.2.2 b1 7 (by rw [tb1]; decide)).trans s122
                  have s179 := (xq142.2.2.2.2.2 b1 8 (by rw [tb1]; decide)).trans s123
                  have s180 := (xq142.2.2.2.2.2 b2 1 (by rw [tb2]; decide)).trans s124
                  have s181 := (xq142.2.2.2.2.2 b2 2 (by rw [tb2]; decide)).trans s125
                  have s182 := (xq142.2.2.2.2.2 b2 3 (by rw [tb2]; decide)).trans s126
                  have s183 := (xq142.2.2.2.2.2 b2 4 (by rw [tb2]; decide)).trans s127
                  have s184 := (xq142.2.2.2.2.2 b2 5 (by rw [tb2]; decide)).trans s128
                  have s185 := (xq142.2.2.2.2.2 b2 6 (by rw [tb2]; decide)).trans s129
                  have s186 := (xq142.2.2.2.2.2 b2 7 (by rw [tb2]; decide)).trans s130
                  have s187 := (xq142.2.2.2.2.2 b2 8 (by rw [tb2]; decide)).trans s131
                  have pr188 := gPC.fr xq142.2 (by decide) pr132
                  have pr189 := gTc.fr xq142.2 (by decide) pr133
                  have pr190 := gRr.fr xq142.2 (by decide) pr134
                  have pr191 := gRw.fr xq142.2 (by decide) pr135
                  refine gy_s 2 (pc' := 155) (L' := [some (.ref x), some (.int (zi a)), some (.int (zi b)), some (.int (zi c)), some (.int (zi jn2v0)), some (.int (zi zq30)), some (.int (zi z136)), none]) (S' := [.int ((zi zq142) - (zi 128))]) (L2 := [some (.ref x), some (.int (zi a)), some (.int (zi b)), some (.int (zi c)), some (.int (zi jn2v0)), some (.int (zi zq30)), some (.int (zi z136)), none]) (S2 := [.int (zi (zq142 - 128))]) rfl (by simp only [zi_add, zi_sub, zi_mul, zi_neg, zi_and1, zi_and7, zi_and15, zi_and31, zi_and255]) (by simp only [zi_add, zi_sub, zi_mul, zi_neg, zi_and1, zi_and7, zi_and15, zi_and31, zi_and255]) ?_
                  refine gy_any (fun z192 ez192 az192 bz192 => ?_)
                  refine gz_s 5 (pc' := 164) (L' := [some (.ref x), some (.int (zi a)), some (.int (zi b)), some (.int (zi c)), some (.int (zi jn2v0)), some (.int (zi zq30)), some (.int (zi z136)), some (.int (zi z192))]) (S' := [.int (zi z192), .int (zi z136), .int (zi zq30), .int (zi c)]) rfl ?_
                  refine gz_call rfl (by decide) rfl (by decide) (by decide) (gcal_of rfl rfl rfl (Nat.le_of_ble_eq_true rfl) rfl) (cl_DctFilter_colourW _ sq142.1 c ⟨by omega, by omega⟩ zq30 ⟨by omega, by omega⟩ z136 ⟨by omega, by omega⟩ z192 ⟨by omega, by omega⟩ ) (fun q193 _ wq193 => ?_)
                  obtain ⟨pq193, oq193, hq193⟩ := q193
                  obtain ⟨xq193, zq193, gq193, aq193, bq193⟩ := wq193
                  refine ⟨_, gq193, ?_⟩
                  show gz gPP gGG gcn _ _ 167 [some (.ref x), some (.int (zi a)), some (.int (zi b)), some (.int (zi c)), some (.int (zi jn2v0)), some (.int (zi zq30)), some (.int (zi z136)), some (.int (zi z192))] [.int (zi zq193)] hq193 _
                  have sq193 : gSs rT 1027 ty [] h hq193 := gSs.tr sq142 xq193 (by decide)
                  have s194 := (xq193.2.2.2.2.2 x 2 (by rw [tx]; decide)).trans s143
                  have s195 := (xq193.2.2.2.2.2 x 3 (by rw [tx]; decide)).trans s144
                  have s196 := (xq193.2.2.2.2.2 x 4 (by rw [tx]; decide)).trans s145
                  have s197 := (xq193.2.2.2.2.2 sk 0 (by rw [tsk]; decide)).trans s146
                  have s198 := (xq193.2.2.2.2.2 dr 8 (by rw [tdr]; decide)).trans s147
                  have s199 := (xq193.2.2.2.2.2 dr 3 (by rw [tdr]; decide)).trans s148
                  have s200 := (xq193.2.2.2.2.2 sk 1 (by rw [tsk]; decide)).trans s149
                  have s201 := (xq193.2.2.2.2.2 pic 0 (by rw [tpic]; decide)).trans s150
                  have s202 := (xq193.2.2.2.2.2 bno 0 (by rw [tbno]; decide)).trans s151
                  have s203 := (xq193.2.2.2.2.2 bno 1 (by rw [tbno]; decide)).trans s152
                  have s204 := (xq193.2.2.2.2.2 bno 2 (by rw [tbno]; decide)).trans s153
                  have s205 := (xq193.2.2.2.2.2 pic 2 (by rw [tpic]; decide)).trans s154
                  have s206 := (xq193.2.2.2.2.2 pic 3 (by rw [tpic]; decide)).trans s155
                  have s207 := (xq193.2.2.2.2.2 pic 7 (by rw [tpic]; decide)).trans s156
                  have s208 := (xq193.2.2.2.2.2 pic 12 (by rw [tpic]; decide)).trans s157
                  have s209 := (xq193.2.2.2.2.2 pic 13 (by rw [tpic]; decide)).trans s158
                  have s210 := (xq193.2.2.2.2.2 pic 8 (by rw [tpic]; decide)).trans s159
                  have s211 := (xq193.2.2.2.2.2 pic 5 (by rw [tpic]; decide)).trans s160
                  have s212 := (xq193.2.2.2.2.2 pic 6 (by rw [tpic]; decide)).trans s161
                  have s213 := (xq193.2.2.2.2.2 pic 10 (by rw [tpic]; decide)).trans s162
                  have s214 := (xq193.2.2.2.2.2 pic 11 (by rw [tpic]; decide)).trans s163
                  have s215 := (xq193.2.2.2.2.2 b0 1 (by rw [tb0]; decide)).trans s164
                  have s216 := (xq193.2.2.2.2.2 b0 2 (by rw [tb0]; decide)).trans s165
                  have s217 := (xq193.2.2.2.2.2 b0 3 (by rw [tb0]; decide)).trans s166
                  have s218 := (xq193.2.2.2.2.2 b0 4 (by rw [tb0]; decide)).trans s167
                  have s219 := (xq193.2.2.2.2.2 b0 5 (by rw [tb0]; decide)).trans s168
                  have s220 := (xq193.2.2.2.2.2 b0 6 (by rw [tb0]; decide)).trans s169
                  have s221 := (xq193.2.2.2.2.2 b0 7 (by rw [tb0]; decide)).trans s170
                  have s222 := (xq193.2.2.2.2.2 b0 8 (by rw [tb0]; decide)).trans s171
                  have s223 := (xq193.2.2.2.2.2 b1 1 (by rw [tb1]; decide)).trans s172
                  have s224 := (xq193.2.2.2.2.2 b1 2 (by rw [tb1]; decide)).trans s173
                  have s225 := (xq193.2.2.2.2.2 b1 3 (by rw [tb1]; decide)).trans s174
                  have s226 := (xq193.2.2.2.2.2 b1 4 (by rw [tb1]; decide)).trans s175
                  have s227 := (xq193.2.2.2.2.2 b1 5 (by rw [tb1]; decide)).trans s176
                  have s228 := (xq193.2.2.2.2.2 b1 6 (by rw [tb1]; decide)).trans s177
                  have s229 := (xq193.2.2.2.2.2 b1 7 (by rw [tb1]; decide)).trans s178
                  have s230 := (xq193.2.2.2.2.2 b1 8 (by rw [tb1]; decide)).trans s179
                  have s231 := (xq193.2.2.2.2.2 b2 1 (by rw [tb2]; decide)).trans s180
                  have s232 := (xq193.2.2.2.2.2 b2 2 (by rw [tb2]; decide)).trans s181
                  have s233 := (xq193.2.2.2.2.2 b2 3 (by rw [tb2]; decide)).trans s182
                  have s234 := (xq193.2.2.2.2.2 b2 4 (by rw [tb2]; decide)).trans s183
                  have s235 := (xq193.2.2.2.2.2 b2 5 (by rw [tb2]; decide)).trans s184
                  have s236 := (xq193.2.2.2.2.2 b2 6 (by rw [tb2]; decide)).trans s185
                  have s237 := (xq193.2.2.2.2.2 b2 7 (by rw [tb2]; decide)).trans s186
                  have s238 := (xq193.2.2.2.2.2 b2 8 (by rw [tb2]; decide)).trans s187
                  have pr239 := gPC.fr xq193.2 (by decide) pr188
                  have pr240 := gTc.fr xq193.2 (by decide) pr189
                  have pr241 := gRr.fr xq193.2 (by decide) pr190
                  have pr242 := gRw.fr xq193.2 (by decide) pr191
                  have k243 := sq193.2.1
                  have k243b := sq193.2.2.1
                  have hl244 : hq193.2.2.2.1 bt = h.2.2.2.1 bt := congrFun sq193.2.2.2.2.1 bt
                  have hl245 : hq193.2.2.2.1 coo = h.2.2.2.1 coo := congrFun sq193.2.2.2.2.1 coo
                  have hl246 : hq193.2.2.2.1 dmo = h.2.2.2.1 dmo := congrFun sq193.2.2.2.2.1 dmo
                  have hl247 : 1024 ≤ hq193.2.2.2.1 bt ∧ hq193.2.2.2.1 bt ≤ 1000000 := gJ.rowl (G := gGG) sq193.1 tbt rfl
                  have hl248 : 0 ≤ hq193.2.2.2.1 coo ∧ hq193.2.2.2.1 coo ≤ 12288 := gJ.rowl (G := gGG) sq193.1 tcoo rfl
                  have hl249 : 0 ≤ hq193.2.2.2.1 dmo ∧ hq193.2.2.2.1 dmo ≤ 192 := gJ.rowl (G := gGG) sq193.1 tdmo rfl
                  have k250 := sq193.2.1
                  have k250b := sq193.2.2.1
                  have hl251 : hq193.2.2.2.1 bt = h.2.2.2.1 bt := congrFun sq193.2.2.2.2.1 bt
                  have hl252 : hq193.2.2.2.1 coo = h.2.2.2.1 coo := congrFun sq193.2.2.2.2.1 coo
                  have hl253 : hq193.2.2.2.1 dmo = h.2.2.2.1 dmo := congrFun sq193.2.2.2.2.1 dmo
                  have hix254 : gIx ty x ld (hq193.2.2.2.1 bt : Int) iv hq193 := ⟨pic, b0, b1, b2, dr, sk, bt, n0, c0, ⟨tx, tdr, tsk, tbt⟩, ⟨s194, s195, s196, s197⟩, pr239, pr240, ⟨s198, by omega, by omega⟩, ⟨s199, by omega, by omega⟩, ⟨s200, by omega, by omega⟩, ⟨by omega, by omega⟩, pr241, pr242⟩
                  have G255 : gSg [] [] [] ty h ty hq193 := gSg.ss G0 sq193 (by decide)
                  exact gz_end (I := .ireturn) (len := 1) rfl (Or.inl rfl) ⟨ty, G255, ld, (hq193.2.2.2.1 bt : Int), iv, (by omega), (by omega), (by omega), (by omega), (by omega), (by omega), hix254, Or.inl ⟨zq193, rfl, (by omega), (by omega), (by omega), (by dsimp only; omega), (by dsimp only; omega), (by omega), (by omega)⟩⟩
                · refine gy_icF rfl (by decide) (by decide) (by omega) (by omega) hc80 ?_
                  refine gz_s 1 (pc' := 124) (L' := [some (.ref x), some (.int (zi a)), some (.int (zi b)), some (.int (zi c)), some (.int (zi jn2v0)), some (.int (zi zq30)), none, none]) (S' := [.int (zi zq30)]) rfl ?_
                  have k256 := sq30.2.1
                  have k256b := sq30.2.2.1
                  have hl257 : hq30.2.2.2.1 bt = h.2.2.2.1 bt := congrFun sq30.2.2.2.2.1 bt
                  have hl258 : hq30.2.2.2.1 coo = h.2.2.2.1 coo := congrFun sq30.2.2.2.2.1 coo
                  have hl259 : hq30.2.2.2.1 dmo = h.2.2.2.1 dmo := congrFun sq30.2.2.2.2.1 dmo
                  have hl260 : 1024 ≤ hq30.2.2.2.1 bt ∧ hq30.2.2.2.1 bt ≤ 1000000 := gJ.rowl (G := gGG) sq30.1 tbt rfl
                  have hl261 : 0 ≤ hq30.2.2.2.1 coo ∧ hq30.2.2.2.1 coo ≤ 12288 := gJ.rowl (G := gGG) sq30.1 tcoo rfl
                  have hl262 : 0 ≤ hq30.2.2.2.1 dmo ∧ hq30.2.2.2.1 dmo ≤ 192 := gJ.rowl (G := gGG) sq30.1 tdmo rfl
                  have k263 := sq30.2.1
                  have k263b := sq30.2.2.1
                  have hl264 : hq30.2.2.2.1 bt = h.2.2.2.1 bt := congrFun sq30.2.2.2.2.1 bt
                  have hl265 : hq30.2.2.2.1 coo = h.2.2.2.1 coo := congrFun sq30.2.2.2.2.1 coo
                  have hl266 : hq30.2.2.2.1 dmo = h.2.2.2.1 dmo := congrFun sq30.2.2.2.2.1 dmo
                  have hix267 : gIx ty x ld (hq30.2.2.2.1 bt : Int) iv hq30 := ⟨pic, b0, b1, b2, dr, sk, bt, n0, c0, ⟨tx, tdr, tsk, tbt⟩, ⟨s31, s32, s33, s34⟩, pr76, pr77, ⟨s35, by omega, by omega⟩, ⟨s36, by omega, by omega⟩, ⟨s37, by omega, by omega⟩, ⟨by omega, by omega⟩, pr78, pr79⟩
                  have G268 : gSg [] [] [] ty h ty hq30 := gSg.ss G0 sq30 (by decide)
                  exact gz_end (I := .ireturn) (len := 1) rfl (Or.inl rfl) ⟨ty, G268, ld, (hq30.2.2.2.1 bt : Int), iv, (by omega), (by omega), (by omega), (by omega), (by omega), (by omega), hix267, Or.inl ⟨zq30, rfl, (by omega), (by omega), (by omega), (by dsimp only; omega), (by dsimp only; omega), (by omega), (by omega)⟩⟩
              · refine gy_icF rfl (by decide) (by decide) (by omega) (by omega) hc28 ?_
                refine gz_s 1 (pc' := 89) (L' := [some (.ref x), some (.int (zi a)), some (.int (zi b)), some (.int (zi c)), some (.int (zi jn2v0)), none, none, none]) (S' := [.ref x]) rfl ?_
                refine gs_gtk rfl (by decide) rfl hS.1 tx rfl rfl ex2 ?_
                refine gz_s 3 (pc' := 95) (L' := [some (.ref x), some (.int (zi a)), some (.int (zi b)), some (.int (zi c)), some (.int (zi jn2v0)), none, none, none]) (S' := [.int (zi b), .int (zi a), .int (zi c), .ref pic]) rfl ?_
                have hl269 : h.2.2.2.1 coo = h.2.2.2.1 coo := congrFun hS.2.2.2.2.1 coo
                refine gz_call rfl (by decide) rfl (by decide) (by decide) (gcal_of rfl rfl rfl (Nat.le_of_ble_eq_true rfl) (gJ.recv (G := gGG) hS.1 tpic rfl rfl)) (cl_Picture_sampleAt _ hS.1 pic tpic c ⟨by omega, by omega⟩ a ⟨by omega, by omega⟩ b ⟨by omega, by omega⟩ bno er0o tbno b0 er1o tb0 b1 er2o tb1 b2 er3o tb2 coo er4o tcoo (gSta.fr hS.2 (by decide) hyst) (vvo 0) excno ⟨by omega, by omega⟩ (vvo 1) exuco ⟨by omega, by omega⟩ (vvo 2) exuro ⟨by omega, by omega⟩ (vvo 3) exblo ⟨by omega, by omega⟩ (vvo 4) exwo ⟨by omega, by omega⟩ (vvo 5) exhho ⟨by omega, by omega⟩ (vvo 6) exgho ⟨by omega, by omega⟩ (vvo 7) exgvo ⟨by omega, by omega⟩ (vvo 8) exhb0o ⟨by omega, by omega⟩ (vvo 9) exvb0o ⟨by omega, by omega⟩ (vvo 11) exC0o ⟨by omega, by omega⟩ (vvo 12) exR0o ⟨by omega, by omega⟩ (vvo 13) exoc0o ⟨by omega, by omega⟩ (vvo 14) exor0o ⟨by omega, by omega⟩ (vvo 15) exf0o ⟨by omega, by omega⟩ (vvo 16) exhb1o ⟨by omega, by omega⟩ (vvo 17) exvb1o ⟨by omega, by omega⟩ (vvo 19) exC1o ⟨by omega, by omega⟩ (vvo 20) exR1o ⟨by omega, by omega⟩ (vvo 21) exoc1o ⟨by omega, by omega⟩ (vvo 22) exor1o ⟨by omega, by omega⟩ (vvo 23) exf1o ⟨by omega, by omega⟩ (vvo 24) exhb2o ⟨by omega, by omega⟩ (vvo 25) exvb2o ⟨by omega, by omega⟩ (vvo 27) exC2o ⟨by omega, by omega⟩ (vvo 28) exR2o ⟨by omega, by omega⟩ (vvo 29) exoc2o ⟨by omega, by omega⟩ (vvo 30) exor2o ⟨by omega, by omega⟩ (vvo 31) exf2o ⟨by omega, by omega⟩ (vvo 10) extq0o ⟨by omega, by omega⟩ (vvo 18) extq1o ⟨by omega, by omega⟩ (vvo 26) extq2o ⟨by omega, by omega⟩ (by omega) (by omega) (by omega) (by omega) uq yy0o yy1o yy2o yy3o yy4o yy5o yy7o) (fun q270 _ wq270 => ?_)
                obtain ⟨pq270, oq270, hq270⟩ := q270
                obtain ⟨xq270, zq270, gq270, aq270, bq270⟩ := wq270
                refine ⟨_, gq270, ?_⟩
                show gz gPP gGG gcn _ _ 98 [some (.ref x), some (.int (zi a)), some (.int (zi b)), some (.int (zi c)), some (.int (zi jn2v0)), none, none, none] [.int (zi zq270)] hq270 _
                have sq270 : gSs rT 1027 ty [] h hq270 := gSs.tr hS xq270 (by decide)
                have s271 := (xq270.2.2.2.2.2 x 2 (by rw [tx]; decide)).trans ex2
                have s272 := (xq270.2.2.2.2.2 x 3 (by rw [tx]; decide)).trans ex3
                have s273 := (xq270.2.2.2.2.2 x 4 (by rw [tx]; decide)).trans ex4
                have s274 := (xq270.2.2.2.2.2 sk 0 (by rw [tsk]; decide)).trans ex0
                have s275 := (xq270.2.2.2.2.2 dr 8 (by rw [tdr]; decide)).trans en0
                have s276 := (xq270.2.2.2.2.2 dr 3 (by rw [tdr]; decide)).trans eiv
                have s277 := (xq270.2.2.2.2.2 sk 1 (by rw [tsk]; decide)).trans ec0
                have s278 := (xq270.2.2.2.2.2 pic 0 (by rw [tpic]; decide)).trans er0o
                have s279 := (xq270.2.2.2.2.2 bno 0 (by rw [tbno]; decide)).trans er1o
                have s280 := (xq270.2.2.2.2.2 bno 1 (by rw [tbno]; decide)).trans er2o
                have s281 := (xq270.2.2.2.2.2 bno 2 (by rw [tbno]; decide)).trans er3o
                have s282 := (xq270.2.2.2.2.2 pic 2 (by rw [tpic]; decide)).trans er4o
                have s283 := (xq270.2.2.2.2.2 pic 3 (by rw [tpic]; decide)).trans er5o
                have s284 := (xq270.2.2.2.2.2 pic 7 (by rw [tpic]; decide)).trans excno
                have s285 := (xq270.2.2.2.2.2 pic 12 (by rw [tpic]; decide)).trans exuco
                have s286 := (xq270.2.2.2.2.2 pic 13 (by rw [tpic]; decide)).trans exuro
                have s287 := (xq270.2.2.2.2.2 pic 8 (by rw [tpic]; decide)).trans exblo
                have s288 := (xq270.2.2.2.2.2 pic 5 (by rw [tpic]; decide)).trans exwo
                have s289 := (xq270.2.2.2.2.2 pic 6 (by rw [tpic]; decide)).trans exhho
                have s290 := (xq270.2.2.2.2.2 pic 10 (by rw [tpic]; decide)).trans exgho
                have s291 := (xq270.2.2.2.2.2 pic 11 (by rw [tpic]; decide)).trans exgvo
                have s292 := (xq270.2.2.2.2.2 b0 1 (by rw [tb0]; decide)).trans exhb0o
                have s293 := (xq270.2.2.2.2.2 b0 2 (by rw [tb0]; decide)).trans exvb0o
                have s294 := (xq270.2.2.2.2.2 b0 3 (by rw [tb0]; decide)).trans extq0o
                have s295 := (xq270.2.2.2.2.2 b0 4 (by rw [tb0]; decide)).trans exC0o
                have s296 := (xq270.2.2.2.2.2 b0 5 (by rw [tb0]; decide)).trans exR0o
                have s297 := (xq270.2.2.2.2.2 b0 6 (by rw [tb0]; decide)).trans exoc0o
                have s298 := (xq270.2.2.2.2.2 b0 7 (by rw [tb0]; decide)).trans exor0o
                have s299 := (xq270.2.2.2.2.2 b0 8 (by rw [tb0]; decide)).trans exf0o
                have s300 := (xq270.2.2.2.2.2 b1 1 (by rw [tb1]; decide)).trans exhb1o
                have s301 := (xq270.2.2.2.2.2 b1 2 (by rw [tb1]; decide)).trans exvb1o
                have s302 := (xq270.2.2.2.2.2 b1 3 (by rw [tb1]; decide)).trans extq1o
                have s303 := (xq270.2.2.2.2.2 b1 4 (by rw [tb1]; decide)).trans exC1o
                have s304 := (xq270.2.2.2.2.2 b1 5 (by rw [tb1]; decide)).trans exR1o
                have s305 := (xq270.2.2.2.2.2 b1 6 (by rw [tb1]; decide)).trans exoc1o
                have s306 := (xq270.2.2.2.2.2 b1 7 (by rw [tb1]; decide)).trans exor1o
                have s307 := (xq270.2.2.2.2.2 b1 8 (by rw [tb1]; decide)).trans exf1o
                have s308 := (xq270.2.2.2.2.2 b2 1 (by rw [tb2]; decide)).trans exhb2o
                have s309 := (xq270.2.2.2.2.2 b2 2 (by rw [tb2]; decide)).trans exvb2o
                have s310 := (xq270.2.2.2.2.2 b2 3 (by rw [tb2]; decide)).trans extq2o
                have s311 := (xq270.2.2.2.2.2 b2 4 (by rw [tb2]; decide)).trans exC2o
                have s312 := (xq270.2.2.2.2.2 b2 5 (by rw [tb2]; decide)).trans exR2o
                have s313 := (xq270.2.2.2.2.2 b2 6 (by rw [tb2]; decide)).trans exoc2o
                have s314 := (xq270.2.2.2.2.2 b2 7 (by rw [tb2]; decide)).trans exor2o
                have s315 := (xq270.2.2.2.2.2 b2 8 (by rw [tb2]; decide)).trans exf2o
                have pr316 := gPC.fr xq270.2 (by decide) hpc
                have pr317 := gTc.fr xq270.2 (by decide) htc
                have pr318 := gRr.fr xq270.2 (by decide) hrr
                have pr319 := gRw.fr xq270.2 (by decide) hrw
                have k320 := sq270.2.1
                have k320b := sq270.2.2.1
                have hl321 : hq270.2.2.2.1 bt = h.2.2.2.1 bt := congrFun sq270.2.2.2.2.1 bt
                have hl322 : hq270.2.2.2.1 coo = h.2.2.2.1 coo := congrFun sq270.2.2.2.2.1 coo
                have hl323 : hq270.2.2.2.1 dmo = h.2.2.2.1 dmo := congrFun sq270.2.2.2.2.1 dmo
                have hl324 : 1024 ≤ hq270.2.2.2.1 bt ∧ hq270.2.2.2.1 bt ≤ 1000000 := gJ.rowl (G := gGG) sq270.1 tbt rfl
                have hl325 : 0 ≤ hq270.2.2.2.1 coo ∧ hq270.2.2.2.1 coo ≤ 12288 := gJ.rowl (G := gGG) sq270.1 tcoo rfl
                have hl326 : 0 ≤ hq270.2.2.2.1 dmo ∧ hq270.2.2.2.1 dmo ≤ 192 := gJ.rowl (G := gGG) sq270.1 tdmo rfl
                have k327 := sq270.2.1
                have k327b := sq270.2.2.1
                have hl328 : hq270.2.2.2.1 bt = h.2.2.2.1 bt := congrFun sq270.2.2.2.2.1 bt
                have hl329 : hq270.2.2.2.1 coo = h.2.2.2.1 coo := congrFun sq270.2.2.2.2.1 coo
                have hl330 : hq270.2.2.2.1 dmo = h.2.2.2.1 dmo := congrFun sq270.2.2.2.2.1 dmo
                have hix331 : gIx ty x ld (hq270.2.2.2.1 bt : Int) iv hq270 := ⟨pic, b0, b1, b2, dr, sk, bt, n0, c0, ⟨tx, tdr, tsk, tbt⟩, ⟨s271, s272, s273, s274⟩, pr316, pr317, ⟨s275, by omega, by omega⟩, ⟨s276, by omega, by omega⟩, ⟨s277, by omega, by omega⟩, ⟨by omega, by omega⟩, pr318, pr319⟩
                have G332 : gSg [] [] [] ty h ty hq270 := gSg.ss G0 sq270 (by decide)
                exact gz_end (I := .ireturn) (len := 1) rfl (Or.inl rfl) ⟨ty, G332, ld, (hq270.2.2.2.1 bt : Int), iv, (by omega), (by omega), (by omega), (by omega), (by omega), (by omega), hix331, Or.inl ⟨zq270, rfl, (by omega), (by omega), (by omega), (by dsimp only; omega), (by dsimp only; omega), (by omega), (by omega)⟩⟩
            · refine gy_icF rfl (by decide) (by decide) (by omega) (by omega) hc27 ?_
              have hl333 : 1024 ≤ h.2.2.2.1 bt ∧ h.2.2.2.1 bt ≤ 1000000 := gJ.rowl (G := gGG) hS.1 tbt rfl
              have hl334 : 0 ≤ h.2.2.2.1 coo ∧ h.2.2.2.1 coo ≤ 12288 := gJ.rowl (G := gGG) hS.1 tcoo rfl
              have hl335 : 0 ≤ h.2.2.2.1 dmo ∧ h.2.2.2.1 dmo ≤ 192 := gJ.rowl (G := gGG) hS.1 tdmo rfl
              have hix336 : gIx ty x ld (h.2.2.2.1 bt : Int) iv h := ⟨pic, b0, b1, b2, dr, sk, bt, n0, c0, ⟨tx, tdr, tsk, tbt⟩, ⟨ex2, ex3, ex4, ex0⟩, hpc, htc, ⟨en0, by omega, by omega⟩, ⟨eiv, by omega, by omega⟩, ⟨ec0, by omega, by omega⟩, ⟨by omega, by omega⟩, hrr, hrw⟩
              have G337 : gSg [] [] [] ty h ty h := gSg.ss G0 hS (by decide)
              exact gz_end (I := .new 84) (len := 3) rfl (Or.inr (by decide)) ⟨ty, G337, ld, (h.2.2.2.1 bt : Int), iv, (by omega), (by omega), (by omega), (by omega), (by omega), (by omega), hix336, Or.inr ⟨rfl, rfl, (by omega), (by dsimp only; omega), (by dsimp only; omega), (by omega), (by omega)⟩⟩
  by_cases hc338 : (c : Int) < 0
  · refine gy_ifT (pc' := 29) rfl (by decide) (by decide) (by omega) hc338 ?_
    refine gz_s 1 (pc' := 30) (L' := [some (.ref x), some (.int (zi a)), some (.int (zi b)), some (.int (zi c)), none, none, none, none]) (S' := [.int (zi 0)]) rfl ?_
    exact jn2 0 (by omega)
  · refine gy_ifF rfl (by decide) (by decide) (by omega) hc338 ?_
    refine gz_s 2 (pc' := 6) (L' := [some (.ref x), some (.int (zi a)), some (.int (zi b)), some (.int (zi c)), none, none, none, none]) (S' := [.ref x, .int (zi c)]) rfl ?_
    refine gs_gtk rfl (by decide) rfl hS.1 tx rfl rfl ex2 ?_
    refine gs_gtk rfl (by decide) rfl hS.1 tpic rfl rfl excno ?_
    by_cases hc339 : (c : Int) < vvo 0
    · refine gy_icT (pc' := 25) rfl (by decide) (by decide) (by omega) (by omega) hc339 ?_
      refine gz_s 2 (pc' := 30) (L' := [some (.ref x), some (.int (zi a)), some (.int (zi b)), some (.int (zi c)), none, none, none, none]) (S' := [.int (zi 1)]) rfl ?_
      exact jn2 1 (by omega)
    · refine gy_icF rfl (by decide) (by decide) (by omega) (by omega) hc339 ?_
      refine gz_s 2 (pc' := 17) (L' := [some (.ref x), some (.int (zi a)), some (.int (zi b)), some (.int (zi c)), none, none, none, none]) (S' := [.int (zi 3), .int (zi c)]) rfl ?_
      by_cases hc340 : (c : Int) < 3
      · refine gy_icT (pc' := 29) rfl (by decide) (by decide) (by omega) (by omega) hc340 ?_
        refine gz_s 1 (pc' := 30) (L' := [some (.ref x), some (.int (zi a)), some (.int (zi b)), some (.int (zi c)), none, none, none, none]) (S' := [.int (zi 0)]) rfl ?_
        exact jn2 0 (by omega)
      · refine gy_icF rfl (by decide) (by decide) (by omega) (by omega) hc340 ?_
        refine gz_s 2 (pc' := 22) (L' := [some (.ref x), some (.int (zi a)), some (.int (zi b)), some (.int (zi c)), none, none, none, none]) (S' := [.int (zi 5), .int (zi c)]) rfl ?_
        by_cases hc341 : (5 : Int) < c
        · refine gy_icT (pc' := 29) rfl (by decide) (by decide) (by omega) (by omega) hc341 ?_
          refine gz_s 1 (pc' := 30) (L' := [some (.ref x), some (.int (zi a)), some (.int (zi b)), some (.int (zi c)), none, none, none, none]) (S' := [.int (zi 0)]) rfl ?_
          exact jn2 0 (by omega)
        · refine gy_icF rfl (by decide) (by decide) (by omega) (by omega) hc341 ?_
          refine gz_s 2 (pc' := 30) (L' := [some (.ref x), some (.int (zi a)), some (.int (zi b)), some (.int (zi c)), none, none, none, none]) (S' := [.int (zi 1)]) rfl ?_
          exact jn2 1 (by omega)
set_option maxRecDepth 20000 in
set_option maxHeartbeats 4000000 in
theorem cl_DctFilter_coefficient (d : Nat) {ty : Nat → Nat} {h : gH} (hJ : gJ rT 1027 ty h) (x : Nat) (tx : ty x = 50) (a : Int) (ra : (-2147483648) ≤ a ∧ a ≤ 2147483647) (b : Int) (rb : (-2147483648) ≤ b ∧ b ≤ 2147483647) (ld : Int) (rld : 0 ≤ ld ∧ ld ≤ 192) (lb : Int) (rlb : 1024 ≤ lb ∧ lb ≤ 1000000) (iv : Int) (riv : 0 ≤ iv ∧ iv ≤ 100) (uq : gUq ty) (hyix : gIx ty x ld lb iv h) : gz gPP gGG gcn (d + 0) gt79 0 (gent [.ref x, .int (zi a), .int (zi b)] 3) [] h (fun q _ => ∃ ty9 : Nat → Nat, gSg [] [] [] ty h ty9 q.2.2 ∧ ∃ ld1 lb1 iv1 : Int, 0 ≤ ld1 ∧ ld1 ≤ 192 ∧ 1024 ≤ lb1 ∧ lb1 ≤ 1000000 ∧ 0 ≤ iv1 ∧ iv1 ≤ 100 ∧ (gIx ty9 x ld1 lb1 iv1 q.2.2) ∧ ((∃ z : Int, gfin gt79 q.1 q.2.1 = some (some (.int (zi z))) ∧ (-2147483648) ≤ z ∧ z ≤ 2147483647 ∧ (iv1 = iv) ∧ (1024 * (((q.2.2.1 : Int) - h.1) - 31 - 2 * (ld1 - ld)) ≤ lb1 - lb) ∧ (((q.2.2.2.1 : Int) - h.2.1) ≤ 4303 + 12480 * (ld1 - ld) + 2 * (lb1 - lb)) ∧ (ld ≤ ld1) ∧ (lb ≤ lb1)) ∨ (q.2.1 = [] ∧ ((q.1 = 25)) ∧ (iv1 = iv) ∧ (1024 * (((q.2.2.1 : Int) - h.1) - 31 - 2 * (ld1 - ld)) ≤ lb1 - lb) ∧ (((q.2.2.2.1 : Int) - h.2.1) ≤ 4303 + 12480 * (ld1 - ld) + 2 * (lb1 - lb)) ∧ (ld ≤ ld1) ∧ (lb ≤ lb1)))) := by
  have hS : gSs rT 1027 ty [] h h := gSs.rf hJ
  have G0 : gSg [] [] [] ty h ty h := gSg.rf hJ (fun x hx => by cases hx)
  obtain ⟨pic, b0, b1, b2, dr, sk, bt, n0, c0, ⟨_, tdr, tsk, tbt⟩, ⟨ex2, ex3, ex4, ex0⟩, hpc, htc, ⟨en0, rn0⟩, ⟨eiv, riv⟩, ⟨ec0, rc0⟩, ⟨lc0, llb⟩, hrr, hrw⟩ := hyix
  have tpic := hpc.1.1
  have tb0 := hpc.1.2.1
  have tb1 := hpc.1.2.2.1
  have tb2 := hpc.1.2.2.2
  have hpq1 := hpc
  obtain ⟨_, bno, coo, dmo, vvo, ⟨tbno, tcoo, tdmo⟩, ⟨er0o, er1o, er2o, er3o, er4o, er5o⟩, hvvo, hrro, ⟨yy0o, yy1o, yy2o, yy3o, yy4o, yy5o, yy6o, yy7o⟩, ll0o, ll1o, ll2o, ll3o⟩ := hpq1
  have excno : h.2.2.2.2 pic 7 = .int (zi (vvo 0)) := hvvo (0, 7, 0) (by decide)
  have rrcno : 0 ≤ vvo 0 ∧ vvo 0 ≤ 3 := hrro (0, 0, 3) (by decide)
  have exuco : h.2.2.2.2 pic 12 = .int (zi (vvo 1)) := hvvo (0, 12, 1) (by decide)
  have rruco : 0 ≤ vvo 1 ∧ vvo 1 ≤ 8 := hrro (1, 0, 8) (by decide)
  have exuro : h.2.2.2.2 pic 13 = .int (zi (vvo 2)) := hvvo (0, 13, 2) (by decide)
  have rruro : 0 ≤ vvo 2 ∧ vvo 2 ≤ 8 := hrro (2, 0, 8) (by decide)
  have exblo : h.2.2.2.2 pic 8 = .int (zi (vvo 3)) := hvvo (0, 8, 3) (by decide)
  have rrblo : 0 ≤ vvo 3 ∧ vvo 3 ≤ 192 := hrro (3, 0, 192) (by decide)
  have exwo : h.2.2.2.2 pic 5 = .int (zi (vvo 4)) := hvvo (0, 5, 4) (by decide)
  have rrwo : 0 ≤ vvo 4 ∧ vvo 4 ≤ 64 := hrro (4, 0, 64) (by decide)
  have exhho : h.2.2.2.2 pic 6 = .int (zi (vvo 5)) := hvvo (0, 6, 5) (by decide)
  have rrhho : 0 ≤ vvo 5 ∧ vvo 5 ≤ 64 := hrro (5, 0, 64) (by decide)
  have exgho : h.2.2.2.2 pic 10 = .int (zi (vvo 6)) := hvvo (0, 10, 6) (by decide)
  have rrgho : 1 ≤ vvo 6 ∧ vvo 6 ≤ 2 := hrro (6, 1, 2) (by decide)
  have exgvo : h.2.2.2.2 pic 11 = .int (zi (vvo 7)) := hvvo (0, 11, 7) (by decide)
  have rrgvo : 1 ≤ vvo 7 ∧ vvo 7 ≤ 2 := hrro (7, 1, 2) (by decide)
  have exhb0o : h.2.2.2.2 b0 1 = .int (zi (vvo 8)) := hvvo (1, 1, 8) (by decide)
  have rrhb0o : (-1) ≤ vvo 8 ∧ vvo 8 ≤ 15 := hrro (8, (-1), 15) (by decide)
  have exvb0o : h.2.2.2.2 b0 2 = .int (zi (vvo 9)) := hvvo (1, 2, 9) (by decide)
  have rrvb0o : 0 ≤ vvo 9 ∧ vvo 9 ≤ 15 := hrro (9, 0, 15) (by decide)
  have extq0o : h.2.2.2.2 b0 3 = .int (zi (vvo 10)) := hvvo (1, 3, 10) (by decide)
  have rrtq0o : (-1) ≤ vvo 10 ∧ vvo 10 ≤ 255 := hrro (10, (-1), 255) (by decide)
  have exC0o : h.2.2.2.2 b0 4 = .int (zi (vvo 11)) := hvvo (1, 4, 11) (by decide)
  have rrC0o : 0 ≤ vvo 11 ∧ vvo 11 ≤ 16 := hrro (11, 0, 16) (by decide)
  have exR0o : h.2.2.2.2 b0 5 = .int (zi (vvo 12)) := hvvo (1, 5, 12) (by decide)
  have rrR0o : 0 ≤ vvo 12 ∧ vvo 12 ≤ 16 := hrro (12, 0, 16) (by decide)
  have exoc0o : h.2.2.2.2 b0 6 = .int (zi (vvo 13)) := hvvo (1, 6, 13) (by decide)
  have rroc0o : 0 ≤ vvo 13 ∧ vvo 13 ≤ 16 := hrro (13, 0, 16) (by decide)
  have exor0o : h.2.2.2.2 b0 7 = .int (zi (vvo 14)) := hvvo (1, 7, 14) (by decide)
  have rror0o : 0 ≤ vvo 14 ∧ vvo 14 ≤ 16 := hrro (14, 0, 16) (by decide)
  have exf0o : h.2.2.2.2 b0 8 = .int (zi (vvo 15)) := hvvo (1, 8, 15) (by decide)
  have rrf0o : 0 ≤ vvo 15 ∧ vvo 15 ≤ 192 := hrro (15, 0, 192) (by decide)
  have exhb1o : h.2.2.2.2 b1 1 = .int (zi (vvo 16)) := hvvo (2, 1, 16) (by decide)
  have rrhb1o : (-1) ≤ vvo 16 ∧ vvo 16 ≤ 15 := hrro (16, (-1), 15) (by decide)
  have exvb1o : h.2.2.2.2 b1 2 = .int (zi (vvo 17)) := hvvo (2, 2, 17) (by decide)
  have rrvb1o : 0 ≤ vvo 17 ∧ vvo 17 ≤ 15 := hrro (17, 0, 15) (by decide)
  have extq1o : h.2.2.2.2 b1 3 = .int (zi (vvo 18)) := hvvo (2, 3, 18) (by decide)
  have rrtq1o : (-1) ≤ vvo 18 ∧ vvo 18 ≤ 255 := hrro (18, (-1), 255) (by decide)
  have exC1o : h.2.2.2.2 b1 4 = .int (zi (vvo 19)) := hvvo (2, 4, 19) (by decide)
  have rrC1o : 0 ≤ vvo 19 ∧ vvo 19 ≤ 16 := hrro (19, 0, 16) (by decide)
  have exR1o : h.2.2.2.2 b1 5 = .int (zi (vvo 20)) := hvvo (2, 5, 20) (by decide)
  have rrR1o : 0 ≤ vvo 20 ∧ vvo 20 ≤ 16 := hrro (20, 0, 16) (by decide)
  have exoc1o : h.2.2.2.2 b1 6 = .int (zi (vvo 21)) := hvvo (2, 6, 21) (by decide)
  have rroc1o : 0 ≤ vvo 21 ∧ vvo 21 ≤ 16 := hrro (21, 0, 16) (by decide)
  have exor1o : h.2.2.2.2 b1 7 = .int (zi (vvo 22)) := hvvo (2, 7, 22) (by decide)
  have rror1o : 0 ≤ vvo 22 ∧ vvo 22 ≤ 16 := hrro (22, 0, 16) (by decide)
  have exf1o : h.2.2.2.2 b1 8 = .int (zi (vvo 23)) := hvvo (2, 8, 23) (by decide)
  have rrf1o : 0 ≤ vvo 23 ∧ vvo 23 ≤ 192 := hrro (23, 0, 192) (by decide)
  have exhb2o : h.2.2.2.2 b2 1 = .int (zi (vvo 24)) := hvvo (3, 1, 24) (by decide)
  have rrhb2o : (-1) ≤ vvo 24 ∧ vvo 24 ≤ 15 := hrro (24, (-1), 15) (by decide)
  have exvb2o : h.2.2.2.2 b2 2 = .int (zi (vvo 25)) := hvvo (3, 2, 25) (by decide)
  have rrvb2o : 0 ≤ vvo 25 ∧ vvo 25 ≤ 15 := hrro (25, 0, 15) (by decide)
  have extq2o : h.2.2.2.2 b2 3 = .int (zi (vvo 26)) := hvvo (3, 3, 26) (by decide)
  have rrtq2o : (-1) ≤ vvo 26 ∧ vvo 26 ≤ 255 := hrro (26, (-1), 255) (by decide)
  have exC2o : h.2.2.2.2 b2 4 = .int (zi (vvo 27)) := hvvo (3, 4, 27) (by decide)
  have rrC2o : 0 ≤ vvo 27 ∧ vvo 27 ≤ 16 := hrro (27, 0, 16) (by decide)
  have exR2o : h.2.2.2.2 b2 5 = .int (zi (vvo 28)) := hvvo (3, 5, 28) (by decide)
  have rrR2o : 0 ≤ vvo 28 ∧ vvo 28 ≤ 16 := hrro (28, 0, 16) (by decide)
  have exoc2o : h.2.2.2.2 b2 6 = .int (zi (vvo 29)) := hvvo (3, 6, 29) (by decide)
  have rroc2o : 0 ≤ vvo 29 ∧ vvo 29 ≤ 16 := hrro (29, 0, 16) (by decide)
  have exor2o : h.2.2.2.2 b2 7 = .int (zi (vvo 30)) := hvvo (3, 7, 30) (by decide)
  have rror2o : 0 ≤ vvo 30 ∧ vvo 30 ≤ 16 := hrro (30, 0, 16) (by decide)
  have exf2o : h.2.2.2.2 b2 8 = .int (zi (vvo 31)) := hvvo (3, 8, 31) (by decide)
  have rrf2o : 0 ≤ vvo 31 ∧ vvo 31 ≤ 192 := hrro (31, 0, 192) (by decide)
  refine gz_s 1 (pc' := 1) (L' := [some (.ref x), some (.int (zi a)), some (.int (zi b))]) (S' := [.int (zi a)]) rfl ?_
  by_cases hc2 : (a : Int) < 0
  · refine gy_ifT (pc' := 25) rfl (by decide) (by decide) (by omega) hc2 ?_
    have hl3 : 1024 ≤ h.2.2.2.1 bt ∧ h.2.2.2.1 bt ≤ 1000000 := gJ.rowl (G := gGG) hS.1 tbt rfl
    have hl4 : 0 ≤ h.2.2.2.1 coo ∧ h.2.2.2.1 coo ≤ 12288 := gJ.rowl (G := gGG) hS.1 tcoo rfl
    have hl5 : 0 ≤ h.2.2.2.1 dmo ∧ h.2.2.2.1 dmo ≤ 192 := gJ.rowl (G := gGG) hS.1 tdmo rfl
    have hix6 : gIx ty x ld (h.2.2.2.1 bt : Int) iv h := ⟨pic, b0, b1, b2, dr, sk, bt, n0, c0, ⟨tx, tdr, tsk, tbt⟩, ⟨ex2, ex3, ex4, ex0⟩, hpc, htc, ⟨en0, by omega, by omega⟩, ⟨eiv, by omega, by omega⟩, ⟨ec0, by omega, by omega⟩, ⟨by omega, by omega⟩, hrr, hrw⟩
    have G7 : gSg [] [] [] ty h ty h := gSg.ss G0 hS (by decide)
    exact gz_end (I := .new 108) (len := 3) rfl (Or.inr (by decide)) ⟨ty, G7, ld, (h.2.2.2.1 bt : Int), iv, (by omega), (by omega), (by omega), (by omega), (by omega), (by omega), hix6, Or.inr ⟨rfl, rfl, (by omega), (by dsimp only; omega), (by dsimp only; omega), (by omega), (by omega)⟩⟩
  · refine gy_ifF rfl (by decide) (by decide) (by omega) hc2 ?_
    refine gz_s 2 (pc' := 6) (L' := [some (.ref x), some (.int (zi a)), some (.int (zi b))]) (S' := [.ref x, .int (zi a)]) rfl ?_
    refine gs_gtk rfl (by decide) rfl hS.1 tx rfl rfl ex2 ?_
    refine gs_gtk rfl (by decide) rfl hS.1 tpic rfl rfl exblo ?_
    by_cases hc8 : (vvo 3 : Int) ≤ a
    · refine gy_icT (pc' := 25) rfl (by decide) (by decide) (by omega) (by omega) hc8 ?_
      have hl9 : 1024 ≤ h.2.2.2.1 bt ∧ h.2.2.2.1 bt ≤ 1000000 := gJ.rowl (G := gGG) hS.1 tbt rfl
      have hl10 : 0 ≤ h.2.2.2.1 coo ∧ h.2.2.2.1 coo ≤ 12288 := gJ.rowl (G := gGG) hS.1 tcoo rfl
      have hl11 : 0 ≤ h.2.2.2.1 dmo ∧ h.2.2.2.1 dmo ≤ 192 := gJ.rowl (G := gGG) hS.1 tdmo rfl
      have hix12 : gIx ty x ld (h.2.2.2.1 bt : Int) iv h := ⟨pic, b0, b1, b2, dr, sk, bt, n0, c0, ⟨tx, tdr, tsk, tbt⟩, ⟨ex2, ex3, ex4, ex0⟩, hpc, htc, ⟨en0, by omega, by omega⟩, ⟨eiv, by omega, by omega⟩, ⟨ec0, by omega, by omega⟩, ⟨by omega, by omega⟩, hrr, hrw⟩
      have G13 : gSg [] [] [] ty h ty h := gSg.ss G0 hS (by decide)
      exact gz_end (I := .new 108) (len := 3) rfl (Or.inr (by decide)) ⟨ty, G13, ld, (h.2.2.2.1 bt : Int), iv, (by omega), (by omega), (by omega), (by omega), (by omega), (by omega), hix12, Or.inr ⟨rfl, rfl, (by omega), (by dsimp only; omega), (by dsimp only; omega), (by omega), (by omega)⟩⟩
    · refine gy_icF rfl (by decide) (by decide) (by omega) (by omega) hc8 ?_
      refine gz_s 1 (pc' := 16) (L' := [some (.ref x), some (.int (zi a)), some (.int (zi b))]) (S' := [.int (zi b)]) rfl ?_
      by_cases hc14 : (b : Int) < 0
      · refine gy_ifT (pc' := 25) rfl (by decide) (by decide) (by omega) hc14 ?_
        have hl15 : 1024 ≤ h.2.2.2.1 bt ∧ h.2.2.2.1 bt ≤ 1000000 := gJ.rowl (G := gGG) hS.1 tbt rfl
        have hl16 : 0 ≤ h.2.2.2.1 coo ∧ h.2.2.2.1 coo ≤ 12288 := gJ.rowl (G := gGG) hS.1 tcoo rfl
        have hl17 : 0 ≤ h.2.2.2.1 dmo ∧ h.2.2.2.1 dmo ≤ 192 := gJ.rowl (G := gGG) hS.1 tdmo rfl
        have hix18 : gIx ty x ld (h.2.2.2.1 bt : Int) iv h := ⟨pic, b0, b1, b2, dr, sk, bt, n0, c0, ⟨tx, tdr, tsk, tbt⟩, ⟨ex2, ex3, ex4, ex0⟩, hpc, htc, ⟨en0, by omega, by omega⟩, ⟨eiv, by omega, by omega⟩, ⟨ec0, by omega, by omega⟩, ⟨by omega, by omega⟩, hrr, hrw⟩
        have G19 : gSg [] [] [] ty h ty h := gSg.ss G0 hS (by decide)
        exact gz_end (I := .new 108) (len := 3) rfl (Or.inr (by decide)) ⟨ty, G19, ld, (h.2.2.2.1 bt : Int), iv, (by omega), (by omega), (by omega), (by omega), (by omega), (by omega), hix18, Or.inr ⟨rfl, rfl, (by omega), (by dsimp only; omega), (by dsimp only; omega), (by omega), (by omega)⟩⟩
      · refine gy_ifF rfl (by decide) (by decide) (by omega) hc14 ?_
        refine gz_s 2 (pc' := 22) (L' := [some (.ref x), some (.int (zi a)), some (.int (zi b))]) (S' := [.int (zi 63), .int (zi b)]) rfl ?_
        by_cases hc20 : (b : Int) ≤ 63
        · refine gy_icT (pc' := 35) rfl (by decide) (by decide) (by omega) (by omega) hc20 ?_
          refine gz_s 1 (pc' := 36) (L' := [some (.ref x), some (.int (zi a)), some (.int (zi b))]) (S' := [.ref x]) rfl ?_
          refine gs_gtk rfl (by decide) rfl hS.1 tx rfl rfl ex2 ?_
          refine gs_gtk rfl (by decide) rfl hS.1 tpic rfl rfl er4o ?_
          refine gy_s 5 (pc' := 48) (L' := [some (.ref x), some (.int (zi a)), some (.int (zi b))]) (S' := [.int (((zi a) * (zi 64)) + (zi b)), .ref coo]) (L2 := [some (.ref x), some (.int (zi a)), some (.int (zi b))]) (S2 := [.int (zi ((a * 64) + b)), .ref coo]) rfl (by simp only [zi_add, zi_sub, zi_mul, zi_neg, zi_and1, zi_and7, zi_and15, zi_and31, zi_and255]) (by simp only [zi_add, zi_sub, zi_mul, zi_neg, zi_and1, zi_and7, zi_and15, zi_and31, zi_and255]) ?_
          have hl21 : 0 ≤ h.2.2.2.1 coo ∧ h.2.2.2.1 coo ≤ 12288 := gJ.rowl (G := gGG) hS.1 tcoo rfl
          have hl22 : h.2.2.2.1 coo = h.2.2.2.1 coo := congrFun hS.2.2.2.2.1 coo
          refine gs_ald rfl (by decide) hS.1 tcoo rfl rfl rfl (by decide) (fun _ => rfl) (by omega) (by omega) (fun z23 ez23 az23 bz23 => ?_)
          have hl24 : 1024 ≤ h.2.2.2.1 bt ∧ h.2.2.2.1 bt ≤ 1000000 := gJ.rowl (G := gGG) hS.1 tbt rfl
          have hl25 : 0 ≤ h.2.2.2.1 coo ∧ h.2.2.2.1 coo ≤ 12288 := gJ.rowl (G := gGG) hS.1 tcoo rfl
          have hl26 : 0 ≤ h.2.2.2.1 dmo ∧ h.2.2.2.1 dmo ≤ 192 := gJ.rowl (G := gGG) hS.1 tdmo rfl
          have hix27 : gIx ty x ld (h.2.2.2.1 bt : Int) iv h := ⟨pic, b0, b1, b2, dr, sk, bt, n0, c0, ⟨tx, tdr, tsk, tbt⟩, ⟨ex2, ex3, ex4, ex0⟩, hpc, htc, ⟨en0, by omega, by omega⟩, ⟨eiv, by omega, by omega⟩, ⟨ec0, by omega, by omega⟩, ⟨by omega, by omega⟩, hrr, hrw⟩
          have G28 : gSg [] [] [] ty h ty h := gSg.ss G0 hS (by decide)
          exact gz_end (I := .ireturn) (len := 1) rfl (Or.inl rfl) ⟨ty, G28, ld, (h.2.2.2.1 bt : Int), iv, (by omega), (by omega), (by omega), (by omega), (by omega), (by omega), hix27, Or.inl ⟨z23, rfl, (by omega), (by omega), (by omega), (by dsimp only; omega), (by dsimp only; omega), (by omega), (by omega)⟩⟩
        · refine gy_icF rfl (by decide) (by decide) (by omega) (by omega) hc20 ?_
          have hl29 : 1024 ≤ h.2.2.2.1 bt ∧ h.2.2.2.1 bt ≤ 1000000 := gJ.rowl (G := gGG) hS.1 tbt rfl
          have hl30 : 0 ≤ h.2.2.2.1 coo ∧ h.2.2.2.1 coo ≤ 12288 := gJ.rowl (G := gGG) hS.1 tcoo rfl
          have hl31 : 0 ≤ h.2.2.2.1 dmo ∧ h.2.2.2.1 dmo ≤ 192 := gJ.rowl (G := gGG) hS.1 tdmo rfl
          have hix32 : gIx ty x ld (h.2.2.2.1 bt : Int) iv h := ⟨pic, b0, b1, b2, dr, sk, bt, n0, c0, ⟨tx, tdr, tsk, tbt⟩, ⟨ex2, ex3, ex4, ex0⟩, hpc, htc, ⟨en0, by omega, by omega⟩, ⟨eiv, by omega, by omega⟩, ⟨ec0, by omega, by omega⟩, ⟨by omega, by omega⟩, hrr, hrw⟩
          have G33 : gSg [] [] [] ty h ty h := gSg.ss G0 hS (by decide)
          exact gz_end (I := .new 108) (len := 3) rfl (Or.inr (by decide)) ⟨ty, G33, ld, (h.2.2.2.1 bt : Int), iv, (by omega), (by omega), (by omega), (by omega), (by omega), (by omega), hix32, Or.inr ⟨rfl, rfl, (by omega), (by dsimp only; omega), (by dsimp only; omega), (by omega), (by omega)⟩⟩
set_option maxRecDepth 20000 in
set_option maxHeartbeats 4000000 in
theorem cl_DctFilter_exact (d : Nat) {ty : Nat → Nat} {h : gH} (hJ : gJ rT 1027 ty h) (x : Nat) (tx : ty x = 50) (a : Int) (ra : (-2147483648) ≤ a ∧ a ≤ 2147483647) (b : Int) (rb : (-2147483648) ≤ b ∧ b ≤ 2147483647) (hyst : gSta ty h) (ld : Int) (rld : 0 ≤ ld ∧ ld ≤ 192) (lb : Int) (rlb : 1024 ≤ lb ∧ lb ≤ 1000000) (iv : Int) (riv : 0 ≤ iv ∧ iv ≤ 100) (uq : gUq ty) (hyix : gIx ty x ld lb iv h) : gz gPP gGG gcn (d + 2) gt80 0 (gent [.ref x, .int (zi a), .int (zi b)] 3) [] h (fun q _ => ∃ ty9 : Nat → Nat, gSg [] [] [] ty h ty9 q.2.2 ∧ ∃ ld1 lb1 iv1 : Int, 0 ≤ ld1 ∧ ld1 ≤ 192 ∧ 1024 ≤ lb1 ∧ lb1 ≤ 1000000 ∧ 0 ≤ iv1 ∧ iv1 ≤ 100 ∧ (gIx ty9 x ld1 lb1 iv1 q.2.2) ∧ ((∃ z : Int, gfin gt80 q.1 q.2.1 = some (some (.long (zl z))) ∧ (-9223372036854775808) ≤ z ∧ z ≤ 9223372036854775807 ∧ (iv1 = iv) ∧ (1024 * (((q.2.2.1 : Int) - h.1) - 31 - 2 * (ld1 - ld)) ≤ lb1 - lb) ∧ (((q.2.2.2.1 : Int) - h.2.1) ≤ 4303 + 12480 * (ld1 - ld) + 2 * (lb1 - lb)) ∧ (ld ≤ ld1) ∧ (lb ≤ lb1)) ∨ (q.2.1 = [] ∧ ((q.1 = 25)) ∧ (iv1 = iv) ∧ (1024 * (((q.2.2.1 : Int) - h.1) - 31 - 2 * (ld1 - ld)) ≤ lb1 - lb) ∧ (((q.2.2.2.1 : Int) - h.2.1) ≤ 4303 + 12480 * (ld1 - ld) + 2 * (lb1 - lb)) ∧ (ld ≤ ld1) ∧ (lb ≤ lb1)))) := by
  have hS : gSs rT 1027 ty [] h h := gSs.rf hJ
  have G0 : gSg [] [] [] ty h ty h := gSg.rf hJ (fun x hx => by cases hx)
  obtain ⟨pic, b0, b1, b2, dr, sk, bt, n0, c0, ⟨_, tdr, tsk, tbt⟩, ⟨ex2, ex3, ex4, ex0⟩, hpc, htc, ⟨en0, rn0⟩, ⟨eiv, riv⟩, ⟨ec0, rc0⟩, ⟨lc0, llb⟩, hrr, hrw⟩ := hyix
  have tpic := hpc.1.1
  have tb0 := hpc.1.2.1
  have tb1 := hpc.1.2.2.1
  have tb2 := hpc.1.2.2.2
  have hpq1 := hpc
  obtain ⟨_, bno, coo, dmo, vvo, ⟨tbno, tcoo, tdmo⟩, ⟨er0o, er1o, er2o, er3o, er4o, er5o⟩, hvvo, hrro, ⟨yy0o, yy1o, yy2o, yy3o, yy4o, yy5o, yy6o, yy7o⟩, ll0o, ll1o, ll2o, ll3o⟩ := hpq1
  have excno : h.2.2.2.2 pic 7 = .int (zi (vvo 0)) := hvvo (0, 7, 0) (by decide)
  have rrcno : 0 ≤ vvo 0 ∧ vvo 0 ≤ 3 := hrro (0, 0, 3) (by decide)
  have exuco : h.2.2.2.2 pic 12 = .int (zi (vvo 1)) := hvvo (0, 12, 1) (by decide)
  have rruco : 0 ≤ vvo 1 ∧ vvo 1 ≤ 8 := hrro (1, 0, 8) (by decide)
  have exuro : h.2.2.2.2 pic 13 = .int (zi (vvo 2)) := hvvo (0, 13, 2) (by decide)
  have rruro : 0 ≤ vvo 2 ∧ vvo 2 ≤ 8 := hrro (2, 0, 8) (by decide)
  have exblo : h.2.2.2.2 pic 8 = .int (zi (vvo 3)) := hvvo (0, 8, 3) (by decide)
  have rrblo : 0 ≤ vvo 3 ∧ vvo 3 ≤ 192 := hrro (3, 0, 192) (by decide)
  have exwo : h.2.2.2.2 pic 5 = .int (zi (vvo 4)) := hvvo (0, 5, 4) (by decide)
  have rrwo : 0 ≤ vvo 4 ∧ vvo 4 ≤ 64 := hrro (4, 0, 64) (by decide)
  have exhho : h.2.2.2.2 pic 6 = .int (zi (vvo 5)) := hvvo (0, 6, 5) (by decide)
  have rrhho : 0 ≤ vvo 5 ∧ vvo 5 ≤ 64 := hrro (5, 0, 64) (by decide)
  have exgho : h.2.2.2.2 pic 10 = .int (zi (vvo 6)) := hvvo (0, 10, 6) (by decide)
  have rrgho : 1 ≤ vvo 6 ∧ vvo 6 ≤ 2 := hrro (6, 1, 2) (by decide)
  have exgvo : h.2.2.2.2 pic 11 = .int (zi (vvo 7)) := hvvo (0, 11, 7) (by decide)
  have rrgvo : 1 ≤ vvo 7 ∧ vvo 7 ≤ 2 := hrro (7, 1, 2) (by decide)
  have exhb0o : h.2.2.2.2 b0 1 = .int (zi (vvo 8)) := hvvo (1, 1, 8) (by decide)
  have rrhb0o : (-1) ≤ vvo 8 ∧ vvo 8 ≤ 15 := hrro (8, (-1), 15) (by decide)
  have exvb0o : h.2.2.2.2 b0 2 = .int (zi (vvo 9)) := hvvo (1, 2, 9) (by decide)
  have rrvb0o : 0 ≤ vvo 9 ∧ vvo 9 ≤ 15 := hrro (9, 0, 15) (by decide)
  have extq0o : h.2.2.2.2 b0 3 = .int (zi (vvo 10)) := hvvo (1, 3, 10) (by decide)
  have rrtq0o : (-1) ≤ vvo 10 ∧ vvo 10 ≤ 255 := hrro (10, (-1), 255) (by decide)
  have exC0o : h.2.2.2.2 b0 4 = .int (zi (vvo 11)) := hvvo (1, 4, 11) (by decide)
  have rrC0o : 0 ≤ vvo 11 ∧ vvo 11 ≤ 16 := hrro (11, 0, 16) (by decide)
  have exR0o : h.2.2.2.2 b0 5 = .int (zi (vvo 12)) := hvvo (1, 5, 12) (by decide)
  have rrR0o : 0 ≤ vvo 12 ∧ vvo 12 ≤ 16 := hrro (12, 0, 16) (by decide)
  have exoc0o : h.2.2.2.2 b0 6 = .int (zi (vvo 13)) := hvvo (1, 6, 13) (by decide)
  have rroc0o : 0 ≤ vvo 13 ∧ vvo 13 ≤ 16 := hrro (13, 0, 16) (by decide)
  have exor0o : h.2.2.2.2 b0 7 = .int (zi (vvo 14)) := hvvo (1, 7, 14) (by decide)
  have rror0o : 0 ≤ vvo 14 ∧ vvo 14 ≤ 16 := hrro (14, 0, 16) (by decide)
  have exf0o : h.2.2.2.2 b0 8 = .int (zi (vvo 15)) := hvvo (1, 8, 15) (by decide)
  have rrf0o : 0 ≤ vvo 15 ∧ vvo 15 ≤ 192 := hrro (15, 0, 192) (by decide)
  have exhb1o : h.2.2.2.2 b1 1 = .int (zi (vvo 16)) := hvvo (2, 1, 16) (by decide)
  have rrhb1o : (-1) ≤ vvo 16 ∧ vvo 16 ≤ 15 := hrro (16, (-1), 15) (by decide)
  have exvb1o : h.2.2.2.2 b1 2 = .int (zi (vvo 17)) := hvvo (2, 2, 17) (by decide)
  have rrvb1o : 0 ≤ vvo 17 ∧ vvo 17 ≤ 15 := hrro (17, 0, 15) (by decide)
  have extq1o : h.2.2.2.2 b1 3 = .int (zi (vvo 18)) := hvvo (2, 3, 18) (by decide)
  have rrtq1o : (-1) ≤ vvo 18 ∧ vvo 18 ≤ 255 := hrro (18, (-1), 255) (by decide)
  have exC1o : h.2.2.2.2 b1 4 = .int (zi (vvo 19)) := hvvo (2, 4, 19) (by decide)
  have rrC1o : 0 ≤ vvo 19 ∧ vvo 19 ≤ 16 := hrro (19, 0, 16) (by decide)
  have exR1o : h.2.2.2.2 b1 5 = .int (zi (vvo 20)) := hvvo (2, 5, 20) (by decide)
  have rrR1o : 0 ≤ vvo 20 ∧ vvo 20 ≤ 16 := hrro (20, 0, 16) (by decide)
  have exoc1o : h.2.2.2.2 b1 6 = .int (zi (vvo 21)) := hvvo (2, 6, 21) (by decide)
  have rroc1o : 0 ≤ vvo 21 ∧ vvo 21 ≤ 16 := hrro (21, 0, 16) (by decide)
  have exor1o : h.2.2.2.2 b1 7 = .int (zi (vvo 22)) := hvvo (2, 7, 22) (by decide)
  have rror1o : 0 ≤ vvo 22 ∧ vvo 22 ≤ 16 := hrro (22, 0, 16) (by decide)
  have exf1o : h.2.2.2.2 b1 8 = .int (zi (vvo 23)) := hvvo (2, 8, 23) (by decide)
  have rrf1o : 0 ≤ vvo 23 ∧ vvo 23 ≤ 192 := hrro (23, 0, 192) (by decide)
  have exhb2o : h.2.2.2.2 b2 1 = .int (zi (vvo 24)) := hvvo (3, 1, 24) (by decide)
  have rrhb2o : (-1) ≤ vvo 24 ∧ vvo 24 ≤ 15 := hrro (24, (-1), 15) (by decide)
  have exvb2o : h.2.2.2.2 b2 2 = .int (zi (vvo 25)) := hvvo (3, 2, 25) (by decide)
  have rrvb2o : 0 ≤ vvo 25 ∧ vvo 25 ≤ 15 := hrro (25, 0, 15) (by decide)
  have extq2o : h.2.2.2.2 b2 3 = .int (zi (vvo 26)) := hvvo (3, 3, 26) (by decide)
  have rrtq2o : (-1) ≤ vvo 26 ∧ vvo 26 ≤ 255 := hrro (26, (-1), 255) (by decide)
  have exC2o : h.2.2.2.2 b2 4 = .int (zi (vvo 27)) := hvvo (3, 4, 27) (by decide)
  have rrC2o : 0 ≤ vvo 27 ∧ vvo 27 ≤ 16 := hrro (27, 0, 16) (by decide)
  have exR2o : h.2.2.2.2 b2 5 = .int (zi (vvo 28)) := hvvo (3, 5, 28) (by decide)
  have rrR2o : 0 ≤ vvo 28 ∧ vvo 28 ≤ 16 := hrro (28, 0, 16) (by decide)
  have exoc2o : h.2.2.2.2 b2 6 = .int (zi (vvo 29)) := hvvo (3, 6, 29) (by decide)
  have rroc2o : 0 ≤ vvo 29 ∧ vvo 29 ≤ 16 := hrro (29, 0, 16) (by decide)
  have exor2o : h.2.2.2.2 b2 7 = .int (zi (vvo 30)) := hvvo (3, 7, 30) (by decide)
  have rror2o : 0 ≤ vvo 30 ∧ vvo 30 ≤ 16 := hrro (30, 0, 16) (by decide)
  have exf2o : h.2.2.2.2 b2 8 = .int (zi (vvo 31)) := hvvo (3, 8, 31) (by decide)
  have rrf2o : 0 ≤ vvo 31 ∧ vvo 31 ≤ 192 := hrro (31, 0, 192) (by decide)
  refine gz_s 1 (pc' := 1) (L' := [some (.ref x), some (.int (zi a)), some (.int (zi b))]) (S' := [.int (zi a)]) rfl ?_
  by_cases hc2 : (a : Int) < 0
  · refine gy_ifT (pc' := 25) rfl (by decide) (by decide) (by omega) hc2 ?_
    have hl3 : 1024 ≤ h.2.2.2.1 bt ∧ h.2.2.2.1 bt ≤ 1000000 := gJ.rowl (G := gGG) hS.1 tbt rfl
    have hl4 : 0 ≤ h.2.2.2.1 coo ∧ h.2.2.2.1 coo ≤ 12288 := gJ.rowl (G := gGG) hS.1 tcoo rfl
    have hl5 : 0 ≤ h.2.2.2.1 dmo ∧ h.2.2.2.1 dmo ≤ 192 := gJ.rowl (G := gGG) hS.1 tdmo rfl
    have hix6 : gIx ty x ld (h.2.2.2.1 bt : Int) iv h := ⟨pic, b0, b1, b2, dr, sk, bt, n0, c0, ⟨tx, tdr, tsk, tbt⟩, ⟨ex2, ex3, ex4, ex0⟩, hpc, htc, ⟨en0, by omega, by omega⟩, ⟨eiv, by omega, by omega⟩, ⟨ec0, by omega, by omega⟩, ⟨by omega, by omega⟩, hrr, hrw⟩
    have G7 : gSg [] [] [] ty h ty h := gSg.ss G0 hS (by decide)
    exact gz_end (I := .new 108) (len := 3) rfl (Or.inr (by decide)) ⟨ty, G7, ld, (h.2.2.2.1 bt : Int), iv, (by omega), (by omega), (by omega), (by omega), (by omega), (by omega), hix6, Or.inr ⟨rfl, rfl, (by omega), (by dsimp only; omega), (by dsimp only; omega), (by omega), (by omega)⟩⟩
  · refine gy_ifF rfl (by decide) (by decide) (by omega) hc2 ?_
    refine gz_s 2 (pc' := 6) (L' := [some (.ref x), some (.int (zi a)), some (.int (zi b))]) (S' := [.ref x, .int (zi a)]) rfl ?_
    refine gs_gtk rfl (by decide) rfl hS.1 tx rfl rfl ex2 ?_
    refine gs_gtk rfl (by decide) rfl hS.1 tpic rfl rfl exblo ?_
    by_cases hc8 : (vvo 3 : Int) ≤ a
    · refine gy_icT (pc' := 25) rfl (by decide) (by decide) (by omega) (by omega) hc8 ?_
      have hl9 : 1024 ≤ h.2.2.2.1 bt ∧ h.2.2.2.1 bt ≤ 1000000 := gJ.rowl (G := gGG) hS.1 tbt rfl
      have hl10 : 0 ≤ h.2.2.2.1 coo ∧ h.2.2.2.1 coo ≤ 12288 := gJ.rowl (G := gGG) hS.1 tcoo rfl
      have hl11 : 0 ≤ h.2.2.2.1 dmo ∧ h.2.2.2.1 dmo ≤ 192 := gJ.rowl (G := gGG) hS.1 tdmo rfl
      have hix12 : gIx ty x ld (h.2.2.2.1 bt : Int) iv h := ⟨pic, b0, b1, b2, dr, sk, bt, n0, c0, ⟨tx, tdr, tsk, tbt⟩, ⟨ex2, ex3, ex4, ex0⟩, hpc, htc, ⟨en0, by omega, by omega⟩, ⟨eiv, by omega, by omega⟩, ⟨ec0, by omega, by omega⟩, ⟨by omega, by omega⟩, hrr, hrw⟩
      have G13 : gSg [] [] [] ty h ty h := gSg.ss G0 hS (by decide)
      exact gz_end (I := .new 108) (len := 3) rfl (Or.inr (by decide)) ⟨ty, G13, ld, (h.2.2.2.1 bt : Int), iv, (by omega), (by omega), (by omega), (by omega), (by omega), (by omega), hix12, Or.inr ⟨rfl, rfl, (by omega), (by dsimp only; omega), (by dsimp only; omega), (by omega), (by omega)⟩⟩
    · refine gy_icF rfl (by decide) (by decide) (by omega) (by omega) hc8 ?_
      refine gz_s 1 (pc' := 16) (L' := [some (.ref x), some (.int (zi a)), some (.int (zi b))]) (S' := [.int (zi b)]) rfl ?_
      by_cases hc14 : (b : Int) < 0
      · refine gy_ifT (pc' := 25) rfl (by decide) (by decide) (by omega) hc14 ?_
        have hl15 : 1024 ≤ h.2.2.2.1 bt ∧ h.2.2.2.1 bt ≤ 1000000 := gJ.rowl (G := gGG) hS.1 tbt rfl
        have hl16 : 0 ≤ h.2.2.2.1 coo ∧ h.2.2.2.1 coo ≤ 12288 := gJ.rowl (G := gGG) hS.1 tcoo rfl
        have hl17 : 0 ≤ h.2.2.2.1 dmo ∧ h.2.2.2.1 dmo ≤ 192 := gJ.rowl (G := gGG) hS.1 tdmo rfl
        have hix18 : gIx ty x ld (h.2.2.2.1 bt : Int) iv h := ⟨pic, b0, b1, b2, dr, sk, bt, n0, c0, ⟨tx, tdr, tsk, tbt⟩, ⟨ex2, ex3, ex4, ex0⟩, hpc, htc, ⟨en0, by omega, by omega⟩, ⟨eiv, by omega, by omega⟩, ⟨ec0, by omega, by omega⟩, ⟨by omega, by omega⟩, hrr, hrw⟩
        have G19 : gSg [] [] [] ty h ty h := gSg.ss G0 hS (by decide)
        exact gz_end (I := .new 108) (len := 3) rfl (Or.inr (by decide)) ⟨ty, G19, ld, (h.2.2.2.1 bt : Int), iv, (by omega), (by omega), (by omega), (by omega), (by omega), (by omega), hix18, Or.inr ⟨rfl, rfl, (by omega), (by dsimp only; omega), (by dsimp only; omega), (by omega), (by omega)⟩⟩
      · refine gy_ifF rfl (by decide) (by decide) (by omega) hc14 ?_
        refine gz_s 2 (pc' := 22) (L' := [some (.ref x), some (.int (zi a)), some (.int (zi b))]) (S' := [.int (zi 63), .int (zi b)]) rfl ?_
        by_cases hc20 : (b : Int) ≤ 63
        · refine gy_icT (pc' := 35) rfl (by decide) (by decide) (by omega) (by omega) hc20 ?_
          refine gz_s 1 (pc' := 36) (L' := [some (.ref x), some (.int (zi a)), some (.int (zi b))]) (S' := [.ref x]) rfl ?_
          refine gs_gtk rfl (by decide) rfl hS.1 tx rfl rfl ex2 ?_
          refine gy_s 6 (pc' := 46) (L' := [some (.ref x), some (.int (zi a)), some (.int (zi b))]) (S' := [.int (zi 3), .int (zi b), .int ((zi b) &&& (zi 7)), .int (zi a), .ref pic]) (L2 := [some (.ref x), some (.int (zi a)), some (.int (zi b))]) (S2 := [.int (zi 3), .int (zi b), .int (zi (b % 8)), .int (zi a), .ref pic]) rfl (by simp only [zi_add, zi_sub, zi_mul, zi_neg, zi_and1, zi_and7, zi_and15, zi_and31, zi_and255]) (by simp only [zi_add, zi_sub, zi_mul, zi_neg, zi_and1, zi_and7, zi_and15, zi_and31, zi_and255]) ?_
          refine gy_shc (n := 3) (v := 8) rfl (by decide) (by omega) (by decide) (by decide) rfl ?_
          have hl21 : h.2.2.2.1 coo = h.2.2.2.1 coo := congrFun hS.2.2.2.2.1 coo
          refine gz_call rfl (by decide) rfl (by decide) (by decide) (gcal_of rfl rfl rfl (Nat.le_of_ble_eq_true rfl) (gJ.recv (G := gGG) hS.1 tpic rfl rfl)) (cl_Picture_exactAt _ hS.1 pic tpic a ⟨by omega, by omega⟩ (b % 8) ⟨by omega, by omega⟩ (b / 8) ⟨by omega, by omega⟩ bno er0o tbno b0 er1o tb0 b1 er2o tb1 b2 er3o tb2 coo er4o tcoo (gSta.fr hS.2 (by decide) hyst) (vvo 0) excno ⟨by omega, by omega⟩ (vvo 10) extq0o ⟨by omega, by omega⟩ (vvo 18) extq1o ⟨by omega, by omega⟩ (vvo 26) extq2o ⟨by omega, by omega⟩ (by omega) (by omega) (by omega) (by omega) uq) (fun q22 _ wq22 => ?_)
          obtain ⟨pq22, oq22, hq22⟩ := q22
          obtain ⟨xq22, zq22, gq22, aq22, bq22⟩ := wq22
          refine ⟨_, gq22, ?_⟩
          show gz gPP gGG gcn _ _ 50 [some (.ref x), some (.int (zi a)), some (.int (zi b))] [.long (zl zq22)] hq22 _
          have sq22 : gSs rT 1027 ty [] h hq22 := gSs.tr hS xq22 (by decide)
          have s23 := (xq22.2.2.2.2.2 x 2 (by rw [tx]; decide)).trans ex2
          have s24 := (xq22.2.2.2.2.2 x 3 (by rw [tx]; decide)).trans ex3
          have s25 := (xq22.2.2.2.2.2 x 4 (by rw [tx]; decide)).trans ex4
          have s26 := (xq22.2.2.2.2.2 sk 0 (by rw [tsk]; decide)).trans ex0
          have s27 := (xq22.2.2.2.2.2 dr 8 (by rw [tdr]; decide)).trans en0
          have s28 := (xq22.2.2.2.2.2 dr 3 (by rw [tdr]; decide)).trans eiv
          have s29 := (xq22.2.2.2.2.2 sk 1 (by rw [tsk]; decide)).trans ec0
          have s30 := (xq22.2.2.2.2.2 pic 0 (by rw [tpic]; decide)).trans er0o
          have s31 := (xq22.2.2.2.2.2 bno 0 (by rw [tbno]; decide)).trans er1o
          have s32 := (xq22.2.2.2.2.2 bno 1 (by rw [tbno]; decide)).trans er2o
          have s33 := (xq22.2.2.2.2.2 bno 2 (by rw [tbno]; decide)).trans er3o
          have s34 := (xq22.2.2.2.2.2 pic 2 (by rw [tpic]; decide)).trans er4o
          have s35 := (xq22.2.2.2.2.2 pic 3 (by rw [tpic]; decide)).trans er5o
          have s36 := (xq22.2.2.2.2.2 pic 7 (by rw [tpic]; decide)).trans excno
          have s37 := (xq22.2.2.2.2.2 pic 12 (by rw [tpic]; decide)).trans exuco
          have s38 := (xq22.2.2.2.2.2 pic 13 (by rw [tpic]; decide)).trans exuro
          have s39 := (xq22.2.2.2.2.2 pic 8 (by rw [tpic]; decide)).trans exblo
          have s40 := (xq22.2.2.2.2.2 pic 5 (by rw [tpic]; decide)).trans exwo
          have s41 := (xq22.2.2.2.2.2 pic 6 (by rw [tpic]; decide)).trans exhho
          have s42 := (xq22.2.2.2.2.2 pic 10 (by rw [tpic]; decide)).trans exgho
          have s43 := (xq22.2.2.2.2.2 pic 11 (by rw [tpic]; decide)).trans exgvo
          have s44 := (xq22.2.2.2.2.2 b0 1 (by rw [tb0]; decide)).trans exhb0o
          have s45 := (xq22.2.2.2.2.2 b0 2 (by rw [tb0]; decide)).trans exvb0o
          have s46 := (xq22.2.2.2.2.2 b0 3 (by rw [tb0]; decide)).trans extq0o
          have s47 := (xq22.2.2.2.2.2 b0 4 (by rw [tb0]; decide)).trans exC0o
          have s48 := (xq22.2.2.2.2.2 b0 5 (by rw [tb0]; decide)).trans exR0o
          have s49 := (xq22.2.2.2.2.2 b0 6 (by rw [tb0]; decide)).trans exoc0o
          have s50 := (xq22.2.2.2.2.2 b0 7 (by rw [tb0]; decide)).trans exor0o
          have s51 := (xq22.2.2.2.2.2 b0 8 (by rw [tb0]; decide)).trans exf0o
          have s52 := (xq22.2.2.2.2.2 b1 1 (by rw [tb1]; decide)).trans exhb1o
          have s53 := (xq22.2.2.2.2.2 b1 2 (by rw [tb1]; decide)).trans exvb1o
          have s54 := (xq22.2.2.2.2.2 b1 3 (by rw [tb1]; decide)).trans extq1o
          have s55 := (xq22.2.2.2.2.2 b1 4 (by rw [tb1]; decide)).trans exC1o
          have s56 := (xq22.2.2.2.2.2 b1 5 (by rw [tb1]; decide)).trans exR1o
          have s57 := (xq22.2.2.2.2.2 b1 6 (by rw [tb1]; decide)).trans exoc1o
          have s58 := (xq22.2.2.2.2.2 b1 7 (by rw [tb1]; decide)).trans exor1o
          have s59 := (xq22.2.2.2.2.2 b1 8 (by rw [tb1]; decide)).trans exf1o
          have s60 := (xq22.2.2.2.2.2 b2 1 (by rw [tb2]; decide)).trans exhb2o
          have s61 := (xq22.2.2.2.2.2 b2 2 (by rw [tb2]; decide)).trans exvb2o
          have s62 := (xq22.2.2.2.2.2 b2 3 (by rw [tb2]; decide)).trans extq2o
          have s63 := (xq22.2.2.2.2.2 b2 4 (by rw [tb2]; decide)).trans exC2o
          have s64 := (xq22.2.2.2.2.2 b2 5 (by rw [tb2]; decide)).trans exR2o
          have s65 := (xq22.2.2.2.2.2 b2 6 (by rw [tb2]; decide)).trans exoc2o
          have s66 := (xq22.2.2.2.2.2 b2 7 (by rw [tb2]; decide)).trans exor2o
          have s67 := (xq22.2.2.2.2.2 b2 8 (by rw [tb2]; decide)).trans exf2o
          have pr68 := gPC.fr xq22.2 (by decide) hpc
          have pr69 := gTc.fr xq22.2 (by decide) htc
          have pr70 := gRr.fr xq22.2 (by decide) hrr
          have pr71 := gRw.fr xq22.2 (by decide) hrw
          have k72 := sq22.2.1
          have k72b := sq22.2.2.1
          have hl73 : hq22.2.2.2.1 bt = h.2.2.2.1 bt := congrFun sq22.2.2.2.2.1 bt
          have hl74 : hq22.2.2.2.1 coo = h.2.2.2.1 coo := congrFun sq22.2.2.2.2.1 coo
          have hl75 : hq22.2.2.2.1 dmo = h.2.2.2.1 dmo := congrFun sq22.2.2.2.2.1 dmo
          have hl76 : 1024 ≤ hq22.2.2.2.1 bt ∧ hq22.2.2.2.1 bt ≤ 1000000 := gJ.rowl (G := gGG) sq22.1 tbt rfl
          have hl77 : 0 ≤ hq22.2.2.2.1 coo ∧ hq22.2.2.2.1 coo ≤ 12288 := gJ.rowl (G := gGG) sq22.1 tcoo rfl
          have hl78 : 0 ≤ hq22.2.2.2.1 dmo ∧ hq22.2.2.2.1 dmo ≤ 192 := gJ.rowl (G := gGG) sq22.1 tdmo rfl
          have k79 := sq22.2.1
          have k79b := sq22.2.2.1
          have hl80 : hq22.2.2.2.1 bt = h.2.2.2.1 bt := congrFun sq22.2.2.2.2.1 bt
          have hl81 : hq22.2.2.2.1 coo = h.2.2.2.1 coo := congrFun sq22.2.2.2.2.1 coo
          have hl82 : hq22.2.2.2.1 dmo = h.2.2.2.1 dmo := congrFun sq22.2.2.2.2.1 dmo
          have hix83 : gIx ty x ld (hq22.2.2.2.1 bt : Int) iv hq22 := ⟨pic, b0, b1, b2, dr, sk, bt, n0, c0, ⟨tx, tdr, tsk, tbt⟩, ⟨s23, s24, s25, s26⟩, pr68, pr69, ⟨s27, by omega, by omega⟩, ⟨s28, by omega, by omega⟩, ⟨s29, by omega, by omega⟩, ⟨by omega, by omega⟩, pr70, pr71⟩
          have G84 : gSg [] [] [] ty h ty hq22 := gSg.ss G0 sq22 (by decide)
          exact gz_end (I := .lreturn) (len := 1) rfl (Or.inl rfl) ⟨ty, G84, ld, (hq22.2.2.2.1 bt : Int), iv, (by omega), (by omega), (by omega), (by omega), (by omega), (by omega), hix83, Or.inl ⟨zq22, rfl, (by omega), (by omega), (by omega), (by dsimp only; omega), (by dsimp only; omega), (by omega), (by omega)⟩⟩
        · refine gy_icF rfl (by decide) (by decide) (by omega) (by omega) hc20 ?_
          have hl85 : 1024 ≤ h.2.2.2.1 bt ∧ h.2.2.2.1 bt ≤ 1000000 := gJ.rowl (G := gGG) hS.1 tbt rfl
          have hl86 : 0 ≤ h.2.2.2.1 coo ∧ h.2.2.2.1 coo ≤ 12288 := gJ.rowl (G := gGG) hS.1 tcoo rfl
          have hl87 : 0 ≤ h.2.2.2.1 dmo ∧ h.2.2.2.1 dmo ≤ 192 := gJ.rowl (G := gGG) hS.1 tdmo rfl
          have hix88 : gIx ty x ld (h.2.2.2.1 bt : Int) iv h := ⟨pic, b0, b1, b2, dr, sk, bt, n0, c0, ⟨tx, tdr, tsk, tbt⟩, ⟨ex2, ex3, ex4, ex0⟩, hpc, htc, ⟨en0, by omega, by omega⟩, ⟨eiv, by omega, by omega⟩, ⟨ec0, by omega, by omega⟩, ⟨by omega, by omega⟩, hrr, hrw⟩
          have G89 : gSg [] [] [] ty h ty h := gSg.ss G0 hS (by decide)
          exact gz_end (I := .new 108) (len := 3) rfl (Or.inr (by decide)) ⟨ty, G89, ld, (h.2.2.2.1 bt : Int), iv, (by omega), (by omega), (by omega), (by omega), (by omega), (by omega), hix88, Or.inr ⟨rfl, rfl, (by omega), (by dsimp only; omega), (by dsimp only; omega), (by omega), (by omega)⟩⟩
set_option maxRecDepth 20000 in
set_option maxHeartbeats 4000000 in
theorem cl_DctFilter_told (d : Nat) {ty : Nat → Nat} {h : gH} (hJ : gJ rT 1027 ty h) (x : Nat) (tx : ty x = 50) (a : Int) (ra : (-2147483648) ≤ a ∧ a ≤ 2147483647) (b : Int) (rb : (-2147483648) ≤ b ∧ b ≤ 2147483647) (ld : Int) (rld : 0 ≤ ld ∧ ld ≤ 192) (lb : Int) (rlb : 1024 ≤ lb ∧ lb ≤ 1000000) (iv : Int) (riv : 0 ≤ iv ∧ iv ≤ 100) (uq : gUq ty) (hyix : gIx ty x ld lb iv h) : gz gPP gGG gcn (d + 2) gt81 0 (gent [.ref x, .int (zi a), .int (zi b)] 4) [] h (fun q _ => ∃ ty9 : Nat → Nat, gSg [] [] [] ty h ty9 q.2.2 ∧ ∃ ld1 lb1 iv1 : Int, 0 ≤ ld1 ∧ ld1 ≤ 192 ∧ 1024 ≤ lb1 ∧ lb1 ≤ 1000000 ∧ 0 ≤ iv1 ∧ iv1 ≤ 100 ∧ (gIx ty9 x ld1 lb1 iv1 q.2.2) ∧ ((∃ z : Int, gfin gt81 q.1 q.2.1 = some (some (.int (zi z))) ∧ (-2147483648) ≤ z ∧ z ≤ 2147483647 ∧ (iv1 = iv) ∧ (1024 * (((q.2.2.1 : Int) - h.1) - 31 - 2 * (ld1 - ld)) ≤ lb1 - lb) ∧ (((q.2.2.2.1 : Int) - h.2.1) ≤ 4303 + 12480 * (ld1 - ld) + 2 * (lb1 - lb)) ∧ (ld ≤ ld1) ∧ (lb ≤ lb1)) ∨ (q.2.1 = [] ∧ ((q.1 = 36)) ∧ (iv1 = iv) ∧ (1024 * (((q.2.2.1 : Int) - h.1) - 31 - 2 * (ld1 - ld)) ≤ lb1 - lb) ∧ (((q.2.2.2.1 : Int) - h.2.1) ≤ 4303 + 12480 * (ld1 - ld) + 2 * (lb1 - lb)) ∧ (ld ≤ ld1) ∧ (lb ≤ lb1)))) := by
  have hS : gSs rT 1027 ty [] h h := gSs.rf hJ
  have G0 : gSg [] [] [] ty h ty h := gSg.rf hJ (fun x hx => by cases hx)
  obtain ⟨pic, b0, b1, b2, dr, sk, bt, n0, c0, ⟨_, tdr, tsk, tbt⟩, ⟨ex2, ex3, ex4, ex0⟩, hpc, htc, ⟨en0, rn0⟩, ⟨eiv, riv⟩, ⟨ec0, rc0⟩, ⟨lc0, llb⟩, hrr, hrw⟩ := hyix
  have tpic := hpc.1.1
  have tb0 := hpc.1.2.1
  have tb1 := hpc.1.2.2.1
  have tb2 := hpc.1.2.2.2
  have hpq1 := hpc
  obtain ⟨_, bno, coo, dmo, vvo, ⟨tbno, tcoo, tdmo⟩, ⟨er0o, er1o, er2o, er3o, er4o, er5o⟩, hvvo, hrro, ⟨yy0o, yy1o, yy2o, yy3o, yy4o, yy5o, yy6o, yy7o⟩, ll0o, ll1o, ll2o, ll3o⟩ := hpq1
  have excno : h.2.2.2.2 pic 7 = .int (zi (vvo 0)) := hvvo (0, 7, 0) (by decide)
  have rrcno : 0 ≤ vvo 0 ∧ vvo 0 ≤ 3 := hrro (0, 0, 3) (by decide)
  have exuco : h.2.2.2.2 pic 12 = .int (zi (vvo 1)) := hvvo (0, 12, 1) (by decide)
  have rruco : 0 ≤ vvo 1 ∧ vvo 1 ≤ 8 := hrro (1, 0, 8) (by decide)
  have exuro : h.2.2.2.2 pic 13 = .int (zi (vvo 2)) := hvvo (0, 13, 2) (by decide)
  have rruro : 0 ≤ vvo 2 ∧ vvo 2 ≤ 8 := hrro (2, 0, 8) (by decide)
  have exblo : h.2.2.2.2 pic 8 = .int (zi (vvo 3)) := hvvo (0, 8, 3) (by decide)
  have rrblo : 0 ≤ vvo 3 ∧ vvo 3 ≤ 192 := hrro (3, 0, 192) (by decide)
  have exwo : h.2.2.2.2 pic 5 = .int (zi (vvo 4)) := hvvo (0, 5, 4) (by decide)
  have rrwo : 0 ≤ vvo 4 ∧ vvo 4 ≤ 64 := hrro (4, 0, 64) (by decide)
  have exhho : h.2.2.2.2 pic 6 = .int (zi (vvo 5)) := hvvo (0, 6, 5) (by decide)
  have rrhho : 0 ≤ vvo 5 ∧ vvo 5 ≤ 64 := hrro (5, 0, 64) (by decide)
  have exgho : h.2.2.2.2 pic 10 = .int (zi (vvo 6)) := hvvo (0, 10, 6) (by decide)
  have rrgho : 1 ≤ vvo 6 ∧ vvo 6 ≤ 2 := hrro (6, 1, 2) (by decide)
  have exgvo : h.2.2.2.2 pic 11 = .int (zi (vvo 7)) := hvvo (0, 11, 7) (by decide)
  have rrgvo : 1 ≤ vvo 7 ∧ vvo 7 ≤ 2 := hrro (7, 1, 2) (by decide)
  have exhb0o : h.2.2.2.2 b0 1 = .int (zi (vvo 8)) := hvvo (1, 1, 8) (by decide)
  have rrhb0o : (-1) ≤ vvo 8 ∧ vvo 8 ≤ 15 := hrro (8, (-1), 15) (by decide)
  have exvb0o : h.2.2.2.2 b0 2 = .int (zi (vvo 9)) := hvvo (1, 2, 9) (by decide)
  have rrvb0o : 0 ≤ vvo 9 ∧ vvo 9 ≤ 15 := hrro (9, 0, 15) (by decide)
  have extq0o : h.2.2.2.2 b0 3 = .int (zi (vvo 10)) := hvvo (1, 3, 10) (by decide)
  have rrtq0o : (-1) ≤ vvo 10 ∧ vvo 10 ≤ 255 := hrro (10, (-1), 255) (by decide)
  have exC0o : h.2.2.2.2 b0 4 = .int (zi (vvo 11)) := hvvo (1, 4, 11) (by decide)
  have rrC0o : 0 ≤ vvo 11 ∧ vvo 11 ≤ 16 := hrro (11, 0, 16) (by decide)
  have exR0o : h.2.2.2.2 b0 5 = .int (zi (vvo 12)) := hvvo (1, 5, 12) (by decide)
  have rrR0o : 0 ≤ vvo 12 ∧ vvo 12 ≤ 16 := hrro (12, 0, 16) (by decide)
  have exoc0o : h.2.2.2.2 b0 6 = .int (zi (vvo 13)) := hvvo (1, 6, 13) (by decide)
  have rroc0o : 0 ≤ vvo 13 ∧ vvo 13 ≤ 16 := hrro (13, 0, 16) (by decide)
  have exor0o : h.2.2.2.2 b0 7 = .int (zi (vvo 14)) := hvvo (1, 7, 14) (by decide)
  have rror0o : 0 ≤ vvo 14 ∧ vvo 14 ≤ 16 := hrro (14, 0, 16) (by decide)
  have exf0o : h.2.2.2.2 b0 8 = .int (zi (vvo 15)) := hvvo (1, 8, 15) (by decide)
  have rrf0o : 0 ≤ vvo 15 ∧ vvo 15 ≤ 192 := hrro (15, 0, 192) (by decide)
  have exhb1o : h.2.2.2.2 b1 1 = .int (zi (vvo 16)) := hvvo (2, 1, 16) (by decide)
  have rrhb1o : (-1) ≤ vvo 16 ∧ vvo 16 ≤ 15 := hrro (16, (-1), 15) (by decide)
  have exvb1o : h.2.2.2.2 b1 2 = .int (zi (vvo 17)) := hvvo (2, 2, 17) (by decide)
  have rrvb1o : 0 ≤ vvo 17 ∧ vvo 17 ≤ 15 := hrro (17, 0, 15) (by decide)
  have extq1o : h.2.2.2.2 b1 3 = .int (zi (vvo 18)) := hvvo (2, 3, 18) (by decide)
  have rrtq1o : (-1) ≤ vvo 18 ∧ vvo 18 ≤ 255 := hrro (18, (-1), 255) (by decide)
  have exC1o : h.2.2.2.2 b1 4 = .int (zi (vvo 19)) := hvvo (2, 4, 19) (by decide)
  have rrC1o : 0 ≤ vvo 19 ∧ vvo 19 ≤ 16 := hrro (19, 0, 16) (by decide)
  have exR1o : h.2.2.2.2 b1 5 = .int (zi (vvo 20)) := hvvo (2, 5, 20) (by decide)
  have rrR1o : 0 ≤ vvo 20 ∧ vvo 20 ≤ 16 := hrro (20, 0, 16) (by decide)
  have exoc1o : h.2.2.2.2 b1 6 = .int (zi (vvo 21)) := hvvo (2, 6, 21) (by decide)
  have rroc1o : 0 ≤ vvo 21 ∧ vvo 21 ≤ 16 := hrro (21, 0, 16) (by decide)
  have exor1o : h.2.2.2.2 b1 7 = .int (zi (vvo 22)) := hvvo (2, 7, 22) (by decide)
  have rror1o : 0 ≤ vvo 22 ∧ vvo 22 ≤ 16 := hrro (22, 0, 16) (by decide)
  have exf1o : h.2.2.2.2 b1 8 = .int (zi (vvo 23)) := hvvo (2, 8, 23) (by decide)
  have rrf1o : 0 ≤ vvo 23 ∧ vvo 23 ≤ 192 := hrro (23, 0, 192) (by decide)
  have exhb2o : h.2.2.2.2 b2 1 = .int (zi (vvo 24)) := hvvo (3, 1, 24) (by decide)
  have rrhb2o : (-1) ≤ vvo 24 ∧ vvo 24 ≤ 15 := hrro (24, (-1), 15) (by decide)
  have exvb2o : h.2.2.2.2 b2 2 = .int (zi (vvo 25)) := hvvo (3, 2, 25) (by decide)
  have rrvb2o : 0 ≤ vvo 25 ∧ vvo 25 ≤ 15 := hrro (25, 0, 15) (by decide)
  have extq2o : h.2.2.2.2 b2 3 = .int (zi (vvo 26)) := hvvo (3, 3, 26) (by decide)
  have rrtq2o : (-1) ≤ vvo 26 ∧ vvo 26 ≤ 255 := hrro (26, (-1), 255) (by decide)
  have exC2o : h.2.2.2.2 b2 4 = .int (zi (vvo 27)) := hvvo (3, 4, 27) (by decide)
  have rrC2o : 0 ≤ vvo 27 ∧ vvo 27 ≤ 16 := hrro (27, 0, 16) (by decide)
  have exR2o : h.2.2.2.2 b2 5 = .int (zi (vvo 28)) := hvvo (3, 5, 28) (by decide)
  have rrR2o : 0 ≤ vvo 28 ∧ vvo 28 ≤ 16 := hrro (28, 0, 16) (by decide)
  have exoc2o : h.2.2.2.2 b2 6 = .int (zi (vvo 29)) := hvvo (3, 6, 29) (by decide)
  have rroc2o : 0 ≤ vvo 29 ∧ vvo 29 ≤ 16 := hrro (29, 0, 16) (by decide)
  have exor2o : h.2.2.2.2 b2 7 = .int (zi (vvo 30)) := hvvo (3, 7, 30) (by decide)
  have rror2o : 0 ≤ vvo 30 ∧ vvo 30 ≤ 16 := hrro (30, 0, 16) (by decide)
  have exf2o : h.2.2.2.2 b2 8 = .int (zi (vvo 31)) := hvvo (3, 8, 31) (by decide)
  have rrf2o : 0 ≤ vvo 31 ∧ vvo 31 ≤ 192 := hrro (31, 0, 192) (by decide)
  refine gz_s 1 (pc' := 1) (L' := [some (.ref x), some (.int (zi a)), some (.int (zi b)), none]) (S' := [.int (zi a)]) rfl ?_
  have jn2 : ∀ (jn2v0 : Int), ((3 ≤ jn2v0) ∧ (jn2v0 ≤ 6) ∧ (a < 0 → jn2v0 = 6) ∧ (0 ≤ a → jn2v0 = 3)) → gz gPP gGG gcn (d + 2) gt81 10 [some (.ref x), some (.int (zi a)), some (.int (zi b)), none] [.int (zi jn2v0)] h (fun q _ => ∃ ty9 : Nat → Nat, gSg [] [] [] ty h ty9 q.2.2 ∧ ∃ ld1 lb1 iv1 : Int, 0 ≤ ld1 ∧ ld1 ≤ 192 ∧ 1024 ≤ lb1 ∧ lb1 ≤ 1000000 ∧ 0 ≤ iv1 ∧ iv1 ≤ 100 ∧ (gIx ty9 x ld1 lb1 iv1 q.2.2) ∧ ((∃ z : Int, gfin gt81 q.1 q.2.1 = some (some (.int (zi z))) ∧ (-2147483648) ≤ z ∧ z ≤ 2147483647 ∧ (iv1 = iv) ∧ (1024 * (((q.2.2.1 : Int) - h.1) - 31 - 2 * (ld1 - ld)) ≤ lb1 - lb) ∧ (((q.2.2.2.1 : Int) - h.2.1) ≤ 4303 + 12480 * (ld1 - ld) + 2 * (lb1 - lb)) ∧ (ld ≤ ld1) ∧ (lb ≤ lb1)) ∨ (q.2.1 = [] ∧ ((q.1 = 36)) ∧ (iv1 = iv) ∧ (1024 * (((q.2.2.1 : Int) - h.1) - 31 - 2 * (ld1 - ld)) ≤ lb1 - lb) ∧ (((q.2.2.2.1 : Int) - h.2.1) ≤ 4303 + 12480 * (ld1 - ld) + 2 * (lb1 - lb)) ∧ (ld ≤ ld1) ∧ (lb ≤ lb1)))) := by
    intro jn2v0 jn2d
    refine gz_s 3 (pc' := 13) (L' := [some (.ref x), some (.int (zi a)), some (.int (zi b)), some (.int (zi jn2v0))]) (S' := [.int (zi (-1)), .int (zi a)]) rfl ?_
    by_cases hc3 : (a : Int) < (-1)
    · refine gy_icT (pc' := 36) rfl (by decide) (by decide) (by omega) (by omega) hc3 ?_
      have hl4 : 1024 ≤ h.2.2.2.1 bt ∧ h.2.2.2.1 bt ≤ 1000000 := gJ.rowl (G := gGG) hS.1 tbt rfl
      have hl5 : 0 ≤ h.2.2.2.1 coo ∧ h.2.2.2.1 coo ≤ 12288 := gJ.rowl (G := gGG) hS.1 tcoo rfl
      have hl6 : 0 ≤ h.2.2.2.1 dmo ∧ h.2.2.2.1 dmo ≤ 192 := gJ.rowl (G := gGG) hS.1 tdmo rfl
      have hix7 : gIx ty x ld (h.2.2.2.1 bt : Int) iv h := ⟨pic, b0, b1, b2, dr, sk, bt, n0, c0, ⟨tx, tdr, tsk, tbt⟩, ⟨ex2, ex3, ex4, ex0⟩, hpc, htc, ⟨en0, by omega, by omega⟩, ⟨eiv, by omega, by omega⟩, ⟨ec0, by omega, by omega⟩, ⟨by omega, by omega⟩, hrr, hrw⟩
      have G8 : gSg [] [] [] ty h ty h := gSg.ss G0 hS (by decide)
      exact gz_end (I := .new 84) (len := 3) rfl (Or.inr (by decide)) ⟨ty, G8, ld, (h.2.2.2.1 bt : Int), iv, (by omega), (by omega), (by omega), (by omega), (by omega), (by omega), hix7, Or.inr ⟨rfl, rfl, (by omega), (by dsimp only; omega), (by dsimp only; omega), (by omega), (by omega)⟩⟩
    · refine gy_icF rfl (by decide) (by decide) (by omega) (by omega) hc3 ?_
      refine gz_s 2 (pc' := 18) (L' := [some (.ref x), some (.int (zi a)), some (.int (zi b)), some (.int (zi jn2v0))]) (S' := [.ref x, .int (zi a)]) rfl ?_
      refine gs_gtk rfl (by decide) rfl hS.1 tx rfl rfl ex2 ?_
      refine gs_gtk rfl (by decide) rfl hS.1 tpic rfl rfl exblo ?_
      by_cases hc9 : (vvo 3 : Int) ≤ a
      · refine gy_icT (pc' := 36) rfl (by decide) (by decide) (by omega) (by omega) hc9 ?_
        have hl10 : 1024 ≤ h.2.2.2.1 bt ∧ h.2.2.2.1 bt ≤ 1000000 := gJ.rowl (G := gGG) hS.1 tbt rfl
        have hl11 : 0 ≤ h.2.2.2.1 coo ∧ h.2.2.2.1 coo ≤ 12288 := gJ.rowl (G := gGG) hS.1 tcoo rfl
        have hl12 : 0 ≤ h.2.2.2.1 dmo ∧ h.2.2.2.1 dmo ≤ 192 := gJ.rowl (G := gGG) hS.1 tdmo rfl
        have hix13 : gIx ty x ld (h.2.2.2.1 bt : Int) iv h := ⟨pic, b0, b1, b2, dr, sk, bt, n0, c0, ⟨tx, tdr, tsk, tbt⟩, ⟨ex2, ex3, ex4, ex0⟩, hpc, htc, ⟨en0, by omega, by omega⟩, ⟨eiv, by omega, by omega⟩, ⟨ec0, by omega, by omega⟩, ⟨by omega, by omega⟩, hrr, hrw⟩
        have G14 : gSg [] [] [] ty h ty h := gSg.ss G0 hS (by decide)
        exact gz_end (I := .new 84) (len := 3) rfl (Or.inr (by decide)) ⟨ty, G14, ld, (h.2.2.2.1 bt : Int), iv, (by omega), (by omega), (by omega), (by omega), (by omega), (by omega), hix13, Or.inr ⟨rfl, rfl, (by omega), (by dsimp only; omega), (by dsimp only; omega), (by omega), (by omega)⟩⟩
      · refine gy_icF rfl (by decide) (by decide) (by omega) (by omega) hc9 ?_
        refine gz_s 1 (pc' := 28) (L' := [some (.ref x), some (.int (zi a)), some (.int (zi b)), some (.int (zi jn2v0))]) (S' := [.int (zi b)]) rfl ?_
        by_cases hc15 : (b : Int) < 0
        · refine gy_ifT (pc' := 36) rfl (by decide) (by decide) (by omega) hc15 ?_
          have hl16 : 1024 ≤ h.2.2.2.1 bt ∧ h.2.2.2.1 bt ≤ 1000000 := gJ.rowl (G := gGG) hS.1 tbt rfl
          have hl17 : 0 ≤ h.2.2.2.1 coo ∧ h.2.2.2.1 coo ≤ 12288 := gJ.rowl (G := gGG) hS.1 tcoo rfl
          have hl18 : 0 ≤ h.2.2.2.1 dmo ∧ h.2.2.2.1 dmo ≤ 192 := gJ.rowl (G := gGG) hS.1 tdmo rfl
          have hix19 : gIx ty x ld (h.2.2.2.1 bt : Int) iv h := ⟨pic, b0, b1, b2, dr, sk, bt, n0, c0, ⟨tx, tdr, tsk, tbt⟩, ⟨ex2, ex3, ex4, ex0⟩, hpc, htc, ⟨en0, by omega, by omega⟩, ⟨eiv, by omega, by omega⟩, ⟨ec0, by omega, by omega⟩, ⟨by omega, by omega⟩, hrr, hrw⟩
          have G20 : gSg [] [] [] ty h ty h := gSg.ss G0 hS (by decide)
          exact gz_end (I := .new 84) (len := 3) rfl (Or.inr (by decide)) ⟨ty, G20, ld, (h.2.2.2.1 bt : Int), iv, (by omega), (by omega), (by omega), (by omega), (by omega), (by omega), hix19, Or.inr ⟨rfl, rfl, (by omega), (by dsimp only; omega), (by dsimp only; omega), (by omega), (by omega)⟩⟩
        · refine gy_ifF rfl (by decide) (by decide) (by omega) hc15 ?_
          refine gz_s 2 (pc' := 33) (L' := [some (.ref x), some (.int (zi a)), some (.int (zi b)), some (.int (zi jn2v0))]) (S' := [.int (zi jn2v0), .int (zi b)]) rfl ?_
          by_cases hc21 : (b : Int) ≤ jn2v0
          · refine gy_icT (pc' := 46) rfl (by decide) (by decide) (by omega) (by omega) hc21 ?_
            refine gz_s 1 (pc' := 47) (L' := [some (.ref x), some (.int (zi a)), some (.int (zi b)), some (.int (zi jn2v0))]) (S' := [.int (zi a)]) rfl ?_
            by_cases hc22 : (0 : Int) ≤ a
            · refine gy_ifT (pc' := 75) rfl (by decide) (by decide) (by omega) hc22 ?_
              refine gz_s 1 (pc' := 76) (L' := [some (.ref x), some (.int (zi a)), some (.int (zi b)), some (.int (zi jn2v0))]) (S' := [.ref x]) rfl ?_
              refine gs_gtk rfl (by decide) rfl hS.1 tx rfl rfl ex2 ?_
              refine gz_s 2 (pc' := 81) (L' := [some (.ref x), some (.int (zi a)), some (.int (zi b)), some (.int (zi jn2v0))]) (S' := [.int (zi b), .int (zi a), .ref pic]) rfl ?_
              have hl23 : h.2.2.2.1 dmo = h.2.2.2.1 dmo := congrFun hS.2.2.2.2.1 dmo
              refine gz_call rfl (by decide) rfl (by decide) (by decide) (gcal_of rfl rfl rfl (Nat.le_of_ble_eq_true rfl) (gJ.recv (G := gGG) hS.1 tpic rfl rfl)) (cl_Picture_toldOfBlock _ hS.1 pic tpic a ⟨by omega, by omega⟩ b ⟨by omega, by omega⟩ bno er0o tbno b0 er1o tb0 b1 er2o tb1 b2 er3o tb2 dmo er5o tdmo (vvo 0) excno ⟨by omega, by omega⟩ (vvo 3) exblo ⟨by omega, by omega⟩ (by omega) (by omega) uq) (fun q24 _ wq24 => ?_)
              obtain ⟨pq24, oq24, hq24⟩ := q24
              obtain ⟨xq24, zq24, gq24, aq24, bq24⟩ := wq24
              refine ⟨_, gq24, ?_⟩
              show gz gPP gGG gcn _ _ 84 [some (.ref x), some (.int (zi a)), some (.int (zi b)), some (.int (zi jn2v0))] [.int (zi zq24)] hq24 _
              have sq24 : gSs rT 1027 ty [] h hq24 := gSs.tr hS xq24 (by decide)
              have s25 := (xq24.2.2.2.2.2 x 2 (by rw [tx]; decide)).trans ex2
              have s26 := (xq24.2.2.2.2.2 x 3 (by rw [tx]; decide)).trans ex3
              have s27 := (xq24.2.2.2.2.2 x 4 (by rw [tx]; decide)).trans ex4
              have s28 := (xq24.2.2.2.2.2 sk 0 (by rw [tsk]; decide)).trans ex0
              have s29 := (xq24.2.2.2.2.2 dr 8 (by rw [tdr]; decide)).trans en0
              have s30 := (xq24.2.2.2.2.2 dr 3 (by rw [tdr]; decide)).trans eiv
              have s31 := (xq24.2.2.2.2.2 sk 1 (by rw [tsk]; decide)).trans ec0
              have s32 := (xq24.2.2.2.2.2 pic 0 (by rw [tpic]; decide)).trans er0o
              have s33 := (xq24.2.2.2.2.2 bno 0 (by rw [tbno]; decide)).trans er1o
              have s34 := (xq24.2.2.2.2.2 bno 1 (by rw [tbno]; decide)).trans er2o
              have s35 := (xq24.2.2.2.2.2 bno 2 (by rw [tbno]; decide)).trans er3o
              have s36 := (xq24.2.2.2.2.2 pic 2 (by rw [tpic]; decide)).trans er4o
              have s37 := (xq24.2.2.2.2.2 pic 3 (by rw [tpic]; decide)).trans er5o
              have s38 := (xq24.2.2.2.2.2 pic 7 (by rw [tpic]; decide)).trans excno
              have s39 := (xq24.2.2.2.2.2 pic 12 (by rw [tpic]; decide)).trans exuco
              have s40 := (xq24.2.2.2.2.2 pic 13 (by rw [tpic]; decide)).trans exuro
              have s41 := (xq24.2.2.2.2.2 pic 8 (by rw [tpic]; decide)).trans exblo
              have s42 := (xq24.2.2.2.2.2 pic 5 (by rw [tpic]; decide)).trans exwo
              have s43 := (xq24.2.2.2.2.2 pic 6 (by rw [tpic]; decide)).trans exhho
              have s44 := (xq24.2.2.2.2.2 pic 10 (by rw [tpic]; decide)).trans exgho
              have s45 := (xq24.2.2.2.2.2 pic 11 (by rw [tpic]; decide)).trans exgvo
              have s46 := (xq24.2.2.2.2.2 b0 1 (by rw [tb0]; decide)).trans exhb0o
              have s47 := (xq24.2.2.2.2.2 b0 2 (by rw [tb0]; decide)).trans exvb0o
              have s48 := (xq24.2.2.2.2.2 b0 3 (by rw [tb0]; decide)).trans extq0o
              have s49 := (xq24.2.2.2.2.2 b0 4 (by rw [tb0]; decide)).trans exC0o
              have s50 := (xq24.2.2.2.2.2 b0 5 (by rw [tb0]; decide)).trans exR0o
              have s51 := (xq24.2.2.2.2.2 b0 6 (by rw [tb0]; decide)).trans exoc0o
              have s52 := (xq24.2.2.2.2.2 b0 7 (by rw [tb0]; decide)).trans exor0o
              have s53 := (xq24.2.2.2.2.2 b0 8 (by rw [tb0]; decide)).trans exf0o
              have s54 := (xq24.2.2.2.2.2 b1 1 (by rw [tb1]; decide)).trans exhb1o
              have s55 := (xq24.2.2.2.2.2 b1 2 (by rw [tb1]; decide)).trans exvb1o
              have s56 := (xq24.2.2.2.2.2 b1 3 (by rw [tb1]; decide)).trans extq1o
              have s57 := (xq24.2.2.2.2.2 b1 4 (by rw [tb1]; decide)).trans exC1o
              have s58 := (xq24.2.2.2.2.2 b1 5 (by rw [tb1]; decide)).trans exR1o
              have s59 := (xq24.2.2.2.2.2 b1 6 (by rw [tb1]; decide)).trans exoc1o
              have s60 := (xq24.2.2.2.2.2 b1 7 (by rw [tb1]; decide)).trans exor1o
              have s61 := (xq24.2.2.2.2.2 b1 8 (by rw [tb1]; decide)).trans exf1o
              have s62 := (xq24.2.2.2.2.2 b2 1 (by rw [tb2]; decide)).trans exhb2o
              have s63 := (xq24.2.2.2.2.2 b2 2 (by rw [tb2]; decide)).trans exvb2o
              have s64 := (xq24.2.2.2.2.2 b2 3 (by rw [tb2]; decide)).trans extq2o
              have s65 := (xq24.2.2.2.2.2 b2 4 (by rw [tb2]; decide)).trans exC2o
              have s66 := (xq24.2.2.2.2.2 b2 5 (by rw [tb2]; decide)).trans exR2o
              have s67 := (xq24.2.2.2.2.2 b2 6 (by rw [tb2]; decide)).trans exoc2o
              have s68 := (xq24.2.2.2.2.2 b2 7 (by rw [tb2]; decide)).trans exor2o
              have s69 := (xq24.2.2.2.2.2 b2 8 (by rw [tb2]; decide)).trans exf2o
              have pr70 := gPC.fr xq24.2 (by decide) hpc
              have pr71 := gTc.fr xq24.2 (by decide) htc
              have pr72 := gRr.fr xq24.2 (by decide) hrr
              have pr73 := gRw.fr xq24.2 (by decide) hrw
              have k74 := sq24.2.1
              have k74b := sq24.2.2.1
              have hl75 : hq24.2.2.2.1 bt = h.2.2.2.1 bt := congrFun sq24.2.2.2.2.1 bt
              have hl76 : hq24.2.2.2.1 coo = h.2.2.2.1 coo := congrFun sq24.2.2.2.2.1 coo
              have hl77 : hq24.2.2.2.1 dmo = h.2.2.2.1 dmo := congrFun sq24.2.2.2.2.1 dmo
              have hl78 : 1024 ≤ hq24.2.2.2.1 bt ∧ hq24.2.2.2.1 bt ≤ 1000000 := gJ.rowl (G := gGG) sq24.1 tbt rfl
              have hl79 : 0 ≤ hq24.2.2.2.1 coo ∧ hq24.2.2.2.1 coo ≤ 12288 := gJ.rowl (G := gGG) sq24.1 tcoo rfl
              have hl80 : 0 ≤ hq24.2.2.2.1 dmo ∧ hq24.2.2.2.1 dmo ≤ 192 := gJ.rowl (G := gGG) sq24.1 tdmo rfl
              have k81 := sq24.2.1
              have k81b := sq24.2.2.1
              have hl82 : hq24.2.2.2.1 bt = h.2.2.2.1 bt := congrFun sq24.2.2.2.2.1 bt
              have hl83 : hq24.2.2.2.1 coo = h.2.2.2.1 coo := congrFun sq24.2.2.2.2.1 coo
              have hl84 : hq24.2.2.2.1 dmo = h.2.2.2.1 dmo := congrFun sq24.2.2.2.2.1 dmo
              have hix85 : gIx ty x ld (hq24.2.2.2.1 bt : Int) iv hq24 := ⟨pic, b0, b1, b2, dr, sk, bt, n0, c0, ⟨tx, tdr, tsk, tbt⟩, ⟨s25, s26, s27, s28⟩, pr70, pr71, ⟨s29, by omega, by omega⟩, ⟨s30, by omega, by omega⟩, ⟨s31, by omega, by omega⟩, ⟨by omega, by omega⟩, pr72, pr73⟩
              have G86 : gSg [] [] [] ty h ty hq24 := gSg.ss G0 sq24 (by decide)
              exact gz_end (I := .ireturn) (len := 1) rfl (Or.inl rfl) ⟨ty, G86, ld, (hq24.2.2.2.1 bt : Int), iv, (by omega), (by omega), (by omega), (by omega), (by omega), (by omega), hix85, Or.inl ⟨zq24, rfl, (by omega), (by omega), (by omega), (by dsimp only; omega), (by dsimp only; omega), (by omega), (by omega)⟩⟩
            · refine gy_ifF rfl (by decide) (by decide) (by omega) hc22 ?_
              refine gz_s 2 (pc' := 53) (L' := [some (.ref x), some (.int (zi a)), some (.int (zi b)), some (.int (zi jn2v0))]) (S' := [.int (zi 6), .int (zi b)]) rfl ?_
              by_cases hc87 : ¬ (b : Int) = 6
              · refine gy_icT (pc' := 66) rfl (by decide) (by decide) (by omega) (by omega) hc87 ?_
                refine gz_s 1 (pc' := 67) (L' := [some (.ref x), some (.int (zi a)), some (.int (zi b)), some (.int (zi jn2v0))]) (S' := [.ref x]) rfl ?_
                refine gs_gtk rfl (by decide) rfl hS.1 tx rfl rfl ex2 ?_
                refine gz_s 1 (pc' := 71) (L' := [some (.ref x), some (.int (zi a)), some (.int (zi b)), some (.int (zi jn2v0))]) (S' := [.int (zi b), .ref pic]) rfl ?_
                have hl88 : h.2.2.2.1 dmo = h.2.2.2.1 dmo := congrFun hS.2.2.2.2.1 dmo
                refine gz_call rfl (by decide) rfl (by decide) (by decide) (gcal_of rfl rfl rfl (Nat.le_of_ble_eq_true rfl) (gJ.recv (G := gGG) hS.1 tpic rfl rfl)) (cl_Picture_toldOfAll _ hS.1 pic tpic b ⟨by omega, by omega⟩ dmo er5o tdmo (vvo 3) exblo ⟨by omega, by omega⟩ (by omega) uq) (fun q89 _ wq89 => ?_)
                obtain ⟨pq89, oq89, hq89⟩ := q89
                obtain ⟨xq89, zq89, gq89, aq89, bq89⟩ := wq89
                refine ⟨_, gq89, ?_⟩
                show gz gPP gGG gcn _ _ 74 [some (.ref x), some (.int (zi a)), some (.int (zi b)), some (.int (zi jn2v0))] [.int (zi zq89)] hq89 _
                have sq89 : gSs rT 1027 ty [] h hq89 := gSs.tr hS xq89 (by decide)
                have s90 := (xq89.2.2.2.2.2 x 2 (by rw [tx]; decide)).trans ex2
                have s91 := (xq89.2.2.2.2.2 x 3 (by rw [tx]; decide)).trans ex3
                have s92 := (xq89.2.2.2.2.2 x 4 (by rw [tx]; decide)).trans ex4
                have s93 := (xq89.2.2.2.2.2 sk 0 (by rw [tsk]; decide)).trans ex0
                have s94 := (xq89.2.2.2.2.2 dr 8 (by rw [tdr]; decide)).trans en0
                have s95 := (xq89.2.2.2.2.2 dr 3 (by rw [tdr]; decide)).trans eiv
                have s96 := (xq89.2.2.2.2.2 sk 1 (by rw [tsk]; decide)).trans ec0
                have s97 := (xq89.2.2.2.2.2 pic 0 (by rw [tpic]; decide)).trans er0o
                have s98 := (xq89.2.2.2.2.2 bno 0 (by rw [tbno]; decide)).trans er1o
                have s99 := (xq89.2.2.2.2.2 bno 1 (by rw [tbno]; decide)).trans er2o
                have s100 := (xq89.2.2.2.2.2 bno 2 (by rw [tbno]; decide)).trans er3o
                have s101 := (xq89.2.2.2.2.2 pic 2 (by rw [tpic]; decide)).trans er4o
                have s102 := (xq89.2.2.2.2.2 pic 3 (by rw [tpic]; decide)).trans er5o
                have s103 := (xq89.2.2.2.2.2 pic 7 (by rw [tpic]; decide)).trans excno
                have s104 := (xq89.2.2.2.2.2 pic 12 (by rw [tpic]; decide)).trans exuco
                have s105 := (xq89.2.2.2.2.2 pic 13 (by rw [tpic]; decide)).trans exuro
                have s106 := (xq89.2.2.2.2.2 pic 8 (by rw [tpic]; decide)).trans exblo
                have s107 := (xq89.2.2.2.2.2 pic 5 (by rw [tpic]; decide)).trans exwo
                have s108 := (xq89.2.2.2.2.2 pic 6 (by rw [tpic]; decide)).trans exhho
                have s109 := (xq89.2.2.2.2.2 pic 10 (by rw [tpic]; decide)).trans exgho
                have s110 := (xq89.2.2.2.2.2 pic 11 (by rw [tpic]; decide)).trans exgvo
                have s111 := (xq89.2.2.2.2.2 b0 1 (by rw [tb0]; decide)).trans exhb0o
                have s112 := (xq89.2.2.2.2.2 b0 2 (by rw [tb0]; decide)).trans exvb0o
                have s113 := (xq89.2.2.2.2.2 b0 3 (by rw [tb0]; decide)).trans extq0o
                have s114 := (xq89.2.2.2.2.2 b0 4 (by rw [tb0]; decide)).trans exC0o
                have s115 := (xq89.2.2.2.2.2 b0 5 (by rw [tb0]; decide)).trans exR0o
                have s116 := (xq89.2.2.2.2.2 b0 6 (by rw [tb0]; decide)).trans exoc0o
                have s117 := (xq89.2.2.2.2.2 b0 7 (by rw [tb0]; decide)).trans exor0o
                have s118 := (xq89.2.2.2.2.2 b0 8 (by rw [tb0]; decide)).trans exf0o
                have s119 := (xq89.2.2.2.2.2 b1 1 (by rw [tb1]; decide)).trans exhb1o
                have s120 := (xq89.2.2.2.2.2 b1 2 (by rw [tb1]; decide)).trans exvb1o
                have s121 := (xq89.2.2.2.2.2 b1 3 (by rw [tb1]; decide)).trans extq1o
                have s122 := (xq89.2.2.2.2.2 b1 4 (by rw [tb1]; decide)).trans exC1o
                have s123 := (xq89.2.2.2.2.2 b1 5 (by rw [tb1]; decide)).trans exR1o
                have s124 := (xq89.2.2.2.2.2 b1 6 (by rw [tb1]; decide)).trans exoc1o
                have s125 := (xq89.2.2.2.2.2 b1 7 (by rw [tb1]; decide)).trans exor1o
                have s126 := (xq89.2.2.2.2.2 b1 8 (by rw [tb1]; decide)).trans exf1o
                have s127 := (xq89.2.2.2.2.2 b2 1 (by rw [tb2]; decide)).trans exhb2o
                have s128 := (xq89.2.2.2.2.2 b2 2 (by rw [tb2]; decide)).trans exvb2o
                have s129 := (xq89.2.2.2.2.2 b2 3 (by rw [tb2]; decide)).trans extq2o
                have s130 := (xq89.2.2.2.2.2 b2 4 (by rw [tb2]; decide)).trans exC2o
                have s131 := (xq89.2.2.2.2.2 b2 5 (by rw [tb2]; decide)).trans exR2o
                have s132 := (xq89.2.2.2.2.2 b2 6 (by rw [tb2]; decide)).trans exoc2o
                have s133 := (xq89.2.2.2.2.2 b2 7 (by rw [tb2]; decide)).trans exor2o
                have s134 := (xq89.2.2.2.2.2 b2 8 (by rw [tb2]; decide)).trans exf2o
                have pr135 := gPC.fr xq89.2 (by decide) hpc
                have pr136 := gTc.fr xq89.2 (by decide) htc
                have pr137 := gRr.fr xq89.2 (by decide) hrr
                have pr138 := gRw.fr xq89.2 (by decide) hrw
                have k139 := sq89.2.1
                have k139b := sq89.2.2.1
                have hl140 : hq89.2.2.2.1 bt = h.2.2.2.1 bt := congrFun sq89.2.2.2.2.1 bt
                have hl141 : hq89.2.2.2.1 coo = h.2.2.2.1 coo := congrFun sq89.2.2.2.2.1 coo
                have hl142 : hq89.2.2.2.1 dmo = h.2.2.2.1 dmo := congrFun sq89.2.2.2.2.1 dmo
                have hl143 : 1024 ≤ hq89.2.2.2.1 bt ∧ hq89.2.2.2.1 bt ≤ 1000000 := gJ.rowl (G := gGG) sq89.1 tbt rfl
                have hl144 : 0 ≤ hq89.2.2.2.1 coo ∧ hq89.2.2.2.1 coo ≤ 12288 := gJ.rowl (G := gGG) sq89.1 tcoo rfl
                have hl145 : 0 ≤ hq89.2.2.2.1 dmo ∧ hq89.2.2.2.1 dmo ≤ 192 := gJ.rowl (G := gGG) sq89.1 tdmo rfl
                have k146 := sq89.2.1
                have k146b := sq89.2.2.1
                have hl147 : hq89.2.2.2.1 bt = h.2.2.2.1 bt := congrFun sq89.2.2.2.2.1 bt
                have hl148 : hq89.2.2.2.1 coo = h.2.2.2.1 coo := congrFun sq89.2.2.2.2.1 coo
                have hl149 : hq89.2.2.2.1 dmo = h.2.2.2.1 dmo := congrFun sq89.2.2.2.2.1 dmo
                have hix150 : gIx ty x ld (hq89.2.2.2.1 bt : Int) iv hq89 := ⟨pic, b0, b1, b2, dr, sk, bt, n0, c0, ⟨tx, tdr, tsk, tbt⟩, ⟨s90, s91, s92, s93⟩, pr135, pr136, ⟨s94, by omega, by omega⟩, ⟨s95, by omega, by omega⟩, ⟨s96, by omega, by omega⟩, ⟨by omega, by omega⟩, pr137, pr138⟩
                have G151 : gSg [] [] [] ty h ty hq89 := gSg.ss G0 sq89 (by decide)
                exact gz_end (I := .ireturn) (len := 1) rfl (Or.inl rfl) ⟨ty, G151, ld, (hq89.2.2.2.1 bt : Int), iv, (by omega), (by omega), (by omega), (by omega), (by omega), (by omega), hix150, Or.inl ⟨zq89, rfl, (by omega), (by omega), (by omega), (by dsimp only; omega), (by dsimp only; omega), (by omega), (by omega)⟩⟩
              · refine gy_icF rfl (by decide) (by decide) (by omega) (by omega) hc87 ?_
                refine gz_s 1 (pc' := 57) (L' := [some (.ref x), some (.int (zi a)), some (.int (zi b)), some (.int (zi jn2v0))]) (S' := [.ref x]) rfl ?_
                refine gs_gtk rfl (by decide) rfl hS.1 tx rfl rfl ex4 ?_
                refine gs_gtk rfl (by decide) rfl hS.1 tsk rfl rfl ec0 ?_
                refine gz_s 1 (pc' := 74) (L' := [some (.ref x), some (.int (zi a)), some (.int (zi b)), some (.int (zi jn2v0))]) (S' := [.int (zi c0)]) rfl ?_
                have hl152 : 1024 ≤ h.2.2.2.1 bt ∧ h.2.2.2.1 bt ≤ 1000000 := gJ.rowl (G := gGG) hS.1 tbt rfl
                have hl153 : 0 ≤ h.2.2.2.1 coo ∧ h.2.2.2.1 coo ≤ 12288 := gJ.rowl (G := gGG) hS.1 tcoo rfl
                have hl154 : 0 ≤ h.2.2.2.1 dmo ∧ h.2.2.2.1 dmo ≤ 192 := gJ.rowl (G := gGG) hS.1 tdmo rfl
                have hix155 : gIx ty x ld (h.2.2.2.1 bt : Int) iv h := ⟨pic, b0, b1, b2, dr, sk, bt, n0, c0, ⟨tx, tdr, tsk, tbt⟩, ⟨ex2, ex3, ex4, ex0⟩, hpc, htc, ⟨en0, by omega, by omega⟩, ⟨eiv, by omega, by omega⟩, ⟨ec0, by omega, by omega⟩, ⟨by omega, by omega⟩, hrr, hrw⟩
                have G156 : gSg [] [] [] ty h ty h := gSg.ss G0 hS (by decide)
                exact gz_end (I := .ireturn) (len := 1) rfl (Or.inl rfl) ⟨ty, G156, ld, (h.2.2.2.1 bt : Int), iv, (by omega), (by omega), (by omega), (by omega), (by omega), (by omega), hix155, Or.inl ⟨c0, rfl, (by omega), (by omega), (by omega), (by dsimp only; omega), (by dsimp only; omega), (by omega), (by omega)⟩⟩
          · refine gy_icF rfl (by decide) (by decide) (by omega) (by omega) hc21 ?_
            have hl157 : 1024 ≤ h.2.2.2.1 bt ∧ h.2.2.2.1 bt ≤ 1000000 := gJ.rowl (G := gGG) hS.1 tbt rfl
            have hl158 : 0 ≤ h.2.2.2.1 coo ∧ h.2.2.2.1 coo ≤ 12288 := gJ.rowl (G := gGG) hS.1 tcoo rfl
            have hl159 : 0 ≤ h.2.2.2.1 dmo ∧ h.2.2.2.1 dmo ≤ 192 := gJ.rowl (G := gGG) hS.1 tdmo rfl
            have hix160 : gIx ty x ld (h.2.2.2.1 bt : Int) iv h := ⟨pic, b0, b1, b2, dr, sk, bt, n0, c0, ⟨tx, tdr, tsk, tbt⟩, ⟨ex2, ex3, ex4, ex0⟩, hpc, htc, ⟨en0, by omega, by omega⟩, ⟨eiv, by omega, by omega⟩, ⟨ec0, by omega, by omega⟩, ⟨by omega, by omega⟩, hrr, hrw⟩
            have G161 : gSg [] [] [] ty h ty h := gSg.ss G0 hS (by decide)
            exact gz_end (I := .new 84) (len := 3) rfl (Or.inr (by decide)) ⟨ty, G161, ld, (h.2.2.2.1 bt : Int), iv, (by omega), (by omega), (by omega), (by omega), (by omega), (by omega), hix160, Or.inr ⟨rfl, rfl, (by omega), (by dsimp only; omega), (by dsimp only; omega), (by omega), (by omega)⟩⟩
  by_cases hc162 : (0 : Int) ≤ a
  · refine gy_ifT (pc' := 9) rfl (by decide) (by decide) (by omega) hc162 ?_
    refine gz_s 1 (pc' := 10) (L' := [some (.ref x), some (.int (zi a)), some (.int (zi b)), none]) (S' := [.int (zi 3)]) rfl ?_
    exact jn2 3 (by omega)
  · refine gy_ifF rfl (by decide) (by decide) (by omega) hc162 ?_
    refine gz_s 2 (pc' := 10) (L' := [some (.ref x), some (.int (zi a)), some (.int (zi b)), none]) (S' := [.int (zi 6)]) rfl ?_
    exact jn2 6 (by omega)
set_option maxRecDepth 20000 in
set_option maxHeartbeats 4000000 in
theorem cl_DctFilter_table (d : Nat) {ty : Nat → Nat} {h : gH} (hJ : gJ rT 1027 ty h) (x : Nat) (tx : ty x = 50) (a : Int) (ra : (-2147483648) ≤ a ∧ a ≤ 2147483647) (b : Int) (rb : (-2147483648) ≤ b ∧ b ≤ 2147483647) (v : Int) (rv : (-2147483648) ≤ v ∧ v ≤ 2147483647) (ld : Int) (rld : 0 ≤ ld ∧ ld ≤ 192) (lb : Int) (rlb : 1024 ≤ lb ∧ lb ≤ 1000000) (iv : Int) (riv : 0 ≤ iv ∧ iv ≤ 100) (uq : gUq ty) (hyix : gIx ty x ld lb iv h) : gz gPP gGG gcn (d + 0) gt85 0 (gent [.ref x, .int (zi a), .int (zi b), .int (zi v)] 5) [] h (fun q _ => ∃ ty9 : Nat → Nat, gSg [] [] [53999] ty h ty9 q.2.2 ∧ ∃ ld1 lb1 iv1 : Int, 0 ≤ ld1 ∧ ld1 ≤ 192 ∧ 1024 ≤ lb1 ∧ lb1 ≤ 1000000 ∧ 0 ≤ iv1 ∧ iv1 ≤ 100 ∧ (gIx ty9 x ld1 lb1 iv1 q.2.2) ∧ ((∃ z : Int, gfin gt85 q.1 q.2.1 = some (some (.int (zi z))) ∧ 0 ≤ z ∧ z ≤ 255 ∧ (iv1 = iv) ∧ (1024 * (((q.2.2.1 : Int) - h.1) - 31 - 2 * (ld1 - ld)) ≤ lb1 - lb) ∧ (((q.2.2.2.1 : Int) - h.2.1) ≤ 4303 + 12480 * (ld1 - ld) + 2 * (lb1 - lb)) ∧ (ld ≤ ld1) ∧ (lb ≤ lb1)) ∨ (q.2.1 = [] ∧ ((q.1 = 19) ∨ (q.1 = 46)) ∧ (iv1 = iv) ∧ (1024 * (((q.2.2.1 : Int) - h.1) - 31 - 2 * (ld1 - ld)) ≤ lb1 - lb) ∧ (((q.2.2.2.1 : Int) - h.2.1) ≤ 4303 + 12480 * (ld1 - ld) + 2 * (lb1 - lb)) ∧ (ld ≤ ld1) ∧ (lb ≤ lb1)))) := by
  have hS : gSs rT 1027 ty [53999] h h := gSs.rf hJ
  have G0 : gSg [] [] [53999] ty h ty h := gSg.rf hJ (fun x hx => by cases hx)
  obtain ⟨pic, b0, b1, b2, dr, sk, bt, n0, c0, ⟨_, tdr, tsk, tbt⟩, ⟨ex2, ex3, ex4, ex0⟩, hpc, htc, ⟨en0, rn0⟩, ⟨eiv, riv⟩, ⟨ec0, rc0⟩, ⟨lc0, llb⟩, hrr, hrw⟩ := hyix
  have tpic := hpc.1.1
  have tb0 := hpc.1.2.1
  have tb1 := hpc.1.2.2.1
  have tb2 := hpc.1.2.2.2
  refine gz_s 1 (pc' := 1) (L' := [some (.ref x), some (.int (zi a)), some (.int (zi b)), some (.int (zi v)), none]) (S' := [.int (zi a)]) rfl ?_
  by_cases hc1 : (a : Int) < 0
  · refine gy_ifT (pc' := 19) rfl (by decide) (by decide) (by omega) hc1 ?_
    have hl2 : 1024 ≤ h.2.2.2.1 bt ∧ h.2.2.2.1 bt ≤ 1000000 := gJ.rowl (G := gGG) hS.1 tbt rfl
    have hix3 : gIx ty x ld (h.2.2.2.1 bt : Int) iv h := ⟨pic, b0, b1, b2, dr, sk, bt, n0, c0, ⟨tx, tdr, tsk, tbt⟩, ⟨ex2, ex3, ex4, ex0⟩, hpc, htc, ⟨en0, by omega, by omega⟩, ⟨eiv, by omega, by omega⟩, ⟨ec0, by omega, by omega⟩, ⟨by omega, by omega⟩, hrr, hrw⟩
    have G4 : gSg [] [] [53999] ty h ty h := gSg.ss G0 hS (by decide)
    exact gz_end (I := .new 84) (len := 3) rfl (Or.inr (by decide)) ⟨ty, G4, ld, (h.2.2.2.1 bt : Int), iv, (by omega), (by omega), (by omega), (by omega), (by omega), (by omega), hix3, Or.inr ⟨rfl, Or.inl rfl, (by omega), (by dsimp only; omega), (by dsimp only; omega), (by omega), (by omega)⟩⟩
  · refine gy_ifF rfl (by decide) (by decide) (by omega) hc1 ?_
    refine gz_s 2 (pc' := 6) (L' := [some (.ref x), some (.int (zi a)), some (.int (zi b)), some (.int (zi v)), none]) (S' := [.int (zi 4), .int (zi a)]) rfl ?_
    by_cases hc5 : (4 : Int) ≤ a
    · refine gy_icT (pc' := 19) rfl (by decide) (by decide) (by omega) (by omega) hc5 ?_
      have hl6 : 1024 ≤ h.2.2.2.1 bt ∧ h.2.2.2.1 bt ≤ 1000000 := gJ.rowl (G := gGG) hS.1 tbt rfl
      have hix7 : gIx ty x ld (h.2.2.2.1 bt : Int) iv h := ⟨pic, b0, b1, b2, dr, sk, bt, n0, c0, ⟨tx, tdr, tsk, tbt⟩, ⟨ex2, ex3, ex4, ex0⟩, hpc, htc, ⟨en0, by omega, by omega⟩, ⟨eiv, by omega, by omega⟩, ⟨ec0, by omega, by omega⟩, ⟨by omega, by omega⟩, hrr, hrw⟩
      have G8 : gSg [] [] [53999] ty h ty h := gSg.ss G0 hS (by decide)
      exact gz_end (I := .new 84) (len := 3) rfl (Or.inr (by decide)) ⟨ty, G8, ld, (h.2.2.2.1 bt : Int), iv, (by omega), (by omega), (by omega), (by omega), (by omega), (by omega), hix7, Or.inr ⟨rfl, Or.inl rfl, (by omega), (by dsimp only; omega), (by dsimp only; omega), (by omega), (by omega)⟩⟩
    · refine gy_icF rfl (by decide) (by decide) (by omega) (by omega) hc5 ?_
      refine gz_s 1 (pc' := 10) (L' := [some (.ref x), some (.int (zi a)), some (.int (zi b)), some (.int (zi v)), none]) (S' := [.int (zi b)]) rfl ?_
      by_cases hc9 : (b : Int) < 0
      · refine gy_ifT (pc' := 19) rfl (by decide) (by decide) (by omega) hc9 ?_
        have hl10 : 1024 ≤ h.2.2.2.1 bt ∧ h.2.2.2.1 bt ≤ 1000000 := gJ.rowl (G := gGG) hS.1 tbt rfl
        have hix11 : gIx ty x ld (h.2.2.2.1 bt : Int) iv h := ⟨pic, b0, b1, b2, dr, sk, bt, n0, c0, ⟨tx, tdr, tsk, tbt⟩, ⟨ex2, ex3, ex4, ex0⟩, hpc, htc, ⟨en0, by omega, by omega⟩, ⟨eiv, by omega, by omega⟩, ⟨ec0, by omega, by omega⟩, ⟨by omega, by omega⟩, hrr, hrw⟩
        have G12 : gSg [] [] [53999] ty h ty h := gSg.ss G0 hS (by decide)
        exact gz_end (I := .new 84) (len := 3) rfl (Or.inr (by decide)) ⟨ty, G12, ld, (h.2.2.2.1 bt : Int), iv, (by omega), (by omega), (by omega), (by omega), (by omega), (by omega), hix11, Or.inr ⟨rfl, Or.inl rfl, (by omega), (by dsimp only; omega), (by dsimp only; omega), (by omega), (by omega)⟩⟩
      · refine gy_ifF rfl (by decide) (by decide) (by omega) hc9 ?_
        refine gz_s 2 (pc' := 16) (L' := [some (.ref x), some (.int (zi a)), some (.int (zi b)), some (.int (zi v)), none]) (S' := [.int (zi 63), .int (zi b)]) rfl ?_
        by_cases hc13 : (b : Int) ≤ 63
        · refine gy_icT (pc' := 29) rfl (by decide) (by decide) (by omega) (by omega) hc13 ?_
          refine gz_s 2 (pc' := 31) (L' := [some (.ref x), some (.int (zi a)), some (.int (zi b)), some (.int (zi v)), none]) (S' := [.int (zi (-1)), .int (zi v)]) rfl ?_
          by_cases hc14 : (v : Int) = (-1)
          · refine gy_icT (pc' := 56) rfl (by decide) (by decide) (by omega) (by omega) hc14 ?_
            refine gz_s 1 (pc' := 57) (L' := [some (.ref x), some (.int (zi a)), some (.int (zi b)), some (.int (zi v)), none]) (S' := [.ref x]) rfl ?_
            refine gs_gtr rfl (by decide) rfl hS.1 tx rfl rfl rfl (fun c15 ec15 tc15 => ?_)
            refine gy_s 5 (pc' := 66) (L' := [some (.ref x), some (.int (zi a)), some (.int (zi b)), some (.int (zi v)), none]) (S' := [.int (((zi a) * (zi 64)) + (zi b)), .ref c15]) (L2 := [some (.ref x), some (.int (zi a)), some (.int (zi b)), some (.int (zi v)), none]) (S2 := [.int (zi ((a * 64) + b)), .ref c15]) rfl (by simp only [zi_add, zi_sub, zi_mul, zi_neg, zi_and1, zi_and7, zi_and15, zi_and31, zi_and255]) (by simp only [zi_add, zi_sub, zi_mul, zi_neg, zi_and1, zi_and7, zi_and15, zi_and31, zi_and255]) ?_
            have hl16 : 256 ≤ h.2.2.2.1 c15 ∧ h.2.2.2.1 c15 ≤ 256 := gJ.rowl (G := gGG) hS.1 tc15 rfl
            refine gs_ald rfl (by decide) hS.1 tc15 rfl rfl rfl (by decide) (fun _ => rfl) (by omega) (by omega) (fun z17 ez17 az17 bz17 => ?_)
            refine gz_s 3 (pc' := 71) (L' := [some (.ref x), some (.int (zi a)), some (.int (zi b)), some (.int (zi v)), some (.int (zi z17))]) (S' := [.int (zi (-1)), .int (zi v)]) rfl ?_
            refine gy_icT (pc' := 86) rfl (by decide) (by decide) ⟨by omega, by omega⟩ ⟨by omega, by omega⟩ (by first | (simp [zc]; done) | (simp only [zc]; omega)) ?_
            refine gz_s 1 (pc' := 88) (L' := [some (.ref x), some (.int (zi a)), some (.int (zi b)), some (.int (zi v)), some (.int (zi z17))]) (S' := [.int (zi z17)]) rfl ?_
            have hl18 : 1024 ≤ h.2.2.2.1 bt ∧ h.2.2.2.1 bt ≤ 1000000 := gJ.rowl (G := gGG) hS.1 tbt rfl
            have hix19 : gIx ty x ld (h.2.2.2.1 bt : Int) iv h := ⟨pic, b0, b1, b2, dr, sk, bt, n0, c0, ⟨tx, tdr, tsk, tbt⟩, ⟨ex2, ex3, ex4, ex0⟩, hpc, htc, ⟨en0, by omega, by omega⟩, ⟨eiv, by omega, by omega⟩, ⟨ec0, by omega, by omega⟩, ⟨by omega, by omega⟩, hrr, hrw⟩
            have G20 : gSg [] [] [53999] ty h ty h := gSg.ss G0 hS (by decide)
            exact gz_end (I := .ireturn) (len := 1) rfl (Or.inl rfl) ⟨ty, G20, ld, (h.2.2.2.1 bt : Int), iv, (by omega), (by omega), (by omega), (by omega), (by omega), (by omega), hix19, Or.inl ⟨z17, rfl, (by omega), (by omega), (by omega), (by dsimp only; omega), (by dsimp only; omega), (by omega), (by omega)⟩⟩
          · refine gy_icF rfl (by decide) (by decide) (by omega) (by omega) hc14 ?_
            refine gz_s 2 (pc' := 36) (L' := [some (.ref x), some (.int (zi a)), some (.int (zi b)), some (.int (zi v)), none]) (S' := [.int (zi 1), .int (zi v)]) rfl ?_
            by_cases hc21 : (v : Int) < 1
            · refine gy_icT (pc' := 46) rfl (by decide) (by decide) (by omega) (by omega) hc21 ?_
              have hl22 : 1024 ≤ h.2.2.2.1 bt ∧ h.2.2.2.1 bt ≤ 1000000 := gJ.rowl (G := gGG) hS.1 tbt rfl
              have hix23 : gIx ty x ld (h.2.2.2.1 bt : Int) iv h := ⟨pic, b0, b1, b2, dr, sk, bt, n0, c0, ⟨tx, tdr, tsk, tbt⟩, ⟨ex2, ex3, ex4, ex0⟩, hpc, htc, ⟨en0, by omega, by omega⟩, ⟨eiv, by omega, by omega⟩, ⟨ec0, by omega, by omega⟩, ⟨by omega, by omega⟩, hrr, hrw⟩
              have G24 : gSg [] [] [53999] ty h ty h := gSg.ss G0 hS (by decide)
              exact gz_end (I := .new 134) (len := 3) rfl (Or.inr (by decide)) ⟨ty, G24, ld, (h.2.2.2.1 bt : Int), iv, (by omega), (by omega), (by omega), (by omega), (by omega), (by omega), hix23, Or.inr ⟨rfl, Or.inr (rfl), (by omega), (by dsimp only; omega), (by dsimp only; omega), (by omega), (by omega)⟩⟩
            · refine gy_icF rfl (by decide) (by decide) (by omega) (by omega) hc21 ?_
              refine gz_s 2 (pc' := 43) (L' := [some (.ref x), some (.int (zi a)), some (.int (zi b)), some (.int (zi v)), none]) (S' := [.int (zi 255), .int (zi v)]) rfl ?_
              by_cases hc25 : (v : Int) ≤ 255
              · refine gy_icT (pc' := 56) rfl (by decide) (by decide) (by omega) (by omega) hc25 ?_
                refine gz_s 1 (pc' := 57) (L' := [some (.ref x), some (.int (zi a)), some (.int (zi b)), some (.int (zi v)), none]) (S' := [.ref x]) rfl ?_
                refine gs_gtr rfl (by decide) rfl hS.1 tx rfl rfl rfl (fun c26 ec26 tc26 => ?_)
                refine gy_s 5 (pc' := 66) (L' := [some (.ref x), some (.int (zi a)), some (.int (zi b)), some (.int (zi v)), none]) (S' := [.int (((zi a) * (zi 64)) + (zi b)), .ref c26]) (L2 := [some (.ref x), some (.int (zi a)), some (.int (zi b)), some (.int (zi v)), none]) (S2 := [.int (zi ((a * 64) + b)), .ref c26]) rfl (by simp only [zi_add, zi_sub, zi_mul, zi_neg, zi_and1, zi_and7, zi_and15, zi_and31, zi_and255]) (by simp only [zi_add, zi_sub, zi_mul, zi_neg, zi_and1, zi_and7, zi_and15, zi_and31, zi_and255]) ?_
                have hl27 : 256 ≤ h.2.2.2.1 c26 ∧ h.2.2.2.1 c26 ≤ 256 := gJ.rowl (G := gGG) hS.1 tc26 rfl
                refine gs_ald rfl (by decide) hS.1 tc26 rfl rfl rfl (by decide) (fun _ => rfl) (by omega) (by omega) (fun z28 ez28 az28 bz28 => ?_)
                refine gz_s 3 (pc' := 71) (L' := [some (.ref x), some (.int (zi a)), some (.int (zi b)), some (.int (zi v)), some (.int (zi z28))]) (S' := [.int (zi (-1)), .int (zi v)]) rfl ?_
                refine gy_icF rfl (by decide) (by decide) ⟨by omega, by omega⟩ ⟨by omega, by omega⟩ (by first | (simp [zc]; done) | (simp only [zc]; omega)) ?_
                refine gz_s 1 (pc' := 75) (L' := [some (.ref x), some (.int (zi a)), some (.int (zi b)), some (.int (zi v)), some (.int (zi z28))]) (S' := [.ref x]) rfl ?_
                refine gs_gtk rfl (by decide) rfl hS.1 tx rfl rfl ec26 ?_
                refine gy_s 6 (pc' := 85) (L' := [some (.ref x), some (.int (zi a)), some (.int (zi b)), some (.int (zi v)), some (.int (zi z28))]) (S' := [.int (zi v), .int (((zi a) * (zi 64)) + (zi b)), .ref c26]) (L2 := [some (.ref x), some (.int (zi a)), some (.int (zi b)), some (.int (zi v)), some (.int (zi z28))]) (S2 := [.int (zi v), .int (zi ((a * 64) + b)), .ref c26]) rfl (by simp only [zi_add, zi_sub, zi_mul, zi_neg, zi_and1, zi_and7, zi_and15, zi_and31, zi_and255]) (by simp only [zi_add, zi_sub, zi_mul, zi_neg, zi_and1, zi_and7, zi_and15, zi_and31, zi_and255]) ?_
                have hl29 : 256 ≤ h.2.2.2.1 c26 ∧ h.2.2.2.1 c26 ≤ 256 := gJ.rowl (G := gGG) hS.1 tc26 rfl
                refine gs_ast rfl (by decide) hS tc26 rfl rfl rfl (by decide) (fun _ => rfl) (by omega) (by omega) (fun _ => (by decide : (53999 : Nat) ∈ ([53999] : List Nat))) (by omega) (by omega) (fun h30 sh30 eh30 fh30 => ?_)
                have pr31 := gPC.pa fh30 (sh30.2.2.2.2.1.trans hS.2.2.2.2.1.symm) tc26 (fun _ => (by decide : ¬ (53999 : Nat) ∈ gPCp)) hpc
                have pr32 := gTc.pt fh30 tc26 (by decide) htc
                have pr33 := gRr.pa fh30 (sh30.2.2.2.2.1.trans hS.2.2.2.2.1.symm) tc26 (fun _ => (by decide : ¬ (53999 : Nat) ∈ gRrp)) hrr
                have pr34 := gRw.pa fh30 (sh30.2.2.2.2.1.trans hS.2.2.2.2.1.symm) tc26 (fun _ => (by decide : ¬ (53999 : Nat) ∈ gRwp)) hrw
                have s35 := (fh30 x 2 (fun q => absurd (((tx).symm.trans (congrArg ty q.1)).trans tc26) (by decide))).trans ex2
                have s36 := (fh30 x 3 (fun q => absurd (((tx).symm.trans (congrArg ty q.1)).trans tc26) (by decide))).trans ex3
                have s37 := (fh30 x 4 (fun q => absurd (((tx).symm.trans (congrArg ty q.1)).trans tc26) (by decide))).trans ex4
                have s38 := (fh30 sk 0 (fun q => absurd (((tsk).symm.trans (congrArg ty q.1)).trans tc26) (by decide))).trans ex0
                have s39 := (fh30 dr 8 (fun q => absurd (((tdr).symm.trans (congrArg ty q.1)).trans tc26) (by decide))).trans en0
                have s40 := (fh30 dr 3 (fun q => absurd (((tdr).symm.trans (congrArg ty q.1)).trans tc26) (by decide))).trans eiv
                have s41 := (fh30 sk 1 (fun q => absurd (((tsk).symm.trans (congrArg ty q.1)).trans tc26) (by decide))).trans ec0
                have s42 := (fh30 x 1 (fun q => absurd (((tx).symm.trans (congrArg ty q.1)).trans tc26) (by decide))).trans ec26
                have pr43 := gEl.set (i := (a * 64) + b) (z := v) uq tc26 (by decide) eh30 (by omega) (by omega)
                refine gz_s 1 (pc' := 88) (L' := [some (.ref x), some (.int (zi a)), some (.int (zi b)), some (.int (zi v)), some (.int (zi z28))]) (S' := [.int (zi z28)]) rfl ?_
                have k44 := sh30.2.1
                have k44b := sh30.2.2.1
                have hl45 : h30.2.2.2.1 bt = h.2.2.2.1 bt := congrFun sh30.2.2.2.2.1 bt
                have hl46 : 1024 ≤ h30.2.2.2.1 bt ∧ h30.2.2.2.1 bt ≤ 1000000 := gJ.rowl (G := gGG) sh30.1 tbt rfl
                have k47 := sh30.2.1
                have k47b := sh30.2.2.1
                have hl48 : h30.2.2.2.1 bt = h.2.2.2.1 bt := congrFun sh30.2.2.2.2.1 bt
                have hix49 : gIx ty x ld (h30.2.2.2.1 bt : Int) iv h30 := ⟨pic, b0, b1, b2, dr, sk, bt, n0, c0, ⟨tx, tdr, tsk, tbt⟩, ⟨s35, s36, s37, s38⟩, pr31, pr32, ⟨s39, by omega, by omega⟩, ⟨s40, by omega, by omega⟩, ⟨s41, by omega, by omega⟩, ⟨by omega, by omega⟩, pr33, pr34⟩
                have G50 : gSg [] [] [53999] ty h ty h30 := gSg.ss G0 sh30 (by decide)
                exact gz_end (I := .ireturn) (len := 1) rfl (Or.inl rfl) ⟨ty, G50, ld, (h30.2.2.2.1 bt : Int), iv, (by omega), (by omega), (by omega), (by omega), (by omega), (by omega), hix49, Or.inl ⟨z28, rfl, (by omega), (by omega), (by omega), (by dsimp only; omega), (by dsimp only; omega), (by omega), (by omega)⟩⟩
              · refine gy_icF rfl (by decide) (by decide) (by omega) (by omega) hc25 ?_
                have hl51 : 1024 ≤ h.2.2.2.1 bt ∧ h.2.2.2.1 bt ≤ 1000000 := gJ.rowl (G := gGG) hS.1 tbt rfl
                have hix52 : gIx ty x ld (h.2.2.2.1 bt : Int) iv h := ⟨pic, b0, b1, b2, dr, sk, bt, n0, c0, ⟨tx, tdr, tsk, tbt⟩, ⟨ex2, ex3, ex4, ex0⟩, hpc, htc, ⟨en0, by omega, by omega⟩, ⟨eiv, by omega, by omega⟩, ⟨ec0, by omega, by omega⟩, ⟨by omega, by omega⟩, hrr, hrw⟩
                have G53 : gSg [] [] [53999] ty h ty h := gSg.ss G0 hS (by decide)
                exact gz_end (I := .new 134) (len := 3) rfl (Or.inr (by decide)) ⟨ty, G53, ld, (h.2.2.2.1 bt : Int), iv, (by omega), (by omega), (by omega), (by omega), (by omega), (by omega), hix52, Or.inr ⟨rfl, Or.inr (rfl), (by omega), (by dsimp only; omega), (by dsimp only; omega), (by omega), (by omega)⟩⟩
        · refine gy_icF rfl (by decide) (by decide) (by omega) (by omega) hc13 ?_
          have hl54 : 1024 ≤ h.2.2.2.1 bt ∧ h.2.2.2.1 bt ≤ 1000000 := gJ.rowl (G := gGG) hS.1 tbt rfl
          have hix55 : gIx ty x ld (h.2.2.2.1 bt : Int) iv h := ⟨pic, b0, b1, b2, dr, sk, bt, n0, c0, ⟨tx, tdr, tsk, tbt⟩, ⟨ex2, ex3, ex4, ex0⟩, hpc, htc, ⟨en0, by omega, by omega⟩, ⟨eiv, by omega, by omega⟩, ⟨ec0, by omega, by omega⟩, ⟨by omega, by omega⟩, hrr, hrw⟩
          have G56 : gSg [] [] [53999] ty h ty h := gSg.ss G0 hS (by decide)
          exact gz_end (I := .new 84) (len := 3) rfl (Or.inr (by decide)) ⟨ty, G56, ld, (h.2.2.2.1 bt : Int), iv, (by omega), (by omega), (by omega), (by omega), (by omega), (by omega), hix55, Or.inr ⟨rfl, Or.inl rfl, (by omega), (by dsimp only; omega), (by dsimp only; omega), (by omega), (by omega)⟩⟩
set_option maxRecDepth 20000 in
set_option maxHeartbeats 4000000 in
theorem cl_DctFilter_point (d : Nat) {ty : Nat → Nat} {h : gH} (hJ : gJ rT 1027 ty h) (x : Nat) (tx : ty x = 50) (a : Int) (ra : (-2147483648) ≤ a ∧ a ≤ 2147483647) (b : Int) (rb : (-2147483648) ≤ b ∧ b ≤ 2147483647) (v : Int) (rv : (-2147483648) ≤ v ∧ v ≤ 2147483647) (f : Nat → Int) (ld : Int) (rld : 0 ≤ ld ∧ ld ≤ 192) (lb : Int) (rlb : 1024 ≤ lb ∧ lb ≤ 1000000) (iv : Int) (riv : 0 ≤ iv ∧ iv ≤ 100) (uq : gUq ty) (hyix : gIx ty x ld lb iv h) (hyf59 : gRoB ty 59 f h) : gz gPP gGG gcn (d + 2) gt86 0 (gent [.ref x, .int (zi a), .int (zi b), .int (zi v)] 4) [] h (fun q _ => ∃ ty9 : Nat → Nat, gSg [] [] [55001, 55002, 59999] ty h ty9 q.2.2 ∧ ∃ ld1 lb1 iv1 : Int, 0 ≤ ld1 ∧ ld1 ≤ 192 ∧ 1024 ≤ lb1 ∧ lb1 ≤ 1000000 ∧ 0 ≤ iv1 ∧ iv1 ≤ 100 ∧ (gIx ty9 x ld1 lb1 iv1 q.2.2) ∧ (gRoB ty9 59 (gVb f a b v) q.2.2) ∧ ((∃ z : Int, gfin gt86 q.1 q.2.1 = some (some (.int (zi z))) ∧ 0 ≤ z ∧ z ≤ 255 ∧ (z = f (b * 32 + a).toNat) ∧ (0 ≤ a) ∧ (a ≤ 31) ∧ (0 ≤ b) ∧ (b ≤ 31) ∧ (0 ≤ v) ∧ (v ≤ 255) ∧ (iv1 = iv) ∧ (1024 * (((q.2.2.1 : Int) - h.1) - 31 - 2 * (ld1 - ld)) ≤ lb1 - lb) ∧ (((q.2.2.2.1 : Int) - h.2.1) ≤ 4303 + 12480 * (ld1 - ld) + 2 * (lb1 - lb)) ∧ (ld ≤ ld1) ∧ (lb ≤ lb1)) ∨ (q.2.1 = [] ∧ ((q.1 = 20 ∧ (¬ (0 ≤ a ∧ a ≤ 31 ∧ 0 ≤ b ∧ b ≤ 31))) ∨ (q.1 = 41 ∧ (0 ≤ a) ∧ (a ≤ 31) ∧ (0 ≤ b) ∧ (b ≤ 31) ∧ (¬ (0 ≤ v ∧ v ≤ 255)))) ∧ (iv1 = iv) ∧ (1024 * (((q.2.2.1 : Int) - h.1) - 31 - 2 * (ld1 - ld)) ≤ lb1 - lb) ∧ (((q.2.2.2.1 : Int) - h.2.1) ≤ 4303 + 12480 * (ld1 - ld) + 2 * (lb1 - lb)) ∧ (ld ≤ ld1) ∧ (lb ≤ lb1)))) := by
  have hS : gSs rT 1027 ty [55001, 55002, 59999] h h := gSs.rf hJ
  have G0 : gSg [] [] [55001, 55002, 59999] ty h ty h := gSg.rf hJ (fun x hx => by cases hx)
  obtain ⟨pic, b0, b1, b2, dr, sk, bt, n0, c0, ⟨_, tdr, tsk, tbt⟩, ⟨ex2, ex3, ex4, ex0⟩, hpc, htc, ⟨en0, rn0⟩, ⟨eiv, riv⟩, ⟨ec0, rc0⟩, ⟨lc0, llb⟩, hrr, hrw⟩ := hyix
  have tpic := hpc.1.1
  have tb0 := hpc.1.2.1
  have tb1 := hpc.1.2.2.1
  have tb2 := hpc.1.2.2.2
  refine gz_s 1 (pc' := 1) (L' := [some (.ref x), some (.int (zi a)), some (.int (zi b)), some (.int (zi v))]) (S' := [.int (zi a)]) rfl ?_
  by_cases hc1 : (a : Int) < 0
  · refine gy_ifT (pc' := 20) rfl (by decide) (by decide) (by omega) hc1 ?_
    have hl2 : 1024 ≤ h.2.2.2.1 bt ∧ h.2.2.2.1 bt ≤ 1000000 := gJ.rowl (G := gGG) hS.1 tbt rfl
    have hix3 : gIx ty x ld (h.2.2.2.1 bt : Int) iv h := ⟨pic, b0, b1, b2, dr, sk, bt, n0, c0, ⟨tx, tdr, tsk, tbt⟩, ⟨ex2, ex3, ex4, ex0⟩, hpc, htc, ⟨en0, by omega, by omega⟩, ⟨eiv, by omega, by omega⟩, ⟨ec0, by omega, by omega⟩, ⟨by omega, by omega⟩, hrr, hrw⟩
    have hrw4 : gRoB ty 59 (gVb f a b v) h := gVb.n (by omega) hyf59
    have G5 : gSg [] [] [55001, 55002, 59999] ty h ty h := gSg.ss G0 hS (by decide)
    exact gz_end (I := .new 84) (len := 3) rfl (Or.inr (by decide)) ⟨ty, G5, ld, (h.2.2.2.1 bt : Int), iv, (by omega), (by omega), (by omega), (by omega), (by omega), (by omega), hix3, hrw4, Or.inr ⟨rfl, Or.inl ⟨rfl, (by omega)⟩, (by omega), (by dsimp only; omega), (by dsimp only; omega), (by omega), (by omega)⟩⟩
  · refine gy_ifF rfl (by decide) (by decide) (by omega) hc1 ?_
    refine gz_s 2 (pc' := 7) (L' := [some (.ref x), some (.int (zi a)), some (.int (zi b)), some (.int (zi v))]) (S' := [.int (zi 32), .int (zi a)]) rfl ?_
    by_cases hc6 : (32 : Int) ≤ a
    · refine gy_icT (pc' := 20) rfl (by decide) (by decide) (by omega) (by omega) hc6 ?_
      have hl7 : 1024 ≤ h.2.2.2.1 bt ∧ h.2.2.2.1 bt ≤ 1000000 := gJ.rowl (G := gGG) hS.1 tbt rfl
      have hix8 : gIx ty x ld (h.2.2.2.1 bt : Int) iv h := ⟨pic, b0, b1, b2, dr, sk, bt, n0, c0, ⟨tx, tdr, tsk, tbt⟩, ⟨ex2, ex3, ex4, ex0⟩, hpc, htc, ⟨en0, by omega, by omega⟩, ⟨eiv, by omega, by omega⟩, ⟨ec0, by omega, by omega⟩, ⟨by omega, by omega⟩, hrr, hrw⟩
      have hrw9 : gRoB ty 59 (gVb f a b v) h := gVb.n (by omega) hyf59
      have G10 : gSg [] [] [55001, 55002, 59999] ty h ty h := gSg.ss G0 hS (by decide)
      exact gz_end (I := .new 84) (len := 3) rfl (Or.inr (by decide)) ⟨ty, G10, ld, (h.2.2.2.1 bt : Int), iv, (by omega), (by omega), (by omega), (by omega), (by omega), (by omega), hix8, hrw9, Or.inr ⟨rfl, Or.inl ⟨rfl, (by omega)⟩, (by omega), (by dsimp only; omega), (by dsimp only; omega), (by omega), (by omega)⟩⟩
    · refine gy_icF rfl (by decide) (by decide) (by omega) (by omega) hc6 ?_
      refine gz_s 1 (pc' := 11) (L' := [some (.ref x), some (.int (zi a)), some (.int (zi b)), some (.int (zi v))]) (S' := [.int (zi b)]) rfl ?_
      by_cases hc11 : (b : Int) < 0
      · refine gy_ifT (pc' := 20) rfl (by decide) (by decide) (by omega) hc11 ?_
        have hl12 : 1024 ≤ h.2.2.2.1 bt ∧ h.2.2.2.1 bt ≤ 1000000 := gJ.rowl (G := gGG) hS.1 tbt rfl
        have hix13 : gIx ty x ld (h.2.2.2.1 bt : Int) iv h := ⟨pic, b0, b1, b2, dr, sk, bt, n0, c0, ⟨tx, tdr, tsk, tbt⟩, ⟨ex2, ex3, ex4, ex0⟩, hpc, htc, ⟨en0, by omega, by omega⟩, ⟨eiv, by omega, by omega⟩, ⟨ec0, by omega, by omega⟩, ⟨by omega, by omega⟩, hrr, hrw⟩
        have hrw14 : gRoB ty 59 (gVb f a b v) h := gVb.n (by omega) hyf59
        have G15 : gSg [] [] [55001, 55002, 59999] ty h ty h := gSg.ss G0 hS (by decide)
        exact gz_end (I := .new 84) (len := 3) rfl (Or.inr (by decide)) ⟨ty, G15, ld, (h.2.2.2.1 bt : Int), iv, (by omega), (by omega), (by omega), (by omega), (by omega), (by omega), hix13, hrw14, Or.inr ⟨rfl, Or.inl ⟨rfl, (by omega)⟩, (by omega), (by dsimp only; omega), (by dsimp only; omega), (by omega), (by omega)⟩⟩
      · refine gy_ifF rfl (by decide) (by decide) (by omega) hc11 ?_
        refine gz_s 2 (pc' := 17) (L' := [some (.ref x), some (.int (zi a)), some (.int (zi b)), some (.int (zi v))]) (S' := [.int (zi 32), .int (zi b)]) rfl ?_
        by_cases hc16 : (b : Int) < 32
        · refine gy_icT (pc' := 30) rfl (by decide) (by decide) (by omega) (by omega) hc16 ?_
          refine gz_s 1 (pc' := 31) (L' := [some (.ref x), some (.int (zi a)), some (.int (zi b)), some (.int (zi v))]) (S' := [.int (zi v)]) rfl ?_
          by_cases hc17 : (v : Int) < 0
          · refine gy_ifT (pc' := 41) rfl (by decide) (by decide) (by omega) hc17 ?_
            have hl18 : 1024 ≤ h.2.2.2.1 bt ∧ h.2.2.2.1 bt ≤ 1000000 := gJ.rowl (G := gGG) hS.1 tbt rfl
            have hix19 : gIx ty x ld (h.2.2.2.1 bt : Int) iv h := ⟨pic, b0, b1, b2, dr, sk, bt, n0, c0, ⟨tx, tdr, tsk, tbt⟩, ⟨ex2, ex3, ex4, ex0⟩, hpc, htc, ⟨en0, by omega, by omega⟩, ⟨eiv, by omega, by omega⟩, ⟨ec0, by omega, by omega⟩, ⟨by omega, by omega⟩, hrr, hrw⟩
            have hrw20 : gRoB ty 59 (gVb f a b v) h := gVb.n (by omega) hyf59
            have G21 : gSg [] [] [55001, 55002, 59999] ty h ty h := gSg.ss G0 hS (by decide)
            exact gz_end (I := .new 134) (len := 3) rfl (Or.inr (by decide)) ⟨ty, G21, ld, (h.2.2.2.1 bt : Int), iv, (by omega), (by omega), (by omega), (by omega), (by omega), (by omega), hix19, hrw20, Or.inr ⟨rfl, Or.inr (⟨rfl, (by omega), (by omega), (by omega), (by omega), (by omega)⟩), (by omega), (by dsimp only; omega), (by dsimp only; omega), (by omega), (by omega)⟩⟩
          · refine gy_ifF rfl (by decide) (by decide) (by omega) hc17 ?_
            refine gz_s 2 (pc' := 38) (L' := [some (.ref x), some (.int (zi a)), some (.int (zi b)), some (.int (zi v))]) (S' := [.int (zi 255), .int (zi v)]) rfl ?_
            by_cases hc22 : (v : Int) ≤ 255
            · refine gy_icT (pc' := 51) rfl (by decide) (by decide) (by omega) (by omega) hc22 ?_
              refine gz_s 1 (pc' := 52) (L' := [some (.ref x), some (.int (zi a)), some (.int (zi b)), some (.int (zi v))]) (S' := [.ref x]) rfl ?_
              refine gs_gtk rfl (by decide) rfl hS.1 tx rfl rfl ex3 ?_
              refine gz_s 3 (pc' := 58) (L' := [some (.ref x), some (.int (zi a)), some (.int (zi b)), some (.int (zi v))]) (S' := [.int (zi v), .int (zi b), .int (zi a), .ref dr]) rfl ?_
              obtain ⟨z23, ez23, az23, bz23⟩ := gJ.int (k := 1) (G := gGG) hS.1 tdr rfl rfl rfl
              obtain ⟨z24, ez24, az24, bz24⟩ := gJ.int (k := 2) (G := gGG) hS.1 tdr rfl rfl rfl
              refine gz_call rfl (by decide) rfl (by decide) (by decide) (gcal_of rfl rfl rfl (Nat.le_of_ble_eq_true rfl) (gJ.recv (G := gGG) hS.1 tdr rfl rfl)) (cl_Draft_putPoint _ hS.1 dr tdr a ⟨by omega, by omega⟩ b ⟨by omega, by omega⟩ v ⟨by omega, by omega⟩ z23 ez23 ⟨by omega, by omega⟩ z24 ez24 ⟨by omega, by omega⟩ f uq hyf59) (fun q25 _ wq25 => ?_)
              obtain ⟨pq25, oq25, hq25⟩ := q25
              obtain ⟨xq25, zq25, fq25_0, fq25_1, gq25, aq25, bq25, efq25_0, afq25_0, bfq25_0, efq25_1, afq25_1, bfq25_1, uq25_0, uq25_1, uq25_2, yq25_0⟩ := wq25
              refine ⟨_, gq25, ?_⟩
              show gz gPP gGG gcn _ _ 61 [some (.ref x), some (.int (zi a)), some (.int (zi b)), some (.int (zi v))] [.int (zi zq25)] hq25 _
              have sq25 : gSs rT 1027 ty [55001, 55002, 59999] h hq25 := gSs.tr hS xq25 (by decide)
              have s26 := (xq25.2.2.2.2.2 x 2 (by rw [tx]; decide)).trans ex2
              have s27 := (xq25.2.2.2.2.2 x 3 (by rw [tx]; decide)).trans ex3
              have s28 := (xq25.2.2.2.2.2 x 4 (by rw [tx]; decide)).trans ex4
              have s29 := (xq25.2.2.2.2.2 sk 0 (by rw [tsk]; decide)).trans ex0
              have s30 := (xq25.2.2.2.2.2 dr 8 (by rw [tdr]; decide)).trans en0
              have s31 := (xq25.2.2.2.2.2 dr 3 (by rw [tdr]; decide)).trans eiv
              have s32 := (xq25.2.2.2.2.2 sk 1 (by rw [tsk]; decide)).trans ec0
              have pr33 := gPC.fr xq25.2 (by decide) hpc
              have pr34 := gTc.fr xq25.2 (by decide) htc
              have pr35 := gRr.fr xq25.2 (by decide) hrr
              have pr36 := gRw.fr xq25.2 (by decide) hrw
              have k37 := sq25.2.1
              have k37b := sq25.2.2.1
              have hl38 : hq25.2.2.2.1 bt = h.2.2.2.1 bt := congrFun sq25.2.2.2.2.1 bt
              have hl39 : 1024 ≤ hq25.2.2.2.1 bt ∧ hq25.2.2.2.1 bt ≤ 1000000 := gJ.rowl (G := gGG) sq25.1 tbt rfl
              have k40 := sq25.2.1
              have k40b := sq25.2.2.1
              have hl41 : hq25.2.2.2.1 bt = h.2.2.2.1 bt := congrFun sq25.2.2.2.2.1 bt
              have hix42 : gIx ty x ld (hq25.2.2.2.1 bt : Int) iv hq25 := ⟨pic, b0, b1, b2, dr, sk, bt, n0, c0, ⟨tx, tdr, tsk, tbt⟩, ⟨s26, s27, s28, s29⟩, pr33, pr34, ⟨s30, by omega, by omega⟩, ⟨s31, by omega, by omega⟩, ⟨s32, by omega, by omega⟩, ⟨by omega, by omega⟩, pr35, pr36⟩
              have hrw43 : gRoB ty 59 (gVb f a b v) hq25 := gVb.y ⟨⟨by omega, by omega, by omega, by omega⟩, by omega, by omega⟩ (by omega) yq25_0
              have G44 : gSg [] [] [55001, 55002, 59999] ty h ty hq25 := gSg.ss G0 sq25 (by decide)
              exact gz_end (I := .ireturn) (len := 1) rfl (Or.inl rfl) ⟨ty, G44, ld, (hq25.2.2.2.1 bt : Int), iv, (by omega), (by omega), (by omega), (by omega), (by omega), (by omega), hix42, hrw43, Or.inl ⟨zq25, rfl, (by omega), (by omega), (by omega), (by omega), (by omega), (by omega), (by omega), (by omega), (by omega), (by omega), (by dsimp only; omega), (by dsimp only; omega), (by omega), (by omega)⟩⟩
            · refine gy_icF rfl (by decide) (by decide) (by omega) (by omega) hc22 ?_
              have hl45 : 1024 ≤ h.2.2.2.1 bt ∧ h.2.2.2.1 bt ≤ 1000000 := gJ.rowl (G := gGG) hS.1 tbt rfl
              have hix46 : gIx ty x ld (h.2.2.2.1 bt : Int) iv h := ⟨pic, b0, b1, b2, dr, sk, bt, n0, c0, ⟨tx, tdr, tsk, tbt⟩, ⟨ex2, ex3, ex4, ex0⟩, hpc, htc, ⟨en0, by omega, by omega⟩, ⟨eiv, by omega, by omega⟩, ⟨ec0, by omega, by omega⟩, ⟨by omega, by omega⟩, hrr, hrw⟩
              have hrw47 : gRoB ty 59 (gVb f a b v) h := gVb.n (by omega) hyf59
              have G48 : gSg [] [] [55001, 55002, 59999] ty h ty h := gSg.ss G0 hS (by decide)
              exact gz_end (I := .new 134) (len := 3) rfl (Or.inr (by decide)) ⟨ty, G48, ld, (h.2.2.2.1 bt : Int), iv, (by omega), (by omega), (by omega), (by omega), (by omega), (by omega), hix46, hrw47, Or.inr ⟨rfl, Or.inr (⟨rfl, (by omega), (by omega), (by omega), (by omega), (by omega)⟩), (by omega), (by dsimp only; omega), (by dsimp only; omega), (by omega), (by omega)⟩⟩
        · refine gy_icF rfl (by decide) (by decide) (by omega) (by omega) hc16 ?_
          have hl49 : 1024 ≤ h.2.2.2.1 bt ∧ h.2.2.2.1 bt ≤ 1000000 := gJ.rowl (G := gGG) hS.1 tbt rfl
          have hix50 : gIx ty x ld (h.2.2.2.1 bt : Int) iv h := ⟨pic, b0, b1, b2, dr, sk, bt, n0, c0, ⟨tx, tdr, tsk, tbt⟩, ⟨ex2, ex3, ex4, ex0⟩, hpc, htc, ⟨en0, by omega, by omega⟩, ⟨eiv, by omega, by omega⟩, ⟨ec0, by omega, by omega⟩, ⟨by omega, by omega⟩, hrr, hrw⟩
          have hrw51 : gRoB ty 59 (gVb f a b v) h := gVb.n (by omega) hyf59
          have G52 : gSg [] [] [55001, 55002, 59999] ty h ty h := gSg.ss G0 hS (by decide)
          exact gz_end (I := .new 84) (len := 3) rfl (Or.inr (by decide)) ⟨ty, G52, ld, (h.2.2.2.1 bt : Int), iv, (by omega), (by omega), (by omega), (by omega), (by omega), (by omega), hix50, hrw51, Or.inr ⟨rfl, Or.inl ⟨rfl, (by omega)⟩, (by omega), (by dsimp only; omega), (by dsimp only; omega), (by omega), (by omega)⟩⟩
set_option maxRecDepth 20000 in
set_option maxHeartbeats 4000000 in
theorem cl_DctFilter_scan (d : Nat) {ty : Nat → Nat} {h : gH} (hJ : gJ rT 1027 ty h) (x : Nat) (tx : ty x = 50) (a : Int) (ra : (-2147483648) ≤ a ∧ a ≤ 2147483647) (b : Int) (rb : (-2147483648) ≤ b ∧ b ≤ 2147483647) (t : Int) (rt : (-2147483648) ≤ t ∧ t ≤ 2147483647) (ld : Int) (rld : 0 ≤ ld ∧ ld ≤ 192) (lb : Int) (rlb : 1024 ≤ lb ∧ lb ≤ 1000000) (iv : Int) (riv : 0 ≤ iv ∧ iv ≤ 100) (uq : gUq ty) (hyix : gIx ty x ld lb iv h) : gz gPP gGG gcn (d + 3) gt61 0 (gent [.ref x, .int (zi a), .int (zi b), .int (zi t)] 4) [] h (fun q _ => ∃ ty9 : Nat → Nat, gSg [] [] [55008, 60999, 61999, 62999, 63999, 64999] ty h ty9 q.2.2 ∧ ∃ z ld1 lb1 iv1 : Int, gfin gt61 q.1 q.2.1 = some (some (.int (zi z))) ∧ 0 ≤ z ∧ z ≤ 10 ∧ 0 ≤ ld1 ∧ ld1 ≤ 192 ∧ 1024 ≤ lb1 ∧ lb1 ≤ 1000000 ∧ 0 ≤ iv1 ∧ iv1 ≤ 100 ∧ (iv1 = iv) ∧ (1024 * (((q.2.2.1 : Int) - h.1) - 31 - 2 * (ld1 - ld)) ≤ lb1 - lb) ∧ (((q.2.2.2.1 : Int) - h.2.1) ≤ 4303 + 12480 * (ld1 - ld) + 2 * (lb1 - lb)) ∧ (ld ≤ ld1) ∧ (lb ≤ lb1) ∧ (gIx ty9 x ld1 lb1 iv1 q.2.2)) := by
  have hS : gSs rT 1027 ty [55008, 60999, 61999, 62999, 63999, 64999] h h := gSs.rf hJ
  have G0 : gSg [] [] [55008, 60999, 61999, 62999, 63999, 64999] ty h ty h := gSg.rf hJ (fun x hx => by cases hx)
  obtain ⟨pic, b0, b1, b2, dr, sk, bt, n0, c0, ⟨_, tdr, tsk, tbt⟩, ⟨ex2, ex3, ex4, ex0⟩, hpc, htc, ⟨en0, rn0⟩, ⟨eiv, riv⟩, ⟨ec0, rc0⟩, ⟨lc0, llb⟩, hrr, hrw⟩ := hyix
  have tpic := hpc.1.1
  have tb0 := hpc.1.2.1
  have tb1 := hpc.1.2.2.1
  have tb2 := hpc.1.2.2.2
  refine gz_s 1 (pc' := 1) (L' := [some (.ref x), some (.int (zi a)), some (.int (zi b)), some (.int (zi t))]) (S' := [.ref x]) rfl ?_
  refine gs_gtk rfl (by decide) rfl hS.1 tx rfl rfl ex3 ?_
  refine gz_s 3 (pc' := 7) (L' := [some (.ref x), some (.int (zi a)), some (.int (zi b)), some (.int (zi t))]) (S' := [.int (zi t), .int (zi b), .int (zi a), .ref dr]) rfl ?_
  refine gz_call rfl (by decide) rfl (by decide) (by decide) (gcal_of rfl rfl rfl (Nat.le_of_ble_eq_true rfl) (gJ.recv (G := gGG) hS.1 tdr rfl rfl)) (cl_Draft_tellScan _ hS.1 dr tdr a ⟨by omega, by omega⟩ b ⟨by omega, by omega⟩ t ⟨by omega, by omega⟩ n0 en0 ⟨by omega, by omega⟩ uq htc) (fun q1 _ wq1 => ?_)
  obtain ⟨pq1, oq1, hq1⟩ := q1
  obtain ⟨xq1, zq1, fq1_0, gq1, aq1, bq1, efq1_0, afq1_0, bfq1_0, yq1_0⟩ := wq1
  refine ⟨_, gq1, ?_⟩
  show gz gPP gGG gcn _ _ 10 [some (.ref x), some (.int (zi a)), some (.int (zi b)), some (.int (zi t))] [.int (zi zq1)] hq1 _
  have sq1 : gSs rT 1027 ty [55008, 60999, 61999, 62999, 63999, 64999] h hq1 := gSs.tr hS xq1 (by decide)
  have s2 := (xq1.2.2.2.2.2 x 2 (by rw [tx]; decide)).trans ex2
  have s3 := (xq1.2.2.2.2.2 x 3 (by rw [tx]; decide)).trans ex3
  have s4 := (xq1.2.2.2.2.2 x 4 (by rw [tx]; decide)).trans ex4
  have s5 := (xq1.2.2.2.2.2 sk 0 (by rw [tsk]; decide)).trans ex0
  have s6 := (xq1.2.2.2.2.2 dr 3 (by rw [tdr]; decide)).trans eiv
  have s7 := (xq1.2.2.2.2.2 sk 1 (by rw [tsk]; decide)).trans ec0
  have pr8 := gPC.fr xq1.2 (by decide) hpc
  have pr9 := gRr.fr xq1.2 (by decide) hrr
  have pr10 := gRw.fr xq1.2 (by decide) hrw
  have k11 := sq1.2.1
  have k11b := sq1.2.2.1
  have hl12 : hq1.2.2.2.1 bt = h.2.2.2.1 bt := congrFun sq1.2.2.2.2.1 bt
  have hl13 : 1024 ≤ hq1.2.2.2.1 bt ∧ hq1.2.2.2.1 bt ≤ 1000000 := gJ.rowl (G := gGG) sq1.1 tbt rfl
  have k14 := sq1.2.1
  have k14b := sq1.2.2.1
  have hl15 : hq1.2.2.2.1 bt = h.2.2.2.1 bt := congrFun sq1.2.2.2.2.1 bt
  have hix16 : gIx ty x ld (hq1.2.2.2.1 bt : Int) iv hq1 := ⟨pic, b0, b1, b2, dr, sk, bt, fq1_0, c0, ⟨tx, tdr, tsk, tbt⟩, ⟨s2, s3, s4, s5⟩, pr8, yq1_0, ⟨efq1_0, by omega, by omega⟩, ⟨s6, by omega, by omega⟩, ⟨s7, by omega, by omega⟩, ⟨by omega, by omega⟩, pr9, pr10⟩
  have G17 : gSg [] [] [55008, 60999, 61999, 62999, 63999, 64999] ty h ty hq1 := gSg.ss G0 sq1 (by decide)
  exact gz_end (I := .ireturn) (len := 1) rfl (Or.inl rfl) ⟨ty, G17, zq1, ld, (hq1.2.2.2.1 bt : Int), iv, rfl, (by omega), (by omega), (by omega), (by omega), (by omega), (by omega), (by omega), (by omega), (by omega), (by dsimp only; omega), (by dsimp only; omega), (by omega), (by omega), hix16⟩
set_option maxRecDepth 20000 in
set_option maxHeartbeats 4000000 in
theorem cl_DctFilter_restart (d : Nat) {ty : Nat → Nat} {h : gH} (hJ : gJ rT 1027 ty h) (x : Nat) (tx : ty x = 50) (n : Int) (rn : (-2147483648) ≤ n ∧ n ≤ 2147483647) (ld : Int) (rld : 0 ≤ ld ∧ ld ≤ 192) (lb : Int) (rlb : 1024 ≤ lb ∧ lb ≤ 1000000) (iv : Int) (riv : 0 ≤ iv ∧ iv ≤ 100) (uq : gUq ty) (hyix : gIx ty x ld lb iv h) : gz gPP gGG gcn (d + 0) gt88 0 (gent [.ref x, .int (zi n)] 3) [] h (fun q _ => ∃ ty9 : Nat → Nat, gSg [] [] [55003] ty h ty9 q.2.2 ∧ ∃ ld1 lb1 iv1 : Int, 0 ≤ ld1 ∧ ld1 ≤ 192 ∧ 1024 ≤ lb1 ∧ lb1 ≤ 1000000 ∧ 0 ≤ iv1 ∧ iv1 ≤ 100 ∧ (gIx ty9 x ld1 lb1 iv1 q.2.2) ∧ ((∃ z : Int, gfin gt88 q.1 q.2.1 = some (some (.int (zi z))) ∧ 0 ≤ z ∧ z ≤ 100 ∧ (z = iv) ∧ (iv1 = n) ∧ (0 ≤ n) ∧ (n ≤ 100) ∧ (1024 * (((q.2.2.1 : Int) - h.1) - 31 - 2 * (ld1 - ld)) ≤ lb1 - lb) ∧ (((q.2.2.2.1 : Int) - h.2.1) ≤ 4303 + 12480 * (ld1 - ld) + 2 * (lb1 - lb)) ∧ (ld ≤ ld1) ∧ (lb ≤ lb1)) ∨ (q.2.1 = [] ∧ ((q.1 = 10 ∧ (¬ (0 ≤ n ∧ n ≤ 100)))) ∧ (iv1 = iv) ∧ (1024 * (((q.2.2.1 : Int) - h.1) - 31 - 2 * (ld1 - ld)) ≤ lb1 - lb) ∧ (((q.2.2.2.1 : Int) - h.2.1) ≤ 4303 + 12480 * (ld1 - ld) + 2 * (lb1 - lb)) ∧ (ld ≤ ld1) ∧ (lb ≤ lb1)))) := by
  have hS : gSs rT 1027 ty [55003] h h := gSs.rf hJ
  have G0 : gSg [] [] [55003] ty h ty h := gSg.rf hJ (fun x hx => by cases hx)
  obtain ⟨pic, b0, b1, b2, dr, sk, bt, n0, c0, ⟨_, tdr, tsk, tbt⟩, ⟨ex2, ex3, ex4, ex0⟩, hpc, htc, ⟨en0, rn0⟩, ⟨eiv, riv⟩, ⟨ec0, rc0⟩, ⟨lc0, llb⟩, hrr, hrw⟩ := hyix
  have tpic := hpc.1.1
  have tb0 := hpc.1.2.1
  have tb1 := hpc.1.2.2.1
  have tb2 := hpc.1.2.2.2
  refine gz_s 1 (pc' := 1) (L' := [some (.ref x), some (.int (zi n)), none]) (S' := [.int (zi n)]) rfl ?_
  by_cases hc1 : (n : Int) < 0
  · refine gy_ifT (pc' := 10) rfl (by decide) (by decide) (by omega) hc1 ?_
    have hl2 : 1024 ≤ h.2.2.2.1 bt ∧ h.2.2.2.1 bt ≤ 1000000 := gJ.rowl (G := gGG) hS.1 tbt rfl
    have hix3 : gIx ty x ld (h.2.2.2.1 bt : Int) iv h := ⟨pic, b0, b1, b2, dr, sk, bt, n0, c0, ⟨tx, tdr, tsk, tbt⟩, ⟨ex2, ex3, ex4, ex0⟩, hpc, htc, ⟨en0, by omega, by omega⟩, ⟨eiv, by omega, by omega⟩, ⟨ec0, by omega, by omega⟩, ⟨by omega, by omega⟩, hrr, hrw⟩
    have G4 : gSg [] [] [55003] ty h ty h := gSg.ss G0 hS (by decide)
    exact gz_end (I := .new 134) (len := 3) rfl (Or.inr (by decide)) ⟨ty, G4, ld, (h.2.2.2.1 bt : Int), iv, (by omega), (by omega), (by omega), (by omega), (by omega), (by omega), hix3, Or.inr ⟨rfl, ⟨rfl, (by omega)⟩, (by omega), (by dsimp only; omega), (by dsimp only; omega), (by omega), (by omega)⟩⟩
  · refine gy_ifF rfl (by decide) (by decide) (by omega) hc1 ?_
    refine gz_s 2 (pc' := 7) (L' := [some (.ref x), some (.int (zi n)), none]) (S' := [.int (zi 100), .int (zi n)]) rfl ?_
    by_cases hc5 : (n : Int) ≤ 100
    · refine gy_icT (pc' := 20) rfl (by decide) (by decide) (by omega) (by omega) hc5 ?_
      refine gz_s 1 (pc' := 21) (L' := [some (.ref x), some (.int (zi n)), none]) (S' := [.ref x]) rfl ?_
      refine gs_gtk rfl (by decide) rfl hS.1 tx rfl rfl ex3 ?_
      refine gs_gtk rfl (by decide) rfl hS.1 tdr rfl rfl eiv ?_
      refine gz_s 2 (pc' := 29) (L' := [some (.ref x), some (.int (zi n)), some (.int (zi iv))]) (S' := [.ref x]) rfl ?_
      refine gs_gtk rfl (by decide) rfl hS.1 tx rfl rfl ex3 ?_
      refine gz_s 1 (pc' := 33) (L' := [some (.ref x), some (.int (zi n)), some (.int (zi iv))]) (S' := [.int (zi n), .ref dr]) rfl ?_
      refine gs_put rfl (by decide) rfl hS tdr rfl rfl rfl rfl (Or.inl rfl) (by decide) (by omega) (by omega) (fun h6 sh6 eh6 fh6 => ?_)
      have pr7 := gPC.pk fh6 (sh6.2.2.2.2.1.trans hS.2.2.2.2.1.symm) tdr (by decide) hpc
      have pr8 := gTc.pt fh6 tdr (by decide) htc
      have pr9 := gRr.pk fh6 (sh6.2.2.2.2.1.trans hS.2.2.2.2.1.symm) tdr (by decide) hrr
      have pr10 := gRw.pk fh6 (sh6.2.2.2.2.1.trans hS.2.2.2.2.1.symm) tdr (by decide) hrw
      have s11 := (fh6 x 2 (fun q => absurd q.2 (by decide))).trans ex2
      have s12 := (fh6 x 3 (fun q => absurd (((tx).symm.trans (congrArg ty q.1)).trans tdr) (by decide))).trans ex3
      have s13 := (fh6 x 4 (fun q => absurd q.2 (by decide))).trans ex4
      have s14 := (fh6 sk 0 (fun q => absurd q.2 (by decide))).trans ex0
      have s15 := (fh6 dr 8 (fun q => absurd q.2 (by decide))).trans en0
      have s16 := (fh6 sk 1 (fun q => absurd q.2 (by decide))).trans ec0
      refine gz_s 1 (pc' := 37) (L' := [some (.ref x), some (.int (zi n)), some (.int (zi iv))]) (S' := [.int (zi iv)]) rfl ?_
      have k17 := sh6.2.1
      have k17b := sh6.2.2.1
      have hl18 : h6.2.2.2.1 bt = h.2.2.2.1 bt := congrFun sh6.2.2.2.2.1 bt
      have hl19 : 1024 ≤ h6.2.2.2.1 bt ∧ h6.2.2.2.1 bt ≤ 1000000 := gJ.rowl (G := gGG) sh6.1 tbt rfl
      have k20 := sh6.2.1
      have k20b := sh6.2.2.1
      have hl21 : h6.2.2.2.1 bt = h.2.2.2.1 bt := congrFun sh6.2.2.2.2.1 bt
      have hix22 : gIx ty x ld (h6.2.2.2.1 bt : Int) n h6 := ⟨pic, b0, b1, b2, dr, sk, bt, n0, c0, ⟨tx, tdr, tsk, tbt⟩, ⟨s11, s12, s13, s14⟩, pr7, pr8, ⟨s15, by omega, by omega⟩, ⟨eh6, by omega, by omega⟩, ⟨s16, by omega, by omega⟩, ⟨by omega, by omega⟩, pr9, pr10⟩
      have G23 : gSg [] [] [55003] ty h ty h6 := gSg.ss G0 sh6 (by decide)
      exact gz_end (I := .ireturn) (len := 1) rfl (Or.inl rfl) ⟨ty, G23, ld, (h6.2.2.2.1 bt : Int), n, (by omega), (by omega), (by omega), (by omega), (by omega), (by omega), hix22, Or.inl ⟨iv, rfl, (by omega), (by omega), (by omega), (by omega), (by omega), (by omega), (by dsimp only; omega), (by dsimp only; omega), (by omega), (by omega)⟩⟩
    · refine gy_icF rfl (by decide) (by decide) (by omega) (by omega) hc5 ?_
      have hl24 : 1024 ≤ h.2.2.2.1 bt ∧ h.2.2.2.1 bt ≤ 1000000 := gJ.rowl (G := gGG) hS.1 tbt rfl
      have hix25 : gIx ty x ld (h.2.2.2.1 bt : Int) iv h := ⟨pic, b0, b1, b2, dr, sk, bt, n0, c0, ⟨tx, tdr, tsk, tbt⟩, ⟨ex2, ex3, ex4, ex0⟩, hpc, htc, ⟨en0, by omega, by omega⟩, ⟨eiv, by omega, by omega⟩, ⟨ec0, by omega, by omega⟩, ⟨by omega, by omega⟩, hrr, hrw⟩
      have G26 : gSg [] [] [55003] ty h ty h := gSg.ss G0 hS (by decide)
      exact gz_end (I := .new 134) (len := 3) rfl (Or.inr (by decide)) ⟨ty, G26, ld, (h.2.2.2.1 bt : Int), iv, (by omega), (by omega), (by omega), (by omega), (by omega), (by omega), hix25, Or.inr ⟨rfl, ⟨rfl, (by omega)⟩, (by omega), (by dsimp only; omega), (by dsimp only; omega), (by omega), (by omega)⟩⟩
set_option maxRecDepth 20000 in
set_option maxHeartbeats 4000000 in
theorem cl_DctFilter_octet (d : Nat) {ty : Nat → Nat} {h : gH} (hJ : gJ rT 1027 ty h) (x : Nat) (tx : ty x = 50) (i : Int) (ri : (-2147483648) ≤ i ∧ i ≤ 2147483647) (ld : Int) (rld : 0 ≤ ld ∧ ld ≤ 192) (lb : Int) (rlb : 1024 ≤ lb ∧ lb ≤ 1000000) (iv : Int) (riv : 0 ≤ iv ∧ iv ≤ 100) (uq : gUq ty) (hyix : gIx ty x ld lb iv h) : gz gPP gGG gcn (d + 0) gt129 0 (gent [.ref x, .int (zi i)] 2) [] h (fun q _ => ∃ ty9 : Nat → Nat, gSg [] [] [] ty h ty9 q.2.2 ∧ ∃ ld1 lb1 iv1 : Int, 0 ≤ ld1 ∧ ld1 ≤ 192 ∧ 1024 ≤ lb1 ∧ lb1 ≤ 1000000 ∧ 0 ≤ iv1 ∧ iv1 ≤ 100 ∧ (gIx ty9 x ld1 lb1 iv1 q.2.2) ∧ ((∃ z : Int, gfin gt129 q.1 q.2.1 = some (some (.int (zi z))) ∧ (-128) ≤ z ∧ z ≤ 127 ∧ (iv1 = iv) ∧ (1024 * (((q.2.2.1 : Int) - h.1) - 31 - 2 * (ld1 - ld)) ≤ lb1 - lb) ∧ (((q.2.2.2.1 : Int) - h.2.1) ≤ 4303 + 12480 * (ld1 - ld) + 2 * (lb1 - lb)) ∧ (ld ≤ ld1) ∧ (lb ≤ lb1)) ∨ (q.2.1 = [] ∧ ((q.1 = 15)) ∧ (iv1 = iv) ∧ (1024 * (((q.2.2.1 : Int) - h.1) - 31 - 2 * (ld1 - ld)) ≤ lb1 - lb) ∧ (((q.2.2.2.1 : Int) - h.2.1) ≤ 4303 + 12480 * (ld1 - ld) + 2 * (lb1 - lb)) ∧ (ld ≤ ld1) ∧ (lb ≤ lb1)))) := by
  have hS : gSs rT 1027 ty [] h h := gSs.rf hJ
  have G0 : gSg [] [] [] ty h ty h := gSg.rf hJ (fun x hx => by cases hx)
  obtain ⟨pic, b0, b1, b2, dr, sk, bt, n0, c0, ⟨_, tdr, tsk, tbt⟩, ⟨ex2, ex3, ex4, ex0⟩, hpc, htc, ⟨en0, rn0⟩, ⟨eiv, riv⟩, ⟨ec0, rc0⟩, ⟨lc0, llb⟩, hrr, hrw⟩ := hyix
  have tpic := hpc.1.1
  have tb0 := hpc.1.2.1
  have tb1 := hpc.1.2.2.1
  have tb2 := hpc.1.2.2.2
  refine gz_s 1 (pc' := 1) (L' := [some (.ref x), some (.int (zi i))]) (S' := [.int (zi i)]) rfl ?_
  by_cases hc1 : (i : Int) < 0
  · refine gy_ifT (pc' := 15) rfl (by decide) (by decide) (by omega) hc1 ?_
    have hl2 : 1024 ≤ h.2.2.2.1 bt ∧ h.2.2.2.1 bt ≤ 1000000 := gJ.rowl (G := gGG) hS.1 tbt rfl
    have hix3 : gIx ty x ld (h.2.2.2.1 bt : Int) iv h := ⟨pic, b0, b1, b2, dr, sk, bt, n0, c0, ⟨tx, tdr, tsk, tbt⟩, ⟨ex2, ex3, ex4, ex0⟩, hpc, htc, ⟨en0, by omega, by omega⟩, ⟨eiv, by omega, by omega⟩, ⟨ec0, by omega, by omega⟩, ⟨by omega, by omega⟩, hrr, hrw⟩
    have G4 : gSg [] [] [] ty h ty h := gSg.ss G0 hS (by decide)
    exact gz_end (I := .new 108) (len := 3) rfl (Or.inr (by decide)) ⟨ty, G4, ld, (h.2.2.2.1 bt : Int), iv, (by omega), (by omega), (by omega), (by omega), (by omega), (by omega), hix3, Or.inr ⟨rfl, rfl, (by omega), (by dsimp only; omega), (by dsimp only; omega), (by omega), (by omega)⟩⟩
  · refine gy_ifF rfl (by decide) (by decide) (by omega) hc1 ?_
    refine gz_s 2 (pc' := 6) (L' := [some (.ref x), some (.int (zi i))]) (S' := [.ref x, .int (zi i)]) rfl ?_
    refine gs_gtk rfl (by decide) rfl hS.1 tx rfl rfl ex4 ?_
    refine gs_gtk rfl (by decide) rfl hS.1 tsk rfl rfl ec0 ?_
    by_cases hc5 : (i : Int) < c0
    · refine gy_icT (pc' := 25) rfl (by decide) (by decide) (by omega) (by omega) hc5 ?_
      refine gz_s 1 (pc' := 26) (L' := [some (.ref x), some (.int (zi i))]) (S' := [.ref x]) rfl ?_
      refine gs_gtk rfl (by decide) rfl hS.1 tx rfl rfl ex4 ?_
      refine gs_gtk rfl (by decide) rfl hS.1 tsk rfl rfl ex0 ?_
      refine gz_s 1 (pc' := 33) (L' := [some (.ref x), some (.int (zi i))]) (S' := [.int (zi i), .ref bt]) rfl ?_
      have hl6 : 1024 ≤ h.2.2.2.1 bt ∧ h.2.2.2.1 bt ≤ 1000000 := gJ.rowl (G := gGG) hS.1 tbt rfl
      have hl7 : h.2.2.2.1 bt = h.2.2.2.1 bt := congrFun hS.2.2.2.2.1 bt
      refine gs_bald rfl (by decide) hS.1 tbt rfl rfl (Or.inl rfl) (by decide) (fun _ => rfl) (by omega) (by omega) (fun z8 ez8 az8 bz8 => ?_)
      have hl9 : 1024 ≤ h.2.2.2.1 bt ∧ h.2.2.2.1 bt ≤ 1000000 := gJ.rowl (G := gGG) hS.1 tbt rfl
      have hix10 : gIx ty x ld (h.2.2.2.1 bt : Int) iv h := ⟨pic, b0, b1, b2, dr, sk, bt, n0, c0, ⟨tx, tdr, tsk, tbt⟩, ⟨ex2, ex3, ex4, ex0⟩, hpc, htc, ⟨en0, by omega, by omega⟩, ⟨eiv, by omega, by omega⟩, ⟨ec0, by omega, by omega⟩, ⟨by omega, by omega⟩, hrr, hrw⟩
      have G11 : gSg [] [] [] ty h ty h := gSg.ss G0 hS (by decide)
      exact gz_end (I := .ireturn) (len := 1) rfl (Or.inl rfl) ⟨ty, G11, ld, (h.2.2.2.1 bt : Int), iv, (by omega), (by omega), (by omega), (by omega), (by omega), (by omega), hix10, Or.inl ⟨z8, (gfin_b rfl rfl (zi_in8 (by omega) (by omega))), (by omega), (by omega), (by omega), (by dsimp only; omega), (by dsimp only; omega), (by omega), (by omega)⟩⟩
    · refine gy_icF rfl (by decide) (by decide) (by omega) (by omega) hc5 ?_
      have hl12 : 1024 ≤ h.2.2.2.1 bt ∧ h.2.2.2.1 bt ≤ 1000000 := gJ.rowl (G := gGG) hS.1 tbt rfl
      have hix13 : gIx ty x ld (h.2.2.2.1 bt : Int) iv h := ⟨pic, b0, b1, b2, dr, sk, bt, n0, c0, ⟨tx, tdr, tsk, tbt⟩, ⟨ex2, ex3, ex4, ex0⟩, hpc, htc, ⟨en0, by omega, by omega⟩, ⟨eiv, by omega, by omega⟩, ⟨ec0, by omega, by omega⟩, ⟨by omega, by omega⟩, hrr, hrw⟩
      have G14 : gSg [] [] [] ty h ty h := gSg.ss G0 hS (by decide)
      exact gz_end (I := .new 108) (len := 3) rfl (Or.inr (by decide)) ⟨ty, G14, ld, (h.2.2.2.1 bt : Int), iv, (by omega), (by omega), (by omega), (by omega), (by omega), (by omega), hix13, Or.inr ⟨rfl, rfl, (by omega), (by dsimp only; omega), (by dsimp only; omega), (by omega), (by omega)⟩⟩
set_option maxRecDepth 20000 in
set_option maxHeartbeats 4000000 in
theorem cl_DctFilter_take (d : Nat) {ty : Nat → Nat} {h : gH} (hJ : gJ rT 1027 ty h) (x : Nat) (tx : ty x = 50) (ld : Int) (rld : 0 ≤ ld ∧ ld ≤ 192) (lb : Int) (rlb : 1024 ≤ lb ∧ lb ≤ 1000000) (iv : Int) (riv : 0 ≤ iv ∧ iv ≤ 100) (uq : gUq ty) (hyix : gIx ty x ld lb iv h) : gz gPP gGG gcn (d + 1) gt67 0 (gent [.ref x] 2) [] h (fun q _ => ∃ ty9 : Nat → Nat, gSg [] [] [51001, 52999] ty h ty9 q.2.2 ∧ ∃ z ld1 lb1 iv1 : Int, gfin gt67 q.1 q.2.1 = some (some (.int (zi z))) ∧ 0 ≤ z ∧ z ≤ 2000 ∧ 0 ≤ ld1 ∧ ld1 ≤ 192 ∧ 1024 ≤ lb1 ∧ lb1 ≤ 1000000 ∧ 0 ≤ iv1 ∧ iv1 ≤ 100 ∧ (iv1 = iv) ∧ (1024 * (((q.2.2.1 : Int) - h.1) - 31 - 2 * (ld1 - ld)) ≤ lb1 - lb) ∧ (((q.2.2.2.1 : Int) - h.2.1) ≤ 4303 + 12480 * (ld1 - ld) + 2 * (lb1 - lb)) ∧ (ld ≤ ld1) ∧ (lb ≤ lb1) ∧ (gIx ty9 x ld1 lb1 iv1 q.2.2)) := by
  have hS : gSs rT 1027 ty [51001, 52999] h h := gSs.rf hJ
  have G0 : gSg [] [] [51001, 52999] ty h ty h := gSg.rf hJ (fun x hx => by cases hx)
  obtain ⟨pic, b0, b1, b2, dr, sk, bt, n0, c0, ⟨_, tdr, tsk, tbt⟩, ⟨ex2, ex3, ex4, ex0⟩, hpc, htc, ⟨en0, rn0⟩, ⟨eiv, riv⟩, ⟨ec0, rc0⟩, ⟨lc0, llb⟩, hrr, hrw⟩ := hyix
  have tpic := hpc.1.1
  have tb0 := hpc.1.2.1
  have tb1 := hpc.1.2.2.1
  have tb2 := hpc.1.2.2.2
  refine gz_s 1 (pc' := 1) (L' := [some (.ref x), none]) (S' := [.ref x]) rfl ?_
  refine gs_gtk rfl (by decide) rfl hS.1 tx rfl rfl ex4 ?_
  refine gs_gtk rfl (by decide) rfl hS.1 tsk rfl rfl ec0 ?_
  refine gz_s 1 (pc' := 10) (L' := [some (.ref x), none]) (S' := [.int (zi 2000), .int (zi c0)]) rfl ?_
  refine gz_call rfl (by decide) rfl (by decide) (by decide) (gcal_of rfl rfl rfl (Nat.le_of_ble_eq_true rfl) rfl) (cl_Math_min _ hS.1 c0 ⟨by omega, by omega⟩ 2000 ⟨by omega, by omega⟩ ) (fun q1 _ wq1 => ?_)
  obtain ⟨pq1, oq1, hq1⟩ := q1
  obtain ⟨xq1, zq1, gq1, aq1, bq1, uq1_0, uq1_1, uq1_2⟩ := wq1
  refine ⟨_, gq1, ?_⟩
  show gz gPP gGG gcn _ _ 13 [some (.ref x), none] [.int (zi zq1)] hq1 _
  have sq1 : gSs rT 1027 ty [51001, 52999] h hq1 := gSs.tr hS xq1 (by decide)
  have s2 := (xq1.2.2.2.2.2 x 2 (by rw [tx]; decide)).trans ex2
  have s3 := (xq1.2.2.2.2.2 x 3 (by rw [tx]; decide)).trans ex3
  have s4 := (xq1.2.2.2.2.2 x 4 (by rw [tx]; decide)).trans ex4
  have s5 := (xq1.2.2.2.2.2 sk 0 (by rw [tsk]; decide)).trans ex0
  have s6 := (xq1.2.2.2.2.2 dr 8 (by rw [tdr]; decide)).trans en0
  have s7 := (xq1.2.2.2.2.2 dr 3 (by rw [tdr]; decide)).trans eiv
  have s8 := (xq1.2.2.2.2.2 sk 1 (by rw [tsk]; decide)).trans ec0
  have pr9 := gPC.fr xq1.2 (by decide) hpc
  have pr10 := gTc.fr xq1.2 (by decide) htc
  have pr11 := gRr.fr xq1.2 (by decide) hrr
  have pr12 := gRw.fr xq1.2 (by decide) hrw
  refine gz_s 2 (pc' := 15) (L' := [some (.ref x), some (.int (zi zq1))]) (S' := [.ref x]) rfl ?_
  refine gs_gtk rfl (by decide) rfl sq1.1 tx rfl rfl s4 ?_
  refine gs_gtk rfl (by decide) rfl sq1.1 tsk rfl rfl s5 ?_
  refine gz_s 2 (pc' := 23) (L' := [some (.ref x), some (.int (zi zq1))]) (S' := [.ref x, .int (zi 0), .ref bt]) rfl ?_
  refine gs_gtr rfl (by decide) rfl sq1.1 tx rfl rfl rfl (fun c13 ec13 tc13 => ?_)
  refine gs_gtr rfl (by decide) rfl sq1.1 tc13 rfl rfl rfl (fun c14 ec14 tc14 => ?_)
  refine gz_s 2 (pc' := 31) (L' := [some (.ref x), some (.int (zi zq1))]) (S' := [.int (zi zq1), .int (zi 0), .ref c14, .int (zi 0), .ref bt]) rfl ?_
  have k16 := sq1.2.1
  have k16b := sq1.2.2.1
  have hl17 : hq1.2.2.2.1 bt = h.2.2.2.1 bt := congrFun sq1.2.2.2.2.1 bt
  have hl18 : 2000 ≤ hq1.2.2.2.1 c14 ∧ hq1.2.2.2.1 c14 ≤ 2000 := gJ.rowl (G := gGG) sq1.1 tc14 rfl
  have hl19 : 1024 ≤ hq1.2.2.2.1 bt ∧ hq1.2.2.2.1 bt ≤ 1000000 := gJ.rowl (G := gGG) sq1.1 tbt rfl
  refine gs_copy rfl (by decide) (by omega) rfl sq1 tc14 rfl rfl tbt rfl rfl (Or.inr ⟨rfl, rfl⟩) (by decide) (by decide) (fun _ => rfl) (fun _ => rfl) (by decide) (by decide) (by omega) (by omega) (by omega) (by omega) (by omega) (by decide) (fun _ => (by decide : (52999 : Nat) ∈ ([51001, 52999] : List Nat))) (fun h15 sh15 f9h15 => ?_)
  have fh15 : ∀ b j, ¬ (b = c14 ∧ True) → h15.2.2.2.2 b j = hq1.2.2.2.2 b j := fun b j hn => f9h15 b j (fun e => hn ⟨e, trivial⟩)
  have pr20 := gPC.pa fh15 (sh15.2.2.2.2.1.trans sq1.2.2.2.2.1.symm) tc14 (fun _ => (by decide : ¬ (52999 : Nat) ∈ gPCp)) pr9
  have pr21 := gTc.pa fh15 tc14 (by decide) pr10
  have pr22 := gRr.pa fh15 (sh15.2.2.2.2.1.trans sq1.2.2.2.2.1.symm) tc14 (fun _ => (by decide : ¬ (52999 : Nat) ∈ gRrp)) pr11
  have pr23 := gRw.pa fh15 (sh15.2.2.2.2.1.trans sq1.2.2.2.2.1.symm) tc14 (fun _ => (by decide : ¬ (52999 : Nat) ∈ gRwp)) pr12
  have s24 := (fh15 x 2 (fun q => absurd (((tx).symm.trans (congrArg ty q.1)).trans tc14) (by decide))).trans s2
  have s25 := (fh15 x 3 (fun q => absurd (((tx).symm.trans (congrArg ty q.1)).trans tc14) (by decide))).trans s3
  have s26 := (fh15 x 4 (fun q => absurd (((tx).symm.trans (congrArg ty q.1)).trans tc14) (by decide))).trans s4
  have s27 := (fh15 sk 0 (fun q => absurd (((tsk).symm.trans (congrArg ty q.1)).trans tc14) (by decide))).trans s5
  have s28 := (fh15 dr 8 (fun q => absurd (((tdr).symm.trans (congrArg ty q.1)).trans tc14) (by decide))).trans s6
  have s29 := (fh15 dr 3 (fun q => absurd (((tdr).symm.trans (congrArg ty q.1)).trans tc14) (by decide))).trans s7
  have s30 := (fh15 sk 1 (fun q => absurd (((tsk).symm.trans (congrArg ty q.1)).trans tc14) (by decide))).trans s8
  have s31 := (fh15 x 0 (fun q => absurd (((tx).symm.trans (congrArg ty q.1)).trans tc14) (by decide))).trans ec13
  have s32 := (fh15 c13 0 (fun q => absurd (((tc13).symm.trans (congrArg ty q.1)).trans tc14) (by decide))).trans ec14
  refine gz_s 1 (pc' := 35) (L' := [some (.ref x), some (.int (zi zq1))]) (S' := [.ref x]) rfl ?_
  refine gs_gtk rfl (by decide) rfl sh15.1 tx rfl rfl s31 ?_
  refine gz_s 1 (pc' := 39) (L' := [some (.ref x), some (.int (zi zq1))]) (S' := [.int (zi zq1), .ref c13]) rfl ?_
  refine gs_put rfl (by decide) rfl sh15 tc13 rfl rfl rfl rfl (Or.inl rfl) (by decide) (by omega) (by omega) (fun h33 sh33 eh33 fh33 => ?_)
  have pr34 := gPC.pk fh33 (sh33.2.2.2.2.1.trans sh15.2.2.2.2.1.symm) tc13 (by decide) pr20
  have pr35 := gTc.pt fh33 tc13 (by decide) pr21
  have pr36 := gRr.pk fh33 (sh33.2.2.2.2.1.trans sh15.2.2.2.2.1.symm) tc13 (by decide) pr22
  have pr37 := gRw.pk fh33 (sh33.2.2.2.2.1.trans sh15.2.2.2.2.1.symm) tc13 (by decide) pr23
  have s38 := (fh33 x 2 (fun q => absurd q.2 (by decide))).trans s24
  have s39 := (fh33 x 3 (fun q => absurd q.2 (by decide))).trans s25
  have s40 := (fh33 x 4 (fun q => absurd q.2 (by decide))).trans s26
  have s41 := (fh33 sk 0 (fun q => absurd q.2 (by decide))).trans s27
  have s42 := (fh33 dr 8 (fun q => absurd q.2 (by decide))).trans s28
  have s43 := (fh33 dr 3 (fun q => absurd q.2 (by decide))).trans s29
  have s44 := (fh33 sk 1 (fun q => absurd (((tsk).symm.trans (congrArg ty q.1)).trans tc13) (by decide))).trans s30
  have s45 := (fh33 x 0 (fun q => absurd q.2 (by decide))).trans s31
  have s46 := (fh33 c13 0 (fun q => absurd q.2 (by decide))).trans s32
  refine gz_s 1 (pc' := 43) (L' := [some (.ref x), some (.int (zi zq1))]) (S' := [.int (zi zq1)]) rfl ?_
  have k47 := sh33.2.1
  have k47b := sh33.2.2.1
  have hl48 : h33.2.2.2.1 bt = h.2.2.2.1 bt := congrFun sh33.2.2.2.2.1 bt
  have hl49 : 1024 ≤ h33.2.2.2.1 bt ∧ h33.2.2.2.1 bt ≤ 1000000 := gJ.rowl (G := gGG) sh33.1 tbt rfl
  have k50 := sh33.2.1
  have k50b := sh33.2.2.1
  have hl51 : h33.2.2.2.1 bt = h.2.2.2.1 bt := congrFun sh33.2.2.2.2.1 bt
  have hix52 : gIx ty x ld (h33.2.2.2.1 bt : Int) iv h33 := ⟨pic, b0, b1, b2, dr, sk, bt, n0, c0, ⟨tx, tdr, tsk, tbt⟩, ⟨s38, s39, s40, s41⟩, pr34, pr35, ⟨s42, by omega, by omega⟩, ⟨s43, by omega, by omega⟩, ⟨s44, by omega, by omega⟩, ⟨by omega, by omega⟩, pr36, pr37⟩
  have G53 : gSg [] [] [51001, 52999] ty h ty h33 := gSg.ss G0 sh33 (by decide)
  exact gz_end (I := .ireturn) (len := 1) rfl (Or.inl rfl) ⟨ty, G53, zq1, ld, (h33.2.2.2.1 bt : Int), iv, rfl, (by omega), (by omega), (by omega), (by omega), (by omega), (by omega), (by omega), (by omega), (by omega), (by dsimp only; omega), (by dsimp only; omega), (by omega), (by omega), hix52⟩
set_option maxRecDepth 20000 in
set_option maxHeartbeats 4000000 in
theorem cl_DctFilter_read (d : Nat) {ty : Nat → Nat} {h : gH} (hJ : gJ rT 1027 ty h) (x : Nat) (tx : ty x = 50) (ld : Int) (rld : 0 ≤ ld ∧ ld ≤ 192) (lb : Int) (rlb : 1024 ≤ lb ∧ lb ≤ 1000000) (iv : Int) (riv : 0 ≤ iv ∧ iv ≤ 100) (uq : gUq ty) (hyix : gIx ty x ld lb iv h) : gz gPP gGG gcn (d + 8) gt7 0 (gent [.ref x] 2) [] h (fun q _ => ∃ ty9 : Nat → Nat, gSg [65, 66, 67, 68, 69, 70, 101, 102, 103, 112, 113, 200] [] [50005, 51001, 54002, 54003, 54004, 54005, 54006, 54007, 54008, 54009, 54010, 54011, 54012, 54013, 58999, 65003, 66001, 66002, 66003, 66004, 66005, 66010, 66011, 66012, 66013, 66014, 67001, 67002, 67003, 69999, 70999, 82000, 82001, 82002, 82003, 82004, 82005, 82006, 82007, 82008, 82009, 82010, 82011, 83000, 83001, 83002, 83003, 83004, 83005, 83006, 83007, 83008, 83009, 83010, 83011, 84000, 84001, 84002, 84003, 84004, 84005, 84006, 84007, 84008, 84009, 84010, 84011, 102999, 103999, 112999, 113999] ty h ty9 q.2.2 ∧ ∃ z ld1 lb1 iv1 : Int, gfin gt7 q.1 q.2.1 = some (some (.int (zi z))) ∧ (-2147483648) ≤ z ∧ z ≤ 2147483647 ∧ 0 ≤ ld1 ∧ ld1 ≤ 192 ∧ 1024 ≤ lb1 ∧ lb1 ≤ 1000000 ∧ 0 ≤ iv1 ∧ iv1 ≤ 100 ∧ (iv1 = iv) ∧ (1024 * (((q.2.2.1 : Int) - h.1) - 31 - 2 * (ld1 - ld)) ≤ lb1 - lb) ∧ (((q.2.2.2.1 : Int) - h.2.1) ≤ 4303 + 12480 * (ld1 - ld) + 2 * (lb1 - lb)) ∧ (ld ≤ ld1) ∧ (lb ≤ lb1) ∧ (gIx ty9 x ld1 lb1 iv1 q.2.2) ∧ gUq ty9) := by
  have hS : gSs rT 1027 ty [50005, 51001, 54002, 54003, 54004, 54005, 54006, 54007, 54008, 54009, 54010, 54011, 54012, 54013, 58999, 65003, 66001, 66002, 66003, 66004, 66005, 66010, 66011, 66012, 66013, 66014, 67001, 67002, 67003, 69999, 70999, 82000, 82001, 82002, 82003, 82004, 82005, 82006, 82007, 82008, 82009, 82010, 82011, 83000, 83001, 83002, 83003, 83004, 83005, 83006, 83007, 83008, 83009, 83010, 83011, 84000, 84001, 84002, 84003, 84004, 84005, 84006, 84007, 84008, 84009, 84010, 84011, 102999, 103999, 112999, 113999] h h := gSs.rf hJ
  have G0 : gSg [65, 66, 67, 68, 69, 70, 101, 102, 103, 112, 113, 200] [] [50005, 51001, 54002, 54003, 54004, 54005, 54006, 54007, 54008, 54009, 54010, 54011, 54012, 54013, 58999, 65003, 66001, 66002, 66003, 66004, 66005, 66010, 66011, 66012, 66013, 66014, 67001, 67002, 67003, 69999, 70999, 82000, 82001, 82002, 82003, 82004, 82005, 82006, 82007, 82008, 82009, 82010, 82011, 83000, 83001, 83002, 83003, 83004, 83005, 83006, 83007, 83008, 83009, 83010, 83011, 84000, 84001, 84002, 84003, 84004, 84005, 84006, 84007, 84008, 84009, 84010, 84011, 102999, 103999, 112999, 113999] ty h ty h := gSg.rf hJ (fun x hx => by cases hx)
  obtain ⟨pic, b0, b1, b2, dr, sk, bt, n0, c0, ⟨_, tdr, tsk, tbt⟩, ⟨ex2, ex3, ex4, ex0⟩, hpc, htc, ⟨en0, rn0⟩, ⟨eiv, riv⟩, ⟨ec0, rc0⟩, ⟨lc0, llb⟩, hrr, hrw⟩ := hyix
  have tpic := hpc.1.1
  have tb0 := hpc.1.2.1
  have tb1 := hpc.1.2.2.1
  have tb2 := hpc.1.2.2.2
  refine gz_s 1 (pc' := 1) (L' := [some (.ref x), none]) (S' := [.ref x]) rfl ?_
  refine gs_nul rfl (by decide) rfl hS.1 tx rfl rfl rfl (fun ec1 => ?_) (fun c1 ec1 tc1 => ?_)
  · skip
    have no9 := gRr.no hrr ec1
    refine gz_s 2 (pc' := 8) (L' := [some (.ref x), none]) (S' := [.ref x]) rfl ?_
    refine gs_newo rfl (by decide) rfl hS.1 (Nat.le_of_lt (Nat.lt_of_le_of_lt (gJ.cell hS.1 tx rfl).1 (gJ.cell hS.1 tx rfl).2.1)) (fun ty2 h3 c4 g5 tc4 kc4 zc4 nc4 mc4 ec4 dc4 => ?_)
    have mfc4 : h3.2.1 = h.2.1 + 4 := mc4
    have gac4 : h.1 ≤ c4 := by have h8 := G0.2.1; have h9 := hS.2.1; omega
    have nnc4 : 1027 ≤ c4 := by have h8 := (Nat.le_of_lt (Nat.lt_of_le_of_lt (gJ.cell hS.1 tx rfl).1 (gJ.cell hS.1 tx rfl).2.1)); omega
    have llc4 := Nat.lt_of_lt_of_eq (Nat.lt_succ_of_le (Nat.le_of_eq ec4)) nc4.symm
    have G6 : gSg [65, 66, 67, 68, 69, 70, 101, 102, 103, 112, 113, 200] [] [50005, 51001, 54002, 54003, 54004, 54005, 54006, 54007, 54008, 54009, 54010, 54011, 54012, 54013, 58999, 65003, 66001, 66002, 66003, 66004, 66005, 66010, 66011, 66012, 66013, 66014, 67001, 67002, 67003, 69999, 70999, 82000, 82001, 82002, 82003, 82004, 82005, 82006, 82007, 82008, 82009, 82010, 82011, 83000, 83001, 83002, 83003, 83004, 83005, 83006, 83007, 83008, 83009, 83010, 83011, 84000, 84001, 84002, 84003, 84004, 84005, 84006, 84007, 84008, 84009, 84010, 84011, 102999, 103999, 112999, 113999] ty h ty2 h3 := gSg.tr (gSg.ss G0 hS (by decide)) g5 (by decide) (by decide) (fun x hx => by cases hx)
    have t7 : ty2 x = 50 := gSg.typ g5 hS.1 tx rfl
    have t8 : ty2 pic = 54 := gSg.typ g5 hS.1 tpic rfl
    have t9 : ty2 b0 = 82 := gSg.typ g5 hS.1 tb0 rfl
    have t10 : ty2 b1 = 83 := gSg.typ g5 hS.1 tb1 rfl
    have t11 : ty2 b2 = 84 := gSg.typ g5 hS.1 tb2 rfl
    have t12 : ty2 dr = 55 := gSg.typ g5 hS.1 tdr rfl
    have t13 : ty2 sk = 56 := gSg.typ g5 hS.1 tsk rfl
    have t14 : ty2 bt = 114 := gSg.typ g5 hS.1 tbt rfl
    have hl15 : h3.2.2.2.1 bt = h.2.2.2.1 bt := gSg.len g5 hS.1 tbt rfl
    have s16 := gSg.at g5 hS.1 tx rfl (by decide) ex2
    have s17 := gSg.at g5 hS.1 tx rfl (by decide) ex3
    have s18 := gSg.at g5 hS.1 tx rfl (by decide) ex4
    have s19 := gSg.at g5 hS.1 tsk rfl (by decide) ex0
    have s20 := gSg.at g5 hS.1 tdr rfl (by decide) en0
    have s21 := gSg.at g5 hS.1 tdr rfl (by decide) eiv
    have s22 := gSg.at g5 hS.1 tsk rfl (by decide) ec0
    have s23 := gSg.at g5 hS.1 tx rfl (by decide) ec1
    have pr24 := gPC.gr g5 hS.1 (by decide) hpc
    have pr25 := gTc.gr g5 hS.1 (by decide) (by decide) htc
    have pr26 := gRr.gr g5 hS.1 (by decide) (by decide) hrr
    have pr27 := gRw.gr g5 hS.1 (by decide) (by decide) hrw
    have pr28 : gNo [65, 66, 67, 68, 69, 70] ty2 := gNo.gr g5 (by decide) (gNo.sub (by decide) no9)
    have uq29 := gSg.uq g5 uq (by decide)
    have sS30 : gSs rT 1027 ty2 [50005, 51001, 54002, 54003, 54004, 54005, 54006, 54007, 54008, 54009, 54010, 54011, 54012, 54013, 58999, 65003, 66001, 66002, 66003, 66004, 66005, 66010, 66011, 66012, 66013, 66014, 67001, 67002, 67003, 69999, 70999, 82000, 82001, 82002, 82003, 82004, 82005, 82006, 82007, 82008, 82009, 82010, 82011, 83000, 83001, 83002, 83003, 83004, 83005, 83006, 83007, 83008, 83009, 83010, 83011, 84000, 84001, 84002, 84003, 84004, 84005, 84006, 84007, 84008, 84009, 84010, 84011, 102999, 103999, 112999, 113999] h3 h3 := gSs.rf g5.1
    refine gz_s 2 (pc' := 13) (L' := [some (.ref x), none]) (S' := [.ref x, .ref c4, .ref c4, .ref x]) rfl ?_
    refine gs_gtr rfl (by decide) rfl sS30.1 t7 rfl rfl rfl (fun c31 ec31 tc31 => ?_)
    refine gz_s 1 (pc' := 17) (L' := [some (.ref x), none]) (S' := [.ref x, .ref c31, .ref c4, .ref c4, .ref x]) rfl ?_
    refine gs_gtk rfl (by decide) rfl sS30.1 t7 rfl rfl s16 ?_
    refine gz_call rfl (by decide) rfl (by decide) (by decide) (gcal_of rfl rfl rfl (Nat.le_of_ble_eq_true rfl) rfl) (ct_Reader _ sS30.1 c4 tc4 nnc4 llc4 kc4 zc4 dc4 c31 tc31 pic t8 pr28 uq29) (fun q32 _ wq32 => ?_)
    obtain ⟨pq32, oq32, hq32⟩ := q32
    obtain ⟨tyq32, xq32, trq32_0, gq32, uq32_0, uq32_1, uqq32⟩ := wq32
    dsimp only at uq32_0 uq32_1
    refine ⟨_, gq32, ?_⟩
    show gz gPP gGG gcn _ _ 23 [some (.ref x), none] [.ref c4, .ref x] hq32 _
    have G33 : gSg [65, 66, 67, 68, 69, 70, 101, 102, 103, 112, 113, 200] [] [50005, 51001, 54002, 54003, 54004, 54005, 54006, 54007, 54008, 54009, 54010, 54011, 54012, 54013, 58999, 65003, 66001, 66002, 66003, 66004, 66005, 66010, 66011, 66012, 66013, 66014, 67001, 67002, 67003, 69999, 70999, 82000, 82001, 82002, 82003, 82004, 82005, 82006, 82007, 82008, 82009, 82010, 82011, 83000, 83001, 83002, 83003, 83004, 83005, 83006, 83007, 83008, 83009, 83010, 83011, 84000, 84001, 84002, 84003, 84004, 84005, 84006, 84007, 84008, 84009, 84010, 84011, 102999, 103999, 112999, 113999] ty h tyq32 hq32 := gSg.tr (gSg.ss G6 sS30 (by decide)) xq32 (by decide) (by decide) (fun x hx => Or.inl (by rw [List.mem_singleton.mp hx]; exact gac4))
    have t34 : tyq32 x = 50 := gSg.typ xq32 sS30.1 t7 rfl
    have t35 : tyq32 pic = 54 := gSg.typ xq32 sS30.1 t8 rfl
    have t36 : tyq32 b0 = 82 := gSg.typ xq32 sS30.1 t9 rfl
    have t37 : tyq32 b1 = 83 := gSg.typ xq32 sS30.1 t10 rfl
    have t38 : tyq32 b2 = 84 := gSg.typ xq32 sS30.1 t11 rfl
    have t39 : tyq32 dr = 55 := gSg.typ xq32 sS30.1 t12 rfl
    have t40 : tyq32 sk = 56 := gSg.typ xq32 sS30.1 t13 rfl
    have t41 : tyq32 bt = 114 := gSg.typ xq32 sS30.1 t14 rfl
    have hl42 : hq32.2.2.2.1 bt = h3.2.2.2.1 bt := gSg.len xq32 sS30.1 t14 rfl
    have t43 : tyq32 c31 = 51 := gSg.typ xq32 sS30.1 tc31 rfl
    have s44 := gSg.at xq32 sS30.1 t7 rfl (by decide) s16
    have s45 := gSg.at xq32 sS30.1 t7 rfl (by decide) s17
    have s46 := gSg.at xq32 sS30.1 t7 rfl (by decide) s18
    have s47 := gSg.at xq32 sS30.1 t13 rfl (by decide) s19
    have s48 := gSg.at xq32 sS30.1 t12 rfl (by decide) s20
    have s49 := gSg.at xq32 sS30.1 t12 rfl (by decide) s21
    have s50 := gSg.at xq32 sS30.1 t13 rfl (by decide) s22
    have s51 := gSg.at xq32 sS30.1 t7 rfl (by decide) s23
    have s52 := gSg.at xq32 sS30.1 t7 rfl (by decide) ec31
    have pr53 := gPC.gr xq32 sS30.1 (by decide) pr24
    have pr54 := gTc.gr xq32 sS30.1 (by decide) (by decide) pr25
    have pr55 := gRw.gr xq32 sS30.1 (by decide) (by decide) pr27
    have sS56 : gSs rT 1027 tyq32 [50005, 51001, 54002, 54003, 54004, 54005, 54006, 54007, 54008, 54009, 54010, 54011, 54012, 54013, 58999, 65003, 66001, 66002, 66003, 66004, 66005, 66010, 66011, 66012, 66013, 66014, 67001, 67002, 67003, 69999, 70999, 82000, 82001, 82002, 82003, 82004, 82005, 82006, 82007, 82008, 82009, 82010, 82011, 83000, 83001, 83002, 83003, 83004, 83005, 83006, 83007, 83008, 83009, 83010, 83011, 84000, 84001, 84002, 84003, 84004, 84005, 84006, 84007, 84008, 84009, 84010, 84011, 102999, 103999, 112999, 113999] hq32 hq32 := gSs.rf xq32.1
    refine gs_ptr (s9 := 0) rfl (by decide) rfl sS56 t34 rfl rfl (Or.inr rfl) rfl (Or.inl rfl) (by decide) trq32_0 (fun h57 sh57 eh57 fh57 => ?_)
    have pr58 := gPC.pk fh57 (sh57.2.2.2.2.1.trans sS56.2.2.2.2.1.symm) t34 (by decide) pr53
    have pr59 := gTc.pt fh57 t34 (by decide) pr54
    have pr60 := gRw.pk fh57 (sh57.2.2.2.2.1.trans sS56.2.2.2.2.1.symm) t34 (by decide) pr55
    have s61 := (fh57 x 2 (fun q => absurd q.2 (by decide))).trans s44
    have s62 := (fh57 x 3 (fun q => absurd q.2 (by decide))).trans s45
    have s63 := (fh57 x 4 (fun q => absurd q.2 (by decide))).trans s46
    have s64 := (fh57 sk 0 (fun q => absurd q.2 (by decide))).trans s47
    have s65 := (fh57 dr 8 (fun q => absurd q.2 (by decide))).trans s48
    have s66 := (fh57 dr 3 (fun q => absurd q.2 (by decide))).trans s49
    have s67 := (fh57 sk 1 (fun q => absurd q.2 (by decide))).trans s50
    have s68 := (fh57 x 0 (fun q => absurd q.2 (by decide))).trans s52
    refine gz_s 1 (pc' := 27) (L' := [some (.ref x), none]) (S' := [.ref x]) rfl ?_
    refine gs_gtk rfl (by decide) rfl sh57.1 t34 rfl rfl eh57 ?_
    refine gz_s 1 (pc' := 31) (L' := [some (.ref x), none]) (S' := [.ref x, .ref c4]) rfl ?_
    refine gs_gtr rfl (by decide) rfl sh57.1 t34 rfl rfl rfl (fun c69 ec69 tc69 => ?_)
    have k70 := sh57.2.1
    have k70b := sh57.2.2.1
    have hl71 : h57.2.2.2.1 bt = hq32.2.2.2.1 bt := congrFun sh57.2.2.2.2.1 bt
    obtain ⟨c72, ec72, tc72⟩ := gJ.ref (k := 0) (G := gGG) sh57.1 trq32_0 rfl rfl rfl
    have ee73 : c31 = c72 := uqq32 c31 c72 (t43.trans tc72.symm) (by rw [t43]; decide) (by rw [t43]; decide)
    subst ee73
    obtain ⟨c74, ec74, tc74⟩ := gJ.ref (k := 1) (G := gGG) sh57.1 trq32_0 rfl rfl rfl
    have ee75 : pic = c74 := uqq32 pic c74 (t35.trans tc74.symm) (by rw [t35]; decide) (by rw [t35]; decide)
    subst ee75
    obtain ⟨c76, ec76, tc76⟩ := gJ.ref (k := 0) (G := gGG) sh57.1 t35 rfl rfl rfl
    obtain ⟨c77, ec77, tc77⟩ := gJ.arl (j := 0) (q2 := 82) sh57.1 tc76 rfl rfl rfl (by decide)
    have ee78 : b0 = c77 := uqq32 b0 c77 (t36.trans tc77.symm) (by rw [t36]; decide) (by rw [t36]; decide)
    subst ee78
    obtain ⟨c79, ec79, tc79⟩ := gJ.arl (j := 1) (q2 := 83) sh57.1 tc76 rfl rfl rfl (by decide)
    have ee80 : b1 = c79 := uqq32 b1 c79 (t37.trans tc79.symm) (by rw [t37]; decide) (by rw [t37]; decide)
    subst ee80
    obtain ⟨c81, ec81, tc81⟩ := gJ.arl (j := 2) (q2 := 84) sh57.1 tc76 rfl rfl rfl (by decide)
    have ee82 : b2 = c81 := uqq32 b2 c81 (t38.trans tc81.symm) (by rw [t38]; decide) (by rw [t38]; decide)
    subst ee82
    obtain ⟨c83, ec83, tc83⟩ := gJ.ref (k := 2) (G := gGG) sh57.1 trq32_0 rfl rfl rfl
    obtain ⟨z84, ez84, az84, bz84⟩ := gJ.int (k := 1) (G := gGG) sh57.1 t43 rfl rfl rfl
    refine gz_call rfl (by decide) rfl (by decide) (by decide) (gcal_of rfl rfl rfl (Nat.le_of_ble_eq_true rfl) (gJ.recv (G := gGG) sh57.1 trq32_0 rfl rfl)) (cl_Reader_readPicture _ sh57.1 c4 trq32_0 c69 tc69 c31 ec72 t43 pic ec74 t35 c76 ec76 tc76 b0 ec77 t36 b1 ec79 t37 b2 ec81 t38 c83 ec83 tc83 z84 ez84 ⟨by omega, by omega⟩ ld ⟨by omega, by omega⟩ uqq32 pr58) (fun q85 _ wq85 => ?_)
    obtain ⟨pq85, oq85, hq85⟩ := q85
    obtain ⟨tyq85, xq85, zq85, xq85_0, gq85, aq85, bq85, axq85_0, bxq85_0, uq85_0, uq85_1, uq85_2, yq85_0⟩ := wq85
    dsimp only at uq85_0 uq85_1
    refine ⟨_, gq85, ?_⟩
    show gz gPP gGG gcn _ _ 37 [some (.ref x), none] [.int (zi zq85)] hq85 _
    have G86 : gSg [65, 66, 67, 68, 69, 70, 101, 102, 103, 112, 113, 200] [] [50005, 51001, 54002, 54003, 54004, 54005, 54006, 54007, 54008, 54009, 54010, 54011, 54012, 54013, 58999, 65003, 66001, 66002, 66003, 66004, 66005, 66010, 66011, 66012, 66013, 66014, 67001, 67002, 67003, 69999, 70999, 82000, 82001, 82002, 82003, 82004, 82005, 82006, 82007, 82008, 82009, 82010, 82011, 83000, 83001, 83002, 83003, 83004, 83005, 83006, 83007, 83008, 83009, 83010, 83011, 84000, 84001, 84002, 84003, 84004, 84005, 84006, 84007, 84008, 84009, 84010, 84011, 102999, 103999, 112999, 113999] ty h tyq85 hq85 := gSg.tr (gSg.ss G33 sh57 (by decide)) xq85 (by decide) (by decide) (fun x hx => by cases hx)
    have t87 : tyq85 x = 50 := gSg.typ xq85 sh57.1 t34 rfl
    have t88 : tyq85 pic = 54 := gSg.typ xq85 sh57.1 t35 rfl
    have t89 : tyq85 b0 = 82 := gSg.typ xq85 sh57.1 t36 rfl
    have t90 : tyq85 b1 = 83 := gSg.typ xq85 sh57.1 t37 rfl
    have t91 : tyq85 b2 = 84 := gSg.typ xq85 sh57.1 t38 rfl
    have t92 : tyq85 dr = 55 := gSg.typ xq85 sh57.1 t39 rfl
    have t93 : tyq85 sk = 56 := gSg.typ xq85 sh57.1 t40 rfl
    have t94 : tyq85 bt = 114 := gSg.typ xq85 sh57.1 t41 rfl
    have hl95 : hq85.2.2.2.1 bt = h57.2.2.2.1 bt := gSg.len xq85 sh57.1 t41 rfl
    have t96 : tyq85 c4 = 65 := gSg.typ xq85 sh57.1 trq32_0 rfl
    have t97 : tyq85 c31 = 51 := gSg.typ xq85 sh57.1 t43 rfl
    have t98 : tyq85 c69 = 53 := gSg.typ xq85 sh57.1 tc69 rfl
    have t99 : tyq85 c76 = 57 := gSg.typ xq85 sh57.1 tc76 rfl
    have t100 : tyq85 c83 = 66 := gSg.typ xq85 sh57.1 tc83 rfl
    have s101 := gSg.at xq85 sh57.1 t34 rfl (by decide) s61
    have s102 := gSg.at xq85 sh57.1 t34 rfl (by decide) s62
    have s103 := gSg.at xq85 sh57.1 t34 rfl (by decide) s63
    have s104 := gSg.at xq85 sh57.1 t40 rfl (by decide) s64
    have s105 := gSg.at xq85 sh57.1 t39 rfl (by decide) s65
    have s106 := gSg.at xq85 sh57.1 t39 rfl (by decide) s66
    have s107 := gSg.at xq85 sh57.1 t40 rfl (by decide) s67
    have s108 := gSg.at xq85 sh57.1 t34 rfl (by decide) s68
    have s109 := gSg.at xq85 sh57.1 t34 rfl (by decide) eh57
    have s110 := gSg.at xq85 sh57.1 t34 rfl (by decide) ec69
    have s111 := gSg.at xq85 sh57.1 trq32_0 rfl (by decide) ec72
    have s112 := gSg.at xq85 sh57.1 trq32_0 rfl (by decide) ec74
    have s113 := gSg.at xq85 sh57.1 t35 rfl (by decide) ec76
    have s114 := gSg.at xq85 sh57.1 tc76 rfl (by decide) ec77
    have s115 := gSg.at xq85 sh57.1 tc76 rfl (by decide) ec79
    have s116 := gSg.at xq85 sh57.1 tc76 rfl (by decide) ec81
    have s117 := gSg.at xq85 sh57.1 trq32_0 rfl (by decide) ec83
    have s118 := gSg.at xq85 sh57.1 t43 rfl (by decide) ez84
    have pr119 := gTc.gr xq85 sh57.1 (by decide) (by decide) pr59
    have pr120 := gRw.gr xq85 sh57.1 (by decide) (by decide) pr60
    have uq121 := gSg.uq xq85 uqq32 (by decide)
    have sS122 : gSs rT 1027 tyq85 [50005, 51001, 54002, 54003, 54004, 54005, 54006, 54007, 54008, 54009, 54010, 54011, 54012, 54013, 58999, 65003, 66001, 66002, 66003, 66004, 66005, 66010, 66011, 66012, 66013, 66014, 67001, 67002, 67003, 69999, 70999, 82000, 82001, 82002, 82003, 82004, 82005, 82006, 82007, 82008, 82009, 82010, 82011, 83000, 83001, 83002, 83003, 83004, 83005, 83006, 83007, 83008, 83009, 83010, 83011, 84000, 84001, 84002, 84003, 84004, 84005, 84006, 84007, 84008, 84009, 84010, 84011, 102999, 103999, 112999, 113999] hq85 hq85 := gSs.rf xq85.1
    refine gz_s 2 (pc' := 39) (L' := [some (.ref x), some (.int (zi zq85))]) (S' := [.ref x]) rfl ?_
    refine gs_gtk rfl (by decide) rfl sS122.1 t87 rfl rfl s108 ?_
    refine gz_s 1 (pc' := 43) (L' := [some (.ref x), some (.int (zi zq85))]) (S' := [.int (zi 0), .ref c31]) rfl ?_
    refine gs_put rfl (by decide) rfl sS122 t97 rfl rfl rfl rfl (Or.inl rfl) (by decide) (by omega) (by omega) (fun h123 sh123 eh123 fh123 => ?_)
    have pr124 := gTc.pt fh123 t97 (by decide) pr119
    have pr125 := gRw.pk fh123 (sh123.2.2.2.2.1.trans sS122.2.2.2.2.1.symm) t97 (by decide) pr120
    have pr126 := gPC.pk fh123 (sh123.2.2.2.2.1.trans sS122.2.2.2.2.1.symm) t97 (by decide) yq85_0
    have s127 := (fh123 x 2 (fun q => absurd q.2 (by decide))).trans s101
    have s128 := (fh123 x 3 (fun q => absurd q.2 (by decide))).trans s102
    have s129 := (fh123 x 4 (fun q => absurd q.2 (by decide))).trans s103
    have s130 := (fh123 sk 0 (fun q => absurd q.2 (by decide))).trans s104
    have s131 := (fh123 dr 8 (fun q => absurd q.2 (by decide))).trans s105
    have s132 := (fh123 dr 3 (fun q => absurd q.2 (by decide))).trans s106
    have s133 := (fh123 sk 1 (fun q => absurd (((t93).symm.trans (congrArg tyq85 q.1)).trans t97) (by decide))).trans s107
    have s134 := (fh123 x 0 (fun q => absurd q.2 (by decide))).trans s108
    have s135 := (fh123 x 5 (fun q => absurd q.2 (by decide))).trans s109
    have s136 := (fh123 x 1 (fun q => absurd (((t87).symm.trans (congrArg tyq85 q.1)).trans t97) (by decide))).trans s110
    have s137 := (fh123 c4 0 (fun q => absurd q.2 (by decide))).trans s111
    have s138 := (fh123 c4 1 (fun q => absurd (((t96).symm.trans (congrArg tyq85 q.1)).trans t97) (by decide))).trans s112
    have s139 := (fh123 pic 0 (fun q => absurd q.2 (by decide))).trans s113
    have s140 := (fh123 c76 0 (fun q => absurd (((t99).symm.trans (congrArg tyq85 q.1)).trans t97) (by decide))).trans s114
    have s141 := (fh123 c76 1 (fun q => absurd (((t99).symm.trans (congrArg tyq85 q.1)).trans t97) (by decide))).trans s115
    have s142 := (fh123 c76 2 (fun q => absurd (((t99).symm.trans (congrArg tyq85 q.1)).trans t97) (by decide))).trans s116
    have s143 := (fh123 c4 2 (fun q => absurd q.2 (by decide))).trans s117
    refine gz_s 1 (pc' := 47) (L' := [some (.ref x), some (.int (zi zq85))]) (S' := [.int (zi zq85)]) rfl ?_
    have k144 := sh123.2.1
    have k144b := sh123.2.2.1
    have hl145 : h123.2.2.2.1 bt = hq85.2.2.2.1 bt := congrFun sh123.2.2.2.2.1 bt
    have hl146 : 1024 ≤ h123.2.2.2.1 bt ∧ h123.2.2.2.1 bt ≤ 1000000 := gJ.rowl (G := gGG) sh123.1 t94 rfl
    have k147 := sh123.2.1
    have k147b := sh123.2.2.1
    have hl148 : h123.2.2.2.1 bt = hq85.2.2.2.1 bt := congrFun sh123.2.2.2.2.1 bt
    have hix149 : gIx tyq85 x xq85_0 (h123.2.2.2.1 bt : Int) iv h123 := ⟨pic, b0, b1, b2, dr, sk, bt, n0, c0, ⟨t87, t92, t93, t94⟩, ⟨s127, s128, s129, s130⟩, pr126, pr124, ⟨s131, by omega, by omega⟩, ⟨s132, by omega, by omega⟩, ⟨s133, by omega, by omega⟩, ⟨by omega, by omega⟩, ⟨t87, Or.inr ⟨c4, s135, t96⟩⟩, pr125⟩
    have G150 : gSg [65, 66, 67, 68, 69, 70, 101, 102, 103, 112, 113, 200] [] [50005, 51001, 54002, 54003, 54004, 54005, 54006, 54007, 54008, 54009, 54010, 54011, 54012, 54013, 58999, 65003, 66001, 66002, 66003, 66004, 66005, 66010, 66011, 66012, 66013, 66014, 67001, 67002, 67003, 69999, 70999, 82000, 82001, 82002, 82003, 82004, 82005, 82006, 82007, 82008, 82009, 82010, 82011, 83000, 83001, 83002, 83003, 83004, 83005, 83006, 83007, 83008, 83009, 83010, 83011, 84000, 84001, 84002, 84003, 84004, 84005, 84006, 84007, 84008, 84009, 84010, 84011, 102999, 103999, 112999, 113999] ty h tyq85 h123 := gSg.ss G86 sh123 (by decide)
    exact gz_end (I := .ireturn) (len := 1) rfl (Or.inl rfl) ⟨tyq85, G150, zq85, xq85_0, (h123.2.2.2.1 bt : Int), iv, rfl, (by omega), (by omega), (by omega), (by omega), (by omega), (by omega), (by omega), (by omega), (by omega), (by dsimp only; omega), (by dsimp only; omega), (by omega), (by omega), hix149, uq121⟩
  · skip
    refine gz_s 2 (pc' := 27) (L' := [some (.ref x), none]) (S' := [.ref x]) rfl ?_
    refine gs_gtk rfl (by decide) rfl hS.1 tx rfl rfl ec1 ?_
    refine gz_s 1 (pc' := 31) (L' := [some (.ref x), none]) (S' := [.ref x, .ref c1]) rfl ?_
    refine gs_gtr rfl (by decide) rfl hS.1 tx rfl rfl rfl (fun c151 ec151 tc151 => ?_)
    obtain ⟨c152, ec152, tc152⟩ := gJ.ref (k := 0) (G := gGG) hS.1 tc1 rfl rfl rfl
    obtain ⟨c153, ec153, tc153⟩ := gJ.ref (k := 1) (G := gGG) hS.1 tc1 rfl rfl rfl
    have ee154 : pic = c153 := uq pic c153 (tpic.trans tc153.symm) (by rw [tpic]; decide) (by rw [tpic]; decide)
    subst ee154
    obtain ⟨c155, ec155, tc155⟩ := gJ.ref (k := 0) (G := gGG) hS.1 tpic rfl rfl rfl
    obtain ⟨c156, ec156, tc156⟩ := gJ.arl (j := 0) (q2 := 82) hS.1 tc155 rfl rfl rfl (by decide)
    have ee157 : b0 = c156 := uq b0 c156 (tb0.trans tc156.symm) (by rw [tb0]; decide) (by rw [tb0]; decide)
    subst ee157
    obtain ⟨c158, ec158, tc158⟩ := gJ.arl (j := 1) (q2 := 83) hS.1 tc155 rfl rfl rfl (by decide)
    have ee159 : b1 = c158 := uq b1 c158 (tb1.trans tc158.symm) (by rw [tb1]; decide) (by rw [tb1]; decide)
    subst ee159
    obtain ⟨c160, ec160, tc160⟩ := gJ.arl (j := 2) (q2 := 84) hS.1 tc155 rfl rfl rfl (by decide)
    have ee161 : b2 = c160 := uq b2 c160 (tb2.trans tc160.symm) (by rw [tb2]; decide) (by rw [tb2]; decide)
    subst ee161
    obtain ⟨c162, ec162, tc162⟩ := gJ.ref (k := 2) (G := gGG) hS.1 tc1 rfl rfl rfl
    obtain ⟨z163, ez163, az163, bz163⟩ := gJ.int (k := 1) (G := gGG) hS.1 tc152 rfl rfl rfl
    refine gz_call rfl (by decide) rfl (by decide) (by decide) (gcal_of rfl rfl rfl (Nat.le_of_ble_eq_true rfl) (gJ.recv (G := gGG) hS.1 tc1 rfl rfl)) (cl_Reader_readPicture _ hS.1 c1 tc1 c151 tc151 c152 ec152 tc152 pic ec153 tpic c155 ec155 tc155 b0 ec156 tb0 b1 ec158 tb1 b2 ec160 tb2 c162 ec162 tc162 z163 ez163 ⟨by omega, by omega⟩ ld ⟨by omega, by omega⟩ uq hpc) (fun q164 _ wq164 => ?_)
    obtain ⟨pq164, oq164, hq164⟩ := q164
    obtain ⟨tyq164, xq164, zq164, xq164_0, gq164, aq164, bq164, axq164_0, bxq164_0, uq164_0, uq164_1, uq164_2, yq164_0⟩ := wq164
    dsimp only at uq164_0 uq164_1
    refine ⟨_, gq164, ?_⟩
    show gz gPP gGG gcn _ _ 37 [some (.ref x), none] [.int (zi zq164)] hq164 _
    have G165 : gSg [65, 66, 67, 68, 69, 70, 101, 102, 103, 112, 113, 200] [] [50005, 51001, 54002, 54003, 54004, 54005, 54006, 54007, 54008, 54009, 54010, 54011, 54012, 54013, 58999, 65003, 66001, 66002, 66003, 66004, 66005, 66010, 66011, 66012, 66013, 66014, 67001, 67002, 67003, 69999, 70999, 82000, 82001, 82002, 82003, 82004, 82005, 82006, 82007, 82008, 82009, 82010, 82011, 83000, 83001, 83002, 83003, 83004, 83005, 83006, 83007, 83008, 83009, 83010, 83011, 84000, 84001, 84002, 84003, 84004, 84005, 84006, 84007, 84008, 84009, 84010, 84011, 102999, 103999, 112999, 113999] ty h tyq164 hq164 := gSg.tr (gSg.ss G0 hS (by decide)) xq164 (by decide) (by decide) (fun x hx => by cases hx)
    have t166 : tyq164 x = 50 := gSg.typ xq164 hS.1 tx rfl
    have t167 : tyq164 pic = 54 := gSg.typ xq164 hS.1 tpic rfl
    have t168 : tyq164 b0 = 82 := gSg.typ xq164 hS.1 tb0 rfl
    have t169 : tyq164 b1 = 83 := gSg.typ xq164 hS.1 tb1 rfl
    have t170 : tyq164 b2 = 84 := gSg.typ xq164 hS.1 tb2 rfl
    have t171 : tyq164 dr = 55 := gSg.typ xq164 hS.1 tdr rfl
    have t172 : tyq164 sk = 56 := gSg.typ xq164 hS.1 tsk rfl
    have t173 : tyq164 bt = 114 := gSg.typ xq164 hS.1 tbt rfl
    have hl174 : hq164.2.2.2.1 bt = h.2.2.2.1 bt := gSg.len xq164 hS.1 tbt rfl
    have t175 : tyq164 c1 = 65 := gSg.typ xq164 hS.1 tc1 rfl
    have t176 : tyq164 c151 = 53 := gSg.typ xq164 hS.1 tc151 rfl
    have t177 : tyq164 c152 = 51 := gSg.typ xq164 hS.1 tc152 rfl
    have t178 : tyq164 c155 = 57 := gSg.typ xq164 hS.1 tc155 rfl
    have t179 : tyq164 c162 = 66 := gSg.typ xq164 hS.1 tc162 rfl
    have s180 := gSg.at xq164 hS.1 tx rfl (by decide) ex2
    have s181 := gSg.at xq164 hS.1 tx rfl (by decide) ex3
    have s182 := gSg.at xq164 hS.1 tx rfl (by decide) ex4
    have s183 := gSg.at xq164 hS.1 tsk rfl (by decide) ex0
    have s184 := gSg.at xq164 hS.1 tdr rfl (by decide) en0
    have s185 := gSg.at xq164 hS.1 tdr rfl (by decide) eiv
    have s186 := gSg.at xq164 hS.1 tsk rfl (by decide) ec0
    have s187 := gSg.at xq164 hS.1 tx rfl (by decide) ec1
    have s188 := gSg.at xq164 hS.1 tx rfl (by decide) ec151
    have s189 := gSg.at xq164 hS.1 tc1 rfl (by decide) ec152
    have s190 := gSg.at xq164 hS.1 tc1 rfl (by decide) ec153
    have s191 := gSg.at xq164 hS.1 tpic rfl (by decide) ec155
    have s192 := gSg.at xq164 hS.1 tc155 rfl (by decide) ec156
    have s193 := gSg.at xq164 hS.1 tc155 rfl (by decide) ec158
    have s194 := gSg.at xq164 hS.1 tc155 rfl (by decide) ec160
    have s195 := gSg.at xq164 hS.1 tc1 rfl (by decide) ec162
    have s196 := gSg.at xq164 hS.1 tc152 rfl (by decide) ez163
    have pr197 := gTc.gr xq164 hS.1 (by decide) (by decide) htc
    have pr198 := gRr.gr xq164 hS.1 (by decide) (by decide) hrr
    have pr199 := gRw.gr xq164 hS.1 (by decide) (by decide) hrw
    have uq200 := gSg.uq xq164 uq (by decide)
    have sS201 : gSs rT 1027 tyq164 [50005, 51001, 54002, 54003, 54004, 54005, 54006, 54007, 54008, 54009, 54010, 54011, 54012, 54013, 58999, 65003, 66001, 66002, 66003, 66004, 66005, 66010, 66011, 66012, 66013, 66014, 67001, 67002, 67003, 69999, 70999, 82000, 82001, 82002, 82003, 82004, 82005, 82006, 82007, 82008, 82009, 82010, 82011, 83000, 83001, 83002, 83003, 83004, 83005, 83006, 83007, 83008, 83009, 83010, 83011, 84000, 84001, 84002, 84003, 84004, 84005, 84006, 84007, 84008, 84009, 84010, 84011, 102999, 103999, 112999, 113999] hq164 hq164 := gSs.rf xq164.1
    refine gz_s 2 (pc' := 39) (L' := [some (.ref x), some (.int (zi zq164))]) (S' := [.ref x]) rfl ?_
    refine gs_gtr rfl (by decide) rfl sS201.1 t166 rfl rfl rfl (fun c202 ec202 tc202 => ?_)
    have ee203 : c152 = c202 := uq200 c152 c202 (t177.trans tc202.symm) (by rw [t177]; decide) (by rw [t177]; decide)
    subst ee203
    refine gz_s 1 (pc' := 43) (L' := [some (.ref x), some (.int (zi zq164))]) (S' := [.int (zi 0), .ref c152]) rfl ?_
    refine gs_put rfl (by decide) rfl sS201 t177 rfl rfl rfl rfl (Or.inl rfl) (by decide) (by omega) (by omega) (fun h204 sh204 eh204 fh204 => ?_)
    have pr205 := gTc.pt fh204 t177 (by decide) pr197
    have pr206 := gRr.pk fh204 (sh204.2.2.2.2.1.trans sS201.2.2.2.2.1.symm) t177 (by decide) pr198
    have pr207 := gRw.pk fh204 (sh204.2.2.2.2.1.trans sS201.2.2.2.2.1.symm) t177 (by decide) pr199
    have pr208 := gPC.pk fh204 (sh204.2.2.2.2.1.trans sS201.2.2.2.2.1.symm) t177 (by decide) yq164_0
    have s209 := (fh204 x 2 (fun q => absurd q.2 (by decide))).trans s180
    have s210 := (fh204 x 3 (fun q => absurd q.2 (by decide))).trans s181
    have s211 := (fh204 x 4 (fun q => absurd q.2 (by decide))).trans s182
    have s212 := (fh204 sk 0 (fun q => absurd q.2 (by decide))).trans s183
    have s213 := (fh204 dr 8 (fun q => absurd q.2 (by decide))).trans s184
    have s214 := (fh204 dr 3 (fun q => absurd q.2 (by decide))).trans s185
    have s215 := (fh204 sk 1 (fun q => absurd (((t172).symm.trans (congrArg tyq164 q.1)).trans t177) (by decide))).trans s186
    have s216 := (fh204 x 5 (fun q => absurd q.2 (by decide))).trans s187
    have s217 := (fh204 x 1 (fun q => absurd (((t166).symm.trans (congrArg tyq164 q.1)).trans t177) (by decide))).trans s188
    have s218 := (fh204 c1 0 (fun q => absurd q.2 (by decide))).trans s189
    have s219 := (fh204 c1 1 (fun q => absurd (((t175).symm.trans (congrArg tyq164 q.1)).trans t177) (by decide))).trans s190
    have s220 := (fh204 pic 0 (fun q => absurd q.2 (by decide))).trans s191
    have s221 := (fh204 c155 0 (fun q => absurd (((t178).symm.trans (congrArg tyq164 q.1)).trans t177) (by decide))).trans s192
    have s222 := (fh204 c155 1 (fun q => absurd (((t178).symm.trans (congrArg tyq164 q.1)).trans t177) (by decide))).trans s193
    have s223 := (fh204 c155 2 (fun q => absurd (((t178).symm.trans (congrArg tyq164 q.1)).trans t177) (by decide))).trans s194
    have s224 := (fh204 c1 2 (fun q => absurd q.2 (by decide))).trans s195
    have s225 := (fh204 x 0 (fun q => absurd q.2 (by decide))).trans ec202
    refine gz_s 1 (pc' := 47) (L' := [some (.ref x), some (.int (zi zq164))]) (S' := [.int (zi zq164)]) rfl ?_
    have k226 := sh204.2.1
    have k226b := sh204.2.2.1
    have hl227 : h204.2.2.2.1 bt = hq164.2.2.2.1 bt := congrFun sh204.2.2.2.2.1 bt
    have hl228 : 1024 ≤ h204.2.2.2.1 bt ∧ h204.2.2.2.1 bt ≤ 1000000 := gJ.rowl (G := gGG) sh204.1 t173 rfl
    have k229 := sh204.2.1
    have k229b := sh204.2.2.1
    have hl230 : h204.2.2.2.1 bt = hq164.2.2.2.1 bt := congrFun sh204.2.2.2.2.1 bt
    have hix231 : gIx tyq164 x xq164_0 (h204.2.2.2.1 bt : Int) iv h204 := ⟨pic, b0, b1, b2, dr, sk, bt, n0, c0, ⟨t166, t171, t172, t173⟩, ⟨s209, s210, s211, s212⟩, pr208, pr205, ⟨s213, by omega, by omega⟩, ⟨s214, by omega, by omega⟩, ⟨s215, by omega, by omega⟩, ⟨by omega, by omega⟩, ⟨t166, Or.inr ⟨c1, s216, t175⟩⟩, pr207⟩
    have G232 : gSg [65, 66, 67, 68, 69, 70, 101, 102, 103, 112, 113, 200] [] [50005, 51001, 54002, 54003, 54004, 54005, 54006, 54007, 54008, 54009, 54010, 54011, 54012, 54013, 58999, 65003, 66001, 66002, 66003, 66004, 66005, 66010, 66011, 66012, 66013, 66014, 67001, 67002, 67003, 69999, 70999, 82000, 82001, 82002, 82003, 82004, 82005, 82006, 82007, 82008, 82009, 82010, 82011, 83000, 83001, 83002, 83003, 83004, 83005, 83006, 83007, 83008, 83009, 83010, 83011, 84000, 84001, 84002, 84003, 84004, 84005, 84006, 84007, 84008, 84009, 84010, 84011, 102999, 103999, 112999, 113999] ty h tyq164 h204 := gSg.ss G165 sh204 (by decide)
    exact gz_end (I := .ireturn) (len := 1) rfl (Or.inl rfl) ⟨tyq164, G232, zq164, xq164_0, (h204.2.2.2.1 bt : Int), iv, rfl, (by omega), (by omega), (by omega), (by omega), (by omega), (by omega), (by omega), (by omega), (by omega), (by dsimp only; omega), (by dsimp only; omega), (by omega), (by omega), hix231, uq200⟩
