/-! ===== methods of the landed text (by program) ===== -/
theorem gTc.pa {ty : Nat → Nat} {n : Int} {c9 q2 : Nat} {Q : Nat → Prop} {h h' : gH} (g : ∀ x j, ¬ (x = c9 ∧ Q j) → h'.2.2.2.2 x j = h.2.2.2.2 x j) (ht : ty c9 = q2) (hq : ∀ x ∈ ([60, 61, 64] : List Nat), q2 ≠ x) (s : gTc ty n h) : gTc ty n h' := by
  have k : ∀ (q : Nat) (f : Nat → Int), q2 ≠ q → gRow ty q f h → gRow ty q f h' := fun q f hne p => ⟨p.1, fun c hc i hi => by
    rw [g c i (fun w => hne (by rw [← ht, ← w.1]; exact hc))]
    exact p.2 c hc i hi⟩
  obtain ⟨f, t, c, x1, x2, x3, x4⟩ := s
  exact ⟨f, t, c, k _ _ (hq _ (by decide)) x1, k _ _ (hq _ (by decide)) x2, k _ _ (hq _ (by decide)) x3, x4⟩
theorem zi_in8 {z : Int} (h0 : -128 ≤ z) (h1 : z ≤ 127) : (zi z).toInt8.toInt32 = zi z := by
  have h := (by decide +kernel : ∀ k : Fin 256, (zi ((k.val : Int) - 128)).toInt8.toInt32 = zi ((k.val : Int) - 128)) ⟨(z + 128).toNat, by omega⟩
  have e : (((z + 128).toNat : Nat) : Int) - 128 = z := by omega
  rw [← e]
  exact h
set_option maxRecDepth 20000 in
set_option maxHeartbeats 4000000 in
theorem cl_DctFilter_colourW (d : Nat) {ty : Nat → Nat} {h : gH} (hJ : gJ rT 1027 ty h) (bd : Int) (rbd : (-2147483648) ≤ bd ∧ bd ≤ 2147483647) (a : Int) (ra : (-2147483648) ≤ a ∧ a ≤ 2147483647) (b : Int) (rb : (-2147483648) ≤ b ∧ b ≤ 2147483647) (c : Int) (rc : (-2147483648) ≤ c ∧ c ≤ 2147483647) : gz gPP gGG gcn (d + 2) gt77 0 (gent [.int (zi bd), .int (zi a), .int (zi b), .int (zi c)] 4) [] h (fun q _ => gSs rT 1027 ty [] h q.2.2 ∧ ∃ z : Int, gfin gt77 q.1 q.2.1 = some (some (.int (zi z))) ∧ 0 ≤ z ∧ z ≤ 255) := by
  have hS : gSs rT 1027 ty [] h h := gSs.rf hJ
  refine gz_s 2 (pc' := 2) (L' := [some (.int (zi bd)), some (.int (zi a)), some (.int (zi b)), some (.int (zi c))]) (S' := [.int (zi 3), .int (zi bd)]) rfl ?_
  by_cases hc1 : ¬ (bd : Int) = 3
  · refine gy_icT (pc' := 21) rfl (by decide) (by decide) (by omega) (by omega) hc1 ?_
    refine gz_s 2 (pc' := 23) (L' := [some (.int (zi bd)), some (.int (zi a)), some (.int (zi b)), some (.int (zi c))]) (S' := [.int (zi 4), .int (zi bd)]) rfl ?_
    by_cases hc2 : ¬ (bd : Int) = 4
    · refine gy_icT (pc' := 48) rfl (by decide) (by decide) (by omega) (by omega) hc2 ?_
      refine gz_s 1 (pc' := 49) (L' := [some (.int (zi bd)), some (.int (zi a)), some (.int (zi b)), some (.int (zi c))]) (S' := [.int (zi a)]) rfl ?_
      refine gz_1 rfl (by decide) rfl rfl (pc' := 51) (S' := [.int (zi 116130), .int (zi a)]) (h' := h) rfl ?_
      refine gy_s 2 (pc' := 53) (L' := [some (.int (zi bd)), some (.int (zi a)), some (.int (zi b)), some (.int (zi c))]) (S' := [.int ((zi 116130) * (zi b)), .int (zi a)]) (L2 := [some (.int (zi bd)), some (.int (zi a)), some (.int (zi b)), some (.int (zi c))]) (S2 := [.int (zi (116130 * b)), .int (zi a)]) rfl (by simp only [zi_add, zi_sub, zi_mul, zi_neg, zi_and1, zi_and7, zi_and15, zi_and31, zi_and255]) (by simp only [zi_add, zi_sub, zi_mul, zi_neg, zi_and1, zi_and7, zi_and15, zi_and31, zi_and255]) ?_
      refine gy_any (fun z3 ez3 az3 bz3 => ?_)
      refine gz_1 rfl (by decide) rfl rfl (pc' := 55) (S' := [.int (zi 32768), .int (zi z3), .int (zi a)]) (h' := h) rfl ?_
      refine gy_s 1 (pc' := 56) (L' := [some (.int (zi bd)), some (.int (zi a)), some (.int (zi b)), some (.int (zi c))]) (S' := [.int ((zi z3) + (zi 32768)), .int (zi a)]) (L2 := [some (.int (zi bd)), some (.int (zi a)), some (.int (zi b)), some (.int (zi c))]) (S2 := [.int (zi (z3 + 32768)), .int (zi a)]) rfl (by simp only [zi_add, zi_sub, zi_mul, zi_neg, zi_and1, zi_and7, zi_and15, zi_and31, zi_and255]) (by simp only [zi_add, zi_sub, zi_mul, zi_neg, zi_and1, zi_and7, zi_and15, zi_and31, zi_and255]) ?_
      refine gy_any (fun z4 ez4 az4 bz4 => ?_)
      refine gz_s 1 (pc' := 58) (L' := [some (.int (zi bd)), some (.int (zi a)), some (.int (zi b)), some (.int (zi c))]) (S' := [.int (zi 16), .int (zi z4), .int (zi a)]) rfl ?_
      refine gy_shc (n := 16) (v := 65536) rfl (by decide) (by omega) (by decide) (by decide) rfl ?_
      refine gy_s 1 (pc' := 60) (L' := [some (.int (zi bd)), some (.int (zi a)), some (.int (zi b)), some (.int (zi c))]) (S' := [.int ((zi a) + (zi (z4 / 65536)))]) (L2 := [some (.int (zi bd)), some (.int (zi a)), some (.int (zi b)), some (.int (zi c))]) (S2 := [.int (zi (a + (z4 / 65536)))]) rfl (by simp only [zi_add, zi_sub, zi_mul, zi_neg, zi_and1, zi_and7, zi_and15, zi_and31, zi_and255]) (by simp only [zi_add, zi_sub, zi_mul, zi_neg, zi_and1, zi_and7, zi_and15, zi_and31, zi_and255]) ?_
      refine gy_any (fun z5 ez5 az5 bz5 => ?_)
      refine gz_call rfl (by decide) rfl (by decide) (by decide) (gcal_of rfl rfl rfl (Nat.le_of_ble_eq_true rfl) rfl) (cl_DctFilter_asByte _ hS.1 z5 ⟨by omega, by omega⟩ ) (fun q6 _ wq6 => ?_)
      obtain ⟨pq6, oq6, hq6⟩ := q6
      obtain ⟨xq6, zq6, gq6, aq6, bq6⟩ := wq6
      refine ⟨_, gq6, ?_⟩
      show gz gPP gGG gcn _ _ 63 [some (.int (zi bd)), some (.int (zi a)), some (.int (zi b)), some (.int (zi c))] [.int (zi zq6)] hq6 _
      have sq6 : gSs rT 1027 ty [] h hq6 := gSs.tr hS xq6 (by decide)
      exact gz_end (I := .ireturn) (len := 1) rfl (Or.inl rfl) ⟨sq6, zq6, rfl, (by omega), (by omega)⟩
    · refine gy_icF rfl (by decide) (by decide) (by omega) (by omega) hc2 ?_
      refine gy_s 4 (pc' := 32) (L' := [some (.int (zi bd)), some (.int (zi a)), some (.int (zi b)), some (.int (zi c))]) (S' := [.int ((zi 22554) * (zi b)), .int (zi a)]) (L2 := [some (.int (zi bd)), some (.int (zi a)), some (.int (zi b)), some (.int (zi c))]) (S2 := [.int (zi (22554 * b)), .int (zi a)]) rfl (by simp only [zi_add, zi_sub, zi_mul, zi_neg, zi_and1, zi_and7, zi_and15, zi_and31, zi_and255]) (by simp only [zi_add, zi_sub, zi_mul, zi_neg, zi_and1, zi_and7, zi_and15, zi_and31, zi_and255]) ?_
      refine gy_any (fun z7 ez7 az7 bz7 => ?_)
      refine gz_1 rfl (by decide) rfl rfl (pc' := 34) (S' := [.int (zi 46802), .int (zi z7), .int (zi a)]) (h' := h) rfl ?_
      refine gy_s 2 (pc' := 36) (L' := [some (.int (zi bd)), some (.int (zi a)), some (.int (zi b)), some (.int (zi c))]) (S' := [.int ((zi 46802) * (zi c)), .int (zi z7), .int (zi a)]) (L2 := [some (.int (zi bd)), some (.int (zi a)), some (.int (zi b)), some (.int (zi c))]) (S2 := [.int (zi (46802 * c)), .int (zi z7), .int (zi a)]) rfl (by simp only [zi_add, zi_sub, zi_mul, zi_neg, zi_and1, zi_and7, zi_and15, zi_and31, zi_and255]) (by simp only [zi_add, zi_sub, zi_mul, zi_neg, zi_and1, zi_and7, zi_and15, zi_and31, zi_and255]) ?_
      refine gy_any (fun z8 ez8 az8 bz8 => ?_)
      refine gy_s 1 (pc' := 37) (L' := [some (.int (zi bd)), some (.int (zi a)), some (.int (zi b)), some (.int (zi c))]) (S' := [.int ((zi z7) + (zi z8)), .int (zi a)]) (L2 := [some (.int (zi bd)), some (.int (zi a)), some (.int (zi b)), some (.int (zi c))]) (S2 := [.int (zi (z7 + z8)), .int (zi a)]) rfl (by simp only [zi_add, zi_sub, zi_mul, zi_neg, zi_and1, zi_and7, zi_and15, zi_and31, zi_and255]) (by simp only [zi_add, zi_sub, zi_mul, zi_neg, zi_and1, zi_and7, zi_and15, zi_and31, zi_and255]) ?_
      refine gy_any (fun z9 ez9 az9 bz9 => ?_)
      refine gz_1 rfl (by decide) rfl rfl (pc' := 39) (S' := [.int (zi 32768), .int (zi z9), .int (zi a)]) (h' := h) rfl ?_
      refine gy_s 1 (pc' := 40) (L' := [some (.int (zi bd)), some (.int (zi a)), some (.int (zi b)), some (.int (zi c))]) (S' := [.int ((zi z9) + (zi 32768)), .int (zi a)]) (L2 := [some (.int (zi bd)), some (.int (zi a)), some (.int (zi b)), some (.int (zi c))]) (S2 := [.int (zi (z9 + 32768)), .int (zi a)]) rfl (by simp only [zi_add, zi_sub, zi_mul, zi_neg, zi_and1, zi_and7, zi_and15, zi_and31, zi_and255]) (by simp only [zi_add, zi_sub, zi_mul, zi_neg, zi_and1, zi_and7, zi_and15, zi_and31, zi_and255]) ?_
      refine gy_any (fun z10 ez10 az10 bz10 => ?_)
      refine gz_s 1 (pc' := 42) (L' := [some (.int (zi bd)), some (.int (zi a)), some (.int (zi b)), some (.int (zi c))]) (S' := [.int (zi 16), .int (zi z10), .int (zi a)]) rfl ?_
      refine gy_shc (n := 16) (v := 65536) rfl (by decide) (by omega) (by decide) (by decide) rfl ?_
      refine gy_s 1 (pc' := 44) (L' := [some (.int (zi bd)), some (.int (zi a)), some (.int (zi b)), some (.int (zi c))]) (S' := [.int ((zi a) - (zi (z10 / 65536)))]) (L2 := [some (.int (zi bd)), some (.int (zi a)), some (.int (zi b)), some (.int (zi c))]) (S2 := [.int (zi (a - (z10 / 65536)))]) rfl (by simp only [zi_add, zi_sub, zi_mul, zi_neg, zi_and1, zi_and7, zi_and15, zi_and31, zi_and255]) (by simp only [zi_add, zi_sub, zi_mul, zi_neg, zi_and1, zi_and7, zi_and15, zi_and31, zi_and255]) ?_
      refine gy_any (fun z11 ez11 az11 bz11 => ?_)
      refine gz_call rfl (by decide) rfl (by decide) (by decide) (gcal_of rfl rfl rfl (Nat.le_of_ble_eq_true rfl) rfl) (cl_DctFilter_asByte _ hS.1 z11 ⟨by omega, by omega⟩ ) (fun q12 _ wq12 => ?_)
      obtain ⟨pq12, oq12, hq12⟩ := q12
      obtain ⟨xq12, zq12, gq12, aq12, bq12⟩ := wq12
      refine ⟨_, gq12, ?_⟩
      show gz gPP gGG gcn _ _ 47 [some (.int (zi bd)), some (.int (zi a)), some (.int (zi b)), some (.int (zi c))] [.int (zi zq12)] hq12 _
      have sq12 : gSs rT 1027 ty [] h hq12 := gSs.tr hS xq12 (by decide)
      exact gz_end (I := .ireturn) (len := 1) rfl (Or.inl rfl) ⟨sq12, zq12, rfl, (by omega), (by omega)⟩
  · refine gy_icF rfl (by decide) (by decide) (by omega) (by omega) hc1 ?_
    refine gz_s 1 (pc' := 6) (L' := [some (.int (zi bd)), some (.int (zi a)), some (.int (zi b)), some (.int (zi c))]) (S' := [.int (zi a)]) rfl ?_
    refine gz_1 rfl (by decide) rfl rfl (pc' := 8) (S' := [.int (zi 91881), .int (zi a)]) (h' := h) rfl ?_
    refine gy_s 2 (pc' := 10) (L' := [some (.int (zi bd)), some (.int (zi a)), some (.int (zi b)), some (.int (zi c))]) (S' := [.int ((zi 91881) * (zi c)), .int (zi a)]) (L2 := [some (.int (zi bd)), some (.int (zi a)), some (.int (zi b)), some (.int (zi c))]) (S2 := [.int (zi (91881 * c)), .int (zi a)]) rfl (by simp only [zi_add, zi_sub, zi_mul, zi_neg, zi_and1, zi_and7, zi_and15, zi_and31, zi_and255]) (by simp only [zi_add, zi_sub, zi_mul, zi_neg, zi_and1, zi_and7, zi_and15, zi_and31, zi_and255]) ?_
    refine gy_any (fun z13 ez13 az13 bz13 => ?_)
    refine gz_1 rfl (by decide) rfl rfl (pc' := 12) (S' := [.int (zi 32768), .int (zi z13), .int (zi a)]) (h' := h) rfl ?_
    refine gy_s 1 (pc' := 13) (L' := [some (.int (zi bd)), some (.int (zi a)), some (.int (zi b)), some (.int (zi c))]) (S' := [.int ((zi z13) + (zi 32768)), .int (zi a)]) (L2 := [some (.int (zi bd)), some (.int (zi a)), some (.int (zi b)), some (.int (zi c))]) (S2 := [.int (zi (z13 + 32768)), .int (zi a)]) rfl (by simp only [zi_add, zi_sub, zi_mul, zi_neg, zi_and1, zi_and7, zi_and15, zi_and31, zi_and255]) (by simp only [zi_add, zi_sub, zi_mul, zi_neg, zi_and1, zi_and7, zi_and15, zi_and31, zi_and255]) ?_
    refine gy_any (fun z14 ez14 az14 bz14 => ?_)
    refine gz_s 1 (pc' := 15) (L' := [some (.int (zi bd)), some (.int (zi a)), some (.int (zi b)), some (.int (zi c))]) (S' := [.int (zi 16), .int (zi z14), .int (zi a)]) rfl ?_
    refine gy_shc (n := 16) (v := 65536) rfl (by decide) (by omega) (by decide) (by decide) rfl ?_
    refine gy_s 1 (pc' := 17) (L' := [some (.int (zi bd)), some (.int (zi a)), some (.int (zi b)), some (.int (zi c))]) (S' := [.int ((zi a) + (zi (z14 / 65536)))]) (L2 := [some (.int (zi bd)), some (.int (zi a)), some (.int (zi b)), some (.int (zi c))]) (S2 := [.int (zi (a + (z14 / 65536)))]) rfl (by simp only [zi_add, zi_sub, zi_mul, zi_neg, zi_and1, zi_and7, zi_and15, zi_and31, zi_and255]) (by simp only [zi_add, zi_sub, zi_mul, zi_neg, zi_and1, zi_and7, zi_and15, zi_and31, zi_and255]) ?_
    refine gy_any (fun z15 ez15 az15 bz15 => ?_)
    refine gz_call rfl (by decide) rfl (by decide) (by decide) (gcal_of rfl rfl rfl (Nat.le_of_ble_eq_true rfl) rfl) (cl_DctFilter_asByte _ hS.1 z15 ⟨by omega, by omega⟩ ) (fun q16 _ wq16 => ?_)
    obtain ⟨pq16, oq16, hq16⟩ := q16
    obtain ⟨xq16, zq16, gq16, aq16, bq16⟩ := wq16
    refine ⟨_, gq16, ?_⟩
    show gz gPP gGG gcn _ _ 20 [some (.int (zi bd)), some (.int (zi a)), some (.int (zi b)), some (.int (zi c))] [.int (zi zq16)] hq16 _
    have sq16 : gSs rT 1027 ty [] h hq16 := gSs.tr hS xq16 (by decide)
    exact gz_end (I := .ireturn) (len := 1) rfl (Or.inl rfl) ⟨sq16, zq16, rfl, (by omega), (by omega)⟩
set_option maxRecDepth 20000 in
set_option maxHeartbeats 4000000 in
theorem cl_Collected_append2 (d : Nat) {ty : Nat → Nat} {h : gH} (hJ : gJ rT 1027 ty h) (x : Nat) (tx : ty x = 51) (b : Int) (rb : (-128) ≤ b ∧ b ≤ 127) (sz : Int) (esz : h.2.2.2.2 x 1 = .int (zi sz)) (rsz : 0 ≤ sz ∧ sz ≤ 2000) (uq : gUq ty) : gz gPP gGG gcn (d + 0) gt69 0 (gent [.ref x, .int (zi b)] 2) [] h (fun q _ => gSs rT 1027 ty [51001, 52999] h q.2.2 ∧ ∃ sz1 : Int, gfin gt69 q.1 q.2.1 = some none ∧ q.2.2.2.2.2.2 x 1 = .int (zi sz1) ∧ 0 ≤ sz1 ∧ sz1 ≤ 2000 ∧ (sz < 2000 → sz1 = sz + 1) ∧ (2000 ≤ sz → sz1 = sz)) := by
  have hS : gSs rT 1027 ty [51001, 52999] h h := gSs.rf hJ
  refine gz_s 1 (pc' := 1) (L' := [some (.ref x), some (.int (zi b))]) (S' := [.ref x]) rfl ?_
  refine gs_gtk rfl (by decide) rfl hS.1 tx rfl rfl esz ?_
  refine gz_s 1 (pc' := 5) (L' := [some (.ref x), some (.int (zi b))]) (S' := [.ref x, .int (zi sz)]) rfl ?_
  refine gs_gtr rfl (by decide) rfl hS.1 tx rfl rfl rfl (fun c1 ec1 tc1 => ?_)
  refine gs_len rfl (by decide) hS.1 tc1 rfl rfl rfl (fun z2 ez2 az2 bz2 => ?_)
  have cz2 : 2000 ≤ z2 ∧ z2 ≤ 2000 := ⟨az2, bz2⟩
  by_cases hc3 : (z2 : Int) ≤ sz
  · refine gy_icT (pc' := 32) rfl (by decide) (by decide) (by omega) (by omega) hc3 ?_
    exact gz_end (I := .return_) (len := 1) rfl (Or.inl rfl) ⟨hS, sz, rfl, esz, (by omega), (by omega), (by omega), (by omega)⟩
  · refine gy_icF rfl (by decide) (by decide) (by omega) (by omega) hc3 ?_
    refine gz_s 1 (pc' := 13) (L' := [some (.ref x), some (.int (zi b))]) (S' := [.ref x]) rfl ?_
    refine gs_gtk rfl (by decide) rfl hS.1 tx rfl rfl ec1 ?_
    refine gz_s 1 (pc' := 17) (L' := [some (.ref x), some (.int (zi b))]) (S' := [.ref x, .ref c1]) rfl ?_
    refine gs_gtk rfl (by decide) rfl hS.1 tx rfl rfl esz ?_
    refine gz_s 1 (pc' := 21) (L' := [some (.ref x), some (.int (zi b))]) (S' := [.int (zi b), .int (zi sz), .ref c1]) rfl ?_
    have hl4 : 2000 ≤ h.2.2.2.1 c1 ∧ h.2.2.2.1 c1 ≤ 2000 := gJ.rowl (G := gGG) hS.1 tc1 rfl
    refine gs_bast rfl (by decide) hS tc1 rfl rfl rfl (by decide) (fun _ => rfl) (by decide) (by omega) (by omega) (fun _ => (by decide : (52999 : Nat) ∈ ([51001, 52999] : List Nat))) (fun h5 sh5 fh5 => ?_)
    have s6 := (fh5 x 1 (fun q => absurd (((tx).symm.trans (congrArg ty q.1)).trans tc1) (by decide))).trans esz
    have s7 := (fh5 x 0 (fun q => absurd (((tx).symm.trans (congrArg ty q.1)).trans tc1) (by decide))).trans ec1
    refine gz_s 2 (pc' := 24) (L' := [some (.ref x), some (.int (zi b))]) (S' := [.ref x, .ref x]) rfl ?_
    refine gs_gtk rfl (by decide) rfl sh5.1 tx rfl rfl s6 ?_
    refine gy_s 2 (pc' := 29) (L' := [some (.ref x), some (.int (zi b))]) (S' := [.int ((zi sz) + (zi 1)), .ref x]) (L2 := [some (.ref x), some (.int (zi b))]) (S2 := [.int (zi (sz + 1)), .ref x]) rfl (by simp only [zi_add, zi_sub, zi_mul, zi_neg, zi_and1, zi_and7, zi_and15, zi_and31, zi_and255]) (by simp only [zi_add, zi_sub, zi_mul, zi_neg, zi_and1, zi_and7, zi_and15, zi_and31, zi_and255]) ?_
    refine gs_put rfl (by decide) rfl sh5 tx rfl rfl rfl rfl (Or.inl rfl) (by decide) (by omega) (by omega) (fun h8 sh8 eh8 fh8 => ?_)
    have s9 := (fh8 x 0 (fun q => absurd q.2 (by decide))).trans s7
    exact gz_end (I := .return_) (len := 1) rfl (Or.inl rfl) ⟨sh8, sz + 1, rfl, eh8, (by omega), (by omega), (by omega), (by omega)⟩
set_option maxRecDepth 20000 in
set_option maxHeartbeats 4000000 in
theorem cl_DctFilter_add (d : Nat) {ty : Nat → Nat} {h : gH} (hJ : gJ rT 1027 ty h) (x : Nat) (tx : ty x = 50) (b : Int) (rb : (-128) ≤ b ∧ b ≤ 127) (S : gSS) (ld : Int) (rld : 0 ≤ ld ∧ ld ≤ 192) (lb : Int) (rlb : 1024 ≤ lb ∧ lb ≤ 1000000) (iv : Int) (riv : 0 ≤ iv ∧ iv ≤ 54223962112) (uq : gUq ty) (hyix : gIx ty x ld lb iv S h) : gz gPP gGG gcn (d + 1) gt68 0 (gent [.ref x, .int (zi b)] 2) [] h (fun q _ => ∃ ty9 : Nat → Nat, gSg [] [] [51001, 52999] ty h ty9 q.2.2 ∧ ∃ ld1 lb1 iv1 : Int, 0 ≤ ld1 ∧ ld1 ≤ 192 ∧ 1024 ≤ lb1 ∧ lb1 ≤ 1000000 ∧ 0 ≤ iv1 ∧ iv1 ≤ 54223962112 ∧ (gIx ty9 x ld1 lb1 iv1 S q.2.2) ∧ ((gfin gt68 q.1 q.2.1 = some none ∧ (iv / 262144 % 2048 < 2000) ∧ (iv1 = iv + 262144) ∧ (1024 * (((q.2.2.1 : Int) - h.1) - 31 - 2 * (ld1 - ld)) ≤ lb1 - lb) ∧ (((q.2.2.2.1 : Int) - h.2.1) ≤ 4303 + 12480 * (ld1 - ld) + 2 * (lb1 - lb)) ∧ (ld ≤ ld1) ∧ (lb ≤ lb1)) ∨ (q.2.1 = [] ∧ ((q.1 = 13 ∧ (¬ iv / 262144 % 2048 < 2000))) ∧ (iv1 = iv) ∧ (1024 * (((q.2.2.1 : Int) - h.1) - 31 - 2 * (ld1 - ld)) ≤ lb1 - lb) ∧ (((q.2.2.2.1 : Int) - h.2.1) ≤ 4303 + 12480 * (ld1 - ld) + 2 * (lb1 - lb)) ∧ (ld ≤ ld1) ∧ (lb ≤ lb1)))) := by
  have hS : gSs rT 1027 ty [51001, 52999] h h := gSs.rf hJ
  have G0 : gSg [] [] [51001, 52999] ty h ty h := gSg.rf hJ (fun x hx => by cases hx)
  obtain ⟨pic, b0, b1, b2, dr, sk, bt, cl, n0, c0, i0, dw, dh, scl, ⟨_, tdr, tsk, tbt⟩, ⟨ex2, ex3, ex4, ex0⟩, hpc, htc, ⟨en0, rn0⟩, ⟨eiv, ri0⟩, ⟨ec0, rc0⟩, ⟨lc0, llb⟩, hrr, hrw, ⟨edw, rdw⟩, ⟨edh, rdh⟩, hwh, hcd, hxr, ⟨hsw, hc0⟩, htz, tcl, ex9, ⟨ecl, rcl⟩⟩ := hyix
  have tpic := hpc.1.1
  have tb0 := hpc.1.2.1
  have tb1 := hpc.1.2.2.1
  have tb2 := hpc.1.2.2.2
  refine gz_s 1 (pc' := 1) (L' := [some (.ref x), some (.int (zi b))]) (S' := [.ref x]) rfl ?_
  refine gs_gtk rfl (by decide) rfl hS.1 tx rfl rfl ex9 ?_
  refine gs_gtk rfl (by decide) rfl hS.1 tcl rfl rfl ecl ?_
  refine gz_s 1 (pc' := 10) (L' := [some (.ref x), some (.int (zi b))]) (S' := [.int (zi 2000), .int (zi scl)]) rfl ?_
  by_cases hc1 : (scl : Int) < 2000
  · refine gy_icT (pc' := 23) rfl (by decide) (by decide) (by omega) (by omega) hc1 ?_
    refine gz_s 1 (pc' := 24) (L' := [some (.ref x), some (.int (zi b))]) (S' := [.ref x]) rfl ?_
    refine gs_gtk rfl (by decide) rfl hS.1 tx rfl rfl ex9 ?_
    refine gz_s 1 (pc' := 28) (L' := [some (.ref x), some (.int (zi b))]) (S' := [.int (zi b), .ref cl]) rfl ?_
    refine gz_call rfl (by decide) rfl (by decide) (by decide) (gcal_of rfl rfl rfl (Nat.le_of_ble_eq_true rfl) (gJ.recv (G := gGG) hS.1 tcl rfl rfl)) (cl_Collected_append2 _ hS.1 cl tcl b ⟨by omega, by omega⟩ scl ecl ⟨by omega, by omega⟩ uq) (fun q2 _ wq2 => ?_)
    obtain ⟨pq2, oq2, hq2⟩ := q2
    obtain ⟨xq2, fq2_0, gq2, efq2_0, afq2_0, bfq2_0, uq2_0, uq2_1⟩ := wq2
    refine ⟨_, gq2, ?_⟩
    show gz gPP gGG gcn _ _ 31 [some (.ref x), some (.int (zi b))] [] hq2 _
    have sq2 : gSs rT 1027 ty [51001, 52999] h hq2 := gSs.tr hS xq2 (by decide)
    have s3 := (xq2.2.2.2.2.2 x 2 (by rw [tx]; decide)).trans ex2
    have s4 := (xq2.2.2.2.2.2 x 3 (by rw [tx]; decide)).trans ex3
    have s5 := (xq2.2.2.2.2.2 x 4 (by rw [tx]; decide)).trans ex4
    have s6 := (xq2.2.2.2.2.2 sk 0 (by rw [tsk]; decide)).trans ex0
    have s7 := (xq2.2.2.2.2.2 x 0 (by rw [tx]; decide)).trans ex9
    have s8 := (xq2.2.2.2.2.2 dr 8 (by rw [tdr]; decide)).trans en0
    have s9 := (xq2.2.2.2.2.2 dr 3 (by rw [tdr]; decide)).trans eiv
    have s10 := (xq2.2.2.2.2.2 dr 1 (by rw [tdr]; decide)).trans edw
    have s11 := (xq2.2.2.2.2.2 dr 2 (by rw [tdr]; decide)).trans edh
    have s12 := (xq2.2.2.2.2.2 sk 1 (by rw [tsk]; decide)).trans ec0
    have pr13 := gXr.fr xq2.2 (by decide) hxr
    have pr14 := gSW.fr xq2.2 (by decide) hsw
    have pr15 := gPC.fr xq2.2 (by decide) hpc
    have pr16 := gTc.fr xq2.2 (by decide) htc
    have pr17 := gRr.fr xq2.2 (by decide) hrr
    have pr18 := gRw.fr xq2.2 (by decide) hrw
    have k19 := sq2.2.1
    have k19b := sq2.2.2.1
    have hl20 : hq2.2.2.2.1 bt = h.2.2.2.1 bt := congrFun sq2.2.2.2.2.1 bt
    have hl21 : 1024 ≤ hq2.2.2.2.1 bt ∧ hq2.2.2.2.1 bt ≤ 1000000 := gJ.rowl (G := gGG) sq2.1 tbt rfl
    have k22 := sq2.2.1
    have k22b := sq2.2.2.1
    have hl23 : hq2.2.2.2.1 bt = h.2.2.2.1 bt := congrFun sq2.2.2.2.2.1 bt
    have hix24 : gIx ty x ld (hq2.2.2.2.1 bt : Int) (64 * dw + n0 + 4096 * dh + 262144 * fq2_0 + 536870912 * i0) S hq2 := ⟨pic, b0, b1, b2, dr, sk, bt, cl, n0, c0, i0, dw, dh, fq2_0, ⟨tx, tdr, tsk, tbt⟩, ⟨s3, s4, s5, s6⟩, pr15, pr16, ⟨s8, by omega, by omega⟩, ⟨s9, by omega, by omega⟩, ⟨s12, by omega, by omega⟩, ⟨by omega, by omega⟩, pr17, pr18, ⟨s10, by omega, by omega⟩, ⟨s11, by omega, by omega⟩, by omega, rfl, pr13, ⟨pr14, hc0⟩, htz, tcl, s7, ⟨efq2_0, by omega, by omega⟩⟩
    have G25 : gSg [] [] [51001, 52999] ty h ty hq2 := gSg.ss G0 sq2 (by decide)
    exact gz_end (I := .return_) (len := 1) rfl (Or.inl rfl) ⟨ty, G25, ld, (hq2.2.2.2.1 bt : Int), (64 * dw + n0 + 4096 * dh + 262144 * fq2_0 + 536870912 * i0), (by omega), (by omega), (by omega), (by omega), (by omega), (by omega), hix24, Or.inl ⟨rfl, (by omega), (by omega), (by dsimp only; omega), (by dsimp only; omega), (by omega), (by omega)⟩⟩
  · refine gy_icF rfl (by decide) (by decide) (by omega) (by omega) hc1 ?_
    have hl26 : 1024 ≤ h.2.2.2.1 bt ∧ h.2.2.2.1 bt ≤ 1000000 := gJ.rowl (G := gGG) hS.1 tbt rfl
    have hix27 : gIx ty x ld (h.2.2.2.1 bt : Int) (64 * dw + n0 + 4096 * dh + 262144 * scl + 536870912 * i0) S h := ⟨pic, b0, b1, b2, dr, sk, bt, cl, n0, c0, i0, dw, dh, scl, ⟨tx, tdr, tsk, tbt⟩, ⟨ex2, ex3, ex4, ex0⟩, hpc, htc, ⟨en0, by omega, by omega⟩, ⟨eiv, by omega, by omega⟩, ⟨ec0, by omega, by omega⟩, ⟨by omega, by omega⟩, hrr, hrw, ⟨edw, by omega, by omega⟩, ⟨edh, by omega, by omega⟩, by omega, rfl, hxr, ⟨hsw, hc0⟩, htz, tcl, ex9, ⟨ecl, by omega, by omega⟩⟩
    have G28 : gSg [] [] [51001, 52999] ty h ty h := gSg.ss G0 hS (by decide)
    exact gz_end (I := .new 51) (len := 3) rfl (Or.inr (by decide)) ⟨ty, G28, ld, (h.2.2.2.1 bt : Int), (64 * dw + n0 + 4096 * dh + 262144 * scl + 536870912 * i0), (by omega), (by omega), (by omega), (by omega), (by omega), (by omega), hix27, Or.inr ⟨rfl, ⟨rfl, (by omega)⟩, (by omega), (by dsimp only; omega), (by dsimp only; omega), (by omega), (by omega)⟩⟩
set_option maxRecDepth 20000 in
set_option maxHeartbeats 4000000 in
theorem cl_DctFilter_sample (d : Nat) {ty : Nat → Nat} {h : gH} (hJ : gJ rT 1027 ty h) (x : Nat) (tx : ty x = 50) (a : Int) (ra : (-2147483648) ≤ a ∧ a ≤ 2147483647) (b : Int) (rb : (-2147483648) ≤ b ∧ b ≤ 2147483647) (c : Int) (rc : (-2147483648) ≤ c ∧ c ≤ 2147483647) (hyst : gSta ty h) (S : gSS) (ld : Int) (rld : 0 ≤ ld ∧ ld ≤ 192) (lb : Int) (rlb : 1024 ≤ lb ∧ lb ≤ 1000000) (iv : Int) (riv : 0 ≤ iv ∧ iv ≤ 54223962112) (uq : gUq ty) (hyix : gIx ty x ld lb iv S h) : gz gPP gGG gcn (d + 3) gt70 0 (gent [.ref x, .int (zi a), .int (zi b), .int (zi c)] 8) [] h (fun q _ => ∃ ty9 : Nat → Nat, gSg [] [] [] ty h ty9 q.2.2 ∧ ∃ ld1 lb1 iv1 : Int, 0 ≤ ld1 ∧ ld1 ≤ 192 ∧ 1024 ≤ lb1 ∧ lb1 ≤ 1000000 ∧ 0 ≤ iv1 ∧ iv1 ≤ 54223962112 ∧ (gIx ty9 x ld1 lb1 iv1 S q.2.2) ∧ ((∃ z : Int, gfin gt70 q.1 q.2.1 = some (some (.int (zi z))) ∧ (-2147483648) ≤ z ∧ z ≤ 2147483647 ∧ (iv1 = iv) ∧ (1024 * (((q.2.2.1 : Int) - h.1) - 31 - 2 * (ld1 - ld)) ≤ lb1 - lb) ∧ (((q.2.2.2.1 : Int) - h.2.1) ≤ 4303 + 12480 * (ld1 - ld) + 2 * (lb1 - lb)) ∧ (ld ≤ ld1) ∧ (lb ≤ lb1)) ∨ (q.2.1 = [] ∧ ((q.1 = 67)) ∧ (iv1 = iv) ∧ (1024 * (((q.2.2.1 : Int) - h.1) - 31 - 2 * (ld1 - ld)) ≤ lb1 - lb) ∧ (((q.2.2.2.1 : Int) - h.2.1) ≤ 4303 + 12480 * (ld1 - ld) + 2 * (lb1 - lb)) ∧ (ld ≤ ld1) ∧ (lb ≤ lb1)))) := by
  have hS : gSs rT 1027 ty [] h h := gSs.rf hJ
  have G0 : gSg [] [] [] ty h ty h := gSg.rf hJ (fun x hx => by cases hx)
  obtain ⟨pic, b0, b1, b2, dr, sk, bt, cl, n0, c0, i0, dw, dh, scl, ⟨_, tdr, tsk, tbt⟩, ⟨ex2, ex3, ex4, ex0⟩, hpc, htc, ⟨en0, rn0⟩, ⟨eiv, ri0⟩, ⟨ec0, rc0⟩, ⟨lc0, llb⟩, hrr, hrw, ⟨edw, rdw⟩, ⟨edh, rdh⟩, hwh, hcd, hxr, ⟨hsw, hc0⟩, htz, tcl, ex9, ⟨ecl, rcl⟩⟩ := hyix
  have tpic := hpc.1.1
  have tb0 := hpc.1.2.1
  have tb1 := hpc.1.2.2.1
  have tb2 := hpc.1.2.2.2
  have hpq1 := hpc
  obtain ⟨_, bno, coo, dmo, vvo, ⟨tbno, tcoo, tdmo⟩, ⟨er0o, er1o, er2o, er3o, er4o, er5o⟩, hvvo, hrro, ⟨yy0o, yy1o, yy2o, yy3o, yy4o, yy5o, yy6o, yy7o⟩, ll0o, ll1o, ll2o, ll3o⟩ := hpq1
  have excno : h.2.2.2.2 pic 7 = .int (zi (vvo 0)) := hvvo (0, 7, 0) (by decide)
  have rrcno : 0 ≤ vvo 0 ∧ vvo 0 ≤ 3 := hrro (0, 0, 3) (by decide)
  have exuco : h.2.2.2.2 pic 12 = .int (zi (vvo 1)) := hvvo (0, 12, 1) (by decide)
  have rruco : 0 ≤ vvo 1 ∧ vvo 1 ≤ 8 := hrro (1, 0, 8) (by decide)
  have exuro : h.2.2.2.2 pic 13 = .int (zi (vvo 2)) := hvvo (0, 13, 2) (by decide)
  have rruro : 0 ≤ vvo 2 ∧ vvo 2 ≤ 8 := hrro (2, 0, 8) (by decide)
  have exblo : h.2.2.2.2 pic 8 = .int (zi (vvo 3)) := hvvo (0, 8, 3) (by decide)
  have rrblo : 0 ≤ vvo 3 ∧ vvo 3 ≤ 192 := hrro (3, 0, 192) (by decide)
  have exwo : h.2.2.2.2 pic 5 = .int (zi (vvo 4)) := hvvo (0, 5, 4) (by decide)
  have rrwo : 0 ≤ vvo 4 ∧ vvo 4 ≤ 64 := hrro (4, 0, 64) (by decide)
  have exhho : h.2.2.2.2 pic 6 = .int (zi (vvo 5)) := hvvo (0, 6, 5) (by decide)
  have rrhho : 0 ≤ vvo 5 ∧ vvo 5 ≤ 64 := hrro (5, 0, 64) (by decide)
  have exgho : h.2.2.2.2 pic 10 = .int (zi (vvo 6)) := hvvo (0, 10, 6) (by decide)
  have rrgho : 1 ≤ vvo 6 ∧ vvo 6 ≤ 2 := hrro (6, 1, 2) (by decide)
  have exgvo : h.2.2.2.2 pic 11 = .int (zi (vvo 7)) := hvvo (0, 11, 7) (by decide)
  have rrgvo : 1 ≤ vvo 7 ∧ vvo 7 ≤ 2 := hrro (7, 1, 2) (by decide)
  have exhb0o : h.2.2.2.2 b0 1 = .int (zi (vvo 8)) := hvvo (1, 1, 8) (by decide)
  have rrhb0o : (-1) ≤ vvo 8 ∧ vvo 8 ≤ 15 := hrro (8, (-1), 15) (by decide)
  have exvb0o : h.2.2.2.2 b0 2 = .int (zi (vvo 9)) := hvvo (1, 2, 9) (by decide)
  have rrvb0o : 0 ≤ vvo 9 ∧ vvo 9 ≤ 15 := hrro (9, 0, 15) (by decide)
  have extq0o : h.2.2.2.2 b0 3 = .int (zi (vvo 10)) := hvvo (1, 3, 10) (by decide)
  have rrtq0o : (-1) ≤ vvo 10 ∧ vvo 10 ≤ 255 := hrro (10, (-1), 255) (by decide)
  have exC0o : h.2.2.2.2 b0 4 = .int (zi (vvo 11)) := hvvo (1, 4, 11) (by decide)
  have rrC0o : 0 ≤ vvo 11 ∧ vvo 11 ≤ 16 := hrro (11, 0, 16) (by decide)
  have exR0o : h.2.2.2.2 b0 5 = .int (zi (vvo 12)) := hvvo (1, 5, 12) (by decide)
  have rrR0o : 0 ≤ vvo 12 ∧ vvo 12 ≤ 16 := hrro (12, 0, 16) (by decide)
  have exoc0o : h.2.2.2.2 b0 6 = .int (zi (vvo 13)) := hvvo (1, 6, 13) (by decide)
  have rroc0o : 0 ≤ vvo 13 ∧ vvo 13 ≤ 16 := hrro (13, 0, 16) (by decide)
  have exor0o : h.2.2.2.2 b0 7 = .int (zi (vvo 14)) := hvvo (1, 7, 14) (by decide)
  have rror0o : 0 ≤ vvo 14 ∧ vvo 14 ≤ 16 := hrro (14, 0, 16) (by decide)
  have exf0o : h.2.2.2.2 b0 8 = .int (zi (vvo 15)) := hvvo (1, 8, 15) (by decide)
  have rrf0o : 0 ≤ vvo 15 ∧ vvo 15 ≤ 192 := hrro (15, 0, 192) (by decide)
  have exhb1o : h.2.2.2.2 b1 1 = .int (zi (vvo 16)) := hvvo (2, 1, 16) (by decide)
  have rrhb1o : (-1) ≤ vvo 16 ∧ vvo 16 ≤ 15 := hrro (16, (-1), 15) (by decide)
  have exvb1o : h.2.2.2.2 b1 2 = .int (zi (vvo 17)) := hvvo (2, 2, 17) (by decide)
  have rrvb1o : 0 ≤ vvo 17 ∧ vvo 17 ≤ 15 := hrro (17, 0, 15) (by decide)
  have extq1o : h.2.2.2.2 b1 3 = .int (zi (vvo 18)) := hvvo (2, 3, 18) (by decide)
  have rrtq1o : (-1) ≤ vvo 18 ∧ vvo 18 ≤ 255 := hrro (18, (-1), 255) (by decide)
  have exC1o : h.2.2.2.2 b1 4 = .int (zi (vvo 19)) := hvvo (2, 4, 19) (by decide)
  have rrC1o : 0 ≤ vvo 19 ∧ vvo 19 ≤ 16 := hrro (19, 0, 16) (by decide)
  have exR1o : h.2.2.2.2 b1 5 = .int (zi (vvo 20)) := hvvo (2, 5, 20) (by decide)
  have rrR1o : 0 ≤ vvo 20 ∧ vvo 20 ≤ 16 := hrro (20, 0, 16) (by decide)
  have exoc1o : h.2.2.2.2 b1 6 = .int (zi (vvo 21)) := hvvo (2, 6, 21) (by decide)
  have rroc1o : 0 ≤ vvo 21 ∧ vvo 21 ≤ 16 := hrro (21, 0, 16) (by decide)
  have exor1o : h.2.2.2.2 b1 7 = .int (zi (vvo 22)) := hvvo (2, 7, 22) (by decide)
  have rror1o : 0 ≤ vvo 22 ∧ vvo 22 ≤ 16 := hrro (22, 0, 16) (by decide)
  have exf1o : h.2.2.2.2 b1 8 = .int (zi (vvo 23)) := hvvo (2, 8, 23) (by decide)
  have rrf1o : 0 ≤ vvo 23 ∧ vvo 23 ≤ 192 := hrro (23, 0, 192) (by decide)
  have exhb2o : h.2.2.2.2 b2 1 = .int (zi (vvo 24)) := hvvo (3, 1, 24) (by decide)
  have rrhb2o : (-1) ≤ vvo 24 ∧ vvo 24 ≤ 15 := hrro (24, (-1), 15) (by decide)
  have exvb2o : h.2.2.2.2 b2 2 = .int (zi (vvo 25)) := hvvo (3, 2, 25) (by decide)
  have rrvb2o : 0 ≤ vvo 25 ∧ vvo 25 ≤ 15 := hrro (25, 0, 15) (by decide)
  have extq2o : h.2.2.2.2 b2 3 = .int (zi (vvo 26)) := hvvo (3, 3, 26) (by decide)
  have rrtq2o : (-1) ≤ vvo 26 ∧ vvo 26 ≤ 255 := hrro (26, (-1), 255) (by decide)
  have exC2o : h.2.2.2.2 b2 4 = .int (zi (vvo 27)) := hvvo (3, 4, 27) (by decide)
  have rrC2o : 0 ≤ vvo 27 ∧ vvo 27 ≤ 16 := hrro (27, 0, 16) (by decide)
  have exR2o : h.2.2.2.2 b2 5 = .int (zi (vvo 28)) := hvvo (3, 5, 28) (by decide)
  have rrR2o : 0 ≤ vvo 28 ∧ vvo 28 ≤ 16 := hrro (28, 0, 16) (by decide)
  have exoc2o : h.2.2.2.2 b2 6 = .int (zi (vvo 29)) := hvvo (3, 6, 29) (by decide)
  have rroc2o : 0 ≤ vvo 29 ∧ vvo 29 ≤ 16 := hrro (29, 0, 16) (by decide)
  have exor2o : h.2.2.2.2 b2 7 = .int (zi (vvo 30)) := hvvo (3, 7, 30) (by decide)
  have rror2o : 0 ≤ vvo 30 ∧ vvo 30 ≤ 16 := hrro (30, 0, 16) (by decide)
  have exf2o : h.2.2.2.2 b2 8 = .int (zi (vvo 31)) := hvvo (3, 8, 31) (by decide)
  have rrf2o : 0 ≤ vvo 31 ∧ vvo 31 ≤ 192 := hrro (31, 0, 192) (by decide)
  refine gz_s 1 (pc' := 1) (L' := [some (.ref x), some (.int (zi a)), some (.int (zi b)), some (.int (zi c)), none, none, none, none]) (S' := [.int (zi c)]) rfl ?_
  have jn2 : ∀ (jn2v0 : Int), ((0 ≤ jn2v0) ∧ (jn2v0 ≤ 1) ∧ (jn2v0 = 1 → (0 ≤ c ∧ (c < vvo 0 ∨ (3 ≤ c ∧ c ≤ 5))))) → gz gPP gGG gcn (d + 3) gt70 30 [some (.ref x), some (.int (zi a)), some (.int (zi b)), some (.int (zi c)), none, none, none, none] [.int (zi jn2v0)] h (fun q _ => ∃ ty9 : Nat → Nat, gSg [] [] [] ty h ty9 q.2.2 ∧ ∃ ld1 lb1 iv1 : Int, 0 ≤ ld1 ∧ ld1 ≤ 192 ∧ 1024 ≤ lb1 ∧ lb1 ≤ 1000000 ∧ 0 ≤ iv1 ∧ iv1 ≤ 54223962112 ∧ (gIx ty9 x ld1 lb1 iv1 S q.2.2) ∧ ((∃ z : Int, gfin gt70 q.1 q.2.1 = some (some (.int (zi z))) ∧ (-2147483648) ≤ z ∧ z ≤ 2147483647 ∧ (iv1 = iv) ∧ (1024 * (((q.2.2.1 : Int) - h.1) - 31 - 2 * (ld1 - ld)) ≤ lb1 - lb) ∧ (((q.2.2.2.1 : Int) - h.2.1) ≤ 4303 + 12480 * (ld1 - ld) + 2 * (lb1 - lb)) ∧ (ld ≤ ld1) ∧ (lb ≤ lb1)) ∨ (q.2.1 = [] ∧ ((q.1 = 67)) ∧ (iv1 = iv) ∧ (1024 * (((q.2.2.1 : Int) - h.1) - 31 - 2 * (ld1 - ld)) ≤ lb1 - lb) ∧ (((q.2.2.2.1 : Int) - h.2.1) ≤ 4303 + 12480 * (ld1 - ld) + 2 * (lb1 - lb)) ∧ (ld ≤ ld1) ∧ (lb ≤ lb1)))) := by
    intro jn2v0 jn2d
    refine gz_s 2 (pc' := 34) (L' := [some (.ref x), some (.int (zi a)), some (.int (zi b)), some (.int (zi c)), some (.int (zi jn2v0)), none, none, none]) (S' := [.int (zi jn2v0)]) rfl ?_
    by_cases hc3 : (jn2v0 : Int) = 0
    · refine gy_ifT (pc' := 67) rfl (by decide) (by decide) (by omega) hc3 ?_
      have hl4 : 1024 ≤ h.2.2.2.1 bt ∧ h.2.2.2.1 bt ≤ 1000000 := gJ.rowl (G := gGG) hS.1 tbt rfl
      have hl5 : 0 ≤ h.2.2.2.1 coo ∧ h.2.2.2.1 coo ≤ 12288 := gJ.rowl (G := gGG) hS.1 tcoo rfl
      have hl6 : 0 ≤ h.2.2.2.1 dmo ∧ h.2.2.2.1 dmo ≤ 192 := gJ.rowl (G := gGG) hS.1 tdmo rfl
      have hix7 : gIx ty x ld (h.2.2.2.1 bt : Int) (64 * dw + n0 + 4096 * dh + 262144 * scl + 536870912 * i0) S h := ⟨pic, b0, b1, b2, dr, sk, bt, cl, n0, c0, i0, dw, dh, scl, ⟨tx, tdr, tsk, tbt⟩, ⟨ex2, ex3, ex4, ex0⟩, hpc, htc, ⟨en0, by omega, by omega⟩, ⟨eiv, by omega, by omega⟩, ⟨ec0, by omega, by omega⟩, ⟨by omega, by omega⟩, hrr, hrw, ⟨edw, by omega, by omega⟩, ⟨edh, by omega, by omega⟩, by omega, rfl, hxr, ⟨hsw, hc0⟩, htz, tcl, ex9, ⟨ecl, by omega, by omega⟩⟩
      have G8 : gSg [] [] [] ty h ty h := gSg.ss G0 hS (by decide)
      exact gz_end (I := .new 84) (len := 3) rfl (Or.inr (by decide)) ⟨ty, G8, ld, (h.2.2.2.1 bt : Int), (64 * dw + n0 + 4096 * dh + 262144 * scl + 536870912 * i0), (by omega), (by omega), (by omega), (by omega), (by omega), (by omega), hix7, Or.inr ⟨rfl, rfl, (by omega), (by dsimp only; omega), (by dsimp only; omega), (by omega), (by omega)⟩⟩
    · refine gy_ifF rfl (by decide) (by decide) (by omega) hc3 ?_
      refine gz_s 1 (pc' := 38) (L' := [some (.ref x), some (.int (zi a)), some (.int (zi b)), some (.int (zi c)), some (.int (zi jn2v0)), none, none, none]) (S' := [.int (zi a)]) rfl ?_
      by_cases hc9 : (a : Int) < 0
      · refine gy_ifT (pc' := 67) rfl (by decide) (by decide) (by omega) hc9 ?_
        have hl10 : 1024 ≤ h.2.2.2.1 bt ∧ h.2.2.2.1 bt ≤ 1000000 := gJ.rowl (G := gGG) hS.1 tbt rfl
        have hl11 : 0 ≤ h.2.2.2.1 coo ∧ h.2.2.2.1 coo ≤ 12288 := gJ.rowl (G := gGG) hS.1 tcoo rfl
        have hl12 : 0 ≤ h.2.2.2.1 dmo ∧ h.2.2.2.1 dmo ≤ 192 := gJ.rowl (G := gGG) hS.1 tdmo rfl
        have hix13 : gIx ty x ld (h.2.2.2.1 bt : Int) (64 * dw + n0 + 4096 * dh + 262144 * scl + 536870912 * i0) S h := ⟨pic, b0, b1, b2, dr, sk, bt, cl, n0, c0, i0, dw, dh, scl, ⟨tx, tdr, tsk, tbt⟩, ⟨ex2, ex3, ex4, ex0⟩, hpc, htc, ⟨en0, by omega, by omega⟩, ⟨eiv, by omega, by omega⟩, ⟨ec0, by omega, by omega⟩, ⟨by omega, by omega⟩, hrr, hrw, ⟨edw, by omega, by omega⟩, ⟨edh, by omega, by omega⟩, by omega, rfl, hxr, ⟨hsw, hc0⟩, htz, tcl, ex9, ⟨ecl, by omega, by omega⟩⟩
        have G14 : gSg [] [] [] ty h ty h := gSg.ss G0 hS (by decide)
        exact gz_end (I := .new 84) (len := 3) rfl (Or.inr (by decide)) ⟨ty, G14, ld, (h.2.2.2.1 bt : Int), (64 * dw + n0 + 4096 * dh + 262144 * scl + 536870912 * i0), (by omega), (by omega), (by omega), (by omega), (by omega), (by omega), hix13, Or.inr ⟨rfl, rfl, (by omega), (by dsimp only; omega), (by dsimp only; omega), (by omega), (by omega)⟩⟩
      · refine gy_ifF rfl (by decide) (by decide) (by omega) hc9 ?_
        refine gz_s 2 (pc' := 43) (L' := [some (.ref x), some (.int (zi a)), some (.int (zi b)), some (.int (zi c)), some (.int (zi jn2v0)), none, none, none]) (S' := [.ref x, .int (zi a)]) rfl ?_
        refine gs_gtk rfl (by decide) rfl hS.1 tx rfl rfl ex2 ?_
        refine gs_gtk rfl (by decide) rfl hS.1 tpic rfl rfl exwo ?_
        by_cases hc15 : (vvo 4 : Int) ≤ a
        · refine gy_icT (pc' := 67) rfl (by decide) (by decide) (by omega) (by omega) hc15 ?_
          have hl16 : 1024 ≤ h.2.2.2.1 bt ∧ h.2.2.2.1 bt ≤ 1000000 := gJ.rowl (G := gGG) hS.1 tbt rfl
          have hl17 : 0 ≤ h.2.2.2.1 coo ∧ h.2.2.2.1 coo ≤ 12288 := gJ.rowl (G := gGG) hS.1 tcoo rfl
          have hl18 : 0 ≤ h.2.2.2.1 dmo ∧ h.2.2.2.1 dmo ≤ 192 := gJ.rowl (G := gGG) hS.1 tdmo rfl
          have hix19 : gIx ty x ld (h.2.2.2.1 bt : Int) (64 * dw + n0 + 4096 * dh + 262144 * scl + 536870912 * i0) S h := ⟨pic, b0, b1, b2, dr, sk, bt, cl, n0, c0, i0, dw, dh, scl, ⟨tx, tdr, tsk, tbt⟩, ⟨ex2, ex3, ex4, ex0⟩, hpc, htc, ⟨en0, by omega, by omega⟩, ⟨eiv, by omega, by omega⟩, ⟨ec0, by omega, by omega⟩, ⟨by omega, by omega⟩, hrr, hrw, ⟨edw, by omega, by omega⟩, ⟨edh, by omega, by omega⟩, by omega, rfl, hxr, ⟨hsw, hc0⟩, htz, tcl, ex9, ⟨ecl, by omega, by omega⟩⟩
          have G20 : gSg [] [] [] ty h ty h := gSg.ss G0 hS (by decide)
          exact gz_end (I := .new 84) (len := 3) rfl (Or.inr (by decide)) ⟨ty, G20, ld, (h.2.2.2.1 bt : Int), (64 * dw + n0 + 4096 * dh + 262144 * scl + 536870912 * i0), (by omega), (by omega), (by omega), (by omega), (by omega), (by omega), hix19, Or.inr ⟨rfl, rfl, (by omega), (by dsimp only; omega), (by dsimp only; omega), (by omega), (by omega)⟩⟩
        · refine gy_icF rfl (by decide) (by decide) (by omega) (by omega) hc15 ?_
          refine gz_s 1 (pc' := 53) (L' := [some (.ref x), some (.int (zi a)), some (.int (zi b)), some (.int (zi c)), some (.int (zi jn2v0)), none, none, none]) (S' := [.int (zi b)]) rfl ?_
          by_cases hc21 : (b : Int) < 0
          · refine gy_ifT (pc' := 67) rfl (by decide) (by decide) (by omega) hc21 ?_
            have hl22 : 1024 ≤ h.2.2.2.1 bt ∧ h.2.2.2.1 bt ≤ 1000000 := gJ.rowl (G := gGG) hS.1 tbt rfl
            have hl23 : 0 ≤ h.2.2.2.1 coo ∧ h.2.2.2.1 coo ≤ 12288 := gJ.rowl (G := gGG) hS.1 tcoo rfl
            have hl24 : 0 ≤ h.2.2.2.1 dmo ∧ h.2.2.2.1 dmo ≤ 192 := gJ.rowl (G := gGG) hS.1 tdmo rfl
            have hix25 : gIx ty x ld (h.2.2.2.1 bt : Int) (64 * dw + n0 + 4096 * dh + 262144 * scl + 536870912 * i0) S h := ⟨pic, b0, b1, b2, dr, sk, bt, cl, n0, c0, i0, dw, dh, scl, ⟨tx, tdr, tsk, tbt⟩, ⟨ex2, ex3, ex4, ex0⟩, hpc, htc, ⟨en0, by omega, by omega⟩, ⟨eiv, by omega, by omega⟩, ⟨ec0, by omega, by omega⟩, ⟨by omega, by omega⟩, hrr, hrw, ⟨edw, by omega, by omega⟩, ⟨edh, by omega, by omega⟩, by omega, rfl, hxr, ⟨hsw, hc0⟩, htz, tcl, ex9, ⟨ecl, by omega, by omega⟩⟩
            have G26 : gSg [] [] [] ty h ty h := gSg.ss G0 hS (by decide)
            exact gz_end (I := .new 84) (len := 3) rfl (Or.inr (by decide)) ⟨ty, G26, ld, (h.2.2.2.1 bt : Int), (64 * dw + n0 + 4096 * dh + 262144 * scl + 536870912 * i0), (by omega), (by omega), (by omega), (by omega), (by omega), (by omega), hix25, Or.inr ⟨rfl, rfl, (by omega), (by dsimp only; omega), (by dsimp only; omega), (by omega), (by omega)⟩⟩
          · refine gy_ifF rfl (by decide) (by decide) (by omega) hc21 ?_
            refine gz_s 2 (pc' := 58) (L' := [some (.ref x), some (.int (zi a)), some (.int (zi b)), some (.int (zi c)), some (.int (zi jn2v0)), none, none, none]) (S' := [.ref x, .int (zi b)]) rfl ?_
            refine gs_gtk rfl (by decide) rfl hS.1 tx rfl rfl ex2 ?_
            refine gs_gtk rfl (by decide) rfl hS.1 tpic rfl rfl exhho ?_
            by_cases hc27 : (b : Int) < vvo 5
            · refine gy_icT (pc' := 77) rfl (by decide) (by decide) (by omega) (by omega) hc27 ?_
              refine gz_s 2 (pc' := 79) (L' := [some (.ref x), some (.int (zi a)), some (.int (zi b)), some (.int (zi c)), some (.int (zi jn2v0)), none, none, none]) (S' := [.ref x, .int (zi c)]) rfl ?_
              refine gs_gtk rfl (by decide) rfl hS.1 tx rfl rfl ex2 ?_
              refine gs_gtk rfl (by decide) rfl hS.1 tpic rfl rfl excno ?_
              by_cases hc28 : (vvo 0 : Int) ≤ c
              · refine gy_icT (pc' := 99) rfl (by decide) (by decide) (by omega) (by omega) hc28 ?_
                refine gz_s 1 (pc' := 100) (L' := [some (.ref x), some (.int (zi a)), some (.int (zi b)), some (.int (zi c)), some (.int (zi jn2v0)), none, none, none]) (S' := [.ref x]) rfl ?_
                refine gs_gtk rfl (by decide) rfl hS.1 tx rfl rfl ex2 ?_
                refine gz_s 3 (pc' := 106) (L' := [some (.ref x), some (.int (zi a)), some (.int (zi b)), some (.int (zi c)), some (.int (zi jn2v0)), none, none, none]) (S' := [.int (zi b), .int (zi a), .int (zi 0), .ref pic]) rfl ?_
                have hl29 : h.2.2.2.1 coo = h.2.2.2.1 coo := congrFun hS.2.2.2.2.1 coo
                refine gz_call rfl (by decide) rfl (by decide) (by decide) (gcal_of rfl rfl rfl (Nat.le_of_ble_eq_true rfl) (gJ.recv (G := gGG) hS.1 tpic rfl rfl)) (cl_Picture_sampleAt _ hS.1 pic tpic 0 ⟨by omega, by omega⟩ a ⟨by omega, by omega⟩ b ⟨by omega, by omega⟩ bno er0o tbno b0 er1o tb0 b1 er2o tb1 b2 er3o tb2 coo er4o tcoo (gSta.fr hS.2 (by decide) hyst) (vvo 0) excno ⟨by omega, by omega⟩ (vvo 1) exuco ⟨by omega, by omega⟩ (vvo 2) exuro ⟨by omega, by omega⟩ (vvo 3) exblo ⟨by omega, by omega⟩ (vvo 4) exwo ⟨by omega, by omega⟩ (vvo 5) exhho ⟨by omega, by omega⟩ (vvo 6) exgho ⟨by omega, by omega⟩ (vvo 7) exgvo ⟨by omega, by omega⟩ (vvo 8) exhb0o ⟨by omega, by omega⟩ (vvo 9) exvb0o ⟨by omega, by omega⟩ (vvo 11) exC0o ⟨by omega, by omega⟩ (vvo 12) exR0o ⟨by omega, by omega⟩ (vvo 13) exoc0o ⟨by omega, by omega⟩ (vvo 14) exor0o ⟨by omega, by omega⟩ (vvo 15) exf0o ⟨by omega, by omega⟩ (vvo 16) exhb1o ⟨by omega, by omega⟩ (vvo 17) exvb1o ⟨by omega, by omega⟩ (vvo 19) exC1o ⟨by omega, by omega⟩ (vvo 20) exR1o ⟨by omega, by omega⟩ (vvo 21) exoc1o ⟨by omega, by omega⟩ (vvo 22) exor1o ⟨by omega, by omega⟩ (vvo 23) exf1o ⟨by omega, by omega⟩ (vvo 24) exhb2o ⟨by omega, by omega⟩ (vvo 25) exvb2o ⟨by omega, by omega⟩ (vvo 27) exC2o ⟨by omega, by omega⟩ (vvo 28) exR2o ⟨by omega, by omega⟩ (vvo 29) exoc2o ⟨by omega, by omega⟩ (vvo 30) exor2o ⟨by omega, by omega⟩ (vvo 31) exf2o ⟨by omega, by omega⟩ (vvo 10) extq0o ⟨by omega, by omega⟩ (vvo 18) extq1o ⟨by omega, by omega⟩ (vvo 26) extq2o ⟨by omega, by omega⟩ (by omega) (by omega) (by omega) (by omega) uq yy0o yy1o yy2o yy3o yy4o yy5o yy7o) (fun q30 _ wq30 => ?_)
                obtain ⟨pq30, oq30, hq30⟩ := q30
                obtain ⟨xq30, zq30, gq30, aq30, bq30⟩ := wq30
                refine ⟨_, gq30, ?_⟩
                show gz gPP gGG gcn _ _ 109 [some (.ref x), some (.int (zi a)), some (.int (zi b)), some (.int (zi c)), some (.int (zi jn2v0)), none, none, none] [.int (zi zq30)] hq30 _
                have sq30 : gSs rT 1027 ty [] h hq30 := gSs.tr hS xq30 (by decide)
                have s31 := (xq30.2.2.2.2.2 x 2 (by rw [tx]; decide)).trans ex2
                have s32 := (xq30.2.2.2.2.2 x 3 (by rw [tx]; decide)).trans ex3
                have s33 := (xq30.2.2.2.2.2 x 4 (by rw [tx]; decide)).trans ex4
                have s34 := (xq30.2.2.2.2.2 sk 0 (by rw [tsk]; decide)).trans ex0
                have s35 := (xq30.2.2.2.2.2 x 0 (by rw [tx]; decide)).trans ex9
                have s36 := (xq30.2.2.2.2.2 dr 8 (by rw [tdr]; decide)).trans en0
                have s37 := (xq30.2.2.2.2.2 dr 3 (by rw [tdr]; decide)).trans eiv
                have s38 := (xq30.2.2.2.2.2 dr 1 (by rw [tdr]; decide)).trans edw
                have s39 := (xq30.2.2.2.2.2 dr 2 (by rw [tdr]; decide)).trans edh
                have s40 := (xq30.2.2.2.2.2 sk 1 (by rw [tsk]; decide)).trans ec0
                have s41 := (xq30.2.2.2.2.2 cl 1 (by rw [tcl]; decide)).trans ecl
                have s42 := (xq30.2.2.2.2.2 pic 0 (by rw [tpic]; decide)).trans er0o
                have s43 := (xq30.2.2.2.2.2 bno 0 (by rw [tbno]; decide)).trans er1o
                have s44 := (xq30.2.2.2.2.2 bno 1 (by rw [tbno]; decide)).trans er2o
                have s45 := (xq30.2.2.2.2.2 bno 2 (by rw [tbno]; decide)).trans er3o
                have s46 := (xq30.2.2.2.2.2 pic 2 (by rw [tpic]; decide)).trans er4o
                have s47 := (xq30.2.2.2.2.2 pic 3 (by rw [tpic]; decide)).trans er5o
                have s48 := (xq30.2.2.2.2.2 pic 7 (by rw [tpic]; decide)).trans excno
                have s49 := (xq30.2.2.2.2.2 pic 12 (by rw [tpic]; decide)).trans exuco
                have s50 := (xq30.2.2.2.2.2 pic 13 (by rw [tpic]; decide)).trans exuro
                have s51 := (xq30.2.2.2.2.2 pic 8 (by rw [tpic]; decide)).trans exblo
                have s52 := (xq30.2.2.2.2.2 pic 5 (by rw [tpic]; decide)).trans exwo
                have s53 := (xq30.2.2.2.2.2 pic 6 (by rw [tpic]; decide)).trans exhho
                have s54 := (xq30.2.2.2.2.2 pic 10 (by rw [tpic]; decide)).trans exgho
                have s55 := (xq30.2.2.2.2.2 pic 11 (by rw [tpic]; decide)).trans exgvo
                have s56 := (xq30.2.2.2.2.2 b0 1 (by rw [tb0]; decide)).trans exhb0o
                have s57 := (xq30.2.2.2.2.2 b0 2 (by rw [tb0]; decide)).trans exvb0o
                have s58 := (xq30.2.2.2.2.2 b0 3 (by rw [tb0]; decide)).trans extq0o
                have s59 := (xq30.2.2.2.2.2 b0 4 (by rw [tb0]; decide)).trans exC0o
                have s60 := (xq30.2.2.2.2.2 b0 5 (by rw [tb0]; decide)).trans exR0o
                have s61 := (xq30.2.2.2.2.2 b0 6 (by rw [tb0]; decide)).trans exoc0o
                have s62 := (xq30.2.2.2.2.2 b0 7 (by rw [tb0]; decide)).trans exor0o
                have s63 := (xq30.2.2.2.2.2 b0 8 (by rw [tb0]; decide)).trans exf0o
                have s64 := (xq30.2.2.2.2.2 b1 1 (by rw [tb1]; decide)).trans exhb1o
                have s65 := (xq30.2.2.2.2.2 b1 2 (by rw [tb1]; decide)).trans exvb1o
                have s66 := (xq30.2.2.2.2.2 b1 3 (by rw [tb1]; decide)).trans extq1o
                have s67 := (xq30.2.2.2.2.2 b1 4 (by rw [tb1]; decide)).trans exC1o
                have s68 := (xq30.2.2.2.2.2 b1 5 (by rw [tb1]; decide)).trans exR1o
                have s69 := (xq30.2.2.2.2.2 b1 6 (by rw [tb1]; decide)).trans exoc1o
                have s70 := (xq30.2.2.2.2.2 b1 7 (by rw [tb1]; decide)).trans exor1o
                have s71 := (xq30.2.2.2.2.2 b1 8 (by rw [tb1]; decide)).trans exf1o
                have s72 := (xq30.2.2.2.2.2 b2 1 (by rw [tb2]; decide)).trans exhb2o
                have s73 := (xq30.2.2.2.2.2 b2 2 (by rw [tb2]; decide)).trans exvb2o
                have s74 := (xq30.2.2.2.2.2 b2 3 (by rw [tb2]; decide)).trans extq2o
                have s75 := (xq30.2.2.2.2.2 b2 4 (by rw [tb2]; decide)).trans exC2o
                have s76 := (xq30.2.2.2.2.2 b2 5 (by rw [tb2]; decide)).trans exR2o
                have s77 := (xq30.2.2.2.2.2 b2 6 (by rw [tb2]; decide)).trans exoc2o
                have s78 := (xq30.2.2.2.2.2 b2 7 (by rw [tb2]; decide)).trans exor2o
                have s79 := (xq30.2.2.2.2.2 b2 8 (by rw [tb2]; decide)).trans exf2o
                have pr80 := gXr.fr xq30.2 (by decide) hxr
                have pr81 := gSW.fr xq30.2 (by decide) hsw
                have pr82 := gPC.fr xq30.2 (by decide) hpc
                have pr83 := gTc.fr xq30.2 (by decide) htc
                have pr84 := gRr.fr xq30.2 (by decide) hrr
                have pr85 := gRw.fr xq30.2 (by decide) hrw
                refine gz_s 2 (pc' := 112) (L' := [some (.ref x), some (.int (zi a)), some (.int (zi b)), some (.int (zi c)), some (.int (zi jn2v0)), some (.int (zi zq30)), none, none]) (S' := [.ref x]) rfl ?_
                refine gs_gtk rfl (by decide) rfl sq30.1 tx rfl rfl s31 ?_
                refine gs_gtk rfl (by decide) rfl sq30.1 tpic rfl rfl s48 ?_
                refine gz_s 1 (pc' := 119) (L' := [some (.ref x), some (.int (zi a)), some (.int (zi b)), some (.int (zi c)), some (.int (zi jn2v0)), some (.int (zi zq30)), none, none]) (S' := [.int (zi 3), .int (zi (vvo 0))]) rfl ?_
                by_cases hc86 : (3 : Int) ≤ vvo 0
                · refine gy_icT (pc' := 125) rfl (by decide) (by decide) (by omega) (by omega) hc86 ?_
                  refine gz_s 1 (pc' := 126) (L' := [some (.ref x), some (.int (zi a)), some (.int (zi b)), some (.int (zi c)), some (.int (zi jn2v0)), some (.int (zi zq30)), none, none]) (S' := [.ref x]) rfl ?_
                  refine gs_gtk rfl (by decide) rfl sq30.1 tx rfl rfl s31 ?_
                  refine gz_s 3 (pc' := 132) (L' := [some (.ref x), some (.int (zi a)), some (.int (zi b)), some (.int (zi c)), some (.int (zi jn2v0)), some (.int (zi zq30)), none, none]) (S' := [.int (zi b), .int (zi a), .int (zi 1), .ref pic]) rfl ?_
                  have k87 := sq30.2.1
                  have k87b := sq30.2.2.1
                  have hl88 : hq30.2.2.2.1 bt = h.2.2.2.1 bt := congrFun sq30.2.2.2.2.1 bt
                  have hl89 : hq30.2.2.2.1 coo = h.2.2.2.1 coo := congrFun sq30.2.2.2.2.1 coo
                  have hl90 : hq30.2.2.2.1 dmo = h.2.2.2.1 dmo := congrFun sq30.2.2.2.2.1 dmo
                  have hl91 : hq30.2.2.2.1 coo = h.2.2.2.1 coo := congrFun sq30.2.2.2.2.1 coo
                  refine gz_call rfl (by decide) rfl (by decide) (by decide) (gcal_of rfl rfl rfl (Nat.le_of_ble_eq_true rfl) (gJ.recv (G := gGG) sq30.1 tpic rfl rfl)) (cl_Picture_sampleAt _ sq30.1 pic tpic 1 ⟨by omega, by omega⟩ a ⟨by omega, by omega⟩ b ⟨by omega, by omega⟩ bno s42 tbno b0 s43 tb0 b1 s44 tb1 b2 s45 tb2 coo s46 tcoo (gSta.fr sq30.2 (by decide) hyst) (vvo 0) s48 ⟨by omega, by omega⟩ (vvo 1) s49 ⟨by omega, by omega⟩ (vvo 2) s50 ⟨by omega, by omega⟩ (vvo 3) s51 ⟨by omega, by omega⟩ (vvo 4) s52 ⟨by omega, by omega⟩ (vvo 5) s53 ⟨by omega, by omega⟩ (vvo 6) s54 ⟨by omega, by omega⟩ (vvo 7) s55 ⟨by omega, by omega⟩ (vvo 8) s56 ⟨by omega, by omega⟩ (vvo 9) s57 ⟨by omega, by omega⟩ (vvo 11) s59 ⟨by omega, by omega⟩ (vvo 12) s60 ⟨by omega, by omega⟩ (vvo 13) s61 ⟨by omega, by omega⟩ (vvo 14) s62 ⟨by omega, by omega⟩ (vvo 15) s63 ⟨by omega, by omega⟩ (vvo 16) s64 ⟨by omega, by omega⟩ (vvo 17) s65 ⟨by omega, by omega⟩ (vvo 19) s67 ⟨by omega, by omega⟩ (vvo 20) s68 ⟨by omega, by omega⟩ (vvo 21) s69 ⟨by omega, by omega⟩ (vvo 22) s70 ⟨by omega, by omega⟩ (vvo 23) s71 ⟨by omega, by omega⟩ (vvo 24) s72 ⟨by omega, by omega⟩ (vvo 25) s73 ⟨by omega, by omega⟩ (vvo 27) s75 ⟨by omega, by omega⟩ (vvo 28) s76 ⟨by omega, by omega⟩ (vvo 29) s77 ⟨by omega, by omega⟩ (vvo 30) s78 ⟨by omega, by omega⟩ (vvo 31) s79 ⟨by omega, by omega⟩ (vvo 10) s58 ⟨by omega, by omega⟩ (vvo 18) s66 ⟨by omega, by omega⟩ (vvo 26) s74 ⟨by omega, by omega⟩ (by omega) (by omega) (by omega) (by omega) uq yy0o yy1o yy2o yy3o yy4o yy5o yy7o) (fun q92 _ wq92 => ?_)
                  obtain ⟨pq92, oq92, hq92⟩ := q92
                  obtain ⟨xq92, zq92, gq92, aq92, bq92⟩ := wq92
                  refine ⟨_, gq92, ?_⟩
                  show gz gPP gGG gcn _ _ 135 [some (.ref x), some (.int (zi a)), some (.int (zi b)), some (.int (zi c)), some (.int (zi jn2v0)), some (.int (zi zq30)), none, none] [.int (zi zq92)] hq92 _
                  have sq92 : gSs rT 1027 ty [] h hq92 := gSs.tr sq30 xq92 (by decide)
                  have s93 := (xq92.2.2.2.2.2 x 2 (by rw [tx]; decide)).trans s31
                  have s94 := (xq92.2.2.2.2.2 x 3 (by rw [tx]; decide)).trans s32
                  have s95 := (xq92.2.2.2.2.2 x 4 (by rw [tx]; decide)).trans s33
                  have s96 := (xq92.2.2.2.2.2 sk 0 (by rw [tsk]; decide)).trans s34
                  have s97 := (xq92.2.2.2.2.2 x 0 (by rw [tx]; decide)).trans s35
                  have s98 := (xq92.2.2.2.2.2 dr 8 (by rw [tdr]; decide)).trans s36
                  have s99 := (xq92.2.2.2.2.2 dr 3 (by rw [tdr]; decide)).trans s37
                  have s100 := (xq92.2.2.2.2.2 dr 1 (by rw [tdr]; decide)).trans s38
                  have s101 := (xq92.2.2.2.2.2 dr 2 (by rw [tdr]; decide)).trans s39
                  have s102 := (xq92.2.2.2.2.2 sk 1 (by rw [tsk]; decide)).trans s40
                  have s103 := (xq92.2.2.2.2.2 cl 1 (by rw [tcl]; decide)).trans s41
                  have s104 := (xq92.2.2.2.2.2 pic 0 (by rw [tpic]; decide)).trans s42
                  have s105 := (xq92.2.2.2.2.2 bno 0 (by rw [tbno]; decide)).trans s43
                  have s106 := (xq92.2.2.2.2.2 bno 1 (by rw [tbno]; decide)).trans s44
                  have s107 := (xq92.2.2.2.2.2 bno 2 (by rw [tbno]; decide)).trans s45
                  have s108 := (xq92.2.2.2.2.2 pic 2 (by rw [tpic]; decide)).trans s46
                  have s109 := (xq92.2.2.2.2.2 pic 3 (by rw [tpic]; decide)).trans s47
                  have s110 := (xq92.2.2.2.2.2 pic 7 (by rw [tpic]; decide)).trans s48
                  have s111 := (xq92.2.2.2.2.2 pic 12 (by rw [tpic]; decide)).trans s49
                  have s112 := (xq92.2.2.2.2.2 pic 13 (by rw [tpic]; decide)).trans s50
                  have s113 := (xq92.2.2.2.2.2 pic 8 (by rw [tpic]; decide)).trans s51
                  have s114 := (xq92.2.2.2.2.2 pic 5 (by rw [tpic]; decide)).trans s52
                  have s115 := (xq92.2.2.2.2.2 pic 6 (by rw [tpic]; decide)).trans s53
                  have s116 := (xq92.2.2.2.2.2 pic 10 (by rw [tpic]; decide)).trans s54
                  have s117 := (xq92.2.2.2.2.2 pic 11 (by rw [tpic]; decide)).trans s55
                  have s118 := (xq92.2.2.2.2.2 b0 1 (by rw [tb0]; decide)).trans s56
                  have s119 := (xq92.2.2.2.2.2 b0 2 (by rw [tb0]; decide)).trans s57
                  have s120 := (xq92.2.2.2.2.2 b0 3 (by rw [tb0]; decide)).trans s58
                  have s121 := (xq92.2.2.2.2.2 b0 4 (by rw [tb0]; decide)).trans s59
                  have s122 := (xq92.2.2.2.2.2 b0 5 (by rw [tb0]; decide)).trans s60
                  have s123 := (xq92.2.2.2.2.2 b0 6 (by rw [tb0]; decide)).trans s61
                  have s124 := (xq92.2.2.2.2.2 b0 7 (by rw [tb0]; decide)).trans s62
                  have s125 := (xq92.2.2.2.2.2 b0 8 (by rw [tb0]; decide)).trans s63
                  have s126 := (xq92.2.2.2.2.2 b1 1 (by rw [tb1]; decide)).trans s64
                  have s127 := (xq92.2.2.2.2.2 b1 2 (by rw [tb1]; decide)).trans s65
                  have s128 := (xq92.2.2.2.2.2 b1 3 (by rw [tb1]; decide)).trans s66
                  have s129 := (xq92.2.2.2.2.2 b1 4 (by rw [tb1]; decide)).trans s67
                  have s130 := (xq92.2.2.2.2.2 b1 5 (by rw [tb1]; decide)).trans s68
                  have s131 := (xq92.2.2.2.2.2 b1 6 (by rw [tb1]; decide)).trans s69
                  have s132 := (xq92.2.2.2.2.2 b1 7 (by rw [tb1]; decide)).trans s70
                  have s133 := (xq92.2.2.2.2.2 b1 8 (by rw [tb1]; decide)).trans s71
                  have s134 := (xq92.2.2.2.2.2 b2 1 (by rw [tb2]; decide)).trans s72
                  have s135 := (xq92.2.2.2.2.2 b2 2 (by rw [tb2]; decide)).trans s73
                  have s136 := (xq92.2.2.2.2.2 b2 3 (by rw [tb2]; decide)).trans s74
                  have s137 := (xq92.2.2.2.2.2 b2 4 (by rw [tb2]; decide)).trans s75
                  have s138 := (xq92.2.2.2.2.2 b2 5 (by rw [tb2]; decide)).trans s76
                  have s139 := (xq92.2.2.2.2.2 b2 6 (by rw [tb2]; decide)).trans s77
                  have s140 := (xq92.2.2.2.2.2 b2 7 (by rw [tb2]; decide)).trans s78
                  have s141 := (xq92.2.2.2.2.2 b2 8 (by rw [tb2]; decide)).trans s79
                  have pr142 := gXr.fr xq92.2 (by decide) pr80
                  have pr143 := gSW.fr xq92.2 (by decide) pr81
                  have pr144 := gPC.fr xq92.2 (by decide) pr82
                  have pr145 := gTc.fr xq92.2 (by decide) pr83
                  have pr146 := gRr.fr xq92.2 (by decide) pr84
                  have pr147 := gRw.fr xq92.2 (by decide) pr85
                  refine gy_s 2 (pc' := 139) (L' := [some (.ref x), some (.int (zi a)), some (.int (zi b)), some (.int (zi c)), some (.int (zi jn2v0)), some (.int (zi zq30)), none, none]) (S' := [.int ((zi zq92) - (zi 128))]) (L2 := [some (.ref x), some (.int (zi a)), some (.int (zi b)), some (.int (zi c)), some (.int (zi jn2v0)), some (.int (zi zq30)), none, none]) (S2 := [.int (zi (zq92 - 128))]) rfl (by simp only [zi_add, zi_sub, zi_mul, zi_neg, zi_and1, zi_and7, zi_and15, zi_and31, zi_and255]) (by simp only [zi_add, zi_sub, zi_mul, zi_neg, zi_and1, zi_and7, zi_and15, zi_and31, zi_and255]) ?_
                  refine gy_any (fun z148 ez148 az148 bz148 => ?_)
                  refine gz_s 2 (pc' := 142) (L' := [some (.ref x), some (.int (zi a)), some (.int (zi b)), some (.int (zi c)), some (.int (zi jn2v0)), some (.int (zi zq30)), some (.int (zi z148)), none]) (S' := [.ref x]) rfl ?_
                  refine gs_gtk rfl (by decide) rfl sq92.1 tx rfl rfl s93 ?_
                  refine gz_s 3 (pc' := 148) (L' := [some (.ref x), some (.int (zi a)), some (.int (zi b)), some (.int (zi c)), some (.int (zi jn2v0)), some (.int (zi zq30)), some (.int (zi z148)), none]) (S' := [.int (zi b), .int (zi a), .int (zi 2), .ref pic]) rfl ?_
                  have k149 := sq92.2.1
                  have k149b := sq92.2.2.1
                  have hl150 : hq92.2.2.2.1 bt = h.2.2.2.1 bt := congrFun sq92.2.2.2.2.1 bt
                  have hl151 : hq92.2.2.2.1 coo = h.2.2.2.1 coo := congrFun sq92.2.2.2.2.1 coo
                  have hl152 : hq92.2.2.2.1 dmo = h.2.2.2.1 dmo := congrFun sq92.2.2.2.2.1 dmo
                  have hl153 : hq92.2.2.2.1 coo = h.2.2.2.1 coo := congrFun sq92.2.2.2.2.1 coo
                  refine gz_call rfl (by decide) rfl (by decide) (by decide) (gcal_of rfl rfl rfl (Nat.le_of_ble_eq_true rfl) (gJ.recv (G := gGG) sq92.1 tpic rfl rfl)) (cl_Picture_sampleAt _ sq92.1 pic tpic 2 ⟨by omega, by omega⟩ a ⟨by omega, by omega⟩ b ⟨by omega, by omega⟩ bno s104 tbno b0 s105 tb0 b1 s106 tb1 b2 s107 tb2 coo s108 tcoo (gSta.fr sq92.2 (by decide) hyst) (vvo 0) s110 ⟨by omega, by omega⟩ (vvo 1) s111 ⟨by omega, by omega⟩ (vvo 2) s112 ⟨by omega, by omega⟩ (vvo 3) s113 ⟨by omega, by omega⟩ (vvo 4) s114 ⟨by omega, by omega⟩ (vvo 5) s115 ⟨by omega, by omega⟩ (vvo 6) s116 ⟨by omega, by omega⟩ (vvo 7) s117 ⟨by omega, by omega⟩ (vvo 8) s118 ⟨by omega, by omega⟩ (vvo 9) s119 ⟨by omega, by omega⟩ (vvo 11) s121 ⟨by omega, by omega⟩ (vvo 12) s122 ⟨by omega, by omega⟩ (vvo 13) s123 ⟨by omega, by omega⟩ (vvo 14) s124 ⟨by omega, by omega⟩ (vvo 15) s125 ⟨by omega, by omega⟩ (vvo 16) s126 ⟨by omega, by omega⟩ (vvo 17) s127 ⟨by omega, by omega⟩ (vvo 19) s129 ⟨by omega, by omega⟩ (vvo 20) s130 ⟨by omega, by omega⟩ (vvo 21) s131 ⟨by omega, by omega⟩ (vvo 22) s132 ⟨by omega, by omega⟩ (vvo 23) s133 ⟨by omega, by omega⟩ (vvo 24) s134 ⟨by omega, by omega⟩ (vvo 25) s135 ⟨by omega, by omega⟩ (vvo 27) s137 ⟨by omega, by omega⟩ (vvo 28) s138 ⟨by omega, by omega⟩ (vvo 29) s139 ⟨by omega, by omega⟩ (vvo 30) s140 ⟨by omega, by omega⟩ (vvo 31) s141 ⟨by omega, by omega⟩ (vvo 10) s120 ⟨by omega, by omega⟩ (vvo 18) s128 ⟨by omega, by omega⟩ (vvo 26) s136 ⟨by omega, by omega⟩ (by omega) (by omega) (by omega) (by omega) uq yy0o yy1o yy2o yy3o yy4o yy5o yy7o) (fun q154 _ wq154 => ?_)
                  obtain ⟨pq154, oq154, hq154⟩ := q154
                  obtain ⟨xq154, zq154, gq154, aq154, bq154⟩ := wq154
                  refine ⟨_, gq154, ?_⟩
                  show gz gPP gGG gcn _ _ 151 [some (.ref x), some (.int (zi a)), some (.int (zi b)), some (.int (zi c)), some (.int (zi jn2v0)), some (.int (zi zq30)), some (.int (zi z148)), none] [.int (zi zq154)] hq154 _
                  have sq154 : gSs rT 1027 ty [] h hq154 := gSs.tr sq92 xq154 (by decide)
                  have s155 := (xq154.2.2.2.2.2 x 2 (by rw [tx]; decide)).trans s93
                  have s156 := (xq154.2.2.2.2.2 x 3 (by rw [tx]; decide)).trans s94
                  have s157 := (xq154.2.2.2.2.2 x 4 (by rw [tx]; decide)).trans s95
                  have s158 := (xq154.2.2.2.2.2 sk 0 (by rw [tsk]; decide)).trans s96
                  have s159 := (xq154.2.2.2.2.2 x 0 (by rw [tx]; decide)).trans s97
                  have s160 := (xq154.2.2.2.2.2 dr 8 (by rw [tdr]; decide)).trans s98
                  have s161 := (xq154.2.2.2.2.2 dr 3 (by rw [tdr]; decide)).trans s99
                  have s162 := (xq154.2.2.2.2.2 dr 1 (by rw [tdr]; decide)).trans s100
                  have s163 := (xq154.2.2.2.2.2 dr 2 (by rw [tdr]; decide)).trans s101
                  have s164 := (xq154.2.2.2.2.2 sk 1 (by rw [tsk]; decide)).trans s102
                  have s165 := (xq154.2.2.2.2.2 cl 1 (by rw [tcl]; decide)).trans s103
                  have s166 := (xq154.2.2.2.2.2 pic 0 (by rw [tpic]; decide)).trans s104
                  have s167 := (xq154.2.2.2.2.2 bno 0 (by rw [tbno]; decide)).trans s105
                  have s168 := (xq154.2.2.2.2.2 bno 1 (by rw [tbno]; decide)).trans s106
                  have s169 := (xq154.2.2.2.2.2 bno 2 (by rw [tbno]; decide)).trans s107
                  have s170 := (xq154.2.2.2.2.2 pic 2 (by rw [tpic]; decide)).trans s108
                  have s171 := (xq154.2.2.2.2.2 pic 3 (by rw [tpic]; decide)).trans s109
                  have s172 := (xq154.2.2.2.2.2 pic 7 (by rw [tpic]; decide)).trans s110
                  have s173 := (xq154.2.2.2.2.2 pic 12 (by rw [tpic]; decide)).trans s111
                  have s174 := (xq154.2.2.2.2.2 pic 13 (by rw [tpic]; decide)).trans s112
                  have s175 := (xq154.2.2.2.2.2 pic 8 (by rw [tpic]; decide)).trans s113
                  have s176 := (xq154.2.2.2.2.2 pic 5 (by rw [tpic]; decide)).trans s114
                  have s177 := (xq154.2.2.2.2.2 pic 6 (by rw [tpic]; decide)).trans s115
                  have s178 := (xq154.2.2.2.2.2 pic 10 (by rw [tpic]; decide)).trans s116
                  have s179 := (xq154.2.2.2.2.2 pic 11 (by rw [tpic]; decide)).trans s117
                  have s180 := (xq154.2.2.2.2.2 b0 1 (by rw [tb0]; decide)).trans s118
                  have s181 := (xq154.2.2.2.2.2 b0 2 (by rw [tb0]; decide)).trans s119
                  have s182 := (xq154.2.2.2.2.2 b0 3 (by rw [tb0]; decide)).trans s120
                  have s183 := (xq154.2.2.2.2.2 b0 4 (by rw [tb0]; decide)).trans s121
                  have s184 := (xq154.2.2.2.2.2 b0 5 (by rw [tb0]; decide)).trans s122
                  have s185 := (xq154.2.2.2.2.2 b0 6 (by rw [tb0]; decide)).trans s123
                  have s186 := (xq154.2.2.2.2.2 b0 7 (by rw [tb0]; decide)).trans s124
                  have s187 := (xq154.2.2.2.2.2 b0 8 (by rw [tb0]; decide)).trans s125
                  have s188 := (xq154.2.2.2.2.2 b1 1 (by rw [tb1]; decide)).trans s126
                  have s189 := (xq154.2.2.2.2.2 b1 2 (by rw [tb1]; decide)).trans s127
                  have s190 := (xq154.2.2.2.2.2 b1 3 (by rw [tb1]; decide)).trans s128
                  have s191 := (xq154.2.2.2.2.2 b1 4 (by rw [tb1]; decide)).trans s129
                  have s192 := (xq154.2.2.2.2.2 b1 5 (by rw [tb1]; decide)).trans s130
                  have s193 := (xq154.2.2.2.2.2 b1 6 (by rw [tb1]; decide)).trans s131
                  have s194 := (xq154.2.2.2.2.2 b1 7 (by rw [tb1]; decide)).trans s132
                  have s195 := (xq154.2.2.2.2.2 b1 8 (by rw [tb1]; decide)).trans s133
                  have s196 := (xq154.2.2.2.2.2 b2 1 (by rw [tb2]; decide)).trans s134
                  have s197 := (xq154.2.2.2.2.2 b2 2 (by rw [tb2]; decide)).trans s135
                  have s198 := (xq154.2.2.2.2.2 b2 3 (by rw [tb2]; decide)).trans s136
                  have s199 := (xq154.2.2.2.2.2 b2 4 (by rw [tb2]; decide)).trans s137
                  have s200 := (xq154.2.2.2.2.2 b2 5 (by rw [tb2]; decide)).trans s138
                  have s201 := (xq154.2.2.2.2.2 b2 6 (by rw [tb2]; decide)).trans s139
                  have s202 := (xq154.2.2.2.2.2 b2 7 (by rw [tb2]; decide)).trans s140
                  have s203 := (xq154.2.2.2.2.2 b2 8 (by rw [tb2]; decide)).trans s141
                  have pr204 := gXr.fr xq154.2 (by decide) pr142
                  have pr205 := gSW.fr xq154.2 (by decide) pr143
                  have pr206 := gPC.fr xq154.2 (by decide) pr144
                  have pr207 := gTc.fr xq154.2 (by decide) pr145
                  have pr208 := gRr.fr xq154.2 (by decide) pr146
                  have pr209 := gRw.fr xq154.2 (by decide) pr147
                  refine gy_s 2 (pc' := 155) (L' := [some (.ref x), some (.int (zi a)), some (.int (zi b)), some (.int (zi c)), some (.int (zi jn2v0)), some (.int (zi zq30)), some (.int (zi z148)), none]) (S' := [.int ((zi zq154) - (zi 128))]) (L2 := [some (.ref x), some (.int (zi a)), some (.int (zi b)), some (.int (zi c)), some (.int (zi jn2v0)), some (.int (zi zq30)), some (.int (zi z148)), none]) (S2 := [.int (zi (zq154 - 128))]) rfl (by simp only [zi_add, zi_sub, zi_mul, zi_neg, zi_and1, zi_and7, zi_and15, zi_and31, zi_and255]) (by simp only [zi_add, zi_sub, zi_mul, zi_neg, zi_and1, zi_and7, zi_and15, zi_and31, zi_and255]) ?_
                  refine gy_any (fun z210 ez210 az210 bz210 => ?_)
                  refine gz_s 5 (pc' := 164) (L' := [some (.ref x), some (.int (zi a)), some (.int (zi b)), some (.int (zi c)), some (.int (zi jn2v0)), some (.int (zi zq30)), some (.int (zi z148)), some (.int (zi z210))]) (S' := [.int (zi z210), .int (zi z148), .int (zi zq30), .int (zi c)]) rfl ?_
                  refine gz_call rfl (by decide) rfl (by decide) (by decide) (gcal_of rfl rfl rfl (Nat.le_of_ble_eq_true rfl) rfl) (cl_DctFilter_colourW _ sq154.1 c ⟨by omega, by omega⟩ zq30 ⟨by omega, by omega⟩ z148 ⟨by omega, by omega⟩ z210 ⟨by omega, by omega⟩ ) (fun q211 _ wq211 => ?_)
                  obtain ⟨pq211, oq211, hq211⟩ := q211
                  obtain ⟨xq211, zq211, gq211, aq211, bq211⟩ := wq211
                  refine ⟨_, gq211, ?_⟩
                  show gz gPP gGG gcn _ _ 167 [some (.ref x), some (.int (zi a)), some (.int (zi b)), some (.int (zi c)), some (.int (zi jn2v0)), some (.int (zi zq30)), some (.int (zi z148)), some (.int (zi z210))] [.int (zi zq211)] hq211 _
                  have sq211 : gSs rT 1027 ty [] h hq211 := gSs.tr sq154 xq211 (by decide)
                  have s212 := (xq211.2.2.2.2.2 x 2 (by rw [tx]; decide)).trans s155
                  have s213 := (xq211.2.2.2.2.2 x 3 (by rw [tx]; decide)).trans s156
                  have s214 := (xq211.2.2.2.2.2 x 4 (by rw [tx]; decide)).trans s157
                  have s215 := (xq211.2.2.2.2.2 sk 0 (by rw [tsk]; decide)).trans s158
                  have s216 := (xq211.2.2.2.2.2 x 0 (by rw [tx]; decide)).trans s159
                  have s217 := (xq211.2.2.2.2.2 dr 8 (by rw [tdr]; decide)).trans s160
                  have s218 := (xq211.2.2.2.2.2 dr 3 (by rw [tdr]; decide)).trans s161
                  have s219 := (xq211.2.2.2.2.2 dr 1 (by rw [tdr]; decide)).trans s162
                  have s220 := (xq211.2.2.2.2.2 dr 2 (by rw [tdr]; decide)).trans s163
                  have s221 := (xq211.2.2.2.2.2 sk 1 (by rw [tsk]; decide)).trans s164
                  have s222 := (xq211.2.2.2.2.2 cl 1 (by rw [tcl]; decide)).trans s165
                  have s223 := (xq211.2.2.2.2.2 pic 0 (by rw [tpic]; decide)).trans s166
                  have s224 := (xq211.2.2.2.2.2 bno 0 (by rw [tbno]; decide)).trans s167
                  have s225 := (xq211.2.2.2.2.2 bno 1 (by rw [tbno]; decide)).trans s168
                  have s226 := (xq211.2.2.2.2.2 bno 2 (by rw [tbno]; decide)).trans s169
                  have s227 := (xq211.2.2.2.2.2 pic 2 (by rw [tpic]; decide)).trans s170
                  have s228 := (xq211.2.2.2.2.2 pic 3 (by rw [tpic]; decide)).trans s171
                  have s229 := (xq211.2.2.2.2.2 pic 7 (by rw [tpic]; decide)).trans s172
                  have s230 := (xq211.2.2.2.2.2 pic 12 (by rw [tpic]; decide)).trans s173
                  have s231 := (xq211.2.2.2.2.2 pic 13 (by rw [tpic]; decide)).trans s174
                  have s232 := (xq211.2.2.2.2.2 pic 8 (by rw [tpic]; decide)).trans s175
                  have s233 := (xq211.2.2.2.2.2 pic 5 (by rw [tpic]; decide)).trans s176
                  have s234 := (xq211.2.2.2.2.2 pic 6 (by rw [tpic]; decide)).trans s177
                  have s235 := (xq211.2.2.2.2.2 pic 10 (by rw [tpic]; decide)).trans s178
                  have s236 := (xq211.2.2.2.2.2 pic 11 (by rw [tpic]; decide)).trans s179
                  have s237 := (xq211.2.2.2.2.2 b0 1 (by rw [tb0]; decide)).trans s180
                  have s238 := (xq211.2.2.2.2.2 b0 2 (by rw [tb0]; decide)).trans s181
                  have s239 := (xq211.2.2.2.2.2 b0 3 (by rw [tb0]; decide)).trans s182
                  have s240 := (xq211.2.2.2.2.2 b0 4 (by rw [tb0]; decide)).trans s183
                  have s241 := (xq211.2.2.2.2.2 b0 5 (by rw [tb0]; decide)).trans s184
                  have s242 := (xq211.2.2.2.2.2 b0 6 (by rw [tb0]; decide)).trans s185
                  have s243 := (xq211.2.2.2.2.2 b0 7 (by rw [tb0]; decide)).trans s186
                  have s244 := (xq211.2.2.2.2.2 b0 8 (by rw [tb0]; decide)).trans s187
                  have s245 := (xq211.2.2.2.2.2 b1 1 (by rw [tb1]; decide)).trans s188
                  have s246 := (xq211.2.2.2.2.2 b1 2 (by rw [tb1]; decide)).trans s189
                  have s247 := (xq211.2.2.2.2.2 b1 3 (by rw [tb1]; decide)).trans s190
                  have s248 := (xq211.2.2.2.2.2 b1 4 (by rw [tb1]; decide)).trans s191
                  have s249 := (xq211.2.2.2.2.2 b1 5 (by rw [tb1]; decide)).trans s192
                  have s250 := (xq211.2.2.2.2.2 b1 6 (by rw [tb1]; decide)).trans s193
                  have s251 := (xq211.2.2.2.2.2 b1 7 (by rw [tb1]; decide)).trans s194
                  have s252 := (xq211.2.2.2.2.2 b1 8 (by rw [tb1]; decide)).trans s195
                  have s253 := (xq211.2.2.2.2.2 b2 1 (by rw [tb2]; decide)).trans s196
                  have s254 := (xq211.2.2.2.2.2 b2 2 (by rw [tb2]; decide)).trans s197
                  have s255 := (xq211.2.2.2.2.2 b2 3 (by rw [tb2]; decide)).trans s198
                  have s256 := (xq211.2.2.2.2.2 b2 4 (by rw [tb2]; decide)).trans s199
                  have s257 := (xq211.2.2.2.2.2 b2 5 (by rw [tb2]; decide)).trans s200
                  have s258 := (xq211.2.2.2.2.2 b2 6 (by rw [tb2]; decide)).trans s201
                  have s259 := (xq211.2.2.2.2.2 b2 7 (by rw [tb2]; decide)).trans s202
                  have s260 := (xq211.2.2.2.2.2 b2 8 (by rw [tb2]; decide)).trans s203
                  have pr261 := gXr.fr xq211.2 (by decide) pr204
                  have pr262 := gSW.fr xq211.2 (by decide) pr205
                  have pr263 := gPC.fr xq211.2 (by decide) pr206
                  have pr264 := gTc.fr xq211.2 (by decide) pr207
                  have pr265 := gRr.fr xq211.2 (by decide) pr208
                  have pr266 := gRw.fr xq211.2 (by decide) pr209
                  have k267 := sq211.2.1
                  have k267b := sq211.2.2.1
                  have hl268 : hq211.2.2.2.1 bt = h.2.2.2.1 bt := congrFun sq211.2.2.2.2.1 bt
                  have hl269 : hq211.2.2.2.1 coo = h.2.2.2.1 coo := congrFun sq211.2.2.2.2.1 coo
                  have hl270 : hq211.2.2.2.1 dmo = h.2.2.2.1 dmo := congrFun sq211.2.2.2.2.1 dmo
                  have hl271 : 1024 ≤ hq211.2.2.2.1 bt ∧ hq211.2.2.2.1 bt ≤ 1000000 := gJ.rowl (G := gGG) sq211.1 tbt rfl
                  have hl272 : 0 ≤ hq211.2.2.2.1 coo ∧ hq211.2.2.2.1 coo ≤ 12288 := gJ.rowl (G := gGG) sq211.1 tcoo rfl
                  have hl273 : 0 ≤ hq211.2.2.2.1 dmo ∧ hq211.2.2.2.1 dmo ≤ 192 := gJ.rowl (G := gGG) sq211.1 tdmo rfl
                  have k274 := sq211.2.1
                  have k274b := sq211.2.2.1
                  have hl275 : hq211.2.2.2.1 bt = h.2.2.2.1 bt := congrFun sq211.2.2.2.2.1 bt
                  have hl276 : hq211.2.2.2.1 coo = h.2.2.2.1 coo := congrFun sq211.2.2.2.2.1 coo
                  have hl277 : hq211.2.2.2.1 dmo = h.2.2.2.1 dmo := congrFun sq211.2.2.2.2.1 dmo
                  have hix278 : gIx ty x ld (hq211.2.2.2.1 bt : Int) (64 * dw + n0 + 4096 * dh + 262144 * scl + 536870912 * i0) S hq211 := ⟨pic, b0, b1, b2, dr, sk, bt, cl, n0, c0, i0, dw, dh, scl, ⟨tx, tdr, tsk, tbt⟩, ⟨s212, s213, s214, s215⟩, pr263, pr264, ⟨s217, by omega, by omega⟩, ⟨s218, by omega, by omega⟩, ⟨s221, by omega, by omega⟩, ⟨by omega, by omega⟩, pr265, pr266, ⟨s219, by omega, by omega⟩, ⟨s220, by omega, by omega⟩, by omega, rfl, pr261, ⟨pr262, hc0⟩, htz, tcl, s216, ⟨s222, by omega, by omega⟩⟩
                  have G279 : gSg [] [] [] ty h ty hq211 := gSg.ss G0 sq211 (by decide)
                  exact gz_end (I := .ireturn) (len := 1) rfl (Or.inl rfl) ⟨ty, G279, ld, (hq211.2.2.2.1 bt : Int), (64 * dw + n0 + 4096 * dh + 262144 * scl + 536870912 * i0), (by omega), (by omega), (by omega), (by omega), (by omega), (by omega), hix278, Or.inl ⟨zq211, rfl, (by omega), (by omega), (by omega), (by dsimp only; omega), (by dsimp only; omega), (by omega), (by omega)⟩⟩
                · refine gy_icF rfl (by decide) (by decide) (by omega) (by omega) hc86 ?_
                  refine gz_s 1 (pc' := 124) (L' := [some (.ref x), some (.int (zi a)), some (.int (zi b)), some (.int (zi c)), some (.int (zi jn2v0)), some (.int (zi zq30)), none, none]) (S' := [.int (zi zq30)]) rfl ?_
                  have k280 := sq30.2.1
                  have k280b := sq30.2.2.1
                  have hl281 : hq30.2.2.2.1 bt = h.2.2.2.1 bt := congrFun sq30.2.2.2.2.1 bt
                  have hl282 : hq30.2.2.2.1 coo = h.2.2.2.1 coo := congrFun sq30.2.2.2.2.1 coo
                  have hl283 : hq30.2.2.2.1 dmo = h.2.2.2.1 dmo := congrFun sq30.2.2.2.2.1 dmo
                  have hl284 : 1024 ≤ hq30.2.2.2.1 bt ∧ hq30.2.2.2.1 bt ≤ 1000000 := gJ.rowl (G := gGG) sq30.1 tbt rfl
                  have hl285 : 0 ≤ hq30.2.2.2.1 coo ∧ hq30.2.2.2.1 coo ≤ 12288 := gJ.rowl (G := gGG) sq30.1 tcoo rfl
                  have hl286 : 0 ≤ hq30.2.2.2.1 dmo ∧ hq30.2.2.2.1 dmo ≤ 192 := gJ.rowl (G := gGG) sq30.1 tdmo rfl
                  have k287 := sq30.2.1
                  have k287b := sq30.2.2.1
                  have hl288 : hq30.2.2.2.1 bt = h.2.2.2.1 bt := congrFun sq30.2.2.2.2.1 bt
                  have hl289 : hq30.2.2.2.1 coo = h.2.2.2.1 coo := congrFun sq30.2.2.2.2.1 coo
                  have hl290 : hq30.2.2.2.1 dmo = h.2.2.2.1 dmo := congrFun sq30.2.2.2.2.1 dmo
                  have hix291 : gIx ty x ld (hq30.2.2.2.1 bt : Int) (64 * dw + n0 + 4096 * dh + 262144 * scl + 536870912 * i0) S hq30 := ⟨pic, b0, b1, b2, dr, sk, bt, cl, n0, c0, i0, dw, dh, scl, ⟨tx, tdr, tsk, tbt⟩, ⟨s31, s32, s33, s34⟩, pr82, pr83, ⟨s36, by omega, by omega⟩, ⟨s37, by omega, by omega⟩, ⟨s40, by omega, by omega⟩, ⟨by omega, by omega⟩, pr84, pr85, ⟨s38, by omega, by omega⟩, ⟨s39, by omega, by omega⟩, by omega, rfl, pr80, ⟨pr81, hc0⟩, htz, tcl, s35, ⟨s41, by omega, by omega⟩⟩
                  have G292 : gSg [] [] [] ty h ty hq30 := gSg.ss G0 sq30 (by decide)
                  exact gz_end (I := .ireturn) (len := 1) rfl (Or.inl rfl) ⟨ty, G292, ld, (hq30.2.2.2.1 bt : Int), (64 * dw + n0 + 4096 * dh + 262144 * scl + 536870912 * i0), (by omega), (by omega), (by omega), (by omega), (by omega), (by omega), hix291, Or.inl ⟨zq30, rfl, (by omega), (by omega), (by omega), (by dsimp only; omega), (by dsimp only; omega), (by omega), (by omega)⟩⟩
              · refine gy_icF rfl (by decide) (by decide) (by omega) (by omega) hc28 ?_
                refine gz_s 1 (pc' := 89) (L' := [some (.ref x), some (.int (zi a)), some (.int (zi b)), some (.int (zi c)), some (.int (zi jn2v0)), none, none, none]) (S' := [.ref x]) rfl ?_
                refine gs_gtk rfl (by decide) rfl hS.1 tx rfl rfl ex2 ?_
                refine gz_s 3 (pc' := 95) (L' := [some (.ref x), some (.int (zi a)), some (.int (zi b)), some (.int (zi c)), some (.int (zi jn2v0)), none, none, none]) (S' := [.int (zi b), .int (zi a), .int (zi c), .ref pic]) rfl ?_
                have hl293 : h.2.2.2.1 coo = h.2.2.2.1 coo := congrFun hS.2.2.2.2.1 coo
                refine gz_call rfl (by decide) rfl (by decide) (by decide) (gcal_of rfl rfl rfl (Nat.le_of_ble_eq_true rfl) (gJ.recv (G := gGG) hS.1 tpic rfl rfl)) (cl_Picture_sampleAt _ hS.1 pic tpic c ⟨by omega, by omega⟩ a ⟨by omega, by omega⟩ b ⟨by omega, by omega⟩ bno er0o tbno b0 er1o tb0 b1 er2o tb1 b2 er3o tb2 coo er4o tcoo (gSta.fr hS.2 (by decide) hyst) (vvo 0) excno ⟨by omega, by omega⟩ (vvo 1) exuco ⟨by omega, by omega⟩ (vvo 2) exuro ⟨by omega, by omega⟩ (vvo 3) exblo ⟨by omega, by omega⟩ (vvo 4) exwo ⟨by omega, by omega⟩ (vvo 5) exhho ⟨by omega, by omega⟩ (vvo 6) exgho ⟨by omega, by omega⟩ (vvo 7) exgvo ⟨by omega, by omega⟩ (vvo 8) exhb0o ⟨by omega, by omega⟩ (vvo 9) exvb0o ⟨by omega, by omega⟩ (vvo 11) exC0o ⟨by omega, by omega⟩ (vvo 12) exR0o ⟨by omega, by omega⟩ (vvo 13) exoc0o ⟨by omega, by omega⟩ (vvo 14) exor0o ⟨by omega, by omega⟩ (vvo 15) exf0o ⟨by omega, by omega⟩ (vvo 16) exhb1o ⟨by omega, by omega⟩ (vvo 17) exvb1o ⟨by omega, by omega⟩ (vvo 19) exC1o ⟨by omega, by omega⟩ (vvo 20) exR1o ⟨by omega, by omega⟩ (vvo 21) exoc1o ⟨by omega, by omega⟩ (vvo 22) exor1o ⟨by omega, by omega⟩ (vvo 23) exf1o ⟨by omega, by omega⟩ (vvo 24) exhb2o ⟨by omega, by omega⟩ (vvo 25) exvb2o ⟨by omega, by omega⟩ (vvo 27) exC2o ⟨by omega, by omega⟩ (vvo 28) exR2o ⟨by omega, by omega⟩ (vvo 29) exoc2o ⟨by omega, by omega⟩ (vvo 30) exor2o ⟨by omega, by omega⟩ (vvo 31) exf2o ⟨by omega, by omega⟩ (vvo 10) extq0o ⟨by omega, by omega⟩ (vvo 18) extq1o ⟨by omega, by omega⟩ (vvo 26) extq2o ⟨by omega, by omega⟩ (by omega) (by omega) (by omega) (by omega) uq yy0o yy1o yy2o yy3o yy4o yy5o yy7o) (fun q294 _ wq294 => ?_)
                obtain ⟨pq294, oq294, hq294⟩ := q294
                obtain ⟨xq294, zq294, gq294, aq294, bq294⟩ := wq294
                refine ⟨_, gq294, ?_⟩
                show gz gPP gGG gcn _ _ 98 [some (.ref x), some (.int (zi a)), some (.int (zi b)), some (.int (zi c)), some (.int (zi jn2v0)), none, none, none] [.int (zi zq294)] hq294 _
                have sq294 : gSs rT 1027 ty [] h hq294 := gSs.tr hS xq294 (by decide)
                have s295 := (xq294.2.2.2.2.2 x 2 (by rw [tx]; decide)).trans ex2
                have s296 := (xq294.2.2.2.2.2 x 3 (by rw [tx]; decide)).trans ex3
                have s297 := (xq294.2.2.2.2.2 x 4 (by rw [tx]; decide)).trans ex4
                have s298 := (xq294.2.2.2.2.2 sk 0 (by rw [tsk]; decide)).trans ex0
                have s299 := (xq294.2.2.2.2.2 x 0 (by rw [tx]; decide)).trans ex9
                have s300 := (xq294.2.2.2.2.2 dr 8 (by rw [tdr]; decide)).trans en0
                have s301 := (xq294.2.2.2.2.2 dr 3 (by rw [tdr]; decide)).trans eiv
                have s302 := (xq294.2.2.2.2.2 dr 1 (by rw [tdr]; decide)).trans edw
                have s303 := (xq294.2.2.2.2.2 dr 2 (by rw [tdr]; decide)).trans edh
                have s304 := (xq294.2.2.2.2.2 sk 1 (by rw [tsk]; decide)).trans ec0
                have s305 := (xq294.2.2.2.2.2 cl 1 (by rw [tcl]; decide)).trans ecl
                have s306 := (xq294.2.2.2.2.2 pic 0 (by rw [tpic]; decide)).trans er0o
                have s307 := (xq294.2.2.2.2.2 bno 0 (by rw [tbno]; decide)).trans er1o
                have s308 := (xq294.2.2.2.2.2 bno 1 (by rw [tbno]; decide)).trans er2o
                have s309 := (xq294.2.2.2.2.2 bno 2 (by rw [tbno]; decide)).trans er3o
                have s310 := (xq294.2.2.2.2.2 pic 2 (by rw [tpic]; decide)).trans er4o
                have s311 := (xq294.2.2.2.2.2 pic 3 (by rw [tpic]; decide)).trans er5o
                have s312 := (xq294.2.2.2.2.2 pic 7 (by rw [tpic]; decide)).trans excno
                have s313 := (xq294.2.2.2.2.2 pic 12 (by rw [tpic]; decide)).trans exuco
                have s314 := (xq294.2.2.2.2.2 pic 13 (by rw [tpic]; decide)).trans exuro
                have s315 := (xq294.2.2.2.2.2 pic 8 (by rw [tpic]; decide)).trans exblo
                have s316 := (xq294.2.2.2.2.2 pic 5 (by rw [tpic]; decide)).trans exwo
                have s317 := (xq294.2.2.2.2.2 pic 6 (by rw [tpic]; decide)).trans exhho
                have s318 := (xq294.2.2.2.2.2 pic 10 (by rw [tpic]; decide)).trans exgho
                have s319 := (xq294.2.2.2.2.2 pic 11 (by rw [tpic]; decide)).trans exgvo
                have s320 := (xq294.2.2.2.2.2 b0 1 (by rw [tb0]; decide)).trans exhb0o
                have s321 := (xq294.2.2.2.2.2 b0 2 (by rw [tb0]; decide)).trans exvb0o
                have s322 := (xq294.2.2.2.2.2 b0 3 (by rw [tb0]; decide)).trans extq0o
                have s323 := (xq294.2.2.2.2.2 b0 4 (by rw [tb0]; decide)).trans exC0o
                have s324 := (xq294.2.2.2.2.2 b0 5 (by rw [tb0]; decide)).trans exR0o
                have s325 := (xq294.2.2.2.2.2 b0 6 (by rw [tb0]; decide)).trans exoc0o
                have s326 := (xq294.2.2.2.2.2 b0 7 (by rw [tb0]; decide)).trans exor0o
                have s327 := (xq294.2.2.2.2.2 b0 8 (by rw [tb0]; decide)).trans exf0o
                have s328 := (xq294.2.2.2.2.2 b1 1 (by rw [tb1]; decide)).trans exhb1o
                have s329 := (xq294.2.2.2.2.2 b1 2 (by rw [tb1]; decide)).trans exvb1o
                have s330 := (xq294.2.2.2.2.2 b1 3 (by rw [tb1]; decide)).trans extq1o
                have s331 := (xq294.2.2.2.2.2 b1 4 (by rw [tb1]; decide)).trans exC1o
                have s332 := (xq294.2.2.2.2.2 b1 5 (by rw [tb1]; decide)).trans exR1o
                have s333 := (xq294.2.2.2.2.2 b1 6 (by rw [tb1]; decide)).trans exoc1o
                have s334 := (xq294.2.2.2.2.2 b1 7 (by rw [tb1]; decide)).trans exor1o
                have s335 := (xq294.2.2.2.2.2 b1 8 (by rw [tb1]; decide)).trans exf1o
                have s336 := (xq294.2.2.2.2.2 b2 1 (by rw [tb2]; decide)).trans exhb2o
                have s337 := (xq294.2.2.2.2.2 b2 2 (by rw [tb2]; decide)).trans exvb2o
                have s338 := (xq294.2.2.2.2.2 b2 3 (by rw [tb2]; decide)).trans extq2o
                have s339 := (xq294.2.2.2.2.2 b2 4 (by rw [tb2]; decide)).trans exC2o
                have s340 := (xq294.2.2.2.2.2 b2 5 (by rw [tb2]; decide)).trans exR2o
                have s341 := (xq294.2.2.2.2.2 b2 6 (by rw [tb2]; decide)).trans exoc2o
                have s342 := (xq294.2.2.2.2.2 b2 7 (by rw [tb2]; decide)).trans exor2o
                have s343 := (xq294.2.2.2.2.2 b2 8 (by rw [tb2]; decide)).trans exf2o
                have pr344 := gXr.fr xq294.2 (by decide) hxr
                have pr345 := gSW.fr xq294.2 (by decide) hsw
                have pr346 := gPC.fr xq294.2 (by decide) hpc
                have pr347 := gTc.fr xq294.2 (by decide) htc
                have pr348 := gRr.fr xq294.2 (by decide) hrr
                have pr349 := gRw.fr xq294.2 (by decide) hrw
                have k350 := sq294.2.1
                have k350b := sq294.2.2.1
                have hl351 : hq294.2.2.2.1 bt = h.2.2.2.1 bt := congrFun sq294.2.2.2.2.1 bt
                have hl352 : hq294.2.2.2.1 coo = h.2.2.2.1 coo := congrFun sq294.2.2.2.2.1 coo
                have hl353 : hq294.2.2.2.1 dmo = h.2.2.2.1 dmo := congrFun sq294.2.2.2.2.1 dmo
                have hl354 : 1024 ≤ hq294.2.2.2.1 bt ∧ hq294.2.2.2.1 bt ≤ 1000000 := gJ.rowl (G := gGG) sq294.1 tbt rfl
                have hl355 : 0 ≤ hq294.2.2.2.1 coo ∧ hq294.2.2.2.1 coo ≤ 12288 := gJ.rowl (G := gGG) sq294.1 tcoo rfl
                have hl356 : 0 ≤ hq294.2.2.2.1 dmo ∧ hq294.2.2.2.1 dmo ≤ 192 := gJ.rowl (G := gGG) sq294.1 tdmo rfl
                have k357 := sq294.2.1
                have k357b := sq294.2.2.1
                have hl358 : hq294.2.2.2.1 bt = h.2.2.2.1 bt := congrFun sq294.2.2.2.2.1 bt
                have hl359 : hq294.2.2.2.1 coo = h.2.2.2.1 coo := congrFun sq294.2.2.2.2.1 coo
                have hl360 : hq294.2.2.2.1 dmo = h.2.2.2.1 dmo := congrFun sq294.2.2.2.2.1 dmo
                have hix361 : gIx ty x ld (hq294.2.2.2.1 bt : Int) (64 * dw + n0 + 4096 * dh + 262144 * scl + 536870912 * i0) S hq294 := ⟨pic, b0, b1, b2, dr, sk, bt, cl, n0, c0, i0, dw, dh, scl, ⟨tx, tdr, tsk, tbt⟩, ⟨s295, s296, s297, s298⟩, pr346, pr347, ⟨s300, by omega, by omega⟩, ⟨s301, by omega, by omega⟩, ⟨s304, by omega, by omega⟩, ⟨by omega, by omega⟩, pr348, pr349, ⟨s302, by omega, by omega⟩, ⟨s303, by omega, by omega⟩, by omega, rfl, pr344, ⟨pr345, hc0⟩, htz, tcl, s299, ⟨s305, by omega, by omega⟩⟩
                have G362 : gSg [] [] [] ty h ty hq294 := gSg.ss G0 sq294 (by decide)
                exact gz_end (I := .ireturn) (len := 1) rfl (Or.inl rfl) ⟨ty, G362, ld, (hq294.2.2.2.1 bt : Int), (64 * dw + n0 + 4096 * dh + 262144 * scl + 536870912 * i0), (by omega), (by omega), (by omega), (by omega), (by omega), (by omega), hix361, Or.inl ⟨zq294, rfl, (by omega), (by omega), (by omega), (by dsimp only; omega), (by dsimp only; omega), (by omega), (by omega)⟩⟩
            · refine gy_icF rfl (by decide) (by decide) (by omega) (by omega) hc27 ?_
              have hl363 : 1024 ≤ h.2.2.2.1 bt ∧ h.2.2.2.1 bt ≤ 1000000 := gJ.rowl (G := gGG) hS.1 tbt rfl
              have hl364 : 0 ≤ h.2.2.2.1 coo ∧ h.2.2.2.1 coo ≤ 12288 := gJ.rowl (G := gGG) hS.1 tcoo rfl
              have hl365 : 0 ≤ h.2.2.2.1 dmo ∧ h.2.2.2.1 dmo ≤ 192 := gJ.rowl (G := gGG) hS.1 tdmo rfl
              have hix366 : gIx ty x ld (h.2.2.2.1 bt : Int) (64 * dw + n0 + 4096 * dh + 262144 * scl + 536870912 * i0) S h := ⟨pic, b0, b1, b2, dr, sk, bt, cl, n0, c0, i0, dw, dh, scl, ⟨tx, tdr, tsk, tbt⟩, ⟨ex2, ex3, ex4, ex0⟩, hpc, htc, ⟨en0, by omega, by omega⟩, ⟨eiv, by omega, by omega⟩, ⟨ec0, by omega, by omega⟩, ⟨by omega, by omega⟩, hrr, hrw, ⟨edw, by omega, by omega⟩, ⟨edh, by omega, by omega⟩, by omega, rfl, hxr, ⟨hsw, hc0⟩, htz, tcl, ex9, ⟨ecl, by omega, by omega⟩⟩
              have G367 : gSg [] [] [] ty h ty h := gSg.ss G0 hS (by decide)
              exact gz_end (I := .new 84) (len := 3) rfl (Or.inr (by decide)) ⟨ty, G367, ld, (h.2.2.2.1 bt : Int), (64 * dw + n0 + 4096 * dh + 262144 * scl + 536870912 * i0), (by omega), (by omega), (by omega), (by omega), (by omega), (by omega), hix366, Or.inr ⟨rfl, rfl, (by omega), (by dsimp only; omega), (by dsimp only; omega), (by omega), (by omega)⟩⟩
  by_cases hc368 : (c : Int) < 0
  · refine gy_ifT (pc' := 29) rfl (by decide) (by decide) (by omega) hc368 ?_
    refine gz_s 1 (pc' := 30) (L' := [some (.ref x), some (.int (zi a)), some (.int (zi b)), some (.int (zi c)), none, none, none, none]) (S' := [.int (zi 0)]) rfl ?_
    exact jn2 0 (by omega)
  · refine gy_ifF rfl (by decide) (by decide) (by omega) hc368 ?_
    refine gz_s 2 (pc' := 6) (L' := [some (.ref x), some (.int (zi a)), some (.int (zi b)), some (.int (zi c)), none, none, none, none]) (S' := [.ref x, .int (zi c)]) rfl ?_
    refine gs_gtk rfl (by decide) rfl hS.1 tx rfl rfl ex2 ?_
    refine gs_gtk rfl (by decide) rfl hS.1 tpic rfl rfl excno ?_
    by_cases hc369 : (c : Int) < vvo 0
    · refine gy_icT (pc' := 25) rfl (by decide) (by decide) (by omega) (by omega) hc369 ?_
      refine gz_s 2 (pc' := 30) (L' := [some (.ref x), some (.int (zi a)), some (.int (zi b)), some (.int (zi c)), none, none, none, none]) (S' := [.int (zi 1)]) rfl ?_
      exact jn2 1 (by omega)
    · refine gy_icF rfl (by decide) (by decide) (by omega) (by omega) hc369 ?_
      refine gz_s 2 (pc' := 17) (L' := [some (.ref x), some (.int (zi a)), some (.int (zi b)), some (.int (zi c)), none, none, none, none]) (S' := [.int (zi 3), .int (zi c)]) rfl ?_
      by_cases hc370 : (c : Int) < 3
      · refine gy_icT (pc' := 29) rfl (by decide) (by decide) (by omega) (by omega) hc370 ?_
        refine gz_s 1 (pc' := 30) (L' := [some (.ref x), some (.int (zi a)), some (.int (zi b)), some (.int (zi c)), none, none, none, none]) (S' := [.int (zi 0)]) rfl ?_
        exact jn2 0 (by omega)
      · refine gy_icF rfl (by decide) (by decide) (by omega) (by omega) hc370 ?_
        refine gz_s 2 (pc' := 22) (L' := [some (.ref x), some (.int (zi a)), some (.int (zi b)), some (.int (zi c)), none, none, none, none]) (S' := [.int (zi 5), .int (zi c)]) rfl ?_
        by_cases hc371 : (5 : Int) < c
        · refine gy_icT (pc' := 29) rfl (by decide) (by decide) (by omega) (by omega) hc371 ?_
          refine gz_s 1 (pc' := 30) (L' := [some (.ref x), some (.int (zi a)), some (.int (zi b)), some (.int (zi c)), none, none, none, none]) (S' := [.int (zi 0)]) rfl ?_
          exact jn2 0 (by omega)
        · refine gy_icF rfl (by decide) (by decide) (by omega) (by omega) hc371 ?_
          refine gz_s 2 (pc' := 30) (L' := [some (.ref x), some (.int (zi a)), some (.int (zi b)), some (.int (zi c)), none, none, none, none]) (S' := [.int (zi 1)]) rfl ?_
          exact jn2 1 (by omega)
set_option maxRecDepth 20000 in
set_option maxHeartbeats 4000000 in
theorem cl_DctFilter_coefficient (d : Nat) {ty : Nat → Nat} {h : gH} (hJ : gJ rT 1027 ty h) (x : Nat) (tx : ty x = 50) (a : Int) (ra : (-2147483648) ≤ a ∧ a ≤ 2147483647) (b : Int) (rb : (-2147483648) ≤ b ∧ b ≤ 2147483647) (S : gSS) (ld : Int) (rld : 0 ≤ ld ∧ ld ≤ 192) (lb : Int) (rlb : 1024 ≤ lb ∧ lb ≤ 1000000) (iv : Int) (riv : 0 ≤ iv ∧ iv ≤ 54223962112) (uq : gUq ty) (hyix : gIx ty x ld lb iv S h) : gz gPP gGG gcn (d + 0) gt79 0 (gent [.ref x, .int (zi a), .int (zi b)] 3) [] h (fun q _ => ∃ ty9 : Nat → Nat, gSg [] [] [] ty h ty9 q.2.2 ∧ ∃ ld1 lb1 iv1 : Int, 0 ≤ ld1 ∧ ld1 ≤ 192 ∧ 1024 ≤ lb1 ∧ lb1 ≤ 1000000 ∧ 0 ≤ iv1 ∧ iv1 ≤ 54223962112 ∧ (gIx ty9 x ld1 lb1 iv1 S q.2.2) ∧ ((∃ z : Int, gfin gt79 q.1 q.2.1 = some (some (.int (zi z))) ∧ (-2147483648) ≤ z ∧ z ≤ 2147483647 ∧ (iv1 = iv) ∧ (1024 * (((q.2.2.1 : Int) - h.1) - 31 - 2 * (ld1 - ld)) ≤ lb1 - lb) ∧ (((q.2.2.2.1 : Int) - h.2.1) ≤ 4303 + 12480 * (ld1 - ld) + 2 * (lb1 - lb)) ∧ (ld ≤ ld1) ∧ (lb ≤ lb1)) ∨ (q.2.1 = [] ∧ ((q.1 = 25)) ∧ (iv1 = iv) ∧ (1024 * (((q.2.2.1 : Int) - h.1) - 31 - 2 * (ld1 - ld)) ≤ lb1 - lb) ∧ (((q.2.2.2.1 : Int) - h.2.1) ≤ 4303 + 12480 * (ld1 - ld) + 2 * (lb1 - lb)) ∧ (ld ≤ ld1) ∧ (lb ≤ lb1)))) := by
  have hS : gSs rT 1027 ty [] h h := gSs.rf hJ
  have G0 : gSg [] [] [] ty h ty h := gSg.rf hJ (fun x hx => by cases hx)
  obtain ⟨pic, b0, b1, b2, dr, sk, bt, cl, n0, c0, i0, dw, dh, scl, ⟨_, tdr, tsk, tbt⟩, ⟨ex2, ex3, ex4, ex0⟩, hpc, htc, ⟨en0, rn0⟩, ⟨eiv, ri0⟩, ⟨ec0, rc0⟩, ⟨lc0, llb⟩, hrr, hrw, ⟨edw, rdw⟩, ⟨edh, rdh⟩, hwh, hcd, hxr, ⟨hsw, hc0⟩, htz, tcl, ex9, ⟨ecl, rcl⟩⟩ := hyix
  have tpic := hpc.1.1
  have tb0 := hpc.1.2.1
  have tb1 := hpc.1.2.2.1
  have tb2 := hpc.1.2.2.2
  have hpq1 := hpc
  obtain ⟨_, bno, coo, dmo, vvo, ⟨tbno, tcoo, tdmo⟩, ⟨er0o, er1o, er2o, er3o, er4o, er5o⟩, hvvo, hrro, ⟨yy0o, yy1o, yy2o, yy3o, yy4o, yy5o, yy6o, yy7o⟩, ll0o, ll1o, ll2o, ll3o⟩ := hpq1
  have excno : h.2.2.2.2 pic 7 = .int (zi (vvo 0)) := hvvo (0, 7, 0) (by decide)
  have rrcno : 0 ≤ vvo 0 ∧ vvo 0 ≤ 3 := hrro (0, 0, 3) (by decide)
  have exuco : h.2.2.2.2 pic 12 = .int (zi (vvo 1)) := hvvo (0, 12, 1) (by decide)
  have rruco : 0 ≤ vvo 1 ∧ vvo 1 ≤ 8 := hrro (1, 0, 8) (by decide)
  have exuro : h.2.2.2.2 pic 13 = .int (zi (vvo 2)) := hvvo (0, 13, 2) (by decide)
  have rruro : 0 ≤ vvo 2 ∧ vvo 2 ≤ 8 := hrro (2, 0, 8) (by decide)
  have exblo : h.2.2.2.2 pic 8 = .int (zi (vvo 3)) := hvvo (0, 8, 3) (by decide)
  have rrblo : 0 ≤ vvo 3 ∧ vvo 3 ≤ 192 := hrro (3, 0, 192) (by decide)
  have exwo : h.2.2.2.2 pic 5 = .int (zi (vvo 4)) := hvvo (0, 5, 4) (by decide)
  have rrwo : 0 ≤ vvo 4 ∧ vvo 4 ≤ 64 := hrro (4, 0, 64) (by decide)
  have exhho : h.2.2.2.2 pic 6 = .int (zi (vvo 5)) := hvvo (0, 6, 5) (by decide)
  have rrhho : 0 ≤ vvo 5 ∧ vvo 5 ≤ 64 := hrro (5, 0, 64) (by decide)
  have exgho : h.2.2.2.2 pic 10 = .int (zi (vvo 6)) := hvvo (0, 10, 6) (by decide)
  have rrgho : 1 ≤ vvo 6 ∧ vvo 6 ≤ 2 := hrro (6, 1, 2) (by decide)
  have exgvo : h.2.2.2.2 pic 11 = .int (zi (vvo 7)) := hvvo (0, 11, 7) (by decide)
  have rrgvo : 1 ≤ vvo 7 ∧ vvo 7 ≤ 2 := hrro (7, 1, 2) (by decide)
  have exhb0o : h.2.2.2.2 b0 1 = .int (zi (vvo 8)) := hvvo (1, 1, 8) (by decide)
  have rrhb0o : (-1) ≤ vvo 8 ∧ vvo 8 ≤ 15 := hrro (8, (-1), 15) (by decide)
  have exvb0o : h.2.2.2.2 b0 2 = .int (zi (vvo 9)) := hvvo (1, 2, 9) (by decide)
  have rrvb0o : 0 ≤ vvo 9 ∧ vvo 9 ≤ 15 := hrro (9, 0, 15) (by decide)
  have extq0o : h.2.2.2.2 b0 3 = .int (zi (vvo 10)) := hvvo (1, 3, 10) (by decide)
  have rrtq0o : (-1) ≤ vvo 10 ∧ vvo 10 ≤ 255 := hrro (10, (-1), 255) (by decide)
  have exC0o : h.2.2.2.2 b0 4 = .int (zi (vvo 11)) := hvvo (1, 4, 11) (by decide)
  have rrC0o : 0 ≤ vvo 11 ∧ vvo 11 ≤ 16 := hrro (11, 0, 16) (by decide)
  have exR0o : h.2.2.2.2 b0 5 = .int (zi (vvo 12)) := hvvo (1, 5, 12) (by decide)
  have rrR0o : 0 ≤ vvo 12 ∧ vvo 12 ≤ 16 := hrro (12, 0, 16) (by decide)
  have exoc0o : h.2.2.2.2 b0 6 = .int (zi (vvo 13)) := hvvo (1, 6, 13) (by decide)
  have rroc0o : 0 ≤ vvo 13 ∧ vvo 13 ≤ 16 := hrro (13, 0, 16) (by decide)
  have exor0o : h.2.2.2.2 b0 7 = .int (zi (vvo 14)) := hvvo (1, 7, 14) (by decide)
  have rror0o : 0 ≤ vvo 14 ∧ vvo 14 ≤ 16 := hrro (14, 0, 16) (by decide)
  have exf0o : h.2.2.2.2 b0 8 = .int (zi (vvo 15)) := hvvo (1, 8, 15) (by decide)
  have rrf0o : 0 ≤ vvo 15 ∧ vvo 15 ≤ 192 := hrro (15, 0, 192) (by decide)
  have exhb1o : h.2.2.2.2 b1 1 = .int (zi (vvo 16)) := hvvo (2, 1, 16) (by decide)
  have rrhb1o : (-1) ≤ vvo 16 ∧ vvo 16 ≤ 15 := hrro (16, (-1), 15) (by decide)
  have exvb1o : h.2.2.2.2 b1 2 = .int (zi (vvo 17)) := hvvo (2, 2, 17) (by decide)
  have rrvb1o : 0 ≤ vvo 17 ∧ vvo 17 ≤ 15 := hrro (17, 0, 15) (by decide)
  have extq1o : h.2.2.2.2 b1 3 = .int (zi (vvo 18)) := hvvo (2, 3, 18) (by decide)
  have rrtq1o : (-1) ≤ vvo 18 ∧ vvo 18 ≤ 255 := hrro (18, (-1), 255) (by decide)
  have exC1o : h.2.2.2.2 b1 4 = .int (zi (vvo 19)) := hvvo (2, 4, 19) (by decide)
  have rrC1o : 0 ≤ vvo 19 ∧ vvo 19 ≤ 16 := hrro (19, 0, 16) (by decide)
  have exR1o : h.2.2.2.2 b1 5 = .int (zi (vvo 20)) := hvvo (2, 5, 20) (by decide)
  have rrR1o : 0 ≤ vvo 20 ∧ vvo 20 ≤ 16 := hrro (20, 0, 16) (by decide)
  have exoc1o : h.2.2.2.2 b1 6 = .int (zi (vvo 21)) := hvvo (2, 6, 21) (by decide)
  have rroc1o : 0 ≤ vvo 21 ∧ vvo 21 ≤ 16 := hrro (21, 0, 16) (by decide)
  have exor1o : h.2.2.2.2 b1 7 = .int (zi (vvo 22)) := hvvo (2, 7, 22) (by decide)
  have rror1o : 0 ≤ vvo 22 ∧ vvo 22 ≤ 16 := hrro (22, 0, 16) (by decide)
  have exf1o : h.2.2.2.2 b1 8 = .int (zi (vvo 23)) := hvvo (2, 8, 23) (by decide)
  have rrf1o : 0 ≤ vvo 23 ∧ vvo 23 ≤ 192 := hrro (23, 0, 192) (by decide)
  have exhb2o : h.2.2.2.2 b2 1 = .int (zi (vvo 24)) := hvvo (3, 1, 24) (by decide)
  have rrhb2o : (-1) ≤ vvo 24 ∧ vvo 24 ≤ 15 := hrro (24, (-1), 15) (by decide)
  have exvb2o : h.2.2.2.2 b2 2 = .int (zi (vvo 25)) := hvvo (3, 2, 25) (by decide)
  have rrvb2o : 0 ≤ vvo 25 ∧ vvo 25 ≤ 15 := hrro (25, 0, 15) (by decide)
  have extq2o : h.2.2.2.2 b2 3 = .int (zi (vvo 26)) := hvvo (3, 3, 26) (by decide)
  have rrtq2o : (-1) ≤ vvo 26 ∧ vvo 26 ≤ 255 := hrro (26, (-1), 255) (by decide)
  have exC2o : h.2.2.2.2 b2 4 = .int (zi (vvo 27)) := hvvo (3, 4, 27) (by decide)
  have rrC2o : 0 ≤ vvo 27 ∧ vvo 27 ≤ 16 := hrro (27, 0, 16) (by decide)
  have exR2o : h.2.2.2.2 b2 5 = .int (zi (vvo 28)) := hvvo (3, 5, 28) (by decide)
  have rrR2o : 0 ≤ vvo 28 ∧ vvo 28 ≤ 16 := hrro (28, 0, 16) (by decide)
  have exoc2o : h.2.2.2.2 b2 6 = .int (zi (vvo 29)) := hvvo (3, 6, 29) (by decide)
  have rroc2o : 0 ≤ vvo 29 ∧ vvo 29 ≤ 16 := hrro (29, 0, 16) (by decide)
  have exor2o : h.2.2.2.2 b2 7 = .int (zi (vvo 30)) := hvvo (3, 7, 30) (by decide)
  have rror2o : 0 ≤ vvo 30 ∧ vvo 30 ≤ 16 := hrro (30, 0, 16) (by decide)
  have exf2o : h.2.2.2.2 b2 8 = .int (zi (vvo 31)) := hvvo (3, 8, 31) (by decide)
  have rrf2o : 0 ≤ vvo 31 ∧ vvo 31 ≤ 192 := hrro (31, 0, 192) (by decide)
  refine gz_s 1 (pc' := 1) (L' := [some (.ref x), some (.int (zi a)), some (.int (zi b))]) (S' := [.int (zi a)]) rfl ?_
  by_cases hc2 : (a : Int) < 0
  · refine gy_ifT (pc' := 25) rfl (by decide) (by decide) (by omega) hc2 ?_
    have hl3 : 1024 ≤ h.2.2.2.1 bt ∧ h.2.2.2.1 bt ≤ 1000000 := gJ.rowl (G := gGG) hS.1 tbt rfl
    have hl4 : 0 ≤ h.2.2.2.1 coo ∧ h.2.2.2.1 coo ≤ 12288 := gJ.rowl (G := gGG) hS.1 tcoo rfl
    have hl5 : 0 ≤ h.2.2.2.1 dmo ∧ h.2.2.2.1 dmo ≤ 192 := gJ.rowl (G := gGG) hS.1 tdmo rfl
    have hix6 : gIx ty x ld (h.2.2.2.1 bt : Int) (64 * dw + n0 + 4096 * dh + 262144 * scl + 536870912 * i0) S h := ⟨pic, b0, b1, b2, dr, sk, bt, cl, n0, c0, i0, dw, dh, scl, ⟨tx, tdr, tsk, tbt⟩, ⟨ex2, ex3, ex4, ex0⟩, hpc, htc, ⟨en0, by omega, by omega⟩, ⟨eiv, by omega, by omega⟩, ⟨ec0, by omega, by omega⟩, ⟨by omega, by omega⟩, hrr, hrw, ⟨edw, by omega, by omega⟩, ⟨edh, by omega, by omega⟩, by omega, rfl, hxr, ⟨hsw, hc0⟩, htz, tcl, ex9, ⟨ecl, by omega, by omega⟩⟩
    have G7 : gSg [] [] [] ty h ty h := gSg.ss G0 hS (by decide)
    exact gz_end (I := .new 108) (len := 3) rfl (Or.inr (by decide)) ⟨ty, G7, ld, (h.2.2.2.1 bt : Int), (64 * dw + n0 + 4096 * dh + 262144 * scl + 536870912 * i0), (by omega), (by omega), (by omega), (by omega), (by omega), (by omega), hix6, Or.inr ⟨rfl, rfl, (by omega), (by dsimp only; omega), (by dsimp only; omega), (by omega), (by omega)⟩⟩
  · refine gy_ifF rfl (by decide) (by decide) (by omega) hc2 ?_
    refine gz_s 2 (pc' := 6) (L' := [some (.ref x), some (.int (zi a)), some (.int (zi b))]) (S' := [.ref x, .int (zi a)]) rfl ?_
    refine gs_gtk rfl (by decide) rfl hS.1 tx rfl rfl ex2 ?_
    refine gs_gtk rfl (by decide) rfl hS.1 tpic rfl rfl exblo ?_
    by_cases hc8 : (vvo 3 : Int) ≤ a
    · refine gy_icT (pc' := 25) rfl (by decide) (by decide) (by omega) (by omega) hc8 ?_
      have hl9 : 1024 ≤ h.2.2.2.1 bt ∧ h.2.2.2.1 bt ≤ 1000000 := gJ.rowl (G := gGG) hS.1 tbt rfl
      have hl10 : 0 ≤ h.2.2.2.1 coo ∧ h.2.2.2.1 coo ≤ 12288 := gJ.rowl (G := gGG) hS.1 tcoo rfl
      have hl11 : 0 ≤ h.2.2.2.1 dmo ∧ h.2.2.2.1 dmo ≤ 192 := gJ.rowl (G := gGG) hS.1 tdmo rfl
      have hix12 : gIx ty x ld (h.2.2.2.1 bt : Int) (64 * dw + n0 + 4096 * dh + 262144 * scl + 536870912 * i0) S h := ⟨pic, b0, b1, b2, dr, sk, bt, cl, n0, c0, i0, dw, dh, scl, ⟨tx, tdr, tsk, tbt⟩, ⟨ex2, ex3, ex4, ex0⟩, hpc, htc, ⟨en0, by omega, by omega⟩, ⟨eiv, by omega, by omega⟩, ⟨ec0, by omega, by omega⟩, ⟨by omega, by omega⟩, hrr, hrw, ⟨edw, by omega, by omega⟩, ⟨edh, by omega, by omega⟩, by omega, rfl, hxr, ⟨hsw, hc0⟩, htz, tcl, ex9, ⟨ecl, by omega, by omega⟩⟩
      have G13 : gSg [] [] [] ty h ty h := gSg.ss G0 hS (by decide)
      exact gz_end (I := .new 108) (len := 3) rfl (Or.inr (by decide)) ⟨ty, G13, ld, (h.2.2.2.1 bt : Int), (64 * dw + n0 + 4096 * dh + 262144 * scl + 536870912 * i0), (by omega), (by omega), (by omega), (by omega), (by omega), (by omega), hix12, Or.inr ⟨rfl, rfl, (by omega), (by dsimp only; omega), (by dsimp only; omega), (by omega), (by omega)⟩⟩
    · refine gy_icF rfl (by decide) (by decide) (by omega) (by omega) hc8 ?_
      refine gz_s 1 (pc' := 16) (L' := [some (.ref x), some (.int (zi a)), some (.int (zi b))]) (S' := [.int (zi b)]) rfl ?_
      by_cases hc14 : (b : Int) < 0
      · refine gy_ifT (pc' := 25) rfl (by decide) (by decide) (by omega) hc14 ?_
        have hl15 : 1024 ≤ h.2.2.2.1 bt ∧ h.2.2.2.1 bt ≤ 1000000 := gJ.rowl (G := gGG) hS.1 tbt rfl
        have hl16 : 0 ≤ h.2.2.2.1 coo ∧ h.2.2.2.1 coo ≤ 12288 := gJ.rowl (G := gGG) hS.1 tcoo rfl
        have hl17 : 0 ≤ h.2.2.2.1 dmo ∧ h.2.2.2.1 dmo ≤ 192 := gJ.rowl (G := gGG) hS.1 tdmo rfl
        have hix18 : gIx ty x ld (h.2.2.2.1 bt : Int) (64 * dw + n0 + 4096 * dh + 262144 * scl + 536870912 * i0) S h := ⟨pic, b0, b1, b2, dr, sk, bt, cl, n0, c0, i0, dw, dh, scl, ⟨tx, tdr, tsk, tbt⟩, ⟨ex2, ex3, ex4, ex0⟩, hpc, htc, ⟨en0, by omega, by omega⟩, ⟨eiv, by omega, by omega⟩, ⟨ec0, by omega, by omega⟩, ⟨by omega, by omega⟩, hrr, hrw, ⟨edw, by omega, by omega⟩, ⟨edh, by omega, by omega⟩, by omega, rfl, hxr, ⟨hsw, hc0⟩, htz, tcl, ex9, ⟨ecl, by omega, by omega⟩⟩
        have G19 : gSg [] [] [] ty h ty h := gSg.ss G0 hS (by decide)
        exact gz_end (I := .new 108) (len := 3) rfl (Or.inr (by decide)) ⟨ty, G19, ld, (h.2.2.2.1 bt : Int), (64 * dw + n0 + 4096 * dh + 262144 * scl + 536870912 * i0), (by omega), (by omega), (by omega), (by omega), (by omega), (by omega), hix18, Or.inr ⟨rfl, rfl, (by omega), (by dsimp only; omega), (by dsimp only; omega), (by omega), (by omega)⟩⟩
      · refine gy_ifF rfl (by decide) (by decide) (by omega) hc14 ?_
        refine gz_s 2 (pc' := 22) (L' := [some (.ref x), some (.int (zi a)), some (.int (zi b))]) (S' := [.int (zi 63), .int (zi b)]) rfl ?_
        by_cases hc20 : (b : Int) ≤ 63
        · refine gy_icT (pc' := 35) rfl (by decide) (by decide) (by omega) (by omega) hc20 ?_
          refine gz_s 1 (pc' := 36) (L' := [some (.ref x), some (.int (zi a)), some (.int (zi b))]) (S' := [.ref x]) rfl ?_
          refine gs_gtk rfl (by decide) rfl hS.1 tx rfl rfl ex2 ?_
          refine gs_gtk rfl (by decide) rfl hS.1 tpic rfl rfl er4o ?_
          refine gy_s 5 (pc' := 48) (L' := [some (.ref x), some (.int (zi a)), some (.int (zi b))]) (S' := [.int (((zi a) * (zi 64)) + (zi b)), .ref coo]) (L2 := [some (.ref x), some (.int (zi a)), some (.int (zi b))]) (S2 := [.int (zi ((a * 64) + b)), .ref coo]) rfl (by simp only [zi_add, zi_sub, zi_mul, zi_neg, zi_and1, zi_and7, zi_and15, zi_and31, zi_and255]) (by simp only [zi_add, zi_sub, zi_mul, zi_neg, zi_and1, zi_and7, zi_and15, zi_and31, zi_and255]) ?_
          have hl21 : 0 ≤ h.2.2.2.1 coo ∧ h.2.2.2.1 coo ≤ 12288 := gJ.rowl (G := gGG) hS.1 tcoo rfl
          have hl22 : h.2.2.2.1 coo = h.2.2.2.1 coo := congrFun hS.2.2.2.2.1 coo
          refine gs_ald rfl (by decide) hS.1 tcoo rfl rfl rfl (by decide) (fun _ => rfl) (by omega) (by omega) (fun z23 ez23 az23 bz23 => ?_)
          have hl24 : 1024 ≤ h.2.2.2.1 bt ∧ h.2.2.2.1 bt ≤ 1000000 := gJ.rowl (G := gGG) hS.1 tbt rfl
          have hl25 : 0 ≤ h.2.2.2.1 coo ∧ h.2.2.2.1 coo ≤ 12288 := gJ.rowl (G := gGG) hS.1 tcoo rfl
          have hl26 : 0 ≤ h.2.2.2.1 dmo ∧ h.2.2.2.1 dmo ≤ 192 := gJ.rowl (G := gGG) hS.1 tdmo rfl
          have hix27 : gIx ty x ld (h.2.2.2.1 bt : Int) (64 * dw + n0 + 4096 * dh + 262144 * scl + 536870912 * i0) S h := ⟨pic, b0, b1, b2, dr, sk, bt, cl, n0, c0, i0, dw, dh, scl, ⟨tx, tdr, tsk, tbt⟩, ⟨ex2, ex3, ex4, ex0⟩, hpc, htc, ⟨en0, by omega, by omega⟩, ⟨eiv, by omega, by omega⟩, ⟨ec0, by omega, by omega⟩, ⟨by omega, by omega⟩, hrr, hrw, ⟨edw, by omega, by omega⟩, ⟨edh, by omega, by omega⟩, by omega, rfl, hxr, ⟨hsw, hc0⟩, htz, tcl, ex9, ⟨ecl, by omega, by omega⟩⟩
          have G28 : gSg [] [] [] ty h ty h := gSg.ss G0 hS (by decide)
          exact gz_end (I := .ireturn) (len := 1) rfl (Or.inl rfl) ⟨ty, G28, ld, (h.2.2.2.1 bt : Int), (64 * dw + n0 + 4096 * dh + 262144 * scl + 536870912 * i0), (by omega), (by omega), (by omega), (by omega), (by omega), (by omega), hix27, Or.inl ⟨z23, rfl, (by omega), (by omega), (by omega), (by dsimp only; omega), (by dsimp only; omega), (by omega), (by omega)⟩⟩
        · refine gy_icF rfl (by decide) (by decide) (by omega) (by omega) hc20 ?_
          have hl29 : 1024 ≤ h.2.2.2.1 bt ∧ h.2.2.2.1 bt ≤ 1000000 := gJ.rowl (G := gGG) hS.1 tbt rfl
          have hl30 : 0 ≤ h.2.2.2.1 coo ∧ h.2.2.2.1 coo ≤ 12288 := gJ.rowl (G := gGG) hS.1 tcoo rfl
          have hl31 : 0 ≤ h.2.2.2.1 dmo ∧ h.2.2.2.1 dmo ≤ 192 := gJ.rowl (G := gGG) hS.1 tdmo rfl
          have hix32 : gIx ty x ld (h.2.2.2.1 bt : Int) (64 * dw + n0 + 4096 * dh + 262144 * scl + 536870912 * i0) S h := ⟨pic, b0, b1, b2, dr, sk, bt, cl, n0, c0, i0, dw, dh, scl, ⟨tx, tdr, tsk, tbt⟩, ⟨ex2, ex3, ex4, ex0⟩, hpc, htc, ⟨en0, by omega, by omega⟩, ⟨eiv, by omega, by omega⟩, ⟨ec0, by omega, by omega⟩, ⟨by omega, by omega⟩, hrr, hrw, ⟨edw, by omega, by omega⟩, ⟨edh, by omega, by omega⟩, by omega, rfl, hxr, ⟨hsw, hc0⟩, htz, tcl, ex9, ⟨ecl, by omega, by omega⟩⟩
          have G33 : gSg [] [] [] ty h ty h := gSg.ss G0 hS (by decide)
          exact gz_end (I := .new 108) (len := 3) rfl (Or.inr (by decide)) ⟨ty, G33, ld, (h.2.2.2.1 bt : Int), (64 * dw + n0 + 4096 * dh + 262144 * scl + 536870912 * i0), (by omega), (by omega), (by omega), (by omega), (by omega), (by omega), hix32, Or.inr ⟨rfl, rfl, (by omega), (by dsimp only; omega), (by dsimp only; omega), (by omega), (by omega)⟩⟩
set_option maxRecDepth 20000 in
set_option maxHeartbeats 4000000 in
theorem cl_DctFilter_exact (d : Nat) {ty : Nat → Nat} {h : gH} (hJ : gJ rT 1027 ty h) (x : Nat) (tx : ty x = 50) (a : Int) (ra : (-2147483648) ≤ a ∧ a ≤ 2147483647) (b : Int) (rb : (-2147483648) ≤ b ∧ b ≤ 2147483647) (hyst : gSta ty h) (S : gSS) (ld : Int) (rld : 0 ≤ ld ∧ ld ≤ 192) (lb : Int) (rlb : 1024 ≤ lb ∧ lb ≤ 1000000) (iv : Int) (riv : 0 ≤ iv ∧ iv ≤ 54223962112) (uq : gUq ty) (hyix : gIx ty x ld lb iv S h) : gz gPP gGG gcn (d + 2) gt80 0 (gent [.ref x, .int (zi a), .int (zi b)] 3) [] h (fun q _ => ∃ ty9 : Nat → Nat, gSg [] [] [] ty h ty9 q.2.2 ∧ ∃ ld1 lb1 iv1 : Int, 0 ≤ ld1 ∧ ld1 ≤ 192 ∧ 1024 ≤ lb1 ∧ lb1 ≤ 1000000 ∧ 0 ≤ iv1 ∧ iv1 ≤ 54223962112 ∧ (gIx ty9 x ld1 lb1 iv1 S q.2.2) ∧ ((∃ z : Int, gfin gt80 q.1 q.2.1 = some (some (.long (zl z))) ∧ (-9223372036854775808) ≤ z ∧ z ≤ 9223372036854775807 ∧ (iv1 = iv) ∧ (1024 * (((q.2.2.1 : Int) - h.1) - 31 - 2 * (ld1 - ld)) ≤ lb1 - lb) ∧ (((q.2.2.2.1 : Int) - h.2.1) ≤ 4303 + 12480 * (ld1 - ld) + 2 * (lb1 - lb)) ∧ (ld ≤ ld1) ∧ (lb ≤ lb1)) ∨ (q.2.1 = [] ∧ ((q.1 = 25)) ∧ (iv1 = iv) ∧ (1024 * (((q.2.2.1 : Int) - h.1) - 31 - 2 * (ld1 - ld)) ≤ lb1 - lb) ∧ (((q.2.2.2.1 : Int) - h.2.1) ≤ 4303 + 12480 * (ld1 - ld) + 2 * (lb1 - lb)) ∧ (ld ≤ ld1) ∧ (lb ≤ lb1)))) := by
  have hS : gSs rT 1027 ty [] h h := gSs.rf hJ
  have G0 : gSg [] [] [] ty h ty h := gSg.rf hJ (fun x hx => by cases hx)
  obtain ⟨pic, b0, b1, b2, dr, sk, bt, cl, n0, c0, i0, dw, dh, scl, ⟨_, tdr, tsk, tbt⟩, ⟨ex2, ex3, ex4, ex0⟩, hpc, htc, ⟨en0, rn0⟩, ⟨eiv, ri0⟩, ⟨ec0, rc0⟩, ⟨lc0, llb⟩, hrr, hrw, ⟨edw, rdw⟩, ⟨edh, rdh⟩, hwh, hcd, hxr, ⟨hsw, hc0⟩, htz, tcl, ex9, ⟨ecl, rcl⟩⟩ := hyix
  have tpic := hpc.1.1
  have tb0 := hpc.1.2.1
  have tb1 := hpc.1.2.2.1
  have tb2 := hpc.1.2.2.2
  have hpq1 := hpc
  obtain ⟨_, bno, coo, dmo, vvo, ⟨tbno, tcoo, tdmo⟩, ⟨er0o, er1o, er2o, er3o, er4o, er5o⟩, hvvo, hrro, ⟨yy0o, yy1o, yy2o, yy3o, yy4o, yy5o, yy6o, yy7o⟩, ll0o, ll1o, ll2o, ll3o⟩ := hpq1
  have excno : h.2.2.2.2 pic 7 = .int (zi (vvo 0)) := hvvo (0, 7, 0) (by decide)
  have rrcno : 0 ≤ vvo 0 ∧ vvo 0 ≤ 3 := hrro (0, 0, 3) (by decide)
  have exuco : h.2.2.2.2 pic 12 = .int (zi (vvo 1)) := hvvo (0, 12, 1) (by decide)
  have rruco : 0 ≤ vvo 1 ∧ vvo 1 ≤ 8 := hrro (1, 0, 8) (by decide)
  have exuro : h.2.2.2.2 pic 13 = .int (zi (vvo 2)) := hvvo (0, 13, 2) (by decide)
  have rruro : 0 ≤ vvo 2 ∧ vvo 2 ≤ 8 := hrro (2, 0, 8) (by decide)
  have exblo : h.2.2.2.2 pic 8 = .int (zi (vvo 3)) := hvvo (0, 8, 3) (by decide)
  have rrblo : 0 ≤ vvo 3 ∧ vvo 3 ≤ 192 := hrro (3, 0, 192) (by decide)
  have exwo : h.2.2.2.2 pic 5 = .int (zi (vvo 4)) := hvvo (0, 5, 4) (by decide)
  have rrwo : 0 ≤ vvo 4 ∧ vvo 4 ≤ 64 := hrro (4, 0, 64) (by decide)
  have exhho : h.2.2.2.2 pic 6 = .int (zi (vvo 5)) := hvvo (0, 6, 5) (by decide)
  have rrhho : 0 ≤ vvo 5 ∧ vvo 5 ≤ 64 := hrro (5, 0, 64) (by decide)
  have exgho : h.2.2.2.2 pic 10 = .int (zi (vvo 6)) := hvvo (0, 10, 6) (by decide)
  have rrgho : 1 ≤ vvo 6 ∧ vvo 6 ≤ 2 := hrro (6, 1, 2) (by decide)
  have exgvo : h.2.2.2.2 pic 11 = .int (zi (vvo 7)) := hvvo (0, 11, 7) (by decide)
  have rrgvo : 1 ≤ vvo 7 ∧ vvo 7 ≤ 2 := hrro (7, 1, 2) (by decide)
  have exhb0o : h.2.2.2.2 b0 1 = .int (zi (vvo 8)) := hvvo (1, 1, 8) (by decide)
  have rrhb0o : (-1) ≤ vvo 8 ∧ vvo 8 ≤ 15 := hrro (8, (-1), 15) (by decide)
  have exvb0o : h.2.2.2.2 b0 2 = .int (zi (vvo 9)) := hvvo (1, 2, 9) (by decide)
  have rrvb0o : 0 ≤ vvo 9 ∧ vvo 9 ≤ 15 := hrro (9, 0, 15) (by decide)
  have extq0o : h.2.2.2.2 b0 3 = .int (zi (vvo 10)) := hvvo (1, 3, 10) (by decide)
  have rrtq0o : (-1) ≤ vvo 10 ∧ vvo 10 ≤ 255 := hrro (10, (-1), 255) (by decide)
  have exC0o : h.2.2.2.2 b0 4 = .int (zi (vvo 11)) := hvvo (1, 4, 11) (by decide)
  have rrC0o : 0 ≤ vvo 11 ∧ vvo 11 ≤ 16 := hrro (11, 0, 16) (by decide)
  have exR0o : h.2.2.2.2 b0 5 = .int (zi (vvo 12)) := hvvo (1, 5, 12) (by decide)
  have rrR0o : 0 ≤ vvo 12 ∧ vvo 12 ≤ 16 := hrro (12, 0, 16) (by decide)
  have exoc0o : h.2.2.2.2 b0 6 = .int (zi (vvo 13)) := hvvo (1, 6, 13) (by decide)
  have rroc0o : 0 ≤ vvo 13 ∧ vvo 13 ≤ 16 := hrro (13, 0, 16) (by decide)
  have exor0o : h.2.2.2.2 b0 7 = .int (zi (vvo 14)) := hvvo (1, 7, 14) (by decide)
  have rror0o : 0 ≤ vvo 14 ∧ vvo 14 ≤ 16 := hrro (14, 0, 16) (by decide)
  have exf0o : h.2.2.2.2 b0 8 = .int (zi (vvo 15)) := hvvo (1, 8, 15) (by decide)
  have rrf0o : 0 ≤ vvo 15 ∧ vvo 15 ≤ 192 := hrro (15, 0, 192) (by decide)
  have exhb1o : h.2.2.2.2 b1 1 = .int (zi (vvo 16)) := hvvo (2, 1, 16) (by decide)
  have rrhb1o : (-1) ≤ vvo 16 ∧ vvo 16 ≤ 15 := hrro (16, (-1), 15) (by decide)
  have exvb1o : h.2.2.2.2 b1 2 = .int (zi (vvo 17)) := hvvo (2, 2, 17) (by decide)
  have rrvb1o : 0 ≤ vvo 17 ∧ vvo 17 ≤ 15 := hrro (17, 0, 15) (by decide)
  have extq1o : h.2.2.2.2 b1 3 = .int (zi (vvo 18)) := hvvo (2, 3, 18) (by decide)
  have rrtq1o : (-1) ≤ vvo 18 ∧ vvo 18 ≤ 255 := hrro (18, (-1), 255) (by decide)
  have exC1o : h.2.2.2.2 b1 4 = .int (zi (vvo 19)) := hvvo (2, 4, 19) (by decide)
  have rrC1o : 0 ≤ vvo 19 ∧ vvo 19 ≤ 16 := hrro (19, 0, 16) (by decide)
  have exR1o : h.2.2.2.2 b1 5 = .int (zi (vvo 20)) := hvvo (2, 5, 20) (by decide)
  have rrR1o : 0 ≤ vvo 20 ∧ vvo 20 ≤ 16 := hrro (20, 0, 16) (by decide)
  have exoc1o : h.2.2.2.2 b1 6 = .int (zi (vvo 21)) := hvvo (2, 6, 21) (by decide)
  have rroc1o : 0 ≤ vvo 21 ∧ vvo 21 ≤ 16 := hrro (21, 0, 16) (by decide)
  have exor1o : h.2.2.2.2 b1 7 = .int (zi (vvo 22)) := hvvo (2, 7, 22) (by decide)
  have rror1o : 0 ≤ vvo 22 ∧ vvo 22 ≤ 16 := hrro (22, 0, 16) (by decide)
  have exf1o : h.2.2.2.2 b1 8 = .int (zi (vvo 23)) := hvvo (2, 8, 23) (by decide)
  have rrf1o : 0 ≤ vvo 23 ∧ vvo 23 ≤ 192 := hrro (23, 0, 192) (by decide)
  have exhb2o : h.2.2.2.2 b2 1 = .int (zi (vvo 24)) := hvvo (3, 1, 24) (by decide)
  have rrhb2o : (-1) ≤ vvo 24 ∧ vvo 24 ≤ 15 := hrro (24, (-1), 15) (by decide)
  have exvb2o : h.2.2.2.2 b2 2 = .int (zi (vvo 25)) := hvvo (3, 2, 25) (by decide)
  have rrvb2o : 0 ≤ vvo 25 ∧ vvo 25 ≤ 15 := hrro (25, 0, 15) (by decide)
  have extq2o : h.2.2.2.2 b2 3 = .int (zi (vvo 26)) := hvvo (3, 3, 26) (by decide)
  have rrtq2o : (-1) ≤ vvo 26 ∧ vvo 26 ≤ 255 := hrro (26, (-1), 255) (by decide)
  have exC2o : h.2.2.2.2 b2 4 = .int (zi (vvo 27)) := hvvo (3, 4, 27) (by decide)
  have rrC2o : 0 ≤ vvo 27 ∧ vvo 27 ≤ 16 := hrro (27, 0, 16) (by decide)
  have exR2o : h.2.2.2.2 b2 5 = .int (zi (vvo 28)) := hvvo (3, 5, 28) (by decide)
  have rrR2o : 0 ≤ vvo 28 ∧ vvo 28 ≤ 16 := hrro (28, 0, 16) (by decide)
  have exoc2o : h.2.2.2.2 b2 6 = .int (zi (vvo 29)) := hvvo (3, 6, 29) (by decide)
  have rroc2o : 0 ≤ vvo 29 ∧ vvo 29 ≤ 16 := hrro (29, 0, 16) (by decide)
  have exor2o : h.2.2.2.2 b2 7 = .int (zi (vvo 30)) := hvvo (3, 7, 30) (by decide)
  have rror2o : 0 ≤ vvo 30 ∧ vvo 30 ≤ 16 := hrro (30, 0, 16) (by decide)
  have exf2o : h.2.2.2.2 b2 8 = .int (zi (vvo 31)) := hvvo (3, 8, 31) (by decide)
  have rrf2o : 0 ≤ vvo 31 ∧ vvo 31 ≤ 192 := hrro (31, 0, 192) (by decide)
  refine gz_s 1 (pc' := 1) (L' := [some (.ref x), some (.int (zi a)), some (.int (zi b))]) (S' := [.int (zi a)]) rfl ?_
  by_cases hc2 : (a : Int) < 0
  · refine gy_ifT (pc' := 25) rfl (by decide) (by decide) (by omega) hc2 ?_
    have hl3 : 1024 ≤ h.2.2.2.1 bt ∧ h.2.2.2.1 bt ≤ 1000000 := gJ.rowl (G := gGG) hS.1 tbt rfl
    have hl4 : 0 ≤ h.2.2.2.1 coo ∧ h.2.2.2.1 coo ≤ 12288 := gJ.rowl (G := gGG) hS.1 tcoo rfl
    have hl5 : 0 ≤ h.2.2.2.1 dmo ∧ h.2.2.2.1 dmo ≤ 192 := gJ.rowl (G := gGG) hS.1 tdmo rfl
    have hix6 : gIx ty x ld (h.2.2.2.1 bt : Int) (64 * dw + n0 + 4096 * dh + 262144 * scl + 536870912 * i0) S h := ⟨pic, b0, b1, b2, dr, sk, bt, cl, n0, c0, i0, dw, dh, scl, ⟨tx, tdr, tsk, tbt⟩, ⟨ex2, ex3, ex4, ex0⟩, hpc, htc, ⟨en0, by omega, by omega⟩, ⟨eiv, by omega, by omega⟩, ⟨ec0, by omega, by omega⟩, ⟨by omega, by omega⟩, hrr, hrw, ⟨edw, by omega, by omega⟩, ⟨edh, by omega, by omega⟩, by omega, rfl, hxr, ⟨hsw, hc0⟩, htz, tcl, ex9, ⟨ecl, by omega, by omega⟩⟩
    have G7 : gSg [] [] [] ty h ty h := gSg.ss G0 hS (by decide)
    exact gz_end (I := .new 108) (len := 3) rfl (Or.inr (by decide)) ⟨ty, G7, ld, (h.2.2.2.1 bt : Int), (64 * dw + n0 + 4096 * dh + 262144 * scl + 536870912 * i0), (by omega), (by omega), (by omega), (by omega), (by omega), (by omega), hix6, Or.inr ⟨rfl, rfl, (by omega), (by dsimp only; omega), (by dsimp only; omega), (by omega), (by omega)⟩⟩
  · refine gy_ifF rfl (by decide) (by decide) (by omega) hc2 ?_
    refine gz_s 2 (pc' := 6) (L' := [some (.ref x), some (.int (zi a)), some (.int (zi b))]) (S' := [.ref x, .int (zi a)]) rfl ?_
    refine gs_gtk rfl (by decide) rfl hS.1 tx rfl rfl ex2 ?_
    refine gs_gtk rfl (by decide) rfl hS.1 tpic rfl rfl exblo ?_
    by_cases hc8 : (vvo 3 : Int) ≤ a
    · refine gy_icT (pc' := 25) rfl (by decide) (by decide) (by omega) (by omega) hc8 ?_
      have hl9 : 1024 ≤ h.2.2.2.1 bt ∧ h.2.2.2.1 bt ≤ 1000000 := gJ.rowl (G := gGG) hS.1 tbt rfl
      have hl10 : 0 ≤ h.2.2.2.1 coo ∧ h.2.2.2.1 coo ≤ 12288 := gJ.rowl (G := gGG) hS.1 tcoo rfl
      have hl11 : 0 ≤ h.2.2.2.1 dmo ∧ h.2.2.2.1 dmo ≤ 192 := gJ.rowl (G := gGG) hS.1 tdmo rfl
      have hix12 : gIx ty x ld (h.2.2.2.1 bt : Int) (64 * dw + n0 + 4096 * dh + 262144 * scl + 536870912 * i0) S h := ⟨pic, b0, b1, b2, dr, sk, bt, cl, n0, c0, i0, dw, dh, scl, ⟨tx, tdr, tsk, tbt⟩, ⟨ex2, ex3, ex4, ex0⟩, hpc, htc, ⟨en0, by omega, by omega⟩, ⟨eiv, by omega, by omega⟩, ⟨ec0, by omega, by omega⟩, ⟨by omega, by omega⟩, hrr, hrw, ⟨edw, by omega, by omega⟩, ⟨edh, by omega, by omega⟩, by omega, rfl, hxr, ⟨hsw, hc0⟩, htz, tcl, ex9, ⟨ecl, by omega, by omega⟩⟩
      have G13 : gSg [] [] [] ty h ty h := gSg.ss G0 hS (by decide)
      exact gz_end (I := .new 108) (len := 3) rfl (Or.inr (by decide)) ⟨ty, G13, ld, (h.2.2.2.1 bt : Int), (64 * dw + n0 + 4096 * dh + 262144 * scl + 536870912 * i0), (by omega), (by omega), (by omega), (by omega), (by omega), (by omega), hix12, Or.inr ⟨rfl, rfl, (by omega), (by dsimp only; omega), (by dsimp only; omega), (by omega), (by omega)⟩⟩
    · refine gy_icF rfl (by decide) (by decide) (by omega) (by omega) hc8 ?_
      refine gz_s 1 (pc' := 16) (L' := [some (.ref x), some (.int (zi a)), some (.int (zi b))]) (S' := [.int (zi b)]) rfl ?_
      by_cases hc14 : (b : Int) < 0
      · refine gy_ifT (pc' := 25) rfl (by decide) (by decide) (by omega) hc14 ?_
        have hl15 : 1024 ≤ h.2.2.2.1 bt ∧ h.2.2.2.1 bt ≤ 1000000 := gJ.rowl (G := gGG) hS.1 tbt rfl
        have hl16 : 0 ≤ h.2.2.2.1 coo ∧ h.2.2.2.1 coo ≤ 12288 := gJ.rowl (G := gGG) hS.1 tcoo rfl
        have hl17 : 0 ≤ h.2.2.2.1 dmo ∧ h.2.2.2.1 dmo ≤ 192 := gJ.rowl (G := gGG) hS.1 tdmo rfl
        have hix18 : gIx ty x ld (h.2.2.2.1 bt : Int) (64 * dw + n0 + 4096 * dh + 262144 * scl + 536870912 * i0) S h := ⟨pic, b0, b1, b2, dr, sk, bt, cl, n0, c0, i0, dw, dh, scl, ⟨tx, tdr, tsk, tbt⟩, ⟨ex2, ex3, ex4, ex0⟩, hpc, htc, ⟨en0, by omega, by omega⟩, ⟨eiv, by omega, by omega⟩, ⟨ec0, by omega, by omega⟩, ⟨by omega, by omega⟩, hrr, hrw, ⟨edw, by omega, by omega⟩, ⟨edh, by omega, by omega⟩, by omega, rfl, hxr, ⟨hsw, hc0⟩, htz, tcl, ex9, ⟨ecl, by omega, by omega⟩⟩
        have G19 : gSg [] [] [] ty h ty h := gSg.ss G0 hS (by decide)
        exact gz_end (I := .new 108) (len := 3) rfl (Or.inr (by decide)) ⟨ty, G19, ld, (h.2.2.2.1 bt : Int), (64 * dw + n0 + 4096 * dh + 262144 * scl + 536870912 * i0), (by omega), (by omega), (by omega), (by omega), (by omega), (by omega), hix18, Or.inr ⟨rfl, rfl, (by omega), (by dsimp only; omega), (by dsimp only; omega), (by omega), (by omega)⟩⟩
      · refine gy_ifF rfl (by decide) (by decide) (by omega) hc14 ?_
        refine gz_s 2 (pc' := 22) (L' := [some (.ref x), some (.int (zi a)), some (.int (zi b))]) (S' := [.int (zi 63), .int (zi b)]) rfl ?_
        by_cases hc20 : (b : Int) ≤ 63
        · refine gy_icT (pc' := 35) rfl (by decide) (by decide) (by omega) (by omega) hc20 ?_
          refine gz_s 1 (pc' := 36) (L' := [some (.ref x), some (.int (zi a)), some (.int (zi b))]) (S' := [.ref x]) rfl ?_
          refine gs_gtk rfl (by decide) rfl hS.1 tx rfl rfl ex2 ?_
          refine gy_s 6 (pc' := 46) (L' := [some (.ref x), some (.int (zi a)), some (.int (zi b))]) (S' := [.int (zi 3), .int (zi b), .int ((zi b) &&& (zi 7)), .int (zi a), .ref pic]) (L2 := [some (.ref x), some (.int (zi a)), some (.int (zi b))]) (S2 := [.int (zi 3), .int (zi b), .int (zi (b % 8)), .int (zi a), .ref pic]) rfl (by simp only [zi_add, zi_sub, zi_mul, zi_neg, zi_and1, zi_and7, zi_and15, zi_and31, zi_and255]) (by simp only [zi_add, zi_sub, zi_mul, zi_neg, zi_and1, zi_and7, zi_and15, zi_and31, zi_and255]) ?_
          refine gy_shc (n := 3) (v := 8) rfl (by decide) (by omega) (by decide) (by decide) rfl ?_
          have hl21 : h.2.2.2.1 coo = h.2.2.2.1 coo := congrFun hS.2.2.2.2.1 coo
          refine gz_call rfl (by decide) rfl (by decide) (by decide) (gcal_of rfl rfl rfl (Nat.le_of_ble_eq_true rfl) (gJ.recv (G := gGG) hS.1 tpic rfl rfl)) (cl_Picture_exactAt _ hS.1 pic tpic a ⟨by omega, by omega⟩ (b % 8) ⟨by omega, by omega⟩ (b / 8) ⟨by omega, by omega⟩ bno er0o tbno b0 er1o tb0 b1 er2o tb1 b2 er3o tb2 coo er4o tcoo (gSta.fr hS.2 (by decide) hyst) (vvo 0) excno ⟨by omega, by omega⟩ (vvo 10) extq0o ⟨by omega, by omega⟩ (vvo 18) extq1o ⟨by omega, by omega⟩ (vvo 26) extq2o ⟨by omega, by omega⟩ (by omega) (by omega) (by omega) (by omega) uq) (fun q22 _ wq22 => ?_)
          obtain ⟨pq22, oq22, hq22⟩ := q22
          obtain ⟨xq22, zq22, gq22, aq22, bq22⟩ := wq22
          refine ⟨_, gq22, ?_⟩
          show gz gPP gGG gcn _ _ 50 [some (.ref x), some (.int (zi a)), some (.int (zi b))] [.long (zl zq22)] hq22 _
          have sq22 : gSs rT 1027 ty [] h hq22 := gSs.tr hS xq22 (by decide)
          have s23 := (xq22.2.2.2.2.2 x 2 (by rw [tx]; decide)).trans ex2
          have s24 := (xq22.2.2.2.2.2 x 3 (by rw [tx]; decide)).trans ex3
          have s25 := (xq22.2.2.2.2.2 x 4 (by rw [tx]; decide)).trans ex4
          have s26 := (xq22.2.2.2.2.2 sk 0 (by rw [tsk]; decide)).trans ex0
          have s27 := (xq22.2.2.2.2.2 x 0 (by rw [tx]; decide)).trans ex9
          have s28 := (xq22.2.2.2.2.2 dr 8 (by rw [tdr]; decide)).trans en0
          have s29 := (xq22.2.2.2.2.2 dr 3 (by rw [tdr]; decide)).trans eiv
          have s30 := (xq22.2.2.2.2.2 dr 1 (by rw [tdr]; decide)).trans edw
          have s31 := (xq22.2.2.2.2.2 dr 2 (by rw [tdr]; decide)).trans edh
          have s32 := (xq22.2.2.2.2.2 sk 1 (by rw [tsk]; decide)).trans ec0
          have s33 := (xq22.2.2.2.2.2 cl 1 (by rw [tcl]; decide)).trans ecl
          have s34 := (xq22.2.2.2.2.2 pic 0 (by rw [tpic]; decide)).trans er0o
          have s35 := (xq22.2.2.2.2.2 bno 0 (by rw [tbno]; decide)).trans er1o
          have s36 := (xq22.2.2.2.2.2 bno 1 (by rw [tbno]; decide)).trans er2o
          have s37 := (xq22.2.2.2.2.2 bno 2 (by rw [tbno]; decide)).trans er3o
          have s38 := (xq22.2.2.2.2.2 pic 2 (by rw [tpic]; decide)).trans er4o
          have s39 := (xq22.2.2.2.2.2 pic 3 (by rw [tpic]; decide)).trans er5o
          have s40 := (xq22.2.2.2.2.2 pic 7 (by rw [tpic]; decide)).trans excno
          have s41 := (xq22.2.2.2.2.2 pic 12 (by rw [tpic]; decide)).trans exuco
          have s42 := (xq22.2.2.2.2.2 pic 13 (by rw [tpic]; decide)).trans exuro
          have s43 := (xq22.2.2.2.2.2 pic 8 (by rw [tpic]; decide)).trans exblo
          have s44 := (xq22.2.2.2.2.2 pic 5 (by rw [tpic]; decide)).trans exwo
          have s45 := (xq22.2.2.2.2.2 pic 6 (by rw [tpic]; decide)).trans exhho
          have s46 := (xq22.2.2.2.2.2 pic 10 (by rw [tpic]; decide)).trans exgho
          have s47 := (xq22.2.2.2.2.2 pic 11 (by rw [tpic]; decide)).trans exgvo
          have s48 := (xq22.2.2.2.2.2 b0 1 (by rw [tb0]; decide)).trans exhb0o
          have s49 := (xq22.2.2.2.2.2 b0 2 (by rw [tb0]; decide)).trans exvb0o
          have s50 := (xq22.2.2.2.2.2 b0 3 (by rw [tb0]; decide)).trans extq0o
          have s51 := (xq22.2.2.2.2.2 b0 4 (by rw [tb0]; decide)).trans exC0o
          have s52 := (xq22.2.2.2.2.2 b0 5 (by rw [tb0]; decide)).trans exR0o
          have s53 := (xq22.2.2.2.2.2 b0 6 (by rw [tb0]; decide)).trans exoc0o
          have s54 := (xq22.2.2.2.2.2 b0 7 (by rw [tb0]; decide)).trans exor0o
          have s55 := (xq22.2.2.2.2.2 b0 8 (by rw [tb0]; decide)).trans exf0o
          have s56 := (xq22.2.2.2.2.2 b1 1 (by rw [tb1]; decide)).trans exhb1o
          have s57 := (xq22.2.2.2.2.2 b1 2 (by rw [tb1]; decide)).trans exvb1o
          have s58 := (xq22.2.2.2.2.2 b1 3 (by rw [tb1]; decide)).trans extq1o
          have s59 := (xq22.2.2.2.2.2 b1 4 (by rw [tb1]; decide)).trans exC1o
          have s60 := (xq22.2.2.2.2.2 b1 5 (by rw [tb1]; decide)).trans exR1o
          have s61 := (xq22.2.2.2.2.2 b1 6 (by rw [tb1]; decide)).trans exoc1o
          have s62 := (xq22.2.2.2.2.2 b1 7 (by rw [tb1]; decide)).trans exor1o
          have s63 := (xq22.2.2.2.2.2 b1 8 (by rw [tb1]; decide)).trans exf1o
          have s64 := (xq22.2.2.2.2.2 b2 1 (by rw [tb2]; decide)).trans exhb2o
          have s65 := (xq22.2.2.2.2.2 b2 2 (by rw [tb2]; decide)).trans exvb2o
          have s66 := (xq22.2.2.2.2.2 b2 3 (by rw [tb2]; decide)).trans extq2o
          have s67 := (xq22.2.2.2.2.2 b2 4 (by rw [tb2]; decide)).trans exC2o
          have s68 := (xq22.2.2.2.2.2 b2 5 (by rw [tb2]; decide)).trans exR2o
          have s69 := (xq22.2.2.2.2.2 b2 6 (by rw [tb2]; decide)).trans exoc2o
          have s70 := (xq22.2.2.2.2.2 b2 7 (by rw [tb2]; decide)).trans exor2o
          have s71 := (xq22.2.2.2.2.2 b2 8 (by rw [tb2]; decide)).trans exf2o
          have pr72 := gXr.fr xq22.2 (by decide) hxr
          have pr73 := gSW.fr xq22.2 (by decide) hsw
          have pr74 := gPC.fr xq22.2 (by decide) hpc
          have pr75 := gTc.fr xq22.2 (by decide) htc
          have pr76 := gRr.fr xq22.2 (by decide) hrr
          have pr77 := gRw.fr xq22.2 (by decide) hrw
          have k78 := sq22.2.1
          have k78b := sq22.2.2.1
          have hl79 : hq22.2.2.2.1 bt = h.2.2.2.1 bt := congrFun sq22.2.2.2.2.1 bt
          have hl80 : hq22.2.2.2.1 coo = h.2.2.2.1 coo := congrFun sq22.2.2.2.2.1 coo
          have hl81 : hq22.2.2.2.1 dmo = h.2.2.2.1 dmo := congrFun sq22.2.2.2.2.1 dmo
          have hl82 : 1024 ≤ hq22.2.2.2.1 bt ∧ hq22.2.2.2.1 bt ≤ 1000000 := gJ.rowl (G := gGG) sq22.1 tbt rfl
          have hl83 : 0 ≤ hq22.2.2.2.1 coo ∧ hq22.2.2.2.1 coo ≤ 12288 := gJ.rowl (G := gGG) sq22.1 tcoo rfl
          have hl84 : 0 ≤ hq22.2.2.2.1 dmo ∧ hq22.2.2.2.1 dmo ≤ 192 := gJ.rowl (G := gGG) sq22.1 tdmo rfl
          have k85 := sq22.2.1
          have k85b := sq22.2.2.1
          have hl86 : hq22.2.2.2.1 bt = h.2.2.2.1 bt := congrFun sq22.2.2.2.2.1 bt
          have hl87 : hq22.2.2.2.1 coo = h.2.2.2.1 coo := congrFun sq22.2.2.2.2.1 coo
          have hl88 : hq22.2.2.2.1 dmo = h.2.2.2.1 dmo := congrFun sq22.2.2.2.2.1 dmo
          have hix89 : gIx ty x ld (hq22.2.2.2.1 bt : Int) (64 * dw + n0 + 4096 * dh + 262144 * scl + 536870912 * i0) S hq22 := ⟨pic, b0, b1, b2, dr, sk, bt, cl, n0, c0, i0, dw, dh, scl, ⟨tx, tdr, tsk, tbt⟩, ⟨s23, s24, s25, s26⟩, pr74, pr75, ⟨s28, by omega, by omega⟩, ⟨s29, by omega, by omega⟩, ⟨s32, by omega, by omega⟩, ⟨by omega, by omega⟩, pr76, pr77, ⟨s30, by omega, by omega⟩, ⟨s31, by omega, by omega⟩, by omega, rfl, pr72, ⟨pr73, hc0⟩, htz, tcl, s27, ⟨s33, by omega, by omega⟩⟩
          have G90 : gSg [] [] [] ty h ty hq22 := gSg.ss G0 sq22 (by decide)
          exact gz_end (I := .lreturn) (len := 1) rfl (Or.inl rfl) ⟨ty, G90, ld, (hq22.2.2.2.1 bt : Int), (64 * dw + n0 + 4096 * dh + 262144 * scl + 536870912 * i0), (by omega), (by omega), (by omega), (by omega), (by omega), (by omega), hix89, Or.inl ⟨zq22, rfl, (by omega), (by omega), (by omega), (by dsimp only; omega), (by dsimp only; omega), (by omega), (by omega)⟩⟩
        · refine gy_icF rfl (by decide) (by decide) (by omega) (by omega) hc20 ?_
          have hl91 : 1024 ≤ h.2.2.2.1 bt ∧ h.2.2.2.1 bt ≤ 1000000 := gJ.rowl (G := gGG) hS.1 tbt rfl
          have hl92 : 0 ≤ h.2.2.2.1 coo ∧ h.2.2.2.1 coo ≤ 12288 := gJ.rowl (G := gGG) hS.1 tcoo rfl
          have hl93 : 0 ≤ h.2.2.2.1 dmo ∧ h.2.2.2.1 dmo ≤ 192 := gJ.rowl (G := gGG) hS.1 tdmo rfl
          have hix94 : gIx ty x ld (h.2.2.2.1 bt : Int) (64 * dw + n0 + 4096 * dh + 262144 * scl + 536870912 * i0) S h := ⟨pic, b0, b1, b2, dr, sk, bt, cl, n0, c0, i0, dw, dh, scl, ⟨tx, tdr, tsk, tbt⟩, ⟨ex2, ex3, ex4, ex0⟩, hpc, htc, ⟨en0, by omega, by omega⟩, ⟨eiv, by omega, by omega⟩, ⟨ec0, by omega, by omega⟩, ⟨by omega, by omega⟩, hrr, hrw, ⟨edw, by omega, by omega⟩, ⟨edh, by omega, by omega⟩, by omega, rfl, hxr, ⟨hsw, hc0⟩, htz, tcl, ex9, ⟨ecl, by omega, by omega⟩⟩
          have G95 : gSg [] [] [] ty h ty h := gSg.ss G0 hS (by decide)
          exact gz_end (I := .new 108) (len := 3) rfl (Or.inr (by decide)) ⟨ty, G95, ld, (h.2.2.2.1 bt : Int), (64 * dw + n0 + 4096 * dh + 262144 * scl + 536870912 * i0), (by omega), (by omega), (by omega), (by omega), (by omega), (by omega), hix94, Or.inr ⟨rfl, rfl, (by omega), (by dsimp only; omega), (by dsimp only; omega), (by omega), (by omega)⟩⟩
set_option maxRecDepth 20000 in
set_option maxHeartbeats 4000000 in
theorem cl_DctFilter_told (d : Nat) {ty : Nat → Nat} {h : gH} (hJ : gJ rT 1027 ty h) (x : Nat) (tx : ty x = 50) (a : Int) (ra : (-2147483648) ≤ a ∧ a ≤ 2147483647) (b : Int) (rb : (-2147483648) ≤ b ∧ b ≤ 2147483647) (S : gSS) (ld : Int) (rld : 0 ≤ ld ∧ ld ≤ 192) (lb : Int) (rlb : 1024 ≤ lb ∧ lb ≤ 1000000) (iv : Int) (riv : 0 ≤ iv ∧ iv ≤ 54223962112) (uq : gUq ty) (hyix : gIx ty x ld lb iv S h) : gz gPP gGG gcn (d + 2) gt81 0 (gent [.ref x, .int (zi a), .int (zi b)] 4) [] h (fun q _ => ∃ ty9 : Nat → Nat, gSg [] [] [] ty h ty9 q.2.2 ∧ ∃ ld1 lb1 iv1 : Int, 0 ≤ ld1 ∧ ld1 ≤ 192 ∧ 1024 ≤ lb1 ∧ lb1 ≤ 1000000 ∧ 0 ≤ iv1 ∧ iv1 ≤ 54223962112 ∧ (gIx ty9 x ld1 lb1 iv1 S q.2.2) ∧ ((∃ z : Int, gfin gt81 q.1 q.2.1 = some (some (.int (zi z))) ∧ (-2147483648) ≤ z ∧ z ≤ 2147483647 ∧ (iv1 = iv) ∧ (1024 * (((q.2.2.1 : Int) - h.1) - 31 - 2 * (ld1 - ld)) ≤ lb1 - lb) ∧ (((q.2.2.2.1 : Int) - h.2.1) ≤ 4303 + 12480 * (ld1 - ld) + 2 * (lb1 - lb)) ∧ (ld ≤ ld1) ∧ (lb ≤ lb1)) ∨ (q.2.1 = [] ∧ ((q.1 = 36)) ∧ (iv1 = iv) ∧ (1024 * (((q.2.2.1 : Int) - h.1) - 31 - 2 * (ld1 - ld)) ≤ lb1 - lb) ∧ (((q.2.2.2.1 : Int) - h.2.1) ≤ 4303 + 12480 * (ld1 - ld) + 2 * (lb1 - lb)) ∧ (ld ≤ ld1) ∧ (lb ≤ lb1)))) := by
  have hS : gSs rT 1027 ty [] h h := gSs.rf hJ
  have G0 : gSg [] [] [] ty h ty h := gSg.rf hJ (fun x hx => by cases hx)
  obtain ⟨pic, b0, b1, b2, dr, sk, bt, cl, n0, c0, i0, dw, dh, scl, ⟨_, tdr, tsk, tbt⟩, ⟨ex2, ex3, ex4, ex0⟩, hpc, htc, ⟨en0, rn0⟩, ⟨eiv, ri0⟩, ⟨ec0, rc0⟩, ⟨lc0, llb⟩, hrr, hrw, ⟨edw, rdw⟩, ⟨edh, rdh⟩, hwh, hcd, hxr, ⟨hsw, hc0⟩, htz, tcl, ex9, ⟨ecl, rcl⟩⟩ := hyix
  have tpic := hpc.1.1
  have tb0 := hpc.1.2.1
  have tb1 := hpc.1.2.2.1
  have tb2 := hpc.1.2.2.2
  have hpq1 := hpc
  obtain ⟨_, bno, coo, dmo, vvo, ⟨tbno, tcoo, tdmo⟩, ⟨er0o, er1o, er2o, er3o, er4o, er5o⟩, hvvo, hrro, ⟨yy0o, yy1o, yy2o, yy3o, yy4o, yy5o, yy6o, yy7o⟩, ll0o, ll1o, ll2o, ll3o⟩ := hpq1
  have excno : h.2.2.2.2 pic 7 = .int (zi (vvo 0)) := hvvo (0, 7, 0) (by decide)
  have rrcno : 0 ≤ vvo 0 ∧ vvo 0 ≤ 3 := hrro (0, 0, 3) (by decide)
  have exuco : h.2.2.2.2 pic 12 = .int (zi (vvo 1)) := hvvo (0, 12, 1) (by decide)
  have rruco : 0 ≤ vvo 1 ∧ vvo 1 ≤ 8 := hrro (1, 0, 8) (by decide)
  have exuro : h.2.2.2.2 pic 13 = .int (zi (vvo 2)) := hvvo (0, 13, 2) (by decide)
  have rruro : 0 ≤ vvo 2 ∧ vvo 2 ≤ 8 := hrro (2, 0, 8) (by decide)
  have exblo : h.2.2.2.2 pic 8 = .int (zi (vvo 3)) := hvvo (0, 8, 3) (by decide)
  have rrblo : 0 ≤ vvo 3 ∧ vvo 3 ≤ 192 := hrro (3, 0, 192) (by decide)
  have exwo : h.2.2.2.2 pic 5 = .int (zi (vvo 4)) := hvvo (0, 5, 4) (by decide)
  have rrwo : 0 ≤ vvo 4 ∧ vvo 4 ≤ 64 := hrro (4, 0, 64) (by decide)
  have exhho : h.2.2.2.2 pic 6 = .int (zi (vvo 5)) := hvvo (0, 6, 5) (by decide)
  have rrhho : 0 ≤ vvo 5 ∧ vvo 5 ≤ 64 := hrro (5, 0, 64) (by decide)
  have exgho : h.2.2.2.2 pic 10 = .int (zi (vvo 6)) := hvvo (0, 10, 6) (by decide)
  have rrgho : 1 ≤ vvo 6 ∧ vvo 6 ≤ 2 := hrro (6, 1, 2) (by decide)
  have exgvo : h.2.2.2.2 pic 11 = .int (zi (vvo 7)) := hvvo (0, 11, 7) (by decide)
  have rrgvo : 1 ≤ vvo 7 ∧ vvo 7 ≤ 2 := hrro (7, 1, 2) (by decide)
  have exhb0o : h.2.2.2.2 b0 1 = .int (zi (vvo 8)) := hvvo (1, 1, 8) (by decide)
  have rrhb0o : (-1) ≤ vvo 8 ∧ vvo 8 ≤ 15 := hrro (8, (-1), 15) (by decide)
  have exvb0o : h.2.2.2.2 b0 2 = .int (zi (vvo 9)) := hvvo (1, 2, 9) (by decide)
  have rrvb0o : 0 ≤ vvo 9 ∧ vvo 9 ≤ 15 := hrro (9, 0, 15) (by decide)
  have extq0o : h.2.2.2.2 b0 3 = .int (zi (vvo 10)) := hvvo (1, 3, 10) (by decide)
  have rrtq0o : (-1) ≤ vvo 10 ∧ vvo 10 ≤ 255 := hrro (10, (-1), 255) (by decide)
  have exC0o : h.2.2.2.2 b0 4 = .int (zi (vvo 11)) := hvvo (1, 4, 11) (by decide)
  have rrC0o : 0 ≤ vvo 11 ∧ vvo 11 ≤ 16 := hrro (11, 0, 16) (by decide)
  have exR0o : h.2.2.2.2 b0 5 = .int (zi (vvo 12)) := hvvo (1, 5, 12) (by decide)
  have rrR0o : 0 ≤ vvo 12 ∧ vvo 12 ≤ 16 := hrro (12, 0, 16) (by decide)
  have exoc0o : h.2.2.2.2 b0 6 = .int (zi (vvo 13)) := hvvo (1, 6, 13) (by decide)
  have rroc0o : 0 ≤ vvo 13 ∧ vvo 13 ≤ 16 := hrro (13, 0, 16) (by decide)
  have exor0o : h.2.2.2.2 b0 7 = .int (zi (vvo 14)) := hvvo (1, 7, 14) (by decide)
  have rror0o : 0 ≤ vvo 14 ∧ vvo 14 ≤ 16 := hrro (14, 0, 16) (by decide)
  have exf0o : h.2.2.2.2 b0 8 = .int (zi (vvo 15)) := hvvo (1, 8, 15) (by decide)
  have rrf0o : 0 ≤ vvo 15 ∧ vvo 15 ≤ 192 := hrro (15, 0, 192) (by decide)
  have exhb1o : h.2.2.2.2 b1 1 = .int (zi (vvo 16)) := hvvo (2, 1, 16) (by decide)
  have rrhb1o : (-1) ≤ vvo 16 ∧ vvo 16 ≤ 15 := hrro (16, (-1), 15) (by decide)
  have exvb1o : h.2.2.2.2 b1 2 = .int (zi (vvo 17)) := hvvo (2, 2, 17) (by decide)
  have rrvb1o : 0 ≤ vvo 17 ∧ vvo 17 ≤ 15 := hrro (17, 0, 15) (by decide)
  have extq1o : h.2.2.2.2 b1 3 = .int (zi (vvo 18)) := hvvo (2, 3, 18) (by decide)
  have rrtq1o : (-1) ≤ vvo 18 ∧ vvo 18 ≤ 255 := hrro (18, (-1), 255) (by decide)
  have exC1o : h.2.2.2.2 b1 4 = .int (zi (vvo 19)) := hvvo (2, 4, 19) (by decide)
  have rrC1o : 0 ≤ vvo 19 ∧ vvo 19 ≤ 16 := hrro (19, 0, 16) (by decide)
  have exR1o : h.2.2.2.2 b1 5 = .int (zi (vvo 20)) := hvvo (2, 5, 20) (by decide)
  have rrR1o : 0 ≤ vvo 20 ∧ vvo 20 ≤ 16 := hrro (20, 0, 16) (by decide)
  have exoc1o : h.2.2.2.2 b1 6 = .int (zi (vvo 21)) := hvvo (2, 6, 21) (by decide)
  have rroc1o : 0 ≤ vvo 21 ∧ vvo 21 ≤ 16 := hrro (21, 0, 16) (by decide)
  have exor1o : h.2.2.2.2 b1 7 = .int (zi (vvo 22)) := hvvo (2, 7, 22) (by decide)
  have rror1o : 0 ≤ vvo 22 ∧ vvo 22 ≤ 16 := hrro (22, 0, 16) (by decide)
  have exf1o : h.2.2.2.2 b1 8 = .int (zi (vvo 23)) := hvvo (2, 8, 23) (by decide)
  have rrf1o : 0 ≤ vvo 23 ∧ vvo 23 ≤ 192 := hrro (23, 0, 192) (by decide)
  have exhb2o : h.2.2.2.2 b2 1 = .int (zi (vvo 24)) := hvvo (3, 1, 24) (by decide)
  have rrhb2o : (-1) ≤ vvo 24 ∧ vvo 24 ≤ 15 := hrro (24, (-1), 15) (by decide)
  have exvb2o : h.2.2.2.2 b2 2 = .int (zi (vvo 25)) := hvvo (3, 2, 25) (by decide)
  have rrvb2o : 0 ≤ vvo 25 ∧ vvo 25 ≤ 15 := hrro (25, 0, 15) (by decide)
  have extq2o : h.2.2.2.2 b2 3 = .int (zi (vvo 26)) := hvvo (3, 3, 26) (by decide)
  have rrtq2o : (-1) ≤ vvo 26 ∧ vvo 26 ≤ 255 := hrro (26, (-1), 255) (by decide)
  have exC2o : h.2.2.2.2 b2 4 = .int (zi (vvo 27)) := hvvo (3, 4, 27) (by decide)
  have rrC2o : 0 ≤ vvo 27 ∧ vvo 27 ≤ 16 := hrro (27, 0, 16) (by decide)
  have exR2o : h.2.2.2.2 b2 5 = .int (zi (vvo 28)) := hvvo (3, 5, 28) (by decide)
  have rrR2o : 0 ≤ vvo 28 ∧ vvo 28 ≤ 16 := hrro (28, 0, 16) (by decide)
  have exoc2o : h.2.2.2.2 b2 6 = .int (zi (vvo 29)) := hvvo (3, 6, 29) (by decide)
  have rroc2o : 0 ≤ vvo 29 ∧ vvo 29 ≤ 16 := hrro (29, 0, 16) (by decide)
  have exor2o : h.2.2.2.2 b2 7 = .int (zi (vvo 30)) := hvvo (3, 7, 30) (by decide)
  have rror2o : 0 ≤ vvo 30 ∧ vvo 30 ≤ 16 := hrro (30, 0, 16) (by decide)
  have exf2o : h.2.2.2.2 b2 8 = .int (zi (vvo 31)) := hvvo (3, 8, 31) (by decide)
  have rrf2o : 0 ≤ vvo 31 ∧ vvo 31 ≤ 192 := hrro (31, 0, 192) (by decide)
  refine gz_s 1 (pc' := 1) (L' := [some (.ref x), some (.int (zi a)), some (.int (zi b)), none]) (S' := [.int (zi a)]) rfl ?_
  have jn2 : ∀ (jn2v0 : Int), ((3 ≤ jn2v0) ∧ (jn2v0 ≤ 6) ∧ (a < 0 → jn2v0 = 6) ∧ (0 ≤ a → jn2v0 = 3)) → gz gPP gGG gcn (d + 2) gt81 10 [some (.ref x), some (.int (zi a)), some (.int (zi b)), none] [.int (zi jn2v0)] h (fun q _ => ∃ ty9 : Nat → Nat, gSg [] [] [] ty h ty9 q.2.2 ∧ ∃ ld1 lb1 iv1 : Int, 0 ≤ ld1 ∧ ld1 ≤ 192 ∧ 1024 ≤ lb1 ∧ lb1 ≤ 1000000 ∧ 0 ≤ iv1 ∧ iv1 ≤ 54223962112 ∧ (gIx ty9 x ld1 lb1 iv1 S q.2.2) ∧ ((∃ z : Int, gfin gt81 q.1 q.2.1 = some (some (.int (zi z))) ∧ (-2147483648) ≤ z ∧ z ≤ 2147483647 ∧ (iv1 = iv) ∧ (1024 * (((q.2.2.1 : Int) - h.1) - 31 - 2 * (ld1 - ld)) ≤ lb1 - lb) ∧ (((q.2.2.2.1 : Int) - h.2.1) ≤ 4303 + 12480 * (ld1 - ld) + 2 * (lb1 - lb)) ∧ (ld ≤ ld1) ∧ (lb ≤ lb1)) ∨ (q.2.1 = [] ∧ ((q.1 = 36)) ∧ (iv1 = iv) ∧ (1024 * (((q.2.2.1 : Int) - h.1) - 31 - 2 * (ld1 - ld)) ≤ lb1 - lb) ∧ (((q.2.2.2.1 : Int) - h.2.1) ≤ 4303 + 12480 * (ld1 - ld) + 2 * (lb1 - lb)) ∧ (ld ≤ ld1) ∧ (lb ≤ lb1)))) := by
    intro jn2v0 jn2d
    refine gz_s 3 (pc' := 13) (L' := [some (.ref x), some (.int (zi a)), some (.int (zi b)), some (.int (zi jn2v0))]) (S' := [.int (zi (-1)), .int (zi a)]) rfl ?_
    by_cases hc3 : (a : Int) < (-1)
    · refine gy_icT (pc' := 36) rfl (by decide) (by decide) (by omega) (by omega) hc3 ?_
      have hl4 : 1024 ≤ h.2.2.2.1 bt ∧ h.2.2.2.1 bt ≤ 1000000 := gJ.rowl (G := gGG) hS.1 tbt rfl
      have hl5 : 0 ≤ h.2.2.2.1 coo ∧ h.2.2.2.1 coo ≤ 12288 := gJ.rowl (G := gGG) hS.1 tcoo rfl
      have hl6 : 0 ≤ h.2.2.2.1 dmo ∧ h.2.2.2.1 dmo ≤ 192 := gJ.rowl (G := gGG) hS.1 tdmo rfl
      have hix7 : gIx ty x ld (h.2.2.2.1 bt : Int) (64 * dw + n0 + 4096 * dh + 262144 * scl + 536870912 * i0) S h := ⟨pic, b0, b1, b2, dr, sk, bt, cl, n0, c0, i0, dw, dh, scl, ⟨tx, tdr, tsk, tbt⟩, ⟨ex2, ex3, ex4, ex0⟩, hpc, htc, ⟨en0, by omega, by omega⟩, ⟨eiv, by omega, by omega⟩, ⟨ec0, by omega, by omega⟩, ⟨by omega, by omega⟩, hrr, hrw, ⟨edw, by omega, by omega⟩, ⟨edh, by omega, by omega⟩, by omega, rfl, hxr, ⟨hsw, hc0⟩, htz, tcl, ex9, ⟨ecl, by omega, by omega⟩⟩
      have G8 : gSg [] [] [] ty h ty h := gSg.ss G0 hS (by decide)
      exact gz_end (I := .new 84) (len := 3) rfl (Or.inr (by decide)) ⟨ty, G8, ld, (h.2.2.2.1 bt : Int), (64 * dw + n0 + 4096 * dh + 262144 * scl + 536870912 * i0), (by omega), (by omega), (by omega), (by omega), (by omega), (by omega), hix7, Or.inr ⟨rfl, rfl, (by omega), (by dsimp only; omega), (by dsimp only; omega), (by omega), (by omega)⟩⟩
    · refine gy_icF rfl (by decide) (by decide) (by omega) (by omega) hc3 ?_
      refine gz_s 2 (pc' := 18) (L' := [some (.ref x), some (.int (zi a)), some (.int (zi b)), some (.int (zi jn2v0))]) (S' := [.ref x, .int (zi a)]) rfl ?_
      refine gs_gtk rfl (by decide) rfl hS.1 tx rfl rfl ex2 ?_
      refine gs_gtk rfl (by decide) rfl hS.1 tpic rfl rfl exblo ?_
      by_cases hc9 : (vvo 3 : Int) ≤ a
      · refine gy_icT (pc' := 36) rfl (by decide) (by decide) (by omega) (by omega) hc9 ?_
        have hl10 : 1024 ≤ h.2.2.2.1 bt ∧ h.2.2.2.1 bt ≤ 1000000 := gJ.rowl (G := gGG) hS.1 tbt rfl
        have hl11 : 0 ≤ h.2.2.2.1 coo ∧ h.2.2.2.1 coo ≤ 12288 := gJ.rowl (G := gGG) hS.1 tcoo rfl
        have hl12 : 0 ≤ h.2.2.2.1 dmo ∧ h.2.2.2.1 dmo ≤ 192 := gJ.rowl (G := gGG) hS.1 tdmo rfl
        have hix13 : gIx ty x ld (h.2.2.2.1 bt : Int) (64 * dw + n0 + 4096 * dh + 262144 * scl + 536870912 * i0) S h := ⟨pic, b0, b1, b2, dr, sk, bt, cl, n0, c0, i0, dw, dh, scl, ⟨tx, tdr, tsk, tbt⟩, ⟨ex2, ex3, ex4, ex0⟩, hpc, htc, ⟨en0, by omega, by omega⟩, ⟨eiv, by omega, by omega⟩, ⟨ec0, by omega, by omega⟩, ⟨by omega, by omega⟩, hrr, hrw, ⟨edw, by omega, by omega⟩, ⟨edh, by omega, by omega⟩, by omega, rfl, hxr, ⟨hsw, hc0⟩, htz, tcl, ex9, ⟨ecl, by omega, by omega⟩⟩
        have G14 : gSg [] [] [] ty h ty h := gSg.ss G0 hS (by decide)
        exact gz_end (I := .new 84) (len := 3) rfl (Or.inr (by decide)) ⟨ty, G14, ld, (h.2.2.2.1 bt : Int), (64 * dw + n0 + 4096 * dh + 262144 * scl + 536870912 * i0), (by omega), (by omega), (by omega), (by omega), (by omega), (by omega), hix13, Or.inr ⟨rfl, rfl, (by omega), (by dsimp only; omega), (by dsimp only; omega), (by omega), (by omega)⟩⟩
      · refine gy_icF rfl (by decide) (by decide) (by omega) (by omega) hc9 ?_
        refine gz_s 1 (pc' := 28) (L' := [some (.ref x), some (.int (zi a)), some (.int (zi b)), some (.int (zi jn2v0))]) (S' := [.int (zi b)]) rfl ?_
        by_cases hc15 : (b : Int) < 0
        · refine gy_ifT (pc' := 36) rfl (by decide) (by decide) (by omega) hc15 ?_
          have hl16 : 1024 ≤ h.2.2.2.1 bt ∧ h.2.2.2.1 bt ≤ 1000000 := gJ.rowl (G := gGG) hS.1 tbt rfl
          have hl17 : 0 ≤ h.2.2.2.1 coo ∧ h.2.2.2.1 coo ≤ 12288 := gJ.rowl (G := gGG) hS.1 tcoo rfl
          have hl18 : 0 ≤ h.2.2.2.1 dmo ∧ h.2.2.2.1 dmo ≤ 192 := gJ.rowl (G := gGG) hS.1 tdmo rfl
          have hix19 : gIx ty x ld (h.2.2.2.1 bt : Int) (64 * dw + n0 + 4096 * dh + 262144 * scl + 536870912 * i0) S h := ⟨pic, b0, b1, b2, dr, sk, bt, cl, n0, c0, i0, dw, dh, scl, ⟨tx, tdr, tsk, tbt⟩, ⟨ex2, ex3, ex4, ex0⟩, hpc, htc, ⟨en0, by omega, by omega⟩, ⟨eiv, by omega, by omega⟩, ⟨ec0, by omega, by omega⟩, ⟨by omega, by omega⟩, hrr, hrw, ⟨edw, by omega, by omega⟩, ⟨edh, by omega, by omega⟩, by omega, rfl, hxr, ⟨hsw, hc0⟩, htz, tcl, ex9, ⟨ecl, by omega, by omega⟩⟩
          have G20 : gSg [] [] [] ty h ty h := gSg.ss G0 hS (by decide)
          exact gz_end (I := .new 84) (len := 3) rfl (Or.inr (by decide)) ⟨ty, G20, ld, (h.2.2.2.1 bt : Int), (64 * dw + n0 + 4096 * dh + 262144 * scl + 536870912 * i0), (by omega), (by omega), (by omega), (by omega), (by omega), (by omega), hix19, Or.inr ⟨rfl, rfl, (by omega), (by dsimp only; omega), (by dsimp only; omega), (by omega), (by omega)⟩⟩
        · refine gy_ifF rfl (by decide) (by decide) (by omega) hc15 ?_
          refine gz_s 2 (pc' := 33) (L' := [some (.ref x), some (.int (zi a)), some (.int (zi b)), some (.int (zi jn2v0))]) (S' := [.int (zi jn2v0), .int (zi b)]) rfl ?_
          by_cases hc21 : (b : Int) ≤ jn2v0
          · refine gy_icT (pc' := 46) rfl (by decide) (by decide) (by omega) (by omega) hc21 ?_
            refine gz_s 1 (pc' := 47) (L' := [some (.ref x), some (.int (zi a)), some (.int (zi b)), some (.int (zi jn2v0))]) (S' := [.int (zi a)]) rfl ?_
            by_cases hc22 : (0 : Int) ≤ a
            · refine gy_ifT (pc' := 75) rfl (by decide) (by decide) (by omega) hc22 ?_
              refine gz_s 1 (pc' := 76) (L' := [some (.ref x), some (.int (zi a)), some (.int (zi b)), some (.int (zi jn2v0))]) (S' := [.ref x]) rfl ?_
              refine gs_gtk rfl (by decide) rfl hS.1 tx rfl rfl ex2 ?_
              refine gz_s 2 (pc' := 81) (L' := [some (.ref x), some (.int (zi a)), some (.int (zi b)), some (.int (zi jn2v0))]) (S' := [.int (zi b), .int (zi a), .ref pic]) rfl ?_
              have hl23 : h.2.2.2.1 dmo = h.2.2.2.1 dmo := congrFun hS.2.2.2.2.1 dmo
              refine gz_call rfl (by decide) rfl (by decide) (by decide) (gcal_of rfl rfl rfl (Nat.le_of_ble_eq_true rfl) (gJ.recv (G := gGG) hS.1 tpic rfl rfl)) (cl_Picture_toldOfBlock _ hS.1 pic tpic a ⟨by omega, by omega⟩ b ⟨by omega, by omega⟩ bno er0o tbno b0 er1o tb0 b1 er2o tb1 b2 er3o tb2 dmo er5o tdmo (vvo 0) excno ⟨by omega, by omega⟩ (vvo 3) exblo ⟨by omega, by omega⟩ (by omega) (by omega) uq) (fun q24 _ wq24 => ?_)
              obtain ⟨pq24, oq24, hq24⟩ := q24
              obtain ⟨xq24, zq24, gq24, aq24, bq24⟩ := wq24
              refine ⟨_, gq24, ?_⟩
              show gz gPP gGG gcn _ _ 84 [some (.ref x), some (.int (zi a)), some (.int (zi b)), some (.int (zi jn2v0))] [.int (zi zq24)] hq24 _
              have sq24 : gSs rT 1027 ty [] h hq24 := gSs.tr hS xq24 (by decide)
              have s25 := (xq24.2.2.2.2.2 x 2 (by rw [tx]; decide)).trans ex2
              have s26 := (xq24.2.2.2.2.2 x 3 (by rw [tx]; decide)).trans ex3
              have s27 := (xq24.2.2.2.2.2 x 4 (by rw [tx]; decide)).trans ex4
              have s28 := (xq24.2.2.2.2.2 sk 0 (by rw [tsk]; decide)).trans ex0
              have s29 := (xq24.2.2.2.2.2 x 0 (by rw [tx]; decide)).trans ex9
              have s30 := (xq24.2.2.2.2.2 dr 8 (by rw [tdr]; decide)).trans en0
              have s31 := (xq24.2.2.2.2.2 dr 3 (by rw [tdr]; decide)).trans eiv
              have s32 := (xq24.2.2.2.2.2 dr 1 (by rw [tdr]; decide)).trans edw
              have s33 := (xq24.2.2.2.2.2 dr 2 (by rw [tdr]; decide)).trans edh
              have s34 := (xq24.2.2.2.2.2 sk 1 (by rw [tsk]; decide)).trans ec0
              have s35 := (xq24.2.2.2.2.2 cl 1 (by rw [tcl]; decide)).trans ecl
              have s36 := (xq24.2.2.2.2.2 pic 0 (by rw [tpic]; decide)).trans er0o
              have s37 := (xq24.2.2.2.2.2 bno 0 (by rw [tbno]; decide)).trans er1o
              have s38 := (xq24.2.2.2.2.2 bno 1 (by rw [tbno]; decide)).trans er2o
              have s39 := (xq24.2.2.2.2.2 bno 2 (by rw [tbno]; decide)).trans er3o
              have s40 := (xq24.2.2.2.2.2 pic 2 (by rw [tpic]; decide)).trans er4o
              have s41 := (xq24.2.2.2.2.2 pic 3 (by rw [tpic]; decide)).trans er5o
              have s42 := (xq24.2.2.2.2.2 pic 7 (by rw [tpic]; decide)).trans excno
              have s43 := (xq24.2.2.2.2.2 pic 12 (by rw [tpic]; decide)).trans exuco
              have s44 := (xq24.2.2.2.2.2 pic 13 (by rw [tpic]; decide)).trans exuro
              have s45 := (xq24.2.2.2.2.2 pic 8 (by rw [tpic]; decide)).trans exblo
              have s46 := (xq24.2.2.2.2.2 pic 5 (by rw [tpic]; decide)).trans exwo
              have s47 := (xq24.2.2.2.2.2 pic 6 (by rw [tpic]; decide)).trans exhho
              have s48 := (xq24.2.2.2.2.2 pic 10 (by rw [tpic]; decide)).trans exgho
              have s49 := (xq24.2.2.2.2.2 pic 11 (by rw [tpic]; decide)).trans exgvo
              have s50 := (xq24.2.2.2.2.2 b0 1 (by rw [tb0]; decide)).trans exhb0o
              have s51 := (xq24.2.2.2.2.2 b0 2 (by rw [tb0]; decide)).trans exvb0o
              have s52 := (xq24.2.2.2.2.2 b0 3 (by rw [tb0]; decide)).trans extq0o
              have s53 := (xq24.2.2.2.2.2 b0 4 (by rw [tb0]; decide)).trans exC0o
              have s54 := (xq24.2.2.2.2.2 b0 5 (by rw [tb0]; decide)).trans exR0o
              have s55 := (xq24.2.2.2.2.2 b0 6 (by rw [tb0]; decide)).trans exoc0o
              have s56 := (xq24.2.2.2.2.2 b0 7 (by rw [tb0]; decide)).trans exor0o
              have s57 := (xq24.2.2.2.2.2 b0 8 (by rw [tb0]; decide)).trans exf0o
              have s58 := (xq24.2.2.2.2.2 b1 1 (by rw [tb1]; decide)).trans exhb1o
              have s59 := (xq24.2.2.2.2.2 b1 2 (by rw [tb1]; decide)).trans exvb1o
              have s60 := (xq24.2.2.2.2.2 b1 3 (by rw [tb1]; decide)).trans extq1o
              have s61 := (xq24.2.2.2.2.2 b1 4 (by rw [tb1]; decide)).trans exC1o
              have s62 := (xq24.2.2.2.2.2 b1 5 (by rw [tb1]; decide)).trans exR1o
              have s63 := (xq24.2.2.2.2.2 b1 6 (by rw [tb1]; decide)).trans exoc1o
              have s64 := (xq24.2.2.2.2.2 b1 7 (by rw [tb1]; decide)).trans exor1o
              have s65 := (xq24.2.2.2.2.2 b1 8 (by rw [tb1]; decide)).trans exf1o
              have s66 := (xq24.2.2.2.2.2 b2 1 (by rw [tb2]; decide)).trans exhb2o
              have s67 := (xq24.2.2.2.2.2 b2 2 (by rw [tb2]; decide)).trans exvb2o
              have s68 := (xq24.2.2.2.2.2 b2 3 (by rw [tb2]; decide)).trans extq2o
              have s69 := (xq24.2.2.2.2.2 b2 4 (by rw [tb2]; decide)).trans exC2o
              have s70 := (xq24.2.2.2.2.2 b2 5 (by rw [tb2]; decide)).trans exR2o
              have s71 := (xq24.2.2.2.2.2 b2 6 (by rw [tb2]; decide)).trans exoc2o
              have s72 := (xq24.2.2.2.2.2 b2 7 (by rw [tb2]; decide)).trans exor2o
              have s73 := (xq24.2.2.2.2.2 b2 8 (by rw [tb2]; decide)).trans exf2o
              have pr74 := gXr.fr xq24.2 (by decide) hxr
              have pr75 := gSW.fr xq24.2 (by decide) hsw
              have pr76 := gPC.fr xq24.2 (by decide) hpc
              have pr77 := gTc.fr xq24.2 (by decide) htc
              have pr78 := gRr.fr xq24.2 (by decide) hrr
              have pr79 := gRw.fr xq24.2 (by decide) hrw
              have k80 := sq24.2.1
              have k80b := sq24.2.2.1
              have hl81 : hq24.2.2.2.1 bt = h.2.2.2.1 bt := congrFun sq24.2.2.2.2.1 bt
              have hl82 : hq24.2.2.2.1 coo = h.2.2.2.1 coo := congrFun sq24.2.2.2.2.1 coo
              have hl83 : hq24.2.2.2.1 dmo = h.2.2.2.1 dmo := congrFun sq24.2.2.2.2.1 dmo
              have hl84 : 1024 ≤ hq24.2.2.2.1 bt ∧ hq24.2.2.2.1 bt ≤ 1000000 := gJ.rowl (G := gGG) sq24.1 tbt rfl
              have hl85 : 0 ≤ hq24.2.2.2.1 coo ∧ hq24.2.2.2.1 coo ≤ 12288 := gJ.rowl (G := gGG) sq24.1 tcoo rfl
              have hl86 : 0 ≤ hq24.2.2.2.1 dmo ∧ hq24.2.2.2.1 dmo ≤ 192 := gJ.rowl (G := gGG) sq24.1 tdmo rfl
              have k87 := sq24.2.1
              have k87b := sq24.2.2.1
              have hl88 : hq24.2.2.2.1 bt = h.2.2.2.1 bt := congrFun sq24.2.2.2.2.1 bt
              have hl89 : hq24.2.2.2.1 coo = h.2.2.2.1 coo := congrFun sq24.2.2.2.2.1 coo
              have hl90 : hq24.2.2.2.1 dmo = h.2.2.2.1 dmo := congrFun sq24.2.2.2.2.1 dmo
              have hix91 : gIx ty x ld (hq24.2.2.2.1 bt : Int) (64 * dw + n0 + 4096 * dh + 262144 * scl + 536870912 * i0) S hq24 := ⟨pic, b0, b1, b2, dr, sk, bt, cl, n0, c0, i0, dw, dh, scl, ⟨tx, tdr, tsk, tbt⟩, ⟨s25, s26, s27, s28⟩, pr76, pr77, ⟨s30, by omega, by omega⟩, ⟨s31, by omega, by omega⟩, ⟨s34, by omega, by omega⟩, ⟨by omega, by omega⟩, pr78, pr79, ⟨s32, by omega, by omega⟩, ⟨s33, by omega, by omega⟩, by omega, rfl, pr74, ⟨pr75, hc0⟩, htz, tcl, s29, ⟨s35, by omega, by omega⟩⟩
              have G92 : gSg [] [] [] ty h ty hq24 := gSg.ss G0 sq24 (by decide)
              exact gz_end (I := .ireturn) (len := 1) rfl (Or.inl rfl) ⟨ty, G92, ld, (hq24.2.2.2.1 bt : Int), (64 * dw + n0 + 4096 * dh + 262144 * scl + 536870912 * i0), (by omega), (by omega), (by omega), (by omega), (by omega), (by omega), hix91, Or.inl ⟨zq24, rfl, (by omega), (by omega), (by omega), (by dsimp only; omega), (by dsimp only; omega), (by omega), (by omega)⟩⟩
            · refine gy_ifF rfl (by decide) (by decide) (by omega) hc22 ?_
              refine gz_s 2 (pc' := 53) (L' := [some (.ref x), some (.int (zi a)), some (.int (zi b)), some (.int (zi jn2v0))]) (S' := [.int (zi 6), .int (zi b)]) rfl ?_
              by_cases hc93 : ¬ (b : Int) = 6
              · refine gy_icT (pc' := 66) rfl (by decide) (by decide) (by omega) (by omega) hc93 ?_
                refine gz_s 1 (pc' := 67) (L' := [some (.ref x), some (.int (zi a)), some (.int (zi b)), some (.int (zi jn2v0))]) (S' := [.ref x]) rfl ?_
                refine gs_gtk rfl (by decide) rfl hS.1 tx rfl rfl ex2 ?_
                refine gz_s 1 (pc' := 71) (L' := [some (.ref x), some (.int (zi a)), some (.int (zi b)), some (.int (zi jn2v0))]) (S' := [.int (zi b), .ref pic]) rfl ?_
                have hl94 : h.2.2.2.1 dmo = h.2.2.2.1 dmo := congrFun hS.2.2.2.2.1 dmo
                refine gz_call rfl (by decide) rfl (by decide) (by decide) (gcal_of rfl rfl rfl (Nat.le_of_ble_eq_true rfl) (gJ.recv (G := gGG) hS.1 tpic rfl rfl)) (cl_Picture_toldOfAll _ hS.1 pic tpic b ⟨by omega, by omega⟩ dmo er5o tdmo (vvo 3) exblo ⟨by omega, by omega⟩ (by omega) uq) (fun q95 _ wq95 => ?_)
                obtain ⟨pq95, oq95, hq95⟩ := q95
                obtain ⟨xq95, zq95, gq95, aq95, bq95⟩ := wq95
                refine ⟨_, gq95, ?_⟩
                show gz gPP gGG gcn _ _ 74 [some (.ref x), some (.int (zi a)), some (.int (zi b)), some (.int (zi jn2v0))] [.int (zi zq95)] hq95 _
                have sq95 : gSs rT 1027 ty [] h hq95 := gSs.tr hS xq95 (by decide)
                have s96 := (xq95.2.2.2.2.2 x 2 (by rw [tx]; decide)).trans ex2
                have s97 := (xq95.2.2.2.2.2 x 3 (by rw [tx]; decide)).trans ex3
                have s98 := (xq95.2.2.2.2.2 x 4 (by rw [tx]; decide)).trans ex4
                have s99 := (xq95.2.2.2.2.2 sk 0 (by rw [tsk]; decide)).trans ex0
                have s100 := (xq95.2.2.2.2.2 x 0 (by rw [tx]; decide)).trans ex9
                have s101 := (xq95.2.2.2.2.2 dr 8 (by rw [tdr]; decide)).trans en0
                have s102 := (xq95.2.2.2.2.2 dr 3 (by rw [tdr]; decide)).trans eiv
                have s103 := (xq95.2.2.2.2.2 dr 1 (by rw [tdr]; decide)).trans edw
                have s104 := (xq95.2.2.2.2.2 dr 2 (by rw [tdr]; decide)).trans edh
                have s105 := (xq95.2.2.2.2.2 sk 1 (by rw [tsk]; decide)).trans ec0
                have s106 := (xq95.2.2.2.2.2 cl 1 (by rw [tcl]; decide)).trans ecl
                have s107 := (xq95.2.2.2.2.2 pic 0 (by rw [tpic]; decide)).trans er0o
                have s108 := (xq95.2.2.2.2.2 bno 0 (by rw [tbno]; decide)).trans er1o
                have s109 := (xq95.2.2.2.2.2 bno 1 (by rw [tbno]; decide)).trans er2o
                have s110 := (xq95.2.2.2.2.2 bno 2 (by rw [tbno]; decide)).trans er3o
                have s111 := (xq95.2.2.2.2.2 pic 2 (by rw [tpic]; decide)).trans er4o
                have s112 := (xq95.2.2.2.2.2 pic 3 (by rw [tpic]; decide)).trans er5o
                have s113 := (xq95.2.2.2.2.2 pic 7 (by rw [tpic]; decide)).trans excno
                have s114 := (xq95.2.2.2.2.2 pic 12 (by rw [tpic]; decide)).trans exuco
                have s115 := (xq95.2.2.2.2.2 pic 13 (by rw [tpic]; decide)).trans exuro
                have s116 := (xq95.2.2.2.2.2 pic 8 (by rw [tpic]; decide)).trans exblo
                have s117 := (xq95.2.2.2.2.2 pic 5 (by rw [tpic]; decide)).trans exwo
                have s118 := (xq95.2.2.2.2.2 pic 6 (by rw [tpic]; decide)).trans exhho
                have s119 := (xq95.2.2.2.2.2 pic 10 (by rw [tpic]; decide)).trans exgho
                have s120 := (xq95.2.2.2.2.2 pic 11 (by rw [tpic]; decide)).trans exgvo
                have s121 := (xq95.2.2.2.2.2 b0 1 (by rw [tb0]; decide)).trans exhb0o
                have s122 := (xq95.2.2.2.2.2 b0 2 (by rw [tb0]; decide)).trans exvb0o
                have s123 := (xq95.2.2.2.2.2 b0 3 (by rw [tb0]; decide)).trans extq0o
                have s124 := (xq95.2.2.2.2.2 b0 4 (by rw [tb0]; decide)).trans exC0o
                have s125 := (xq95.2.2.2.2.2 b0 5 (by rw [tb0]; decide)).trans exR0o
                have s126 := (xq95.2.2.2.2.2 b0 6 (by rw [tb0]; decide)).trans exoc0o
                have s127 := (xq95.2.2.2.2.2 b0 7 (by rw [tb0]; decide)).trans exor0o
                have s128 := (xq95.2.2.2.2.2 b0 8 (by rw [tb0]; decide)).trans exf0o
                have s129 := (xq95.2.2.2.2.2 b1 1 (by rw [tb1]; decide)).trans exhb1o
                have s130 := (xq95.2.2.2.2.2 b1 2 (by rw [tb1]; decide)).trans exvb1o
                have s131 := (xq95.2.2.2.2.2 b1 3 (by rw [tb1]; decide)).trans extq1o
                have s132 := (xq95.2.2.2.2.2 b1 4 (by rw [tb1]; decide)).trans exC1o
                have s133 := (xq95.2.2.2.2.2 b1 5 (by rw [tb1]; decide)).trans exR1o
                have s134 := (xq95.2.2.2.2.2 b1 6 (by rw [tb1]; decide)).trans exoc1o
                have s135 := (xq95.2.2.2.2.2 b1 7 (by rw [tb1]; decide)).trans exor1o
                have s136 := (xq95.2.2.2.2.2 b1 8 (by rw [tb1]; decide)).trans exf1o
                have s137 := (xq95.2.2.2.2.2 b2 1 (by rw [tb2]; decide)).trans exhb2o
                have s138 := (xq95.2.2.2.2.2 b2 2 (by rw [tb2]; decide)).trans exvb2o
                have s139 := (xq95.2.2.2.2.2 b2 3 (by rw [tb2]; decide)).trans extq2o
                have s140 := (xq95.2.2.2.2.2 b2 4 (by rw [tb2]; decide)).trans exC2o
                have s141 := (xq95.2.2.2.2.2 b2 5 (by rw [tb2]; decide)).trans exR2o
                have s142 := (xq95.2.2.2.2.2 b2 6 (by rw [tb2]; decide)).trans exoc2o
                have s143 := (xq95.2.2.2.2.2 b2 7 (by rw [tb2]; decide)).trans exor2o
                have s144 := (xq95.2.2.2.2.2 b2 8 (by rw [tb2]; decide)).trans exf2o
                have pr145 := gXr.fr xq95.2 (by decide) hxr
                have pr146 := gSW.fr xq95.2 (by decide) hsw
                have pr147 := gPC.fr xq95.2 (by decide) hpc
                have pr148 := gTc.fr xq95.2 (by decide) htc
                have pr149 := gRr.fr xq95.2 (by decide) hrr
                have pr150 := gRw.fr xq95.2 (by decide) hrw
                have k151 := sq95.2.1
                have k151b := sq95.2.2.1
                have hl152 : hq95.2.2.2.1 bt = h.2.2.2.1 bt := congrFun sq95.2.2.2.2.1 bt
                have hl153 : hq95.2.2.2.1 coo = h.2.2.2.1 coo := congrFun sq95.2.2.2.2.1 coo
                have hl154 : hq95.2.2.2.1 dmo = h.2.2.2.1 dmo := congrFun sq95.2.2.2.2.1 dmo
                have hl155 : 1024 ≤ hq95.2.2.2.1 bt ∧ hq95.2.2.2.1 bt ≤ 1000000 := gJ.rowl (G := gGG) sq95.1 tbt rfl
                have hl156 : 0 ≤ hq95.2.2.2.1 coo ∧ hq95.2.2.2.1 coo ≤ 12288 := gJ.rowl (G := gGG) sq95.1 tcoo rfl
                have hl157 : 0 ≤ hq95.2.2.2.1 dmo ∧ hq95.2.2.2.1 dmo ≤ 192 := gJ.rowl (G := gGG) sq95.1 tdmo rfl
                have k158 := sq95.2.1
                have k158b := sq95.2.2.1
                have hl159 : hq95.2.2.2.1 bt = h.2.2.2.1 bt := congrFun sq95.2.2.2.2.1 bt
                have hl160 : hq95.2.2.2.1 coo = h.2.2.2.1 coo := congrFun sq95.2.2.2.2.1 coo
                have hl161 : hq95.2.2.2.1 dmo = h.2.2.2.1 dmo := congrFun sq95.2.2.2.2.1 dmo
                have hix162 : gIx ty x ld (hq95.2.2.2.1 bt : Int) (64 * dw + n0 + 4096 * dh + 262144 * scl + 536870912 * i0) S hq95 := ⟨pic, b0, b1, b2, dr, sk, bt, cl, n0, c0, i0, dw, dh, scl, ⟨tx, tdr, tsk, tbt⟩, ⟨s96, s97, s98, s99⟩, pr147, pr148, ⟨s101, by omega, by omega⟩, ⟨s102, by omega, by omega⟩, ⟨s105, by omega, by omega⟩, ⟨by omega, by omega⟩, pr149, pr150, ⟨s103, by omega, by omega⟩, ⟨s104, by omega, by omega⟩, by omega, rfl, pr145, ⟨pr146, hc0⟩, htz, tcl, s100, ⟨s106, by omega, by omega⟩⟩
                have G163 : gSg [] [] [] ty h ty hq95 := gSg.ss G0 sq95 (by decide)
                exact gz_end (I := .ireturn) (len := 1) rfl (Or.inl rfl) ⟨ty, G163, ld, (hq95.2.2.2.1 bt : Int), (64 * dw + n0 + 4096 * dh + 262144 * scl + 536870912 * i0), (by omega), (by omega), (by omega), (by omega), (by omega), (by omega), hix162, Or.inl ⟨zq95, rfl, (by omega), (by omega), (by omega), (by dsimp only; omega), (by dsimp only; omega), (by omega), (by omega)⟩⟩
              · refine gy_icF rfl (by decide) (by decide) (by omega) (by omega) hc93 ?_
                refine gz_s 1 (pc' := 57) (L' := [some (.ref x), some (.int (zi a)), some (.int (zi b)), some (.int (zi jn2v0))]) (S' := [.ref x]) rfl ?_
                refine gs_gtk rfl (by decide) rfl hS.1 tx rfl rfl ex4 ?_
                refine gs_gtk rfl (by decide) rfl hS.1 tsk rfl rfl ec0 ?_
                refine gz_s 1 (pc' := 74) (L' := [some (.ref x), some (.int (zi a)), some (.int (zi b)), some (.int (zi jn2v0))]) (S' := [.int (zi c0)]) rfl ?_
                have hl164 : 1024 ≤ h.2.2.2.1 bt ∧ h.2.2.2.1 bt ≤ 1000000 := gJ.rowl (G := gGG) hS.1 tbt rfl
                have hl165 : 0 ≤ h.2.2.2.1 coo ∧ h.2.2.2.1 coo ≤ 12288 := gJ.rowl (G := gGG) hS.1 tcoo rfl
                have hl166 : 0 ≤ h.2.2.2.1 dmo ∧ h.2.2.2.1 dmo ≤ 192 := gJ.rowl (G := gGG) hS.1 tdmo rfl
                have hix167 : gIx ty x ld (h.2.2.2.1 bt : Int) (64 * dw + n0 + 4096 * dh + 262144 * scl + 536870912 * i0) S h := ⟨pic, b0, b1, b2, dr, sk, bt, cl, n0, c0, i0, dw, dh, scl, ⟨tx, tdr, tsk, tbt⟩, ⟨ex2, ex3, ex4, ex0⟩, hpc, htc, ⟨en0, by omega, by omega⟩, ⟨eiv, by omega, by omega⟩, ⟨ec0, by omega, by omega⟩, ⟨by omega, by omega⟩, hrr, hrw, ⟨edw, by omega, by omega⟩, ⟨edh, by omega, by omega⟩, by omega, rfl, hxr, ⟨hsw, hc0⟩, htz, tcl, ex9, ⟨ecl, by omega, by omega⟩⟩
                have G168 : gSg [] [] [] ty h ty h := gSg.ss G0 hS (by decide)
                exact gz_end (I := .ireturn) (len := 1) rfl (Or.inl rfl) ⟨ty, G168, ld, (h.2.2.2.1 bt : Int), (64 * dw + n0 + 4096 * dh + 262144 * scl + 536870912 * i0), (by omega), (by omega), (by omega), (by omega), (by omega), (by omega), hix167, Or.inl ⟨c0, rfl, (by omega), (by omega), (by omega), (by dsimp only; omega), (by dsimp only; omega), (by omega), (by omega)⟩⟩
          · refine gy_icF rfl (by decide) (by decide) (by omega) (by omega) hc21 ?_
            have hl169 : 1024 ≤ h.2.2.2.1 bt ∧ h.2.2.2.1 bt ≤ 1000000 := gJ.rowl (G := gGG) hS.1 tbt rfl
            have hl170 : 0 ≤ h.2.2.2.1 coo ∧ h.2.2.2.1 coo ≤ 12288 := gJ.rowl (G := gGG) hS.1 tcoo rfl
            have hl171 : 0 ≤ h.2.2.2.1 dmo ∧ h.2.2.2.1 dmo ≤ 192 := gJ.rowl (G := gGG) hS.1 tdmo rfl
            have hix172 : gIx ty x ld (h.2.2.2.1 bt : Int) (64 * dw + n0 + 4096 * dh + 262144 * scl + 536870912 * i0) S h := ⟨pic, b0, b1, b2, dr, sk, bt, cl, n0, c0, i0, dw, dh, scl, ⟨tx, tdr, tsk, tbt⟩, ⟨ex2, ex3, ex4, ex0⟩, hpc, htc, ⟨en0, by omega, by omega⟩, ⟨eiv, by omega, by omega⟩, ⟨ec0, by omega, by omega⟩, ⟨by omega, by omega⟩, hrr, hrw, ⟨edw, by omega, by omega⟩, ⟨edh, by omega, by omega⟩, by omega, rfl, hxr, ⟨hsw, hc0⟩, htz, tcl, ex9, ⟨ecl, by omega, by omega⟩⟩
            have G173 : gSg [] [] [] ty h ty h := gSg.ss G0 hS (by decide)
            exact gz_end (I := .new 84) (len := 3) rfl (Or.inr (by decide)) ⟨ty, G173, ld, (h.2.2.2.1 bt : Int), (64 * dw + n0 + 4096 * dh + 262144 * scl + 536870912 * i0), (by omega), (by omega), (by omega), (by omega), (by omega), (by omega), hix172, Or.inr ⟨rfl, rfl, (by omega), (by dsimp only; omega), (by dsimp only; omega), (by omega), (by omega)⟩⟩
  by_cases hc174 : (0 : Int) ≤ a
  · refine gy_ifT (pc' := 9) rfl (by decide) (by decide) (by omega) hc174 ?_
    refine gz_s 1 (pc' := 10) (L' := [some (.ref x), some (.int (zi a)), some (.int (zi b)), none]) (S' := [.int (zi 3)]) rfl ?_
    exact jn2 3 (by omega)
  · refine gy_ifF rfl (by decide) (by decide) (by omega) hc174 ?_
    refine gz_s 2 (pc' := 10) (L' := [some (.ref x), some (.int (zi a)), some (.int (zi b)), none]) (S' := [.int (zi 6)]) rfl ?_
    exact jn2 6 (by omega)
set_option maxRecDepth 20000 in
set_option maxHeartbeats 4000000 in
theorem cl_DctFilter_table (d : Nat) {ty : Nat → Nat} {h : gH} (hJ : gJ rT 1027 ty h) (x : Nat) (tx : ty x = 50) (a : Int) (ra : (-2147483648) ≤ a ∧ a ≤ 2147483647) (b : Int) (rb : (-2147483648) ≤ b ∧ b ≤ 2147483647) (v : Int) (rv : (-2147483648) ≤ v ∧ v ≤ 2147483647) (S : gSS) (ld : Int) (rld : 0 ≤ ld ∧ ld ≤ 192) (lb : Int) (rlb : 1024 ≤ lb ∧ lb ≤ 1000000) (iv : Int) (riv : 0 ≤ iv ∧ iv ≤ 54223962112) (uq : gUq ty) (hyix : gIx ty x ld lb iv S h) : gz gPP gGG gcn (d + 0) gt85 0 (gent [.ref x, .int (zi a), .int (zi b), .int (zi v)] 5) [] h (fun q _ => ∃ ty9 : Nat → Nat, gSg [] [] [53999] ty h ty9 q.2.2 ∧ ∃ ld1 lb1 iv1 : Int, 0 ≤ ld1 ∧ ld1 ≤ 192 ∧ 1024 ≤ lb1 ∧ lb1 ≤ 1000000 ∧ 0 ≤ iv1 ∧ iv1 ≤ 54223962112 ∧ (gIx ty9 x ld1 lb1 iv1 (eQ0 S a b v) q.2.2) ∧ ((∃ z : Int, gfin gt85 q.1 q.2.1 = some (some (.int (zi z))) ∧ 0 ≤ z ∧ z ≤ 255 ∧ (z = S.1.1 (a * 64 + b).toNat) ∧ (0 ≤ a) ∧ (a ≤ 3) ∧ (0 ≤ b) ∧ (b ≤ 63) ∧ (v = -1 ∨ (1 ≤ v ∧ v ≤ 255)) ∧ (iv1 = iv) ∧ (1024 * (((q.2.2.1 : Int) - h.1) - 31 - 2 * (ld1 - ld)) ≤ lb1 - lb) ∧ (((q.2.2.2.1 : Int) - h.2.1) ≤ 4303 + 12480 * (ld1 - ld) + 2 * (lb1 - lb)) ∧ (ld ≤ ld1) ∧ (lb ≤ lb1)) ∨ (q.2.1 = [] ∧ ((q.1 = 19 ∧ (¬ (0 ≤ a ∧ a ≤ 3 ∧ 0 ≤ b ∧ b ≤ 63))) ∨ (q.1 = 46 ∧ (0 ≤ a) ∧ (a ≤ 3) ∧ (0 ≤ b) ∧ (b ≤ 63) ∧ (¬ (v = -1 ∨ (1 ≤ v ∧ v ≤ 255))))) ∧ (iv1 = iv) ∧ (1024 * (((q.2.2.1 : Int) - h.1) - 31 - 2 * (ld1 - ld)) ≤ lb1 - lb) ∧ (((q.2.2.2.1 : Int) - h.2.1) ≤ 4303 + 12480 * (ld1 - ld) + 2 * (lb1 - lb)) ∧ (ld ≤ ld1) ∧ (lb ≤ lb1)))) := by
  have hS : gSs rT 1027 ty [53999] h h := gSs.rf hJ
  have G0 : gSg [] [] [53999] ty h ty h := gSg.rf hJ (fun x hx => by cases hx)
  obtain ⟨pic, b0, b1, b2, dr, sk, bt, cl, n0, c0, i0, dw, dh, scl, ⟨_, tdr, tsk, tbt⟩, ⟨ex2, ex3, ex4, ex0⟩, hpc, htc, ⟨en0, rn0⟩, ⟨eiv, ri0⟩, ⟨ec0, rc0⟩, ⟨lc0, llb⟩, hrr, hrw, ⟨edw, rdw⟩, ⟨edh, rdh⟩, hwh, hcd, hxr, ⟨hsw, hc0⟩, htz, tcl, ex9, ⟨ecl, rcl⟩⟩ := hyix
  have tpic := hpc.1.1
  have tb0 := hpc.1.2.1
  have tb1 := hpc.1.2.2.1
  have tb2 := hpc.1.2.2.2
  obtain ⟨xr1, xr2, xr3, xr4, xr5, xr6, xr7⟩ := hxr
  refine gz_s 1 (pc' := 1) (L' := [some (.ref x), some (.int (zi a)), some (.int (zi b)), some (.int (zi v)), none]) (S' := [.int (zi a)]) rfl ?_
  by_cases hc8 : (a : Int) < 0
  · refine gy_ifT (pc' := 19) rfl (by decide) (by decide) (by omega) hc8 ?_
    have hl9 : 1024 ≤ h.2.2.2.1 bt ∧ h.2.2.2.1 bt ≤ 1000000 := gJ.rowl (G := gGG) hS.1 tbt rfl
    have hrw10 : gRn 256 ty 53 (gVt S.1.1 a b v) h := gVt.n (by omega) xr1
    have hxr11 : gXr ty (eQ0 S a b v) h := ⟨hrw10, xr2, xr3, xr4, xr5, xr6, xr7⟩
    have hix12 : gIx ty x ld (h.2.2.2.1 bt : Int) (64 * dw + n0 + 4096 * dh + 262144 * scl + 536870912 * i0) (eQ0 S a b v) h := ⟨pic, b0, b1, b2, dr, sk, bt, cl, n0, c0, i0, dw, dh, scl, ⟨tx, tdr, tsk, tbt⟩, ⟨ex2, ex3, ex4, ex0⟩, hpc, htc, ⟨en0, by omega, by omega⟩, ⟨eiv, by omega, by omega⟩, ⟨ec0, by omega, by omega⟩, ⟨by omega, by omega⟩, hrr, hrw, ⟨edw, by omega, by omega⟩, ⟨edh, by omega, by omega⟩, by omega, rfl, hxr11, ⟨hsw, hc0⟩, htz, tcl, ex9, ⟨ecl, by omega, by omega⟩⟩
    have G13 : gSg [] [] [53999] ty h ty h := gSg.ss G0 hS (by decide)
    exact gz_end (I := .new 84) (len := 3) rfl (Or.inr (by decide)) ⟨ty, G13, ld, (h.2.2.2.1 bt : Int), (64 * dw + n0 + 4096 * dh + 262144 * scl + 536870912 * i0), (by omega), (by omega), (by omega), (by omega), (by omega), (by omega), hix12, Or.inr ⟨rfl, Or.inl ⟨rfl, (by omega)⟩, (by omega), (by dsimp only; omega), (by dsimp only; omega), (by omega), (by omega)⟩⟩
  · refine gy_ifF rfl (by decide) (by decide) (by omega) hc8 ?_
    refine gz_s 2 (pc' := 6) (L' := [some (.ref x), some (.int (zi a)), some (.int (zi b)), some (.int (zi v)), none]) (S' := [.int (zi 4), .int (zi a)]) rfl ?_
    by_cases hc14 : (4 : Int) ≤ a
    · refine gy_icT (pc' := 19) rfl (by decide) (by decide) (by omega) (by omega) hc14 ?_
      have hl15 : 1024 ≤ h.2.2.2.1 bt ∧ h.2.2.2.1 bt ≤ 1000000 := gJ.rowl (G := gGG) hS.1 tbt rfl
      have hrw16 : gRn 256 ty 53 (gVt S.1.1 a b v) h := gVt.n (by omega) xr1
      have hxr17 : gXr ty (eQ0 S a b v) h := ⟨hrw16, xr2, xr3, xr4, xr5, xr6, xr7⟩
      have hix18 : gIx ty x ld (h.2.2.2.1 bt : Int) (64 * dw + n0 + 4096 * dh + 262144 * scl + 536870912 * i0) (eQ0 S a b v) h := ⟨pic, b0, b1, b2, dr, sk, bt, cl, n0, c0, i0, dw, dh, scl, ⟨tx, tdr, tsk, tbt⟩, ⟨ex2, ex3, ex4, ex0⟩, hpc, htc, ⟨en0, by omega, by omega⟩, ⟨eiv, by omega, by omega⟩, ⟨ec0, by omega, by omega⟩, ⟨by omega, by omega⟩, hrr, hrw, ⟨edw, by omega, by omega⟩, ⟨edh, by omega, by omega⟩, by omega, rfl, hxr17, ⟨hsw, hc0⟩, htz, tcl, ex9, ⟨ecl, by omega, by omega⟩⟩
      have G19 : gSg [] [] [53999] ty h ty h := gSg.ss G0 hS (by decide)
      exact gz_end (I := .new 84) (len := 3) rfl (Or.inr (by decide)) ⟨ty, G19, ld, (h.2.2.2.1 bt : Int), (64 * dw + n0 + 4096 * dh + 262144 * scl + 536870912 * i0), (by omega), (by omega), (by omega), (by omega), (by omega), (by omega), hix18, Or.inr ⟨rfl, Or.inl ⟨rfl, (by omega)⟩, (by omega), (by dsimp only; omega), (by dsimp only; omega), (by omega), (by omega)⟩⟩
    · refine gy_icF rfl (by decide) (by decide) (by omega) (by omega) hc14 ?_
      refine gz_s 1 (pc' := 10) (L' := [some (.ref x), some (.int (zi a)), some (.int (zi b)), some (.int (zi v)), none]) (S' := [.int (zi b)]) rfl ?_
      by_cases hc20 : (b : Int) < 0
      · refine gy_ifT (pc' := 19) rfl (by decide) (by decide) (by omega) hc20 ?_
        have hl21 : 1024 ≤ h.2.2.2.1 bt ∧ h.2.2.2.1 bt ≤ 1000000 := gJ.rowl (G := gGG) hS.1 tbt rfl
        have hrw22 : gRn 256 ty 53 (gVt S.1.1 a b v) h := gVt.n (by omega) xr1
        have hxr23 : gXr ty (eQ0 S a b v) h := ⟨hrw22, xr2, xr3, xr4, xr5, xr6, xr7⟩
        have hix24 : gIx ty x ld (h.2.2.2.1 bt : Int) (64 * dw + n0 + 4096 * dh + 262144 * scl + 536870912 * i0) (eQ0 S a b v) h := ⟨pic, b0, b1, b2, dr, sk, bt, cl, n0, c0, i0, dw, dh, scl, ⟨tx, tdr, tsk, tbt⟩, ⟨ex2, ex3, ex4, ex0⟩, hpc, htc, ⟨en0, by omega, by omega⟩, ⟨eiv, by omega, by omega⟩, ⟨ec0, by omega, by omega⟩, ⟨by omega, by omega⟩, hrr, hrw, ⟨edw, by omega, by omega⟩, ⟨edh, by omega, by omega⟩, by omega, rfl, hxr23, ⟨hsw, hc0⟩, htz, tcl, ex9, ⟨ecl, by omega, by omega⟩⟩
        have G25 : gSg [] [] [53999] ty h ty h := gSg.ss G0 hS (by decide)
        exact gz_end (I := .new 84) (len := 3) rfl (Or.inr (by decide)) ⟨ty, G25, ld, (h.2.2.2.1 bt : Int), (64 * dw + n0 + 4096 * dh + 262144 * scl + 536870912 * i0), (by omega), (by omega), (by omega), (by omega), (by omega), (by omega), hix24, Or.inr ⟨rfl, Or.inl ⟨rfl, (by omega)⟩, (by omega), (by dsimp only; omega), (by dsimp only; omega), (by omega), (by omega)⟩⟩
      · refine gy_ifF rfl (by decide) (by decide) (by omega) hc20 ?_
        refine gz_s 2 (pc' := 16) (L' := [some (.ref x), some (.int (zi a)), some (.int (zi b)), some (.int (zi v)), none]) (S' := [.int (zi 63), .int (zi b)]) rfl ?_
        by_cases hc26 : (b : Int) ≤ 63
        · refine gy_icT (pc' := 29) rfl (by decide) (by decide) (by omega) (by omega) hc26 ?_
          refine gz_s 2 (pc' := 31) (L' := [some (.ref x), some (.int (zi a)), some (.int (zi b)), some (.int (zi v)), none]) (S' := [.int (zi (-1)), .int (zi v)]) rfl ?_
          by_cases hc27 : (v : Int) = (-1)
          · refine gy_icT (pc' := 56) rfl (by decide) (by decide) (by omega) (by omega) hc27 ?_
            refine gz_s 1 (pc' := 57) (L' := [some (.ref x), some (.int (zi a)), some (.int (zi b)), some (.int (zi v)), none]) (S' := [.ref x]) rfl ?_
            refine gs_gtr rfl (by decide) rfl hS.1 tx rfl rfl rfl (fun c28 ec28 tc28 => ?_)
            refine gy_s 5 (pc' := 66) (L' := [some (.ref x), some (.int (zi a)), some (.int (zi b)), some (.int (zi v)), none]) (S' := [.int (((zi a) * (zi 64)) + (zi b)), .ref c28]) (L2 := [some (.ref x), some (.int (zi a)), some (.int (zi b)), some (.int (zi v)), none]) (S2 := [.int (zi ((a * 64) + b)), .ref c28]) rfl (by simp only [zi_add, zi_sub, zi_mul, zi_neg, zi_and1, zi_and7, zi_and15, zi_and31, zi_and255]) (by simp only [zi_add, zi_sub, zi_mul, zi_neg, zi_and1, zi_and7, zi_and15, zi_and31, zi_and255]) ?_
            have hl29 : 256 ≤ h.2.2.2.1 c28 ∧ h.2.2.2.1 c28 ≤ 256 := gJ.rowl (G := gGG) hS.1 tc28 rfl
            refine gs_ald rfl (by decide) hS.1 tc28 rfl rfl rfl (by decide) (fun _ => rfl) (by omega) (by omega) (fun z30 ez30 az30 bz30 => ?_)
            have hf31 := gRn.at (i := (a * 64) + b) (z := z30) xr1 tc28 ez30 (by omega) (by omega) (by omega)
            have hfx : z30 = S.1.1 (a * 64 + b).toNat := ((congrArg S.1.1 (by omega)).trans hf31).symm
            refine gz_s 3 (pc' := 71) (L' := [some (.ref x), some (.int (zi a)), some (.int (zi b)), some (.int (zi v)), some (.int (zi z30))]) (S' := [.int (zi (-1)), .int (zi v)]) rfl ?_
            refine gy_icT (pc' := 86) rfl (by decide) (by decide) ⟨by omega, by omega⟩ ⟨by omega, by omega⟩ (by first | (simp [zc]; done) | (simp only [zc]; omega)) ?_
            refine gz_s 1 (pc' := 88) (L' := [some (.ref x), some (.int (zi a)), some (.int (zi b)), some (.int (zi v)), some (.int (zi z30))]) (S' := [.int (zi z30)]) rfl ?_
            have hl32 : 1024 ≤ h.2.2.2.1 bt ∧ h.2.2.2.1 bt ≤ 1000000 := gJ.rowl (G := gGG) hS.1 tbt rfl
            have hrw33 : gRn 256 ty 53 (gVt S.1.1 a b v) h := gVt.n (by omega) xr1
            have hxr34 : gXr ty (eQ0 S a b v) h := ⟨hrw33, xr2, xr3, xr4, xr5, xr6, xr7⟩
            have hix35 : gIx ty x ld (h.2.2.2.1 bt : Int) (64 * dw + n0 + 4096 * dh + 262144 * scl + 536870912 * i0) (eQ0 S a b v) h := ⟨pic, b0, b1, b2, dr, sk, bt, cl, n0, c0, i0, dw, dh, scl, ⟨tx, tdr, tsk, tbt⟩, ⟨ex2, ex3, ex4, ex0⟩, hpc, htc, ⟨en0, by omega, by omega⟩, ⟨eiv, by omega, by omega⟩, ⟨ec0, by omega, by omega⟩, ⟨by omega, by omega⟩, hrr, hrw, ⟨edw, by omega, by omega⟩, ⟨edh, by omega, by omega⟩, by omega, rfl, hxr34, ⟨hsw, hc0⟩, htz, tcl, ex9, ⟨ecl, by omega, by omega⟩⟩
            have G36 : gSg [] [] [53999] ty h ty h := gSg.ss G0 hS (by decide)
            exact gz_end (I := .ireturn) (len := 1) rfl (Or.inl rfl) ⟨ty, G36, ld, (h.2.2.2.1 bt : Int), (64 * dw + n0 + 4096 * dh + 262144 * scl + 536870912 * i0), (by omega), (by omega), (by omega), (by omega), (by omega), (by omega), hix35, Or.inl ⟨z30, rfl, (by omega), (by omega), (by omega), (by omega), (by omega), (by omega), (by omega), (by omega), (by omega), (by dsimp only; omega), (by dsimp only; omega), (by omega), (by omega)⟩⟩
          · refine gy_icF rfl (by decide) (by decide) (by omega) (by omega) hc27 ?_
            refine gz_s 2 (pc' := 36) (L' := [some (.ref x), some (.int (zi a)), some (.int (zi b)), some (.int (zi v)), none]) (S' := [.int (zi 1), .int (zi v)]) rfl ?_
            by_cases hc37 : (v : Int) < 1
            · refine gy_icT (pc' := 46) rfl (by decide) (by decide) (by omega) (by omega) hc37 ?_
              have hl38 : 1024 ≤ h.2.2.2.1 bt ∧ h.2.2.2.1 bt ≤ 1000000 := gJ.rowl (G := gGG) hS.1 tbt rfl
              have hrw39 : gRn 256 ty 53 (gVt S.1.1 a b v) h := gVt.n (by omega) xr1
              have hxr40 : gXr ty (eQ0 S a b v) h := ⟨hrw39, xr2, xr3, xr4, xr5, xr6, xr7⟩
              have hix41 : gIx ty x ld (h.2.2.2.1 bt : Int) (64 * dw + n0 + 4096 * dh + 262144 * scl + 536870912 * i0) (eQ0 S a b v) h := ⟨pic, b0, b1, b2, dr, sk, bt, cl, n0, c0, i0, dw, dh, scl, ⟨tx, tdr, tsk, tbt⟩, ⟨ex2, ex3, ex4, ex0⟩, hpc, htc, ⟨en0, by omega, by omega⟩, ⟨eiv, by omega, by omega⟩, ⟨ec0, by omega, by omega⟩, ⟨by omega, by omega⟩, hrr, hrw, ⟨edw, by omega, by omega⟩, ⟨edh, by omega, by omega⟩, by omega, rfl, hxr40, ⟨hsw, hc0⟩, htz, tcl, ex9, ⟨ecl, by omega, by omega⟩⟩
              have G42 : gSg [] [] [53999] ty h ty h := gSg.ss G0 hS (by decide)
              exact gz_end (I := .new 134) (len := 3) rfl (Or.inr (by decide)) ⟨ty, G42, ld, (h.2.2.2.1 bt : Int), (64 * dw + n0 + 4096 * dh + 262144 * scl + 536870912 * i0), (by omega), (by omega), (by omega), (by omega), (by omega), (by omega), hix41, Or.inr ⟨rfl, Or.inr (⟨rfl, (by omega), (by omega), (by omega), (by omega), (by omega)⟩), (by omega), (by dsimp only; omega), (by dsimp only; omega), (by omega), (by omega)⟩⟩
            · refine gy_icF rfl (by decide) (by decide) (by omega) (by omega) hc37 ?_
              refine gz_s 2 (pc' := 43) (L' := [some (.ref x), some (.int (zi a)), some (.int (zi b)), some (.int (zi v)), none]) (S' := [.int (zi 255), .int (zi v)]) rfl ?_
              by_cases hc43 : (v : Int) ≤ 255
              · refine gy_icT (pc' := 56) rfl (by decide) (by decide) (by omega) (by omega) hc43 ?_
                refine gz_s 1 (pc' := 57) (L' := [some (.ref x), some (.int (zi a)), some (.int (zi b)), some (.int (zi v)), none]) (S' := [.ref x]) rfl ?_
                refine gs_gtr rfl (by decide) rfl hS.1 tx rfl rfl rfl (fun c44 ec44 tc44 => ?_)
                refine gy_s 5 (pc' := 66) (L' := [some (.ref x), some (.int (zi a)), some (.int (zi b)), some (.int (zi v)), none]) (S' := [.int (((zi a) * (zi 64)) + (zi b)), .ref c44]) (L2 := [some (.ref x), some (.int (zi a)), some (.int (zi b)), some (.int (zi v)), none]) (S2 := [.int (zi ((a * 64) + b)), .ref c44]) rfl (by simp only [zi_add, zi_sub, zi_mul, zi_neg, zi_and1, zi_and7, zi_and15, zi_and31, zi_and255]) (by simp only [zi_add, zi_sub, zi_mul, zi_neg, zi_and1, zi_and7, zi_and15, zi_and31, zi_and255]) ?_
                have hl45 : 256 ≤ h.2.2.2.1 c44 ∧ h.2.2.2.1 c44 ≤ 256 := gJ.rowl (G := gGG) hS.1 tc44 rfl
                refine gs_ald rfl (by decide) hS.1 tc44 rfl rfl rfl (by decide) (fun _ => rfl) (by omega) (by omega) (fun z46 ez46 az46 bz46 => ?_)
                have hf47 := gRn.at (i := (a * 64) + b) (z := z46) xr1 tc44 ez46 (by omega) (by omega) (by omega)
                have hfx : z46 = S.1.1 (a * 64 + b).toNat := ((congrArg S.1.1 (by omega)).trans hf47).symm
                refine gz_s 3 (pc' := 71) (L' := [some (.ref x), some (.int (zi a)), some (.int (zi b)), some (.int (zi v)), some (.int (zi z46))]) (S' := [.int (zi (-1)), .int (zi v)]) rfl ?_
                refine gy_icF rfl (by decide) (by decide) ⟨by omega, by omega⟩ ⟨by omega, by omega⟩ (by first | (simp [zc]; done) | (simp only [zc]; omega)) ?_
                refine gz_s 1 (pc' := 75) (L' := [some (.ref x), some (.int (zi a)), some (.int (zi b)), some (.int (zi v)), some (.int (zi z46))]) (S' := [.ref x]) rfl ?_
                refine gs_gtk rfl (by decide) rfl hS.1 tx rfl rfl ec44 ?_
                refine gy_s 6 (pc' := 85) (L' := [some (.ref x), some (.int (zi a)), some (.int (zi b)), some (.int (zi v)), some (.int (zi z46))]) (S' := [.int (zi v), .int (((zi a) * (zi 64)) + (zi b)), .ref c44]) (L2 := [some (.ref x), some (.int (zi a)), some (.int (zi b)), some (.int (zi v)), some (.int (zi z46))]) (S2 := [.int (zi v), .int (zi ((a * 64) + b)), .ref c44]) rfl (by simp only [zi_add, zi_sub, zi_mul, zi_neg, zi_and1, zi_and7, zi_and15, zi_and31, zi_and255]) (by simp only [zi_add, zi_sub, zi_mul, zi_neg, zi_and1, zi_and7, zi_and15, zi_and31, zi_and255]) ?_
                have hl48 : 256 ≤ h.2.2.2.1 c44 ∧ h.2.2.2.1 c44 ≤ 256 := gJ.rowl (G := gGG) hS.1 tc44 rfl
                refine gs_ast rfl (by decide) hS tc44 rfl rfl rfl (by decide) (fun _ => rfl) (by omega) (by omega) (fun _ => (by decide : (53999 : Nat) ∈ ([53999] : List Nat))) (by omega) (by omega) (fun h49 sh49 eh49 fh49 => ?_)
                have pr50 := gSW.pt fh49 tc44 (by decide) hsw
                have pr51 := gPC.pa fh49 (sh49.2.2.2.2.1.trans hS.2.2.2.2.1.symm) tc44 (fun _ => (by decide : ¬ (53999 : Nat) ∈ gPCp)) hpc
                have pr52 := gTc.pt fh49 tc44 (by decide) htc
                have pr53 := gRr.pa fh49 (sh49.2.2.2.2.1.trans hS.2.2.2.2.1.symm) tc44 (fun _ => (by decide : ¬ (53999 : Nat) ∈ gRrp)) hrr
                have pr54 := gRw.pa fh49 (sh49.2.2.2.2.1.trans hS.2.2.2.2.1.symm) tc44 (fun _ => (by decide : ¬ (53999 : Nat) ∈ gRwp)) hrw
                have pr55 := gRn.put (i := (a * 64) + b) (z := v) uq tc44 (by decide) fh49 eh49 (by omega) (by omega) xr1
                have pr56 := gRn.pt fh49 tc44 (by decide) xr2
                have pr57 := gRn.pt fh49 tc44 (by decide) xr3
                have pr58 := gRn.pt fh49 tc44 (by decide) xr4
                have pr59 := gRn.pt fh49 tc44 (by decide) xr5
                have pr60 := gRn.pt fh49 tc44 (by decide) xr6
                have pr61 := gRn.pt fh49 tc44 (by decide) xr7
                have s62 := (fh49 x 2 (fun q => absurd (((tx).symm.trans (congrArg ty q.1)).trans tc44) (by decide))).trans ex2
                have s63 := (fh49 x 3 (fun q => absurd (((tx).symm.trans (congrArg ty q.1)).trans tc44) (by decide))).trans ex3
                have s64 := (fh49 x 4 (fun q => absurd (((tx).symm.trans (congrArg ty q.1)).trans tc44) (by decide))).trans ex4
                have s65 := (fh49 sk 0 (fun q => absurd (((tsk).symm.trans (congrArg ty q.1)).trans tc44) (by decide))).trans ex0
                have s66 := (fh49 x 0 (fun q => absurd (((tx).symm.trans (congrArg ty q.1)).trans tc44) (by decide))).trans ex9
                have s67 := (fh49 dr 8 (fun q => absurd (((tdr).symm.trans (congrArg ty q.1)).trans tc44) (by decide))).trans en0
                have s68 := (fh49 dr 3 (fun q => absurd (((tdr).symm.trans (congrArg ty q.1)).trans tc44) (by decide))).trans eiv
                have s69 := (fh49 dr 1 (fun q => absurd (((tdr).symm.trans (congrArg ty q.1)).trans tc44) (by decide))).trans edw
                have s70 := (fh49 dr 2 (fun q => absurd (((tdr).symm.trans (congrArg ty q.1)).trans tc44) (by decide))).trans edh
                have s71 := (fh49 sk 1 (fun q => absurd (((tsk).symm.trans (congrArg ty q.1)).trans tc44) (by decide))).trans ec0
                have s72 := (fh49 cl 1 (fun q => absurd (((tcl).symm.trans (congrArg ty q.1)).trans tc44) (by decide))).trans ecl
                have s73 := (fh49 x 1 (fun q => absurd (((tx).symm.trans (congrArg ty q.1)).trans tc44) (by decide))).trans ec44
                have pr74 := gEl.set (i := (a * 64) + b) (z := v) uq tc44 (by decide) eh49 (by omega) (by omega)
                refine gz_s 1 (pc' := 88) (L' := [some (.ref x), some (.int (zi a)), some (.int (zi b)), some (.int (zi v)), some (.int (zi z46))]) (S' := [.int (zi z46)]) rfl ?_
                have k75 := sh49.2.1
                have k75b := sh49.2.2.1
                have hl76 : h49.2.2.2.1 bt = h.2.2.2.1 bt := congrFun sh49.2.2.2.2.1 bt
                have hl77 : 1024 ≤ h49.2.2.2.1 bt ∧ h49.2.2.2.1 bt ≤ 1000000 := gJ.rowl (G := gGG) sh49.1 tbt rfl
                have hrw78 : gRn 256 ty 53 (gVt S.1.1 a b v) h49 := gVt.y ⟨⟨by omega, by omega, by omega, by omega⟩, by omega, by omega⟩ (by omega) pr55
                have hxr79 : gXr ty (eQ0 S a b v) h49 := ⟨hrw78, pr56, pr57, pr58, pr59, pr60, pr61⟩
                have k80 := sh49.2.1
                have k80b := sh49.2.2.1
                have hl81 : h49.2.2.2.1 bt = h.2.2.2.1 bt := congrFun sh49.2.2.2.2.1 bt
                have hix82 : gIx ty x ld (h49.2.2.2.1 bt : Int) (64 * dw + n0 + 4096 * dh + 262144 * scl + 536870912 * i0) (eQ0 S a b v) h49 := ⟨pic, b0, b1, b2, dr, sk, bt, cl, n0, c0, i0, dw, dh, scl, ⟨tx, tdr, tsk, tbt⟩, ⟨s62, s63, s64, s65⟩, pr51, pr52, ⟨s67, by omega, by omega⟩, ⟨s68, by omega, by omega⟩, ⟨s71, by omega, by omega⟩, ⟨by omega, by omega⟩, pr53, pr54, ⟨s69, by omega, by omega⟩, ⟨s70, by omega, by omega⟩, by omega, rfl, hxr79, ⟨pr50, hc0⟩, htz, tcl, s66, ⟨s72, by omega, by omega⟩⟩
                have G83 : gSg [] [] [53999] ty h ty h49 := gSg.ss G0 sh49 (by decide)
                exact gz_end (I := .ireturn) (len := 1) rfl (Or.inl rfl) ⟨ty, G83, ld, (h49.2.2.2.1 bt : Int), (64 * dw + n0 + 4096 * dh + 262144 * scl + 536870912 * i0), (by omega), (by omega), (by omega), (by omega), (by omega), (by omega), hix82, Or.inl ⟨z46, rfl, (by omega), (by omega), (by omega), (by omega), (by omega), (by omega), (by omega), (by omega), (by omega), (by dsimp only; omega), (by dsimp only; omega), (by omega), (by omega)⟩⟩
              · refine gy_icF rfl (by decide) (by decide) (by omega) (by omega) hc43 ?_
                have hl84 : 1024 ≤ h.2.2.2.1 bt ∧ h.2.2.2.1 bt ≤ 1000000 := gJ.rowl (G := gGG) hS.1 tbt rfl
                have hrw85 : gRn 256 ty 53 (gVt S.1.1 a b v) h := gVt.n (by omega) xr1
                have hxr86 : gXr ty (eQ0 S a b v) h := ⟨hrw85, xr2, xr3, xr4, xr5, xr6, xr7⟩
                have hix87 : gIx ty x ld (h.2.2.2.1 bt : Int) (64 * dw + n0 + 4096 * dh + 262144 * scl + 536870912 * i0) (eQ0 S a b v) h := ⟨pic, b0, b1, b2, dr, sk, bt, cl, n0, c0, i0, dw, dh, scl, ⟨tx, tdr, tsk, tbt⟩, ⟨ex2, ex3, ex4, ex0⟩, hpc, htc, ⟨en0, by omega, by omega⟩, ⟨eiv, by omega, by omega⟩, ⟨ec0, by omega, by omega⟩, ⟨by omega, by omega⟩, hrr, hrw, ⟨edw, by omega, by omega⟩, ⟨edh, by omega, by omega⟩, by omega, rfl, hxr86, ⟨hsw, hc0⟩, htz, tcl, ex9, ⟨ecl, by omega, by omega⟩⟩
                have G88 : gSg [] [] [53999] ty h ty h := gSg.ss G0 hS (by decide)
                exact gz_end (I := .new 134) (len := 3) rfl (Or.inr (by decide)) ⟨ty, G88, ld, (h.2.2.2.1 bt : Int), (64 * dw + n0 + 4096 * dh + 262144 * scl + 536870912 * i0), (by omega), (by omega), (by omega), (by omega), (by omega), (by omega), hix87, Or.inr ⟨rfl, Or.inr (⟨rfl, (by omega), (by omega), (by omega), (by omega), (by omega)⟩), (by omega), (by dsimp only; omega), (by dsimp only; omega), (by omega), (by omega)⟩⟩
        · refine gy_icF rfl (by decide) (by decide) (by omega) (by omega) hc26 ?_
          have hl89 : 1024 ≤ h.2.2.2.1 bt ∧ h.2.2.2.1 bt ≤ 1000000 := gJ.rowl (G := gGG) hS.1 tbt rfl
          have hrw90 : gRn 256 ty 53 (gVt S.1.1 a b v) h := gVt.n (by omega) xr1
          have hxr91 : gXr ty (eQ0 S a b v) h := ⟨hrw90, xr2, xr3, xr4, xr5, xr6, xr7⟩
          have hix92 : gIx ty x ld (h.2.2.2.1 bt : Int) (64 * dw + n0 + 4096 * dh + 262144 * scl + 536870912 * i0) (eQ0 S a b v) h := ⟨pic, b0, b1, b2, dr, sk, bt, cl, n0, c0, i0, dw, dh, scl, ⟨tx, tdr, tsk, tbt⟩, ⟨ex2, ex3, ex4, ex0⟩, hpc, htc, ⟨en0, by omega, by omega⟩, ⟨eiv, by omega, by omega⟩, ⟨ec0, by omega, by omega⟩, ⟨by omega, by omega⟩, hrr, hrw, ⟨edw, by omega, by omega⟩, ⟨edh, by omega, by omega⟩, by omega, rfl, hxr91, ⟨hsw, hc0⟩, htz, tcl, ex9, ⟨ecl, by omega, by omega⟩⟩
          have G93 : gSg [] [] [53999] ty h ty h := gSg.ss G0 hS (by decide)
          exact gz_end (I := .new 84) (len := 3) rfl (Or.inr (by decide)) ⟨ty, G93, ld, (h.2.2.2.1 bt : Int), (64 * dw + n0 + 4096 * dh + 262144 * scl + 536870912 * i0), (by omega), (by omega), (by omega), (by omega), (by omega), (by omega), hix92, Or.inr ⟨rfl, Or.inl ⟨rfl, (by omega)⟩, (by omega), (by dsimp only; omega), (by dsimp only; omega), (by omega), (by omega)⟩⟩
set_option maxRecDepth 20000 in
set_option maxHeartbeats 4000000 in
theorem cl_DctFilter_point (d : Nat) {ty : Nat → Nat} {h : gH} (hJ : gJ rT 1027 ty h) (x : Nat) (tx : ty x = 50) (a : Int) (ra : (-2147483648) ≤ a ∧ a ≤ 2147483647) (b : Int) (rb : (-2147483648) ≤ b ∧ b ≤ 2147483647) (v : Int) (rv : (-2147483648) ≤ v ∧ v ≤ 2147483647) (S : gSS) (ld : Int) (rld : 0 ≤ ld ∧ ld ≤ 192) (lb : Int) (rlb : 1024 ≤ lb ∧ lb ≤ 1000000) (iv : Int) (riv : 0 ≤ iv ∧ iv ≤ 54223962112) (uq : gUq ty) (hyix : gIx ty x ld lb iv S h) : gz gPP gGG gcn (d + 2) gt86 0 (gent [.ref x, .int (zi a), .int (zi b), .int (zi v)] 4) [] h (fun q _ => ∃ ty9 : Nat → Nat, gSg [] [] [55001, 55002, 59999] ty h ty9 q.2.2 ∧ ∃ ld1 lb1 iv1 : Int, 0 ≤ ld1 ∧ ld1 ≤ 192 ∧ 1024 ≤ lb1 ∧ lb1 ≤ 1000000 ∧ 0 ≤ iv1 ∧ iv1 ≤ 54223962112 ∧ (gIx ty9 x ld1 lb1 iv1 (eQ1 S a b v) q.2.2) ∧ ((∃ z : Int, gfin gt86 q.1 q.2.1 = some (some (.int (zi z))) ∧ 0 ≤ z ∧ z ≤ 255 ∧ (z = S.1.2.1 (b * 32 + a).toNat) ∧ (0 ≤ a) ∧ (a ≤ 31) ∧ (0 ≤ b) ∧ (b ≤ 31) ∧ (0 ≤ v) ∧ (v ≤ 255) ∧ (iv1 = iv + 64 * (if iv / 64 % 64 ≤ a then a + 1 - iv / 64 % 64 else 0) + 4096 * (if iv / 4096 % 64 ≤ b then b + 1 - iv / 4096 % 64 else 0)) ∧ (1024 * (((q.2.2.1 : Int) - h.1) - 31 - 2 * (ld1 - ld)) ≤ lb1 - lb) ∧ (((q.2.2.2.1 : Int) - h.2.1) ≤ 4303 + 12480 * (ld1 - ld) + 2 * (lb1 - lb)) ∧ (ld ≤ ld1) ∧ (lb ≤ lb1)) ∨ (q.2.1 = [] ∧ ((q.1 = 20 ∧ (¬ (0 ≤ a ∧ a ≤ 31 ∧ 0 ≤ b ∧ b ≤ 31))) ∨ (q.1 = 41 ∧ (0 ≤ a) ∧ (a ≤ 31) ∧ (0 ≤ b) ∧ (b ≤ 31) ∧ (¬ (0 ≤ v ∧ v ≤ 255)))) ∧ (iv1 = iv) ∧ (1024 * (((q.2.2.1 : Int) - h.1) - 31 - 2 * (ld1 - ld)) ≤ lb1 - lb) ∧ (((q.2.2.2.1 : Int) - h.2.1) ≤ 4303 + 12480 * (ld1 - ld) + 2 * (lb1 - lb)) ∧ (ld ≤ ld1) ∧ (lb ≤ lb1)))) := by
  have hS : gSs rT 1027 ty [55001, 55002, 59999] h h := gSs.rf hJ
  have G0 : gSg [] [] [55001, 55002, 59999] ty h ty h := gSg.rf hJ (fun x hx => by cases hx)
  obtain ⟨pic, b0, b1, b2, dr, sk, bt, cl, n0, c0, i0, dw, dh, scl, ⟨_, tdr, tsk, tbt⟩, ⟨ex2, ex3, ex4, ex0⟩, hpc, htc, ⟨en0, rn0⟩, ⟨eiv, ri0⟩, ⟨ec0, rc0⟩, ⟨lc0, llb⟩, hrr, hrw, ⟨edw, rdw⟩, ⟨edh, rdh⟩, hwh, hcd, hxr, ⟨hsw, hc0⟩, htz, tcl, ex9, ⟨ecl, rcl⟩⟩ := hyix
  have tpic := hpc.1.1
  have tb0 := hpc.1.2.1
  have tb1 := hpc.1.2.2.1
  have tb2 := hpc.1.2.2.2
  obtain ⟨xr1, xr2, xr3, xr4, xr5, xr6, xr7⟩ := hxr
  have hdw : iv / 64 % 64 = dw := by omega
  have hdh : iv / 4096 % 64 = dh := by omega
  refine gz_s 1 (pc' := 1) (L' := [some (.ref x), some (.int (zi a)), some (.int (zi b)), some (.int (zi v))]) (S' := [.int (zi a)]) rfl ?_
  by_cases hc8 : (a : Int) < 0
  · refine gy_ifT (pc' := 20) rfl (by decide) (by decide) (by omega) hc8 ?_
    have hl9 : 1024 ≤ h.2.2.2.1 bt ∧ h.2.2.2.1 bt ≤ 1000000 := gJ.rowl (G := gGG) hS.1 tbt rfl
    have hrw10 : gRn 1024 ty 59 (gVp S.1.2.1 a b v) h := gVp.n (by omega) xr2
    have hxr11 : gXr ty (eQ1 S a b v) h := ⟨xr1, hrw10, xr3, xr4, xr5, xr6, xr7⟩
    have hix12 : gIx ty x ld (h.2.2.2.1 bt : Int) (64 * dw + n0 + 4096 * dh + 262144 * scl + 536870912 * i0) (eQ1 S a b v) h := ⟨pic, b0, b1, b2, dr, sk, bt, cl, n0, c0, i0, dw, dh, scl, ⟨tx, tdr, tsk, tbt⟩, ⟨ex2, ex3, ex4, ex0⟩, hpc, htc, ⟨en0, by omega, by omega⟩, ⟨eiv, by omega, by omega⟩, ⟨ec0, by omega, by omega⟩, ⟨by omega, by omega⟩, hrr, hrw, ⟨edw, by omega, by omega⟩, ⟨edh, by omega, by omega⟩, by omega, rfl, hxr11, ⟨hsw, hc0⟩, htz, tcl, ex9, ⟨ecl, by omega, by omega⟩⟩
    have G13 : gSg [] [] [55001, 55002, 59999] ty h ty h := gSg.ss G0 hS (by decide)
    exact gz_end (I := .new 84) (len := 3) rfl (Or.inr (by decide)) ⟨ty, G13, ld, (h.2.2.2.1 bt : Int), (64 * dw + n0 + 4096 * dh + 262144 * scl + 536870912 * i0), (by omega), (by omega), (by omega), (by omega), (by omega), (by omega), hix12, Or.inr ⟨rfl, Or.inl ⟨rfl, (by omega)⟩, (by omega), (by dsimp only; omega), (by dsimp only; omega), (by omega), (by omega)⟩⟩
  · refine gy_ifF rfl (by decide) (by decide) (by omega) hc8 ?_
    refine gz_s 2 (pc' := 7) (L' := [some (.ref x), some (.int (zi a)), some (.int (zi b)), some (.int (zi v))]) (S' := [.int (zi 32), .int (zi a)]) rfl ?_
    by_cases hc14 : (32 : Int) ≤ a
    · refine gy_icT (pc' := 20) rfl (by decide) (by decide) (by omega) (by omega) hc14 ?_
      have hl15 : 1024 ≤ h.2.2.2.1 bt ∧ h.2.2.2.1 bt ≤ 1000000 := gJ.rowl (G := gGG) hS.1 tbt rfl
      have hrw16 : gRn 1024 ty 59 (gVp S.1.2.1 a b v) h := gVp.n (by omega) xr2
      have hxr17 : gXr ty (eQ1 S a b v) h := ⟨xr1, hrw16, xr3, xr4, xr5, xr6, xr7⟩
      have hix18 : gIx ty x ld (h.2.2.2.1 bt : Int) (64 * dw + n0 + 4096 * dh + 262144 * scl + 536870912 * i0) (eQ1 S a b v) h := ⟨pic, b0, b1, b2, dr, sk, bt, cl, n0, c0, i0, dw, dh, scl, ⟨tx, tdr, tsk, tbt⟩, ⟨ex2, ex3, ex4, ex0⟩, hpc, htc, ⟨en0, by omega, by omega⟩, ⟨eiv, by omega, by omega⟩, ⟨ec0, by omega, by omega⟩, ⟨by omega, by omega⟩, hrr, hrw, ⟨edw, by omega, by omega⟩, ⟨edh, by omega, by omega⟩, by omega, rfl, hxr17, ⟨hsw, hc0⟩, htz, tcl, ex9, ⟨ecl, by omega, by omega⟩⟩
      have G19 : gSg [] [] [55001, 55002, 59999] ty h ty h := gSg.ss G0 hS (by decide)
      exact gz_end (I := .new 84) (len := 3) rfl (Or.inr (by decide)) ⟨ty, G19, ld, (h.2.2.2.1 bt : Int), (64 * dw + n0 + 4096 * dh + 262144 * scl + 536870912 * i0), (by omega), (by omega), (by omega), (by omega), (by omega), (by omega), hix18, Or.inr ⟨rfl, Or.inl ⟨rfl, (by omega)⟩, (by omega), (by dsimp only; omega), (by dsimp only; omega), (by omega), (by omega)⟩⟩
    · refine gy_icF rfl (by decide) (by decide) (by omega) (by omega) hc14 ?_
      refine gz_s 1 (pc' := 11) (L' := [some (.ref x), some (.int (zi a)), some (.int (zi b)), some (.int (zi v))]) (S' := [.int (zi b)]) rfl ?_
      by_cases hc20 : (b : Int) < 0
      · refine gy_ifT (pc' := 20) rfl (by decide) (by decide) (by omega) hc20 ?_
        have hl21 : 1024 ≤ h.2.2.2.1 bt ∧ h.2.2.2.1 bt ≤ 1000000 := gJ.rowl (G := gGG) hS.1 tbt rfl
        have hrw22 : gRn 1024 ty 59 (gVp S.1.2.1 a b v) h := gVp.n (by omega) xr2
        have hxr23 : gXr ty (eQ1 S a b v) h := ⟨xr1, hrw22, xr3, xr4, xr5, xr6, xr7⟩
        have hix24 : gIx ty x ld (h.2.2.2.1 bt : Int) (64 * dw + n0 + 4096 * dh + 262144 * scl + 536870912 * i0) (eQ1 S a b v) h := ⟨pic, b0, b1, b2, dr, sk, bt, cl, n0, c0, i0, dw, dh, scl, ⟨tx, tdr, tsk, tbt⟩, ⟨ex2, ex3, ex4, ex0⟩, hpc, htc, ⟨en0, by omega, by omega⟩, ⟨eiv, by omega, by omega⟩, ⟨ec0, by omega, by omega⟩, ⟨by omega, by omega⟩, hrr, hrw, ⟨edw, by omega, by omega⟩, ⟨edh, by omega, by omega⟩, by omega, rfl, hxr23, ⟨hsw, hc0⟩, htz, tcl, ex9, ⟨ecl, by omega, by omega⟩⟩
        have G25 : gSg [] [] [55001, 55002, 59999] ty h ty h := gSg.ss G0 hS (by decide)
        exact gz_end (I := .new 84) (len := 3) rfl (Or.inr (by decide)) ⟨ty, G25, ld, (h.2.2.2.1 bt : Int), (64 * dw + n0 + 4096 * dh + 262144 * scl + 536870912 * i0), (by omega), (by omega), (by omega), (by omega), (by omega), (by omega), hix24, Or.inr ⟨rfl, Or.inl ⟨rfl, (by omega)⟩, (by omega), (by dsimp only; omega), (by dsimp only; omega), (by omega), (by omega)⟩⟩
      · refine gy_ifF rfl (by decide) (by decide) (by omega) hc20 ?_
        refine gz_s 2 (pc' := 17) (L' := [some (.ref x), some (.int (zi a)), some (.int (zi b)), some (.int (zi v))]) (S' := [.int (zi 32), .int (zi b)]) rfl ?_
        by_cases hc26 : (b : Int) < 32
        · refine gy_icT (pc' := 30) rfl (by decide) (by decide) (by omega) (by omega) hc26 ?_
          refine gz_s 1 (pc' := 31) (L' := [some (.ref x), some (.int (zi a)), some (.int (zi b)), some (.int (zi v))]) (S' := [.int (zi v)]) rfl ?_
          by_cases hc27 : (v : Int) < 0
          · refine gy_ifT (pc' := 41) rfl (by decide) (by decide) (by omega) hc27 ?_
            have hl28 : 1024 ≤ h.2.2.2.1 bt ∧ h.2.2.2.1 bt ≤ 1000000 := gJ.rowl (G := gGG) hS.1 tbt rfl
            have hrw29 : gRn 1024 ty 59 (gVp S.1.2.1 a b v) h := gVp.n (by omega) xr2
            have hxr30 : gXr ty (eQ1 S a b v) h := ⟨xr1, hrw29, xr3, xr4, xr5, xr6, xr7⟩
            have hix31 : gIx ty x ld (h.2.2.2.1 bt : Int) (64 * dw + n0 + 4096 * dh + 262144 * scl + 536870912 * i0) (eQ1 S a b v) h := ⟨pic, b0, b1, b2, dr, sk, bt, cl, n0, c0, i0, dw, dh, scl, ⟨tx, tdr, tsk, tbt⟩, ⟨ex2, ex3, ex4, ex0⟩, hpc, htc, ⟨en0, by omega, by omega⟩, ⟨eiv, by omega, by omega⟩, ⟨ec0, by omega, by omega⟩, ⟨by omega, by omega⟩, hrr, hrw, ⟨edw, by omega, by omega⟩, ⟨edh, by omega, by omega⟩, by omega, rfl, hxr30, ⟨hsw, hc0⟩, htz, tcl, ex9, ⟨ecl, by omega, by omega⟩⟩
            have G32 : gSg [] [] [55001, 55002, 59999] ty h ty h := gSg.ss G0 hS (by decide)
            exact gz_end (I := .new 134) (len := 3) rfl (Or.inr (by decide)) ⟨ty, G32, ld, (h.2.2.2.1 bt : Int), (64 * dw + n0 + 4096 * dh + 262144 * scl + 536870912 * i0), (by omega), (by omega), (by omega), (by omega), (by omega), (by omega), hix31, Or.inr ⟨rfl, Or.inr (⟨rfl, (by omega), (by omega), (by omega), (by omega), (by omega)⟩), (by omega), (by dsimp only; omega), (by dsimp only; omega), (by omega), (by omega)⟩⟩
          · refine gy_ifF rfl (by decide) (by decide) (by omega) hc27 ?_
            refine gz_s 2 (pc' := 38) (L' := [some (.ref x), some (.int (zi a)), some (.int (zi b)), some (.int (zi v))]) (S' := [.int (zi 255), .int (zi v)]) rfl ?_
            by_cases hc33 : (v : Int) ≤ 255
            · refine gy_icT (pc' := 51) rfl (by decide) (by decide) (by omega) (by omega) hc33 ?_
              refine gz_s 1 (pc' := 52) (L' := [some (.ref x), some (.int (zi a)), some (.int (zi b)), some (.int (zi v))]) (S' := [.ref x]) rfl ?_
              refine gs_gtk rfl (by decide) rfl hS.1 tx rfl rfl ex3 ?_
              refine gz_s 3 (pc' := 58) (L' := [some (.ref x), some (.int (zi a)), some (.int (zi b)), some (.int (zi v))]) (S' := [.int (zi v), .int (zi b), .int (zi a), .ref dr]) rfl ?_
              refine gz_call rfl (by decide) rfl (by decide) (by decide) (gcal_of rfl rfl rfl (Nat.le_of_ble_eq_true rfl) (gJ.recv (G := gGG) hS.1 tdr rfl rfl)) (cl_Draft_putPoint _ hS.1 dr tdr a ⟨by omega, by omega⟩ b ⟨by omega, by omega⟩ v ⟨by omega, by omega⟩ dw edw ⟨by omega, by omega⟩ dh edh ⟨by omega, by omega⟩ S.1.2.1 uq xr2) (fun q34 _ wq34 => ?_)
              obtain ⟨pq34, oq34, hq34⟩ := q34
              obtain ⟨xq34, zq34, fq34_0, fq34_1, gq34, aq34, bq34, efq34_0, afq34_0, bfq34_0, efq34_1, afq34_1, bfq34_1, uq34_0, uq34_1, uq34_2, uq34_3, uq34_4, uq34_5, uq34_6, yq34_0⟩ := wq34
              refine ⟨_, gq34, ?_⟩
              show gz gPP gGG gcn _ _ 61 [some (.ref x), some (.int (zi a)), some (.int (zi b)), some (.int (zi v))] [.int (zi zq34)] hq34 _
              have sq34 : gSs rT 1027 ty [55001, 55002, 59999] h hq34 := gSs.tr hS xq34 (by decide)
              have s35 := (xq34.2.2.2.2.2 x 2 (by rw [tx]; decide)).trans ex2
              have s36 := (xq34.2.2.2.2.2 x 3 (by rw [tx]; decide)).trans ex3
              have s37 := (xq34.2.2.2.2.2 x 4 (by rw [tx]; decide)).trans ex4
              have s38 := (xq34.2.2.2.2.2 sk 0 (by rw [tsk]; decide)).trans ex0
              have s39 := (xq34.2.2.2.2.2 x 0 (by rw [tx]; decide)).trans ex9
              have s40 := (xq34.2.2.2.2.2 dr 8 (by rw [tdr]; decide)).trans en0
              have s41 := (xq34.2.2.2.2.2 dr 3 (by rw [tdr]; decide)).trans eiv
              have s42 := (xq34.2.2.2.2.2 sk 1 (by rw [tsk]; decide)).trans ec0
              have s43 := (xq34.2.2.2.2.2 cl 1 (by rw [tcl]; decide)).trans ecl
              have pr44 := gSW.fr xq34.2 (by decide) hsw
              have pr45 := gPC.fr xq34.2 (by decide) hpc
              have pr46 := gTc.fr xq34.2 (by decide) htc
              have pr47 := gRr.fr xq34.2 (by decide) hrr
              have pr48 := gRw.fr xq34.2 (by decide) hrw
              have pr49 := gRn.fr xq34.2 (by decide) xr1
              have pr50 := gRn.fr xq34.2 (by decide) xr3
              have pr51 := gRn.fr xq34.2 (by decide) xr4
              have pr52 := gRn.fr xq34.2 (by decide) xr5
              have pr53 := gRn.fr xq34.2 (by decide) xr6
              have pr54 := gRn.fr xq34.2 (by decide) xr7
              have k55 := sq34.2.1
              have k55b := sq34.2.2.1
              have hl56 : hq34.2.2.2.1 bt = h.2.2.2.1 bt := congrFun sq34.2.2.2.2.1 bt
              have hl57 : 1024 ≤ hq34.2.2.2.1 bt ∧ hq34.2.2.2.1 bt ≤ 1000000 := gJ.rowl (G := gGG) sq34.1 tbt rfl
              have hrw58 : gRn 1024 ty 59 (gVp S.1.2.1 a b v) hq34 := gVp.y ⟨⟨by omega, by omega, by omega, by omega⟩, by omega, by omega⟩ (by omega) yq34_0
              have hxr59 : gXr ty (eQ1 S a b v) hq34 := ⟨pr49, hrw58, pr50, pr51, pr52, pr53, pr54⟩
              have k60 := sq34.2.1
              have k60b := sq34.2.2.1
              have hl61 : hq34.2.2.2.1 bt = h.2.2.2.1 bt := congrFun sq34.2.2.2.2.1 bt
              have hix62 : gIx ty x ld (hq34.2.2.2.1 bt : Int) (64 * fq34_0 + n0 + 4096 * fq34_1 + 262144 * scl + 536870912 * i0) (eQ1 S a b v) hq34 := ⟨pic, b0, b1, b2, dr, sk, bt, cl, n0, c0, i0, fq34_0, fq34_1, scl, ⟨tx, tdr, tsk, tbt⟩, ⟨s35, s36, s37, s38⟩, pr45, pr46, ⟨s40, by omega, by omega⟩, ⟨s41, by omega, by omega⟩, ⟨s42, by omega, by omega⟩, ⟨by omega, by omega⟩, pr47, pr48, ⟨efq34_0, by omega, by omega⟩, ⟨efq34_1, by omega, by omega⟩, by omega, rfl, hxr59, ⟨pr44, hc0⟩, htz, tcl, s39, ⟨s43, by omega, by omega⟩⟩
              have G63 : gSg [] [] [55001, 55002, 59999] ty h ty hq34 := gSg.ss G0 sq34 (by decide)
              exact gz_end (I := .ireturn) (len := 1) rfl (Or.inl rfl) ⟨ty, G63, ld, (hq34.2.2.2.1 bt : Int), (64 * fq34_0 + n0 + 4096 * fq34_1 + 262144 * scl + 536870912 * i0), (by omega), (by omega), (by omega), (by omega), (by omega), (by omega), hix62, Or.inl ⟨zq34, rfl, (by omega), (by omega), (by omega), (by omega), (by omega), (by omega), (by omega), (by omega), (by omega), (by omega), (by dsimp only; omega), (by dsimp only; omega), (by omega), (by omega)⟩⟩
            · refine gy_icF rfl (by decide) (by decide) (by omega) (by omega) hc33 ?_
              have hl64 : 1024 ≤ h.2.2.2.1 bt ∧ h.2.2.2.1 bt ≤ 1000000 := gJ.rowl (G := gGG) hS.1 tbt rfl
              have hrw65 : gRn 1024 ty 59 (gVp S.1.2.1 a b v) h := gVp.n (by omega) xr2
              have hxr66 : gXr ty (eQ1 S a b v) h := ⟨xr1, hrw65, xr3, xr4, xr5, xr6, xr7⟩
              have hix67 : gIx ty x ld (h.2.2.2.1 bt : Int) (64 * dw + n0 + 4096 * dh + 262144 * scl + 536870912 * i0) (eQ1 S a b v) h := ⟨pic, b0, b1, b2, dr, sk, bt, cl, n0, c0, i0, dw, dh, scl, ⟨tx, tdr, tsk, tbt⟩, ⟨ex2, ex3, ex4, ex0⟩, hpc, htc, ⟨en0, by omega, by omega⟩, ⟨eiv, by omega, by omega⟩, ⟨ec0, by omega, by omega⟩, ⟨by omega, by omega⟩, hrr, hrw, ⟨edw, by omega, by omega⟩, ⟨edh, by omega, by omega⟩, by omega, rfl, hxr66, ⟨hsw, hc0⟩, htz, tcl, ex9, ⟨ecl, by omega, by omega⟩⟩
              have G68 : gSg [] [] [55001, 55002, 59999] ty h ty h := gSg.ss G0 hS (by decide)
              exact gz_end (I := .new 134) (len := 3) rfl (Or.inr (by decide)) ⟨ty, G68, ld, (h.2.2.2.1 bt : Int), (64 * dw + n0 + 4096 * dh + 262144 * scl + 536870912 * i0), (by omega), (by omega), (by omega), (by omega), (by omega), (by omega), hix67, Or.inr ⟨rfl, Or.inr (⟨rfl, (by omega), (by omega), (by omega), (by omega), (by omega)⟩), (by omega), (by dsimp only; omega), (by dsimp only; omega), (by omega), (by omega)⟩⟩
        · refine gy_icF rfl (by decide) (by decide) (by omega) (by omega) hc26 ?_
          have hl69 : 1024 ≤ h.2.2.2.1 bt ∧ h.2.2.2.1 bt ≤ 1000000 := gJ.rowl (G := gGG) hS.1 tbt rfl
          have hrw70 : gRn 1024 ty 59 (gVp S.1.2.1 a b v) h := gVp.n (by omega) xr2
          have hxr71 : gXr ty (eQ1 S a b v) h := ⟨xr1, hrw70, xr3, xr4, xr5, xr6, xr7⟩
          have hix72 : gIx ty x ld (h.2.2.2.1 bt : Int) (64 * dw + n0 + 4096 * dh + 262144 * scl + 536870912 * i0) (eQ1 S a b v) h := ⟨pic, b0, b1, b2, dr, sk, bt, cl, n0, c0, i0, dw, dh, scl, ⟨tx, tdr, tsk, tbt⟩, ⟨ex2, ex3, ex4, ex0⟩, hpc, htc, ⟨en0, by omega, by omega⟩, ⟨eiv, by omega, by omega⟩, ⟨ec0, by omega, by omega⟩, ⟨by omega, by omega⟩, hrr, hrw, ⟨edw, by omega, by omega⟩, ⟨edh, by omega, by omega⟩, by omega, rfl, hxr71, ⟨hsw, hc0⟩, htz, tcl, ex9, ⟨ecl, by omega, by omega⟩⟩
          have G73 : gSg [] [] [55001, 55002, 59999] ty h ty h := gSg.ss G0 hS (by decide)
          exact gz_end (I := .new 84) (len := 3) rfl (Or.inr (by decide)) ⟨ty, G73, ld, (h.2.2.2.1 bt : Int), (64 * dw + n0 + 4096 * dh + 262144 * scl + 536870912 * i0), (by omega), (by omega), (by omega), (by omega), (by omega), (by omega), hix72, Or.inr ⟨rfl, Or.inl ⟨rfl, (by omega)⟩, (by omega), (by dsimp only; omega), (by dsimp only; omega), (by omega), (by omega)⟩⟩
set_option maxRecDepth 20000 in
set_option maxHeartbeats 4000000 in
theorem cl_DctFilter_scan (d : Nat) {ty : Nat → Nat} {h : gH} (hJ : gJ rT 1027 ty h) (x : Nat) (tx : ty x = 50) (a : Int) (ra : (-2147483648) ≤ a ∧ a ≤ 2147483647) (b : Int) (rb : (-2147483648) ≤ b ∧ b ≤ 2147483647) (t : Int) (rt : (-2147483648) ≤ t ∧ t ≤ 2147483647) (S : gSS) (ld : Int) (rld : 0 ≤ ld ∧ ld ≤ 192) (lb : Int) (rlb : 1024 ≤ lb ∧ lb ≤ 1000000) (iv : Int) (riv : 0 ≤ iv ∧ iv ≤ 54223962112) (uq : gUq ty) (hyix : gIx ty x ld lb iv S h) : gz gPP gGG gcn (d + 3) gt61 0 (gent [.ref x, .int (zi a), .int (zi b), .int (zi t)] 4) [] h (fun q _ => ∃ ty9 : Nat → Nat, gSg [] [] [55008, 60999, 61999, 62999, 63999, 64999] ty h ty9 q.2.2 ∧ ∃ z ld1 lb1 iv1 : Int, gfin gt61 q.1 q.2.1 = some (some (.int (zi z))) ∧ 0 ≤ z ∧ z ≤ 10 ∧ 0 ≤ ld1 ∧ ld1 ≤ 192 ∧ 1024 ≤ lb1 ∧ lb1 ≤ 1000000 ∧ 0 ≤ iv1 ∧ iv1 ≤ 54223962112 ∧ (iv1 / 64 = iv / 64) ∧ (1024 * (((q.2.2.1 : Int) - h.1) - 31 - 2 * (ld1 - ld)) ≤ lb1 - lb) ∧ (((q.2.2.2.1 : Int) - h.2.1) ≤ 4303 + 12480 * (ld1 - ld) + 2 * (lb1 - lb)) ∧ (ld ≤ ld1) ∧ (lb ≤ lb1) ∧ (gSz S.1.2.2.2.2.2.2 (iv % 64) a b t z (iv1 % 64)) ∧ (gIx ty9 x ld1 lb1 iv1 (eQ2 (iv % 64) S a b t) q.2.2)) := by
  have hS : gSs rT 1027 ty [55008, 60999, 61999, 62999, 63999, 64999] h h := gSs.rf hJ
  have G0 : gSg [] [] [55008, 60999, 61999, 62999, 63999, 64999] ty h ty h := gSg.rf hJ (fun x hx => by cases hx)
  obtain ⟨pic, b0, b1, b2, dr, sk, bt, cl, n0, c0, i0, dw, dh, scl, ⟨_, tdr, tsk, tbt⟩, ⟨ex2, ex3, ex4, ex0⟩, hpc, htc, ⟨en0, rn0⟩, ⟨eiv, ri0⟩, ⟨ec0, rc0⟩, ⟨lc0, llb⟩, hrr, hrw, ⟨edw, rdw⟩, ⟨edh, rdh⟩, hwh, hcd, hxr, ⟨hsw, hc0⟩, htz, tcl, ex9, ⟨ecl, rcl⟩⟩ := hyix
  have tpic := hpc.1.1
  have tb0 := hpc.1.2.1
  have tb1 := hpc.1.2.2.1
  have tb2 := hpc.1.2.2.2
  refine gz_s 1 (pc' := 1) (L' := [some (.ref x), some (.int (zi a)), some (.int (zi b)), some (.int (zi t))]) (S' := [.ref x]) rfl ?_
  refine gs_gtk rfl (by decide) rfl hS.1 tx rfl rfl ex3 ?_
  refine gz_s 3 (pc' := 7) (L' := [some (.ref x), some (.int (zi a)), some (.int (zi b)), some (.int (zi t))]) (S' := [.int (zi t), .int (zi b), .int (zi a), .ref dr]) rfl ?_
  refine gz_call rfl (by decide) rfl (by decide) (by decide) (gcal_of rfl rfl rfl (Nat.le_of_ble_eq_true rfl) (gJ.recv (G := gGG) hS.1 tdr rfl rfl)) (cl_Draft_tellScan _ hS.1 dr tdr a ⟨by omega, by omega⟩ b ⟨by omega, by omega⟩ t ⟨by omega, by omega⟩ n0 en0 ⟨by omega, by omega⟩ S uq htc hxr) (fun q1 _ wq1 => ?_)
  obtain ⟨pq1, oq1, hq1⟩ := q1
  obtain ⟨xq1, zq1, fq1_0, gq1, aq1, bq1, efq1_0, afq1_0, bfq1_0, yq1_0, yq1_1, yq1_2⟩ := wq1
  refine ⟨_, gq1, ?_⟩
  show gz gPP gGG gcn _ _ 10 [some (.ref x), some (.int (zi a)), some (.int (zi b)), some (.int (zi t))] [.int (zi zq1)] hq1 _
  have sq1 : gSs rT 1027 ty [55008, 60999, 61999, 62999, 63999, 64999] h hq1 := gSs.tr hS xq1 (by decide)
  have s2 := (xq1.2.2.2.2.2 x 2 (by rw [tx]; decide)).trans ex2
  have s3 := (xq1.2.2.2.2.2 x 3 (by rw [tx]; decide)).trans ex3
  have s4 := (xq1.2.2.2.2.2 x 4 (by rw [tx]; decide)).trans ex4
  have s5 := (xq1.2.2.2.2.2 sk 0 (by rw [tsk]; decide)).trans ex0
  have s6 := (xq1.2.2.2.2.2 x 0 (by rw [tx]; decide)).trans ex9
  have s7 := (xq1.2.2.2.2.2 dr 3 (by rw [tdr]; decide)).trans eiv
  have s8 := (xq1.2.2.2.2.2 dr 1 (by rw [tdr]; decide)).trans edw
  have s9 := (xq1.2.2.2.2.2 dr 2 (by rw [tdr]; decide)).trans edh
  have s10 := (xq1.2.2.2.2.2 sk 1 (by rw [tsk]; decide)).trans ec0
  have s11 := (xq1.2.2.2.2.2 cl 1 (by rw [tcl]; decide)).trans ecl
  have pr12 := gSW.fr xq1.2 (by decide) hsw
  have pr13 := gPC.fr xq1.2 (by decide) hpc
  have pr14 := gRr.fr xq1.2 (by decide) hrr
  have pr15 := gRw.fr xq1.2 (by decide) hrw
  have k16 := sq1.2.1
  have k16b := sq1.2.2.1
  have hl17 : hq1.2.2.2.1 bt = h.2.2.2.1 bt := congrFun sq1.2.2.2.2.1 bt
  have hl18 : 1024 ≤ hq1.2.2.2.1 bt ∧ hq1.2.2.2.1 bt ≤ 1000000 := gJ.rowl (G := gGG) sq1.1 tbt rfl
  have hsz19 : gSz S.1.2.2.2.2.2.2 (iv % 64) a b t zq1 ((64 * dw + fq1_0 + 4096 * dh + 262144 * scl + 536870912 * i0) % 64) := by
    rw [(by omega : iv % 64 = n0), (by omega : (64 * dw + fq1_0 + 4096 * dh + 262144 * scl + 536870912 * i0) % 64 = fq1_0)]
    exact yq1_1
  have htz20 : eTz fq1_0 (eQ2 n0 S a b t) := by
    have e9 := yq1_1
    by_cases k9 : gSk S.1.2.2.2.2.2.2 n0 a b t
    · rw [eQ2_y k9, (e9.1 k9).2]; exact htz.tell (by omega) k9
    · rw [eQ2_n k9, (e9.2 k9).2]; exact htz
  have htz20b : (eQ2 n0 S a b t).2 = S.2 := by
    by_cases k9 : gSk S.1.2.2.2.2.2.2 n0 a b t
    · rw [eQ2_y k9]; rfl
    · rw [eQ2_n k9]
  have htz20w : gSW ty bt (eQ2 n0 S a b t).2 hq1 := by rw [htz20b]; exact pr12
  have k21 := sq1.2.1
  have k21b := sq1.2.2.1
  have hl22 : hq1.2.2.2.1 bt = h.2.2.2.1 bt := congrFun sq1.2.2.2.2.1 bt
  have hix23 : gIx ty x ld (hq1.2.2.2.1 bt : Int) (64 * dw + fq1_0 + 4096 * dh + 262144 * scl + 536870912 * i0) (eQ2 n0 S a b t) hq1 := ⟨pic, b0, b1, b2, dr, sk, bt, cl, fq1_0, c0, i0, dw, dh, scl, ⟨tx, tdr, tsk, tbt⟩, ⟨s2, s3, s4, s5⟩, pr13, yq1_0, ⟨efq1_0, by omega, by omega⟩, ⟨s7, by omega, by omega⟩, ⟨s10, by omega, by omega⟩, ⟨by omega, by omega⟩, pr14, pr15, ⟨s8, by omega, by omega⟩, ⟨s9, by omega, by omega⟩, by omega, rfl, yq1_2, ⟨htz20w, by rw [htz20b]; exact hc0⟩, htz20, tcl, s6, ⟨s11, by omega, by omega⟩⟩
  have hix24 : gIx ty x ld (hq1.2.2.2.1 bt : Int) (64 * dw + fq1_0 + 4096 * dh + 262144 * scl + 536870912 * i0) (eQ2 (iv % 64) S a b t) hq1 := by rw [(by omega : iv % 64 = n0)]; exact hix23
  have G25 : gSg [] [] [55008, 60999, 61999, 62999, 63999, 64999] ty h ty hq1 := gSg.ss G0 sq1 (by decide)
  exact gz_end (I := .ireturn) (len := 1) rfl (Or.inl rfl) ⟨ty, G25, zq1, ld, (hq1.2.2.2.1 bt : Int), (64 * dw + fq1_0 + 4096 * dh + 262144 * scl + 536870912 * i0), rfl, (by omega), (by omega), (by omega), (by omega), (by omega), (by omega), (by omega), (by omega), (by omega), (by dsimp only; omega), (by dsimp only; omega), (by omega), (by omega), hsz19, hix24⟩
set_option maxRecDepth 20000 in
set_option maxHeartbeats 4000000 in
theorem cl_DctFilter_restart (d : Nat) {ty : Nat → Nat} {h : gH} (hJ : gJ rT 1027 ty h) (x : Nat) (tx : ty x = 50) (n : Int) (rn : (-2147483648) ≤ n ∧ n ≤ 2147483647) (S : gSS) (ld : Int) (rld : 0 ≤ ld ∧ ld ≤ 192) (lb : Int) (rlb : 1024 ≤ lb ∧ lb ≤ 1000000) (iv : Int) (riv : 0 ≤ iv ∧ iv ≤ 54223962112) (uq : gUq ty) (hyix : gIx ty x ld lb iv S h) : gz gPP gGG gcn (d + 0) gt88 0 (gent [.ref x, .int (zi n)] 3) [] h (fun q _ => ∃ ty9 : Nat → Nat, gSg [] [] [55003] ty h ty9 q.2.2 ∧ ∃ ld1 lb1 iv1 : Int, 0 ≤ ld1 ∧ ld1 ≤ 192 ∧ 1024 ≤ lb1 ∧ lb1 ≤ 1000000 ∧ 0 ≤ iv1 ∧ iv1 ≤ 54223962112 ∧ (gIx ty9 x ld1 lb1 iv1 S q.2.2) ∧ ((∃ z : Int, gfin gt88 q.1 q.2.1 = some (some (.int (zi z))) ∧ 0 ≤ z ∧ z ≤ 100 ∧ (0 ≤ n) ∧ (n ≤ 100) ∧ (z = iv / 536870912) ∧ (iv1 = iv % 536870912 + 536870912 * n) ∧ (1024 * (((q.2.2.1 : Int) - h.1) - 31 - 2 * (ld1 - ld)) ≤ lb1 - lb) ∧ (((q.2.2.2.1 : Int) - h.2.1) ≤ 4303 + 12480 * (ld1 - ld) + 2 * (lb1 - lb)) ∧ (ld ≤ ld1) ∧ (lb ≤ lb1)) ∨ (q.2.1 = [] ∧ ((q.1 = 10 ∧ (¬ (0 ≤ n ∧ n ≤ 100)))) ∧ (iv1 = iv) ∧ (1024 * (((q.2.2.1 : Int) - h.1) - 31 - 2 * (ld1 - ld)) ≤ lb1 - lb) ∧ (((q.2.2.2.1 : Int) - h.2.1) ≤ 4303 + 12480 * (ld1 - ld) + 2 * (lb1 - lb)) ∧ (ld ≤ ld1) ∧ (lb ≤ lb1)))) := by
  have hS : gSs rT 1027 ty [55003] h h := gSs.rf hJ
  have G0 : gSg [] [] [55003] ty h ty h := gSg.rf hJ (fun x hx => by cases hx)
  obtain ⟨pic, b0, b1, b2, dr, sk, bt, cl, n0, c0, i0, dw, dh, scl, ⟨_, tdr, tsk, tbt⟩, ⟨ex2, ex3, ex4, ex0⟩, hpc, htc, ⟨en0, rn0⟩, ⟨eiv, ri0⟩, ⟨ec0, rc0⟩, ⟨lc0, llb⟩, hrr, hrw, ⟨edw, rdw⟩, ⟨edh, rdh⟩, hwh, hcd, hxr, ⟨hsw, hc0⟩, htz, tcl, ex9, ⟨ecl, rcl⟩⟩ := hyix
  have tpic := hpc.1.1
  have tb0 := hpc.1.2.1
  have tb1 := hpc.1.2.2.1
  have tb2 := hpc.1.2.2.2
  refine gz_s 1 (pc' := 1) (L' := [some (.ref x), some (.int (zi n)), none]) (S' := [.int (zi n)]) rfl ?_
  by_cases hc1 : (n : Int) < 0
  · refine gy_ifT (pc' := 10) rfl (by decide) (by decide) (by omega) hc1 ?_
    have hl2 : 1024 ≤ h.2.2.2.1 bt ∧ h.2.2.2.1 bt ≤ 1000000 := gJ.rowl (G := gGG) hS.1 tbt rfl
    have hix3 : gIx ty x ld (h.2.2.2.1 bt : Int) (64 * dw + n0 + 4096 * dh + 262144 * scl + 536870912 * i0) S h := ⟨pic, b0, b1, b2, dr, sk, bt, cl, n0, c0, i0, dw, dh, scl, ⟨tx, tdr, tsk, tbt⟩, ⟨ex2, ex3, ex4, ex0⟩, hpc, htc, ⟨en0, by omega, by omega⟩, ⟨eiv, by omega, by omega⟩, ⟨ec0, by omega, by omega⟩, ⟨by omega, by omega⟩, hrr, hrw, ⟨edw, by omega, by omega⟩, ⟨edh, by omega, by omega⟩, by omega, rfl, hxr, ⟨hsw, hc0⟩, htz, tcl, ex9, ⟨ecl, by omega, by omega⟩⟩
    have G4 : gSg [] [] [55003] ty h ty h := gSg.ss G0 hS (by decide)
    exact gz_end (I := .new 134) (len := 3) rfl (Or.inr (by decide)) ⟨ty, G4, ld, (h.2.2.2.1 bt : Int), (64 * dw + n0 + 4096 * dh + 262144 * scl + 536870912 * i0), (by omega), (by omega), (by omega), (by omega), (by omega), (by omega), hix3, Or.inr ⟨rfl, ⟨rfl, (by omega)⟩, (by omega), (by dsimp only; omega), (by dsimp only; omega), (by omega), (by omega)⟩⟩
  · refine gy_ifF rfl (by decide) (by decide) (by omega) hc1 ?_
    refine gz_s 2 (pc' := 7) (L' := [some (.ref x), some (.int (zi n)), none]) (S' := [.int (zi 100), .int (zi n)]) rfl ?_
    by_cases hc5 : (n : Int) ≤ 100
    · refine gy_icT (pc' := 20) rfl (by decide) (by decide) (by omega) (by omega) hc5 ?_
      refine gz_s 1 (pc' := 21) (L' := [some (.ref x), some (.int (zi n)), none]) (S' := [.ref x]) rfl ?_
      refine gs_gtk rfl (by decide) rfl hS.1 tx rfl rfl ex3 ?_
      refine gs_gtk rfl (by decide) rfl hS.1 tdr rfl rfl eiv ?_
      refine gz_s 2 (pc' := 29) (L' := [some (.ref x), some (.int (zi n)), some (.int (zi i0))]) (S' := [.ref x]) rfl ?_
      refine gs_gtk rfl (by decide) rfl hS.1 tx rfl rfl ex3 ?_
      refine gz_s 1 (pc' := 33) (L' := [some (.ref x), some (.int (zi n)), some (.int (zi i0))]) (S' := [.int (zi n), .ref dr]) rfl ?_
      refine gs_put rfl (by decide) rfl hS tdr rfl rfl rfl rfl (Or.inl rfl) (by decide) (by omega) (by omega) (fun h6 sh6 eh6 fh6 => ?_)
      have pr7 := gXr.pt fh6 tdr (by decide) hxr
      have pr8 := gSW.pt fh6 tdr (by decide) hsw
      have pr9 := gPC.pk fh6 (sh6.2.2.2.2.1.trans hS.2.2.2.2.1.symm) tdr (by decide) hpc
      have pr10 := gTc.pt fh6 tdr (by decide) htc
      have pr11 := gRr.pk fh6 (sh6.2.2.2.2.1.trans hS.2.2.2.2.1.symm) tdr (by decide) hrr
      have pr12 := gRw.pk fh6 (sh6.2.2.2.2.1.trans hS.2.2.2.2.1.symm) tdr (by decide) hrw
      have s13 := (fh6 x 2 (fun q => absurd q.2 (by decide))).trans ex2
      have s14 := (fh6 x 3 (fun q => absurd (((tx).symm.trans (congrArg ty q.1)).trans tdr) (by decide))).trans ex3
      have s15 := (fh6 x 4 (fun q => absurd q.2 (by decide))).trans ex4
      have s16 := (fh6 sk 0 (fun q => absurd q.2 (by decide))).trans ex0
      have s17 := (fh6 x 0 (fun q => absurd q.2 (by decide))).trans ex9
      have s18 := (fh6 dr 8 (fun q => absurd q.2 (by decide))).trans en0
      have s19 := (fh6 dr 1 (fun q => absurd q.2 (by decide))).trans edw
      have s20 := (fh6 dr 2 (fun q => absurd q.2 (by decide))).trans edh
      have s21 := (fh6 sk 1 (fun q => absurd q.2 (by decide))).trans ec0
      have s22 := (fh6 cl 1 (fun q => absurd q.2 (by decide))).trans ecl
      refine gz_s 1 (pc' := 37) (L' := [some (.ref x), some (.int (zi n)), some (.int (zi i0))]) (S' := [.int (zi i0)]) rfl ?_
      have k23 := sh6.2.1
      have k23b := sh6.2.2.1
      have hl24 : h6.2.2.2.1 bt = h.2.2.2.1 bt := congrFun sh6.2.2.2.2.1 bt
      have hl25 : 1024 ≤ h6.2.2.2.1 bt ∧ h6.2.2.2.1 bt ≤ 1000000 := gJ.rowl (G := gGG) sh6.1 tbt rfl
      have k26 := sh6.2.1
      have k26b := sh6.2.2.1
      have hl27 : h6.2.2.2.1 bt = h.2.2.2.1 bt := congrFun sh6.2.2.2.2.1 bt
      have hix28 : gIx ty x ld (h6.2.2.2.1 bt : Int) (64 * dw + n0 + 4096 * dh + 262144 * scl + 536870912 * n) S h6 := ⟨pic, b0, b1, b2, dr, sk, bt, cl, n0, c0, n, dw, dh, scl, ⟨tx, tdr, tsk, tbt⟩, ⟨s13, s14, s15, s16⟩, pr9, pr10, ⟨s18, by omega, by omega⟩, ⟨eh6, by omega, by omega⟩, ⟨s21, by omega, by omega⟩, ⟨by omega, by omega⟩, pr11, pr12, ⟨s19, by omega, by omega⟩, ⟨s20, by omega, by omega⟩, by omega, rfl, pr7, ⟨pr8, hc0⟩, htz, tcl, s17, ⟨s22, by omega, by omega⟩⟩
      have G29 : gSg [] [] [55003] ty h ty h6 := gSg.ss G0 sh6 (by decide)
      exact gz_end (I := .ireturn) (len := 1) rfl (Or.inl rfl) ⟨ty, G29, ld, (h6.2.2.2.1 bt : Int), (64 * dw + n0 + 4096 * dh + 262144 * scl + 536870912 * n), (by omega), (by omega), (by omega), (by omega), (by omega), (by omega), hix28, Or.inl ⟨i0, rfl, (by omega), (by omega), (by omega), (by omega), (by omega), (by omega), (by dsimp only; omega), (by dsimp only; omega), (by omega), (by omega)⟩⟩
    · refine gy_icF rfl (by decide) (by decide) (by omega) (by omega) hc5 ?_
      have hl30 : 1024 ≤ h.2.2.2.1 bt ∧ h.2.2.2.1 bt ≤ 1000000 := gJ.rowl (G := gGG) hS.1 tbt rfl
      have hix31 : gIx ty x ld (h.2.2.2.1 bt : Int) (64 * dw + n0 + 4096 * dh + 262144 * scl + 536870912 * i0) S h := ⟨pic, b0, b1, b2, dr, sk, bt, cl, n0, c0, i0, dw, dh, scl, ⟨tx, tdr, tsk, tbt⟩, ⟨ex2, ex3, ex4, ex0⟩, hpc, htc, ⟨en0, by omega, by omega⟩, ⟨eiv, by omega, by omega⟩, ⟨ec0, by omega, by omega⟩, ⟨by omega, by omega⟩, hrr, hrw, ⟨edw, by omega, by omega⟩, ⟨edh, by omega, by omega⟩, by omega, rfl, hxr, ⟨hsw, hc0⟩, htz, tcl, ex9, ⟨ecl, by omega, by omega⟩⟩
      have G32 : gSg [] [] [55003] ty h ty h := gSg.ss G0 hS (by decide)
      exact gz_end (I := .new 134) (len := 3) rfl (Or.inr (by decide)) ⟨ty, G32, ld, (h.2.2.2.1 bt : Int), (64 * dw + n0 + 4096 * dh + 262144 * scl + 536870912 * i0), (by omega), (by omega), (by omega), (by omega), (by omega), (by omega), hix31, Or.inr ⟨rfl, ⟨rfl, (by omega)⟩, (by omega), (by dsimp only; omega), (by dsimp only; omega), (by omega), (by omega)⟩⟩
set_option maxRecDepth 20000 in
set_option maxHeartbeats 4000000 in
theorem cl_DctFilter_octet (d : Nat) {ty : Nat → Nat} {h : gH} (hJ : gJ rT 1027 ty h) (x : Nat) (tx : ty x = 50) (i : Int) (ri : (-2147483648) ≤ i ∧ i ≤ 2147483647) (S : gSS) (ld : Int) (rld : 0 ≤ ld ∧ ld ≤ 192) (lb : Int) (rlb : 1024 ≤ lb ∧ lb ≤ 1000000) (iv : Int) (riv : 0 ≤ iv ∧ iv ≤ 54223962112) (uq : gUq ty) (hyix : gIx ty x ld lb iv S h) : gz gPP gGG gcn (d + 0) gt129 0 (gent [.ref x, .int (zi i)] 2) [] h (fun q _ => ∃ ty9 : Nat → Nat, gSg [] [] [] ty h ty9 q.2.2 ∧ ∃ ld1 lb1 iv1 : Int, 0 ≤ ld1 ∧ ld1 ≤ 192 ∧ 1024 ≤ lb1 ∧ lb1 ≤ 1000000 ∧ 0 ≤ iv1 ∧ iv1 ≤ 54223962112 ∧ (gIx ty9 x ld1 lb1 iv1 S q.2.2) ∧ ((∃ z : Int, gfin gt129 q.1 q.2.1 = some (some (.int (zi z))) ∧ (-128) ≤ z ∧ z ≤ 127 ∧ (0 ≤ i) ∧ (i < S.2.1) ∧ (z = eeS (S.2.2.2.2 i.toNat)) ∧ (iv1 = iv) ∧ (1024 * (((q.2.2.1 : Int) - h.1) - 31 - 2 * (ld1 - ld)) ≤ lb1 - lb) ∧ (((q.2.2.2.1 : Int) - h.2.1) ≤ 4303 + 12480 * (ld1 - ld) + 2 * (lb1 - lb)) ∧ (ld ≤ ld1) ∧ (lb ≤ lb1)) ∨ (q.2.1 = [] ∧ ((q.1 = 15 ∧ (¬ (0 ≤ i ∧ i < S.2.1)))) ∧ (iv1 = iv) ∧ (1024 * (((q.2.2.1 : Int) - h.1) - 31 - 2 * (ld1 - ld)) ≤ lb1 - lb) ∧ (((q.2.2.2.1 : Int) - h.2.1) ≤ 4303 + 12480 * (ld1 - ld) + 2 * (lb1 - lb)) ∧ (ld ≤ ld1) ∧ (lb ≤ lb1)))) := by
  have hS : gSs rT 1027 ty [] h h := gSs.rf hJ
  have G0 : gSg [] [] [] ty h ty h := gSg.rf hJ (fun x hx => by cases hx)
  obtain ⟨pic, b0, b1, b2, dr, sk, bt, cl, n0, c0, i0, dw, dh, scl, ⟨_, tdr, tsk, tbt⟩, ⟨ex2, ex3, ex4, ex0⟩, hpc, htc, ⟨en0, rn0⟩, ⟨eiv, ri0⟩, ⟨ec0, rc0⟩, ⟨lc0, llb⟩, hrr, hrw, ⟨edw, rdw⟩, ⟨edh, rdh⟩, hwh, hcd, hxr, ⟨hsw, hc0⟩, htz, tcl, ex9, ⟨ecl, rcl⟩⟩ := hyix
  have tpic := hpc.1.1
  have tb0 := hpc.1.2.1
  have tb1 := hpc.1.2.2.1
  have tb2 := hpc.1.2.2.2
  refine gz_s 1 (pc' := 1) (L' := [some (.ref x), some (.int (zi i))]) (S' := [.int (zi i)]) rfl ?_
  by_cases hc1 : (i : Int) < 0
  · refine gy_ifT (pc' := 15) rfl (by decide) (by decide) (by omega) hc1 ?_
    have hl2 : 1024 ≤ h.2.2.2.1 bt ∧ h.2.2.2.1 bt ≤ 1000000 := gJ.rowl (G := gGG) hS.1 tbt rfl
    have hix3 : gIx ty x ld (h.2.2.2.1 bt : Int) (64 * dw + n0 + 4096 * dh + 262144 * scl + 536870912 * i0) S h := ⟨pic, b0, b1, b2, dr, sk, bt, cl, n0, c0, i0, dw, dh, scl, ⟨tx, tdr, tsk, tbt⟩, ⟨ex2, ex3, ex4, ex0⟩, hpc, htc, ⟨en0, by omega, by omega⟩, ⟨eiv, by omega, by omega⟩, ⟨ec0, by omega, by omega⟩, ⟨by omega, by omega⟩, hrr, hrw, ⟨edw, by omega, by omega⟩, ⟨edh, by omega, by omega⟩, by omega, rfl, hxr, ⟨hsw, hc0⟩, htz, tcl, ex9, ⟨ecl, by omega, by omega⟩⟩
    have G4 : gSg [] [] [] ty h ty h := gSg.ss G0 hS (by decide)
    exact gz_end (I := .new 108) (len := 3) rfl (Or.inr (by decide)) ⟨ty, G4, ld, (h.2.2.2.1 bt : Int), (64 * dw + n0 + 4096 * dh + 262144 * scl + 536870912 * i0), (by omega), (by omega), (by omega), (by omega), (by omega), (by omega), hix3, Or.inr ⟨rfl, ⟨rfl, (by omega)⟩, (by omega), (by dsimp only; omega), (by dsimp only; omega), (by omega), (by omega)⟩⟩
  · refine gy_ifF rfl (by decide) (by decide) (by omega) hc1 ?_
    refine gz_s 2 (pc' := 6) (L' := [some (.ref x), some (.int (zi i))]) (S' := [.ref x, .int (zi i)]) rfl ?_
    refine gs_gtk rfl (by decide) rfl hS.1 tx rfl rfl ex4 ?_
    refine gs_gtk rfl (by decide) rfl hS.1 tsk rfl rfl ec0 ?_
    by_cases hc5 : (i : Int) < c0
    · refine gy_icT (pc' := 25) rfl (by decide) (by decide) (by omega) (by omega) hc5 ?_
      refine gz_s 1 (pc' := 26) (L' := [some (.ref x), some (.int (zi i))]) (S' := [.ref x]) rfl ?_
      refine gs_gtk rfl (by decide) rfl hS.1 tx rfl rfl ex4 ?_
      refine gs_gtk rfl (by decide) rfl hS.1 tsk rfl rfl ex0 ?_
      refine gz_s 1 (pc' := 33) (L' := [some (.ref x), some (.int (zi i))]) (S' := [.int (zi i), .ref bt]) rfl ?_
      have hl6 : 1024 ≤ h.2.2.2.1 bt ∧ h.2.2.2.1 bt ≤ 1000000 := gJ.rowl (G := gGG) hS.1 tbt rfl
      have hl7 : h.2.2.2.1 bt = h.2.2.2.1 bt := congrFun hS.2.2.2.2.1 bt
      refine gs_bald rfl (by decide) hS.1 tbt rfl rfl (Or.inl rfl) (by decide) (fun _ => rfl) (by omega) (by omega) (fun z8 ez8 az8 bz8 => ?_)
      have hoc := gSW.rd (i := i) (z := z8) hsw ez8 (by omega) (by omega) (by omega)
      have hl9 : 1024 ≤ h.2.2.2.1 bt ∧ h.2.2.2.1 bt ≤ 1000000 := gJ.rowl (G := gGG) hS.1 tbt rfl
      have hix10 : gIx ty x ld (h.2.2.2.1 bt : Int) (64 * dw + n0 + 4096 * dh + 262144 * scl + 536870912 * i0) S h := ⟨pic, b0, b1, b2, dr, sk, bt, cl, n0, c0, i0, dw, dh, scl, ⟨tx, tdr, tsk, tbt⟩, ⟨ex2, ex3, ex4, ex0⟩, hpc, htc, ⟨en0, by omega, by omega⟩, ⟨eiv, by omega, by omega⟩, ⟨ec0, by omega, by omega⟩, ⟨by omega, by omega⟩, hrr, hrw, ⟨edw, by omega, by omega⟩, ⟨edh, by omega, by omega⟩, by omega, rfl, hxr, ⟨hsw, hc0⟩, htz, tcl, ex9, ⟨ecl, by omega, by omega⟩⟩
      have G11 : gSg [] [] [] ty h ty h := gSg.ss G0 hS (by decide)
      exact gz_end (I := .ireturn) (len := 1) rfl (Or.inl rfl) ⟨ty, G11, ld, (h.2.2.2.1 bt : Int), (64 * dw + n0 + 4096 * dh + 262144 * scl + 536870912 * i0), (by omega), (by omega), (by omega), (by omega), (by omega), (by omega), hix10, Or.inl ⟨z8, (gfin_b rfl rfl (zi_in8 (by omega) (by omega))), (by omega), (by omega), (by omega), (by omega), (by omega), (by omega), (by dsimp only; omega), (by dsimp only; omega), (by omega), (by omega)⟩⟩
    · refine gy_icF rfl (by decide) (by decide) (by omega) (by omega) hc5 ?_
      have hl12 : 1024 ≤ h.2.2.2.1 bt ∧ h.2.2.2.1 bt ≤ 1000000 := gJ.rowl (G := gGG) hS.1 tbt rfl
      have hix13 : gIx ty x ld (h.2.2.2.1 bt : Int) (64 * dw + n0 + 4096 * dh + 262144 * scl + 536870912 * i0) S h := ⟨pic, b0, b1, b2, dr, sk, bt, cl, n0, c0, i0, dw, dh, scl, ⟨tx, tdr, tsk, tbt⟩, ⟨ex2, ex3, ex4, ex0⟩, hpc, htc, ⟨en0, by omega, by omega⟩, ⟨eiv, by omega, by omega⟩, ⟨ec0, by omega, by omega⟩, ⟨by omega, by omega⟩, hrr, hrw, ⟨edw, by omega, by omega⟩, ⟨edh, by omega, by omega⟩, by omega, rfl, hxr, ⟨hsw, hc0⟩, htz, tcl, ex9, ⟨ecl, by omega, by omega⟩⟩
      have G14 : gSg [] [] [] ty h ty h := gSg.ss G0 hS (by decide)
      exact gz_end (I := .new 108) (len := 3) rfl (Or.inr (by decide)) ⟨ty, G14, ld, (h.2.2.2.1 bt : Int), (64 * dw + n0 + 4096 * dh + 262144 * scl + 536870912 * i0), (by omega), (by omega), (by omega), (by omega), (by omega), (by omega), hix13, Or.inr ⟨rfl, ⟨rfl, (by omega)⟩, (by omega), (by dsimp only; omega), (by dsimp only; omega), (by omega), (by omega)⟩⟩
set_option maxRecDepth 20000 in
set_option maxHeartbeats 4000000 in
theorem cl_DctFilter_take (d : Nat) {ty : Nat → Nat} {h : gH} (hJ : gJ rT 1027 ty h) (x : Nat) (tx : ty x = 50) (S : gSS) (ld : Int) (rld : 0 ≤ ld ∧ ld ≤ 192) (lb : Int) (rlb : 1024 ≤ lb ∧ lb ≤ 1000000) (iv : Int) (riv : 0 ≤ iv ∧ iv ≤ 54223962112) (uq : gUq ty) (hyix : gIx ty x ld lb iv S h) : gz gPP gGG gcn (d + 1) gt67 0 (gent [.ref x] 2) [] h (fun q _ => ∃ ty9 : Nat → Nat, gSg [] [] [51001, 52999] ty h ty9 q.2.2 ∧ ∃ z ld1 lb1 iv1 : Int, gfin gt67 q.1 q.2.1 = some (some (.int (zi z))) ∧ 0 ≤ z ∧ z ≤ 2000 ∧ 0 ≤ ld1 ∧ ld1 ≤ 192 ∧ 1024 ≤ lb1 ∧ lb1 ≤ 1000000 ∧ 0 ≤ iv1 ∧ iv1 ≤ 54223962112 ∧ (z = if S.2.1 < 2000 then S.2.1 else 2000) ∧ (iv1 = iv - 262144 * (iv / 262144 % 2048) + 262144 * (if S.2.1 < 2000 then S.2.1 else 2000)) ∧ (1024 * (((q.2.2.1 : Int) - h.1) - 31 - 2 * (ld1 - ld)) ≤ lb1 - lb) ∧ (((q.2.2.2.1 : Int) - h.2.1) ≤ 4303 + 12480 * (ld1 - ld) + 2 * (lb1 - lb)) ∧ (ld ≤ ld1) ∧ (lb ≤ lb1) ∧ (gIx ty9 x ld1 lb1 iv1 S q.2.2)) := by
  have hS : gSs rT 1027 ty [51001, 52999] h h := gSs.rf hJ
  have G0 : gSg [] [] [51001, 52999] ty h ty h := gSg.rf hJ (fun x hx => by cases hx)
  obtain ⟨pic, b0, b1, b2, dr, sk, bt, cl, n0, c0, i0, dw, dh, scl, ⟨_, tdr, tsk, tbt⟩, ⟨ex2, ex3, ex4, ex0⟩, hpc, htc, ⟨en0, rn0⟩, ⟨eiv, ri0⟩, ⟨ec0, rc0⟩, ⟨lc0, llb⟩, hrr, hrw, ⟨edw, rdw⟩, ⟨edh, rdh⟩, hwh, hcd, hxr, ⟨hsw, hc0⟩, htz, tcl, ex9, ⟨ecl, rcl⟩⟩ := hyix
  have tpic := hpc.1.1
  have tb0 := hpc.1.2.1
  have tb1 := hpc.1.2.2.1
  have tb2 := hpc.1.2.2.2
  refine gz_s 1 (pc' := 1) (L' := [some (.ref x), none]) (S' := [.ref x]) rfl ?_
  refine gs_gtk rfl (by decide) rfl hS.1 tx rfl rfl ex4 ?_
  refine gs_gtk rfl (by decide) rfl hS.1 tsk rfl rfl ec0 ?_
  refine gz_s 1 (pc' := 10) (L' := [some (.ref x), none]) (S' := [.int (zi 2000), .int (zi c0)]) rfl ?_
  refine gz_call rfl (by decide) rfl (by decide) (by decide) (gcal_of rfl rfl rfl (Nat.le_of_ble_eq_true rfl) rfl) (cl_Math_min _ hS.1 c0 ⟨by omega, by omega⟩ 2000 ⟨by omega, by omega⟩ ) (fun q1 _ wq1 => ?_)
  obtain ⟨pq1, oq1, hq1⟩ := q1
  obtain ⟨xq1, zq1, gq1, aq1, bq1, uq1_0, uq1_1, uq1_2⟩ := wq1
  refine ⟨_, gq1, ?_⟩
  show gz gPP gGG gcn _ _ 13 [some (.ref x), none] [.int (zi zq1)] hq1 _
  have sq1 : gSs rT 1027 ty [51001, 52999] h hq1 := gSs.tr hS xq1 (by decide)
  have s2 := (xq1.2.2.2.2.2 x 2 (by rw [tx]; decide)).trans ex2
  have s3 := (xq1.2.2.2.2.2 x 3 (by rw [tx]; decide)).trans ex3
  have s4 := (xq1.2.2.2.2.2 x 4 (by rw [tx]; decide)).trans ex4
  have s5 := (xq1.2.2.2.2.2 sk 0 (by rw [tsk]; decide)).trans ex0
  have s6 := (xq1.2.2.2.2.2 x 0 (by rw [tx]; decide)).trans ex9
  have s7 := (xq1.2.2.2.2.2 dr 8 (by rw [tdr]; decide)).trans en0
  have s8 := (xq1.2.2.2.2.2 dr 3 (by rw [tdr]; decide)).trans eiv
  have s9 := (xq1.2.2.2.2.2 dr 1 (by rw [tdr]; decide)).trans edw
  have s10 := (xq1.2.2.2.2.2 dr 2 (by rw [tdr]; decide)).trans edh
  have s11 := (xq1.2.2.2.2.2 sk 1 (by rw [tsk]; decide)).trans ec0
  have s12 := (xq1.2.2.2.2.2 cl 1 (by rw [tcl]; decide)).trans ecl
  have pr13 := gXr.fr xq1.2 (by decide) hxr
  have pr14 := gSW.fr xq1.2 (by decide) hsw
  have pr15 := gPC.fr xq1.2 (by decide) hpc
  have pr16 := gTc.fr xq1.2 (by decide) htc
  have pr17 := gRr.fr xq1.2 (by decide) hrr
  have pr18 := gRw.fr xq1.2 (by decide) hrw
  refine gz_s 2 (pc' := 15) (L' := [some (.ref x), some (.int (zi zq1))]) (S' := [.ref x]) rfl ?_
  refine gs_gtk rfl (by decide) rfl sq1.1 tx rfl rfl s4 ?_
  refine gs_gtk rfl (by decide) rfl sq1.1 tsk rfl rfl s5 ?_
  refine gz_s 2 (pc' := 23) (L' := [some (.ref x), some (.int (zi zq1))]) (S' := [.ref x, .int (zi 0), .ref bt]) rfl ?_
  refine gs_gtk rfl (by decide) rfl sq1.1 tx rfl rfl s6 ?_
  refine gs_gtr rfl (by decide) rfl sq1.1 tcl rfl rfl rfl (fun c19 ec19 tc19 => ?_)
  refine gz_s 2 (pc' := 31) (L' := [some (.ref x), some (.int (zi zq1))]) (S' := [.int (zi zq1), .int (zi 0), .ref c19, .int (zi 0), .ref bt]) rfl ?_
  have k21 := sq1.2.1
  have k21b := sq1.2.2.1
  have hl22 : hq1.2.2.2.1 bt = h.2.2.2.1 bt := congrFun sq1.2.2.2.2.1 bt
  have hl23 : 2000 ≤ hq1.2.2.2.1 c19 ∧ hq1.2.2.2.1 c19 ≤ 2000 := gJ.rowl (G := gGG) sq1.1 tc19 rfl
  have hl24 : 1024 ≤ hq1.2.2.2.1 bt ∧ hq1.2.2.2.1 bt ≤ 1000000 := gJ.rowl (G := gGG) sq1.1 tbt rfl
  refine gs_copy rfl (by decide) (by omega) rfl sq1 tc19 rfl rfl tbt rfl rfl (Or.inr ⟨rfl, rfl⟩) (by decide) (by decide) (fun _ => rfl) (fun _ => rfl) (by decide) (by decide) (by omega) (by omega) (by omega) (by omega) (by omega) (by decide) (fun _ => (by decide : (52999 : Nat) ∈ ([51001, 52999] : List Nat))) (fun h20 sh20 f9h20 => ?_)
  have fh20 : ∀ b j, ¬ (b = c19 ∧ True) → h20.2.2.2.2 b j = hq1.2.2.2.2 b j := fun b j hn => f9h20 b j (fun e => hn ⟨e, trivial⟩)
  have pr25 := gXr.pa fh20 tc19 (by decide) pr13
  have pr26 := gSW.pa fh20 tc19 (by decide) pr14
  have pr27 := gPC.pa fh20 (sh20.2.2.2.2.1.trans sq1.2.2.2.2.1.symm) tc19 (fun _ => (by decide : ¬ (52999 : Nat) ∈ gPCp)) pr15
  have pr28 := gTc.pa fh20 tc19 (by decide) pr16
  have pr29 := gRr.pa fh20 (sh20.2.2.2.2.1.trans sq1.2.2.2.2.1.symm) tc19 (fun _ => (by decide : ¬ (52999 : Nat) ∈ gRrp)) pr17
  have pr30 := gRw.pa fh20 (sh20.2.2.2.2.1.trans sq1.2.2.2.2.1.symm) tc19 (fun _ => (by decide : ¬ (52999 : Nat) ∈ gRwp)) pr18
  have s31 := (fh20 x 2 (fun q => absurd (((tx).symm.trans (congrArg ty q.1)).trans tc19) (by decide))).trans s2
  have s32 := (fh20 x 3 (fun q => absurd (((tx).symm.trans (congrArg ty q.1)).trans tc19) (by decide))).trans s3
  have s33 := (fh20 x 4 (fun q => absurd (((tx).symm.trans (congrArg ty q.1)).trans tc19) (by decide))).trans s4
  have s34 := (fh20 sk 0 (fun q => absurd (((tsk).symm.trans (congrArg ty q.1)).trans tc19) (by decide))).trans s5
  have s35 := (fh20 x 0 (fun q => absurd (((tx).symm.trans (congrArg ty q.1)).trans tc19) (by decide))).trans s6
  have s36 := (fh20 dr 8 (fun q => absurd (((tdr).symm.trans (congrArg ty q.1)).trans tc19) (by decide))).trans s7
  have s37 := (fh20 dr 3 (fun q => absurd (((tdr).symm.trans (congrArg ty q.1)).trans tc19) (by decide))).trans s8
  have s38 := (fh20 dr 1 (fun q => absurd (((tdr).symm.trans (congrArg ty q.1)).trans tc19) (by decide))).trans s9
  have s39 := (fh20 dr 2 (fun q => absurd (((tdr).symm.trans (congrArg ty q.1)).trans tc19) (by decide))).trans s10
  have s40 := (fh20 sk 1 (fun q => absurd (((tsk).symm.trans (congrArg ty q.1)).trans tc19) (by decide))).trans s11
  have s41 := (fh20 cl 1 (fun q => absurd (((tcl).symm.trans (congrArg ty q.1)).trans tc19) (by decide))).trans s12
  have s42 := (fh20 cl 0 (fun q => absurd (((tcl).symm.trans (congrArg ty q.1)).trans tc19) (by decide))).trans ec19
  refine gz_s 1 (pc' := 35) (L' := [some (.ref x), some (.int (zi zq1))]) (S' := [.ref x]) rfl ?_
  refine gs_gtk rfl (by decide) rfl sh20.1 tx rfl rfl s35 ?_
  refine gz_s 1 (pc' := 39) (L' := [some (.ref x), some (.int (zi zq1))]) (S' := [.int (zi zq1), .ref cl]) rfl ?_
  refine gs_put rfl (by decide) rfl sh20 tcl rfl rfl rfl rfl (Or.inl rfl) (by decide) (by omega) (by omega) (fun h43 sh43 eh43 fh43 => ?_)
  have pr44 := gXr.pt fh43 tcl (by decide) pr25
  have pr45 := gSW.pt fh43 tcl (by decide) pr26
  have pr46 := gPC.pk fh43 (sh43.2.2.2.2.1.trans sh20.2.2.2.2.1.symm) tcl (by decide) pr27
  have pr47 := gTc.pt fh43 tcl (by decide) pr28
  have pr48 := gRr.pk fh43 (sh43.2.2.2.2.1.trans sh20.2.2.2.2.1.symm) tcl (by decide) pr29
  have pr49 := gRw.pk fh43 (sh43.2.2.2.2.1.trans sh20.2.2.2.2.1.symm) tcl (by decide) pr30
  have s50 := (fh43 x 2 (fun q => absurd q.2 (by decide))).trans s31
  have s51 := (fh43 x 3 (fun q => absurd q.2 (by decide))).trans s32
  have s52 := (fh43 x 4 (fun q => absurd q.2 (by decide))).trans s33
  have s53 := (fh43 sk 0 (fun q => absurd q.2 (by decide))).trans s34
  have s54 := (fh43 x 0 (fun q => absurd q.2 (by decide))).trans s35
  have s55 := (fh43 dr 8 (fun q => absurd q.2 (by decide))).trans s36
  have s56 := (fh43 dr 3 (fun q => absurd q.2 (by decide))).trans s37
  have s57 := (fh43 dr 1 (fun q => absurd (((tdr).symm.trans (congrArg ty q.1)).trans tcl) (by decide))).trans s38
  have s58 := (fh43 dr 2 (fun q => absurd q.2 (by decide))).trans s39
  have s59 := (fh43 sk 1 (fun q => absurd (((tsk).symm.trans (congrArg ty q.1)).trans tcl) (by decide))).trans s40
  have s60 := (fh43 cl 0 (fun q => absurd q.2 (by decide))).trans s42
  refine gz_s 1 (pc' := 43) (L' := [some (.ref x), some (.int (zi zq1))]) (S' := [.int (zi zq1)]) rfl ?_
  have k61 := sh43.2.1
  have k61b := sh43.2.2.1
  have hl62 : h43.2.2.2.1 bt = h.2.2.2.1 bt := congrFun sh43.2.2.2.2.1 bt
  have hl63 : 1024 ≤ h43.2.2.2.1 bt ∧ h43.2.2.2.1 bt ≤ 1000000 := gJ.rowl (G := gGG) sh43.1 tbt rfl
  have k64 := sh43.2.1
  have k64b := sh43.2.2.1
  have hl65 : h43.2.2.2.1 bt = h.2.2.2.1 bt := congrFun sh43.2.2.2.2.1 bt
  have hix66 : gIx ty x ld (h43.2.2.2.1 bt : Int) (64 * dw + n0 + 4096 * dh + 262144 * zq1 + 536870912 * i0) S h43 := ⟨pic, b0, b1, b2, dr, sk, bt, cl, n0, c0, i0, dw, dh, zq1, ⟨tx, tdr, tsk, tbt⟩, ⟨s50, s51, s52, s53⟩, pr46, pr47, ⟨s55, by omega, by omega⟩, ⟨s56, by omega, by omega⟩, ⟨s59, by omega, by omega⟩, ⟨by omega, by omega⟩, pr48, pr49, ⟨s57, by omega, by omega⟩, ⟨s58, by omega, by omega⟩, by omega, rfl, pr44, ⟨pr45, hc0⟩, htz, tcl, s54, ⟨eh43, by omega, by omega⟩⟩
  have G67 : gSg [] [] [51001, 52999] ty h ty h43 := gSg.ss G0 sh43 (by decide)
  exact gz_end (I := .ireturn) (len := 1) rfl (Or.inl rfl) ⟨ty, G67, zq1, ld, (h43.2.2.2.1 bt : Int), (64 * dw + n0 + 4096 * dh + 262144 * zq1 + 536870912 * i0), rfl, (by omega), (by omega), (by omega), (by omega), (by omega), (by omega), (by omega), (by omega), (by omega), (by omega), (by dsimp only; omega), (by dsimp only; omega), (by omega), (by omega), hix66⟩
set_option maxRecDepth 20000 in
set_option maxHeartbeats 4000000 in
theorem cl_DctFilter_read (d : Nat) {ty : Nat → Nat} {h : gH} (hJ : gJ rT 1027 ty h) (x : Nat) (tx : ty x = 50) (S : gSS) (ld : Int) (rld : 0 ≤ ld ∧ ld ≤ 192) (lb : Int) (rlb : 1024 ≤ lb ∧ lb ≤ 1000000) (iv : Int) (riv : 0 ≤ iv ∧ iv ≤ 54223962112) (uq : gUq ty) (hyix : gIx ty x ld lb iv S h) : gz gPP gGG gcn (d + 8) gt7 0 (gent [.ref x] 2) [] h (fun q _ => ∃ ty9 : Nat → Nat, gSg [65, 66, 67, 68, 69, 70, 101, 102, 103, 112, 113, 200] [] [50005, 51001, 54002, 54003, 54004, 54005, 54006, 54007, 54008, 54009, 54010, 54011, 54012, 54013, 58999, 65003, 66001, 66002, 66003, 66004, 66005, 66010, 66011, 66012, 66013, 66014, 67001, 67002, 67003, 69999, 70999, 82000, 82001, 82002, 82003, 82004, 82005, 82006, 82007, 82008, 82009, 82010, 82011, 83000, 83001, 83002, 83003, 83004, 83005, 83006, 83007, 83008, 83009, 83010, 83011, 84000, 84001, 84002, 84003, 84004, 84005, 84006, 84007, 84008, 84009, 84010, 84011, 102999, 103999, 112999, 113999] ty h ty9 q.2.2 ∧ ∃ z ld1 lb1 iv1 : Int, gfin gt7 q.1 q.2.1 = some (some (.int (zi z))) ∧ (-2147483648) ≤ z ∧ z ≤ 2147483647 ∧ 0 ≤ ld1 ∧ ld1 ≤ 192 ∧ 1024 ≤ lb1 ∧ lb1 ≤ 1000000 ∧ 0 ≤ iv1 ∧ iv1 ≤ 54223962112 ∧ (iv1 = iv - 262144 * (iv / 262144 % 2048)) ∧ (1024 * (((q.2.2.1 : Int) - h.1) - 31 - 2 * (ld1 - ld)) ≤ lb1 - lb) ∧ (((q.2.2.2.1 : Int) - h.2.1) ≤ 4303 + 12480 * (ld1 - ld) + 2 * (lb1 - lb)) ∧ (ld ≤ ld1) ∧ (lb ≤ lb1) ∧ (gIx ty9 x ld1 lb1 iv1 S q.2.2) ∧ gUq ty9) := by
  have hS : gSs rT 1027 ty [50005, 51001, 54002, 54003, 54004, 54005, 54006, 54007, 54008, 54009, 54010, 54011, 54012, 54013, 58999, 65003, 66001, 66002, 66003, 66004, 66005, 66010, 66011, 66012, 66013, 66014, 67001, 67002, 67003, 69999, 70999, 82000, 82001, 82002, 82003, 82004, 82005, 82006, 82007, 82008, 82009, 82010, 82011, 83000, 83001, 83002, 83003, 83004, 83005, 83006, 83007, 83008, 83009, 83010, 83011, 84000, 84001, 84002, 84003, 84004, 84005, 84006, 84007, 84008, 84009, 84010, 84011, 102999, 103999, 112999, 113999] h h := gSs.rf hJ
  have G0 : gSg [65, 66, 67, 68, 69, 70, 101, 102, 103, 112, 113, 200] [] [50005, 51001, 54002, 54003, 54004, 54005, 54006, 54007, 54008, 54009, 54010, 54011, 54012, 54013, 58999, 65003, 66001, 66002, 66003, 66004, 66005, 66010, 66011, 66012, 66013, 66014, 67001, 67002, 67003, 69999, 70999, 82000, 82001, 82002, 82003, 82004, 82005, 82006, 82007, 82008, 82009, 82010, 82011, 83000, 83001, 83002, 83003, 83004, 83005, 83006, 83007, 83008, 83009, 83010, 83011, 84000, 84001, 84002, 84003, 84004, 84005, 84006, 84007, 84008, 84009, 84010, 84011, 102999, 103999, 112999, 113999] ty h ty h := gSg.rf hJ (fun x hx => by cases hx)
  obtain ⟨pic, b0, b1, b2, dr, sk, bt, cl, n0, c0, i0, dw, dh, scl, ⟨_, tdr, tsk, tbt⟩, ⟨ex2, ex3, ex4, ex0⟩, hpc, htc, ⟨en0, rn0⟩, ⟨eiv, ri0⟩, ⟨ec0, rc0⟩, ⟨lc0, llb⟩, hrr, hrw, ⟨edw, rdw⟩, ⟨edh, rdh⟩, hwh, hcd, hxr, ⟨hsw, hc0⟩, htz, tcl, ex9, ⟨ecl, rcl⟩⟩ := hyix
  have tpic := hpc.1.1
  have tb0 := hpc.1.2.1
  have tb1 := hpc.1.2.2.1
  have tb2 := hpc.1.2.2.2
  refine gz_s 1 (pc' := 1) (L' := [some (.ref x), none]) (S' := [.ref x]) rfl ?_
  refine gs_nul rfl (by decide) rfl hS.1 tx rfl rfl rfl (fun ec1 => ?_) (fun c1 ec1 tc1 => ?_)
  · skip
    have no9 := gRr.no hrr ec1
    refine gz_s 2 (pc' := 8) (L' := [some (.ref x), none]) (S' := [.ref x]) rfl ?_
    refine gs_newo rfl (by decide) rfl hS.1 (Nat.le_of_lt (Nat.lt_of_le_of_lt (gJ.cell hS.1 tx rfl).1 (gJ.cell hS.1 tx rfl).2.1)) (fun ty2 h3 c4 g5 tc4 kc4 zc4 nc4 mc4 ec4 dc4 => ?_)
    have mfc4 : h3.2.1 = h.2.1 + 4 := mc4
    have gac4 : h.1 ≤ c4 := by have h8 := G0.2.1; have h9 := hS.2.1; omega
    have nnc4 : 1027 ≤ c4 := by have h8 := (Nat.le_of_lt (Nat.lt_of_le_of_lt (gJ.cell hS.1 tx rfl).1 (gJ.cell hS.1 tx rfl).2.1)); omega
    have llc4 := Nat.lt_of_lt_of_eq (Nat.lt_succ_of_le (Nat.le_of_eq ec4)) nc4.symm
    have G6 : gSg [65, 66, 67, 68, 69, 70, 101, 102, 103, 112, 113, 200] [] [50005, 51001, 54002, 54003, 54004, 54005, 54006, 54007, 54008, 54009, 54010, 54011, 54012, 54013, 58999, 65003, 66001, 66002, 66003, 66004, 66005, 66010, 66011, 66012, 66013, 66014, 67001, 67002, 67003, 69999, 70999, 82000, 82001, 82002, 82003, 82004, 82005, 82006, 82007, 82008, 82009, 82010, 82011, 83000, 83001, 83002, 83003, 83004, 83005, 83006, 83007, 83008, 83009, 83010, 83011, 84000, 84001, 84002, 84003, 84004, 84005, 84006, 84007, 84008, 84009, 84010, 84011, 102999, 103999, 112999, 113999] ty h ty2 h3 := gSg.tr (gSg.ss G0 hS (by decide)) g5 (by decide) (by decide) (fun x hx => by cases hx)
    have t7 : ty2 x = 50 := gSg.typ g5 hS.1 tx rfl
    have t8 : ty2 pic = 54 := gSg.typ g5 hS.1 tpic rfl
    have t9 : ty2 b0 = 82 := gSg.typ g5 hS.1 tb0 rfl
    have t10 : ty2 b1 = 83 := gSg.typ g5 hS.1 tb1 rfl
    have t11 : ty2 b2 = 84 := gSg.typ g5 hS.1 tb2 rfl
    have t12 : ty2 dr = 55 := gSg.typ g5 hS.1 tdr rfl
    have t13 : ty2 sk = 56 := gSg.typ g5 hS.1 tsk rfl
    have t14 : ty2 bt = 114 := gSg.typ g5 hS.1 tbt rfl
    have hl15 : h3.2.2.2.1 bt = h.2.2.2.1 bt := gSg.len g5 hS.1 tbt rfl
    have t16 : ty2 cl = 51 := gSg.typ g5 hS.1 tcl rfl
    have s17 := gSg.at g5 hS.1 tx rfl (by decide) ex2
    have s18 := gSg.at g5 hS.1 tx rfl (by decide) ex3
    have s19 := gSg.at g5 hS.1 tx rfl (by decide) ex4
    have s20 := gSg.at g5 hS.1 tsk rfl (by decide) ex0
    have s21 := gSg.at g5 hS.1 tx rfl (by decide) ex9
    have s22 := gSg.at g5 hS.1 tdr rfl (by decide) en0
    have s23 := gSg.at g5 hS.1 tdr rfl (by decide) eiv
    have s24 := gSg.at g5 hS.1 tdr rfl (by decide) edw
    have s25 := gSg.at g5 hS.1 tdr rfl (by decide) edh
    have s26 := gSg.at g5 hS.1 tsk rfl (by decide) ec0
    have s27 := gSg.at g5 hS.1 tcl rfl (by decide) ecl
    have s28 := gSg.at g5 hS.1 tx rfl (by decide) ec1
    have pr29 := gXr.gr g5 hS.1 (by decide) (by decide) hxr
    have pr30 := gSW.gr g5 hS.1 (by decide) hsw
    have pr31 := gPC.gr g5 hS.1 (by decide) hpc
    have pr32 := gTc.gr g5 hS.1 (by decide) (by decide) htc
    have pr33 := gRr.gr g5 hS.1 (by decide) (by decide) hrr
    have pr34 := gRw.gr g5 hS.1 (by decide) (by decide) hrw
    have pr35 : gNo [65, 66, 67, 68, 69, 70] ty2 := gNo.gr g5 (by decide) (gNo.sub (by decide) no9)
    have uq36 := gSg.uq g5 uq (by decide)
    have sS37 : gSs rT 1027 ty2 [50005, 51001, 54002, 54003, 54004, 54005, 54006, 54007, 54008, 54009, 54010, 54011, 54012, 54013, 58999, 65003, 66001, 66002, 66003, 66004, 66005, 66010, 66011, 66012, 66013, 66014, 67001, 67002, 67003, 69999, 70999, 82000, 82001, 82002, 82003, 82004, 82005, 82006, 82007, 82008, 82009, 82010, 82011, 83000, 83001, 83002, 83003, 83004, 83005, 83006, 83007, 83008, 83009, 83010, 83011, 84000, 84001, 84002, 84003, 84004, 84005, 84006, 84007, 84008, 84009, 84010, 84011, 102999, 103999, 112999, 113999] h3 h3 := gSs.rf g5.1
    refine gz_s 2 (pc' := 13) (L' := [some (.ref x), none]) (S' := [.ref x, .ref c4, .ref c4, .ref x]) rfl ?_
    refine gs_gtk rfl (by decide) rfl sS37.1 t7 rfl rfl s21 ?_
    refine gz_s 1 (pc' := 17) (L' := [some (.ref x), none]) (S' := [.ref x, .ref cl, .ref c4, .ref c4, .ref x]) rfl ?_
    refine gs_gtk rfl (by decide) rfl sS37.1 t7 rfl rfl s17 ?_
    refine gz_call rfl (by decide) rfl (by decide) (by decide) (gcal_of rfl rfl rfl (Nat.le_of_ble_eq_true rfl) rfl) (ct_Reader _ sS37.1 c4 tc4 nnc4 llc4 kc4 zc4 dc4 cl t16 pic t8 pr35 uq36) (fun q38 _ wq38 => ?_)
    obtain ⟨pq38, oq38, hq38⟩ := q38
    obtain ⟨tyq38, xq38, trq38_0, gq38, uq38_0, uq38_1, uqq38⟩ := wq38
    dsimp only at uq38_0 uq38_1
    refine ⟨_, gq38, ?_⟩
    show gz gPP gGG gcn _ _ 23 [some (.ref x), none] [.ref c4, .ref x] hq38 _
    have G39 : gSg [65, 66, 67, 68, 69, 70, 101, 102, 103, 112, 113, 200] [] [50005, 51001, 54002, 54003, 54004, 54005, 54006, 54007, 54008, 54009, 54010, 54011, 54012, 54013, 58999, 65003, 66001, 66002, 66003, 66004, 66005, 66010, 66011, 66012, 66013, 66014, 67001, 67002, 67003, 69999, 70999, 82000, 82001, 82002, 82003, 82004, 82005, 82006, 82007, 82008, 82009, 82010, 82011, 83000, 83001, 83002, 83003, 83004, 83005, 83006, 83007, 83008, 83009, 83010, 83011, 84000, 84001, 84002, 84003, 84004, 84005, 84006, 84007, 84008, 84009, 84010, 84011, 102999, 103999, 112999, 113999] ty h tyq38 hq38 := gSg.tr (gSg.ss G6 sS37 (by decide)) xq38 (by decide) (by decide) (fun x hx => Or.inl (by rw [List.mem_singleton.mp hx]; exact gac4))
    have t40 : tyq38 x = 50 := gSg.typ xq38 sS37.1 t7 rfl
    have t41 : tyq38 pic = 54 := gSg.typ xq38 sS37.1 t8 rfl
    have t42 : tyq38 b0 = 82 := gSg.typ xq38 sS37.1 t9 rfl
    have t43 : tyq38 b1 = 83 := gSg.typ xq38 sS37.1 t10 rfl
    have t44 : tyq38 b2 = 84 := gSg.typ xq38 sS37.1 t11 rfl
    have t45 : tyq38 dr = 55 := gSg.typ xq38 sS37.1 t12 rfl
    have t46 : tyq38 sk = 56 := gSg.typ xq38 sS37.1 t13 rfl
    have t47 : tyq38 bt = 114 := gSg.typ xq38 sS37.1 t14 rfl
    have hl48 : hq38.2.2.2.1 bt = h3.2.2.2.1 bt := gSg.len xq38 sS37.1 t14 rfl
    have t49 : tyq38 cl = 51 := gSg.typ xq38 sS37.1 t16 rfl
    have s50 := gSg.at xq38 sS37.1 t7 rfl (by decide) s17
    have s51 := gSg.at xq38 sS37.1 t7 rfl (by decide) s18
    have s52 := gSg.at xq38 sS37.1 t7 rfl (by decide) s19
    have s53 := gSg.at xq38 sS37.1 t13 rfl (by decide) s20
    have s54 := gSg.at xq38 sS37.1 t7 rfl (by decide) s21
    have s55 := gSg.at xq38 sS37.1 t12 rfl (by decide) s22
    have s56 := gSg.at xq38 sS37.1 t12 rfl (by decide) s23
    have s57 := gSg.at xq38 sS37.1 t12 rfl (by decide) s24
    have s58 := gSg.at xq38 sS37.1 t12 rfl (by decide) s25
    have s59 := gSg.at xq38 sS37.1 t13 rfl (by decide) s26
    have s60 := gSg.at xq38 sS37.1 t16 rfl (by decide) s27
    have s61 := gSg.at xq38 sS37.1 t7 rfl (by decide) s28
    have pr62 := gXr.gr xq38 sS37.1 (by decide) (by decide) pr29
    have pr63 := gSW.gr xq38 sS37.1 (by decide) pr30
    have pr64 := gPC.gr xq38 sS37.1 (by decide) pr31
    have pr65 := gTc.gr xq38 sS37.1 (by decide) (by decide) pr32
    have pr66 := gRw.gr xq38 sS37.1 (by decide) (by decide) pr34
    have sS67 : gSs rT 1027 tyq38 [50005, 51001, 54002, 54003, 54004, 54005, 54006, 54007, 54008, 54009, 54010, 54011, 54012, 54013, 58999, 65003, 66001, 66002, 66003, 66004, 66005, 66010, 66011, 66012, 66013, 66014, 67001, 67002, 67003, 69999, 70999, 82000, 82001, 82002, 82003, 82004, 82005, 82006, 82007, 82008, 82009, 82010, 82011, 83000, 83001, 83002, 83003, 83004, 83005, 83006, 83007, 83008, 83009, 83010, 83011, 84000, 84001, 84002, 84003, 84004, 84005, 84006, 84007, 84008, 84009, 84010, 84011, 102999, 103999, 112999, 113999] hq38 hq38 := gSs.rf xq38.1
    refine gs_ptr (s9 := 0) rfl (by decide) rfl sS67 t40 rfl rfl (Or.inr rfl) rfl (Or.inl rfl) (by decide) trq38_0 (fun h68 sh68 eh68 fh68 => ?_)
    have pr69 := gXr.pt fh68 t40 (by decide) pr62
    have pr70 := gSW.pt fh68 t40 (by decide) pr63
    have pr71 := gPC.pk fh68 (sh68.2.2.2.2.1.trans sS67.2.2.2.2.1.symm) t40 (by decide) pr64
    have pr72 := gTc.pt fh68 t40 (by decide) pr65
    have pr73 := gRw.pk fh68 (sh68.2.2.2.2.1.trans sS67.2.2.2.2.1.symm) t40 (by decide) pr66
    have s74 := (fh68 x 2 (fun q => absurd q.2 (by decide))).trans s50
    have s75 := (fh68 x 3 (fun q => absurd q.2 (by decide))).trans s51
    have s76 := (fh68 x 4 (fun q => absurd q.2 (by decide))).trans s52
    have s77 := (fh68 sk 0 (fun q => absurd q.2 (by decide))).trans s53
    have s78 := (fh68 x 0 (fun q => absurd q.2 (by decide))).trans s54
    have s79 := (fh68 dr 8 (fun q => absurd q.2 (by decide))).trans s55
    have s80 := (fh68 dr 3 (fun q => absurd q.2 (by decide))).trans s56
    have s81 := (fh68 dr 1 (fun q => absurd q.2 (by decide))).trans s57
    have s82 := (fh68 dr 2 (fun q => absurd q.2 (by decide))).trans s58
    have s83 := (fh68 sk 1 (fun q => absurd q.2 (by decide))).trans s59
    have s84 := (fh68 cl 1 (fun q => absurd q.2 (by decide))).trans s60
    refine gz_s 1 (pc' := 27) (L' := [some (.ref x), none]) (S' := [.ref x]) rfl ?_
    refine gs_gtk rfl (by decide) rfl sh68.1 t40 rfl rfl eh68 ?_
    refine gz_s 1 (pc' := 31) (L' := [some (.ref x), none]) (S' := [.ref x, .ref c4]) rfl ?_
    refine gs_gtr rfl (by decide) rfl sh68.1 t40 rfl rfl rfl (fun c85 ec85 tc85 => ?_)
    have k86 := sh68.2.1
    have k86b := sh68.2.2.1
    have hl87 : h68.2.2.2.1 bt = hq38.2.2.2.1 bt := congrFun sh68.2.2.2.2.1 bt
    obtain ⟨c88, ec88, tc88⟩ := gJ.ref (k := 0) (G := gGG) sh68.1 trq38_0 rfl rfl rfl
    have ee89 : cl = c88 := uqq38 cl c88 (t49.trans tc88.symm) (by rw [t49]; decide) (by rw [t49]; decide)
    subst ee89
    obtain ⟨c90, ec90, tc90⟩ := gJ.ref (k := 1) (G := gGG) sh68.1 trq38_0 rfl rfl rfl
    have ee91 : pic = c90 := uqq38 pic c90 (t41.trans tc90.symm) (by rw [t41]; decide) (by rw [t41]; decide)
    subst ee91
    obtain ⟨c92, ec92, tc92⟩ := gJ.ref (k := 0) (G := gGG) sh68.1 t41 rfl rfl rfl
    obtain ⟨c93, ec93, tc93⟩ := gJ.arl (j := 0) (q2 := 82) sh68.1 tc92 rfl rfl rfl (by decide)
    have ee94 : b0 = c93 := uqq38 b0 c93 (t42.trans tc93.symm) (by rw [t42]; decide) (by rw [t42]; decide)
    subst ee94
    obtain ⟨c95, ec95, tc95⟩ := gJ.arl (j := 1) (q2 := 83) sh68.1 tc92 rfl rfl rfl (by decide)
    have ee96 : b1 = c95 := uqq38 b1 c95 (t43.trans tc95.symm) (by rw [t43]; decide) (by rw [t43]; decide)
    subst ee96
    obtain ⟨c97, ec97, tc97⟩ := gJ.arl (j := 2) (q2 := 84) sh68.1 tc92 rfl rfl rfl (by decide)
    have ee98 : b2 = c97 := uqq38 b2 c97 (t44.trans tc97.symm) (by rw [t44]; decide) (by rw [t44]; decide)
    subst ee98
    obtain ⟨c99, ec99, tc99⟩ := gJ.ref (k := 2) (G := gGG) sh68.1 trq38_0 rfl rfl rfl
    refine gz_call rfl (by decide) rfl (by decide) (by decide) (gcal_of rfl rfl rfl (Nat.le_of_ble_eq_true rfl) (gJ.recv (G := gGG) sh68.1 trq38_0 rfl rfl)) (cl_Reader_readPicture _ sh68.1 c4 trq38_0 c85 tc85 cl ec88 t49 pic ec90 t41 c92 ec92 tc92 b0 ec93 t42 b1 ec95 t43 b2 ec97 t44 c99 ec99 tc99 scl s84 ⟨by omega, by omega⟩ ld ⟨by omega, by omega⟩ uqq38 pr71) (fun q100 _ wq100 => ?_)
    obtain ⟨pq100, oq100, hq100⟩ := q100
    obtain ⟨tyq100, xq100, zq100, xq100_0, gq100, aq100, bq100, axq100_0, bxq100_0, uq100_0, uq100_1, uq100_2, yq100_0⟩ := wq100
    dsimp only at uq100_0 uq100_1
    refine ⟨_, gq100, ?_⟩
    show gz gPP gGG gcn _ _ 37 [some (.ref x), none] [.int (zi zq100)] hq100 _
    have G101 : gSg [65, 66, 67, 68, 69, 70, 101, 102, 103, 112, 113, 200] [] [50005, 51001, 54002, 54003, 54004, 54005, 54006, 54007, 54008, 54009, 54010, 54011, 54012, 54013, 58999, 65003, 66001, 66002, 66003, 66004, 66005, 66010, 66011, 66012, 66013, 66014, 67001, 67002, 67003, 69999, 70999, 82000, 82001, 82002, 82003, 82004, 82005, 82006, 82007, 82008, 82009, 82010, 82011, 83000, 83001, 83002, 83003, 83004, 83005, 83006, 83007, 83008, 83009, 83010, 83011, 84000, 84001, 84002, 84003, 84004, 84005, 84006, 84007, 84008, 84009, 84010, 84011, 102999, 103999, 112999, 113999] ty h tyq100 hq100 := gSg.tr (gSg.ss G39 sh68 (by decide)) xq100 (by decide) (by decide) (fun x hx => by cases hx)
    have t102 : tyq100 x = 50 := gSg.typ xq100 sh68.1 t40 rfl
    have t103 : tyq100 pic = 54 := gSg.typ xq100 sh68.1 t41 rfl
    have t104 : tyq100 b0 = 82 := gSg.typ xq100 sh68.1 t42 rfl
    have t105 : tyq100 b1 = 83 := gSg.typ xq100 sh68.1 t43 rfl
    have t106 : tyq100 b2 = 84 := gSg.typ xq100 sh68.1 t44 rfl
    have t107 : tyq100 dr = 55 := gSg.typ xq100 sh68.1 t45 rfl
    have t108 : tyq100 sk = 56 := gSg.typ xq100 sh68.1 t46 rfl
    have t109 : tyq100 bt = 114 := gSg.typ xq100 sh68.1 t47 rfl
    have hl110 : hq100.2.2.2.1 bt = h68.2.2.2.1 bt := gSg.len xq100 sh68.1 t47 rfl
    have t111 : tyq100 cl = 51 := gSg.typ xq100 sh68.1 t49 rfl
    have t112 : tyq100 c4 = 65 := gSg.typ xq100 sh68.1 trq38_0 rfl
    have t113 : tyq100 c85 = 53 := gSg.typ xq100 sh68.1 tc85 rfl
    have t114 : tyq100 c92 = 57 := gSg.typ xq100 sh68.1 tc92 rfl
    have t115 : tyq100 c99 = 66 := gSg.typ xq100 sh68.1 tc99 rfl
    have s116 := gSg.at xq100 sh68.1 t40 rfl (by decide) s74
    have s117 := gSg.at xq100 sh68.1 t40 rfl (by decide) s75
    have s118 := gSg.at xq100 sh68.1 t40 rfl (by decide) s76
    have s119 := gSg.at xq100 sh68.1 t46 rfl (by decide) s77
    have s120 := gSg.at xq100 sh68.1 t40 rfl (by decide) s78
    have s121 := gSg.at xq100 sh68.1 t45 rfl (by decide) s79
    have s122 := gSg.at xq100 sh68.1 t45 rfl (by decide) s80
    have s123 := gSg.at xq100 sh68.1 t45 rfl (by decide) s81
    have s124 := gSg.at xq100 sh68.1 t45 rfl (by decide) s82
    have s125 := gSg.at xq100 sh68.1 t46 rfl (by decide) s83
    have s126 := gSg.at xq100 sh68.1 t49 rfl (by decide) s84
    have s127 := gSg.at xq100 sh68.1 t40 rfl (by decide) eh68
    have s128 := gSg.at xq100 sh68.1 t40 rfl (by decide) ec85
    have s129 := gSg.at xq100 sh68.1 trq38_0 rfl (by decide) ec88
    have s130 := gSg.at xq100 sh68.1 trq38_0 rfl (by decide) ec90
    have s131 := gSg.at xq100 sh68.1 t41 rfl (by decide) ec92
    have s132 := gSg.at xq100 sh68.1 tc92 rfl (by decide) ec93
    have s133 := gSg.at xq100 sh68.1 tc92 rfl (by decide) ec95
    have s134 := gSg.at xq100 sh68.1 tc92 rfl (by decide) ec97
    have s135 := gSg.at xq100 sh68.1 trq38_0 rfl (by decide) ec99
    have pr136 := gXr.gr xq100 sh68.1 (by decide) (by decide) pr69
    have pr137 := gSW.gr xq100 sh68.1 (by decide) pr70
    have pr138 := gTc.gr xq100 sh68.1 (by decide) (by decide) pr72
    have pr139 := gRw.gr xq100 sh68.1 (by decide) (by decide) pr73
    have uq140 := gSg.uq xq100 uqq38 (by decide)
    have sS141 : gSs rT 1027 tyq100 [50005, 51001, 54002, 54003, 54004, 54005, 54006, 54007, 54008, 54009, 54010, 54011, 54012, 54013, 58999, 65003, 66001, 66002, 66003, 66004, 66005, 66010, 66011, 66012, 66013, 66014, 67001, 67002, 67003, 69999, 70999, 82000, 82001, 82002, 82003, 82004, 82005, 82006, 82007, 82008, 82009, 82010, 82011, 83000, 83001, 83002, 83003, 83004, 83005, 83006, 83007, 83008, 83009, 83010, 83011, 84000, 84001, 84002, 84003, 84004, 84005, 84006, 84007, 84008, 84009, 84010, 84011, 102999, 103999, 112999, 113999] hq100 hq100 := gSs.rf xq100.1
    refine gz_s 2 (pc' := 39) (L' := [some (.ref x), some (.int (zi zq100))]) (S' := [.ref x]) rfl ?_
    refine gs_gtk rfl (by decide) rfl sS141.1 t102 rfl rfl s120 ?_
    refine gz_s 1 (pc' := 43) (L' := [some (.ref x), some (.int (zi zq100))]) (S' := [.int (zi 0), .ref cl]) rfl ?_
    refine gs_put rfl (by decide) rfl sS141 t111 rfl rfl rfl rfl (Or.inl rfl) (by decide) (by omega) (by omega) (fun h142 sh142 eh142 fh142 => ?_)
    have pr143 := gXr.pt fh142 t111 (by decide) pr136
    have pr144 := gSW.pt fh142 t111 (by decide) pr137
    have pr145 := gTc.pt fh142 t111 (by decide) pr138
    have pr146 := gRw.pk fh142 (sh142.2.2.2.2.1.trans sS141.2.2.2.2.1.symm) t111 (by decide) pr139
    have pr147 := gPC.pk fh142 (sh142.2.2.2.2.1.trans sS141.2.2.2.2.1.symm) t111 (by decide) yq100_0
    have s148 := (fh142 x 2 (fun q => absurd q.2 (by decide))).trans s116
    have s149 := (fh142 x 3 (fun q => absurd q.2 (by decide))).trans s117
    have s150 := (fh142 x 4 (fun q => absurd q.2 (by decide))).trans s118
    have s151 := (fh142 sk 0 (fun q => absurd q.2 (by decide))).trans s119
    have s152 := (fh142 x 0 (fun q => absurd q.2 (by decide))).trans s120
    have s153 := (fh142 dr 8 (fun q => absurd q.2 (by decide))).trans s121
    have s154 := (fh142 dr 3 (fun q => absurd q.2 (by decide))).trans s122
    have s155 := (fh142 dr 1 (fun q => absurd (((t107).symm.trans (congrArg tyq100 q.1)).trans t111) (by decide))).trans s123
    have s156 := (fh142 dr 2 (fun q => absurd q.2 (by decide))).trans s124
    have s157 := (fh142 sk 1 (fun q => absurd (((t108).symm.trans (congrArg tyq100 q.1)).trans t111) (by decide))).trans s125
    have s158 := (fh142 x 5 (fun q => absurd q.2 (by decide))).trans s127
    have s159 := (fh142 x 1 (fun q => absurd (((t102).symm.trans (congrArg tyq100 q.1)).trans t111) (by decide))).trans s128
    have s160 := (fh142 c4 0 (fun q => absurd q.2 (by decide))).trans s129
    have s161 := (fh142 c4 1 (fun q => absurd (((t112).symm.trans (congrArg tyq100 q.1)).trans t111) (by decide))).trans s130
    have s162 := (fh142 pic 0 (fun q => absurd q.2 (by decide))).trans s131
    have s163 := (fh142 c92 0 (fun q => absurd (((t114).symm.trans (congrArg tyq100 q.1)).trans t111) (by decide))).trans s132
    have s164 := (fh142 c92 1 (fun q => absurd (((t114).symm.trans (congrArg tyq100 q.1)).trans t111) (by decide))).trans s133
    have s165 := (fh142 c92 2 (fun q => absurd (((t114).symm.trans (congrArg tyq100 q.1)).trans t111) (by decide))).trans s134
    have s166 := (fh142 c4 2 (fun q => absurd q.2 (by decide))).trans s135
    refine gz_s 1 (pc' := 47) (L' := [some (.ref x), some (.int (zi zq100))]) (S' := [.int (zi zq100)]) rfl ?_
    have k167 := sh142.2.1
    have k167b := sh142.2.2.1
    have hl168 : h142.2.2.2.1 bt = hq100.2.2.2.1 bt := congrFun sh142.2.2.2.2.1 bt
    have hl169 : 1024 ≤ h142.2.2.2.1 bt ∧ h142.2.2.2.1 bt ≤ 1000000 := gJ.rowl (G := gGG) sh142.1 t109 rfl
    have k170 := sh142.2.1
    have k170b := sh142.2.2.1
    have hl171 : h142.2.2.2.1 bt = hq100.2.2.2.1 bt := congrFun sh142.2.2.2.2.1 bt
    have hix172 : gIx tyq100 x xq100_0 (h142.2.2.2.1 bt : Int) (64 * dw + n0 + 4096 * dh + 262144 * 0 + 536870912 * i0) S h142 := ⟨pic, b0, b1, b2, dr, sk, bt, cl, n0, c0, i0, dw, dh, 0, ⟨t102, t107, t108, t109⟩, ⟨s148, s149, s150, s151⟩, pr147, pr145, ⟨s153, by omega, by omega⟩, ⟨s154, by omega, by omega⟩, ⟨s157, by omega, by omega⟩, ⟨by omega, by omega⟩, ⟨t102, Or.inr ⟨c4, s158, t112⟩⟩, pr146, ⟨s155, by omega, by omega⟩, ⟨s156, by omega, by omega⟩, by omega, rfl, pr143, ⟨pr144, hc0⟩, htz, t111, s152, ⟨eh142, by omega, by omega⟩⟩
    have G173 : gSg [65, 66, 67, 68, 69, 70, 101, 102, 103, 112, 113, 200] [] [50005, 51001, 54002, 54003, 54004, 54005, 54006, 54007, 54008, 54009, 54010, 54011, 54012, 54013, 58999, 65003, 66001, 66002, 66003, 66004, 66005, 66010, 66011, 66012, 66013, 66014, 67001, 67002, 67003, 69999, 70999, 82000, 82001, 82002, 82003, 82004, 82005, 82006, 82007, 82008, 82009, 82010, 82011, 83000, 83001, 83002, 83003, 83004, 83005, 83006, 83007, 83008, 83009, 83010, 83011, 84000, 84001, 84002, 84003, 84004, 84005, 84006, 84007, 84008, 84009, 84010, 84011, 102999, 103999, 112999, 113999] ty h tyq100 h142 := gSg.ss G101 sh142 (by decide)
    exact gz_end (I := .ireturn) (len := 1) rfl (Or.inl rfl) ⟨tyq100, G173, zq100, xq100_0, (h142.2.2.2.1 bt : Int), (64 * dw + n0 + 4096 * dh + 262144 * 0 + 536870912 * i0), rfl, (by omega), (by omega), (by omega), (by omega), (by omega), (by omega), (by omega), (by omega), (by omega), (by dsimp only; omega), (by dsimp only; omega), (by omega), (by omega), hix172, uq140⟩
  · skip
    refine gz_s 2 (pc' := 27) (L' := [some (.ref x), none]) (S' := [.ref x]) rfl ?_
    refine gs_gtk rfl (by decide) rfl hS.1 tx rfl rfl ec1 ?_
    refine gz_s 1 (pc' := 31) (L' := [some (.ref x), none]) (S' := [.ref x, .ref c1]) rfl ?_
    refine gs_gtr rfl (by decide) rfl hS.1 tx rfl rfl rfl (fun c174 ec174 tc174 => ?_)
    obtain ⟨c175, ec175, tc175⟩ := gJ.ref (k := 0) (G := gGG) hS.1 tc1 rfl rfl rfl
    have ee176 : cl = c175 := uq cl c175 (tcl.trans tc175.symm) (by rw [tcl]; decide) (by rw [tcl]; decide)
    subst ee176
    obtain ⟨c177, ec177, tc177⟩ := gJ.ref (k := 1) (G := gGG) hS.1 tc1 rfl rfl rfl
    have ee178 : pic = c177 := uq pic c177 (tpic.trans tc177.symm) (by rw [tpic]; decide) (by rw [tpic]; decide)
    subst ee178
    obtain ⟨c179, ec179, tc179⟩ := gJ.ref (k := 0) (G := gGG) hS.1 tpic rfl rfl rfl
    obtain ⟨c180, ec180, tc180⟩ := gJ.arl (j := 0) (q2 := 82) hS.1 tc179 rfl rfl rfl (by decide)
    have ee181 : b0 = c180 := uq b0 c180 (tb0.trans tc180.symm) (by rw [tb0]; decide) (by rw [tb0]; decide)
    subst ee181
    obtain ⟨c182, ec182, tc182⟩ := gJ.arl (j := 1) (q2 := 83) hS.1 tc179 rfl rfl rfl (by decide)
    have ee183 : b1 = c182 := uq b1 c182 (tb1.trans tc182.symm) (by rw [tb1]; decide) (by rw [tb1]; decide)
    subst ee183
    obtain ⟨c184, ec184, tc184⟩ := gJ.arl (j := 2) (q2 := 84) hS.1 tc179 rfl rfl rfl (by decide)
    have ee185 : b2 = c184 := uq b2 c184 (tb2.trans tc184.symm) (by rw [tb2]; decide) (by rw [tb2]; decide)
    subst ee185
    obtain ⟨c186, ec186, tc186⟩ := gJ.ref (k := 2) (G := gGG) hS.1 tc1 rfl rfl rfl
    refine gz_call rfl (by decide) rfl (by decide) (by decide) (gcal_of rfl rfl rfl (Nat.le_of_ble_eq_true rfl) (gJ.recv (G := gGG) hS.1 tc1 rfl rfl)) (cl_Reader_readPicture _ hS.1 c1 tc1 c174 tc174 cl ec175 tcl pic ec177 tpic c179 ec179 tc179 b0 ec180 tb0 b1 ec182 tb1 b2 ec184 tb2 c186 ec186 tc186 scl ecl ⟨by omega, by omega⟩ ld ⟨by omega, by omega⟩ uq hpc) (fun q187 _ wq187 => ?_)
    obtain ⟨pq187, oq187, hq187⟩ := q187
    obtain ⟨tyq187, xq187, zq187, xq187_0, gq187, aq187, bq187, axq187_0, bxq187_0, uq187_0, uq187_1, uq187_2, yq187_0⟩ := wq187
    dsimp only at uq187_0 uq187_1
    refine ⟨_, gq187, ?_⟩
    show gz gPP gGG gcn _ _ 37 [some (.ref x), none] [.int (zi zq187)] hq187 _
    have G188 : gSg [65, 66, 67, 68, 69, 70, 101, 102, 103, 112, 113, 200] [] [50005, 51001, 54002, 54003, 54004, 54005, 54006, 54007, 54008, 54009, 54010, 54011, 54012, 54013, 58999, 65003, 66001, 66002, 66003, 66004, 66005, 66010, 66011, 66012, 66013, 66014, 67001, 67002, 67003, 69999, 70999, 82000, 82001, 82002, 82003, 82004, 82005, 82006, 82007, 82008, 82009, 82010, 82011, 83000, 83001, 83002, 83003, 83004, 83005, 83006, 83007, 83008, 83009, 83010, 83011, 84000, 84001, 84002, 84003, 84004, 84005, 84006, 84007, 84008, 84009, 84010, 84011, 102999, 103999, 112999, 113999] ty h tyq187 hq187 := gSg.tr (gSg.ss G0 hS (by decide)) xq187 (by decide) (by decide) (fun x hx => by cases hx)
    have t189 : tyq187 x = 50 := gSg.typ xq187 hS.1 tx rfl
    have t190 : tyq187 pic = 54 := gSg.typ xq187 hS.1 tpic rfl
    have t191 : tyq187 b0 = 82 := gSg.typ xq187 hS.1 tb0 rfl
    have t192 : tyq187 b1 = 83 := gSg.typ xq187 hS.1 tb1 rfl
    have t193 : tyq187 b2 = 84 := gSg.typ xq187 hS.1 tb2 rfl
    have t194 : tyq187 dr = 55 := gSg.typ xq187 hS.1 tdr rfl
    have t195 : tyq187 sk = 56 := gSg.typ xq187 hS.1 tsk rfl
    have t196 : tyq187 bt = 114 := gSg.typ xq187 hS.1 tbt rfl
    have hl197 : hq187.2.2.2.1 bt = h.2.2.2.1 bt := gSg.len xq187 hS.1 tbt rfl
    have t198 : tyq187 cl = 51 := gSg.typ xq187 hS.1 tcl rfl
    have t199 : tyq187 c1 = 65 := gSg.typ xq187 hS.1 tc1 rfl
    have t200 : tyq187 c174 = 53 := gSg.typ xq187 hS.1 tc174 rfl
    have t201 : tyq187 c179 = 57 := gSg.typ xq187 hS.1 tc179 rfl
    have t202 : tyq187 c186 = 66 := gSg.typ xq187 hS.1 tc186 rfl
    have s203 := gSg.at xq187 hS.1 tx rfl (by decide) ex2
    have s204 := gSg.at xq187 hS.1 tx rfl (by decide) ex3
    have s205 := gSg.at xq187 hS.1 tx rfl (by decide) ex4
    have s206 := gSg.at xq187 hS.1 tsk rfl (by decide) ex0
    have s207 := gSg.at xq187 hS.1 tx rfl (by decide) ex9
    have s208 := gSg.at xq187 hS.1 tdr rfl (by decide) en0
    have s209 := gSg.at xq187 hS.1 tdr rfl (by decide) eiv
    have s210 := gSg.at xq187 hS.1 tdr rfl (by decide) edw
    have s211 := gSg.at xq187 hS.1 tdr rfl (by decide) edh
    have s212 := gSg.at xq187 hS.1 tsk rfl (by decide) ec0
    have s213 := gSg.at xq187 hS.1 tcl rfl (by decide) ecl
    have s214 := gSg.at xq187 hS.1 tx rfl (by decide) ec1
    have s215 := gSg.at xq187 hS.1 tx rfl (by decide) ec174
    have s216 := gSg.at xq187 hS.1 tc1 rfl (by decide) ec175
    have s217 := gSg.at xq187 hS.1 tc1 rfl (by decide) ec177
    have s218 := gSg.at xq187 hS.1 tpic rfl (by decide) ec179
    have s219 := gSg.at xq187 hS.1 tc179 rfl (by decide) ec180
    have s220 := gSg.at xq187 hS.1 tc179 rfl (by decide) ec182
    have s221 := gSg.at xq187 hS.1 tc179 rfl (by decide) ec184
    have s222 := gSg.at xq187 hS.1 tc1 rfl (by decide) ec186
    have pr223 := gXr.gr xq187 hS.1 (by decide) (by decide) hxr
    have pr224 := gSW.gr xq187 hS.1 (by decide) hsw
    have pr225 := gTc.gr xq187 hS.1 (by decide) (by decide) htc
    have pr226 := gRr.gr xq187 hS.1 (by decide) (by decide) hrr
    have pr227 := gRw.gr xq187 hS.1 (by decide) (by decide) hrw
    have uq228 := gSg.uq xq187 uq (by decide)
    have sS229 : gSs rT 1027 tyq187 [50005, 51001, 54002, 54003, 54004, 54005, 54006, 54007, 54008, 54009, 54010, 54011, 54012, 54013, 58999, 65003, 66001, 66002, 66003, 66004, 66005, 66010, 66011, 66012, 66013, 66014, 67001, 67002, 67003, 69999, 70999, 82000, 82001, 82002, 82003, 82004, 82005, 82006, 82007, 82008, 82009, 82010, 82011, 83000, 83001, 83002, 83003, 83004, 83005, 83006, 83007, 83008, 83009, 83010, 83011, 84000, 84001, 84002, 84003, 84004, 84005, 84006, 84007, 84008, 84009, 84010, 84011, 102999, 103999, 112999, 113999] hq187 hq187 := gSs.rf xq187.1
    refine gz_s 2 (pc' := 39) (L' := [some (.ref x), some (.int (zi zq187))]) (S' := [.ref x]) rfl ?_
    refine gs_gtk rfl (by decide) rfl sS229.1 t189 rfl rfl s207 ?_
    refine gz_s 1 (pc' := 43) (L' := [some (.ref x), some (.int (zi zq187))]) (S' := [.int (zi 0), .ref cl]) rfl ?_
    refine gs_put rfl (by decide) rfl sS229 t198 rfl rfl rfl rfl (Or.inl rfl) (by decide) (by omega) (by omega) (fun h230 sh230 eh230 fh230 => ?_)
    have pr231 := gXr.pt fh230 t198 (by decide) pr223
    have pr232 := gSW.pt fh230 t198 (by decide) pr224
    have pr233 := gTc.pt fh230 t198 (by decide) pr225
    have pr234 := gRr.pk fh230 (sh230.2.2.2.2.1.trans sS229.2.2.2.2.1.symm) t198 (by decide) pr226
    have pr235 := gRw.pk fh230 (sh230.2.2.2.2.1.trans sS229.2.2.2.2.1.symm) t198 (by decide) pr227
    have pr236 := gPC.pk fh230 (sh230.2.2.2.2.1.trans sS229.2.2.2.2.1.symm) t198 (by decide) yq187_0
    have s237 := (fh230 x 2 (fun q => absurd q.2 (by decide))).trans s203
    have s238 := (fh230 x 3 (fun q => absurd q.2 (by decide))).trans s204
    have s239 := (fh230 x 4 (fun q => absurd q.2 (by decide))).trans s205
    have s240 := (fh230 sk 0 (fun q => absurd q.2 (by decide))).trans s206
    have s241 := (fh230 x 0 (fun q => absurd q.2 (by decide))).trans s207
    have s242 := (fh230 dr 8 (fun q => absurd q.2 (by decide))).trans s208
    have s243 := (fh230 dr 3 (fun q => absurd q.2 (by decide))).trans s209
    have s244 := (fh230 dr 1 (fun q => absurd (((t194).symm.trans (congrArg tyq187 q.1)).trans t198) (by decide))).trans s210
    have s245 := (fh230 dr 2 (fun q => absurd q.2 (by decide))).trans s211
    have s246 := (fh230 sk 1 (fun q => absurd (((t195).symm.trans (congrArg tyq187 q.1)).trans t198) (by decide))).trans s212
    have s247 := (fh230 x 5 (fun q => absurd q.2 (by decide))).trans s214
    have s248 := (fh230 x 1 (fun q => absurd (((t189).symm.trans (congrArg tyq187 q.1)).trans t198) (by decide))).trans s215
    have s249 := (fh230 c1 0 (fun q => absurd q.2 (by decide))).trans s216
    have s250 := (fh230 c1 1 (fun q => absurd (((t199).symm.trans (congrArg tyq187 q.1)).trans t198) (by decide))).trans s217
    have s251 := (fh230 pic 0 (fun q => absurd q.2 (by decide))).trans s218
    have s252 := (fh230 c179 0 (fun q => absurd (((t201).symm.trans (congrArg tyq187 q.1)).trans t198) (by decide))).trans s219
    have s253 := (fh230 c179 1 (fun q => absurd (((t201).symm.trans (congrArg tyq187 q.1)).trans t198) (by decide))).trans s220
    have s254 := (fh230 c179 2 (fun q => absurd (((t201).symm.trans (congrArg tyq187 q.1)).trans t198) (by decide))).trans s221
    have s255 := (fh230 c1 2 (fun q => absurd q.2 (by decide))).trans s222
    refine gz_s 1 (pc' := 47) (L' := [some (.ref x), some (.int (zi zq187))]) (S' := [.int (zi zq187)]) rfl ?_
    have k256 := sh230.2.1
    have k256b := sh230.2.2.1
    have hl257 : h230.2.2.2.1 bt = hq187.2.2.2.1 bt := congrFun sh230.2.2.2.2.1 bt
    have hl258 : 1024 ≤ h230.2.2.2.1 bt ∧ h230.2.2.2.1 bt ≤ 1000000 := gJ.rowl (G := gGG) sh230.1 t196 rfl
    have k259 := sh230.2.1
    have k259b := sh230.2.2.1
    have hl260 : h230.2.2.2.1 bt = hq187.2.2.2.1 bt := congrFun sh230.2.2.2.2.1 bt
    have hix261 : gIx tyq187 x xq187_0 (h230.2.2.2.1 bt : Int) (64 * dw + n0 + 4096 * dh + 262144 * 0 + 536870912 * i0) S h230 := ⟨pic, b0, b1, b2, dr, sk, bt, cl, n0, c0, i0, dw, dh, 0, ⟨t189, t194, t195, t196⟩, ⟨s237, s238, s239, s240⟩, pr236, pr233, ⟨s242, by omega, by omega⟩, ⟨s243, by omega, by omega⟩, ⟨s246, by omega, by omega⟩, ⟨by omega, by omega⟩, ⟨t189, Or.inr ⟨c1, s247, t199⟩⟩, pr235, ⟨s244, by omega, by omega⟩, ⟨s245, by omega, by omega⟩, by omega, rfl, pr231, ⟨pr232, hc0⟩, htz, t198, s241, ⟨eh230, by omega, by omega⟩⟩
    have G262 : gSg [65, 66, 67, 68, 69, 70, 101, 102, 103, 112, 113, 200] [] [50005, 51001, 54002, 54003, 54004, 54005, 54006, 54007, 54008, 54009, 54010, 54011, 54012, 54013, 58999, 65003, 66001, 66002, 66003, 66004, 66005, 66010, 66011, 66012, 66013, 66014, 67001, 67002, 67003, 69999, 70999, 82000, 82001, 82002, 82003, 82004, 82005, 82006, 82007, 82008, 82009, 82010, 82011, 83000, 83001, 83002, 83003, 83004, 83005, 83006, 83007, 83008, 83009, 83010, 83011, 84000, 84001, 84002, 84003, 84004, 84005, 84006, 84007, 84008, 84009, 84010, 84011, 102999, 103999, 112999, 113999] ty h tyq187 h230 := gSg.ss G188 sh230 (by decide)
    exact gz_end (I := .ireturn) (len := 1) rfl (Or.inl rfl) ⟨tyq187, G262, zq187, xq187_0, (h230.2.2.2.1 bt : Int), (64 * dw + n0 + 4096 * dh + 262144 * 0 + 536870912 * i0), rfl, (by omega), (by omega), (by omega), (by omega), (by omega), (by omega), (by omega), (by omega), (by omega), (by dsimp only; omega), (by dsimp only; omega), (by omega), (by omega), hix261, uq228⟩
