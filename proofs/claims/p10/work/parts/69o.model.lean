/-! ===== the model: methods (by program) ===== -/
set_option maxRecDepth 20000 in
set_option maxHeartbeats 4000000 in
theorem mm_putBit2 (d : Nat) {ty : Nat → Nat} {h : gH} (hJ : gJ rT 1027 ty h) (m : Nat) (tm : ty m = 1) (b : Int) (rb : 0 ≤ b ∧ b ≤ 1) (w0 : Int) (ew0 : h.2.2.2.2 m 59 = .int (zi w0)) (rw0 : 0 ≤ w0 ∧ w0 ≤ 60000) (b0 : Int) (eb0 : h.2.2.2.2 m 62 = .int (zi b0)) (rb0 : 0 ≤ b0 ∧ b0 ≤ 7) (ic : Int) (eic : h.2.2.2.2 m 67 = .int (zi ic)) (ric : 0 ≤ ic ∧ ic ≤ 1) (pp0 : w0 ≤ 59990) : gz gPP gGG gcn (d + 1) gt192 0 (gent [.ref m, .int (zi b)] 2) [] h (fun q _ => gSs rT 1027 ty [1059, 1061, 1062, 32999] h q.2.2 ∧ ∃ w1 b1 : Int, gfin gt192 q.1 q.2.1 = some none ∧ q.2.2.2.2.2.2 m 59 = .int (zi w1) ∧ 0 ≤ w1 ∧ w1 ≤ 60000 ∧ q.2.2.2.2.2.2 m 62 = .int (zi b1) ∧ 0 ≤ b1 ∧ b1 ≤ 7 ∧ (4 * w1 + b1 ≤ 4 * w0 + b0 + 1) ∧ (w0 ≤ w1) ∧ (ic = 1 → (b1 = b0 + 1 ∨ b1 = 0)) ∧ (ic = 0 → (w1 = w0 ∧ b1 = b0))) := by
  have hS : gSs rT 1027 ty [1059, 1061, 1062, 32999] h h := gSs.rf hJ
  refine gz_s 1 (pc' := 1) (L' := [some (.ref m), some (.int (zi b))]) (S' := [.ref m]) rfl ?_
  refine gs_gtk rfl (by decide) rfl hS.1 tm rfl rfl eic ?_
  by_cases hc1 : ¬ (ic : Int) = 0
  · refine gy_ifT (pc' := 8) rfl (by decide) (by decide) (by omega) hc1 ?_
    refine gz_s 3 (pc' := 11) (L' := [some (.ref m), some (.int (zi b))]) (S' := [.ref m, .int (zi 2), .ref m]) rfl ?_
    refine gs_get rfl (by decide) rfl hS.1 tm rfl rfl rfl (fun z2 ez2 az2 bz2 => ?_)
    refine gy_s 3 (pc' := 17) (L' := [some (.ref m), some (.int (zi b))]) (S' := [.int (((zi 2) * (zi z2)) + (zi b)), .ref m]) (L2 := [some (.ref m), some (.int (zi b))]) (S2 := [.int (zi ((2 * z2) + b)), .ref m]) rfl (by simp only [zi_add, zi_sub, zi_mul, zi_neg, zi_and1, zi_and7, zi_and15, zi_and31, zi_and255]) (by simp only [zi_add, zi_sub, zi_mul, zi_neg, zi_and1, zi_and7, zi_and15, zi_and31, zi_and255]) ?_
    refine gy_any (fun z4 ez4 az4 bz4 => ?_)
    refine gs_put rfl (by decide) rfl hS tm rfl rfl rfl rfl (Or.inl rfl) (by decide) (by omega) (by omega) (fun h3 sh3 eh3 fh3 => ?_)
    have s5 := (fh3 m 59 (fun q => absurd q.2 (by decide))).trans ew0
    have s6 := (fh3 m 62 (fun q => absurd q.2 (by decide))).trans eb0
    have s7 := (fh3 m 67 (fun q => absurd q.2 (by decide))).trans eic
    refine gz_s 2 (pc' := 22) (L' := [some (.ref m), some (.int (zi b))]) (S' := [.ref m, .ref m]) rfl ?_
    refine gs_gtk rfl (by decide) rfl sh3.1 tm rfl rfl s6 ?_
    refine gy_s 2 (pc' := 27) (L' := [some (.ref m), some (.int (zi b))]) (S' := [.int ((zi b0) + (zi 1)), .ref m]) (L2 := [some (.ref m), some (.int (zi b))]) (S2 := [.int (zi (b0 + 1)), .ref m]) rfl (by simp only [zi_add, zi_sub, zi_mul, zi_neg, zi_and1, zi_and7, zi_and15, zi_and31, zi_and255]) (by simp only [zi_add, zi_sub, zi_mul, zi_neg, zi_and1, zi_and7, zi_and15, zi_and31, zi_and255]) ?_
    refine gs_put rfl (by decide) rfl sh3 tm rfl rfl rfl rfl (Or.inl rfl) (by decide) (by omega) (by omega) (fun h8 sh8 eh8 fh8 => ?_)
    have s9 := (fh8 m 59 (fun q => absurd q.2 (by decide))).trans s5
    have s10 := (fh8 m 67 (fun q => absurd q.2 (by decide))).trans s7
    have s11 := (fh8 m 61 (fun q => absurd q.2 (by decide))).trans eh3
    refine gz_s 1 (pc' := 31) (L' := [some (.ref m), some (.int (zi b))]) (S' := [.ref m]) rfl ?_
    refine gs_gtk rfl (by decide) rfl sh8.1 tm rfl rfl eh8 ?_
    refine gz_s 1 (pc' := 36) (L' := [some (.ref m), some (.int (zi b))]) (S' := [.int (zi 8), .int (zi (b0 + 1))]) rfl ?_
    by_cases hc12 : ¬ (b0 + 1 : Int) = 8
    · refine gy_icT (pc' := 72) rfl (by decide) (by decide) (by omega) (by omega) hc12 ?_
      exact gz_end (I := .return_) (len := 1) rfl (Or.inl rfl) ⟨sh8, w0, b0 + 1, rfl, s9, (by omega), (by omega), eh8, (by omega), (by omega), (by omega), (by omega), (by omega), (by omega)⟩
    · refine gy_icF rfl (by decide) (by decide) (by omega) (by omega) hc12 ?_
      refine gz_s 2 (pc' := 41) (L' := [some (.ref m), some (.int (zi b))]) (S' := [.ref m, .ref m]) rfl ?_
      refine gs_gtk rfl (by decide) rfl sh8.1 tm rfl rfl s11 ?_
      refine gz_call rfl (by decide) rfl (by decide) (by decide) (gcal_of rfl rfl rfl (Nat.le_of_ble_eq_true rfl) (gJ.recv (G := gGG) sh8.1 tm rfl rfl)) (mm_putByte _ sh8.1 m tm z4 (by omega) w0 s9 (by omega)) (fun q13 _ wq13 => ?_)
      obtain ⟨pq13, oq13, hq13⟩ := q13
      obtain ⟨xq13, fq13_0, gq13, efq13_0, afq13_0, bfq13_0, uq13_0⟩ := wq13
      refine ⟨_, gq13, ?_⟩
      show gz gPP gGG gcn _ _ 47 [some (.ref m), some (.int (zi b))] [] hq13 _
      have sq13 := gSs.tr sh8 xq13 (by decide)
      have s14 := (xq13.2.2.2.2.2 m 67 (by rw [tm]; decide)).trans s10
      have s15 := (xq13.2.2.2.2.2 m 61 (by rw [tm]; decide)).trans s11
      have s16 := (xq13.2.2.2.2.2 m 62 (by rw [tm]; decide)).trans eh8
      refine gz_s 1 (pc' := 48) (L' := [some (.ref m), some (.int (zi b))]) (S' := [.ref m]) rfl ?_
      refine gs_gtk rfl (by decide) rfl sq13.1 tm rfl rfl s15 ?_
      refine gz_s 1 (pc' := 54) (L' := [some (.ref m), some (.int (zi b))]) (S' := [.int (zi 255), .int (zi z4)]) rfl ?_
      by_cases hc17 : ¬ (z4 : Int) = 255
      · refine gy_icT (pc' := 62) rfl (by decide) (by decide) (by omega) (by omega) hc17 ?_
        refine gz_s 2 (pc' := 64) (L' := [some (.ref m), some (.int (zi b))]) (S' := [.int (zi 0), .ref m]) rfl ?_
        refine gs_put rfl (by decide) rfl sq13 tm rfl rfl rfl rfl (Or.inl rfl) (by decide) (by omega) (by omega) (fun h18 sh18 eh18 fh18 => ?_)
        have s19 := (fh18 m 67 (fun q => absurd q.2 (by decide))).trans s14
        have s20 := (fh18 m 62 (fun q => absurd q.2 (by decide))).trans s16
        have s21 := (fh18 m 59 (fun q => absurd q.2 (by decide))).trans efq13_0
        refine gz_s 2 (pc' := 69) (L' := [some (.ref m), some (.int (zi b))]) (S' := [.int (zi 0), .ref m]) rfl ?_
        refine gs_put rfl (by decide) rfl sh18 tm rfl rfl rfl rfl (Or.inl rfl) (by decide) (by omega) (by omega) (fun h22 sh22 eh22 fh22 => ?_)
        have s23 := (fh22 m 67 (fun q => absurd q.2 (by decide))).trans s19
        have s24 := (fh22 m 59 (fun q => absurd q.2 (by decide))).trans s21
        have s25 := (fh22 m 61 (fun q => absurd q.2 (by decide))).trans eh18
        exact gz_end (I := .return_) (len := 1) rfl (Or.inl rfl) ⟨sh22, fq13_0, 0, rfl, s24, (by omega), (by omega), eh22, (by omega), (by omega), (by omega), (by omega), (by omega), (by omega)⟩
      · refine gy_icF rfl (by decide) (by decide) (by omega) (by omega) hc17 ?_
        refine gz_s 2 (pc' := 59) (L' := [some (.ref m), some (.int (zi b))]) (S' := [.int (zi 0), .ref m]) rfl ?_
        refine gz_call rfl (by decide) rfl (by decide) (by decide) (gcal_of rfl rfl rfl (Nat.le_of_ble_eq_true rfl) (gJ.recv (G := gGG) sq13.1 tm rfl rfl)) (mm_putByte _ sq13.1 m tm 0 (by omega) fq13_0 efq13_0 (by omega)) (fun q26 _ wq26 => ?_)
        obtain ⟨pq26, oq26, hq26⟩ := q26
        obtain ⟨xq26, fq26_0, gq26, efq26_0, afq26_0, bfq26_0, uq26_0⟩ := wq26
        refine ⟨_, gq26, ?_⟩
        show gz gPP gGG gcn _ _ 62 [some (.ref m), some (.int (zi b))] [] hq26 _
        have sq26 := gSs.tr sq13 xq26 (by decide)
        have s27 := (xq26.2.2.2.2.2 m 67 (by rw [tm]; decide)).trans s14
        have s28 := (xq26.2.2.2.2.2 m 61 (by rw [tm]; decide)).trans s15
        have s29 := (xq26.2.2.2.2.2 m 62 (by rw [tm]; decide)).trans s16
        refine gz_s 2 (pc' := 64) (L' := [some (.ref m), some (.int (zi b))]) (S' := [.int (zi 0), .ref m]) rfl ?_
        refine gs_put rfl (by decide) rfl sq26 tm rfl rfl rfl rfl (Or.inl rfl) (by decide) (by omega) (by omega) (fun h30 sh30 eh30 fh30 => ?_)
        have s31 := (fh30 m 67 (fun q => absurd q.2 (by decide))).trans s27
        have s32 := (fh30 m 62 (fun q => absurd q.2 (by decide))).trans s29
        have s33 := (fh30 m 59 (fun q => absurd q.2 (by decide))).trans efq26_0
        refine gz_s 2 (pc' := 69) (L' := [some (.ref m), some (.int (zi b))]) (S' := [.int (zi 0), .ref m]) rfl ?_
        refine gs_put rfl (by decide) rfl sh30 tm rfl rfl rfl rfl (Or.inl rfl) (by decide) (by omega) (by omega) (fun h34 sh34 eh34 fh34 => ?_)
        have s35 := (fh34 m 67 (fun q => absurd q.2 (by decide))).trans s31
        have s36 := (fh34 m 59 (fun q => absurd q.2 (by decide))).trans s33
        have s37 := (fh34 m 61 (fun q => absurd q.2 (by decide))).trans eh30
        exact gz_end (I := .return_) (len := 1) rfl (Or.inl rfl) ⟨sh34, fq26_0, 0, rfl, s36, (by omega), (by omega), eh34, (by omega), (by omega), (by omega), (by omega), (by omega), (by omega)⟩
  · refine gy_ifF rfl (by decide) (by decide) (by omega) hc1 ?_
    exact gz_end (I := .return_) (len := 1) rfl (Or.inl rfl) ⟨hS, w0, b0, rfl, ew0, (by omega), (by omega), eb0, (by omega), (by omega), (by omega), (by omega), (by omega), (by omega)⟩
set_option maxRecDepth 20000 in
set_option maxHeartbeats 4000000 in
theorem mm_putNumber2 (d : Nat) {ty : Nat → Nat} {h : gH} (hJ : gJ rT 1027 ty h) (m : Nat) (tm : ty m = 1) (v : Int) (rv : (-100000) ≤ v ∧ v ≤ 100000) (n : Int) (rn : 0 ≤ n ∧ n ≤ 16) (w0 : Int) (ew0 : h.2.2.2.2 m 59 = .int (zi w0)) (rw0 : 0 ≤ w0 ∧ w0 ≤ 60000) (b0 : Int) (eb0 : h.2.2.2.2 m 62 = .int (zi b0)) (rb0 : 0 ≤ b0 ∧ b0 ≤ 7) (ic : Int) (eic : h.2.2.2.2 m 67 = .int (zi ic)) (ric : 0 ≤ ic ∧ ic ≤ 1) (pp0 : w0 ≤ 59900) : gz gPP gGG gcn (d + 2) gt196 0 (gent [.ref m, .int (zi v), .int (zi n)] 5) [] h (fun q _ => gSs rT 1027 ty [1059, 1061, 1062, 32999] h q.2.2 ∧ ∃ w1 b1 : Int, gfin gt196 q.1 q.2.1 = some none ∧ q.2.2.2.2.2.2 m 59 = .int (zi w1) ∧ 0 ≤ w1 ∧ w1 ≤ 60000 ∧ q.2.2.2.2.2.2 m 62 = .int (zi b1) ∧ 0 ≤ b1 ∧ b1 ≤ 7 ∧ (4 * w1 + b1 ≤ 4 * w0 + b0 + n) ∧ (w0 ≤ w1) ∧ (ic = 0 → (w1 = w0 ∧ b1 = b0))) := by
  have hS : gSs rT 1027 ty [1059, 1061, 1062, 32999] h h := gSs.rf hJ
  refine gz_s 1 (pc' := 1) (L' := [some (.ref m), some (.int (zi v)), some (.int (zi n)), none, none]) (S' := [.int (zi v)]) rfl ?_
  by_cases hc1 : (0 : Int) ≤ v
  · refine gy_ifT (pc' := 14) rfl (by decide) (by decide) (by omega) hc1 ?_
    refine gy_s 6 (pc' := 21) (L' := [some (.ref m), some (.int (zi v)), some (.int (zi n)), some (.int (zi v)), some (.int ((zi n) - (zi 1)))]) (S' := []) (L2 := [some (.ref m), some (.int (zi v)), some (.int (zi n)), some (.int (zi v)), some (.int (zi (n - 1)))]) (S2 := []) rfl (by simp only [zi_add, zi_sub, zi_mul, zi_neg, zi_and1, zi_and7, zi_and15, zi_and31, zi_and255]) (by simp only [zi_add, zi_sub, zi_mul, zi_neg, zi_and1, zi_and7, zi_and15, zi_and31, zi_and255]) ?_
    have lp2 : ∀ (fu : Nat) (h3 : gH) (k : Int) (wv : Int) (bv : Int), (k + 2).toNat < fu → gSs rT 1027 ty [1059, 1061, 1062, 32999] h h3 → ((-1) ≤ k ∧ k ≤ 15) → (0 ≤ wv ∧ wv ≤ 60000) → (0 ≤ bv ∧ bv ≤ 7) → (4 * wv + bv + k + 1 ≤ 4 * w0 + b0 + n) → (w0 ≤ wv) → (k < n) → (ic = 0 → (wv = w0 ∧ bv = b0)) → h3.2.2.2.2 m 67 = .int (zi ic) → h3.2.2.2.2 m 59 = .int (zi wv) → h3.2.2.2.2 m 62 = .int (zi bv) → gz gPP gGG gcn (d + 2) gt196 21 [some (.ref m), some (.int (zi v)), some (.int (zi n)), some (.int (zi v)), some (.int (zi k))] [] h3 (fun q _ => gSs rT 1027 ty [1059, 1061, 1062, 32999] h q.2.2 ∧ ∃ w1 b1 : Int, gfin gt196 q.1 q.2.1 = some none ∧ q.2.2.2.2.2.2 m 59 = .int (zi w1) ∧ 0 ≤ w1 ∧ w1 ≤ 60000 ∧ q.2.2.2.2.2.2 m 62 = .int (zi b1) ∧ 0 ≤ b1 ∧ b1 ≤ 7 ∧ (4 * w1 + b1 ≤ 4 * w0 + b0 + n) ∧ (w0 ≤ w1) ∧ (ic = 0 → (w1 = w0 ∧ b1 = b0))) := by
      intro fu
      induction fu with
      | zero => intro h3 k wv bv hm; exact absurd hm (Nat.not_lt_zero _)
      | succ fu ihlp2 =>
        intro h3 k wv bv lp2m sh3 lp2f0 lp2f1 lp2f2 lp2f3 lp2f4 lp2f5 lp2f6 lp2k0 lp2k1 lp2k2
        refine gz_s 1 (pc' := 23) (L' := [some (.ref m), some (.int (zi v)), some (.int (zi n)), some (.int (zi v)), some (.int (zi k))]) (S' := [.int (zi k)]) rfl ?_
        by_cases hc4 : (k : Int) < 0
        · refine gy_ifT (pc' := 42) rfl (by decide) (by decide) (by omega) hc4 ?_
          exact gz_end (I := .return_) (len := 1) rfl (Or.inl rfl) ⟨sh3, wv, bv, rfl, lp2k1, (by omega), (by omega), lp2k2, (by omega), (by omega), (by omega), (by omega), (by omega)⟩
        · refine gy_ifF rfl (by decide) (by decide) (by omega) hc4 ?_
          refine gz_s 3 (pc' := 30) (L' := [some (.ref m), some (.int (zi v)), some (.int (zi n)), some (.int (zi v)), some (.int (zi k))]) (S' := [.int (zi k), .int (zi v), .ref m]) rfl ?_
          refine gy_shv rfl (by decide) (by omega) (by omega) (fun z5 az5 bz5 => ?_)
          refine gy_s 2 (pc' := 33) (L' := [some (.ref m), some (.int (zi v)), some (.int (zi n)), some (.int (zi v)), some (.int (zi k))]) (S' := [.int ((zi z5) &&& (zi 1)), .ref m]) (L2 := [some (.ref m), some (.int (zi v)), some (.int (zi n)), some (.int (zi v)), some (.int (zi k))]) (S2 := [.int (zi (z5 % 2)), .ref m]) rfl (by simp only [zi_add, zi_sub, zi_mul, zi_neg, zi_and1, zi_and7, zi_and15, zi_and31, zi_and255]) (by simp only [zi_add, zi_sub, zi_mul, zi_neg, zi_and1, zi_and7, zi_and15, zi_and31, zi_and255]) ?_
          refine gz_call rfl (by decide) rfl (by decide) (by decide) (gcal_of rfl rfl rfl (Nat.le_of_ble_eq_true rfl) (gJ.recv (G := gGG) sh3.1 tm rfl rfl)) (mm_putBit2 _ sh3.1 m tm (z5 % 2) (by omega) wv lp2k1 (by omega) bv lp2k2 (by omega) ic lp2k0 (by omega) (by omega)) (fun q6 _ wq6 => ?_)
          obtain ⟨pq6, oq6, hq6⟩ := q6
          obtain ⟨xq6, fq6_0, fq6_1, gq6, efq6_0, afq6_0, bfq6_0, efq6_1, afq6_1, bfq6_1, uq6_0, uq6_1, uq6_2, uq6_3⟩ := wq6
          refine ⟨_, gq6, ?_⟩
          show gz gPP gGG gcn _ _ 36 [some (.ref m), some (.int (zi v)), some (.int (zi n)), some (.int (zi v)), some (.int (zi k))] [] hq6 _
          have sq6 := gSs.tr sh3 xq6 (by decide)
          have s7 := (xq6.2.2.2.2.2 m 67 (by rw [tm]; decide)).trans lp2k0
          refine gy_s 2 (pc' := 21) (L' := [some (.ref m), some (.int (zi v)), some (.int (zi n)), some (.int (zi v)), some (.int ((zi k) + zi (-1)))]) (S' := []) (L2 := [some (.ref m), some (.int (zi v)), some (.int (zi n)), some (.int (zi v)), some (.int (zi (k + (-1))))]) (S2 := []) rfl (by simp only [zi_add, zi_sub, zi_mul, zi_neg, zi_and1, zi_and7, zi_and15, zi_and31, zi_and255]) (by simp only [zi_add, zi_sub, zi_mul, zi_neg, zi_and1, zi_and7, zi_and15, zi_and31, zi_and255]) ?_
          exact gz_wk (ihlp2 hq6 (k + (-1)) fq6_0 fq6_1 (by omega) sq6 (by omega) (by omega) (by omega) (by omega) (by omega) (by omega) (by omega) s7 efq6_0 efq6_1) (gLw.s (gLw.s (gLw.s (gLw.s (gLw.s gLw.z)))))
    exact gz_wk (lp2 _ h (n - 1) w0 b0 (Nat.lt_succ_self _) hS (by omega) (by omega) (by omega) (by omega) (by omega) (by omega) (by omega) eic ew0 eb0) (gLw.s (gLw.s (gLw.s (gLw.s (gLw.s gLw.z)))))
  · refine gy_ifF rfl (by decide) (by decide) (by omega) hc1 ?_
    refine gz_s 3 (pc' := 7) (L' := [some (.ref m), some (.int (zi v)), some (.int (zi n)), none, none]) (S' := [.int (zi n), .int (zi 1), .int (zi v)]) rfl ?_
    refine gy_sh1 rfl (by decide) (by omega) (fun z8 az8 bz8 cz8 => ?_)
    refine gy_s 9 (pc' := 21) (L' := [some (.ref m), some (.int (zi v)), some (.int (zi n)), some (.int (((zi v) + (zi z8)) - (zi 1))), some (.int ((zi n) - (zi 1)))]) (S' := []) (L2 := [some (.ref m), some (.int (zi v)), some (.int (zi n)), some (.int (zi ((v + z8) - 1))), some (.int (zi (n - 1)))]) (S2 := []) rfl (by simp only [zi_add, zi_sub, zi_mul, zi_neg, zi_and1, zi_and7, zi_and15, zi_and31, zi_and255]) (by simp only [zi_add, zi_sub, zi_mul, zi_neg, zi_and1, zi_and7, zi_and15, zi_and31, zi_and255]) ?_
    have lp9 : ∀ (fu : Nat) (h10 : gH) (k : Int) (wv : Int) (bv : Int), (k + 2).toNat < fu → gSs rT 1027 ty [1059, 1061, 1062, 32999] h h10 → ((-1) ≤ k ∧ k ≤ 15) → (0 ≤ wv ∧ wv ≤ 60000) → (0 ≤ bv ∧ bv ≤ 7) → (4 * wv + bv + k + 1 ≤ 4 * w0 + b0 + n) → (w0 ≤ wv) → (k < n) → (ic = 0 → (wv = w0 ∧ bv = b0)) → h10.2.2.2.2 m 67 = .int (zi ic) → h10.2.2.2.2 m 59 = .int (zi wv) → h10.2.2.2.2 m 62 = .int (zi bv) → gz gPP gGG gcn (d + 2) gt196 21 [some (.ref m), some (.int (zi v)), some (.int (zi n)), some (.int (zi ((v + z8) - 1))), some (.int (zi k))] [] h10 (fun q _ => gSs rT 1027 ty [1059, 1061, 1062, 32999] h q.2.2 ∧ ∃ w1 b1 : Int, gfin gt196 q.1 q.2.1 = some none ∧ q.2.2.2.2.2.2 m 59 = .int (zi w1) ∧ 0 ≤ w1 ∧ w1 ≤ 60000 ∧ q.2.2.2.2.2.2 m 62 = .int (zi b1) ∧ 0 ≤ b1 ∧ b1 ≤ 7 ∧ (4 * w1 + b1 ≤ 4 * w0 + b0 + n) ∧ (w0 ≤ w1) ∧ (ic = 0 → (w1 = w0 ∧ b1 = b0))) := by
      intro fu
      induction fu with
      | zero => intro h10 k wv bv hm; exact absurd hm (Nat.not_lt_zero _)
      | succ fu ihlp9 =>
        intro h10 k wv bv lp9m sh10 lp9f0 lp9f1 lp9f2 lp9f3 lp9f4 lp9f5 lp9f6 lp9k0 lp9k1 lp9k2
        refine gz_s 1 (pc' := 23) (L' := [some (.ref m), some (.int (zi v)), some (.int (zi n)), some (.int (zi ((v + z8) - 1))), some (.int (zi k))]) (S' := [.int (zi k)]) rfl ?_
        by_cases hc11 : (k : Int) < 0
        · refine gy_ifT (pc' := 42) rfl (by decide) (by decide) (by omega) hc11 ?_
          exact gz_end (I := .return_) (len := 1) rfl (Or.inl rfl) ⟨sh10, wv, bv, rfl, lp9k1, (by omega), (by omega), lp9k2, (by omega), (by omega), (by omega), (by omega), (by omega)⟩
        · refine gy_ifF rfl (by decide) (by decide) (by omega) hc11 ?_
          refine gz_s 3 (pc' := 30) (L' := [some (.ref m), some (.int (zi v)), some (.int (zi n)), some (.int (zi ((v + z8) - 1))), some (.int (zi k))]) (S' := [.int (zi k), .int (zi ((v + z8) - 1)), .ref m]) rfl ?_
          refine gy_shv rfl (by decide) (by omega) (by omega) (fun z12 az12 bz12 => ?_)
          refine gy_s 2 (pc' := 33) (L' := [some (.ref m), some (.int (zi v)), some (.int (zi n)), some (.int (zi ((v + z8) - 1))), some (.int (zi k))]) (S' := [.int ((zi z12) &&& (zi 1)), .ref m]) (L2 := [some (.ref m), some (.int (zi v)), some (.int (zi n)), some (.int (zi ((v + z8) - 1))), some (.int (zi k))]) (S2 := [.int (zi (z12 % 2)), .ref m]) rfl (by simp only [zi_add, zi_sub, zi_mul, zi_neg, zi_and1, zi_and7, zi_and15, zi_and31, zi_and255]) (by simp only [zi_add, zi_sub, zi_mul, zi_neg, zi_and1, zi_and7, zi_and15, zi_and31, zi_and255]) ?_
          refine gz_call rfl (by decide) rfl (by decide) (by decide) (gcal_of rfl rfl rfl (Nat.le_of_ble_eq_true rfl) (gJ.recv (G := gGG) sh10.1 tm rfl rfl)) (mm_putBit2 _ sh10.1 m tm (z12 % 2) (by omega) wv lp9k1 (by omega) bv lp9k2 (by omega) ic lp9k0 (by omega) (by omega)) (fun q13 _ wq13 => ?_)
          obtain ⟨pq13, oq13, hq13⟩ := q13
          obtain ⟨xq13, fq13_0, fq13_1, gq13, efq13_0, afq13_0, bfq13_0, efq13_1, afq13_1, bfq13_1, uq13_0, uq13_1, uq13_2, uq13_3⟩ := wq13
          refine ⟨_, gq13, ?_⟩
          show gz gPP gGG gcn _ _ 36 [some (.ref m), some (.int (zi v)), some (.int (zi n)), some (.int (zi ((v + z8) - 1))), some (.int (zi k))] [] hq13 _
          have sq13 := gSs.tr sh10 xq13 (by decide)
          have s14 := (xq13.2.2.2.2.2 m 67 (by rw [tm]; decide)).trans lp9k0
          refine gy_s 2 (pc' := 21) (L' := [some (.ref m), some (.int (zi v)), some (.int (zi n)), some (.int (zi ((v + z8) - 1))), some (.int ((zi k) + zi (-1)))]) (S' := []) (L2 := [some (.ref m), some (.int (zi v)), some (.int (zi n)), some (.int (zi ((v + z8) - 1))), some (.int (zi (k + (-1))))]) (S2 := []) rfl (by simp only [zi_add, zi_sub, zi_mul, zi_neg, zi_and1, zi_and7, zi_and15, zi_and31, zi_and255]) (by simp only [zi_add, zi_sub, zi_mul, zi_neg, zi_and1, zi_and7, zi_and15, zi_and31, zi_and255]) ?_
          exact gz_wk (ihlp9 hq13 (k + (-1)) fq13_0 fq13_1 (by omega) sq13 (by omega) (by omega) (by omega) (by omega) (by omega) (by omega) (by omega) s14 efq13_0 efq13_1) (gLw.s (gLw.s (gLw.s (gLw.s (gLw.s gLw.z)))))
    exact gz_wk (lp9 _ h (n - 1) w0 b0 (Nat.lt_succ_self _) hS (by omega) (by omega) (by omega) (by omega) (by omega) (by omega) (by omega) eic ew0 eb0) (gLw.s (gLw.s (gLw.s (gLw.s (gLw.s gLw.z)))))
set_option maxRecDepth 20000 in
set_option maxHeartbeats 4000000 in
theorem mm_putWaiting2 (d : Nat) {ty : Nat → Nat} {h : gH} (hJ : gJ rT 1027 ty h) (m : Nat) (tm : ty m = 1) (w0 : Int) (ew0 : h.2.2.2.2 m 59 = .int (zi w0)) (rw0 : 0 ≤ w0 ∧ w0 ≤ 60000) (b0 : Int) (eb0 : h.2.2.2.2 m 62 = .int (zi b0)) (rb0 : 0 ≤ b0 ∧ b0 ≤ 7) (ic : Int) (eic : h.2.2.2.2 m 67 = .int (zi ic)) (ric : 0 ≤ ic ∧ ic ≤ 1) (n0 : Int) (en0 : h.2.2.2.2 m 75 = .int (zi n0)) (rn0 : 0 ≤ n0 ∧ n0 ≤ 64) (pp0 : w0 ≤ 59900) : gz gPP gGG gcn (d + 2) gt200 0 (gent [.ref m] 2) [] h (fun q _ => gSs rT 1027 ty [1059, 1061, 1062, 1075, 32999] h q.2.2 ∧ ∃ w1 b1 n1 : Int, gfin gt200 q.1 q.2.1 = some none ∧ q.2.2.2.2.2.2 m 59 = .int (zi w1) ∧ 0 ≤ w1 ∧ w1 ≤ 60000 ∧ q.2.2.2.2.2.2 m 62 = .int (zi b1) ∧ 0 ≤ b1 ∧ b1 ≤ 7 ∧ q.2.2.2.2.2.2 m 75 = .int (zi n1) ∧ 0 ≤ n1 ∧ n1 ≤ 64 ∧ (n1 = 0) ∧ (4 * w1 + b1 ≤ 4 * w0 + b0 + n0) ∧ (w0 ≤ w1) ∧ (ic = 0 → (w1 = w0 ∧ b1 = b0))) := by
  have hS : gSs rT 1027 ty [1059, 1061, 1062, 1075, 32999] h h := gSs.rf hJ
  refine gz_s 2 (pc' := 2) (L' := [some (.ref m), some (.int (zi 0))]) (S' := []) rfl ?_
  have lp1 : ∀ (fu : Nat) (h2 : gH) (k : Int) (wv : Int) (bv : Int), (65 - k).toNat < fu → gSs rT 1027 ty [1059, 1061, 1062, 1075, 32999] h h2 → (0 ≤ k ∧ k ≤ 64) → (0 ≤ wv ∧ wv ≤ 60000) → (0 ≤ bv ∧ bv ≤ 7) → (4 * wv + bv ≤ 4 * w0 + b0 + k) → (w0 ≤ wv) → (k ≤ n0) → (ic = 0 → (wv = w0 ∧ bv = b0)) → h2.2.2.2.2 m 67 = .int (zi ic) → h2.2.2.2.2 m 75 = .int (zi n0) → h2.2.2.2.2 m 59 = .int (zi wv) → h2.2.2.2.2 m 62 = .int (zi bv) → gz gPP gGG gcn (d + 2) gt200 2 [some (.ref m), some (.int (zi k))] [] h2 (fun q _ => gSs rT 1027 ty [1059, 1061, 1062, 1075, 32999] h q.2.2 ∧ ∃ w1 b1 n1 : Int, gfin gt200 q.1 q.2.1 = some none ∧ q.2.2.2.2.2.2 m 59 = .int (zi w1) ∧ 0 ≤ w1 ∧ w1 ≤ 60000 ∧ q.2.2.2.2.2.2 m 62 = .int (zi b1) ∧ 0 ≤ b1 ∧ b1 ≤ 7 ∧ q.2.2.2.2.2.2 m 75 = .int (zi n1) ∧ 0 ≤ n1 ∧ n1 ≤ 64 ∧ (n1 = 0) ∧ (4 * w1 + b1 ≤ 4 * w0 + b0 + n0) ∧ (w0 ≤ w1) ∧ (ic = 0 → (w1 = w0 ∧ b1 = b0))) := by
    intro fu
    induction fu with
    | zero => intro h2 k wv bv hm; exact absurd hm (Nat.not_lt_zero _)
    | succ fu ihlp1 =>
      intro h2 k wv bv lp1m sh2 lp1f0 lp1f1 lp1f2 lp1f3 lp1f4 lp1f5 lp1f6 lp1k0 lp1k1 lp1k2 lp1k3
      refine gz_s 2 (pc' := 4) (L' := [some (.ref m), some (.int (zi k))]) (S' := [.ref m, .int (zi k)]) rfl ?_
      refine gs_gtk rfl (by decide) rfl sh2.1 tm rfl rfl lp1k1 ?_
      by_cases hc3 : (n0 : Int) ≤ k
      · refine gy_icT (pc' := 26) rfl (by decide) (by decide) (by omega) (by omega) hc3 ?_
        refine gz_s 2 (pc' := 28) (L' := [some (.ref m), some (.int (zi k))]) (S' := [.int (zi 0), .ref m]) rfl ?_
        refine gs_put rfl (by decide) rfl sh2 tm rfl rfl rfl rfl (Or.inl rfl) (by decide) (by omega) (by omega) (fun h4 sh4 eh4 fh4 => ?_)
        have s5 := (fh4 m 67 (fun q => absurd q.2 (by decide))).trans lp1k0
        have s6 := (fh4 m 59 (fun q => absurd q.2 (by decide))).trans lp1k2
        have s7 := (fh4 m 62 (fun q => absurd q.2 (by decide))).trans lp1k3
        exact gz_end (I := .return_) (len := 1) rfl (Or.inl rfl) ⟨sh4, wv, bv, 0, rfl, s6, (by omega), (by omega), s7, (by omega), (by omega), eh4, (by omega), (by omega), (by omega), (by omega), (by omega), (by omega)⟩
      · refine gy_icF rfl (by decide) (by decide) (by omega) (by omega) hc3 ?_
        refine gz_s 2 (pc' := 12) (L' := [some (.ref m), some (.int (zi k))]) (S' := [.ref m, .ref m]) rfl ?_
        refine gs_gtr rfl (by decide) rfl sh2.1 tm rfl rfl rfl (fun c8 ec8 tc8 => ?_)
        refine gz_s 1 (pc' := 16) (L' := [some (.ref m), some (.int (zi k))]) (S' := [.int (zi k), .ref c8, .ref m]) rfl ?_
        have hl9 : 64 ≤ h2.2.2.2.1 c8 ∧ h2.2.2.2.1 c8 ≤ 64 := gJ.rowl (G := gGG) sh2.1 tc8 rfl
        refine gs_ald rfl (by decide) sh2.1 tc8 rfl rfl rfl (by decide) (fun _ => rfl) (by omega) (by omega) (fun z10 ez10 az10 bz10 => ?_)
        refine gz_call rfl (by decide) rfl (by decide) (by decide) (gcal_of rfl rfl rfl (Nat.le_of_ble_eq_true rfl) (gJ.recv (G := gGG) sh2.1 tm rfl rfl)) (mm_putBit2 _ sh2.1 m tm z10 (by omega) wv lp1k2 (by omega) bv lp1k3 (by omega) ic lp1k0 (by omega) (by omega)) (fun q11 _ wq11 => ?_)
        obtain ⟨pq11, oq11, hq11⟩ := q11
        obtain ⟨xq11, fq11_0, fq11_1, gq11, efq11_0, afq11_0, bfq11_0, efq11_1, afq11_1, bfq11_1, uq11_0, uq11_1, uq11_2, uq11_3⟩ := wq11
        refine ⟨_, gq11, ?_⟩
        show gz gPP gGG gcn _ _ 20 [some (.ref m), some (.int (zi k))] [] hq11 _
        have sq11 := gSs.tr sh2 xq11 (by decide)
        have s12 := (xq11.2.2.2.2.2 m 67 (by rw [tm]; decide)).trans lp1k0
        have s13 := (xq11.2.2.2.2.2 m 75 (by rw [tm]; decide)).trans lp1k1
        have s14 := (xq11.2.2.2.2.2 m 76 (by rw [tm]; decide)).trans ec8
        refine gy_s 2 (pc' := 2) (L' := [some (.ref m), some (.int ((zi k) + zi 1))]) (S' := []) (L2 := [some (.ref m), some (.int (zi (k + 1)))]) (S2 := []) rfl (by simp only [zi_add, zi_sub, zi_mul, zi_neg, zi_and1, zi_and7, zi_and15, zi_and31, zi_and255]) (by simp only [zi_add, zi_sub, zi_mul, zi_neg, zi_and1, zi_and7, zi_and15, zi_and31, zi_and255]) ?_
        exact gz_wk (ihlp1 hq11 (k + 1) fq11_0 fq11_1 (by omega) sq11 (by omega) (by omega) (by omega) (by omega) (by omega) (by omega) (by omega) s12 s13 efq11_0 efq11_1) (gLw.s (gLw.s gLw.z))
  exact gz_wk (lp1 _ h 0 w0 b0 (Nat.lt_succ_self _) hS (by omega) (by omega) (by omega) (by omega) (by omega) (by omega) (by omega) eic en0 ew0 eb0) (gLw.s (gLw.s gLw.z))
set_option maxRecDepth 20000 in
set_option maxHeartbeats 4000000 in
theorem mm_putSymbol (d : Nat) {ty : Nat → Nat} {h : gH} (hJ : gJ rT 1027 ty h) (m : Nat) (tm : ty m = 1) (wh : Int) (rwh : 0 ≤ wh ∧ wh ≤ 1) (s : Int) (rs : 0 ≤ s ∧ s ≤ 255) (w0 : Int) (ew0 : h.2.2.2.2 m 59 = .int (zi w0)) (rw0 : 0 ≤ w0 ∧ w0 ≤ 60000) (b0 : Int) (eb0 : h.2.2.2.2 m 62 = .int (zi b0)) (rb0 : 0 ≤ b0 ∧ b0 ≤ 7) (ic : Int) (eic : h.2.2.2.2 m 67 = .int (zi ic)) (ric : 0 ≤ ic ∧ ic ≤ 1) (so0 : Int) (rso0 : 0 ≤ so0 ∧ so0 ≤ 4000) (pp0 : w0 ≤ 59900) (uq : gUq ty) (hyof : gOf ty so0 h) : gz gPP gGG gcn (d + 2) gt195 0 (gent [.ref m, .int (zi wh), .int (zi s)] 5) [] h (fun q _ => gSs rT 1027 ty [1059, 1061, 1062, 32999, 36999] h q.2.2 ∧ ∃ w1 b1 so1 : Int, gfin gt195 q.1 q.2.1 = some none ∧ q.2.2.2.2.2.2 m 59 = .int (zi w1) ∧ 0 ≤ w1 ∧ w1 ≤ 60000 ∧ q.2.2.2.2.2.2 m 62 = .int (zi b1) ∧ 0 ≤ b1 ∧ b1 ≤ 7 ∧ 0 ≤ so1 ∧ so1 ≤ 4001 ∧ (4 * w1 + b1 + 22 * so1 ≤ 4 * w0 + b0 + 22 * so0 + 22) ∧ (w0 ≤ w1) ∧ (so0 ≤ so1) ∧ (ic = 0 → (w1 = w0 ∧ b1 = b0)) ∧ (ic = 1 → so1 = so0) ∧ (gOf ty so1 q.2.2)) := by
  have hS : gSs rT 1027 ty [1059, 1061, 1062, 32999, 36999] h h := gSs.rf hJ
  refine gz_s 1 (pc' := 1) (L' := [some (.ref m), some (.int (zi wh)), some (.int (zi s)), none, none]) (S' := [.ref m]) rfl ?_
  refine gs_gtk rfl (by decide) rfl hS.1 tm rfl rfl eic ?_
  by_cases hc1 : ¬ (ic : Int) = 0
  · refine gy_ifT (pc' := 24) rfl (by decide) (by decide) (by omega) hc1 ?_
    refine gz_s 1 (pc' := 25) (L' := [some (.ref m), some (.int (zi wh)), some (.int (zi s)), none, none]) (S' := [.ref m]) rfl ?_
    refine gs_gtr rfl (by decide) rfl hS.1 tm rfl rfl rfl (fun c2 ec2 tc2 => ?_)
    refine gy_s 5 (pc' := 35) (L' := [some (.ref m), some (.int (zi wh)), some (.int (zi s)), none, none]) (S' := [.int (((zi 257) * (zi wh)) + (zi s)), .ref c2]) (L2 := [some (.ref m), some (.int (zi wh)), some (.int (zi s)), none, none]) (S2 := [.int (zi ((257 * wh) + s)), .ref c2]) rfl (by simp only [zi_add, zi_sub, zi_mul, zi_neg, zi_and1, zi_and7, zi_and15, zi_and31, zi_and255]) (by simp only [zi_add, zi_sub, zi_mul, zi_neg, zi_and1, zi_and7, zi_and15, zi_and31, zi_and255]) ?_
    have hl3 : 514 ≤ h.2.2.2.1 c2 ∧ h.2.2.2.1 c2 ≤ 514 := gJ.rowl (G := gGG) hS.1 tc2 rfl
    refine gs_ald rfl (by decide) hS.1 tc2 rfl rfl rfl (by decide) (fun _ => rfl) (by omega) (by omega) (fun z4 ez4 az4 bz4 => ?_)
    refine gy_s 5 (pc' := 42) (L' := [some (.ref m), some (.int (zi wh)), some (.int (zi s)), some (.int (zi z4)), some (.int ((zi z4) - (zi 1)))]) (S' := []) (L2 := [some (.ref m), some (.int (zi wh)), some (.int (zi s)), some (.int (zi z4)), some (.int (zi (z4 - 1)))]) (S2 := []) rfl (by simp only [zi_add, zi_sub, zi_mul, zi_neg, zi_and1, zi_and7, zi_and15, zi_and31, zi_and255]) (by simp only [zi_add, zi_sub, zi_mul, zi_neg, zi_and1, zi_and7, zi_and15, zi_and31, zi_and255]) ?_
    have lp5 : ∀ (fu : Nat) (h6 : gH) (k : Int) (wv : Int) (bv : Int), (k + 2).toNat < fu → gSs rT 1027 ty [1059, 1061, 1062, 32999, 36999] h h6 → ((-1) ≤ k ∧ k ≤ 21) → (0 ≤ wv ∧ wv ≤ 60000) → (0 ≤ bv ∧ bv ≤ 7) → (4 * wv + bv + k + 1 ≤ 4 * w0 + b0 + z4) → (w0 ≤ wv) → h6.2.2.2.2 m 67 = .int (zi ic) → h6.2.2.2.2 m 69 = .ref c2 → h6.2.2.2.2 m 59 = .int (zi wv) → h6.2.2.2.2 m 62 = .int (zi bv) → gOf ty so0 h6 → gz gPP gGG gcn (d + 2) gt195 42 [some (.ref m), some (.int (zi wh)), some (.int (zi s)), some (.int (zi z4)), some (.int (zi k))] [] h6 (fun q _ => gSs rT 1027 ty [1059, 1061, 1062, 32999, 36999] h q.2.2 ∧ ∃ w1 b1 so1 : Int, gfin gt195 q.1 q.2.1 = some none ∧ q.2.2.2.2.2.2 m 59 = .int (zi w1) ∧ 0 ≤ w1 ∧ w1 ≤ 60000 ∧ q.2.2.2.2.2.2 m 62 = .int (zi b1) ∧ 0 ≤ b1 ∧ b1 ≤ 7 ∧ 0 ≤ so1 ∧ so1 ≤ 4001 ∧ (4 * w1 + b1 + 22 * so1 ≤ 4 * w0 + b0 + 22 * so0 + 22) ∧ (w0 ≤ w1) ∧ (so0 ≤ so1) ∧ (ic = 0 → (w1 = w0 ∧ b1 = b0)) ∧ (ic = 1 → so1 = so0) ∧ (gOf ty so1 q.2.2)) := by
      intro fu
      induction fu with
      | zero => intro h6 k wv bv hm; exact absurd hm (Nat.not_lt_zero _)
      | succ fu ihlp5 =>
        intro h6 k wv bv lp5m sh6 lp5f0 lp5f1 lp5f2 lp5f3 lp5f4 lp5k0 lp5k1 lp5k2 lp5k3 lp5k4
        refine gz_s 1 (pc' := 44) (L' := [some (.ref m), some (.int (zi wh)), some (.int (zi s)), some (.int (zi z4)), some (.int (zi k))]) (S' := [.int (zi k)]) rfl ?_
        by_cases hc7 : (k : Int) < 0
        · refine gy_ifT (pc' := 74) rfl (by decide) (by decide) (by omega) hc7 ?_
          exact gz_end (I := .return_) (len := 1) rfl (Or.inl rfl) ⟨sh6, wv, bv, so0, rfl, lp5k2, (by omega), (by omega), lp5k3, (by omega), (by omega), (by omega), (by omega), (by omega), (by omega), (by omega), (by omega), (by omega), lp5k4⟩
        · refine gy_ifF rfl (by decide) (by decide) (by omega) hc7 ?_
          refine gz_s 2 (pc' := 49) (L' := [some (.ref m), some (.int (zi wh)), some (.int (zi s)), some (.int (zi z4)), some (.int (zi k))]) (S' := [.ref m, .ref m]) rfl ?_
          refine gs_gtr rfl (by decide) rfl sh6.1 tm rfl rfl rfl (fun c8 ec8 tc8 => ?_)
          refine gy_s 5 (pc' := 59) (L' := [some (.ref m), some (.int (zi wh)), some (.int (zi s)), some (.int (zi z4)), some (.int (zi k))]) (S' := [.int (((zi 257) * (zi wh)) + (zi s)), .ref c8, .ref m]) (L2 := [some (.ref m), some (.int (zi wh)), some (.int (zi s)), some (.int (zi z4)), some (.int (zi k))]) (S2 := [.int (zi ((257 * wh) + s)), .ref c8, .ref m]) rfl (by simp only [zi_add, zi_sub, zi_mul, zi_neg, zi_and1, zi_and7, zi_and15, zi_and31, zi_and255]) (by simp only [zi_add, zi_sub, zi_mul, zi_neg, zi_and1, zi_and7, zi_and15, zi_and31, zi_and255]) ?_
          have hl9 : 514 ≤ h6.2.2.2.1 c8 ∧ h6.2.2.2.1 c8 ≤ 514 := gJ.rowl (G := gGG) sh6.1 tc8 rfl
          refine gs_ald rfl (by decide) sh6.1 tc8 rfl rfl rfl (by decide) (fun _ => rfl) (by omega) (by omega) (fun z10 ez10 az10 bz10 => ?_)
          refine gz_s 1 (pc' := 62) (L' := [some (.ref m), some (.int (zi wh)), some (.int (zi s)), some (.int (zi z4)), some (.int (zi k))]) (S' := [.int (zi k), .int (zi z10), .ref m]) rfl ?_
          refine gy_shv rfl (by decide) (by omega) (by omega) (fun z11 az11 bz11 => ?_)
          refine gy_s 2 (pc' := 65) (L' := [some (.ref m), some (.int (zi wh)), some (.int (zi s)), some (.int (zi z4)), some (.int (zi k))]) (S' := [.int ((zi z11) &&& (zi 1)), .ref m]) (L2 := [some (.ref m), some (.int (zi wh)), some (.int (zi s)), some (.int (zi z4)), some (.int (zi k))]) (S2 := [.int (zi (z11 % 2)), .ref m]) rfl (by simp only [zi_add, zi_sub, zi_mul, zi_neg, zi_and1, zi_and7, zi_and15, zi_and31, zi_and255]) (by simp only [zi_add, zi_sub, zi_mul, zi_neg, zi_and1, zi_and7, zi_and15, zi_and31, zi_and255]) ?_
          refine gz_call rfl (by decide) rfl (by decide) (by decide) (gcal_of rfl rfl rfl (Nat.le_of_ble_eq_true rfl) (gJ.recv (G := gGG) sh6.1 tm rfl rfl)) (mm_putBit2 _ sh6.1 m tm (z11 % 2) (by omega) wv lp5k2 (by omega) bv lp5k3 (by omega) ic lp5k0 (by omega) (by omega)) (fun q12 _ wq12 => ?_)
          obtain ⟨pq12, oq12, hq12⟩ := q12
          obtain ⟨xq12, fq12_0, fq12_1, gq12, efq12_0, afq12_0, bfq12_0, efq12_1, afq12_1, bfq12_1, uq12_0, uq12_1, uq12_2, uq12_3⟩ := wq12
          refine ⟨_, gq12, ?_⟩
          show gz gPP gGG gcn _ _ 68 [some (.ref m), some (.int (zi wh)), some (.int (zi s)), some (.int (zi z4)), some (.int (zi k))] [] hq12 _
          have sq12 := gSs.tr sh6 xq12 (by decide)
          have s13 := (xq12.2.2.2.2.2 m 67 (by rw [tm]; decide)).trans lp5k0
          have s14 := (xq12.2.2.2.2.2 m 69 (by rw [tm]; decide)).trans lp5k1
          have s15 := (xq12.2.2.2.2.2 m 70 (by rw [tm]; decide)).trans ec8
          have pr16 := gOf.fr xq12.2 (by decide) lp5k4
          refine gy_s 2 (pc' := 42) (L' := [some (.ref m), some (.int (zi wh)), some (.int (zi s)), some (.int (zi z4)), some (.int ((zi k) + zi (-1)))]) (S' := []) (L2 := [some (.ref m), some (.int (zi wh)), some (.int (zi s)), some (.int (zi z4)), some (.int (zi (k + (-1))))]) (S2 := []) rfl (by simp only [zi_add, zi_sub, zi_mul, zi_neg, zi_and1, zi_and7, zi_and15, zi_and31, zi_and255]) (by simp only [zi_add, zi_sub, zi_mul, zi_neg, zi_and1, zi_and7, zi_and15, zi_and31, zi_and255]) ?_
          exact gz_wk (ihlp5 hq12 (k + (-1)) fq12_0 fq12_1 (by omega) sq12 (by omega) (by omega) (by omega) (by omega) (by omega) s13 s14 efq12_0 efq12_1 pr16) (gLw.s (gLw.s (gLw.s (gLw.s (gLw.s gLw.z)))))
    exact gz_wk (lp5 _ h (z4 - 1) w0 b0 (Nat.lt_succ_self _) hS (by omega) (by omega) (by omega) (by omega) (by omega) eic ec2 ew0 eb0 hyof) (gLw.s (gLw.s (gLw.s (gLw.s (gLw.s gLw.z)))))
  · refine gy_ifF rfl (by decide) (by decide) (by omega) hc1 ?_
    refine gz_s 1 (pc' := 8) (L' := [some (.ref m), some (.int (zi wh)), some (.int (zi s)), none, none]) (S' := [.ref m]) rfl ?_
    refine gs_gtr rfl (by decide) rfl hS.1 tm rfl rfl rfl (fun c17 ec17 tc17 => ?_)
    refine gy_s 6 (pc' := 19) (L' := [some (.ref m), some (.int (zi wh)), some (.int (zi s)), none, none]) (S' := [.int (((zi 257) * (zi wh)) + (zi s)), .ref c17, .int (((zi 257) * (zi wh)) + (zi s)), .ref c17]) (L2 := [some (.ref m), some (.int (zi wh)), some (.int (zi s)), none, none]) (S2 := [.int (zi ((257 * wh) + s)), .ref c17, .int (zi ((257 * wh) + s)), .ref c17]) rfl (by simp only [zi_add, zi_sub, zi_mul, zi_neg, zi_and1, zi_and7, zi_and15, zi_and31, zi_and255]) (by simp only [zi_add, zi_sub, zi_mul, zi_neg, zi_and1, zi_and7, zi_and15, zi_and31, zi_and255]) ?_
    have hl18 : 514 ≤ h.2.2.2.1 c17 ∧ h.2.2.2.1 c17 ≤ 514 := gJ.rowl (G := gGG) hS.1 tc17 rfl
    refine gs_ald rfl (by decide) hS.1 tc17 rfl rfl rfl (by decide) (fun _ => rfl) (by omega) (by omega) (fun z19 ez19 az19 bz19 => ?_)
    refine gy_s 2 (pc' := 22) (L' := [some (.ref m), some (.int (zi wh)), some (.int (zi s)), none, none]) (S' := [.int ((zi z19) + (zi 1)), .int (zi ((257 * wh) + s)), .ref c17]) (L2 := [some (.ref m), some (.int (zi wh)), some (.int (zi s)), none, none]) (S2 := [.int (zi (z19 + 1)), .int (zi ((257 * wh) + s)), .ref c17]) rfl (by simp only [zi_add, zi_sub, zi_mul, zi_neg, zi_and1, zi_and7, zi_and15, zi_and31, zi_and255]) (by simp only [zi_add, zi_sub, zi_mul, zi_neg, zi_and1, zi_and7, zi_and15, zi_and31, zi_and255]) ?_
    have hol := gOf.le (i := (257 * wh) + s) (z := z19) tc17 ez19 (by omega) (by omega) (by omega) hyof
    have hl20 : 514 ≤ h.2.2.2.1 c17 ∧ h.2.2.2.1 c17 ≤ 514 := gJ.rowl (G := gGG) hS.1 tc17 rfl
    refine gs_ast rfl (by decide) hS tc17 rfl rfl rfl (by decide) (fun _ => rfl) (by omega) (by omega) (fun _ => (by decide : (36999 : Nat) ∈ ([1059, 1061, 1062, 32999, 36999] : List Nat))) (by omega) (by omega) (fun h21 sh21 eh21 fh21 => ?_)
    have s22 := (fh21 m 59 (fun q => absurd (((tm).symm.trans (congrArg ty q.1)).trans tc17) (by decide))).trans ew0
    have s23 := (fh21 m 62 (fun q => absurd (((tm).symm.trans (congrArg ty q.1)).trans tc17) (by decide))).trans eb0
    have s24 := (fh21 m 67 (fun q => absurd (((tm).symm.trans (congrArg ty q.1)).trans tc17) (by decide))).trans eic
    have s25 := (fh21 m 68 (fun q => absurd (((tm).symm.trans (congrArg ty q.1)).trans tc17) (by decide))).trans ec17
    have pr26 := gEl.set (i := (257 * wh) + s) (z := z19 + 1) uq tc17 (by decide) eh21 (by omega) (by omega)
    have hof2 : gOf ty (so0 + 1) h21 := by
      have e9 := gOf.put (i := (257 * wh) + s) (zo := z19) (z := z19 + 1) uq tc17 fh21 ez19 eh21 (by omega) (by omega) (by omega) (by omega) hyof
      rwa [show so0 - z19 + (z19 + 1) = so0 + 1 by omega] at e9
    exact gz_end (I := .return_) (len := 1) rfl (Or.inl rfl) ⟨sh21, w0, b0, so0 + 1, rfl, s22, (by omega), (by omega), s23, (by omega), (by omega), (by omega), (by omega), (by omega), (by omega), (by omega), (by omega), (by omega), hof2⟩
set_option maxRecDepth 20000 in
set_option maxHeartbeats 4000000 in
theorem mm_putFirst (d : Nat) {ty : Nat → Nat} {h : gH} (hJ : gJ rT 1027 ty h) (m : Nat) (tm : ty m = 1) (v : Int) (rv : (-2048) ≤ v ∧ v ≤ 2048) (ov : Int) (rov : 0 ≤ ov ∧ ov ≤ 4) (bt : Int) (rbt : 0 ≤ bt ∧ bt ≤ 3) (w0 : Int) (ew0 : h.2.2.2.2 m 59 = .int (zi w0)) (rw0 : 0 ≤ w0 ∧ w0 ≤ 60000) (b0 : Int) (eb0 : h.2.2.2.2 m 62 = .int (zi b0)) (rb0 : 0 ≤ b0 ∧ b0 ≤ 7) (ic : Int) (eic : h.2.2.2.2 m 67 = .int (zi ic)) (ric : 0 ≤ ic ∧ ic ≤ 1) (so0 : Int) (rso0 : 0 ≤ so0 ∧ so0 ≤ 3900) (pp0 : w0 ≤ 59800) (uq : gUq ty) (hyof : gOf ty so0 h) : gz gPP gGG gcn (d + 3) gt193 0 (gent [.ref m, .int (zi v), .int (zi ov), .int (zi bt)] 5) [] h (fun q _ => gSs rT 1027 ty [1059, 1061, 1062, 1074, 32999, 36999] h q.2.2 ∧ ∃ w1 b1 so1 : Int, gfin gt193 q.1 q.2.1 = some none ∧ q.2.2.2.2.2.2 m 59 = .int (zi w1) ∧ 0 ≤ w1 ∧ w1 ≤ 60000 ∧ q.2.2.2.2.2.2 m 62 = .int (zi b1) ∧ 0 ≤ b1 ∧ b1 ≤ 7 ∧ 0 ≤ so1 ∧ so1 ≤ 4000 ∧ (4 * w1 + b1 + 22 * so1 ≤ 4 * w0 + b0 + 22 * so0 + 35) ∧ (w0 ≤ w1) ∧ (so0 ≤ so1) ∧ (ic = 0 → (w1 = w0 ∧ b1 = b0)) ∧ (ic = 1 → so1 = so0) ∧ (gOf ty so1 q.2.2)) := by
  have hS : gSs rT 1027 ty [1059, 1061, 1062, 1074, 32999, 36999] h h := gSs.rf hJ
  refine gz_s 1 (pc' := 1) (L' := [some (.ref m), some (.int (zi v)), some (.int (zi ov)), some (.int (zi bt)), none]) (S' := [.int (zi ov)]) rfl ?_
  by_cases hc1 : (ov : Int) ≤ 0
  · refine gy_ifT (pc' := 14) rfl (by decide) (by decide) (by omega) hc1 ?_
    refine gz_s 2 (pc' := 16) (L' := [some (.ref m), some (.int (zi v)), some (.int (zi ov)), some (.int (zi bt)), none]) (S' := [.int (zi bt), .int (zi v)]) rfl ?_
    refine gy_shv rfl (by decide) (by omega) (by omega) (fun z2 az2 bz2 => ?_)
    refine gz_s 1 (pc' := 18) (L' := [some (.ref m), some (.int (zi v)), some (.int (zi ov)), some (.int (zi bt)), none]) (S' := [.ref m, .int (zi z2)]) rfl ?_
    refine gs_get rfl (by decide) rfl hS.1 tm rfl rfl rfl (fun z3 ez3 az3 bz3 => ?_)
    refine gy_s 5 (pc' := 27) (L' := [some (.ref m), some (.int (zi v)), some (.int (zi ov)), some (.int (zi bt)), some (.int ((zi z2) - (zi z3)))]) (S' := [.int (zi bt), .int (zi v), .ref m]) (L2 := [some (.ref m), some (.int (zi v)), some (.int (zi ov)), some (.int (zi bt)), some (.int (zi (z2 - z3)))]) (S2 := [.int (zi bt), .int (zi v), .ref m]) rfl (by simp only [zi_add, zi_sub, zi_mul, zi_neg, zi_and1, zi_and7, zi_and15, zi_and31, zi_and255]) (by simp only [zi_add, zi_sub, zi_mul, zi_neg, zi_and1, zi_and7, zi_and15, zi_and31, zi_and255]) ?_
    refine gy_shv rfl (by decide) (by omega) (by omega) (fun z4 az4 bz4 => ?_)
    refine gs_put rfl (by decide) rfl hS tm rfl rfl rfl rfl (Or.inl rfl) (by decide) (by omega) (by omega) (fun h5 sh5 eh5 fh5 => ?_)
    have pr6 := gOf.pt fh5 tm (by decide) hyof
    have s7 := (fh5 m 59 (fun q => absurd q.2 (by decide))).trans ew0
    have s8 := (fh5 m 62 (fun q => absurd q.2 (by decide))).trans eb0
    have s9 := (fh5 m 67 (fun q => absurd q.2 (by decide))).trans eic
    refine gz_s 3 (pc' := 35) (L' := [some (.ref m), some (.int (zi v)), some (.int (zi ov)), some (.int (zi bt)), some (.int (zi (z2 - z3)))]) (S' := [.int (zi (z2 - z3)), .int (zi 0), .ref m]) rfl ?_
    refine gz_call rfl (by decide) rfl (by decide) (by decide) (gcal_of rfl rfl rfl (Nat.le_of_ble_eq_true rfl) rfl) (mm_sizeOfNumber _ sh5.1 (z2 - z3) (by omega) ) (fun q10 _ wq10 => ?_)
    obtain ⟨pq10, oq10, hq10⟩ := q10
    obtain ⟨xq10, zq10, gq10, aq10, bq10⟩ := wq10
    refine ⟨_, gq10, ?_⟩
    show gz gPP gGG gcn _ _ 38 [some (.ref m), some (.int (zi v)), some (.int (zi ov)), some (.int (zi bt)), some (.int (zi (z2 - z3)))] [.int (zi zq10), .int (zi 0), .ref m] hq10 _
    have sq10 := gSs.tr sh5 xq10 (by decide)
    have s11 := (xq10.2.2.2.2.2 m 59 (by rw [tm]; decide)).trans s7
    have s12 := (xq10.2.2.2.2.2 m 62 (by rw [tm]; decide)).trans s8
    have s13 := (xq10.2.2.2.2.2 m 67 (by rw [tm]; decide)).trans s9
    have s14 := (xq10.2.2.2.2.2 m 74 (by rw [tm]; decide)).trans eh5
    have pr15 := gOf.fr xq10.2 (by decide) pr6
    refine gz_call rfl (by decide) rfl (by decide) (by decide) (gcal_of rfl rfl rfl (Nat.le_of_ble_eq_true rfl) (gJ.recv (G := gGG) sq10.1 tm rfl rfl)) (mm_putSymbol _ sq10.1 m tm 0 (by omega) zq10 (by omega) w0 s11 (by omega) b0 s12 (by omega) ic s13 (by omega) so0 (by omega) (by omega) uq pr15) (fun q16 _ wq16 => ?_)
    obtain ⟨pq16, oq16, hq16⟩ := q16
    obtain ⟨xq16, fq16_0, fq16_1, xq16_0, gq16, efq16_0, afq16_0, bfq16_0, efq16_1, afq16_1, bfq16_1, axq16_0, bxq16_0, uq16_0, uq16_1, uq16_2, uq16_3, uq16_4, yq16_0⟩ := wq16
    refine ⟨_, gq16, ?_⟩
    show gz gPP gGG gcn _ _ 41 [some (.ref m), some (.int (zi v)), some (.int (zi ov)), some (.int (zi bt)), some (.int (zi (z2 - z3)))] [] hq16 _
    have sq16 := gSs.tr sq10 xq16 (by decide)
    have s17 := (xq16.2.2.2.2.2 m 67 (by rw [tm]; decide)).trans s13
    have s18 := (xq16.2.2.2.2.2 m 74 (by rw [tm]; decide)).trans s14
    refine gz_s 3 (pc' := 46) (L' := [some (.ref m), some (.int (zi v)), some (.int (zi ov)), some (.int (zi bt)), some (.int (zi (z2 - z3)))]) (S' := [.int (zi (z2 - z3)), .int (zi (z2 - z3)), .ref m]) rfl ?_
    refine gz_call rfl (by decide) rfl (by decide) (by decide) (gcal_of rfl rfl rfl (Nat.le_of_ble_eq_true rfl) rfl) (mm_sizeOfNumber _ sq16.1 (z2 - z3) (by omega) ) (fun q19 _ wq19 => ?_)
    obtain ⟨pq19, oq19, hq19⟩ := q19
    obtain ⟨xq19, zq19, gq19, aq19, bq19⟩ := wq19
    refine ⟨_, gq19, ?_⟩
    show gz gPP gGG gcn _ _ 49 [some (.ref m), some (.int (zi v)), some (.int (zi ov)), some (.int (zi bt)), some (.int (zi (z2 - z3)))] [.int (zi zq19), .int (zi (z2 - z3)), .ref m] hq19 _
    have sq19 := gSs.tr sq16 xq19 (by decide)
    have s20 := (xq19.2.2.2.2.2 m 67 (by rw [tm]; decide)).trans s17
    have s21 := (xq19.2.2.2.2.2 m 74 (by rw [tm]; decide)).trans s18
    have s22 := (xq19.2.2.2.2.2 m 59 (by rw [tm]; decide)).trans efq16_0
    have s23 := (xq19.2.2.2.2.2 m 62 (by rw [tm]; decide)).trans efq16_1
    have pr24 := gOf.fr xq19.2 (by decide) yq16_0
    refine gz_call rfl (by decide) rfl (by decide) (by decide) (gcal_of rfl rfl rfl (Nat.le_of_ble_eq_true rfl) (gJ.recv (G := gGG) sq19.1 tm rfl rfl)) (mm_putNumber2 _ sq19.1 m tm (z2 - z3) (by omega) zq19 (by omega) fq16_0 s22 (by omega) fq16_1 s23 (by omega) ic s20 (by omega) (by omega)) (fun q25 _ wq25 => ?_)
    obtain ⟨pq25, oq25, hq25⟩ := q25
    obtain ⟨xq25, fq25_0, fq25_1, gq25, efq25_0, afq25_0, bfq25_0, efq25_1, afq25_1, bfq25_1, uq25_0, uq25_1, uq25_2⟩ := wq25
    refine ⟨_, gq25, ?_⟩
    show gz gPP gGG gcn _ _ 52 [some (.ref m), some (.int (zi v)), some (.int (zi ov)), some (.int (zi bt)), some (.int (zi (z2 - z3)))] [] hq25 _
    have sq25 := gSs.tr sq19 xq25 (by decide)
    have s26 := (xq25.2.2.2.2.2 m 67 (by rw [tm]; decide)).trans s20
    have s27 := (xq25.2.2.2.2.2 m 74 (by rw [tm]; decide)).trans s21
    have pr28 := gOf.fr xq25.2 (by decide) pr24
    exact gz_end (I := .return_) (len := 1) rfl (Or.inl rfl) ⟨sq25, fq25_0, fq25_1, xq16_0, rfl, efq25_0, (by omega), (by omega), efq25_1, (by omega), (by omega), (by omega), (by omega), (by omega), (by omega), (by omega), (by omega), (by omega), pr28⟩
  · refine gy_ifF rfl (by decide) (by decide) (by omega) hc1 ?_
    refine gz_s 3 (pc' := 7) (L' := [some (.ref m), some (.int (zi v)), some (.int (zi ov)), some (.int (zi bt)), none]) (S' := [.int (zi bt), .int (zi v), .ref m]) rfl ?_
    refine gy_shv rfl (by decide) (by omega) (by omega) (fun z29 az29 bz29 => ?_)
    refine gy_s 2 (pc' := 10) (L' := [some (.ref m), some (.int (zi v)), some (.int (zi ov)), some (.int (zi bt)), none]) (S' := [.int ((zi z29) &&& (zi 1)), .ref m]) (L2 := [some (.ref m), some (.int (zi v)), some (.int (zi ov)), some (.int (zi bt)), none]) (S2 := [.int (zi (z29 % 2)), .ref m]) rfl (by simp only [zi_add, zi_sub, zi_mul, zi_neg, zi_and1, zi_and7, zi_and15, zi_and31, zi_and255]) (by simp only [zi_add, zi_sub, zi_mul, zi_neg, zi_and1, zi_and7, zi_and15, zi_and31, zi_and255]) ?_
    refine gz_call rfl (by decide) rfl (by decide) (by decide) (gcal_of rfl rfl rfl (Nat.le_of_ble_eq_true rfl) (gJ.recv (G := gGG) hS.1 tm rfl rfl)) (mm_putBit2 _ hS.1 m tm (z29 % 2) (by omega) w0 ew0 (by omega) b0 eb0 (by omega) ic eic (by omega) (by omega)) (fun q30 _ wq30 => ?_)
    obtain ⟨pq30, oq30, hq30⟩ := q30
    obtain ⟨xq30, fq30_0, fq30_1, gq30, efq30_0, afq30_0, bfq30_0, efq30_1, afq30_1, bfq30_1, uq30_0, uq30_1, uq30_2, uq30_3⟩ := wq30
    refine ⟨_, gq30, ?_⟩
    show gz gPP gGG gcn _ _ 13 [some (.ref m), some (.int (zi v)), some (.int (zi ov)), some (.int (zi bt)), none] [] hq30 _
    have sq30 := gSs.tr hS xq30 (by decide)
    have s31 := (xq30.2.2.2.2.2 m 67 (by rw [tm]; decide)).trans eic
    have pr32 := gOf.fr xq30.2 (by decide) hyof
    exact gz_end (I := .return_) (len := 1) rfl (Or.inl rfl) ⟨sq30, fq30_0, fq30_1, so0, rfl, efq30_0, (by omega), (by omega), efq30_1, (by omega), (by omega), (by omega), (by omega), (by omega), (by omega), (by omega), (by omega), (by omega), pr32⟩
set_option maxRecDepth 20000 in
set_option maxHeartbeats 4000000 in
theorem mm_putOthers (d : Nat) {ty : Nat → Nat} {h : gH} (hJ : gJ rT 1027 ty h) (m : Nat) (tm : ty m = 1) (p : Int) (rp : 0 ≤ p ∧ p ≤ 960) (a : Int) (ra : 1 ≤ a ∧ a ≤ 63) (b : Int) (rb : 0 ≤ b ∧ b ≤ 63) (bt : Int) (rbt : 0 ≤ bt ∧ bt ≤ 3) (w0 : Int) (ew0 : h.2.2.2.2 m 59 = .int (zi w0)) (rw0 : 0 ≤ w0 ∧ w0 ≤ 60000) (b0 : Int) (eb0 : h.2.2.2.2 m 62 = .int (zi b0)) (rb0 : 0 ≤ b0 ∧ b0 ≤ 7) (ic : Int) (eic : h.2.2.2.2 m 67 = .int (zi ic)) (ric : 0 ≤ ic ∧ ic ≤ 1) (so0 : Int) (rso0 : 0 ≤ so0 ∧ so0 ≤ 3500) (pp0 : w0 ≤ 58000) (pp1 : a ≤ b + 1) (uq : gUq ty) (hyof : gOf ty so0 h) : gz gPP gGG gcn (d + 3) gt197 0 (gent [.ref m, .int (zi p), .int (zi a), .int (zi b), .int (zi bt)] 9) [] h (fun q _ => gSs rT 1027 ty [1059, 1061, 1062, 32999, 36999] h q.2.2 ∧ ∃ w1 b1 so1 : Int, gfin gt197 q.1 q.2.1 = some none ∧ q.2.2.2.2.2.2 m 59 = .int (zi w1) ∧ 0 ≤ w1 ∧ w1 ≤ 60000 ∧ q.2.2.2.2.2.2 m 62 = .int (zi b1) ∧ 0 ≤ b1 ∧ b1 ≤ 7 ∧ 0 ≤ so1 ∧ so1 ≤ 3700 ∧ (4 * w1 + b1 + 22 * so1 ≤ 4 * w0 + b0 + 22 * so0 + 35 * (b - a + 1) + 22) ∧ (w0 ≤ w1) ∧ (so0 ≤ so1) ∧ (ic = 0 → (w1 = w0 ∧ b1 = b0)) ∧ (ic = 1 → so1 = so0) ∧ (gOf ty so1 q.2.2)) := by
  have hS : gSs rT 1027 ty [1059, 1061, 1062, 32999, 36999] h h := gSs.rf hJ
  refine gz_s 4 (pc' := 6) (L' := [some (.ref m), some (.int (zi p)), some (.int (zi a)), some (.int (zi b)), some (.int (zi bt)), some (.int (zi 0)), some (.int (zi a)), none, none]) (S' := []) rfl ?_
  have lp1 : ∀ (fu : Nat) (h2 : gH) (zr : Int) (k : Int) (wv : Int) (bv : Int) (sov : Int), (65 - k).toNat < fu → gSs rT 1027 ty [1059, 1061, 1062, 32999, 36999] h h2 → (0 ≤ zr ∧ zr ≤ 63) → (1 ≤ k ∧ k ≤ 64) → (0 ≤ wv ∧ wv ≤ 60000) → (0 ≤ bv ∧ bv ≤ 7) → (0 ≤ sov ∧ sov ≤ 3900) → (4 * wv + bv + 22 * sov + 35 * zr ≤ 4 * w0 + b0 + 22 * so0 + 35 * (k - a)) → (w0 ≤ wv) → (so0 ≤ sov) → (ic = 0 → (wv = w0 ∧ bv = b0)) → (ic = 1 → sov = so0) → (zr ≤ k - a) → (a ≤ k) → (k ≤ b + 1) → h2.2.2.2.2 m 67 = .int (zi ic) → h2.2.2.2.2 m 59 = .int (zi wv) → h2.2.2.2.2 m 62 = .int (zi bv) → gOf ty sov h2 → gz gPP gGG gcn (d + 3) gt197 6 [some (.ref m), some (.int (zi p)), some (.int (zi a)), some (.int (zi b)), some (.int (zi bt)), some (.int (zi zr)), some (.int (zi k)), none, none] [] h2 (fun q _ => gSs rT 1027 ty [1059, 1061, 1062, 32999, 36999] h q.2.2 ∧ ∃ w1 b1 so1 : Int, gfin gt197 q.1 q.2.1 = some none ∧ q.2.2.2.2.2.2 m 59 = .int (zi w1) ∧ 0 ≤ w1 ∧ w1 ≤ 60000 ∧ q.2.2.2.2.2.2 m 62 = .int (zi b1) ∧ 0 ≤ b1 ∧ b1 ≤ 7 ∧ 0 ≤ so1 ∧ so1 ≤ 3700 ∧ (4 * w1 + b1 + 22 * so1 ≤ 4 * w0 + b0 + 22 * so0 + 35 * (b - a + 1) + 22) ∧ (w0 ≤ w1) ∧ (so0 ≤ so1) ∧ (ic = 0 → (w1 = w0 ∧ b1 = b0)) ∧ (ic = 1 → so1 = so0) ∧ (gOf ty so1 q.2.2)) := by
    intro fu
    induction fu with
    | zero => intro h2 zr k wv bv sov hm; exact absurd hm (Nat.not_lt_zero _)
    | succ fu ihlp1 =>
      intro h2 zr k wv bv sov lp1m sh2 lp1f0 lp1f1 lp1f2 lp1f3 lp1f4 lp1f5 lp1f6 lp1f7 lp1f8 lp1f9 lp1f10 lp1f11 lp1f12 lp1k0 lp1k1 lp1k2 lp1k3
      refine gz_s 2 (pc' := 9) (L' := [some (.ref m), some (.int (zi p)), some (.int (zi a)), some (.int (zi b)), some (.int (zi bt)), some (.int (zi zr)), some (.int (zi k)), none, none]) (S' := [.int (zi b), .int (zi k)]) rfl ?_
      by_cases hc3 : (b : Int) < k
      · refine gy_icT (pc' := 97) rfl (by decide) (by decide) (by omega) (by omega) hc3 ?_
        refine gz_s 1 (pc' := 99) (L' := [some (.ref m), some (.int (zi p)), some (.int (zi a)), some (.int (zi b)), some (.int (zi bt)), some (.int (zi zr)), some (.int (zi k)), none, none]) (S' := [.int (zi zr)]) rfl ?_
        by_cases hc4 : (zr : Int) ≤ 0
        · refine gy_ifT (pc' := 108) rfl (by decide) (by decide) (by omega) hc4 ?_
          exact gz_end (I := .return_) (len := 1) rfl (Or.inl rfl) ⟨sh2, wv, bv, sov, rfl, lp1k1, (by omega), (by omega), lp1k2, (by omega), (by omega), (by omega), (by omega), (by omega), (by omega), (by omega), (by omega), (by omega), lp1k3⟩
        · refine gy_ifF rfl (by decide) (by decide) (by omega) hc4 ?_
          refine gz_s 3 (pc' := 105) (L' := [some (.ref m), some (.int (zi p)), some (.int (zi a)), some (.int (zi b)), some (.int (zi bt)), some (.int (zi zr)), some (.int (zi k)), none, none]) (S' := [.int (zi 0), .int (zi 1), .ref m]) rfl ?_
          refine gz_call rfl (by decide) rfl (by decide) (by decide) (gcal_of rfl rfl rfl (Nat.le_of_ble_eq_true rfl) (gJ.recv (G := gGG) sh2.1 tm rfl rfl)) (mm_putSymbol _ sh2.1 m tm 1 (by omega) 0 (by omega) wv lp1k1 (by omega) bv lp1k2 (by omega) ic lp1k0 (by omega) sov (by omega) (by omega) uq lp1k3) (fun q5 _ wq5 => ?_)
          obtain ⟨pq5, oq5, hq5⟩ := q5
          obtain ⟨xq5, fq5_0, fq5_1, xq5_0, gq5, efq5_0, afq5_0, bfq5_0, efq5_1, afq5_1, bfq5_1, axq5_0, bxq5_0, uq5_0, uq5_1, uq5_2, uq5_3, uq5_4, yq5_0⟩ := wq5
          refine ⟨_, gq5, ?_⟩
          show gz gPP gGG gcn _ _ 108 [some (.ref m), some (.int (zi p)), some (.int (zi a)), some (.int (zi b)), some (.int (zi bt)), some (.int (zi zr)), some (.int (zi k)), none, none] [] hq5 _
          have sq5 := gSs.tr sh2 xq5 (by decide)
          have s6 := (xq5.2.2.2.2.2 m 67 (by rw [tm]; decide)).trans lp1k0
          exact gz_end (I := .return_) (len := 1) rfl (Or.inl rfl) ⟨sq5, fq5_0, fq5_1, xq5_0, rfl, efq5_0, (by omega), (by omega), efq5_1, (by omega), (by omega), (by omega), (by omega), (by omega), (by omega), (by omega), (by omega), (by omega), yq5_0⟩
      · refine gy_icF rfl (by decide) (by decide) (by omega) (by omega) hc3 ?_
        refine gy_s 5 (pc' := 19) (L' := [some (.ref m), some (.int (zi p)), some (.int (zi a)), some (.int (zi b)), some (.int (zi bt)), some (.int (zi zr)), some (.int (zi k)), none, none]) (S' := [.int (zi bt), .int ((zi p) + (zi k)), .ref m]) (L2 := [some (.ref m), some (.int (zi p)), some (.int (zi a)), some (.int (zi b)), some (.int (zi bt)), some (.int (zi zr)), some (.int (zi k)), none, none]) (S2 := [.int (zi bt), .int (zi (p + k)), .ref m]) rfl (by simp only [zi_add, zi_sub, zi_mul, zi_neg, zi_and1, zi_and7, zi_and15, zi_and31, zi_and255]) (by simp only [zi_add, zi_sub, zi_mul, zi_neg, zi_and1, zi_and7, zi_and15, zi_and31, zi_and255]) ?_
        refine gz_call rfl (by decide) rfl (by decide) (by decide) (gcal_of rfl rfl rfl (Nat.le_of_ble_eq_true rfl) (gJ.recv (G := gGG) sh2.1 tm rfl rfl)) (mm_shifted _ sh2.1 m tm (p + k) (by omega) bt (by omega) ) (fun q7 _ wq7 => ?_)
        obtain ⟨pq7, oq7, hq7⟩ := q7
        obtain ⟨xq7, zq7, gq7, aq7, bq7⟩ := wq7
        refine ⟨_, gq7, ?_⟩
        show gz gPP gGG gcn _ _ 22 [some (.ref m), some (.int (zi p)), some (.int (zi a)), some (.int (zi b)), some (.int (zi bt)), some (.int (zi zr)), some (.int (zi k)), none, none] [.int (zi zq7)] hq7 _
        have sq7 := gSs.tr sh2 xq7 (by decide)
        have s8 := (xq7.2.2.2.2.2 m 67 (by rw [tm]; decide)).trans lp1k0
        have s9 := (xq7.2.2.2.2.2 m 59 (by rw [tm]; decide)).trans lp1k1
        have s10 := (xq7.2.2.2.2.2 m 62 (by rw [tm]; decide)).trans lp1k2
        have pr11 := gOf.fr xq7.2 (by decide) lp1k3
        refine gz_s 2 (pc' := 26) (L' := [some (.ref m), some (.int (zi p)), some (.int (zi a)), some (.int (zi b)), some (.int (zi bt)), some (.int (zi zr)), some (.int (zi k)), some (.int (zi zq7)), none]) (S' := [.int (zi zq7)]) rfl ?_
        by_cases hc12 : ¬ (zq7 : Int) = 0
        · refine gy_ifT (pc' := 35) rfl (by decide) (by decide) (by omega) hc12 ?_
          have lp13 : ∀ (fu : Nat) (h14 : gH) (z2 : Int) (wv2 : Int) (bv2 : Int) (sov2 : Int), (z2 + 1).toNat < fu → gSs rT 1027 ty [1059, 1061, 1062, 32999, 36999] h h14 → (0 ≤ z2 ∧ z2 ≤ 63) → (0 ≤ wv2 ∧ wv2 ≤ 60000) → (0 ≤ bv2 ∧ bv2 ≤ 7) → (0 ≤ sov2 ∧ sov2 ≤ 3900) → (4 * wv2 + bv2 + 22 * sov2 + 35 * z2 ≤ 4 * w0 + b0 + 22 * so0 + 35 * (k - a)) → (w0 ≤ wv2) → (so0 ≤ sov2) → (ic = 0 → (wv2 = w0 ∧ bv2 = b0)) → (ic = 1 → sov2 = so0) → (z2 ≤ k - a) → h14.2.2.2.2 m 67 = .int (zi ic) → h14.2.2.2.2 m 59 = .int (zi wv2) → h14.2.2.2.2 m 62 = .int (zi bv2) → gOf ty sov2 h14 → gz gPP gGG gcn (d + 3) gt197 35 [some (.ref m), some (.int (zi p)), some (.int (zi a)), some (.int (zi b)), some (.int (zi bt)), some (.int (zi z2)), some (.int (zi k)), some (.int (zi zq7)), none] [] h14 (fun q _ => gSs rT 1027 ty [1059, 1061, 1062, 32999, 36999] h q.2.2 ∧ ∃ w1 b1 so1 : Int, gfin gt197 q.1 q.2.1 = some none ∧ q.2.2.2.2.2.2 m 59 = .int (zi w1) ∧ 0 ≤ w1 ∧ w1 ≤ 60000 ∧ q.2.2.2.2.2.2 m 62 = .int (zi b1) ∧ 0 ≤ b1 ∧ b1 ≤ 7 ∧ 0 ≤ so1 ∧ so1 ≤ 3700 ∧ (4 * w1 + b1 + 22 * so1 ≤ 4 * w0 + b0 + 22 * so0 + 35 * (b - a + 1) + 22) ∧ (w0 ≤ w1) ∧ (so0 ≤ so1) ∧ (ic = 0 → (w1 = w0 ∧ b1 = b0)) ∧ (ic = 1 → so1 = so0) ∧ (gOf ty so1 q.2.2)) := by
            intro fu
            induction fu with
            | zero => intro h14 z2 wv2 bv2 sov2 hm; exact absurd hm (Nat.not_lt_zero _)
            | succ fu ihlp13 =>
              intro h14 z2 wv2 bv2 sov2 lp13m sh14 lp13f0 lp13f1 lp13f2 lp13f3 lp13f4 lp13f5 lp13f6 lp13f7 lp13f8 lp13f9 lp13k0 lp13k1 lp13k2 lp13k3
              refine gz_s 2 (pc' := 39) (L' := [some (.ref m), some (.int (zi p)), some (.int (zi a)), some (.int (zi b)), some (.int (zi bt)), some (.int (zi z2)), some (.int (zi k)), some (.int (zi zq7)), none]) (S' := [.int (zi 15), .int (zi z2)]) rfl ?_
              by_cases hc15 : (z2 : Int) ≤ 15
              · refine gy_icT (pc' := 60) rfl (by decide) (by decide) (by omega) (by omega) hc15 ?_
                refine gz_s 1 (pc' := 62) (L' := [some (.ref m), some (.int (zi p)), some (.int (zi a)), some (.int (zi b)), some (.int (zi bt)), some (.int (zi z2)), some (.int (zi k)), some (.int (zi zq7)), none]) (S' := [.int (zi zq7)]) rfl ?_
                refine gz_call rfl (by decide) rfl (by decide) (by decide) (gcal_of rfl rfl rfl (Nat.le_of_ble_eq_true rfl) rfl) (mm_sizeOfNumber _ sh14.1 zq7 (by omega) ) (fun q16 _ wq16 => ?_)
                obtain ⟨pq16, oq16, hq16⟩ := q16
                obtain ⟨xq16, zq16, gq16, aq16, bq16⟩ := wq16
                refine ⟨_, gq16, ?_⟩
                show gz gPP gGG gcn _ _ 65 [some (.ref m), some (.int (zi p)), some (.int (zi a)), some (.int (zi b)), some (.int (zi bt)), some (.int (zi z2)), some (.int (zi k)), some (.int (zi zq7)), none] [.int (zi zq16)] hq16 _
                have sq16 := gSs.tr sh14 xq16 (by decide)
                have s17 := (xq16.2.2.2.2.2 m 67 (by rw [tm]; decide)).trans lp13k0
                have s18 := (xq16.2.2.2.2.2 m 59 (by rw [tm]; decide)).trans lp13k1
                have s19 := (xq16.2.2.2.2.2 m 62 (by rw [tm]; decide)).trans lp13k2
                have pr20 := gOf.fr xq16.2 (by decide) lp13k3
                refine gy_s 8 (pc' := 77) (L' := [some (.ref m), some (.int (zi p)), some (.int (zi a)), some (.int (zi b)), some (.int (zi bt)), some (.int (zi z2)), some (.int (zi k)), some (.int (zi zq7)), some (.int (zi zq16))]) (S' := [.int (((zi 16) * (zi z2)) + (zi zq16)), .int (zi 1), .ref m]) (L2 := [some (.ref m), some (.int (zi p)), some (.int (zi a)), some (.int (zi b)), some (.int (zi bt)), some (.int (zi z2)), some (.int (zi k)), some (.int (zi zq7)), some (.int (zi zq16))]) (S2 := [.int (zi ((16 * z2) + zq16)), .int (zi 1), .ref m]) rfl (by simp only [zi_add, zi_sub, zi_mul, zi_neg, zi_and1, zi_and7, zi_and15, zi_and31, zi_and255]) (by simp only [zi_add, zi_sub, zi_mul, zi_neg, zi_and1, zi_and7, zi_and15, zi_and31, zi_and255]) ?_
                refine gz_call rfl (by decide) rfl (by decide) (by decide) (gcal_of rfl rfl rfl (Nat.le_of_ble_eq_true rfl) (gJ.recv (G := gGG) sq16.1 tm rfl rfl)) (mm_putSymbol _ sq16.1 m tm 1 (by omega) ((16 * z2) + zq16) (by omega) wv2 s18 (by omega) bv2 s19 (by omega) ic s17 (by omega) sov2 (by omega) (by omega) uq pr20) (fun q21 _ wq21 => ?_)
                obtain ⟨pq21, oq21, hq21⟩ := q21
                obtain ⟨xq21, fq21_0, fq21_1, xq21_0, gq21, efq21_0, afq21_0, bfq21_0, efq21_1, afq21_1, bfq21_1, axq21_0, bxq21_0, uq21_0, uq21_1, uq21_2, uq21_3, uq21_4, yq21_0⟩ := wq21
                refine ⟨_, gq21, ?_⟩
                show gz gPP gGG gcn _ _ 80 [some (.ref m), some (.int (zi p)), some (.int (zi a)), some (.int (zi b)), some (.int (zi bt)), some (.int (zi z2)), some (.int (zi k)), some (.int (zi zq7)), some (.int (zi zq16))] [] hq21 _
                have sq21 := gSs.tr sq16 xq21 (by decide)
                have s22 := (xq21.2.2.2.2.2 m 67 (by rw [tm]; decide)).trans s17
                refine gz_s 3 (pc' := 85) (L' := [some (.ref m), some (.int (zi p)), some (.int (zi a)), some (.int (zi b)), some (.int (zi bt)), some (.int (zi z2)), some (.int (zi k)), some (.int (zi zq7)), some (.int (zi zq16))]) (S' := [.int (zi zq16), .int (zi zq7), .ref m]) rfl ?_
                refine gz_call rfl (by decide) rfl (by decide) (by decide) (gcal_of rfl rfl rfl (Nat.le_of_ble_eq_true rfl) (gJ.recv (G := gGG) sq21.1 tm rfl rfl)) (mm_putNumber2 _ sq21.1 m tm zq7 (by omega) zq16 (by omega) fq21_0 efq21_0 (by omega) fq21_1 efq21_1 (by omega) ic s22 (by omega) (by omega)) (fun q23 _ wq23 => ?_)
                obtain ⟨pq23, oq23, hq23⟩ := q23
                obtain ⟨xq23, fq23_0, fq23_1, gq23, efq23_0, afq23_0, bfq23_0, efq23_1, afq23_1, bfq23_1, uq23_0, uq23_1, uq23_2⟩ := wq23
                refine ⟨_, gq23, ?_⟩
                show gz gPP gGG gcn _ _ 88 [some (.ref m), some (.int (zi p)), some (.int (zi a)), some (.int (zi b)), some (.int (zi bt)), some (.int (zi z2)), some (.int (zi k)), some (.int (zi zq7)), some (.int (zi zq16))] [] hq23 _
                have sq23 := gSs.tr sq21 xq23 (by decide)
                have s24 := (xq23.2.2.2.2.2 m 67 (by rw [tm]; decide)).trans s22
                have pr25 := gOf.fr xq23.2 (by decide) yq21_0
                refine gy_s 4 (pc' := 6) (L' := [some (.ref m), some (.int (zi p)), some (.int (zi a)), some (.int (zi b)), some (.int (zi bt)), some (.int (zi 0)), some (.int ((zi k) + zi 1)), some (.int (zi zq7)), some (.int (zi zq16))]) (S' := []) (L2 := [some (.ref m), some (.int (zi p)), some (.int (zi a)), some (.int (zi b)), some (.int (zi bt)), some (.int (zi 0)), some (.int (zi (k + 1))), some (.int (zi zq7)), some (.int (zi zq16))]) (S2 := []) rfl (by simp only [zi_add, zi_sub, zi_mul, zi_neg, zi_and1, zi_and7, zi_and15, zi_and31, zi_and255]) (by simp only [zi_add, zi_sub, zi_mul, zi_neg, zi_and1, zi_and7, zi_and15, zi_and31, zi_and255]) ?_
                exact gz_wk (ihlp1 hq23 0 (k + 1) fq23_0 fq23_1 xq21_0 (by omega) sq23 (by omega) (by omega) (by omega) (by omega) (by omega) (by omega) (by omega) (by omega) (by omega) (by omega) (by omega) (by omega) (by omega) s24 efq23_0 efq23_1 pr25) (gLw.s (gLw.s (gLw.s (gLw.s (gLw.s (gLw.s (gLw.s (gLw.n (gLw.n gLw.z)))))))))
              · refine gy_icF rfl (by decide) (by decide) (by omega) (by omega) hc15 ?_
                refine gz_s 3 (pc' := 47) (L' := [some (.ref m), some (.int (zi p)), some (.int (zi a)), some (.int (zi b)), some (.int (zi bt)), some (.int (zi z2)), some (.int (zi k)), some (.int (zi zq7)), none]) (S' := [.int (zi 240), .int (zi 1), .ref m]) rfl ?_
                refine gz_call rfl (by decide) rfl (by decide) (by decide) (gcal_of rfl rfl rfl (Nat.le_of_ble_eq_true rfl) (gJ.recv (G := gGG) sh14.1 tm rfl rfl)) (mm_putSymbol _ sh14.1 m tm 1 (by omega) 240 (by omega) wv2 lp13k1 (by omega) bv2 lp13k2 (by omega) ic lp13k0 (by omega) sov2 (by omega) (by omega) uq lp13k3) (fun q26 _ wq26 => ?_)
                obtain ⟨pq26, oq26, hq26⟩ := q26
                obtain ⟨xq26, fq26_0, fq26_1, xq26_0, gq26, efq26_0, afq26_0, bfq26_0, efq26_1, afq26_1, bfq26_1, axq26_0, bxq26_0, uq26_0, uq26_1, uq26_2, uq26_3, uq26_4, yq26_0⟩ := wq26
                refine ⟨_, gq26, ?_⟩
                show gz gPP gGG gcn _ _ 50 [some (.ref m), some (.int (zi p)), some (.int (zi a)), some (.int (zi b)), some (.int (zi bt)), some (.int (zi z2)), some (.int (zi k)), some (.int (zi zq7)), none] [] hq26 _
                have sq26 := gSs.tr sh14 xq26 (by decide)
                have s27 := (xq26.2.2.2.2.2 m 67 (by rw [tm]; decide)).trans lp13k0
                refine gy_s 5 (pc' := 35) (L' := [some (.ref m), some (.int (zi p)), some (.int (zi a)), some (.int (zi b)), some (.int (zi bt)), some (.int ((zi z2) - (zi 16))), some (.int (zi k)), some (.int (zi zq7)), none]) (S' := []) (L2 := [some (.ref m), some (.int (zi p)), some (.int (zi a)), some (.int (zi b)), some (.int (zi bt)), some (.int (zi (z2 - 16))), some (.int (zi k)), some (.int (zi zq7)), none]) (S2 := []) rfl (by simp only [zi_add, zi_sub, zi_mul, zi_neg, zi_and1, zi_and7, zi_and15, zi_and31, zi_and255]) (by simp only [zi_add, zi_sub, zi_mul, zi_neg, zi_and1, zi_and7, zi_and15, zi_and31, zi_and255]) ?_
                exact gz_wk (ihlp13 hq26 (z2 - 16) fq26_0 fq26_1 xq26_0 (by omega) sq26 (by omega) (by omega) (by omega) (by omega) (by omega) (by omega) (by omega) (by omega) (by omega) (by omega) s27 efq26_0 efq26_1 yq26_0) (gLw.s (gLw.s (gLw.s (gLw.s (gLw.s (gLw.s (gLw.s (gLw.s (gLw.n gLw.z)))))))))
          exact gz_wk (lp13 _ hq7 zr wv bv sov (Nat.lt_succ_self _) sq7 (by omega) (by omega) (by omega) (by omega) (by omega) (by omega) (by omega) (by omega) (by omega) (by omega) s8 s9 s10 pr11) (gLw.s (gLw.s (gLw.s (gLw.s (gLw.s (gLw.s (gLw.s (gLw.s (gLw.n gLw.z)))))))))
        · refine gy_ifF rfl (by decide) (by decide) (by omega) hc12 ?_
          refine gy_s 4 (pc' := 6) (L' := [some (.ref m), some (.int (zi p)), some (.int (zi a)), some (.int (zi b)), some (.int (zi bt)), some (.int ((zi zr) + zi 1)), some (.int ((zi k) + zi 1)), some (.int (zi zq7)), none]) (S' := []) (L2 := [some (.ref m), some (.int (zi p)), some (.int (zi a)), some (.int (zi b)), some (.int (zi bt)), some (.int (zi (zr + 1))), some (.int (zi (k + 1))), some (.int (zi zq7)), none]) (S2 := []) rfl (by simp only [zi_add, zi_sub, zi_mul, zi_neg, zi_and1, zi_and7, zi_and15, zi_and31, zi_and255]) (by simp only [zi_add, zi_sub, zi_mul, zi_neg, zi_and1, zi_and7, zi_and15, zi_and31, zi_and255]) ?_
          exact gz_wk (ihlp1 hq7 (zr + 1) (k + 1) wv bv sov (by omega) sq7 (by omega) (by omega) (by omega) (by omega) (by omega) (by omega) (by omega) (by omega) (by omega) (by omega) (by omega) (by omega) (by omega) s8 s9 s10 pr11) (gLw.s (gLw.s (gLw.s (gLw.s (gLw.s (gLw.s (gLw.s (gLw.n (gLw.n gLw.z)))))))))
  exact gz_wk (lp1 _ h 0 a w0 b0 so0 (Nat.lt_succ_self _) hS (by omega) (by omega) (by omega) (by omega) (by omega) (by omega) (by omega) (by omega) (by omega) (by omega) (by omega) (by omega) (by omega) eic ew0 eb0 hyof) (gLw.s (gLw.s (gLw.s (gLw.s (gLw.s (gLw.s (gLw.s (gLw.n (gLw.n gLw.z)))))))))
