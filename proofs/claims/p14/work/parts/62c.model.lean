/-! ===== the model: methods (by program) ===== -/
set_option maxRecDepth 20000 in
set_option maxHeartbeats 4000000 in
theorem mm_bandOf (d : Nat) {ty : Nat → Nat} {h : gH} (hJ : gJ rT 1027 ty h) (m : Nat) (tm : ty m = 1) (b : Int) (rb : (-2147483648) ≤ b ∧ b ≤ 2147483647) (bs : Int) (ebs : h.2.2.2.2 m 20 = .int (zi bs)) (rbs : 1 ≤ bs ∧ bs ≤ 3) : gz gPP gGG gcn (d + 0) gt171 0 (gent [.ref m, .int (zi b)] 4) [] h (fun q _ => gSs rT 1027 ty [] h q.2.2 ∧ ∃ z : Int, gfin gt171 q.1 q.2.1 = some (some (.int (zi z))) ∧ 0 ≤ z ∧ z ≤ 2 ∧ (z < bs)) := by
  have hS : gSs rT 1027 ty [] h h := gSs.rf hJ
  refine gz_s 4 (pc' := 4) (L' := [some (.ref m), some (.int (zi b)), some (.int (zi 0)), some (.int (zi 1))]) (S' := []) rfl ?_
  have lp1 : ∀ (fu : Nat) (h2 : gH) (it : Int) (k : Int), (4 - k).toNat < fu → gSs rT 1027 ty [] h h2 → (0 ≤ it ∧ it ≤ 2) → (1 ≤ k ∧ k ≤ 3) → (it < bs) → h2.2.2.2.2 m 20 = .int (zi bs) → gz gPP gGG gcn (d + 0) gt171 4 [some (.ref m), some (.int (zi b)), some (.int (zi it)), some (.int (zi k))] [] h2 (fun q _ => gSs rT 1027 ty [] h q.2.2 ∧ ∃ z : Int, gfin gt171 q.1 q.2.1 = some (some (.int (zi z))) ∧ 0 ≤ z ∧ z ≤ 2 ∧ (z < bs)) := by
    intro fu
    induction fu with
    | zero => intro h2 it k hm; exact absurd hm (Nat.not_lt_zero _)
    | succ fu ihlp1 =>
      intro h2 it k lp1m sh2 lp1f0 lp1f1 lp1f2 lp1k0
      refine gz_s 2 (pc' := 6) (L' := [some (.ref m), some (.int (zi b)), some (.int (zi it)), some (.int (zi k))]) (S' := [.ref m, .int (zi k)]) rfl ?_
      refine gs_gtk rfl (by decide) rfl sh2.1 tm rfl rfl lp1k0 ?_
      by_cases hc3 : (bs : Int) ≤ k
      · refine gy_icT (pc' := 34) rfl (by decide) (by decide) (by omega) (by omega) hc3 ?_
        refine gz_s 1 (pc' := 35) (L' := [some (.ref m), some (.int (zi b)), some (.int (zi it)), some (.int (zi k))]) (S' := [.int (zi it)]) rfl ?_
        exact gz_end (I := .ireturn) (len := 1) rfl (Or.inl rfl) ⟨sh2, it, rfl, (by omega), (by omega), (by omega)⟩
      · refine gy_icF rfl (by decide) (by decide) (by omega) (by omega) hc3 ?_
        refine gz_s 2 (pc' := 14) (L' := [some (.ref m), some (.int (zi b)), some (.int (zi it)), some (.int (zi k))]) (S' := [.ref m, .int (zi b)]) rfl ?_
        refine gs_gtr rfl (by decide) rfl sh2.1 tm rfl rfl rfl (fun c4 ec4 tc4 => ?_)
        refine gz_s 1 (pc' := 18) (L' := [some (.ref m), some (.int (zi b)), some (.int (zi it)), some (.int (zi k))]) (S' := [.int (zi k), .ref c4, .int (zi b)]) rfl ?_
        have hl5 : 3 ≤ h2.2.2.2.1 c4 ∧ h2.2.2.2.1 c4 ≤ 3 := gJ.rowl (G := gGG) sh2.1 tc4 rfl
        refine gs_ald rfl (by decide) sh2.1 tc4 rfl rfl rfl (by decide) (fun _ => rfl) (by omega) (by omega) (fun z6 ez6 az6 bz6 => ?_)
        by_cases hc7 : (b : Int) < z6
        · refine gy_icT (pc' := 26) rfl (by decide) (by decide) (by omega) (by omega) hc7 ?_
          refine gy_s 4 (pc' := 4) (L' := [some (.ref m), some (.int (zi b)), some (.int (zi it)), some (.int ((zi k) + zi 1))]) (S' := []) (L2 := [some (.ref m), some (.int (zi b)), some (.int (zi it)), some (.int (zi (k + 1)))]) (S2 := []) rfl (by simp only [zi_add, zi_sub, zi_mul, zi_neg, zi_and1, zi_and7, zi_and15, zi_and31, zi_and255]) (by simp only [zi_add, zi_sub, zi_mul, zi_neg, zi_and1, zi_and7, zi_and15, zi_and31, zi_and255]) ?_
          exact gz_wk (ihlp1 h2 it (k + 1) (by omega) sh2 (by omega) (by omega) (by omega) lp1k0) (gLw.s (gLw.s (gLw.s (gLw.s gLw.z))))
        · refine gy_icF rfl (by decide) (by decide) (by omega) (by omega) hc7 ?_
          refine gy_s 5 (pc' := 4) (L' := [some (.ref m), some (.int (zi b)), some (.int (zi k)), some (.int ((zi k) + zi 1))]) (S' := []) (L2 := [some (.ref m), some (.int (zi b)), some (.int (zi k)), some (.int (zi (k + 1)))]) (S2 := []) rfl (by simp only [zi_add, zi_sub, zi_mul, zi_neg, zi_and1, zi_and7, zi_and15, zi_and31, zi_and255]) (by simp only [zi_add, zi_sub, zi_mul, zi_neg, zi_and1, zi_and7, zi_and15, zi_and31, zi_and255]) ?_
          exact gz_wk (ihlp1 h2 k (k + 1) (by omega) sh2 (by omega) (by omega) (by omega) lp1k0) (gLw.s (gLw.s (gLw.s (gLw.s gLw.z))))
  exact gz_wk (lp1 _ h 0 1 (Nat.lt_succ_self _) hS (by omega) (by omega) (by omega) ebs) (gLw.s (gLw.s (gLw.s (gLw.s gLw.z))))
set_option maxRecDepth 20000 in
set_option maxHeartbeats 4000000 in
theorem mm_coefficient (d : Nat) {ty : Nat → Nat} {h : gH} (hJ : gJ rT 1027 ty h) (m : Nat) (tm : ty m = 1) (b : Int) (rb : (-2147483648) ≤ b ∧ b ≤ 2147483647) (i : Int) (ri : (-2147483648) ≤ i ∧ i ≤ 2147483647) : gz gPP gGG gcn (d + 1) gt174 0 (gent [.ref m, .int (zi b), .int (zi i)] 3) [] h (fun q _ => gSs rT 1027 ty [1000] h q.2.2 ∧ ∃ z : Int, gfin gt174 q.1 q.2.1 = some (some (.int (zi z))) ∧ (-2147483648) ≤ z ∧ z ≤ 2147483647) := by
  have hS : gSs rT 1027 ty [1000] h h := gSs.rf hJ
  refine gz_s 4 (pc' := 4) (L' := [some (.ref m), some (.int (zi b)), some (.int (zi i))]) (S' := [.int (zi i), .int (zi b), .ref m, .ref m]) rfl ?_
  obtain ⟨z1, ez1, az1, bz1⟩ := gJ.int (k := 16) (G := gGG) hS.1 tm rfl rfl rfl
  obtain ⟨z2, ez2, az2, bz2⟩ := gJ.int (k := 23) (G := gGG) hS.1 tm rfl rfl rfl
  refine gz_call rfl (by decide) rfl (by decide) (by decide) (gcal_of rfl rfl rfl (Nat.le_of_ble_eq_true rfl) (gJ.recv (G := gGG) hS.1 tm rfl rfl)) (mm_isBlock _ hS.1 m tm b (by omega) i (by omega) z1 ez1 (by omega) z2 ez2 (by omega)) (fun q3 _ wq3 => ?_)
  obtain ⟨pq3, oq3, hq3⟩ := q3
  obtain ⟨xq3, zq3, gq3, aq3, bq3, uq3_0⟩ := wq3
  refine ⟨_, gq3, ?_⟩
  show gz gPP gGG gcn _ _ 7 [some (.ref m), some (.int (zi b)), some (.int (zi i))] [.int (zi zq3), .ref m] hq3 _
  have sq3 := gSs.tr hS xq3 (by decide)
  have s4 := (xq3.2.2.2.2.2 m 16 (by rw [tm]; decide)).trans ez1
  have s5 := (xq3.2.2.2.2.2 m 23 (by rw [tm]; decide)).trans ez2
  by_cases hc6 : (zq3 : Int) = 0
  · refine gy_ifT (pc' := 14) rfl (by decide) (by decide) (by omega) hc6 ?_
    refine gz_s 1 (pc' := 15) (L' := [some (.ref m), some (.int (zi b)), some (.int (zi i))]) (S' := [.int (zi 1), .ref m]) rfl ?_
    refine gs_put rfl (by decide) rfl sq3 tm rfl rfl rfl rfl (Or.inl rfl) (by decide) (by omega) (by omega) (fun h7 sh7 eh7 fh7 => ?_)
    have s8 := (fh7 m 16 (fun q => absurd q.2 (by decide))).trans s4
    have s9 := (fh7 m 23 (fun q => absurd q.2 (by decide))).trans s5
    refine gz_s 1 (pc' := 19) (L' := [some (.ref m), some (.int (zi b)), some (.int (zi i))]) (S' := [.ref m]) rfl ?_
    refine gs_gtk rfl (by decide) rfl sh7.1 tm rfl rfl eh7 ?_
    refine gy_ifF rfl (by decide) (by decide) (by omega) (by first | (simp [zc]; done) | (simp only [zc]; omega)) ?_
    refine gz_s 2 (pc' := 40) (L' := [some (.ref m), some (.int (zi b)), some (.int (zi i))]) (S' := [.int (zi 0)]) rfl ?_
    exact gz_end (I := .ireturn) (len := 1) rfl (Or.inl rfl) ⟨sh7, 0, rfl, (by omega), (by omega)⟩
  · refine gy_ifF rfl (by decide) (by decide) (by omega) hc6 ?_
    refine gz_s 2 (pc' := 15) (L' := [some (.ref m), some (.int (zi b)), some (.int (zi i))]) (S' := [.int (zi 0), .ref m]) rfl ?_
    refine gs_put rfl (by decide) rfl sq3 tm rfl rfl rfl rfl (Or.inl rfl) (by decide) (by omega) (by omega) (fun h10 sh10 eh10 fh10 => ?_)
    have s11 := (fh10 m 16 (fun q => absurd q.2 (by decide))).trans s4
    have s12 := (fh10 m 23 (fun q => absurd q.2 (by decide))).trans s5
    refine gz_s 1 (pc' := 19) (L' := [some (.ref m), some (.int (zi b)), some (.int (zi i))]) (S' := [.ref m]) rfl ?_
    refine gs_gtk rfl (by decide) rfl sh10.1 tm rfl rfl eh10 ?_
    refine gy_ifT (pc' := 29) rfl (by decide) (by decide) (by omega) (by first | (simp [zc]; done) | (simp only [zc]; omega)) ?_
    refine gz_s 1 (pc' := 30) (L' := [some (.ref m), some (.int (zi b)), some (.int (zi i))]) (S' := [.ref m]) rfl ?_
    refine gs_gtr rfl (by decide) rfl sh10.1 tm rfl rfl rfl (fun c13 ec13 tc13 => ?_)
    refine gy_s 5 (pc' := 39) (L' := [some (.ref m), some (.int (zi b)), some (.int (zi i))]) (S' := [.int (((zi 64) * (zi b)) + (zi i)), .ref c13]) (L2 := [some (.ref m), some (.int (zi b)), some (.int (zi i))]) (S2 := [.int (zi ((64 * b) + i)), .ref c13]) rfl (by simp only [zi_add, zi_sub, zi_mul, zi_neg, zi_and1, zi_and7, zi_and15, zi_and31, zi_and255]) (by simp only [zi_add, zi_sub, zi_mul, zi_neg, zi_and1, zi_and7, zi_and15, zi_and31, zi_and255]) ?_
    have hl14 : 12288 ≤ h10.2.2.2.1 c13 ∧ h10.2.2.2.1 c13 ≤ 12288 := gJ.rowl (G := gGG) sh10.1 tc13 rfl
    refine gs_ald rfl (by decide) sh10.1 tc13 rfl rfl rfl (by decide) (fun _ => rfl) (by omega) (by omega) (fun z15 ez15 az15 bz15 => ?_)
    exact gz_end (I := .ireturn) (len := 1) rfl (Or.inl rfl) ⟨sh10, z15, rfl, (by omega), (by omega)⟩
set_option maxRecDepth 20000 in
set_option maxHeartbeats 4000000 in
theorem mm_findHeight (d : Nat) {ty : Nat → Nat} {h : gH} (hJ : gJ rT 1027 ty h) (m : Nat) (tm : ty m = 1) (wh : Int) (rwh : 0 ≤ wh ∧ wh ≤ 4000) (f0 : Int) (ef0 : h.2.2.2.2 m 7 = .int (zi f0)) (rf0 : (-1) ≤ f0 ∧ f0 ≤ 4000) (sz : Int) (esz : h.2.2.2.2 m 3 = .int (zi sz)) (rsz : 0 ≤ sz ∧ sz ≤ 2000) : gz gPP gGG gcn (d + 1) gt166 0 (gent [.ref m, .int (zi wh)] 3) [] h (fun q _ => gSs rT 1027 ty [1007] h q.2.2 ∧ ∃ z f1 : Int, gfin gt166 q.1 q.2.1 = some (some (.int (zi z))) ∧ 0 ≤ z ∧ z ≤ 65535 ∧ q.2.2.2.2.2.2 m 7 = .int (zi f1) ∧ (-1) ≤ f1 ∧ f1 ≤ 4000 ∧ (f1 = -1 → f0 = -1)) := by
  have hS : gSs rT 1027 ty [1007] h h := gSs.rf hJ
  refine gz_s 1 (pc' := 1) (L' := [some (.ref m), some (.int (zi wh)), none]) (S' := [.ref m]) rfl ?_
  refine gs_get rfl (by decide) rfl hS.1 tm rfl rfl rfl (fun z1 ez1 az1 bz1 => ?_)
  refine gz_s 1 (pc' := 5) (L' := [some (.ref m), some (.int (zi wh)), some (.int (zi z1))]) (S' := []) rfl ?_
  have lp2 : ∀ (fu : Nat) (h3 : gH) (q : Int), (5000 - q).toNat < fu → gSs rT 1027 ty [1007] h h3 → (0 ≤ q ∧ q ≤ 4000) → h3.2.2.2.2 m 7 = .int (zi f0) → h3.2.2.2.2 m 3 = .int (zi sz) → h3.2.2.2.2 m 6 = .int (zi z1) → gz gPP gGG gcn (d + 1) gt166 5 [some (.ref m), some (.int (zi wh)), some (.int (zi q))] [] h3 (fun q _ => gSs rT 1027 ty [1007] h q.2.2 ∧ ∃ z f1 : Int, gfin gt166 q.1 q.2.1 = some (some (.int (zi z))) ∧ 0 ≤ z ∧ z ≤ 65535 ∧ q.2.2.2.2.2.2 m 7 = .int (zi f1) ∧ (-1) ≤ f1 ∧ f1 ≤ 4000 ∧ (f1 = -1 → f0 = -1)) := by
    intro fu
    induction fu with
    | zero => intro h3 q hm; exact absurd hm (Nat.not_lt_zero _)
    | succ fu ihlp2 =>
      intro h3 q lp2m sh3 lp2f0 lp2k0 lp2k1 lp2k2
      refine gy_s 4 (pc' := 9) (L' := [some (.ref m), some (.int (zi wh)), some (.int (zi q))]) (S' := [.ref m, .int ((zi q) + (zi 5))]) (L2 := [some (.ref m), some (.int (zi wh)), some (.int (zi q))]) (S2 := [.ref m, .int (zi (q + 5))]) rfl (by simp only [zi_add, zi_sub, zi_mul, zi_neg, zi_and1, zi_and7, zi_and15, zi_and31, zi_and255]) (by simp only [zi_add, zi_sub, zi_mul, zi_neg, zi_and1, zi_and7, zi_and15, zi_and31, zi_and255]) ?_
      refine gs_gtk rfl (by decide) rfl sh3.1 tm rfl rfl lp2k1 ?_
      by_cases hc4 : (sz : Int) ≤ q + 5
      · refine gy_icT (pc' := 92) rfl (by decide) (by decide) (by omega) (by omega) hc4 ?_
        refine gz_s 3 (pc' := 95) (L' := [some (.ref m), some (.int (zi wh)), some (.int (zi q))]) (S' := [.int (zi wh), .int (zi 0), .ref m]) rfl ?_
        refine gz_call rfl (by decide) rfl (by decide) (by decide) (gcal_of rfl rfl rfl (Nat.le_of_ble_eq_true rfl) (gJ.recv (G := gGG) sh3.1 tm rfl rfl)) (mm_must _ sh3.1 m tm 0 (by omega) wh (by omega) f0 lp2k0 (by omega)) (fun q5 _ wq5 => ?_)
        obtain ⟨pq5, oq5, hq5⟩ := q5
        obtain ⟨xq5, zq5, fq5_0, gq5, aq5, bq5, efq5_0, afq5_0, bfq5_0, uq5_0, uq5_1⟩ := wq5
        refine ⟨_, gq5, ?_⟩
        show gz gPP gGG gcn _ _ 98 [some (.ref m), some (.int (zi wh)), some (.int (zi q))] [.int (zi zq5)] hq5 _
        have sq5 := gSs.tr sh3 xq5 (by decide)
        have s6 := (xq5.2.2.2.2.2 m 3 (by rw [tm]; decide)).trans lp2k1
        have s7 := (xq5.2.2.2.2.2 m 6 (by rw [tm]; decide)).trans lp2k2
        refine gz_s 2 (pc' := 100) (L' := [some (.ref m), some (.int (zi wh)), some (.int (zi q))]) (S' := [.int (zi 0)]) rfl ?_
        exact gz_end (I := .ireturn) (len := 1) rfl (Or.inl rfl) ⟨sq5, 0, fq5_0, rfl, (by omega), (by omega), efq5_0, (by omega), (by omega), (by omega)⟩
      · refine gy_icF rfl (by decide) (by decide) (by omega) (by omega) hc4 ?_
        refine gz_s 1 (pc' := 16) (L' := [some (.ref m), some (.int (zi wh)), some (.int (zi q))]) (S' := [.ref m]) rfl ?_
        refine gs_gtr rfl (by decide) rfl sh3.1 tm rfl rfl rfl (fun c8 ec8 tc8 => ?_)
        refine gz_s 1 (pc' := 20) (L' := [some (.ref m), some (.int (zi wh)), some (.int (zi q))]) (S' := [.int (zi q), .ref c8]) rfl ?_
        have hl9 : 2000 ≤ h3.2.2.2.1 c8 ∧ h3.2.2.2.1 c8 ≤ 2000 := gJ.rowl (G := gGG) sh3.1 tc8 rfl
        refine gs_ald rfl (by decide) sh3.1 tc8 rfl rfl rfl (by decide) (fun _ => rfl) (by omega) (by omega) (fun z10 ez10 az10 bz10 => ?_)
        refine gz_s 1 (pc' := 24) (L' := [some (.ref m), some (.int (zi wh)), some (.int (zi q))]) (S' := [.int (zi 255), .int (zi z10)]) rfl ?_
        by_cases hc11 : ¬ (z10 : Int) = 255
        · refine gy_icT (pc' := 86) rfl (by decide) (by decide) (by omega) (by omega) hc11 ?_
          refine gy_s 2 (pc' := 5) (L' := [some (.ref m), some (.int (zi wh)), some (.int ((zi q) + zi 1))]) (S' := []) (L2 := [some (.ref m), some (.int (zi wh)), some (.int (zi (q + 1)))]) (S2 := []) rfl (by simp only [zi_add, zi_sub, zi_mul, zi_neg, zi_and1, zi_and7, zi_and15, zi_and31, zi_and255]) (by simp only [zi_add, zi_sub, zi_mul, zi_neg, zi_and1, zi_and7, zi_and15, zi_and31, zi_and255]) ?_
          exact gz_wk (ihlp2 h3 (q + 1) (by omega) sh3 (by omega) lp2k0 lp2k1 lp2k2) (gLw.s (gLw.s (gLw.s gLw.z)))
        · refine gy_icF rfl (by decide) (by decide) (by omega) (by omega) hc11 ?_
          refine gz_s 1 (pc' := 28) (L' := [some (.ref m), some (.int (zi wh)), some (.int (zi q))]) (S' := [.ref m]) rfl ?_
          refine gs_gtk rfl (by decide) rfl sh3.1 tm rfl rfl ec8 ?_
          refine gy_s 3 (pc' := 34) (L' := [some (.ref m), some (.int (zi wh)), some (.int (zi q))]) (S' := [.int ((zi q) + (zi 1)), .ref c8]) (L2 := [some (.ref m), some (.int (zi wh)), some (.int (zi q))]) (S2 := [.int (zi (q + 1)), .ref c8]) rfl (by simp only [zi_add, zi_sub, zi_mul, zi_neg, zi_and1, zi_and7, zi_and15, zi_and31, zi_and255]) (by simp only [zi_add, zi_sub, zi_mul, zi_neg, zi_and1, zi_and7, zi_and15, zi_and31, zi_and255]) ?_
          have hl12 : 2000 ≤ h3.2.2.2.1 c8 ∧ h3.2.2.2.1 c8 ≤ 2000 := gJ.rowl (G := gGG) sh3.1 tc8 rfl
          refine gs_ald rfl (by decide) sh3.1 tc8 rfl rfl rfl (by decide) (fun _ => rfl) (by omega) (by omega) (fun z13 ez13 az13 bz13 => ?_)
          refine gz_s 1 (pc' := 38) (L' := [some (.ref m), some (.int (zi wh)), some (.int (zi q))]) (S' := [.int (zi 220), .int (zi z13)]) rfl ?_
          by_cases hc14 : ¬ (z13 : Int) = 220
          · refine gy_icT (pc' := 86) rfl (by decide) (by decide) (by omega) (by omega) hc14 ?_
            refine gy_s 2 (pc' := 5) (L' := [some (.ref m), some (.int (zi wh)), some (.int ((zi q) + zi 1))]) (S' := []) (L2 := [some (.ref m), some (.int (zi wh)), some (.int (zi (q + 1)))]) (S2 := []) rfl (by simp only [zi_add, zi_sub, zi_mul, zi_neg, zi_and1, zi_and7, zi_and15, zi_and31, zi_and255]) (by simp only [zi_add, zi_sub, zi_mul, zi_neg, zi_and1, zi_and7, zi_and15, zi_and31, zi_and255]) ?_
            exact gz_wk (ihlp2 h3 (q + 1) (by omega) sh3 (by omega) lp2k0 lp2k1 lp2k2) (gLw.s (gLw.s (gLw.s gLw.z)))
          · refine gy_icF rfl (by decide) (by decide) (by omega) (by omega) hc14 ?_
            refine gz_s 1 (pc' := 42) (L' := [some (.ref m), some (.int (zi wh)), some (.int (zi q))]) (S' := [.ref m]) rfl ?_
            refine gs_gtk rfl (by decide) rfl sh3.1 tm rfl rfl ec8 ?_
            refine gy_s 3 (pc' := 48) (L' := [some (.ref m), some (.int (zi wh)), some (.int (zi q))]) (S' := [.int ((zi q) + (zi 2)), .ref c8]) (L2 := [some (.ref m), some (.int (zi wh)), some (.int (zi q))]) (S2 := [.int (zi (q + 2)), .ref c8]) rfl (by simp only [zi_add, zi_sub, zi_mul, zi_neg, zi_and1, zi_and7, zi_and15, zi_and31, zi_and255]) (by simp only [zi_add, zi_sub, zi_mul, zi_neg, zi_and1, zi_and7, zi_and15, zi_and31, zi_and255]) ?_
            have hl15 : 2000 ≤ h3.2.2.2.1 c8 ∧ h3.2.2.2.1 c8 ≤ 2000 := gJ.rowl (G := gGG) sh3.1 tc8 rfl
            refine gs_ald rfl (by decide) sh3.1 tc8 rfl rfl rfl (by decide) (fun _ => rfl) (by omega) (by omega) (fun z16 ez16 az16 bz16 => ?_)
            by_cases hc17 : ¬ (z16 : Int) = 0
            · refine gy_ifT (pc' := 86) rfl (by decide) (by decide) (by omega) hc17 ?_
              refine gy_s 2 (pc' := 5) (L' := [some (.ref m), some (.int (zi wh)), some (.int ((zi q) + zi 1))]) (S' := []) (L2 := [some (.ref m), some (.int (zi wh)), some (.int (zi (q + 1)))]) (S2 := []) rfl (by simp only [zi_add, zi_sub, zi_mul, zi_neg, zi_and1, zi_and7, zi_and15, zi_and31, zi_and255]) (by simp only [zi_add, zi_sub, zi_mul, zi_neg, zi_and1, zi_and7, zi_and15, zi_and31, zi_and255]) ?_
              exact gz_wk (ihlp2 h3 (q + 1) (by omega) sh3 (by omega) lp2k0 lp2k1 lp2k2) (gLw.s (gLw.s (gLw.s gLw.z)))
            · refine gy_ifF rfl (by decide) (by decide) (by omega) hc17 ?_
              refine gz_s 1 (pc' := 53) (L' := [some (.ref m), some (.int (zi wh)), some (.int (zi q))]) (S' := [.ref m]) rfl ?_
              refine gs_gtk rfl (by decide) rfl sh3.1 tm rfl rfl ec8 ?_
              refine gy_s 3 (pc' := 59) (L' := [some (.ref m), some (.int (zi wh)), some (.int (zi q))]) (S' := [.int ((zi q) + (zi 3)), .ref c8]) (L2 := [some (.ref m), some (.int (zi wh)), some (.int (zi q))]) (S2 := [.int (zi (q + 3)), .ref c8]) rfl (by simp only [zi_add, zi_sub, zi_mul, zi_neg, zi_and1, zi_and7, zi_and15, zi_and31, zi_and255]) (by simp only [zi_add, zi_sub, zi_mul, zi_neg, zi_and1, zi_and7, zi_and15, zi_and31, zi_and255]) ?_
              have hl18 : 2000 ≤ h3.2.2.2.1 c8 ∧ h3.2.2.2.1 c8 ≤ 2000 := gJ.rowl (G := gGG) sh3.1 tc8 rfl
              refine gs_ald rfl (by decide) sh3.1 tc8 rfl rfl rfl (by decide) (fun _ => rfl) (by omega) (by omega) (fun z19 ez19 az19 bz19 => ?_)
              refine gz_s 1 (pc' := 61) (L' := [some (.ref m), some (.int (zi wh)), some (.int (zi q))]) (S' := [.int (zi 4), .int (zi z19)]) rfl ?_
              by_cases hc20 : ¬ (z19 : Int) = 4
              · refine gy_icT (pc' := 86) rfl (by decide) (by decide) (by omega) (by omega) hc20 ?_
                refine gy_s 2 (pc' := 5) (L' := [some (.ref m), some (.int (zi wh)), some (.int ((zi q) + zi 1))]) (S' := []) (L2 := [some (.ref m), some (.int (zi wh)), some (.int (zi (q + 1)))]) (S2 := []) rfl (by simp only [zi_add, zi_sub, zi_mul, zi_neg, zi_and1, zi_and7, zi_and15, zi_and31, zi_and255]) (by simp only [zi_add, zi_sub, zi_mul, zi_neg, zi_and1, zi_and7, zi_and15, zi_and31, zi_and255]) ?_
                exact gz_wk (ihlp2 h3 (q + 1) (by omega) sh3 (by omega) lp2k0 lp2k1 lp2k2) (gLw.s (gLw.s (gLw.s gLw.z)))
              · refine gy_icF rfl (by decide) (by decide) (by omega) (by omega) hc20 ?_
                refine gz_s 2 (pc' := 68) (L' := [some (.ref m), some (.int (zi wh)), some (.int (zi q))]) (S' := [.ref m, .int (zi 256)]) rfl ?_
                refine gs_gtk rfl (by decide) rfl sh3.1 tm rfl rfl ec8 ?_
                refine gy_s 3 (pc' := 74) (L' := [some (.ref m), some (.int (zi wh)), some (.int (zi q))]) (S' := [.int ((zi q) + (zi 4)), .ref c8, .int (zi 256)]) (L2 := [some (.ref m), some (.int (zi wh)), some (.int (zi q))]) (S2 := [.int (zi (q + 4)), .ref c8, .int (zi 256)]) rfl (by simp only [zi_add, zi_sub, zi_mul, zi_neg, zi_and1, zi_and7, zi_and15, zi_and31, zi_and255]) (by simp only [zi_add, zi_sub, zi_mul, zi_neg, zi_and1, zi_and7, zi_and15, zi_and31, zi_and255]) ?_
                have hl21 : 2000 ≤ h3.2.2.2.1 c8 ∧ h3.2.2.2.1 c8 ≤ 2000 := gJ.rowl (G := gGG) sh3.1 tc8 rfl
                refine gs_ald rfl (by decide) sh3.1 tc8 rfl rfl rfl (by decide) (fun _ => rfl) (by omega) (by omega) (fun z22 ez22 az22 bz22 => ?_)
                refine gy_s 2 (pc' := 77) (L' := [some (.ref m), some (.int (zi wh)), some (.int (zi q))]) (S' := [.ref m, .int ((zi 256) * (zi z22))]) (L2 := [some (.ref m), some (.int (zi wh)), some (.int (zi q))]) (S2 := [.ref m, .int (zi (256 * z22))]) rfl (by simp only [zi_add, zi_sub, zi_mul, zi_neg, zi_and1, zi_and7, zi_and15, zi_and31, zi_and255]) (by simp only [zi_add, zi_sub, zi_mul, zi_neg, zi_and1, zi_and7, zi_and15, zi_and31, zi_and255]) ?_
                refine gs_gtk rfl (by decide) rfl sh3.1 tm rfl rfl ec8 ?_
                refine gy_s 3 (pc' := 83) (L' := [some (.ref m), some (.int (zi wh)), some (.int (zi q))]) (S' := [.int ((zi q) + (zi 5)), .ref c8, .int (zi (256 * z22))]) (L2 := [some (.ref m), some (.int (zi wh)), some (.int (zi q))]) (S2 := [.int (zi (q + 5)), .ref c8, .int (zi (256 * z22))]) rfl (by simp only [zi_add, zi_sub, zi_mul, zi_neg, zi_and1, zi_and7, zi_and15, zi_and31, zi_and255]) (by simp only [zi_add, zi_sub, zi_mul, zi_neg, zi_and1, zi_and7, zi_and15, zi_and31, zi_and255]) ?_
                have hl23 : 2000 ≤ h3.2.2.2.1 c8 ∧ h3.2.2.2.1 c8 ≤ 2000 := gJ.rowl (G := gGG) sh3.1 tc8 rfl
                refine gs_ald rfl (by decide) sh3.1 tc8 rfl rfl rfl (by decide) (fun _ => rfl) (by omega) (by omega) (fun z24 ez24 az24 bz24 => ?_)
                refine gy_s 1 (pc' := 85) (L' := [some (.ref m), some (.int (zi wh)), some (.int (zi q))]) (S' := [.int ((zi (256 * z22)) + (zi z24))]) (L2 := [some (.ref m), some (.int (zi wh)), some (.int (zi q))]) (S2 := [.int (zi ((256 * z22) + z24))]) rfl (by simp only [zi_add, zi_sub, zi_mul, zi_neg, zi_and1, zi_and7, zi_and15, zi_and31, zi_and255]) (by simp only [zi_add, zi_sub, zi_mul, zi_neg, zi_and1, zi_and7, zi_and15, zi_and31, zi_and255]) ?_
                exact gz_end (I := .ireturn) (len := 1) rfl (Or.inl rfl) ⟨sh3, (256 * z22) + z24, f0, rfl, (by omega), (by omega), lp2k0, (by omega), (by omega), (by omega)⟩
  exact gz_wk (lp2 _ h z1 (Nat.lt_succ_self _) hS (by omega) ef0 esz ez1) (gLw.s (gLw.s (gLw.s gLw.z)))
set_option maxRecDepth 20000 in
set_option maxHeartbeats 4000000 in
theorem mm_passMark (d : Nat) {ty : Nat → Nat} {h : gH} (hJ : gJ rT 1027 ty h) (m : Nat) (tm : ty m = 1) (u : Int) (ru : 0 ≤ u ∧ u ≤ 64) (a0 : Int) (ea0 : h.2.2.2.2 m 47 = .int (zi a0)) (ra0 : 0 ≤ a0 ∧ a0 ≤ 2001) (k0 : Int) (ek0 : h.2.2.2.2 m 48 = .int (zi k0)) (rk0 : 0 ≤ k0 ∧ k0 ≤ 7) (sz : Int) (esz : h.2.2.2.2 m 3 = .int (zi sz)) (rsz : 0 ≤ sz ∧ sz ≤ 2000) (u0 : Int) (eu0 : h.2.2.2.2 m 46 = .int (zi u0)) (ru0 : 0 ≤ u0 ∧ u0 ≤ 1) (iv : Int) (eiv : h.2.2.2.2 m 8 = .int (zi iv)) (riv : 1 ≤ iv ∧ iv ≤ 65535) (p0 : k0 = 0 ∨ a0 < sz) (p1 : iv ≤ u) : gz gPP gGG gcn (d + 1) gt147 0 (gent [.ref m, .int (zi u)] 4) [] h (fun q _ => gSs rT 1027 ty [1045, 1046, 1047, 1048, 20999] h q.2.2 ∧ ∃ a1 k1 u1 : Int, gfin gt147 q.1 q.2.1 = some none ∧ q.2.2.2.2.2.2 m 47 = .int (zi a1) ∧ 0 ≤ a1 ∧ a1 ≤ 2001 ∧ q.2.2.2.2.2.2 m 48 = .int (zi k1) ∧ 0 ≤ k1 ∧ k1 ≤ 7 ∧ q.2.2.2.2.2.2 m 46 = .int (zi u1) ∧ 0 ≤ u1 ∧ u1 ≤ 1 ∧ (k1 = 0 ∨ a1 < sz) ∧ (a0 ≤ a1) ∧ (u1 = 0 → u0 = 0)) := by
  have hS : gSs rT 1027 ty [1045, 1046, 1047, 1048, 20999] h h := gSs.rf hJ
  refine gz_s 1 (pc' := 1) (L' := [some (.ref m), some (.int (zi u)), none, none]) (S' := [.ref m]) rfl ?_
  refine gz_call rfl (by decide) rfl (by decide) (by decide) (gcal_of rfl rfl rfl (Nat.le_of_ble_eq_true rfl) (gJ.recv (G := gGG) hS.1 tm rfl rfl)) (mm_nextByte _ hS.1 m tm a0 ea0 (by omega) k0 ek0 (by omega) sz esz (by omega) (by omega)) (fun q1 _ wq1 => ?_)
  obtain ⟨pq1, oq1, hq1⟩ := q1
  obtain ⟨xq1, zq1, gq1, aq1, bq1, uq1_0, uq1_1, uq1_2, uq1_3⟩ := wq1
  refine ⟨_, gq1, ?_⟩
  show gz gPP gGG gcn _ _ 4 [some (.ref m), some (.int (zi u)), none, none] [.int (zi zq1)] hq1 _
  have sq1 := gSs.tr hS xq1 (by decide)
  have s2 := (xq1.2.2.2.2.2 m 47 (by rw [tm]; decide)).trans ea0
  have s3 := (xq1.2.2.2.2.2 m 48 (by rw [tm]; decide)).trans ek0
  have s4 := (xq1.2.2.2.2.2 m 3 (by rw [tm]; decide)).trans esz
  have s5 := (xq1.2.2.2.2.2 m 46 (by rw [tm]; decide)).trans eu0
  have s6 := (xq1.2.2.2.2.2 m 8 (by rw [tm]; decide)).trans eiv
  refine gz_s 4 (pc' := 10) (L' := [some (.ref m), some (.int (zi u)), some (.int (zi zq1)), none]) (S' := [.ref m, .int (zi u), .int (zi 208)]) rfl ?_
  refine gs_gtk rfl (by decide) rfl sq1.1 tm rfl rfl s6 ?_
  refine gy_div rfl (by decide) (by omega) (by omega) ?_
  have hd7 := zd_f (x := u) (y := iv) (by omega) (by omega)
  refine gy_s 3 (pc' := 18) (L' := [some (.ref m), some (.int (zi u)), some (.int (zi zq1)), none]) (S' := [.int (zi 8), .int ((zi (u / iv)) - (zi 1)), .int (zi 208)]) (L2 := [some (.ref m), some (.int (zi u)), some (.int (zi zq1)), none]) (S2 := [.int (zi 8), .int (zi ((u / iv) - 1)), .int (zi 208)]) rfl (by simp only [zi_add, zi_sub, zi_mul, zi_neg, zi_and1, zi_and7, zi_and15, zi_and31, zi_and255]) (by simp only [zi_add, zi_sub, zi_mul, zi_neg, zi_and1, zi_and7, zi_and15, zi_and31, zi_and255]) ?_
  refine gy_rem rfl (by decide) (by omega) (by omega) ?_
  refine gy_s 7 (pc' := 26) (L' := [some (.ref m), some (.int (zi u)), some (.int (zi zq1)), some (.int ((zi 208) + (zi (((u / iv) - 1) % 8))))]) (S' := [.ref m, .int ((zi zq1) + (zi 1)), .ref m]) (L2 := [some (.ref m), some (.int (zi u)), some (.int (zi zq1)), some (.int (zi (208 + (((u / iv) - 1) % 8))))]) (S2 := [.ref m, .int (zi (zq1 + 1)), .ref m]) rfl (by simp only [zi_add, zi_sub, zi_mul, zi_neg, zi_and1, zi_and7, zi_and15, zi_and31, zi_and255]) (by simp only [zi_add, zi_sub, zi_mul, zi_neg, zi_and1, zi_and7, zi_and15, zi_and31, zi_and255]) ?_
  refine gs_gtk rfl (by decide) rfl sq1.1 tm rfl rfl s4 ?_
  by_cases hc8 : (sz : Int) ≤ zq1 + 1
  · refine gy_icT (pc' := 60) rfl (by decide) (by decide) (by omega) (by omega) hc8 ?_
    refine gz_s 1 (pc' := 61) (L' := [some (.ref m), some (.int (zi u)), some (.int (zi zq1)), some (.int (zi (208 + (((u / iv) - 1) % 8))))]) (S' := [.int (zi 0), .ref m]) rfl ?_
    refine gz_call rfl (by decide) rfl (by decide) (by decide) (gcal_of rfl rfl rfl (Nat.le_of_ble_eq_true rfl) (gJ.recv (G := gGG) sq1.1 tm rfl rfl)) (mm_keep _ sq1.1 m tm 0 (by omega) u0 s5 (by omega)) (fun q9 _ wq9 => ?_)
    obtain ⟨pq9, oq9, hq9⟩ := q9
    obtain ⟨xq9, fq9_0, gq9, efq9_0, afq9_0, bfq9_0, uq9_0⟩ := wq9
    refine ⟨_, gq9, ?_⟩
    show gz gPP gGG gcn _ _ 64 [some (.ref m), some (.int (zi u)), some (.int (zi zq1)), some (.int (zi (208 + (((u / iv) - 1) % 8))))] [] hq9 _
    have sq9 := gSs.tr sq1 xq9 (by decide)
    have s10 := (xq9.2.2.2.2.2 m 47 (by rw [tm]; decide)).trans s2
    have s11 := (xq9.2.2.2.2.2 m 48 (by rw [tm]; decide)).trans s3
    have s12 := (xq9.2.2.2.2.2 m 3 (by rw [tm]; decide)).trans s4
    have s13 := (xq9.2.2.2.2.2 m 8 (by rw [tm]; decide)).trans s6
    refine gz_s 1 (pc' := 65) (L' := [some (.ref m), some (.int (zi u)), some (.int (zi zq1)), some (.int (zi (208 + (((u / iv) - 1) % 8))))]) (S' := [.ref m]) rfl ?_
    refine gs_gtk rfl (by decide) rfl sq9.1 tm rfl rfl efq9_0 ?_
    by_cases hc14 : ¬ (fq9_0 : Int) = 0
    · refine gy_ifT (pc' := 87) rfl (by decide) (by decide) (by omega) hc14 ?_
      exact gz_end (I := .return_) (len := 1) rfl (Or.inl rfl) ⟨sq9, a0, k0, fq9_0, rfl, s10, (by omega), (by omega), s11, (by omega), (by omega), efq9_0, (by omega), (by omega), (by omega), (by omega), (by omega)⟩
    · refine gy_ifF rfl (by decide) (by decide) (by omega) hc14 ?_
      refine gy_s 4 (pc' := 75) (L' := [some (.ref m), some (.int (zi u)), some (.int (zi zq1)), some (.int (zi (208 + (((u / iv) - 1) % 8))))]) (S' := [.int ((zi zq1) + (zi 2)), .ref m]) (L2 := [some (.ref m), some (.int (zi u)), some (.int (zi zq1)), some (.int (zi (208 + (((u / iv) - 1) % 8))))]) (S2 := [.int (zi (zq1 + 2)), .ref m]) rfl (by simp only [zi_add, zi_sub, zi_mul, zi_neg, zi_and1, zi_and7, zi_and15, zi_and31, zi_and255]) (by simp only [zi_add, zi_sub, zi_mul, zi_neg, zi_and1, zi_and7, zi_and15, zi_and31, zi_and255]) ?_
      refine gs_put rfl (by decide) rfl sq9 tm rfl rfl rfl rfl (Or.inl rfl) (by decide) (by omega) (by omega) (fun h15 sh15 eh15 fh15 => ?_)
      have s16 := (fh15 m 48 (fun q => absurd q.2 (by decide))).trans s11
      have s17 := (fh15 m 3 (fun q => absurd q.2 (by decide))).trans s12
      have s18 := (fh15 m 8 (fun q => absurd q.2 (by decide))).trans s13
      have s19 := (fh15 m 46 (fun q => absurd q.2 (by decide))).trans efq9_0
      refine gz_s 2 (pc' := 80) (L' := [some (.ref m), some (.int (zi u)), some (.int (zi zq1)), some (.int (zi (208 + (((u / iv) - 1) % 8))))]) (S' := [.int (zi 0), .ref m]) rfl ?_
      refine gs_put rfl (by decide) rfl sh15 tm rfl rfl rfl rfl (Or.inl rfl) (by decide) (by omega) (by omega) (fun h20 sh20 eh20 fh20 => ?_)
      have s21 := (fh20 m 3 (fun q => absurd q.2 (by decide))).trans s17
      have s22 := (fh20 m 8 (fun q => absurd q.2 (by decide))).trans s18
      have s23 := (fh20 m 46 (fun q => absurd q.2 (by decide))).trans s19
      have s24 := (fh20 m 47 (fun q => absurd q.2 (by decide))).trans eh15
      refine gz_s 1 (pc' := 84) (L' := [some (.ref m), some (.int (zi u)), some (.int (zi zq1)), some (.int (zi (208 + (((u / iv) - 1) % 8))))]) (S' := [.ref m]) rfl ?_
      refine gz_call rfl (by decide) rfl (by decide) (by decide) (gcal_of rfl rfl rfl (Nat.le_of_ble_eq_true rfl) (gJ.recv (G := gGG) sh20.1 tm rfl rfl)) (mm_begin _ sh20.1 m tm ) (fun q25 _ wq25 => ?_)
      obtain ⟨pq25, oq25, hq25⟩ := q25
      obtain ⟨xq25, gq25⟩ := wq25
      refine ⟨_, gq25, ?_⟩
      show gz gPP gGG gcn _ _ 87 [some (.ref m), some (.int (zi u)), some (.int (zi zq1)), some (.int (zi (208 + (((u / iv) - 1) % 8))))] [] hq25 _
      have sq25 := gSs.tr sh20 xq25 (by decide)
      have s26 := (xq25.2.2.2.2.2 m 3 (by rw [tm]; decide)).trans s21
      have s27 := (xq25.2.2.2.2.2 m 8 (by rw [tm]; decide)).trans s22
      have s28 := (xq25.2.2.2.2.2 m 46 (by rw [tm]; decide)).trans s23
      have s29 := (xq25.2.2.2.2.2 m 47 (by rw [tm]; decide)).trans s24
      have s30 := (xq25.2.2.2.2.2 m 48 (by rw [tm]; decide)).trans eh20
      exact gz_end (I := .return_) (len := 1) rfl (Or.inl rfl) ⟨sq25, zq1 + 2, 0, fq9_0, rfl, s29, (by omega), (by omega), s30, (by omega), (by omega), s28, (by omega), (by omega), (by omega), (by omega), (by omega)⟩
  · refine gy_icF rfl (by decide) (by decide) (by omega) (by omega) hc8 ?_
    refine gz_s 1 (pc' := 33) (L' := [some (.ref m), some (.int (zi u)), some (.int (zi zq1)), some (.int (zi (208 + (((u / iv) - 1) % 8))))]) (S' := [.ref m, .ref m]) rfl ?_
    refine gs_gtr rfl (by decide) rfl sq1.1 tm rfl rfl rfl (fun c31 ec31 tc31 => ?_)
    refine gz_s 1 (pc' := 37) (L' := [some (.ref m), some (.int (zi u)), some (.int (zi zq1)), some (.int (zi (208 + (((u / iv) - 1) % 8))))]) (S' := [.int (zi zq1), .ref c31, .ref m]) rfl ?_
    have hl32 : 2000 ≤ hq1.2.2.2.1 c31 ∧ hq1.2.2.2.1 c31 ≤ 2000 := gJ.rowl (G := gGG) sq1.1 tc31 rfl
    refine gs_ald rfl (by decide) sq1.1 tc31 rfl rfl rfl (by decide) (fun _ => rfl) (by omega) (by omega) (fun z33 ez33 az33 bz33 => ?_)
    refine gz_s 1 (pc' := 41) (L' := [some (.ref m), some (.int (zi u)), some (.int (zi zq1)), some (.int (zi (208 + (((u / iv) - 1) % 8))))]) (S' := [.int (zi 255), .int (zi z33), .ref m]) rfl ?_
    by_cases hc34 : ¬ (z33 : Int) = 255
    · refine gy_icT (pc' := 60) rfl (by decide) (by decide) (by omega) (by omega) hc34 ?_
      refine gz_s 1 (pc' := 61) (L' := [some (.ref m), some (.int (zi u)), some (.int (zi zq1)), some (.int (zi (208 + (((u / iv) - 1) % 8))))]) (S' := [.int (zi 0), .ref m]) rfl ?_
      refine gz_call rfl (by decide) rfl (by decide) (by decide) (gcal_of rfl rfl rfl (Nat.le_of_ble_eq_true rfl) (gJ.recv (G := gGG) sq1.1 tm rfl rfl)) (mm_keep _ sq1.1 m tm 0 (by omega) u0 s5 (by omega)) (fun q35 _ wq35 => ?_)
      obtain ⟨pq35, oq35, hq35⟩ := q35
      obtain ⟨xq35, fq35_0, gq35, efq35_0, afq35_0, bfq35_0, uq35_0⟩ := wq35
      refine ⟨_, gq35, ?_⟩
      show gz gPP gGG gcn _ _ 64 [some (.ref m), some (.int (zi u)), some (.int (zi zq1)), some (.int (zi (208 + (((u / iv) - 1) % 8))))] [] hq35 _
      have sq35 := gSs.tr sq1 xq35 (by decide)
      have s36 := (xq35.2.2.2.2.2 m 47 (by rw [tm]; decide)).trans s2
      have s37 := (xq35.2.2.2.2.2 m 48 (by rw [tm]; decide)).trans s3
      have s38 := (xq35.2.2.2.2.2 m 3 (by rw [tm]; decide)).trans s4
      have s39 := (xq35.2.2.2.2.2 m 8 (by rw [tm]; decide)).trans s6
      have s40 := (xq35.2.2.2.2.2 m 4 (by rw [tm]; decide)).trans ec31
      refine gz_s 1 (pc' := 65) (L' := [some (.ref m), some (.int (zi u)), some (.int (zi zq1)), some (.int (zi (208 + (((u / iv) - 1) % 8))))]) (S' := [.ref m]) rfl ?_
      refine gs_gtk rfl (by decide) rfl sq35.1 tm rfl rfl efq35_0 ?_
      by_cases hc41 : ¬ (fq35_0 : Int) = 0
      · refine gy_ifT (pc' := 87) rfl (by decide) (by decide) (by omega) hc41 ?_
        exact gz_end (I := .return_) (len := 1) rfl (Or.inl rfl) ⟨sq35, a0, k0, fq35_0, rfl, s36, (by omega), (by omega), s37, (by omega), (by omega), efq35_0, (by omega), (by omega), (by omega), (by omega), (by omega)⟩
      · refine gy_ifF rfl (by decide) (by decide) (by omega) hc41 ?_
        refine gy_s 4 (pc' := 75) (L' := [some (.ref m), some (.int (zi u)), some (.int (zi zq1)), some (.int (zi (208 + (((u / iv) - 1) % 8))))]) (S' := [.int ((zi zq1) + (zi 2)), .ref m]) (L2 := [some (.ref m), some (.int (zi u)), some (.int (zi zq1)), some (.int (zi (208 + (((u / iv) - 1) % 8))))]) (S2 := [.int (zi (zq1 + 2)), .ref m]) rfl (by simp only [zi_add, zi_sub, zi_mul, zi_neg, zi_and1, zi_and7, zi_and15, zi_and31, zi_and255]) (by simp only [zi_add, zi_sub, zi_mul, zi_neg, zi_and1, zi_and7, zi_and15, zi_and31, zi_and255]) ?_
        refine gs_put rfl (by decide) rfl sq35 tm rfl rfl rfl rfl (Or.inl rfl) (by decide) (by omega) (by omega) (fun h42 sh42 eh42 fh42 => ?_)
        have s43 := (fh42 m 48 (fun q => absurd q.2 (by decide))).trans s37
        have s44 := (fh42 m 3 (fun q => absurd q.2 (by decide))).trans s38
        have s45 := (fh42 m 8 (fun q => absurd q.2 (by decide))).trans s39
        have s46 := (fh42 m 4 (fun q => absurd q.2 (by decide))).trans s40
        have s47 := (fh42 m 46 (fun q => absurd q.2 (by decide))).trans efq35_0
        refine gz_s 2 (pc' := 80) (L' := [some (.ref m), some (.int (zi u)), some (.int (zi zq1)), some (.int (zi (208 + (((u / iv) - 1) % 8))))]) (S' := [.int (zi 0), .ref m]) rfl ?_
        refine gs_put rfl (by decide) rfl sh42 tm rfl rfl rfl rfl (Or.inl rfl) (by decide) (by omega) (by omega) (fun h48 sh48 eh48 fh48 => ?_)
        have s49 := (fh48 m 3 (fun q => absurd q.2 (by decide))).trans s44
        have s50 := (fh48 m 8 (fun q => absurd q.2 (by decide))).trans s45
        have s51 := (fh48 m 4 (fun q => absurd q.2 (by decide))).trans s46
        have s52 := (fh48 m 46 (fun q => absurd q.2 (by decide))).trans s47
        have s53 := (fh48 m 47 (fun q => absurd q.2 (by decide))).trans eh42
        refine gz_s 1 (pc' := 84) (L' := [some (.ref m), some (.int (zi u)), some (.int (zi zq1)), some (.int (zi (208 + (((u / iv) - 1) % 8))))]) (S' := [.ref m]) rfl ?_
        refine gz_call rfl (by decide) rfl (by decide) (by decide) (gcal_of rfl rfl rfl (Nat.le_of_ble_eq_true rfl) (gJ.recv (G := gGG) sh48.1 tm rfl rfl)) (mm_begin _ sh48.1 m tm ) (fun q54 _ wq54 => ?_)
        obtain ⟨pq54, oq54, hq54⟩ := q54
        obtain ⟨xq54, gq54⟩ := wq54
        refine ⟨_, gq54, ?_⟩
        show gz gPP gGG gcn _ _ 87 [some (.ref m), some (.int (zi u)), some (.int (zi zq1)), some (.int (zi (208 + (((u / iv) - 1) % 8))))] [] hq54 _
        have sq54 := gSs.tr sh48 xq54 (by decide)
        have s55 := (xq54.2.2.2.2.2 m 3 (by rw [tm]; decide)).trans s49
        have s56 := (xq54.2.2.2.2.2 m 8 (by rw [tm]; decide)).trans s50
        have s57 := (xq54.2.2.2.2.2 m 4 (by rw [tm]; decide)).trans s51
        have s58 := (xq54.2.2.2.2.2 m 46 (by rw [tm]; decide)).trans s52
        have s59 := (xq54.2.2.2.2.2 m 47 (by rw [tm]; decide)).trans s53
        have s60 := (xq54.2.2.2.2.2 m 48 (by rw [tm]; decide)).trans eh48
        exact gz_end (I := .return_) (len := 1) rfl (Or.inl rfl) ⟨sq54, zq1 + 2, 0, fq35_0, rfl, s59, (by omega), (by omega), s60, (by omega), (by omega), s58, (by omega), (by omega), (by omega), (by omega), (by omega)⟩
    · refine gy_icF rfl (by decide) (by decide) (by omega) (by omega) hc34 ?_
      refine gz_s 1 (pc' := 45) (L' := [some (.ref m), some (.int (zi u)), some (.int (zi zq1)), some (.int (zi (208 + (((u / iv) - 1) % 8))))]) (S' := [.ref m, .ref m]) rfl ?_
      refine gs_gtk rfl (by decide) rfl sq1.1 tm rfl rfl ec31 ?_
      refine gy_s 3 (pc' := 51) (L' := [some (.ref m), some (.int (zi u)), some (.int (zi zq1)), some (.int (zi (208 + (((u / iv) - 1) % 8))))]) (S' := [.int ((zi zq1) + (zi 1)), .ref c31, .ref m]) (L2 := [some (.ref m), some (.int (zi u)), some (.int (zi zq1)), some (.int (zi (208 + (((u / iv) - 1) % 8))))]) (S2 := [.int (zi (zq1 + 1)), .ref c31, .ref m]) rfl (by simp only [zi_add, zi_sub, zi_mul, zi_neg, zi_and1, zi_and7, zi_and15, zi_and31, zi_and255]) (by simp only [zi_add, zi_sub, zi_mul, zi_neg, zi_and1, zi_and7, zi_and15, zi_and31, zi_and255]) ?_
      have hl61 : 2000 ≤ hq1.2.2.2.1 c31 ∧ hq1.2.2.2.1 c31 ≤ 2000 := gJ.rowl (G := gGG) sq1.1 tc31 rfl
      refine gs_ald rfl (by decide) sq1.1 tc31 rfl rfl rfl (by decide) (fun _ => rfl) (by omega) (by omega) (fun z62 ez62 az62 bz62 => ?_)
      refine gz_s 1 (pc' := 53) (L' := [some (.ref m), some (.int (zi u)), some (.int (zi zq1)), some (.int (zi (208 + (((u / iv) - 1) % 8))))]) (S' := [.int (zi (208 + (((u / iv) - 1) % 8))), .int (zi z62), .ref m]) rfl ?_
      by_cases hc63 : ¬ (z62 : Int) = 208 + (((u / iv) - 1) % 8)
      · refine gy_icT (pc' := 60) rfl (by decide) (by decide) (by omega) (by omega) hc63 ?_
        refine gz_s 1 (pc' := 61) (L' := [some (.ref m), some (.int (zi u)), some (.int (zi zq1)), some (.int (zi (208 + (((u / iv) - 1) % 8))))]) (S' := [.int (zi 0), .ref m]) rfl ?_
        refine gz_call rfl (by decide) rfl (by decide) (by decide) (gcal_of rfl rfl rfl (Nat.le_of_ble_eq_true rfl) (gJ.recv (G := gGG) sq1.1 tm rfl rfl)) (mm_keep _ sq1.1 m tm 0 (by omega) u0 s5 (by omega)) (fun q64 _ wq64 => ?_)
        obtain ⟨pq64, oq64, hq64⟩ := q64
        obtain ⟨xq64, fq64_0, gq64, efq64_0, afq64_0, bfq64_0, uq64_0⟩ := wq64
        refine ⟨_, gq64, ?_⟩
        show gz gPP gGG gcn _ _ 64 [some (.ref m), some (.int (zi u)), some (.int (zi zq1)), some (.int (zi (208 + (((u / iv) - 1) % 8))))] [] hq64 _
        have sq64 := gSs.tr sq1 xq64 (by decide)
        have s65 := (xq64.2.2.2.2.2 m 47 (by rw [tm]; decide)).trans s2
        have s66 := (xq64.2.2.2.2.2 m 48 (by rw [tm]; decide)).trans s3
        have s67 := (xq64.2.2.2.2.2 m 3 (by rw [tm]; decide)).trans s4
        have s68 := (xq64.2.2.2.2.2 m 8 (by rw [tm]; decide)).trans s6
        have s69 := (xq64.2.2.2.2.2 m 4 (by rw [tm]; decide)).trans ec31
        refine gz_s 1 (pc' := 65) (L' := [some (.ref m), some (.int (zi u)), some (.int (zi zq1)), some (.int (zi (208 + (((u / iv) - 1) % 8))))]) (S' := [.ref m]) rfl ?_
        refine gs_gtk rfl (by decide) rfl sq64.1 tm rfl rfl efq64_0 ?_
        by_cases hc70 : ¬ (fq64_0 : Int) = 0
        · refine gy_ifT (pc' := 87) rfl (by decide) (by decide) (by omega) hc70 ?_
          exact gz_end (I := .return_) (len := 1) rfl (Or.inl rfl) ⟨sq64, a0, k0, fq64_0, rfl, s65, (by omega), (by omega), s66, (by omega), (by omega), efq64_0, (by omega), (by omega), (by omega), (by omega), (by omega)⟩
        · refine gy_ifF rfl (by decide) (by decide) (by omega) hc70 ?_
          refine gy_s 4 (pc' := 75) (L' := [some (.ref m), some (.int (zi u)), some (.int (zi zq1)), some (.int (zi (208 + (((u / iv) - 1) % 8))))]) (S' := [.int ((zi zq1) + (zi 2)), .ref m]) (L2 := [some (.ref m), some (.int (zi u)), some (.int (zi zq1)), some (.int (zi (208 + (((u / iv) - 1) % 8))))]) (S2 := [.int (zi (zq1 + 2)), .ref m]) rfl (by simp only [zi_add, zi_sub, zi_mul, zi_neg, zi_and1, zi_and7, zi_and15, zi_and31, zi_and255]) (by simp only [zi_add, zi_sub, zi_mul, zi_neg, zi_and1, zi_and7, zi_and15, zi_and31, zi_and255]) ?_
          refine gs_put rfl (by decide) rfl sq64 tm rfl rfl rfl rfl (Or.inl rfl) (by decide) (by omega) (by omega) (fun h71 sh71 eh71 fh71 => ?_)
          have s72 := (fh71 m 48 (fun q => absurd q.2 (by decide))).trans s66
          have s73 := (fh71 m 3 (fun q => absurd q.2 (by decide))).trans s67
          have s74 := (fh71 m 8 (fun q => absurd q.2 (by decide))).trans s68
          have s75 := (fh71 m 4 (fun q => absurd q.2 (by decide))).trans s69
          have s76 := (fh71 m 46 (fun q => absurd q.2 (by decide))).trans efq64_0
          refine gz_s 2 (pc' := 80) (L' := [some (.ref m), some (.int (zi u)), some (.int (zi zq1)), some (.int (zi (208 + (((u / iv) - 1) % 8))))]) (S' := [.int (zi 0), .ref m]) rfl ?_
          refine gs_put rfl (by decide) rfl sh71 tm rfl rfl rfl rfl (Or.inl rfl) (by decide) (by omega) (by omega) (fun h77 sh77 eh77 fh77 => ?_)
          have s78 := (fh77 m 3 (fun q => absurd q.2 (by decide))).trans s73
          have s79 := (fh77 m 8 (fun q => absurd q.2 (by decide))).trans s74
          have s80 := (fh77 m 4 (fun q => absurd q.2 (by decide))).trans s75
          have s81 := (fh77 m 46 (fun q => absurd q.2 (by decide))).trans s76
          have s82 := (fh77 m 47 (fun q => absurd q.2 (by decide))).trans eh71
          refine gz_s 1 (pc' := 84) (L' := [some (.ref m), some (.int (zi u)), some (.int (zi zq1)), some (.int (zi (208 + (((u / iv) - 1) % 8))))]) (S' := [.ref m]) rfl ?_
          refine gz_call rfl (by decide) rfl (by decide) (by decide) (gcal_of rfl rfl rfl (Nat.le_of_ble_eq_true rfl) (gJ.recv (G := gGG) sh77.1 tm rfl rfl)) (mm_begin _ sh77.1 m tm ) (fun q83 _ wq83 => ?_)
          obtain ⟨pq83, oq83, hq83⟩ := q83
          obtain ⟨xq83, gq83⟩ := wq83
          refine ⟨_, gq83, ?_⟩
          show gz gPP gGG gcn _ _ 87 [some (.ref m), some (.int (zi u)), some (.int (zi zq1)), some (.int (zi (208 + (((u / iv) - 1) % 8))))] [] hq83 _
          have sq83 := gSs.tr sh77 xq83 (by decide)
          have s84 := (xq83.2.2.2.2.2 m 3 (by rw [tm]; decide)).trans s78
          have s85 := (xq83.2.2.2.2.2 m 8 (by rw [tm]; decide)).trans s79
          have s86 := (xq83.2.2.2.2.2 m 4 (by rw [tm]; decide)).trans s80
          have s87 := (xq83.2.2.2.2.2 m 46 (by rw [tm]; decide)).trans s81
          have s88 := (xq83.2.2.2.2.2 m 47 (by rw [tm]; decide)).trans s82
          have s89 := (xq83.2.2.2.2.2 m 48 (by rw [tm]; decide)).trans eh77
          exact gz_end (I := .return_) (len := 1) rfl (Or.inl rfl) ⟨sq83, zq1 + 2, 0, fq64_0, rfl, s88, (by omega), (by omega), s89, (by omega), (by omega), s87, (by omega), (by omega), (by omega), (by omega), (by omega)⟩
      · refine gy_icF rfl (by decide) (by decide) (by omega) (by omega) hc63 ?_
        refine gz_s 2 (pc' := 61) (L' := [some (.ref m), some (.int (zi u)), some (.int (zi zq1)), some (.int (zi (208 + (((u / iv) - 1) % 8))))]) (S' := [.int (zi 1), .ref m]) rfl ?_
        refine gz_call rfl (by decide) rfl (by decide) (by decide) (gcal_of rfl rfl rfl (Nat.le_of_ble_eq_true rfl) (gJ.recv (G := gGG) sq1.1 tm rfl rfl)) (mm_keep _ sq1.1 m tm 1 (by omega) u0 s5 (by omega)) (fun q90 _ wq90 => ?_)
        obtain ⟨pq90, oq90, hq90⟩ := q90
        obtain ⟨xq90, fq90_0, gq90, efq90_0, afq90_0, bfq90_0, uq90_0⟩ := wq90
        refine ⟨_, gq90, ?_⟩
        show gz gPP gGG gcn _ _ 64 [some (.ref m), some (.int (zi u)), some (.int (zi zq1)), some (.int (zi (208 + (((u / iv) - 1) % 8))))] [] hq90 _
        have sq90 := gSs.tr sq1 xq90 (by decide)
        have s91 := (xq90.2.2.2.2.2 m 47 (by rw [tm]; decide)).trans s2
        have s92 := (xq90.2.2.2.2.2 m 48 (by rw [tm]; decide)).trans s3
        have s93 := (xq90.2.2.2.2.2 m 3 (by rw [tm]; decide)).trans s4
        have s94 := (xq90.2.2.2.2.2 m 8 (by rw [tm]; decide)).trans s6
        have s95 := (xq90.2.2.2.2.2 m 4 (by rw [tm]; decide)).trans ec31
        refine gz_s 1 (pc' := 65) (L' := [some (.ref m), some (.int (zi u)), some (.int (zi zq1)), some (.int (zi (208 + (((u / iv) - 1) % 8))))]) (S' := [.ref m]) rfl ?_
        refine gs_gtk rfl (by decide) rfl sq90.1 tm rfl rfl efq90_0 ?_
        by_cases hc96 : ¬ (fq90_0 : Int) = 0
        · refine gy_ifT (pc' := 87) rfl (by decide) (by decide) (by omega) hc96 ?_
          exact gz_end (I := .return_) (len := 1) rfl (Or.inl rfl) ⟨sq90, a0, k0, fq90_0, rfl, s91, (by omega), (by omega), s92, (by omega), (by omega), efq90_0, (by omega), (by omega), (by omega), (by omega), (by omega)⟩
        · refine gy_ifF rfl (by decide) (by decide) (by omega) hc96 ?_
          refine gy_s 4 (pc' := 75) (L' := [some (.ref m), some (.int (zi u)), some (.int (zi zq1)), some (.int (zi (208 + (((u / iv) - 1) % 8))))]) (S' := [.int ((zi zq1) + (zi 2)), .ref m]) (L2 := [some (.ref m), some (.int (zi u)), some (.int (zi zq1)), some (.int (zi (208 + (((u / iv) - 1) % 8))))]) (S2 := [.int (zi (zq1 + 2)), .ref m]) rfl (by simp only [zi_add, zi_sub, zi_mul, zi_neg, zi_and1, zi_and7, zi_and15, zi_and31, zi_and255]) (by simp only [zi_add, zi_sub, zi_mul, zi_neg, zi_and1, zi_and7, zi_and15, zi_and31, zi_and255]) ?_
          refine gs_put rfl (by decide) rfl sq90 tm rfl rfl rfl rfl (Or.inl rfl) (by decide) (by omega) (by omega) (fun h97 sh97 eh97 fh97 => ?_)
          have s98 := (fh97 m 48 (fun q => absurd q.2 (by decide))).trans s92
          have s99 := (fh97 m 3 (fun q => absurd q.2 (by decide))).trans s93
          have s100 := (fh97 m 8 (fun q => absurd q.2 (by decide))).trans s94
          have s101 := (fh97 m 4 (fun q => absurd q.2 (by decide))).trans s95
          have s102 := (fh97 m 46 (fun q => absurd q.2 (by decide))).trans efq90_0
          refine gz_s 2 (pc' := 80) (L' := [some (.ref m), some (.int (zi u)), some (.int (zi zq1)), some (.int (zi (208 + (((u / iv) - 1) % 8))))]) (S' := [.int (zi 0), .ref m]) rfl ?_
          refine gs_put rfl (by decide) rfl sh97 tm rfl rfl rfl rfl (Or.inl rfl) (by decide) (by omega) (by omega) (fun h103 sh103 eh103 fh103 => ?_)
          have s104 := (fh103 m 3 (fun q => absurd q.2 (by decide))).trans s99
          have s105 := (fh103 m 8 (fun q => absurd q.2 (by decide))).trans s100
          have s106 := (fh103 m 4 (fun q => absurd q.2 (by decide))).trans s101
          have s107 := (fh103 m 46 (fun q => absurd q.2 (by decide))).trans s102
          have s108 := (fh103 m 47 (fun q => absurd q.2 (by decide))).trans eh97
          refine gz_s 1 (pc' := 84) (L' := [some (.ref m), some (.int (zi u)), some (.int (zi zq1)), some (.int (zi (208 + (((u / iv) - 1) % 8))))]) (S' := [.ref m]) rfl ?_
          refine gz_call rfl (by decide) rfl (by decide) (by decide) (gcal_of rfl rfl rfl (Nat.le_of_ble_eq_true rfl) (gJ.recv (G := gGG) sh103.1 tm rfl rfl)) (mm_begin _ sh103.1 m tm ) (fun q109 _ wq109 => ?_)
          obtain ⟨pq109, oq109, hq109⟩ := q109
          obtain ⟨xq109, gq109⟩ := wq109
          refine ⟨_, gq109, ?_⟩
          show gz gPP gGG gcn _ _ 87 [some (.ref m), some (.int (zi u)), some (.int (zi zq1)), some (.int (zi (208 + (((u / iv) - 1) % 8))))] [] hq109 _
          have sq109 := gSs.tr sh103 xq109 (by decide)
          have s110 := (xq109.2.2.2.2.2 m 3 (by rw [tm]; decide)).trans s104
          have s111 := (xq109.2.2.2.2.2 m 8 (by rw [tm]; decide)).trans s105
          have s112 := (xq109.2.2.2.2.2 m 4 (by rw [tm]; decide)).trans s106
          have s113 := (xq109.2.2.2.2.2 m 46 (by rw [tm]; decide)).trans s107
          have s114 := (xq109.2.2.2.2.2 m 47 (by rw [tm]; decide)).trans s108
          have s115 := (xq109.2.2.2.2.2 m 48 (by rw [tm]; decide)).trans eh103
          exact gz_end (I := .return_) (len := 1) rfl (Or.inl rfl) ⟨sq109, zq1 + 2, 0, fq90_0, rfl, s114, (by omega), (by omega), s115, (by omega), (by omega), s113, (by omega), (by omega), (by omega), (by omega), (by omega)⟩
set_option maxRecDepth 20000 in
set_option maxHeartbeats 4000000 in
theorem mm_goOn (d : Nat) {ty : Nat → Nat} {h : gH} (hJ : gJ rT 1027 ty h) (m : Nat) (tm : ty m = 1) (u : Int) (ru : 0 ≤ u ∧ u ≤ 64) (al : Int) (ral : 0 ≤ al ∧ al ≤ 64) (a0 : Int) (ea0 : h.2.2.2.2 m 47 = .int (zi a0)) (ra0 : 0 ≤ a0 ∧ a0 ≤ 2001) (k0 : Int) (ek0 : h.2.2.2.2 m 48 = .int (zi k0)) (rk0 : 0 ≤ k0 ∧ k0 ≤ 7) (sz : Int) (esz : h.2.2.2.2 m 3 = .int (zi sz)) (rsz : 0 ≤ sz ∧ sz ≤ 2000) (iv : Int) (eiv : h.2.2.2.2 m 8 = .int (zi iv)) (riv : 0 ≤ iv ∧ iv ≤ 65535) (p0 : k0 = 0 ∨ a0 < sz) (p1 : u < al) : gz gPP gGG gcn (d + 1) gt163 0 (gent [.ref m, .int (zi u), .int (zi al)] 6) [] h (fun q _ => gSs rT 1027 ty [1047, 1048] h q.2.2 ∧ ∃ z a1 k1 : Int, gfin gt163 q.1 q.2.1 = some (some (.int (zi z))) ∧ 0 ≤ z ∧ z ≤ 64 ∧ q.2.2.2.2.2.2 m 47 = .int (zi a1) ∧ 0 ≤ a1 ∧ a1 ≤ 2001 ∧ q.2.2.2.2.2.2 m 48 = .int (zi k1) ∧ 0 ≤ k1 ∧ k1 ≤ 7 ∧ (k1 = 0 ∨ a1 < sz) ∧ (a0 ≤ a1) ∧ (u < z) ∧ (z ≤ al)) := by
  have hS : gSs rT 1027 ty [1047, 1048] h h := gSs.rf hJ
  refine gz_s 1 (pc' := 1) (L' := [some (.ref m), some (.int (zi u)), some (.int (zi al)), none, none, none]) (S' := [.ref m]) rfl ?_
  refine gz_call rfl (by decide) rfl (by decide) (by decide) (gcal_of rfl rfl rfl (Nat.le_of_ble_eq_true rfl) (gJ.recv (G := gGG) hS.1 tm rfl rfl)) (mm_nextByte _ hS.1 m tm a0 ea0 (by omega) k0 ek0 (by omega) sz esz (by omega) (by omega)) (fun q1 _ wq1 => ?_)
  obtain ⟨pq1, oq1, hq1⟩ := q1
  obtain ⟨xq1, zq1, gq1, aq1, bq1, uq1_0, uq1_1, uq1_2, uq1_3⟩ := wq1
  refine ⟨_, gq1, ?_⟩
  show gz gPP gGG gcn _ _ 4 [some (.ref m), some (.int (zi u)), some (.int (zi al)), none, none, none] [.int (zi zq1)] hq1 _
  have sq1 := gSs.tr hS xq1 (by decide)
  have s2 := (xq1.2.2.2.2.2 m 47 (by rw [tm]; decide)).trans ea0
  have s3 := (xq1.2.2.2.2.2 m 48 (by rw [tm]; decide)).trans ek0
  have s4 := (xq1.2.2.2.2.2 m 3 (by rw [tm]; decide)).trans esz
  have s5 := (xq1.2.2.2.2.2 m 8 (by rw [tm]; decide)).trans eiv
  refine gz_s 1 (pc' := 5) (L' := [some (.ref m), some (.int (zi u)), some (.int (zi al)), some (.int (zi zq1)), none, none]) (S' := []) rfl ?_
  have lp6 : ∀ (fu : Nat) (h7 : gH) (p : Int), (3000 - p).toNat < fu → gSs rT 1027 ty [1047, 1048] h h7 → (0 ≤ p ∧ p ≤ 2003) → (a0 ≤ p) → h7.2.2.2.2 m 47 = .int (zi a0) → h7.2.2.2.2 m 48 = .int (zi k0) → h7.2.2.2.2 m 3 = .int (zi sz) → h7.2.2.2.2 m 8 = .int (zi iv) → gz gPP gGG gcn (d + 1) gt163 5 [some (.ref m), some (.int (zi u)), some (.int (zi al)), some (.int (zi p)), none, none] [] h7 (fun q _ => gSs rT 1027 ty [1047, 1048] h q.2.2 ∧ ∃ z a1 k1 : Int, gfin gt163 q.1 q.2.1 = some (some (.int (zi z))) ∧ 0 ≤ z ∧ z ≤ 64 ∧ q.2.2.2.2.2.2 m 47 = .int (zi a1) ∧ 0 ≤ a1 ∧ a1 ≤ 2001 ∧ q.2.2.2.2.2.2 m 48 = .int (zi k1) ∧ 0 ≤ k1 ∧ k1 ≤ 7 ∧ (k1 = 0 ∨ a1 < sz) ∧ (a0 ≤ a1) ∧ (u < z) ∧ (z ≤ al)) := by
    intro fu
    induction fu with
    | zero => intro h7 p hm; exact absurd hm (Nat.not_lt_zero _)
    | succ fu ihlp6 =>
      intro h7 p lp6m sh7 lp6f0 lp6f1 lp6k0 lp6k1 lp6k2 lp6k3
      refine gy_s 4 (pc' := 9) (L' := [some (.ref m), some (.int (zi u)), some (.int (zi al)), some (.int (zi p)), none, none]) (S' := [.ref m, .int ((zi p) + (zi 1))]) (L2 := [some (.ref m), some (.int (zi u)), some (.int (zi al)), some (.int (zi p)), none, none]) (S2 := [.ref m, .int (zi (p + 1))]) rfl (by simp only [zi_add, zi_sub, zi_mul, zi_neg, zi_and1, zi_and7, zi_and15, zi_and31, zi_and255]) (by simp only [zi_add, zi_sub, zi_mul, zi_neg, zi_and1, zi_and7, zi_and15, zi_and31, zi_and255]) ?_
      refine gs_gtk rfl (by decide) rfl sh7.1 tm rfl rfl lp6k2 ?_
      by_cases hc8 : (sz : Int) ≤ p + 1
      · refine gy_icT (pc' := 44) rfl (by decide) (by decide) (by omega) (by omega) hc8 ?_
        refine gy_s 4 (pc' := 48) (L' := [some (.ref m), some (.int (zi u)), some (.int (zi al)), some (.int (zi p)), none, none]) (S' := [.ref m, .int ((zi p) + (zi 1))]) (L2 := [some (.ref m), some (.int (zi u)), some (.int (zi al)), some (.int (zi p)), none, none]) (S2 := [.ref m, .int (zi (p + 1))]) rfl (by simp only [zi_add, zi_sub, zi_mul, zi_neg, zi_and1, zi_and7, zi_and15, zi_and31, zi_and255]) (by simp only [zi_add, zi_sub, zi_mul, zi_neg, zi_and1, zi_and7, zi_and15, zi_and31, zi_and255]) ?_
        refine gs_gtk rfl (by decide) rfl sh7.1 tm rfl rfl lp6k2 ?_
        refine gy_icF rfl (by decide) (by decide) (by omega) (by omega) (by first | (simp [zc]; done) | (simp only [zc]; omega)) ?_
        refine gz_s 1 (pc' := 55) (L' := [some (.ref m), some (.int (zi u)), some (.int (zi al)), some (.int (zi p)), none, none]) (S' := [.int (zi al)]) rfl ?_
        exact gz_end (I := .ireturn) (len := 1) rfl (Or.inl rfl) ⟨sh7, al, a0, k0, rfl, (by omega), (by omega), lp6k0, (by omega), (by omega), lp6k1, (by omega), (by omega), (by omega), (by omega), (by omega), (by omega)⟩
      · refine gy_icF rfl (by decide) (by decide) (by omega) (by omega) hc8 ?_
        refine gz_s 1 (pc' := 16) (L' := [some (.ref m), some (.int (zi u)), some (.int (zi al)), some (.int (zi p)), none, none]) (S' := [.ref m]) rfl ?_
        refine gs_gtr rfl (by decide) rfl sh7.1 tm rfl rfl rfl (fun c9 ec9 tc9 => ?_)
        refine gz_s 1 (pc' := 20) (L' := [some (.ref m), some (.int (zi u)), some (.int (zi al)), some (.int (zi p)), none, none]) (S' := [.int (zi p), .ref c9]) rfl ?_
        have hl10 : 2000 ≤ h7.2.2.2.1 c9 ∧ h7.2.2.2.1 c9 ≤ 2000 := gJ.rowl (G := gGG) sh7.1 tc9 rfl
        refine gs_ald rfl (by decide) sh7.1 tc9 rfl rfl rfl (by decide) (fun _ => rfl) (by omega) (by omega) (fun z11 ez11 az11 bz11 => ?_)
        refine gz_s 1 (pc' := 24) (L' := [some (.ref m), some (.int (zi u)), some (.int (zi al)), some (.int (zi p)), none, none]) (S' := [.int (zi 255), .int (zi z11)]) rfl ?_
        by_cases hc12 : ¬ (z11 : Int) = 255
        · refine gy_icT (pc' := 38) rfl (by decide) (by decide) (by omega) (by omega) hc12 ?_
          refine gy_s 2 (pc' := 5) (L' := [some (.ref m), some (.int (zi u)), some (.int (zi al)), some (.int ((zi p) + zi 1)), none, none]) (S' := []) (L2 := [some (.ref m), some (.int (zi u)), some (.int (zi al)), some (.int (zi (p + 1))), none, none]) (S2 := []) rfl (by simp only [zi_add, zi_sub, zi_mul, zi_neg, zi_and1, zi_and7, zi_and15, zi_and31, zi_and255]) (by simp only [zi_add, zi_sub, zi_mul, zi_neg, zi_and1, zi_and7, zi_and15, zi_and31, zi_and255]) ?_
          exact gz_wk (ihlp6 h7 (p + 1) (by omega) sh7 (by omega) (by omega) lp6k0 lp6k1 lp6k2 lp6k3) (gLw.s (gLw.s (gLw.s (gLw.s (gLw.n (gLw.n gLw.z))))))
        · refine gy_icF rfl (by decide) (by decide) (by omega) (by omega) hc12 ?_
          refine gz_s 1 (pc' := 28) (L' := [some (.ref m), some (.int (zi u)), some (.int (zi al)), some (.int (zi p)), none, none]) (S' := [.ref m]) rfl ?_
          refine gs_gtk rfl (by decide) rfl sh7.1 tm rfl rfl ec9 ?_
          refine gy_s 3 (pc' := 34) (L' := [some (.ref m), some (.int (zi u)), some (.int (zi al)), some (.int (zi p)), none, none]) (S' := [.int ((zi p) + (zi 1)), .ref c9]) (L2 := [some (.ref m), some (.int (zi u)), some (.int (zi al)), some (.int (zi p)), none, none]) (S2 := [.int (zi (p + 1)), .ref c9]) rfl (by simp only [zi_add, zi_sub, zi_mul, zi_neg, zi_and1, zi_and7, zi_and15, zi_and31, zi_and255]) (by simp only [zi_add, zi_sub, zi_mul, zi_neg, zi_and1, zi_and7, zi_and15, zi_and31, zi_and255]) ?_
          have hl13 : 2000 ≤ h7.2.2.2.1 c9 ∧ h7.2.2.2.1 c9 ≤ 2000 := gJ.rowl (G := gGG) sh7.1 tc9 rfl
          refine gs_ald rfl (by decide) sh7.1 tc9 rfl rfl rfl (by decide) (fun _ => rfl) (by omega) (by omega) (fun z14 ez14 az14 bz14 => ?_)
          by_cases hc15 : ¬ (z14 : Int) = 0
          · refine gy_ifT (pc' := 44) rfl (by decide) (by decide) (by omega) hc15 ?_
            refine gy_s 4 (pc' := 48) (L' := [some (.ref m), some (.int (zi u)), some (.int (zi al)), some (.int (zi p)), none, none]) (S' := [.ref m, .int ((zi p) + (zi 1))]) (L2 := [some (.ref m), some (.int (zi u)), some (.int (zi al)), some (.int (zi p)), none, none]) (S2 := [.ref m, .int (zi (p + 1))]) rfl (by simp only [zi_add, zi_sub, zi_mul, zi_neg, zi_and1, zi_and7, zi_and15, zi_and31, zi_and255]) (by simp only [zi_add, zi_sub, zi_mul, zi_neg, zi_and1, zi_and7, zi_and15, zi_and31, zi_and255]) ?_
            refine gs_gtk rfl (by decide) rfl sh7.1 tm rfl rfl lp6k2 ?_
            refine gy_icT (pc' := 56) rfl (by decide) (by decide) (by omega) (by omega) (by first | (simp [zc]; done) | (simp only [zc]; omega)) ?_
            refine gz_s 1 (pc' := 57) (L' := [some (.ref m), some (.int (zi u)), some (.int (zi al)), some (.int (zi p)), none, none]) (S' := [.ref m]) rfl ?_
            refine gs_gtk rfl (by decide) rfl sh7.1 tm rfl rfl ec9 ?_
            refine gy_s 3 (pc' := 63) (L' := [some (.ref m), some (.int (zi u)), some (.int (zi al)), some (.int (zi p)), none, none]) (S' := [.int ((zi p) + (zi 1)), .ref c9]) (L2 := [some (.ref m), some (.int (zi u)), some (.int (zi al)), some (.int (zi p)), none, none]) (S2 := [.int (zi (p + 1)), .ref c9]) rfl (by simp only [zi_add, zi_sub, zi_mul, zi_neg, zi_and1, zi_and7, zi_and15, zi_and31, zi_and255]) (by simp only [zi_add, zi_sub, zi_mul, zi_neg, zi_and1, zi_and7, zi_and15, zi_and31, zi_and255]) ?_
            have hl16 : 2000 ≤ h7.2.2.2.1 c9 ∧ h7.2.2.2.1 c9 ≤ 2000 := gJ.rowl (G := gGG) sh7.1 tc9 rfl
            refine gs_ald rfl (by decide) sh7.1 tc9 rfl rfl rfl (by decide) (fun _ => rfl) (by omega) (by omega) (fun z17 ez17 az17 bz17 => ?_)
            refine gy_s 4 (pc' := 72) (L' := [some (.ref m), some (.int (zi u)), some (.int (zi al)), some (.int (zi p)), some (.int ((zi z17) - (zi 208))), none]) (S' := [.int ((zi z17) - (zi 208))]) (L2 := [some (.ref m), some (.int (zi u)), some (.int (zi al)), some (.int (zi p)), some (.int (zi (z17 - 208))), none]) (S2 := [.int (zi (z17 - 208))]) rfl (by simp only [zi_add, zi_sub, zi_mul, zi_neg, zi_and1, zi_and7, zi_and15, zi_and31, zi_and255]) (by simp only [zi_add, zi_sub, zi_mul, zi_neg, zi_and1, zi_and7, zi_and15, zi_and31, zi_and255]) ?_
            by_cases hc18 : (z17 - 208 : Int) < 0
            · refine gy_ifT (pc' := 82) rfl (by decide) (by decide) (by omega) hc18 ?_
              refine gz_s 1 (pc' := 83) (L' := [some (.ref m), some (.int (zi u)), some (.int (zi al)), some (.int (zi p)), some (.int (zi (z17 - 208))), none]) (S' := [.int (zi al)]) rfl ?_
              exact gz_end (I := .ireturn) (len := 1) rfl (Or.inl rfl) ⟨sh7, al, a0, k0, rfl, (by omega), (by omega), lp6k0, (by omega), (by omega), lp6k1, (by omega), (by omega), (by omega), (by omega), (by omega), (by omega)⟩
            · refine gy_ifF rfl (by decide) (by decide) (by omega) hc18 ?_
              refine gz_s 2 (pc' := 79) (L' := [some (.ref m), some (.int (zi u)), some (.int (zi al)), some (.int (zi p)), some (.int (zi (z17 - 208))), none]) (S' := [.int (zi 7), .int (zi (z17 - 208))]) rfl ?_
              by_cases hc19 : (z17 - 208 : Int) ≤ 7
              · refine gy_icT (pc' := 84) rfl (by decide) (by decide) (by omega) (by omega) hc19 ?_
                refine gy_s 4 (pc' := 88) (L' := [some (.ref m), some (.int (zi u)), some (.int (zi al)), some (.int (zi p)), some (.int (zi (z17 - 208))), none]) (S' := [.int ((zi p) + (zi 2)), .ref m]) (L2 := [some (.ref m), some (.int (zi u)), some (.int (zi al)), some (.int (zi p)), some (.int (zi (z17 - 208))), none]) (S2 := [.int (zi (p + 2)), .ref m]) rfl (by simp only [zi_add, zi_sub, zi_mul, zi_neg, zi_and1, zi_and7, zi_and15, zi_and31, zi_and255]) (by simp only [zi_add, zi_sub, zi_mul, zi_neg, zi_and1, zi_and7, zi_and15, zi_and31, zi_and255]) ?_
                refine gs_put rfl (by decide) rfl sh7 tm rfl rfl rfl rfl (Or.inl rfl) (by decide) (by omega) (by omega) (fun h20 sh20 eh20 fh20 => ?_)
                have s21 := (fh20 m 48 (fun q => absurd q.2 (by decide))).trans lp6k1
                have s22 := (fh20 m 3 (fun q => absurd q.2 (by decide))).trans lp6k2
                have s23 := (fh20 m 8 (fun q => absurd q.2 (by decide))).trans lp6k3
                have s24 := (fh20 m 4 (fun q => absurd q.2 (by decide))).trans ec9
                refine gz_s 2 (pc' := 93) (L' := [some (.ref m), some (.int (zi u)), some (.int (zi al)), some (.int (zi p)), some (.int (zi (z17 - 208))), none]) (S' := [.int (zi 0), .ref m]) rfl ?_
                refine gs_put rfl (by decide) rfl sh20 tm rfl rfl rfl rfl (Or.inl rfl) (by decide) (by omega) (by omega) (fun h25 sh25 eh25 fh25 => ?_)
                have s26 := (fh25 m 3 (fun q => absurd q.2 (by decide))).trans s22
                have s27 := (fh25 m 8 (fun q => absurd q.2 (by decide))).trans s23
                have s28 := (fh25 m 4 (fun q => absurd q.2 (by decide))).trans s24
                have s29 := (fh25 m 47 (fun q => absurd q.2 (by decide))).trans eh20
                refine gz_s 1 (pc' := 97) (L' := [some (.ref m), some (.int (zi u)), some (.int (zi al)), some (.int (zi p)), some (.int (zi (z17 - 208))), none]) (S' := [.ref m]) rfl ?_
                refine gs_gtk rfl (by decide) rfl sh25.1 tm rfl rfl s27 ?_
                by_cases hc30 : ¬ (iv : Int) = 0
                · refine gy_ifT (pc' := 105) rfl (by decide) (by decide) (by omega) hc30 ?_
                  refine gz_s 2 (pc' := 107) (L' := [some (.ref m), some (.int (zi u)), some (.int (zi al)), some (.int (zi p)), some (.int (zi (z17 - 208))), none]) (S' := [.ref m, .int (zi u)]) rfl ?_
                  refine gs_gtk rfl (by decide) rfl sh25.1 tm rfl rfl s27 ?_
                  refine gy_div rfl (by decide) (by omega) (by omega) ?_
                  have hd31 := zd_f (x := u) (y := iv) (by omega) (by omega)
                  refine gy_s 3 (pc' := 114) (L' := [some (.ref m), some (.int (zi u)), some (.int (zi al)), some (.int (zi p)), some (.int (zi (z17 - 208))), none]) (S' := [.ref m, .int ((zi (u / iv)) + (zi 1))]) (L2 := [some (.ref m), some (.int (zi u)), some (.int (zi al)), some (.int (zi p)), some (.int (zi (z17 - 208))), none]) (S2 := [.ref m, .int (zi ((u / iv) + 1))]) rfl (by simp only [zi_add, zi_sub, zi_mul, zi_neg, zi_and1, zi_and7, zi_and15, zi_and31, zi_and255]) (by simp only [zi_add, zi_sub, zi_mul, zi_neg, zi_and1, zi_and7, zi_and15, zi_and31, zi_and255]) ?_
                  refine gs_gtk rfl (by decide) rfl sh25.1 tm rfl rfl s27 ?_
                  refine gy_s 2 (pc' := 120) (L' := [some (.ref m), some (.int (zi u)), some (.int (zi al)), some (.int (zi p)), some (.int (zi (z17 - 208))), some (.int ((zi ((u / iv) + 1)) * (zi iv)))]) (S' := []) (L2 := [some (.ref m), some (.int (zi u)), some (.int (zi al)), some (.int (zi p)), some (.int (zi (z17 - 208))), some (.int (zi (((u / iv) + 1) * iv)))]) (S2 := []) rfl (by simp only [zi_add, zi_sub, zi_mul, zi_neg, zi_and1, zi_and7, zi_and15, zi_and31, zi_and255]) (by simp only [zi_add, zi_sub, zi_mul, zi_neg, zi_and1, zi_and7, zi_and15, zi_and31, zi_and255]) ?_
                  have lp32 : ∀ (fu : Nat) (h33 : gH) (nx : Int), (200001 - nx).toNat < fu → gSs rT 1027 ty [1047, 1048] h h33 → (0 ≤ nx ∧ nx ≤ 200000) → (u < nx) → (iv ≤ nx) → (nx ≤ 70000 ∨ nx < al + iv) → h33.2.2.2.2 m 3 = .int (zi sz) → h33.2.2.2.2 m 8 = .int (zi iv) → h33.2.2.2.2 m 4 = .ref c9 → h33.2.2.2.2 m 47 = .int (zi (p + 2)) → h33.2.2.2.2 m 48 = .int (zi 0) → gz gPP gGG gcn (d + 1) gt163 120 [some (.ref m), some (.int (zi u)), some (.int (zi al)), some (.int (zi p)), some (.int (zi (z17 - 208))), some (.int (zi nx))] [] h33 (fun q _ => gSs rT 1027 ty [1047, 1048] h q.2.2 ∧ ∃ z a1 k1 : Int, gfin gt163 q.1 q.2.1 = some (some (.int (zi z))) ∧ 0 ≤ z ∧ z ≤ 64 ∧ q.2.2.2.2.2.2 m 47 = .int (zi a1) ∧ 0 ≤ a1 ∧ a1 ≤ 2001 ∧ q.2.2.2.2.2.2 m 48 = .int (zi k1) ∧ 0 ≤ k1 ∧ k1 ≤ 7 ∧ (k1 = 0 ∨ a1 < sz) ∧ (a0 ≤ a1) ∧ (u < z) ∧ (z ≤ al)) := by
                    intro fu
                    induction fu with
                    | zero => intro h33 nx hm; exact absurd hm (Nat.not_lt_zero _)
                    | succ fu ihlp32 =>
                      intro h33 nx lp32m sh33 lp32f0 lp32f1 lp32f2 lp32f3 lp32k0 lp32k1 lp32k2 lp32k3 lp32k4
                      refine gz_s 2 (pc' := 123) (L' := [some (.ref m), some (.int (zi u)), some (.int (zi al)), some (.int (zi p)), some (.int (zi (z17 - 208))), some (.int (zi nx))]) (S' := [.int (zi al), .int (zi nx)]) rfl ?_
                      by_cases hc34 : (al : Int) ≤ nx
                      · refine gy_icT (pc' := 155) rfl (by decide) (by decide) (by omega) (by omega) hc34 ?_
                        refine gz_s 2 (pc' := 158) (L' := [some (.ref m), some (.int (zi u)), some (.int (zi al)), some (.int (zi p)), some (.int (zi (z17 - 208))), some (.int (zi nx))]) (S' := [.int (zi al), .int (zi nx)]) rfl ?_
                        refine gy_icT (pc' := 166) rfl (by decide) (by decide) (by omega) (by omega) (by first | (simp [zc]; done) | (simp only [zc]; omega)) ?_
                        refine gz_s 1 (pc' := 167) (L' := [some (.ref m), some (.int (zi u)), some (.int (zi al)), some (.int (zi p)), some (.int (zi (z17 - 208))), some (.int (zi nx))]) (S' := [.int (zi al)]) rfl ?_
                        exact gz_end (I := .ireturn) (len := 1) rfl (Or.inl rfl) ⟨sh33, al, p + 2, 0, rfl, (by omega), (by omega), lp32k3, (by omega), (by omega), lp32k4, (by omega), (by omega), (by omega), (by omega), (by omega), (by omega)⟩
                      · refine gy_icF rfl (by decide) (by decide) (by omega) (by omega) hc34 ?_
                        refine gz_s 2 (pc' := 129) (L' := [some (.ref m), some (.int (zi u)), some (.int (zi al)), some (.int (zi p)), some (.int (zi (z17 - 208))), some (.int (zi nx))]) (S' := [.ref m, .int (zi nx)]) rfl ?_
                        refine gs_gtk rfl (by decide) rfl sh33.1 tm rfl rfl lp32k1 ?_
                        refine gy_div rfl (by decide) (by omega) (by omega) ?_
                        have hd35 := zd_f (x := nx) (y := iv) (by omega) (by omega)
                        refine gy_s 3 (pc' := 137) (L' := [some (.ref m), some (.int (zi u)), some (.int (zi al)), some (.int (zi p)), some (.int (zi (z17 - 208))), some (.int (zi nx))]) (S' := [.int (zi 8), .int ((zi (nx / iv)) - (zi 1))]) (L2 := [some (.ref m), some (.int (zi u)), some (.int (zi al)), some (.int (zi p)), some (.int (zi (z17 - 208))), some (.int (zi nx))]) (S2 := [.int (zi 8), .int (zi ((nx / iv) - 1))]) rfl (by simp only [zi_add, zi_sub, zi_mul, zi_neg, zi_and1, zi_and7, zi_and15, zi_and31, zi_and255]) (by simp only [zi_add, zi_sub, zi_mul, zi_neg, zi_and1, zi_and7, zi_and15, zi_and31, zi_and255]) ?_
                        refine gy_rem rfl (by decide) (by omega) (by omega) ?_
                        refine gz_s 1 (pc' := 140) (L' := [some (.ref m), some (.int (zi u)), some (.int (zi al)), some (.int (zi p)), some (.int (zi (z17 - 208))), some (.int (zi nx))]) (S' := [.int (zi (z17 - 208)), .int (zi (((nx / iv) - 1) % 8))]) rfl ?_
                        by_cases hc36 : (((nx / iv) - 1) % 8 : Int) = z17 - 208
                        · refine gy_icT (pc' := 155) rfl (by decide) (by decide) (by omega) (by omega) hc36 ?_
                          refine gz_s 2 (pc' := 158) (L' := [some (.ref m), some (.int (zi u)), some (.int (zi al)), some (.int (zi p)), some (.int (zi (z17 - 208))), some (.int (zi nx))]) (S' := [.int (zi al), .int (zi nx)]) rfl ?_
                          refine gy_icF rfl (by decide) (by decide) (by omega) (by omega) (by first | (simp [zc]; done) | (simp only [zc]; omega)) ?_
                          refine gz_s 2 (pc' := 167) (L' := [some (.ref m), some (.int (zi u)), some (.int (zi al)), some (.int (zi p)), some (.int (zi (z17 - 208))), some (.int (zi nx))]) (S' := [.int (zi nx)]) rfl ?_
                          exact gz_end (I := .ireturn) (len := 1) rfl (Or.inl rfl) ⟨sh33, nx, p + 2, 0, rfl, (by omega), (by omega), lp32k3, (by omega), (by omega), lp32k4, (by omega), (by omega), (by omega), (by omega), (by omega), (by omega)⟩
                        · refine gy_icF rfl (by decide) (by decide) (by omega) (by omega) hc36 ?_
                          refine gz_s 2 (pc' := 146) (L' := [some (.ref m), some (.int (zi u)), some (.int (zi al)), some (.int (zi p)), some (.int (zi (z17 - 208))), some (.int (zi nx))]) (S' := [.ref m, .int (zi nx)]) rfl ?_
                          refine gs_gtk rfl (by decide) rfl sh33.1 tm rfl rfl lp32k1 ?_
                          refine gy_s 3 (pc' := 120) (L' := [some (.ref m), some (.int (zi u)), some (.int (zi al)), some (.int (zi p)), some (.int (zi (z17 - 208))), some (.int ((zi nx) + (zi iv)))]) (S' := []) (L2 := [some (.ref m), some (.int (zi u)), some (.int (zi al)), some (.int (zi p)), some (.int (zi (z17 - 208))), some (.int (zi (nx + iv)))]) (S2 := []) rfl (by simp only [zi_add, zi_sub, zi_mul, zi_neg, zi_and1, zi_and7, zi_and15, zi_and31, zi_and255]) (by simp only [zi_add, zi_sub, zi_mul, zi_neg, zi_and1, zi_and7, zi_and15, zi_and31, zi_and255]) ?_
                          exact gz_wk (ihlp32 h33 (nx + iv) (by omega) sh33 (by omega) (by omega) (by omega) (by omega) lp32k0 lp32k1 lp32k2 lp32k3 lp32k4) (gLw.s (gLw.s (gLw.s (gLw.s (gLw.s (gLw.s gLw.z))))))
                  exact gz_wk (lp32 _ h25 (((u / iv) + 1) * iv) (Nat.lt_succ_self _) sh25 (by omega) (by omega) (by omega) (by omega) s26 s27 s28 s29 eh25) (gLw.s (gLw.s (gLw.s (gLw.s (gLw.s (gLw.s gLw.z))))))
                · refine gy_ifF rfl (by decide) (by decide) (by omega) hc30 ?_
                  refine gz_s 1 (pc' := 104) (L' := [some (.ref m), some (.int (zi u)), some (.int (zi al)), some (.int (zi p)), some (.int (zi (z17 - 208))), none]) (S' := [.int (zi al)]) rfl ?_
                  exact gz_end (I := .ireturn) (len := 1) rfl (Or.inl rfl) ⟨sh25, al, p + 2, 0, rfl, (by omega), (by omega), s29, (by omega), (by omega), eh25, (by omega), (by omega), (by omega), (by omega), (by omega), (by omega)⟩
              · refine gy_icF rfl (by decide) (by decide) (by omega) (by omega) hc19 ?_
                refine gz_s 1 (pc' := 83) (L' := [some (.ref m), some (.int (zi u)), some (.int (zi al)), some (.int (zi p)), some (.int (zi (z17 - 208))), none]) (S' := [.int (zi al)]) rfl ?_
                exact gz_end (I := .ireturn) (len := 1) rfl (Or.inl rfl) ⟨sh7, al, a0, k0, rfl, (by omega), (by omega), lp6k0, (by omega), (by omega), lp6k1, (by omega), (by omega), (by omega), (by omega), (by omega), (by omega)⟩
          · refine gy_ifF rfl (by decide) (by decide) (by omega) hc15 ?_
            refine gy_s 2 (pc' := 5) (L' := [some (.ref m), some (.int (zi u)), some (.int (zi al)), some (.int ((zi p) + zi 1)), none, none]) (S' := []) (L2 := [some (.ref m), some (.int (zi u)), some (.int (zi al)), some (.int (zi (p + 1))), none, none]) (S2 := []) rfl (by simp only [zi_add, zi_sub, zi_mul, zi_neg, zi_and1, zi_and7, zi_and15, zi_and31, zi_and255]) (by simp only [zi_add, zi_sub, zi_mul, zi_neg, zi_and1, zi_and7, zi_and15, zi_and31, zi_and255]) ?_
            exact gz_wk (ihlp6 h7 (p + 1) (by omega) sh7 (by omega) (by omega) lp6k0 lp6k1 lp6k2 lp6k3) (gLw.s (gLw.s (gLw.s (gLw.s (gLw.n (gLw.n gLw.z))))))
  exact gz_wk (lp6 _ hq1 zq1 (Nat.lt_succ_self _) sq1 (by omega) (by omega) s2 s3 s4 s5) (gLw.s (gLw.s (gLw.s (gLw.s (gLw.n (gLw.n gLw.z))))))
