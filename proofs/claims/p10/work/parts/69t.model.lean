/-! ===== the model: methods (by program) ===== -/
set_option maxRecDepth 20000 in
set_option maxHeartbeats 4000000 in
theorem mm_putScan (d : Nat) {ty : Nat → Nat} {h : gH} (hJ : gJ rT 1027 ty h) (m : Nat) (tm : ty m = 1) (a : Int) (ra : 0 ≤ a ∧ a ≤ 63) (b : Int) (rb : 0 ≤ b ∧ b ≤ 63) (ov : Int) (rov : 0 ≤ ov ∧ ov ≤ 4) (bt : Int) (rbt : 0 ≤ bt ∧ bt ≤ 3) (w0 : Int) (ew0 : h.2.2.2.2 m 59 = .int (zi w0)) (rw0 : 0 ≤ w0 ∧ w0 ≤ 46000) (b0 : Int) (eb0 : h.2.2.2.2 m 62 = .int (zi b0)) (rb0 : 0 ≤ b0 ∧ b0 ≤ 0) (pp0 : a ≤ b) (uq : gUq ty) : gz gPP gGG gcn (d + 5) gt189 0 (gent [.ref m, .int (zi a), .int (zi b), .int (zi ov), .int (zi bt)] 7) [] h (fun q _ => gSs rT 1027 ty [1059, 1061, 1062, 1067, 1074, 1075, 32999, 36999, 37999, 38999, 39999, 40999, 41999, 42999] h q.2.2 ∧ ∃ w1 b1 : Int, gfin gt189 q.1 q.2.1 = some none ∧ q.2.2.2.2.2.2 m 59 = .int (zi w1) ∧ 0 ≤ w1 ∧ w1 ≤ 60000 ∧ q.2.2.2.2.2.2 m 62 = .int (zi b1) ∧ 0 ≤ b1 ∧ b1 ≤ 0 ∧ (w0 ≤ w1) ∧ (4 * w1 ≤ 4 * w0 + 16 * (35 * (b - a + 1) + 73) + 2300)) := by
  have hS : gSs rT 1027 ty [1059, 1061, 1062, 1067, 1074, 1075, 32999, 36999, 37999, 38999, 39999, 40999, 41999, 42999] h h := gSs.rf hJ
  refine gz_s 2 (pc' := 3) (L' := [some (.ref m), some (.int (zi a)), some (.int (zi b)), some (.int (zi ov)), some (.int (zi bt)), some (.int (zi 0)), none]) (S' := []) rfl ?_
  obtain ⟨c2, ec2, tc2⟩ := gJ.ref (k := 68) (G := gGG) hS.1 tm rfl rfl rfl
  have hoz3 : gOz ty 36 0 0 h := ⟨_, gRow.mk uq tc2 (by decide) (fun _ => rfl), fun j hj => absurd hj (by omega)⟩
  have lp1 : ∀ (fu : Nat) (h4 : gH) (k : Int), (515 - k).toNat < fu → gSs rT 1027 ty [1059, 1061, 1062, 1067, 1074, 1075, 32999, 36999, 37999, 38999, 39999, 40999, 41999, 42999] h h4 → (0 ≤ k ∧ k ≤ 514) → h4.2.2.2.2 m 59 = .int (zi w0) → h4.2.2.2.2 m 62 = .int (zi b0) → gOz ty 36 0 k h4 → gz gPP gGG gcn (d + 5) gt189 3 [some (.ref m), some (.int (zi a)), some (.int (zi b)), some (.int (zi ov)), some (.int (zi bt)), some (.int (zi k)), none] [] h4 (fun q _ => gSs rT 1027 ty [1059, 1061, 1062, 1067, 1074, 1075, 32999, 36999, 37999, 38999, 39999, 40999, 41999, 42999] h q.2.2 ∧ ∃ w1 b1 : Int, gfin gt189 q.1 q.2.1 = some none ∧ q.2.2.2.2.2.2 m 59 = .int (zi w1) ∧ 0 ≤ w1 ∧ w1 ≤ 60000 ∧ q.2.2.2.2.2.2 m 62 = .int (zi b1) ∧ 0 ≤ b1 ∧ b1 ≤ 0 ∧ (w0 ≤ w1) ∧ (4 * w1 ≤ 4 * w0 + 16 * (35 * (b - a + 1) + 73) + 2300)) := by
    intro fu
    induction fu with
    | zero => intro h4 k hm; exact absurd hm (Nat.not_lt_zero _)
    | succ fu ihlp1 =>
      intro h4 k lp1m sh4 lp1f0 lp1k0 lp1k1 lp1k2
      refine gz_s 2 (pc' := 8) (L' := [some (.ref m), some (.int (zi a)), some (.int (zi b)), some (.int (zi ov)), some (.int (zi bt)), some (.int (zi k)), none]) (S' := [.int (zi 514), .int (zi k)]) rfl ?_
      by_cases hc5 : (514 : Int) ≤ k
      · refine gy_icT (pc' := 25) rfl (by decide) (by decide) (by omega) (by omega) hc5 ?_
        have hof0 : gOf ty 0 h4 := by
          have e9 := lp1k2
          rw [(by omega : k = 514)] at e9
          exact e9.out
        refine gz_s 2 (pc' := 27) (L' := [some (.ref m), some (.int (zi a)), some (.int (zi b)), some (.int (zi ov)), some (.int (zi bt)), some (.int (zi k)), none]) (S' := [.int (zi 0), .ref m]) rfl ?_
        refine gs_put rfl (by decide) rfl sh4 tm rfl rfl rfl rfl (Or.inl rfl) (by decide) (by omega) (by omega) (fun h6 sh6 eh6 fh6 => ?_)
        have pr7 := gOf.pt fh6 tm (by decide) hof0
        have s8 := (fh6 m 59 (fun q => absurd q.2 (by decide))).trans lp1k0
        have s9 := (fh6 m 62 (fun q => absurd q.2 (by decide))).trans lp1k1
        refine gz_s 5 (pc' := 36) (L' := [some (.ref m), some (.int (zi a)), some (.int (zi b)), some (.int (zi ov)), some (.int (zi bt)), some (.int (zi k)), none]) (S' := [.int (zi bt), .int (zi ov), .int (zi b), .int (zi a), .ref m]) rfl ?_
        obtain ⟨z10, ez10, az10, bz10⟩ := gJ.int (k := 64) (G := gGG) sh6.1 tm rfl rfl rfl
        refine gz_call rfl (by decide) rfl (by decide) (by decide) (gcal_of rfl rfl rfl (Nat.le_of_ble_eq_true rfl) (gJ.recv (G := gGG) sh6.1 tm rfl rfl)) (mm_putBlocks _ sh6.1 m tm a (by omega) b (by omega) ov (by omega) bt (by omega) w0 s8 (by omega) b0 s9 (by omega) 0 eh6 (by omega) z10 ez10 (by omega) 0 (by omega) (by omega) (by omega) uq pr7) (fun q11 _ wq11 => ?_)
        obtain ⟨pq11, oq11, hq11⟩ := q11
        obtain ⟨xq11, fq11_0, fq11_1, xq11_0, gq11, efq11_0, afq11_0, bfq11_0, efq11_1, afq11_1, bfq11_1, axq11_0, bxq11_0, uq11_0, uq11_1, uq11_2, uq11_3, uq11_4, yq11_0⟩ := wq11
        refine ⟨_, gq11, ?_⟩
        show gz gPP gGG gcn _ _ 39 [some (.ref m), some (.int (zi a)), some (.int (zi b)), some (.int (zi ov)), some (.int (zi bt)), some (.int (zi k)), none] [] hq11 _
        have sq11 := gSs.tr sh6 xq11 (by decide)
        have s12 := (xq11.2.2.2.2.2 m 67 (by rw [tm]; decide)).trans eh6
        have s13 := (xq11.2.2.2.2.2 m 64 (by rw [tm]; decide)).trans ez10
        refine gz_s 2 (pc' := 41) (L' := [some (.ref m), some (.int (zi a)), some (.int (zi b)), some (.int (zi ov)), some (.int (zi bt)), some (.int (zi k)), none]) (S' := [.int (zi 1), .ref m]) rfl ?_
        refine gs_put rfl (by decide) rfl sq11 tm rfl rfl rfl rfl (Or.inl rfl) (by decide) (by omega) (by omega) (fun h14 sh14 eh14 fh14 => ?_)
        have pr15 := gOf.pt fh14 tm (by decide) yq11_0
        have s16 := (fh14 m 64 (fun q => absurd q.2 (by decide))).trans s13
        have s17 := (fh14 m 59 (fun q => absurd q.2 (by decide))).trans efq11_0
        have s18 := (fh14 m 62 (fun q => absurd q.2 (by decide))).trans efq11_1
        refine gz_s 4 (pc' := 50) (L' := [some (.ref m), some (.int (zi a)), some (.int (zi b)), some (.int (zi ov)), some (.int (zi bt)), some (.int (zi 0)), none]) (S' := [.int (zi 2), .int (zi 0)]) rfl ?_
        refine gy_icF rfl (by decide) (by decide) (by omega) (by omega) (by first | (simp [zc]; done) | (simp only [zc]; omega)) ?_
        refine gz_s 1 (pc' := 55) (L' := [some (.ref m), some (.int (zi a)), some (.int (zi b)), some (.int (zi ov)), some (.int (zi bt)), some (.int (zi 0)), none]) (S' := [.int (zi 0)]) rfl ?_
        refine gy_ifF rfl (by decide) (by decide) (by omega) (by first | (simp [zc]; done) | (simp only [zc]; omega)) ?_
        refine gz_s 1 (pc' := 59) (L' := [some (.ref m), some (.int (zi a)), some (.int (zi b)), some (.int (zi ov)), some (.int (zi bt)), some (.int (zi 0)), none]) (S' := [.int (zi a)]) rfl ?_
        have jn19 : ∀ (jn19v0 : Int), ((0 ≤ jn19v0) ∧ (jn19v0 ≤ 1)) → gz gPP gGG gcn (d + 5) gt189 83 [some (.ref m), some (.int (zi a)), some (.int (zi b)), some (.int (zi ov)), some (.int (zi bt)), some (.int (zi 0)), none] [.int (zi jn19v0)] h14 (fun q _ => gSs rT 1027 ty [1059, 1061, 1062, 1067, 1074, 1075, 32999, 36999, 37999, 38999, 39999, 40999, 41999, 42999] h q.2.2 ∧ ∃ w1 b1 : Int, gfin gt189 q.1 q.2.1 = some none ∧ q.2.2.2.2.2.2 m 59 = .int (zi w1) ∧ 0 ≤ w1 ∧ w1 ≤ 60000 ∧ q.2.2.2.2.2.2 m 62 = .int (zi b1) ∧ 0 ≤ b1 ∧ b1 ≤ 0 ∧ (w0 ≤ w1) ∧ (4 * w1 ≤ 4 * w0 + 16 * (35 * (b - a + 1) + 73) + 2300)) := by
          intro jn19v0 jn19d
          refine gz_s 2 (pc' := 87) (L' := [some (.ref m), some (.int (zi a)), some (.int (zi b)), some (.int (zi ov)), some (.int (zi bt)), some (.int (zi 0)), some (.int (zi jn19v0))]) (S' := [.int (zi jn19v0)]) rfl ?_
          by_cases hc20 : (jn19v0 : Int) = 0
          · refine gy_ifT (pc' := 118) rfl (by decide) (by decide) (by omega) hc20 ?_
            refine gy_s 4 (pc' := 50) (L' := [some (.ref m), some (.int (zi a)), some (.int (zi b)), some (.int (zi ov)), some (.int (zi bt)), some (.int ((zi 0) + zi 1)), some (.int (zi jn19v0))]) (S' := [.int (zi 2), .int ((zi 0) + zi 1)]) (L2 := [some (.ref m), some (.int (zi a)), some (.int (zi b)), some (.int (zi ov)), some (.int (zi bt)), some (.int (zi 1)), some (.int (zi jn19v0))]) (S2 := [.int (zi 2), .int (zi 1)]) rfl (by simp only [zi_add, zi_sub, zi_mul, zi_neg, zi_and1, zi_and7, zi_and15, zi_and31, zi_and255, Int.reduceAdd, Int.reduceMul, Int.reduceSub]) (by simp only [zi_add, zi_sub, zi_mul, zi_neg, zi_and1, zi_and7, zi_and15, zi_and31, zi_and255, Int.reduceAdd, Int.reduceMul, Int.reduceSub]) ?_
            refine gy_icF rfl (by decide) (by decide) (by omega) (by omega) (by first | (simp [zc]; done) | (simp only [zc]; omega)) ?_
            refine gz_s 1 (pc' := 55) (L' := [some (.ref m), some (.int (zi a)), some (.int (zi b)), some (.int (zi ov)), some (.int (zi bt)), some (.int (zi 1)), some (.int (zi jn19v0))]) (S' := [.int (zi 1)]) rfl ?_
            refine gy_ifT (pc' := 74) rfl (by decide) (by decide) (by omega) (by first | (simp [zc]; done) | (simp only [zc]; omega)) ?_
            refine gz_s 1 (pc' := 75) (L' := [some (.ref m), some (.int (zi a)), some (.int (zi b)), some (.int (zi ov)), some (.int (zi bt)), some (.int (zi 1)), some (.int (zi jn19v0))]) (S' := [.int (zi b)]) rfl ?_
            have jn21 : ∀ (jn21v0 : Int), ((0 ≤ jn21v0) ∧ (jn21v0 ≤ 1)) → gz gPP gGG gcn (d + 5) gt189 83 [some (.ref m), some (.int (zi a)), some (.int (zi b)), some (.int (zi ov)), some (.int (zi bt)), some (.int (zi 1)), some (.int (zi jn19v0))] [.int (zi jn21v0)] h14 (fun q _ => gSs rT 1027 ty [1059, 1061, 1062, 1067, 1074, 1075, 32999, 36999, 37999, 38999, 39999, 40999, 41999, 42999] h q.2.2 ∧ ∃ w1 b1 : Int, gfin gt189 q.1 q.2.1 = some none ∧ q.2.2.2.2.2.2 m 59 = .int (zi w1) ∧ 0 ≤ w1 ∧ w1 ≤ 60000 ∧ q.2.2.2.2.2.2 m 62 = .int (zi b1) ∧ 0 ≤ b1 ∧ b1 ≤ 0 ∧ (w0 ≤ w1) ∧ (4 * w1 ≤ 4 * w0 + 16 * (35 * (b - a + 1) + 73) + 2300)) := by
              intro jn21v0 jn21d
              refine gz_s 2 (pc' := 87) (L' := [some (.ref m), some (.int (zi a)), some (.int (zi b)), some (.int (zi ov)), some (.int (zi bt)), some (.int (zi 1)), some (.int (zi jn21v0))]) (S' := [.int (zi jn21v0)]) rfl ?_
              by_cases hc22 : (jn21v0 : Int) = 0
              · refine gy_ifT (pc' := 118) rfl (by decide) (by decide) (by omega) hc22 ?_
                refine gy_s 4 (pc' := 50) (L' := [some (.ref m), some (.int (zi a)), some (.int (zi b)), some (.int (zi ov)), some (.int (zi bt)), some (.int ((zi 1) + zi 1)), some (.int (zi jn21v0))]) (S' := [.int (zi 2), .int ((zi 1) + zi 1)]) (L2 := [some (.ref m), some (.int (zi a)), some (.int (zi b)), some (.int (zi ov)), some (.int (zi bt)), some (.int (zi 2)), some (.int (zi jn21v0))]) (S2 := [.int (zi 2), .int (zi 2)]) rfl (by simp only [zi_add, zi_sub, zi_mul, zi_neg, zi_and1, zi_and7, zi_and15, zi_and31, zi_and255, Int.reduceAdd, Int.reduceMul, Int.reduceSub]) (by simp only [zi_add, zi_sub, zi_mul, zi_neg, zi_and1, zi_and7, zi_and15, zi_and31, zi_and255, Int.reduceAdd, Int.reduceMul, Int.reduceSub]) ?_
                refine gy_icT (pc' := 124) rfl (by decide) (by decide) (by omega) (by omega) (by first | (simp [zc]; done) | (simp only [zc]; omega)) ?_
                refine gz_s 2 (pc' := 128) (L' := [some (.ref m), some (.int (zi a)), some (.int (zi b)), some (.int (zi ov)), some (.int (zi bt)), some (.int (zi 2)), some (.int (zi jn21v0))]) (S' := [.int (zi 218), .ref m]) rfl ?_
                refine gz_call rfl (by decide) rfl (by decide) (by decide) (gcal_of rfl rfl rfl (Nat.le_of_ble_eq_true rfl) (gJ.recv (G := gGG) sh14.1 tm rfl rfl)) (mm_putMarker _ sh14.1 m tm 218 (by omega) fq11_0 s17 (by omega)) (fun q23 _ wq23 => ?_)
                obtain ⟨pq23, oq23, hq23⟩ := q23
                obtain ⟨xq23, fq23_0, gq23, efq23_0, afq23_0, bfq23_0, uq23_0⟩ := wq23
                refine ⟨_, gq23, ?_⟩
                show gz gPP gGG gcn _ _ 131 [some (.ref m), some (.int (zi a)), some (.int (zi b)), some (.int (zi ov)), some (.int (zi bt)), some (.int (zi 2)), some (.int (zi jn21v0))] [] hq23 _
                have sq23 := gSs.tr sh14 xq23 (by decide)
                have s24 := (xq23.2.2.2.2.2 m 64 (by rw [tm]; decide)).trans s16
                have s25 := (xq23.2.2.2.2.2 m 62 (by rw [tm]; decide)).trans s18
                have s26 := (xq23.2.2.2.2.2 m 67 (by rw [tm]; decide)).trans eh14
                have pr27 := gOf.fr xq23.2 (by decide) pr15
                refine gz_s 2 (pc' := 134) (L' := [some (.ref m), some (.int (zi a)), some (.int (zi b)), some (.int (zi ov)), some (.int (zi bt)), some (.int (zi 2)), some (.int (zi jn21v0))]) (S' := [.int (zi 8), .ref m]) rfl ?_
                refine gz_call rfl (by decide) rfl (by decide) (by decide) (gcal_of rfl rfl rfl (Nat.le_of_ble_eq_true rfl) (gJ.recv (G := gGG) sq23.1 tm rfl rfl)) (mm_putTwo _ sq23.1 m tm 8 (by omega) fq23_0 efq23_0 (by omega)) (fun q28 _ wq28 => ?_)
                obtain ⟨pq28, oq28, hq28⟩ := q28
                obtain ⟨xq28, fq28_0, gq28, efq28_0, afq28_0, bfq28_0, uq28_0⟩ := wq28
                refine ⟨_, gq28, ?_⟩
                show gz gPP gGG gcn _ _ 137 [some (.ref m), some (.int (zi a)), some (.int (zi b)), some (.int (zi ov)), some (.int (zi bt)), some (.int (zi 2)), some (.int (zi jn21v0))] [] hq28 _
                have sq28 := gSs.tr sq23 xq28 (by decide)
                have s29 := (xq28.2.2.2.2.2 m 64 (by rw [tm]; decide)).trans s24
                have s30 := (xq28.2.2.2.2.2 m 62 (by rw [tm]; decide)).trans s25
                have s31 := (xq28.2.2.2.2.2 m 67 (by rw [tm]; decide)).trans s26
                have pr32 := gOf.fr xq28.2 (by decide) pr27
                refine gz_s 2 (pc' := 139) (L' := [some (.ref m), some (.int (zi a)), some (.int (zi b)), some (.int (zi ov)), some (.int (zi bt)), some (.int (zi 2)), some (.int (zi jn21v0))]) (S' := [.int (zi 1), .ref m]) rfl ?_
                refine gz_call rfl (by decide) rfl (by decide) (by decide) (gcal_of rfl rfl rfl (Nat.le_of_ble_eq_true rfl) (gJ.recv (G := gGG) sq28.1 tm rfl rfl)) (mm_putByte _ sq28.1 m tm 1 (by omega) fq28_0 efq28_0 (by omega)) (fun q33 _ wq33 => ?_)
                obtain ⟨pq33, oq33, hq33⟩ := q33
                obtain ⟨xq33, fq33_0, gq33, efq33_0, afq33_0, bfq33_0, uq33_0⟩ := wq33
                refine ⟨_, gq33, ?_⟩
                show gz gPP gGG gcn _ _ 142 [some (.ref m), some (.int (zi a)), some (.int (zi b)), some (.int (zi ov)), some (.int (zi bt)), some (.int (zi 2)), some (.int (zi jn21v0))] [] hq33 _
                have sq33 := gSs.tr sq28 xq33 (by decide)
                have s34 := (xq33.2.2.2.2.2 m 64 (by rw [tm]; decide)).trans s29
                have s35 := (xq33.2.2.2.2.2 m 62 (by rw [tm]; decide)).trans s30
                have s36 := (xq33.2.2.2.2.2 m 67 (by rw [tm]; decide)).trans s31
                have pr37 := gOf.fr xq33.2 (by decide) pr32
                refine gz_s 2 (pc' := 144) (L' := [some (.ref m), some (.int (zi a)), some (.int (zi b)), some (.int (zi ov)), some (.int (zi bt)), some (.int (zi 2)), some (.int (zi jn21v0))]) (S' := [.int (zi 1), .ref m]) rfl ?_
                refine gz_call rfl (by decide) rfl (by decide) (by decide) (gcal_of rfl rfl rfl (Nat.le_of_ble_eq_true rfl) (gJ.recv (G := gGG) sq33.1 tm rfl rfl)) (mm_putByte _ sq33.1 m tm 1 (by omega) fq33_0 efq33_0 (by omega)) (fun q38 _ wq38 => ?_)
                obtain ⟨pq38, oq38, hq38⟩ := q38
                obtain ⟨xq38, fq38_0, gq38, efq38_0, afq38_0, bfq38_0, uq38_0⟩ := wq38
                refine ⟨_, gq38, ?_⟩
                show gz gPP gGG gcn _ _ 147 [some (.ref m), some (.int (zi a)), some (.int (zi b)), some (.int (zi ov)), some (.int (zi bt)), some (.int (zi 2)), some (.int (zi jn21v0))] [] hq38 _
                have sq38 := gSs.tr sq33 xq38 (by decide)
                have s39 := (xq38.2.2.2.2.2 m 64 (by rw [tm]; decide)).trans s34
                have s40 := (xq38.2.2.2.2.2 m 62 (by rw [tm]; decide)).trans s35
                have s41 := (xq38.2.2.2.2.2 m 67 (by rw [tm]; decide)).trans s36
                have pr42 := gOf.fr xq38.2 (by decide) pr37
                refine gz_s 2 (pc' := 149) (L' := [some (.ref m), some (.int (zi a)), some (.int (zi b)), some (.int (zi ov)), some (.int (zi bt)), some (.int (zi 2)), some (.int (zi jn21v0))]) (S' := [.int (zi 0), .ref m]) rfl ?_
                refine gz_call rfl (by decide) rfl (by decide) (by decide) (gcal_of rfl rfl rfl (Nat.le_of_ble_eq_true rfl) (gJ.recv (G := gGG) sq38.1 tm rfl rfl)) (mm_putByte _ sq38.1 m tm 0 (by omega) fq38_0 efq38_0 (by omega)) (fun q43 _ wq43 => ?_)
                obtain ⟨pq43, oq43, hq43⟩ := q43
                obtain ⟨xq43, fq43_0, gq43, efq43_0, afq43_0, bfq43_0, uq43_0⟩ := wq43
                refine ⟨_, gq43, ?_⟩
                show gz gPP gGG gcn _ _ 152 [some (.ref m), some (.int (zi a)), some (.int (zi b)), some (.int (zi ov)), some (.int (zi bt)), some (.int (zi 2)), some (.int (zi jn21v0))] [] hq43 _
                have sq43 := gSs.tr sq38 xq43 (by decide)
                have s44 := (xq43.2.2.2.2.2 m 64 (by rw [tm]; decide)).trans s39
                have s45 := (xq43.2.2.2.2.2 m 62 (by rw [tm]; decide)).trans s40
                have s46 := (xq43.2.2.2.2.2 m 67 (by rw [tm]; decide)).trans s41
                have pr47 := gOf.fr xq43.2 (by decide) pr42
                refine gz_s 2 (pc' := 154) (L' := [some (.ref m), some (.int (zi a)), some (.int (zi b)), some (.int (zi ov)), some (.int (zi bt)), some (.int (zi 2)), some (.int (zi jn21v0))]) (S' := [.int (zi a), .ref m]) rfl ?_
                refine gz_call rfl (by decide) rfl (by decide) (by decide) (gcal_of rfl rfl rfl (Nat.le_of_ble_eq_true rfl) (gJ.recv (G := gGG) sq43.1 tm rfl rfl)) (mm_putByte _ sq43.1 m tm a (by omega) fq43_0 efq43_0 (by omega)) (fun q48 _ wq48 => ?_)
                obtain ⟨pq48, oq48, hq48⟩ := q48
                obtain ⟨xq48, fq48_0, gq48, efq48_0, afq48_0, bfq48_0, uq48_0⟩ := wq48
                refine ⟨_, gq48, ?_⟩
                show gz gPP gGG gcn _ _ 157 [some (.ref m), some (.int (zi a)), some (.int (zi b)), some (.int (zi ov)), some (.int (zi bt)), some (.int (zi 2)), some (.int (zi jn21v0))] [] hq48 _
                have sq48 := gSs.tr sq43 xq48 (by decide)
                have s49 := (xq48.2.2.2.2.2 m 64 (by rw [tm]; decide)).trans s44
                have s50 := (xq48.2.2.2.2.2 m 62 (by rw [tm]; decide)).trans s45
                have s51 := (xq48.2.2.2.2.2 m 67 (by rw [tm]; decide)).trans s46
                have pr52 := gOf.fr xq48.2 (by decide) pr47
                refine gz_s 2 (pc' := 159) (L' := [some (.ref m), some (.int (zi a)), some (.int (zi b)), some (.int (zi ov)), some (.int (zi bt)), some (.int (zi 2)), some (.int (zi jn21v0))]) (S' := [.int (zi b), .ref m]) rfl ?_
                refine gz_call rfl (by decide) rfl (by decide) (by decide) (gcal_of rfl rfl rfl (Nat.le_of_ble_eq_true rfl) (gJ.recv (G := gGG) sq48.1 tm rfl rfl)) (mm_putByte _ sq48.1 m tm b (by omega) fq48_0 efq48_0 (by omega)) (fun q53 _ wq53 => ?_)
                obtain ⟨pq53, oq53, hq53⟩ := q53
                obtain ⟨xq53, fq53_0, gq53, efq53_0, afq53_0, bfq53_0, uq53_0⟩ := wq53
                refine ⟨_, gq53, ?_⟩
                show gz gPP gGG gcn _ _ 162 [some (.ref m), some (.int (zi a)), some (.int (zi b)), some (.int (zi ov)), some (.int (zi bt)), some (.int (zi 2)), some (.int (zi jn21v0))] [] hq53 _
                have sq53 := gSs.tr sq48 xq53 (by decide)
                have s54 := (xq53.2.2.2.2.2 m 64 (by rw [tm]; decide)).trans s49
                have s55 := (xq53.2.2.2.2.2 m 62 (by rw [tm]; decide)).trans s50
                have s56 := (xq53.2.2.2.2.2 m 67 (by rw [tm]; decide)).trans s51
                have pr57 := gOf.fr xq53.2 (by decide) pr52
                refine gy_s 6 (pc' := 170) (L' := [some (.ref m), some (.int (zi a)), some (.int (zi b)), some (.int (zi ov)), some (.int (zi bt)), some (.int (zi 2)), some (.int (zi jn21v0))]) (S' := [.int (((zi 16) * (zi ov)) + (zi bt)), .ref m]) (L2 := [some (.ref m), some (.int (zi a)), some (.int (zi b)), some (.int (zi ov)), some (.int (zi bt)), some (.int (zi 2)), some (.int (zi jn21v0))]) (S2 := [.int (zi ((16 * ov) + bt)), .ref m]) rfl (by simp only [zi_add, zi_sub, zi_mul, zi_neg, zi_and1, zi_and7, zi_and15, zi_and31, zi_and255, Int.reduceAdd, Int.reduceMul, Int.reduceSub]) (by simp only [zi_add, zi_sub, zi_mul, zi_neg, zi_and1, zi_and7, zi_and15, zi_and31, zi_and255, Int.reduceAdd, Int.reduceMul, Int.reduceSub]) ?_
                refine gz_call rfl (by decide) rfl (by decide) (by decide) (gcal_of rfl rfl rfl (Nat.le_of_ble_eq_true rfl) (gJ.recv (G := gGG) sq53.1 tm rfl rfl)) (mm_putByte _ sq53.1 m tm ((16 * ov) + bt) (by omega) fq53_0 efq53_0 (by omega)) (fun q58 _ wq58 => ?_)
                obtain ⟨pq58, oq58, hq58⟩ := q58
                obtain ⟨xq58, fq58_0, gq58, efq58_0, afq58_0, bfq58_0, uq58_0⟩ := wq58
                refine ⟨_, gq58, ?_⟩
                show gz gPP gGG gcn _ _ 173 [some (.ref m), some (.int (zi a)), some (.int (zi b)), some (.int (zi ov)), some (.int (zi bt)), some (.int (zi 2)), some (.int (zi jn21v0))] [] hq58 _
                have sq58 := gSs.tr sq53 xq58 (by decide)
                have s59 := (xq58.2.2.2.2.2 m 64 (by rw [tm]; decide)).trans s54
                have s60 := (xq58.2.2.2.2.2 m 62 (by rw [tm]; decide)).trans s55
                have s61 := (xq58.2.2.2.2.2 m 67 (by rw [tm]; decide)).trans s56
                have pr62 := gOf.fr xq58.2 (by decide) pr57
                refine gz_s 5 (pc' := 179) (L' := [some (.ref m), some (.int (zi a)), some (.int (zi b)), some (.int (zi ov)), some (.int (zi bt)), some (.int (zi 2)), some (.int (zi jn21v0))]) (S' := [.int (zi bt), .int (zi ov), .int (zi b), .int (zi a), .ref m]) rfl ?_
                refine gz_call rfl (by decide) rfl (by decide) (by decide) (gcal_of rfl rfl rfl (Nat.le_of_ble_eq_true rfl) (gJ.recv (G := gGG) sq58.1 tm rfl rfl)) (mm_putBlocks _ sq58.1 m tm a (by omega) b (by omega) ov (by omega) bt (by omega) fq58_0 efq58_0 (by omega) fq11_1 s60 (by omega) 1 s61 (by omega) z10 s59 (by omega) xq11_0 (by omega) (by omega) (by omega) uq pr62) (fun q63 _ wq63 => ?_)
                obtain ⟨pq63, oq63, hq63⟩ := q63
                obtain ⟨xq63, fq63_0, fq63_1, xq63_0, gq63, efq63_0, afq63_0, bfq63_0, efq63_1, afq63_1, bfq63_1, axq63_0, bxq63_0, uq63_0, uq63_1, uq63_2, uq63_3, uq63_4, yq63_0⟩ := wq63
                refine ⟨_, gq63, ?_⟩
                show gz gPP gGG gcn _ _ 182 [some (.ref m), some (.int (zi a)), some (.int (zi b)), some (.int (zi ov)), some (.int (zi bt)), some (.int (zi 2)), some (.int (zi jn21v0))] [] hq63 _
                have sq63 := gSs.tr sq58 xq63 (by decide)
                have s64 := (xq63.2.2.2.2.2 m 64 (by rw [tm]; decide)).trans s59
                have s65 := (xq63.2.2.2.2.2 m 67 (by rw [tm]; decide)).trans s61
                refine gz_s 1 (pc' := 183) (L' := [some (.ref m), some (.int (zi a)), some (.int (zi b)), some (.int (zi ov)), some (.int (zi bt)), some (.int (zi 2)), some (.int (zi jn21v0))]) (S' := [.ref m]) rfl ?_
                refine gz_call rfl (by decide) rfl (by decide) (by decide) (gcal_of rfl rfl rfl (Nat.le_of_ble_eq_true rfl) (gJ.recv (G := gGG) sq63.1 tm rfl rfl)) (mm_fillByte _ sq63.1 m tm fq63_0 efq63_0 (by omega) fq63_1 efq63_1 (by omega) 1 s65 (by omega) (by omega) (by omega)) (fun q66 _ wq66 => ?_)
                obtain ⟨pq66, oq66, hq66⟩ := q66
                obtain ⟨xq66, fq66_0, fq66_1, gq66, efq66_0, afq66_0, bfq66_0, efq66_1, afq66_1, bfq66_1, uq66_0, uq66_1, uq66_2⟩ := wq66
                refine ⟨_, gq66, ?_⟩
                show gz gPP gGG gcn _ _ 186 [some (.ref m), some (.int (zi a)), some (.int (zi b)), some (.int (zi ov)), some (.int (zi bt)), some (.int (zi 2)), some (.int (zi jn21v0))] [] hq66 _
                have sq66 := gSs.tr sq63 xq66 (by decide)
                have s67 := (xq66.2.2.2.2.2 m 64 (by rw [tm]; decide)).trans s64
                have s68 := (xq66.2.2.2.2.2 m 67 (by rw [tm]; decide)).trans s65
                have pr69 := gOf.fr xq66.2 (by decide) yq63_0
                exact gz_end (I := .return_) (len := 1) rfl (Or.inl rfl) ⟨sq66, fq66_0, fq66_1, rfl, efq66_0, (by omega), (by omega), efq66_1, (by omega), (by omega), (by omega), (by omega)⟩
              · refine gy_ifF rfl (by decide) (by decide) (by omega) hc22 ?_
                refine gz_s 1 (pc' := 91) (L' := [some (.ref m), some (.int (zi a)), some (.int (zi b)), some (.int (zi ov)), some (.int (zi bt)), some (.int (zi 1)), some (.int (zi jn21v0))]) (S' := [.ref m]) rfl ?_
                refine gs_gtr rfl (by decide) rfl sh14.1 tm rfl rfl rfl (fun c70 ec70 tc70 => ?_)
                refine gy_s 5 (pc' := 104) (L' := [some (.ref m), some (.int (zi a)), some (.int (zi b)), some (.int (zi ov)), some (.int (zi bt)), some (.int (zi 1)), some (.int (zi jn21v0))]) (S' := [.int (((zi 257) * (zi 1)) + (zi 256)), .ref c70]) (L2 := [some (.ref m), some (.int (zi a)), some (.int (zi b)), some (.int (zi ov)), some (.int (zi bt)), some (.int (zi 1)), some (.int (zi jn21v0))]) (S2 := [.int (zi 513), .ref c70]) rfl (by simp only [zi_add, zi_sub, zi_mul, zi_neg, zi_and1, zi_and7, zi_and15, zi_and31, zi_and255, Int.reduceAdd, Int.reduceMul, Int.reduceSub]) (by simp only [zi_add, zi_sub, zi_mul, zi_neg, zi_and1, zi_and7, zi_and15, zi_and31, zi_and255, Int.reduceAdd, Int.reduceMul, Int.reduceSub]) ?_
                refine gz_s 1 (pc' := 105) (L' := [some (.ref m), some (.int (zi a)), some (.int (zi b)), some (.int (zi ov)), some (.int (zi bt)), some (.int (zi 1)), some (.int (zi jn21v0))]) (S' := [.int (zi 1), .int (zi 513), .ref c70]) rfl ?_
                have hl71 : 514 ≤ h14.2.2.2.1 c70 ∧ h14.2.2.2.1 c70 ≤ 514 := gJ.rowl (G := gGG) sh14.1 tc70 rfl
                refine gs_ast rfl (by decide) sh14 tc70 rfl rfl rfl (by decide) (fun _ => rfl) (by omega) (by omega) (fun _ => (by decide : (36999 : Nat) ∈ ([1059, 1061, 1062, 1067, 1074, 1075, 32999, 36999, 37999, 38999, 39999, 40999, 41999, 42999] : List Nat))) (by omega) (by omega) (fun h72 sh72 eh72 fh72 => ?_)
                have s73 := (fh72 m 64 (fun q => absurd (((tm).symm.trans (congrArg ty q.1)).trans tc70) (by decide))).trans s16
                have s74 := (fh72 m 59 (fun q => absurd (((tm).symm.trans (congrArg ty q.1)).trans tc70) (by decide))).trans s17
                have s75 := (fh72 m 62 (fun q => absurd (((tm).symm.trans (congrArg ty q.1)).trans tc70) (by decide))).trans s18
                have s76 := (fh72 m 67 (fun q => absurd (((tm).symm.trans (congrArg ty q.1)).trans tc70) (by decide))).trans eh14
                have s77 := (fh72 m 68 (fun q => absurd (((tm).symm.trans (congrArg ty q.1)).trans tc70) (by decide))).trans ec70
                have pr78 := gEl.set (i := 513) (z := 1) uq tc70 (by decide) eh72 (by omega) (by omega)
                obtain ⟨so79, so79a, so79b, so79c⟩ := gOf.set (i := 513) uq tc70 fh72 eh72 (by omega) pr15
                have ho180 : gO1 ty 1 h72 := pr78
                refine gz_s 2 (pc' := 109) (L' := [some (.ref m), some (.int (zi a)), some (.int (zi b)), some (.int (zi ov)), some (.int (zi bt)), some (.int (zi 1)), some (.int (zi jn21v0))]) (S' := [.int (zi 1), .ref m]) rfl ?_
                refine gz_call rfl (by decide) rfl (by decide) (by decide) (gcal_of rfl rfl rfl (Nat.le_of_ble_eq_true rfl) (gJ.recv (G := gGG) sh72.1 tm rfl rfl)) (mm_suit _ sh72.1 m tm 1 (by omega) so79 (by omega) uq so79c ho180) (fun q81 _ wq81 => ?_)
                obtain ⟨pq81, oq81, hq81⟩ := q81
                obtain ⟨xq81, gq81⟩ := wq81
                refine ⟨_, gq81, ?_⟩
                show gz gPP gGG gcn _ _ 112 [some (.ref m), some (.int (zi a)), some (.int (zi b)), some (.int (zi ov)), some (.int (zi bt)), some (.int (zi 1)), some (.int (zi jn21v0))] [] hq81 _
                have sq81 := gSs.tr sh72 xq81 (by decide)
                have s82 := (xq81.2.2.2.2.2 m 64 (by rw [tm]; decide)).trans s73
                have s83 := (xq81.2.2.2.2.2 m 59 (by rw [tm]; decide)).trans s74
                have s84 := (xq81.2.2.2.2.2 m 62 (by rw [tm]; decide)).trans s75
                have s85 := (xq81.2.2.2.2.2 m 67 (by rw [tm]; decide)).trans s76
                have s86 := (xq81.2.2.2.2.2 m 68 (by rw [tm]; decide)).trans s77
                have pr87 := gEl.fr xq81.2 (by decide) (fun _ => rfl) pr78
                have pr88 := gOf.fr xq81.2 (by decide) so79c
                have pr89 := gO1.fr xq81.2 (by decide) ho180
                refine gz_s 2 (pc' := 115) (L' := [some (.ref m), some (.int (zi a)), some (.int (zi b)), some (.int (zi ov)), some (.int (zi bt)), some (.int (zi 1)), some (.int (zi jn21v0))]) (S' := [.int (zi 1), .ref m]) rfl ?_
                refine gz_call rfl (by decide) rfl (by decide) (by decide) (gcal_of rfl rfl rfl (Nat.le_of_ble_eq_true rfl) (gJ.recv (G := gGG) sq81.1 tm rfl rfl)) (mm_putCodes _ sq81.1 m tm 1 (by omega) fq11_0 s83 (by omega) uq) (fun q90 _ wq90 => ?_)
                obtain ⟨pq90, oq90, hq90⟩ := q90
                obtain ⟨xq90, fq90_0, gq90, efq90_0, afq90_0, bfq90_0, uq90_0, uq90_1⟩ := wq90
                refine ⟨_, gq90, ?_⟩
                show gz gPP gGG gcn _ _ 118 [some (.ref m), some (.int (zi a)), some (.int (zi b)), some (.int (zi ov)), some (.int (zi bt)), some (.int (zi 1)), some (.int (zi jn21v0))] [] hq90 _
                have sq90 := gSs.tr sq81 xq90 (by decide)
                have s91 := (xq90.2.2.2.2.2 m 64 (by rw [tm]; decide)).trans s82
                have s92 := (xq90.2.2.2.2.2 m 62 (by rw [tm]; decide)).trans s84
                have s93 := (xq90.2.2.2.2.2 m 67 (by rw [tm]; decide)).trans s85
                have s94 := (xq90.2.2.2.2.2 m 68 (by rw [tm]; decide)).trans s86
                have pr95 := gEl.fr xq90.2 (by decide) (fun _ => rfl) pr87
                have pr96 := gOf.fr xq90.2 (by decide) pr88
                have pr97 := gO1.fr xq90.2 (by decide) pr89
                refine gy_s 4 (pc' := 50) (L' := [some (.ref m), some (.int (zi a)), some (.int (zi b)), some (.int (zi ov)), some (.int (zi bt)), some (.int ((zi 1) + zi 1)), some (.int (zi jn21v0))]) (S' := [.int (zi 2), .int ((zi 1) + zi 1)]) (L2 := [some (.ref m), some (.int (zi a)), some (.int (zi b)), some (.int (zi ov)), some (.int (zi bt)), some (.int (zi 2)), some (.int (zi jn21v0))]) (S2 := [.int (zi 2), .int (zi 2)]) rfl (by simp only [zi_add, zi_sub, zi_mul, zi_neg, zi_and1, zi_and7, zi_and15, zi_and31, zi_and255, Int.reduceAdd, Int.reduceMul, Int.reduceSub]) (by simp only [zi_add, zi_sub, zi_mul, zi_neg, zi_and1, zi_and7, zi_and15, zi_and31, zi_and255, Int.reduceAdd, Int.reduceMul, Int.reduceSub]) ?_
                refine gy_icT (pc' := 124) rfl (by decide) (by decide) (by omega) (by omega) (by first | (simp [zc]; done) | (simp only [zc]; omega)) ?_
                refine gz_s 2 (pc' := 128) (L' := [some (.ref m), some (.int (zi a)), some (.int (zi b)), some (.int (zi ov)), some (.int (zi bt)), some (.int (zi 2)), some (.int (zi jn21v0))]) (S' := [.int (zi 218), .ref m]) rfl ?_
                refine gz_call rfl (by decide) rfl (by decide) (by decide) (gcal_of rfl rfl rfl (Nat.le_of_ble_eq_true rfl) (gJ.recv (G := gGG) sq90.1 tm rfl rfl)) (mm_putMarker _ sq90.1 m tm 218 (by omega) fq90_0 efq90_0 (by omega)) (fun q98 _ wq98 => ?_)
                obtain ⟨pq98, oq98, hq98⟩ := q98
                obtain ⟨xq98, fq98_0, gq98, efq98_0, afq98_0, bfq98_0, uq98_0⟩ := wq98
                refine ⟨_, gq98, ?_⟩
                show gz gPP gGG gcn _ _ 131 [some (.ref m), some (.int (zi a)), some (.int (zi b)), some (.int (zi ov)), some (.int (zi bt)), some (.int (zi 2)), some (.int (zi jn21v0))] [] hq98 _
                have sq98 := gSs.tr sq90 xq98 (by decide)
                have s99 := (xq98.2.2.2.2.2 m 64 (by rw [tm]; decide)).trans s91
                have s100 := (xq98.2.2.2.2.2 m 62 (by rw [tm]; decide)).trans s92
                have s101 := (xq98.2.2.2.2.2 m 67 (by rw [tm]; decide)).trans s93
                have s102 := (xq98.2.2.2.2.2 m 68 (by rw [tm]; decide)).trans s94
                have pr103 := gEl.fr xq98.2 (by decide) (fun _ => rfl) pr95
                have pr104 := gOf.fr xq98.2 (by decide) pr96
                have pr105 := gO1.fr xq98.2 (by decide) pr97
                refine gz_s 2 (pc' := 134) (L' := [some (.ref m), some (.int (zi a)), some (.int (zi b)), some (.int (zi ov)), some (.int (zi bt)), some (.int (zi 2)), some (.int (zi jn21v0))]) (S' := [.int (zi 8), .ref m]) rfl ?_
                refine gz_call rfl (by decide) rfl (by decide) (by decide) (gcal_of rfl rfl rfl (Nat.le_of_ble_eq_true rfl) (gJ.recv (G := gGG) sq98.1 tm rfl rfl)) (mm_putTwo _ sq98.1 m tm 8 (by omega) fq98_0 efq98_0 (by omega)) (fun q106 _ wq106 => ?_)
                obtain ⟨pq106, oq106, hq106⟩ := q106
                obtain ⟨xq106, fq106_0, gq106, efq106_0, afq106_0, bfq106_0, uq106_0⟩ := wq106
                refine ⟨_, gq106, ?_⟩
                show gz gPP gGG gcn _ _ 137 [some (.ref m), some (.int (zi a)), some (.int (zi b)), some (.int (zi ov)), some (.int (zi bt)), some (.int (zi 2)), some (.int (zi jn21v0))] [] hq106 _
                have sq106 := gSs.tr sq98 xq106 (by decide)
                have s107 := (xq106.2.2.2.2.2 m 64 (by rw [tm]; decide)).trans s99
                have s108 := (xq106.2.2.2.2.2 m 62 (by rw [tm]; decide)).trans s100
                have s109 := (xq106.2.2.2.2.2 m 67 (by rw [tm]; decide)).trans s101
                have s110 := (xq106.2.2.2.2.2 m 68 (by rw [tm]; decide)).trans s102
                have pr111 := gEl.fr xq106.2 (by decide) (fun _ => rfl) pr103
                have pr112 := gOf.fr xq106.2 (by decide) pr104
                have pr113 := gO1.fr xq106.2 (by decide) pr105
                refine gz_s 2 (pc' := 139) (L' := [some (.ref m), some (.int (zi a)), some (.int (zi b)), some (.int (zi ov)), some (.int (zi bt)), some (.int (zi 2)), some (.int (zi jn21v0))]) (S' := [.int (zi 1), .ref m]) rfl ?_
                refine gz_call rfl (by decide) rfl (by decide) (by decide) (gcal_of rfl rfl rfl (Nat.le_of_ble_eq_true rfl) (gJ.recv (G := gGG) sq106.1 tm rfl rfl)) (mm_putByte _ sq106.1 m tm 1 (by omega) fq106_0 efq106_0 (by omega)) (fun q114 _ wq114 => ?_)
                obtain ⟨pq114, oq114, hq114⟩ := q114
                obtain ⟨xq114, fq114_0, gq114, efq114_0, afq114_0, bfq114_0, uq114_0⟩ := wq114
                refine ⟨_, gq114, ?_⟩
                show gz gPP gGG gcn _ _ 142 [some (.ref m), some (.int (zi a)), some (.int (zi b)), some (.int (zi ov)), some (.int (zi bt)), some (.int (zi 2)), some (.int (zi jn21v0))] [] hq114 _
                have sq114 := gSs.tr sq106 xq114 (by decide)
                have s115 := (xq114.2.2.2.2.2 m 64 (by rw [tm]; decide)).trans s107
                have s116 := (xq114.2.2.2.2.2 m 62 (by rw [tm]; decide)).trans s108
                have s117 := (xq114.2.2.2.2.2 m 67 (by rw [tm]; decide)).trans s109
                have s118 := (xq114.2.2.2.2.2 m 68 (by rw [tm]; decide)).trans s110
                have pr119 := gEl.fr xq114.2 (by decide) (fun _ => rfl) pr111
                have pr120 := gOf.fr xq114.2 (by decide) pr112
                have pr121 := gO1.fr xq114.2 (by decide) pr113
                refine gz_s 2 (pc' := 144) (L' := [some (.ref m), some (.int (zi a)), some (.int (zi b)), some (.int (zi ov)), some (.int (zi bt)), some (.int (zi 2)), some (.int (zi jn21v0))]) (S' := [.int (zi 1), .ref m]) rfl ?_
                refine gz_call rfl (by decide) rfl (by decide) (by decide) (gcal_of rfl rfl rfl (Nat.le_of_ble_eq_true rfl) (gJ.recv (G := gGG) sq114.1 tm rfl rfl)) (mm_putByte _ sq114.1 m tm 1 (by omega) fq114_0 efq114_0 (by omega)) (fun q122 _ wq122 => ?_)
                obtain ⟨pq122, oq122, hq122⟩ := q122
                obtain ⟨xq122, fq122_0, gq122, efq122_0, afq122_0, bfq122_0, uq122_0⟩ := wq122
                refine ⟨_, gq122, ?_⟩
                show gz gPP gGG gcn _ _ 147 [some (.ref m), some (.int (zi a)), some (.int (zi b)), some (.int (zi ov)), some (.int (zi bt)), some (.int (zi 2)), some (.int (zi jn21v0))] [] hq122 _
                have sq122 := gSs.tr sq114 xq122 (by decide)
                have s123 := (xq122.2.2.2.2.2 m 64 (by rw [tm]; decide)).trans s115
                have s124 := (xq122.2.2.2.2.2 m 62 (by rw [tm]; decide)).trans s116
                have s125 := (xq122.2.2.2.2.2 m 67 (by rw [tm]; decide)).trans s117
                have s126 := (xq122.2.2.2.2.2 m 68 (by rw [tm]; decide)).trans s118
                have pr127 := gEl.fr xq122.2 (by decide) (fun _ => rfl) pr119
                have pr128 := gOf.fr xq122.2 (by decide) pr120
                have pr129 := gO1.fr xq122.2 (by decide) pr121
                refine gz_s 2 (pc' := 149) (L' := [some (.ref m), some (.int (zi a)), some (.int (zi b)), some (.int (zi ov)), some (.int (zi bt)), some (.int (zi 2)), some (.int (zi jn21v0))]) (S' := [.int (zi 0), .ref m]) rfl ?_
                refine gz_call rfl (by decide) rfl (by decide) (by decide) (gcal_of rfl rfl rfl (Nat.le_of_ble_eq_true rfl) (gJ.recv (G := gGG) sq122.1 tm rfl rfl)) (mm_putByte _ sq122.1 m tm 0 (by omega) fq122_0 efq122_0 (by omega)) (fun q130 _ wq130 => ?_)
                obtain ⟨pq130, oq130, hq130⟩ := q130
                obtain ⟨xq130, fq130_0, gq130, efq130_0, afq130_0, bfq130_0, uq130_0⟩ := wq130
                refine ⟨_, gq130, ?_⟩
                show gz gPP gGG gcn _ _ 152 [some (.ref m), some (.int (zi a)), some (.int (zi b)), some (.int (zi ov)), some (.int (zi bt)), some (.int (zi 2)), some (.int (zi jn21v0))] [] hq130 _
                have sq130 := gSs.tr sq122 xq130 (by decide)
                have s131 := (xq130.2.2.2.2.2 m 64 (by rw [tm]; decide)).trans s123
                have s132 := (xq130.2.2.2.2.2 m 62 (by rw [tm]; decide)).trans s124
                have s133 := (xq130.2.2.2.2.2 m 67 (by rw [tm]; decide)).trans s125
                have s134 := (xq130.2.2.2.2.2 m 68 (by rw [tm]; decide)).trans s126
                have pr135 := gEl.fr xq130.2 (by decide) (fun _ => rfl) pr127
                have pr136 := gOf.fr xq130.2 (by decide) pr128
                have pr137 := gO1.fr xq130.2 (by decide) pr129
                refine gz_s 2 (pc' := 154) (L' := [some (.ref m), some (.int (zi a)), some (.int (zi b)), some (.int (zi ov)), some (.int (zi bt)), some (.int (zi 2)), some (.int (zi jn21v0))]) (S' := [.int (zi a), .ref m]) rfl ?_
                refine gz_call rfl (by decide) rfl (by decide) (by decide) (gcal_of rfl rfl rfl (Nat.le_of_ble_eq_true rfl) (gJ.recv (G := gGG) sq130.1 tm rfl rfl)) (mm_putByte _ sq130.1 m tm a (by omega) fq130_0 efq130_0 (by omega)) (fun q138 _ wq138 => ?_)
                obtain ⟨pq138, oq138, hq138⟩ := q138
                obtain ⟨xq138, fq138_0, gq138, efq138_0, afq138_0, bfq138_0, uq138_0⟩ := wq138
                refine ⟨_, gq138, ?_⟩
                show gz gPP gGG gcn _ _ 157 [some (.ref m), some (.int (zi a)), some (.int (zi b)), some (.int (zi ov)), some (.int (zi bt)), some (.int (zi 2)), some (.int (zi jn21v0))] [] hq138 _
                have sq138 := gSs.tr sq130 xq138 (by decide)
                have s139 := (xq138.2.2.2.2.2 m 64 (by rw [tm]; decide)).trans s131
                have s140 := (xq138.2.2.2.2.2 m 62 (by rw [tm]; decide)).trans s132
                have s141 := (xq138.2.2.2.2.2 m 67 (by rw [tm]; decide)).trans s133
                have s142 := (xq138.2.2.2.2.2 m 68 (by rw [tm]; decide)).trans s134
                have pr143 := gEl.fr xq138.2 (by decide) (fun _ => rfl) pr135
                have pr144 := gOf.fr xq138.2 (by decide) pr136
                have pr145 := gO1.fr xq138.2 (by decide) pr137
                refine gz_s 2 (pc' := 159) (L' := [some (.ref m), some (.int (zi a)), some (.int (zi b)), some (.int (zi ov)), some (.int (zi bt)), some (.int (zi 2)), some (.int (zi jn21v0))]) (S' := [.int (zi b), .ref m]) rfl ?_
                refine gz_call rfl (by decide) rfl (by decide) (by decide) (gcal_of rfl rfl rfl (Nat.le_of_ble_eq_true rfl) (gJ.recv (G := gGG) sq138.1 tm rfl rfl)) (mm_putByte _ sq138.1 m tm b (by omega) fq138_0 efq138_0 (by omega)) (fun q146 _ wq146 => ?_)
                obtain ⟨pq146, oq146, hq146⟩ := q146
                obtain ⟨xq146, fq146_0, gq146, efq146_0, afq146_0, bfq146_0, uq146_0⟩ := wq146
                refine ⟨_, gq146, ?_⟩
                show gz gPP gGG gcn _ _ 162 [some (.ref m), some (.int (zi a)), some (.int (zi b)), some (.int (zi ov)), some (.int (zi bt)), some (.int (zi 2)), some (.int (zi jn21v0))] [] hq146 _
                have sq146 := gSs.tr sq138 xq146 (by decide)
                have s147 := (xq146.2.2.2.2.2 m 64 (by rw [tm]; decide)).trans s139
                have s148 := (xq146.2.2.2.2.2 m 62 (by rw [tm]; decide)).trans s140
                have s149 := (xq146.2.2.2.2.2 m 67 (by rw [tm]; decide)).trans s141
                have s150 := (xq146.2.2.2.2.2 m 68 (by rw [tm]; decide)).trans s142
                have pr151 := gEl.fr xq146.2 (by decide) (fun _ => rfl) pr143
                have pr152 := gOf.fr xq146.2 (by decide) pr144
                have pr153 := gO1.fr xq146.2 (by decide) pr145
                refine gy_s 6 (pc' := 170) (L' := [some (.ref m), some (.int (zi a)), some (.int (zi b)), some (.int (zi ov)), some (.int (zi bt)), some (.int (zi 2)), some (.int (zi jn21v0))]) (S' := [.int (((zi 16) * (zi ov)) + (zi bt)), .ref m]) (L2 := [some (.ref m), some (.int (zi a)), some (.int (zi b)), some (.int (zi ov)), some (.int (zi bt)), some (.int (zi 2)), some (.int (zi jn21v0))]) (S2 := [.int (zi ((16 * ov) + bt)), .ref m]) rfl (by simp only [zi_add, zi_sub, zi_mul, zi_neg, zi_and1, zi_and7, zi_and15, zi_and31, zi_and255, Int.reduceAdd, Int.reduceMul, Int.reduceSub]) (by simp only [zi_add, zi_sub, zi_mul, zi_neg, zi_and1, zi_and7, zi_and15, zi_and31, zi_and255, Int.reduceAdd, Int.reduceMul, Int.reduceSub]) ?_
                refine gz_call rfl (by decide) rfl (by decide) (by decide) (gcal_of rfl rfl rfl (Nat.le_of_ble_eq_true rfl) (gJ.recv (G := gGG) sq146.1 tm rfl rfl)) (mm_putByte _ sq146.1 m tm ((16 * ov) + bt) (by omega) fq146_0 efq146_0 (by omega)) (fun q154 _ wq154 => ?_)
                obtain ⟨pq154, oq154, hq154⟩ := q154
                obtain ⟨xq154, fq154_0, gq154, efq154_0, afq154_0, bfq154_0, uq154_0⟩ := wq154
                refine ⟨_, gq154, ?_⟩
                show gz gPP gGG gcn _ _ 173 [some (.ref m), some (.int (zi a)), some (.int (zi b)), some (.int (zi ov)), some (.int (zi bt)), some (.int (zi 2)), some (.int (zi jn21v0))] [] hq154 _
                have sq154 := gSs.tr sq146 xq154 (by decide)
                have s155 := (xq154.2.2.2.2.2 m 64 (by rw [tm]; decide)).trans s147
                have s156 := (xq154.2.2.2.2.2 m 62 (by rw [tm]; decide)).trans s148
                have s157 := (xq154.2.2.2.2.2 m 67 (by rw [tm]; decide)).trans s149
                have s158 := (xq154.2.2.2.2.2 m 68 (by rw [tm]; decide)).trans s150
                have pr159 := gEl.fr xq154.2 (by decide) (fun _ => rfl) pr151
                have pr160 := gOf.fr xq154.2 (by decide) pr152
                have pr161 := gO1.fr xq154.2 (by decide) pr153
                refine gz_s 5 (pc' := 179) (L' := [some (.ref m), some (.int (zi a)), some (.int (zi b)), some (.int (zi ov)), some (.int (zi bt)), some (.int (zi 2)), some (.int (zi jn21v0))]) (S' := [.int (zi bt), .int (zi ov), .int (zi b), .int (zi a), .ref m]) rfl ?_
                refine gz_call rfl (by decide) rfl (by decide) (by decide) (gcal_of rfl rfl rfl (Nat.le_of_ble_eq_true rfl) (gJ.recv (G := gGG) sq154.1 tm rfl rfl)) (mm_putBlocks _ sq154.1 m tm a (by omega) b (by omega) ov (by omega) bt (by omega) fq154_0 efq154_0 (by omega) fq11_1 s156 (by omega) 1 s157 (by omega) z10 s155 (by omega) so79 (by omega) (by omega) (by omega) uq pr160) (fun q162 _ wq162 => ?_)
                obtain ⟨pq162, oq162, hq162⟩ := q162
                obtain ⟨xq162, fq162_0, fq162_1, xq162_0, gq162, efq162_0, afq162_0, bfq162_0, efq162_1, afq162_1, bfq162_1, axq162_0, bxq162_0, uq162_0, uq162_1, uq162_2, uq162_3, uq162_4, yq162_0⟩ := wq162
                refine ⟨_, gq162, ?_⟩
                show gz gPP gGG gcn _ _ 182 [some (.ref m), some (.int (zi a)), some (.int (zi b)), some (.int (zi ov)), some (.int (zi bt)), some (.int (zi 2)), some (.int (zi jn21v0))] [] hq162 _
                have sq162 := gSs.tr sq154 xq162 (by decide)
                have s163 := (xq162.2.2.2.2.2 m 64 (by rw [tm]; decide)).trans s155
                have s164 := (xq162.2.2.2.2.2 m 67 (by rw [tm]; decide)).trans s157
                have s165 := (xq162.2.2.2.2.2 m 68 (by rw [tm]; decide)).trans s158
                refine gz_s 1 (pc' := 183) (L' := [some (.ref m), some (.int (zi a)), some (.int (zi b)), some (.int (zi ov)), some (.int (zi bt)), some (.int (zi 2)), some (.int (zi jn21v0))]) (S' := [.ref m]) rfl ?_
                refine gz_call rfl (by decide) rfl (by decide) (by decide) (gcal_of rfl rfl rfl (Nat.le_of_ble_eq_true rfl) (gJ.recv (G := gGG) sq162.1 tm rfl rfl)) (mm_fillByte _ sq162.1 m tm fq162_0 efq162_0 (by omega) fq162_1 efq162_1 (by omega) 1 s164 (by omega) (by omega) (by omega)) (fun q166 _ wq166 => ?_)
                obtain ⟨pq166, oq166, hq166⟩ := q166
                obtain ⟨xq166, fq166_0, fq166_1, gq166, efq166_0, afq166_0, bfq166_0, efq166_1, afq166_1, bfq166_1, uq166_0, uq166_1, uq166_2⟩ := wq166
                refine ⟨_, gq166, ?_⟩
                show gz gPP gGG gcn _ _ 186 [some (.ref m), some (.int (zi a)), some (.int (zi b)), some (.int (zi ov)), some (.int (zi bt)), some (.int (zi 2)), some (.int (zi jn21v0))] [] hq166 _
                have sq166 := gSs.tr sq162 xq166 (by decide)
                have s167 := (xq166.2.2.2.2.2 m 64 (by rw [tm]; decide)).trans s163
                have s168 := (xq166.2.2.2.2.2 m 67 (by rw [tm]; decide)).trans s164
                have s169 := (xq166.2.2.2.2.2 m 68 (by rw [tm]; decide)).trans s165
                have pr170 := gOf.fr xq166.2 (by decide) yq162_0
                exact gz_end (I := .return_) (len := 1) rfl (Or.inl rfl) ⟨sq166, fq166_0, fq166_1, rfl, efq166_0, (by omega), (by omega), efq166_1, (by omega), (by omega), (by omega), (by omega)⟩
            by_cases hc171 : (b : Int) ≤ 0
            · refine gy_ifT (pc' := 82) rfl (by decide) (by decide) (by omega) hc171 ?_
              refine gz_s 1 (pc' := 83) (L' := [some (.ref m), some (.int (zi a)), some (.int (zi b)), some (.int (zi ov)), some (.int (zi bt)), some (.int (zi 1)), some (.int (zi jn19v0))]) (S' := [.int (zi 0)]) rfl ?_
              exact jn21 0 (by omega)
            · refine gy_ifF rfl (by decide) (by decide) (by omega) hc171 ?_
              refine gz_s 2 (pc' := 83) (L' := [some (.ref m), some (.int (zi a)), some (.int (zi b)), some (.int (zi ov)), some (.int (zi bt)), some (.int (zi 1)), some (.int (zi jn19v0))]) (S' := [.int (zi 1)]) rfl ?_
              exact jn21 1 (by omega)
          · refine gy_ifF rfl (by decide) (by decide) (by omega) hc20 ?_
            refine gz_s 1 (pc' := 91) (L' := [some (.ref m), some (.int (zi a)), some (.int (zi b)), some (.int (zi ov)), some (.int (zi bt)), some (.int (zi 0)), some (.int (zi jn19v0))]) (S' := [.ref m]) rfl ?_
            refine gs_gtr rfl (by decide) rfl sh14.1 tm rfl rfl rfl (fun c172 ec172 tc172 => ?_)
            refine gy_s 5 (pc' := 104) (L' := [some (.ref m), some (.int (zi a)), some (.int (zi b)), some (.int (zi ov)), some (.int (zi bt)), some (.int (zi 0)), some (.int (zi jn19v0))]) (S' := [.int (((zi 257) * (zi 0)) + (zi 256)), .ref c172]) (L2 := [some (.ref m), some (.int (zi a)), some (.int (zi b)), some (.int (zi ov)), some (.int (zi bt)), some (.int (zi 0)), some (.int (zi jn19v0))]) (S2 := [.int (zi 256), .ref c172]) rfl (by simp only [zi_add, zi_sub, zi_mul, zi_neg, zi_and1, zi_and7, zi_and15, zi_and31, zi_and255, Int.reduceAdd, Int.reduceMul, Int.reduceSub]) (by simp only [zi_add, zi_sub, zi_mul, zi_neg, zi_and1, zi_and7, zi_and15, zi_and31, zi_and255, Int.reduceAdd, Int.reduceMul, Int.reduceSub]) ?_
            refine gz_s 1 (pc' := 105) (L' := [some (.ref m), some (.int (zi a)), some (.int (zi b)), some (.int (zi ov)), some (.int (zi bt)), some (.int (zi 0)), some (.int (zi jn19v0))]) (S' := [.int (zi 1), .int (zi 256), .ref c172]) rfl ?_
            have hl173 : 514 ≤ h14.2.2.2.1 c172 ∧ h14.2.2.2.1 c172 ≤ 514 := gJ.rowl (G := gGG) sh14.1 tc172 rfl
            refine gs_ast rfl (by decide) sh14 tc172 rfl rfl rfl (by decide) (fun _ => rfl) (by omega) (by omega) (fun _ => (by decide : (36999 : Nat) ∈ ([1059, 1061, 1062, 1067, 1074, 1075, 32999, 36999, 37999, 38999, 39999, 40999, 41999, 42999] : List Nat))) (by omega) (by omega) (fun h174 sh174 eh174 fh174 => ?_)
            have s175 := (fh174 m 64 (fun q => absurd (((tm).symm.trans (congrArg ty q.1)).trans tc172) (by decide))).trans s16
            have s176 := (fh174 m 59 (fun q => absurd (((tm).symm.trans (congrArg ty q.1)).trans tc172) (by decide))).trans s17
            have s177 := (fh174 m 62 (fun q => absurd (((tm).symm.trans (congrArg ty q.1)).trans tc172) (by decide))).trans s18
            have s178 := (fh174 m 67 (fun q => absurd (((tm).symm.trans (congrArg ty q.1)).trans tc172) (by decide))).trans eh14
            have s179 := (fh174 m 68 (fun q => absurd (((tm).symm.trans (congrArg ty q.1)).trans tc172) (by decide))).trans ec172
            have pr180 := gEl.set (i := 256) (z := 1) uq tc172 (by decide) eh174 (by omega) (by omega)
            obtain ⟨so181, so181a, so181b, so181c⟩ := gOf.set (i := 256) uq tc172 fh174 eh174 (by omega) pr15
            have ho1182 : gO1 ty 0 h174 := pr180
            refine gz_s 2 (pc' := 109) (L' := [some (.ref m), some (.int (zi a)), some (.int (zi b)), some (.int (zi ov)), some (.int (zi bt)), some (.int (zi 0)), some (.int (zi jn19v0))]) (S' := [.int (zi 0), .ref m]) rfl ?_
            refine gz_call rfl (by decide) rfl (by decide) (by decide) (gcal_of rfl rfl rfl (Nat.le_of_ble_eq_true rfl) (gJ.recv (G := gGG) sh174.1 tm rfl rfl)) (mm_suit _ sh174.1 m tm 0 (by omega) so181 (by omega) uq so181c ho1182) (fun q183 _ wq183 => ?_)
            obtain ⟨pq183, oq183, hq183⟩ := q183
            obtain ⟨xq183, gq183⟩ := wq183
            refine ⟨_, gq183, ?_⟩
            show gz gPP gGG gcn _ _ 112 [some (.ref m), some (.int (zi a)), some (.int (zi b)), some (.int (zi ov)), some (.int (zi bt)), some (.int (zi 0)), some (.int (zi jn19v0))] [] hq183 _
            have sq183 := gSs.tr sh174 xq183 (by decide)
            have s184 := (xq183.2.2.2.2.2 m 64 (by rw [tm]; decide)).trans s175
            have s185 := (xq183.2.2.2.2.2 m 59 (by rw [tm]; decide)).trans s176
            have s186 := (xq183.2.2.2.2.2 m 62 (by rw [tm]; decide)).trans s177
            have s187 := (xq183.2.2.2.2.2 m 67 (by rw [tm]; decide)).trans s178
            have s188 := (xq183.2.2.2.2.2 m 68 (by rw [tm]; decide)).trans s179
            have pr189 := gEl.fr xq183.2 (by decide) (fun _ => rfl) pr180
            have pr190 := gOf.fr xq183.2 (by decide) so181c
            have pr191 := gO1.fr xq183.2 (by decide) ho1182
            refine gz_s 2 (pc' := 115) (L' := [some (.ref m), some (.int (zi a)), some (.int (zi b)), some (.int (zi ov)), some (.int (zi bt)), some (.int (zi 0)), some (.int (zi jn19v0))]) (S' := [.int (zi 0), .ref m]) rfl ?_
            refine gz_call rfl (by decide) rfl (by decide) (by decide) (gcal_of rfl rfl rfl (Nat.le_of_ble_eq_true rfl) (gJ.recv (G := gGG) sq183.1 tm rfl rfl)) (mm_putCodes _ sq183.1 m tm 0 (by omega) fq11_0 s185 (by omega) uq) (fun q192 _ wq192 => ?_)
            obtain ⟨pq192, oq192, hq192⟩ := q192
            obtain ⟨xq192, fq192_0, gq192, efq192_0, afq192_0, bfq192_0, uq192_0, uq192_1⟩ := wq192
            refine ⟨_, gq192, ?_⟩
            show gz gPP gGG gcn _ _ 118 [some (.ref m), some (.int (zi a)), some (.int (zi b)), some (.int (zi ov)), some (.int (zi bt)), some (.int (zi 0)), some (.int (zi jn19v0))] [] hq192 _
            have sq192 := gSs.tr sq183 xq192 (by decide)
            have s193 := (xq192.2.2.2.2.2 m 64 (by rw [tm]; decide)).trans s184
            have s194 := (xq192.2.2.2.2.2 m 62 (by rw [tm]; decide)).trans s186
            have s195 := (xq192.2.2.2.2.2 m 67 (by rw [tm]; decide)).trans s187
            have s196 := (xq192.2.2.2.2.2 m 68 (by rw [tm]; decide)).trans s188
            have pr197 := gEl.fr xq192.2 (by decide) (fun _ => rfl) pr189
            have pr198 := gOf.fr xq192.2 (by decide) pr190
            have pr199 := gO1.fr xq192.2 (by decide) pr191
            refine gy_s 4 (pc' := 50) (L' := [some (.ref m), some (.int (zi a)), some (.int (zi b)), some (.int (zi ov)), some (.int (zi bt)), some (.int ((zi 0) + zi 1)), some (.int (zi jn19v0))]) (S' := [.int (zi 2), .int ((zi 0) + zi 1)]) (L2 := [some (.ref m), some (.int (zi a)), some (.int (zi b)), some (.int (zi ov)), some (.int (zi bt)), some (.int (zi 1)), some (.int (zi jn19v0))]) (S2 := [.int (zi 2), .int (zi 1)]) rfl (by simp only [zi_add, zi_sub, zi_mul, zi_neg, zi_and1, zi_and7, zi_and15, zi_and31, zi_and255, Int.reduceAdd, Int.reduceMul, Int.reduceSub]) (by simp only [zi_add, zi_sub, zi_mul, zi_neg, zi_and1, zi_and7, zi_and15, zi_and31, zi_and255, Int.reduceAdd, Int.reduceMul, Int.reduceSub]) ?_
            refine gy_icF rfl (by decide) (by decide) (by omega) (by omega) (by first | (simp [zc]; done) | (simp only [zc]; omega)) ?_
            refine gz_s 1 (pc' := 55) (L' := [some (.ref m), some (.int (zi a)), some (.int (zi b)), some (.int (zi ov)), some (.int (zi bt)), some (.int (zi 1)), some (.int (zi jn19v0))]) (S' := [.int (zi 1)]) rfl ?_
            refine gy_ifT (pc' := 74) rfl (by decide) (by decide) (by omega) (by first | (simp [zc]; done) | (simp only [zc]; omega)) ?_
            refine gz_s 1 (pc' := 75) (L' := [some (.ref m), some (.int (zi a)), some (.int (zi b)), some (.int (zi ov)), some (.int (zi bt)), some (.int (zi 1)), some (.int (zi jn19v0))]) (S' := [.int (zi b)]) rfl ?_
            have jn200 : ∀ (jn200v0 : Int), ((0 ≤ jn200v0) ∧ (jn200v0 ≤ 1)) → gz gPP gGG gcn (d + 5) gt189 83 [some (.ref m), some (.int (zi a)), some (.int (zi b)), some (.int (zi ov)), some (.int (zi bt)), some (.int (zi 1)), some (.int (zi jn19v0))] [.int (zi jn200v0)] hq192 (fun q _ => gSs rT 1027 ty [1059, 1061, 1062, 1067, 1074, 1075, 32999, 36999, 37999, 38999, 39999, 40999, 41999, 42999] h q.2.2 ∧ ∃ w1 b1 : Int, gfin gt189 q.1 q.2.1 = some none ∧ q.2.2.2.2.2.2 m 59 = .int (zi w1) ∧ 0 ≤ w1 ∧ w1 ≤ 60000 ∧ q.2.2.2.2.2.2 m 62 = .int (zi b1) ∧ 0 ≤ b1 ∧ b1 ≤ 0 ∧ (w0 ≤ w1) ∧ (4 * w1 ≤ 4 * w0 + 16 * (35 * (b - a + 1) + 73) + 2300)) := by
              intro jn200v0 jn200d
              refine gz_s 2 (pc' := 87) (L' := [some (.ref m), some (.int (zi a)), some (.int (zi b)), some (.int (zi ov)), some (.int (zi bt)), some (.int (zi 1)), some (.int (zi jn200v0))]) (S' := [.int (zi jn200v0)]) rfl ?_
              by_cases hc201 : (jn200v0 : Int) = 0
              · refine gy_ifT (pc' := 118) rfl (by decide) (by decide) (by omega) hc201 ?_
                refine gy_s 4 (pc' := 50) (L' := [some (.ref m), some (.int (zi a)), some (.int (zi b)), some (.int (zi ov)), some (.int (zi bt)), some (.int ((zi 1) + zi 1)), some (.int (zi jn200v0))]) (S' := [.int (zi 2), .int ((zi 1) + zi 1)]) (L2 := [some (.ref m), some (.int (zi a)), some (.int (zi b)), some (.int (zi ov)), some (.int (zi bt)), some (.int (zi 2)), some (.int (zi jn200v0))]) (S2 := [.int (zi 2), .int (zi 2)]) rfl (by simp only [zi_add, zi_sub, zi_mul, zi_neg, zi_and1, zi_and7, zi_and15, zi_and31, zi_and255, Int.reduceAdd, Int.reduceMul, Int.reduceSub]) (by simp only [zi_add, zi_sub, zi_mul, zi_neg, zi_and1, zi_and7, zi_and15, zi_and31, zi_and255, Int.reduceAdd, Int.reduceMul, Int.reduceSub]) ?_
                refine gy_icT (pc' := 124) rfl (by decide) (by decide) (by omega) (by omega) (by first | (simp [zc]; done) | (simp only [zc]; omega)) ?_
                refine gz_s 2 (pc' := 128) (L' := [some (.ref m), some (.int (zi a)), some (.int (zi b)), some (.int (zi ov)), some (.int (zi bt)), some (.int (zi 2)), some (.int (zi jn200v0))]) (S' := [.int (zi 218), .ref m]) rfl ?_
                refine gz_call rfl (by decide) rfl (by decide) (by decide) (gcal_of rfl rfl rfl (Nat.le_of_ble_eq_true rfl) (gJ.recv (G := gGG) sq192.1 tm rfl rfl)) (mm_putMarker _ sq192.1 m tm 218 (by omega) fq192_0 efq192_0 (by omega)) (fun q202 _ wq202 => ?_)
                obtain ⟨pq202, oq202, hq202⟩ := q202
                obtain ⟨xq202, fq202_0, gq202, efq202_0, afq202_0, bfq202_0, uq202_0⟩ := wq202
                refine ⟨_, gq202, ?_⟩
                show gz gPP gGG gcn _ _ 131 [some (.ref m), some (.int (zi a)), some (.int (zi b)), some (.int (zi ov)), some (.int (zi bt)), some (.int (zi 2)), some (.int (zi jn200v0))] [] hq202 _
                have sq202 := gSs.tr sq192 xq202 (by decide)
                have s203 := (xq202.2.2.2.2.2 m 64 (by rw [tm]; decide)).trans s193
                have s204 := (xq202.2.2.2.2.2 m 62 (by rw [tm]; decide)).trans s194
                have s205 := (xq202.2.2.2.2.2 m 67 (by rw [tm]; decide)).trans s195
                have s206 := (xq202.2.2.2.2.2 m 68 (by rw [tm]; decide)).trans s196
                have pr207 := gEl.fr xq202.2 (by decide) (fun _ => rfl) pr197
                have pr208 := gOf.fr xq202.2 (by decide) pr198
                have pr209 := gO1.fr xq202.2 (by decide) pr199
                refine gz_s 2 (pc' := 134) (L' := [some (.ref m), some (.int (zi a)), some (.int (zi b)), some (.int (zi ov)), some (.int (zi bt)), some (.int (zi 2)), some (.int (zi jn200v0))]) (S' := [.int (zi 8), .ref m]) rfl ?_
                refine gz_call rfl (by decide) rfl (by decide) (by decide) (gcal_of rfl rfl rfl (Nat.le_of_ble_eq_true rfl) (gJ.recv (G := gGG) sq202.1 tm rfl rfl)) (mm_putTwo _ sq202.1 m tm 8 (by omega) fq202_0 efq202_0 (by omega)) (fun q210 _ wq210 => ?_)
                obtain ⟨pq210, oq210, hq210⟩ := q210
                obtain ⟨xq210, fq210_0, gq210, efq210_0, afq210_0, bfq210_0, uq210_0⟩ := wq210
                refine ⟨_, gq210, ?_⟩
                show gz gPP gGG gcn _ _ 137 [some (.ref m), some (.int (zi a)), some (.int (zi b)), some (.int (zi ov)), some (.int (zi bt)), some (.int (zi 2)), some (.int (zi jn200v0))] [] hq210 _
                have sq210 := gSs.tr sq202 xq210 (by decide)
                have s211 := (xq210.2.2.2.2.2 m 64 (by rw [tm]; decide)).trans s203
                have s212 := (xq210.2.2.2.2.2 m 62 (by rw [tm]; decide)).trans s204
                have s213 := (xq210.2.2.2.2.2 m 67 (by rw [tm]; decide)).trans s205
                have s214 := (xq210.2.2.2.2.2 m 68 (by rw [tm]; decide)).trans s206
                have pr215 := gEl.fr xq210.2 (by decide) (fun _ => rfl) pr207
                have pr216 := gOf.fr xq210.2 (by decide) pr208
                have pr217 := gO1.fr xq210.2 (by decide) pr209
                refine gz_s 2 (pc' := 139) (L' := [some (.ref m), some (.int (zi a)), some (.int (zi b)), some (.int (zi ov)), some (.int (zi bt)), some (.int (zi 2)), some (.int (zi jn200v0))]) (S' := [.int (zi 1), .ref m]) rfl ?_
                refine gz_call rfl (by decide) rfl (by decide) (by decide) (gcal_of rfl rfl rfl (Nat.le_of_ble_eq_true rfl) (gJ.recv (G := gGG) sq210.1 tm rfl rfl)) (mm_putByte _ sq210.1 m tm 1 (by omega) fq210_0 efq210_0 (by omega)) (fun q218 _ wq218 => ?_)
                obtain ⟨pq218, oq218, hq218⟩ := q218
                obtain ⟨xq218, fq218_0, gq218, efq218_0, afq218_0, bfq218_0, uq218_0⟩ := wq218
                refine ⟨_, gq218, ?_⟩
                show gz gPP gGG gcn _ _ 142 [some (.ref m), some (.int (zi a)), some (.int (zi b)), some (.int (zi ov)), some (.int (zi bt)), some (.int (zi 2)), some (.int (zi jn200v0))] [] hq218 _
                have sq218 := gSs.tr sq210 xq218 (by decide)
                have s219 := (xq218.2.2.2.2.2 m 64 (by rw [tm]; decide)).trans s211
                have s220 := (xq218.2.2.2.2.2 m 62 (by rw [tm]; decide)).trans s212
                have s221 := (xq218.2.2.2.2.2 m 67 (by rw [tm]; decide)).trans s213
                have s222 := (xq218.2.2.2.2.2 m 68 (by rw [tm]; decide)).trans s214
                have pr223 := gEl.fr xq218.2 (by decide) (fun _ => rfl) pr215
                have pr224 := gOf.fr xq218.2 (by decide) pr216
                have pr225 := gO1.fr xq218.2 (by decide) pr217
                refine gz_s 2 (pc' := 144) (L' := [some (.ref m), some (.int (zi a)), some (.int (zi b)), some (.int (zi ov)), some (.int (zi bt)), some (.int (zi 2)), some (.int (zi jn200v0))]) (S' := [.int (zi 1), .ref m]) rfl ?_
                refine gz_call rfl (by decide) rfl (by decide) (by decide) (gcal_of rfl rfl rfl (Nat.le_of_ble_eq_true rfl) (gJ.recv (G := gGG) sq218.1 tm rfl rfl)) (mm_putByte _ sq218.1 m tm 1 (by omega) fq218_0 efq218_0 (by omega)) (fun q226 _ wq226 => ?_)
                obtain ⟨pq226, oq226, hq226⟩ := q226
                obtain ⟨xq226, fq226_0, gq226, efq226_0, afq226_0, bfq226_0, uq226_0⟩ := wq226
                refine ⟨_, gq226, ?_⟩
                show gz gPP gGG gcn _ _ 147 [some (.ref m), some (.int (zi a)), some (.int (zi b)), some (.int (zi ov)), some (.int (zi bt)), some (.int (zi 2)), some (.int (zi jn200v0))] [] hq226 _
                have sq226 := gSs.tr sq218 xq226 (by decide)
                have s227 := (xq226.2.2.2.2.2 m 64 (by rw [tm]; decide)).trans s219
                have s228 := (xq226.2.2.2.2.2 m 62 (by rw [tm]; decide)).trans s220
                have s229 := (xq226.2.2.2.2.2 m 67 (by rw [tm]; decide)).trans s221
                have s230 := (xq226.2.2.2.2.2 m 68 (by rw [tm]; decide)).trans s222
                have pr231 := gEl.fr xq226.2 (by decide) (fun _ => rfl) pr223
                have pr232 := gOf.fr xq226.2 (by decide) pr224
                have pr233 := gO1.fr xq226.2 (by decide) pr225
                refine gz_s 2 (pc' := 149) (L' := [some (.ref m), some (.int (zi a)), some (.int (zi b)), some (.int (zi ov)), some (.int (zi bt)), some (.int (zi 2)), some (.int (zi jn200v0))]) (S' := [.int (zi 0), .ref m]) rfl ?_
                refine gz_call rfl (by decide) rfl (by decide) (by decide) (gcal_of rfl rfl rfl (Nat.le_of_ble_eq_true rfl) (gJ.recv (G := gGG) sq226.1 tm rfl rfl)) (mm_putByte _ sq226.1 m tm 0 (by omega) fq226_0 efq226_0 (by omega)) (fun q234 _ wq234 => ?_)
                obtain ⟨pq234, oq234, hq234⟩ := q234
                obtain ⟨xq234, fq234_0, gq234, efq234_0, afq234_0, bfq234_0, uq234_0⟩ := wq234
                refine ⟨_, gq234, ?_⟩
                show gz gPP gGG gcn _ _ 152 [some (.ref m), some (.int (zi a)), some (.int (zi b)), some (.int (zi ov)), some (.int (zi bt)), some (.int (zi 2)), some (.int (zi jn200v0))] [] hq234 _
                have sq234 := gSs.tr sq226 xq234 (by decide)
                have s235 := (xq234.2.2.2.2.2 m 64 (by rw [tm]; decide)).trans s227
                have s236 := (xq234.2.2.2.2.2 m 62 (by rw [tm]; decide)).trans s228
                have s237 := (xq234.2.2.2.2.2 m 67 (by rw [tm]; decide)).trans s229
                have s238 := (xq234.2.2.2.2.2 m 68 (by rw [tm]; decide)).trans s230
                have pr239 := gEl.fr xq234.2 (by decide) (fun _ => rfl) pr231
                have pr240 := gOf.fr xq234.2 (by decide) pr232
                have pr241 := gO1.fr xq234.2 (by decide) pr233
                refine gz_s 2 (pc' := 154) (L' := [some (.ref m), some (.int (zi a)), some (.int (zi b)), some (.int (zi ov)), some (.int (zi bt)), some (.int (zi 2)), some (.int (zi jn200v0))]) (S' := [.int (zi a), .ref m]) rfl ?_
                refine gz_call rfl (by decide) rfl (by decide) (by decide) (gcal_of rfl rfl rfl (Nat.le_of_ble_eq_true rfl) (gJ.recv (G := gGG) sq234.1 tm rfl rfl)) (mm_putByte _ sq234.1 m tm a (by omega) fq234_0 efq234_0 (by omega)) (fun q242 _ wq242 => ?_)
                obtain ⟨pq242, oq242, hq242⟩ := q242
                obtain ⟨xq242, fq242_0, gq242, efq242_0, afq242_0, bfq242_0, uq242_0⟩ := wq242
                refine ⟨_, gq242, ?_⟩
                show gz gPP gGG gcn _ _ 157 [some (.ref m), some (.int (zi a)), some (.int (zi b)), some (.int (zi ov)), some (.int (zi bt)), some (.int (zi 2)), some (.int (zi jn200v0))] [] hq242 _
                have sq242 := gSs.tr sq234 xq242 (by decide)
                have s243 := (xq242.2.2.2.2.2 m 64 (by rw [tm]; decide)).trans s235
                have s244 := (xq242.2.2.2.2.2 m 62 (by rw [tm]; decide)).trans s236
                have s245 := (xq242.2.2.2.2.2 m 67 (by rw [tm]; decide)).trans s237
                have s246 := (xq242.2.2.2.2.2 m 68 (by rw [tm]; decide)).trans s238
                have pr247 := gEl.fr xq242.2 (by decide) (fun _ => rfl) pr239
                have pr248 := gOf.fr xq242.2 (by decide) pr240
                have pr249 := gO1.fr xq242.2 (by decide) pr241
                refine gz_s 2 (pc' := 159) (L' := [some (.ref m), some (.int (zi a)), some (.int (zi b)), some (.int (zi ov)), some (.int (zi bt)), some (.int (zi 2)), some (.int (zi jn200v0))]) (S' := [.int (zi b), .ref m]) rfl ?_
                refine gz_call rfl (by decide) rfl (by decide) (by decide) (gcal_of rfl rfl rfl (Nat.le_of_ble_eq_true rfl) (gJ.recv (G := gGG) sq242.1 tm rfl rfl)) (mm_putByte _ sq242.1 m tm b (by omega) fq242_0 efq242_0 (by omega)) (fun q250 _ wq250 => ?_)
                obtain ⟨pq250, oq250, hq250⟩ := q250
                obtain ⟨xq250, fq250_0, gq250, efq250_0, afq250_0, bfq250_0, uq250_0⟩ := wq250
                refine ⟨_, gq250, ?_⟩
                show gz gPP gGG gcn _ _ 162 [some (.ref m), some (.int (zi a)), some (.int (zi b)), some (.int (zi ov)), some (.int (zi bt)), some (.int (zi 2)), some (.int (zi jn200v0))] [] hq250 _
                have sq250 := gSs.tr sq242 xq250 (by decide)
                have s251 := (xq250.2.2.2.2.2 m 64 (by rw [tm]; decide)).trans s243
                have s252 := (xq250.2.2.2.2.2 m 62 (by rw [tm]; decide)).trans s244
                have s253 := (xq250.2.2.2.2.2 m 67 (by rw [tm]; decide)).trans s245
                have s254 := (xq250.2.2.2.2.2 m 68 (by rw [tm]; decide)).trans s246
                have pr255 := gEl.fr xq250.2 (by decide) (fun _ => rfl) pr247
                have pr256 := gOf.fr xq250.2 (by decide) pr248
                have pr257 := gO1.fr xq250.2 (by decide) pr249
                refine gy_s 6 (pc' := 170) (L' := [some (.ref m), some (.int (zi a)), some (.int (zi b)), some (.int (zi ov)), some (.int (zi bt)), some (.int (zi 2)), some (.int (zi jn200v0))]) (S' := [.int (((zi 16) * (zi ov)) + (zi bt)), .ref m]) (L2 := [some (.ref m), some (.int (zi a)), some (.int (zi b)), some (.int (zi ov)), some (.int (zi bt)), some (.int (zi 2)), some (.int (zi jn200v0))]) (S2 := [.int (zi ((16 * ov) + bt)), .ref m]) rfl (by simp only [zi_add, zi_sub, zi_mul, zi_neg, zi_and1, zi_and7, zi_and15, zi_and31, zi_and255, Int.reduceAdd, Int.reduceMul, Int.reduceSub]) (by simp only [zi_add, zi_sub, zi_mul, zi_neg, zi_and1, zi_and7, zi_and15, zi_and31, zi_and255, Int.reduceAdd, Int.reduceMul, Int.reduceSub]) ?_
                refine gz_call rfl (by decide) rfl (by decide) (by decide) (gcal_of rfl rfl rfl (Nat.le_of_ble_eq_true rfl) (gJ.recv (G := gGG) sq250.1 tm rfl rfl)) (mm_putByte _ sq250.1 m tm ((16 * ov) + bt) (by omega) fq250_0 efq250_0 (by omega)) (fun q258 _ wq258 => ?_)
                obtain ⟨pq258, oq258, hq258⟩ := q258
                obtain ⟨xq258, fq258_0, gq258, efq258_0, afq258_0, bfq258_0, uq258_0⟩ := wq258
                refine ⟨_, gq258, ?_⟩
                show gz gPP gGG gcn _ _ 173 [some (.ref m), some (.int (zi a)), some (.int (zi b)), some (.int (zi ov)), some (.int (zi bt)), some (.int (zi 2)), some (.int (zi jn200v0))] [] hq258 _
                have sq258 := gSs.tr sq250 xq258 (by decide)
                have s259 := (xq258.2.2.2.2.2 m 64 (by rw [tm]; decide)).trans s251
                have s260 := (xq258.2.2.2.2.2 m 62 (by rw [tm]; decide)).trans s252
                have s261 := (xq258.2.2.2.2.2 m 67 (by rw [tm]; decide)).trans s253
                have s262 := (xq258.2.2.2.2.2 m 68 (by rw [tm]; decide)).trans s254
                have pr263 := gEl.fr xq258.2 (by decide) (fun _ => rfl) pr255
                have pr264 := gOf.fr xq258.2 (by decide) pr256
                have pr265 := gO1.fr xq258.2 (by decide) pr257
                refine gz_s 5 (pc' := 179) (L' := [some (.ref m), some (.int (zi a)), some (.int (zi b)), some (.int (zi ov)), some (.int (zi bt)), some (.int (zi 2)), some (.int (zi jn200v0))]) (S' := [.int (zi bt), .int (zi ov), .int (zi b), .int (zi a), .ref m]) rfl ?_
                refine gz_call rfl (by decide) rfl (by decide) (by decide) (gcal_of rfl rfl rfl (Nat.le_of_ble_eq_true rfl) (gJ.recv (G := gGG) sq258.1 tm rfl rfl)) (mm_putBlocks _ sq258.1 m tm a (by omega) b (by omega) ov (by omega) bt (by omega) fq258_0 efq258_0 (by omega) fq11_1 s260 (by omega) 1 s261 (by omega) z10 s259 (by omega) so181 (by omega) (by omega) (by omega) uq pr264) (fun q266 _ wq266 => ?_)
                obtain ⟨pq266, oq266, hq266⟩ := q266
                obtain ⟨xq266, fq266_0, fq266_1, xq266_0, gq266, efq266_0, afq266_0, bfq266_0, efq266_1, afq266_1, bfq266_1, axq266_0, bxq266_0, uq266_0, uq266_1, uq266_2, uq266_3, uq266_4, yq266_0⟩ := wq266
                refine ⟨_, gq266, ?_⟩
                show gz gPP gGG gcn _ _ 182 [some (.ref m), some (.int (zi a)), some (.int (zi b)), some (.int (zi ov)), some (.int (zi bt)), some (.int (zi 2)), some (.int (zi jn200v0))] [] hq266 _
                have sq266 := gSs.tr sq258 xq266 (by decide)
                have s267 := (xq266.2.2.2.2.2 m 64 (by rw [tm]; decide)).trans s259
                have s268 := (xq266.2.2.2.2.2 m 67 (by rw [tm]; decide)).trans s261
                have s269 := (xq266.2.2.2.2.2 m 68 (by rw [tm]; decide)).trans s262
                refine gz_s 1 (pc' := 183) (L' := [some (.ref m), some (.int (zi a)), some (.int (zi b)), some (.int (zi ov)), some (.int (zi bt)), some (.int (zi 2)), some (.int (zi jn200v0))]) (S' := [.ref m]) rfl ?_
                refine gz_call rfl (by decide) rfl (by decide) (by decide) (gcal_of rfl rfl rfl (Nat.le_of_ble_eq_true rfl) (gJ.recv (G := gGG) sq266.1 tm rfl rfl)) (mm_fillByte _ sq266.1 m tm fq266_0 efq266_0 (by omega) fq266_1 efq266_1 (by omega) 1 s268 (by omega) (by omega) (by omega)) (fun q270 _ wq270 => ?_)
                obtain ⟨pq270, oq270, hq270⟩ := q270
                obtain ⟨xq270, fq270_0, fq270_1, gq270, efq270_0, afq270_0, bfq270_0, efq270_1, afq270_1, bfq270_1, uq270_0, uq270_1, uq270_2⟩ := wq270
                refine ⟨_, gq270, ?_⟩
                show gz gPP gGG gcn _ _ 186 [some (.ref m), some (.int (zi a)), some (.int (zi b)), some (.int (zi ov)), some (.int (zi bt)), some (.int (zi 2)), some (.int (zi jn200v0))] [] hq270 _
                have sq270 := gSs.tr sq266 xq270 (by decide)
                have s271 := (xq270.2.2.2.2.2 m 64 (by rw [tm]; decide)).trans s267
                have s272 := (xq270.2.2.2.2.2 m 67 (by rw [tm]; decide)).trans s268
                have s273 := (xq270.2.2.2.2.2 m 68 (by rw [tm]; decide)).trans s269
                have pr274 := gOf.fr xq270.2 (by decide) yq266_0
                exact gz_end (I := .return_) (len := 1) rfl (Or.inl rfl) ⟨sq270, fq270_0, fq270_1, rfl, efq270_0, (by omega), (by omega), efq270_1, (by omega), (by omega), (by omega), (by omega)⟩
              · refine gy_ifF rfl (by decide) (by decide) (by omega) hc201 ?_
                refine gz_s 1 (pc' := 91) (L' := [some (.ref m), some (.int (zi a)), some (.int (zi b)), some (.int (zi ov)), some (.int (zi bt)), some (.int (zi 1)), some (.int (zi jn200v0))]) (S' := [.ref m]) rfl ?_
                refine gs_gtk rfl (by decide) rfl sq192.1 tm rfl rfl s196 ?_
                refine gy_s 5 (pc' := 104) (L' := [some (.ref m), some (.int (zi a)), some (.int (zi b)), some (.int (zi ov)), some (.int (zi bt)), some (.int (zi 1)), some (.int (zi jn200v0))]) (S' := [.int (((zi 257) * (zi 1)) + (zi 256)), .ref c172]) (L2 := [some (.ref m), some (.int (zi a)), some (.int (zi b)), some (.int (zi ov)), some (.int (zi bt)), some (.int (zi 1)), some (.int (zi jn200v0))]) (S2 := [.int (zi 513), .ref c172]) rfl (by simp only [zi_add, zi_sub, zi_mul, zi_neg, zi_and1, zi_and7, zi_and15, zi_and31, zi_and255, Int.reduceAdd, Int.reduceMul, Int.reduceSub]) (by simp only [zi_add, zi_sub, zi_mul, zi_neg, zi_and1, zi_and7, zi_and15, zi_and31, zi_and255, Int.reduceAdd, Int.reduceMul, Int.reduceSub]) ?_
                refine gz_s 1 (pc' := 105) (L' := [some (.ref m), some (.int (zi a)), some (.int (zi b)), some (.int (zi ov)), some (.int (zi bt)), some (.int (zi 1)), some (.int (zi jn200v0))]) (S' := [.int (zi 1), .int (zi 513), .ref c172]) rfl ?_
                have hl275 : 514 ≤ hq192.2.2.2.1 c172 ∧ hq192.2.2.2.1 c172 ≤ 514 := gJ.rowl (G := gGG) sq192.1 tc172 rfl
                refine gs_ast rfl (by decide) sq192 tc172 rfl rfl rfl (by decide) (fun _ => rfl) (by omega) (by omega) (fun _ => (by decide : (36999 : Nat) ∈ ([1059, 1061, 1062, 1067, 1074, 1075, 32999, 36999, 37999, 38999, 39999, 40999, 41999, 42999] : List Nat))) (by omega) (by omega) (fun h276 sh276 eh276 fh276 => ?_)
                have pr277 := gEl.ot fh276 pr197 (i := 513) (by omega)
                have s278 := (fh276 m 64 (fun q => absurd (((tm).symm.trans (congrArg ty q.1)).trans tc172) (by decide))).trans s193
                have s279 := (fh276 m 62 (fun q => absurd (((tm).symm.trans (congrArg ty q.1)).trans tc172) (by decide))).trans s194
                have s280 := (fh276 m 67 (fun q => absurd (((tm).symm.trans (congrArg ty q.1)).trans tc172) (by decide))).trans s195
                have s281 := (fh276 m 68 (fun q => absurd (((tm).symm.trans (congrArg ty q.1)).trans tc172) (by decide))).trans s196
                have s282 := (fh276 m 59 (fun q => absurd (((tm).symm.trans (congrArg ty q.1)).trans tc172) (by decide))).trans efq192_0
                have pr283 := gEl.set (i := 513) (z := 1) uq tc172 (by decide) eh276 (by omega) (by omega)
                obtain ⟨so284, so284a, so284b, so284c⟩ := gOf.set (i := 513) uq tc172 fh276 eh276 (by omega) pr198
                have ho1285 : gO1 ty 1 h276 := pr283
                refine gz_s 2 (pc' := 109) (L' := [some (.ref m), some (.int (zi a)), some (.int (zi b)), some (.int (zi ov)), some (.int (zi bt)), some (.int (zi 1)), some (.int (zi jn200v0))]) (S' := [.int (zi 1), .ref m]) rfl ?_
                refine gz_call rfl (by decide) rfl (by decide) (by decide) (gcal_of rfl rfl rfl (Nat.le_of_ble_eq_true rfl) (gJ.recv (G := gGG) sh276.1 tm rfl rfl)) (mm_suit _ sh276.1 m tm 1 (by omega) so284 (by omega) uq so284c ho1285) (fun q286 _ wq286 => ?_)
                obtain ⟨pq286, oq286, hq286⟩ := q286
                obtain ⟨xq286, gq286⟩ := wq286
                refine ⟨_, gq286, ?_⟩
                show gz gPP gGG gcn _ _ 112 [some (.ref m), some (.int (zi a)), some (.int (zi b)), some (.int (zi ov)), some (.int (zi bt)), some (.int (zi 1)), some (.int (zi jn200v0))] [] hq286 _
                have sq286 := gSs.tr sh276 xq286 (by decide)
                have s287 := (xq286.2.2.2.2.2 m 64 (by rw [tm]; decide)).trans s278
                have s288 := (xq286.2.2.2.2.2 m 62 (by rw [tm]; decide)).trans s279
                have s289 := (xq286.2.2.2.2.2 m 67 (by rw [tm]; decide)).trans s280
                have s290 := (xq286.2.2.2.2.2 m 68 (by rw [tm]; decide)).trans s281
                have s291 := (xq286.2.2.2.2.2 m 59 (by rw [tm]; decide)).trans s282
                have pr292 := gEl.fr xq286.2 (by decide) (fun _ => rfl) pr277
                have pr293 := gEl.fr xq286.2 (by decide) (fun _ => rfl) pr283
                have pr294 := gOf.fr xq286.2 (by decide) so284c
                have pr295 := gO1.fr xq286.2 (by decide) ho1285
                refine gz_s 2 (pc' := 115) (L' := [some (.ref m), some (.int (zi a)), some (.int (zi b)), some (.int (zi ov)), some (.int (zi bt)), some (.int (zi 1)), some (.int (zi jn200v0))]) (S' := [.int (zi 1), .ref m]) rfl ?_
                refine gz_call rfl (by decide) rfl (by decide) (by decide) (gcal_of rfl rfl rfl (Nat.le_of_ble_eq_true rfl) (gJ.recv (G := gGG) sq286.1 tm rfl rfl)) (mm_putCodes _ sq286.1 m tm 1 (by omega) fq192_0 s291 (by omega) uq) (fun q296 _ wq296 => ?_)
                obtain ⟨pq296, oq296, hq296⟩ := q296
                obtain ⟨xq296, fq296_0, gq296, efq296_0, afq296_0, bfq296_0, uq296_0, uq296_1⟩ := wq296
                refine ⟨_, gq296, ?_⟩
                show gz gPP gGG gcn _ _ 118 [some (.ref m), some (.int (zi a)), some (.int (zi b)), some (.int (zi ov)), some (.int (zi bt)), some (.int (zi 1)), some (.int (zi jn200v0))] [] hq296 _
                have sq296 := gSs.tr sq286 xq296 (by decide)
                have s297 := (xq296.2.2.2.2.2 m 64 (by rw [tm]; decide)).trans s287
                have s298 := (xq296.2.2.2.2.2 m 62 (by rw [tm]; decide)).trans s288
                have s299 := (xq296.2.2.2.2.2 m 67 (by rw [tm]; decide)).trans s289
                have s300 := (xq296.2.2.2.2.2 m 68 (by rw [tm]; decide)).trans s290
                have pr301 := gEl.fr xq296.2 (by decide) (fun _ => rfl) pr292
                have pr302 := gEl.fr xq296.2 (by decide) (fun _ => rfl) pr293
                have pr303 := gOf.fr xq296.2 (by decide) pr294
                have pr304 := gO1.fr xq296.2 (by decide) pr295
                refine gy_s 4 (pc' := 50) (L' := [some (.ref m), some (.int (zi a)), some (.int (zi b)), some (.int (zi ov)), some (.int (zi bt)), some (.int ((zi 1) + zi 1)), some (.int (zi jn200v0))]) (S' := [.int (zi 2), .int ((zi 1) + zi 1)]) (L2 := [some (.ref m), some (.int (zi a)), some (.int (zi b)), some (.int (zi ov)), some (.int (zi bt)), some (.int (zi 2)), some (.int (zi jn200v0))]) (S2 := [.int (zi 2), .int (zi 2)]) rfl (by simp only [zi_add, zi_sub, zi_mul, zi_neg, zi_and1, zi_and7, zi_and15, zi_and31, zi_and255, Int.reduceAdd, Int.reduceMul, Int.reduceSub]) (by simp only [zi_add, zi_sub, zi_mul, zi_neg, zi_and1, zi_and7, zi_and15, zi_and31, zi_and255, Int.reduceAdd, Int.reduceMul, Int.reduceSub]) ?_
                refine gy_icT (pc' := 124) rfl (by decide) (by decide) (by omega) (by omega) (by first | (simp [zc]; done) | (simp only [zc]; omega)) ?_
                refine gz_s 2 (pc' := 128) (L' := [some (.ref m), some (.int (zi a)), some (.int (zi b)), some (.int (zi ov)), some (.int (zi bt)), some (.int (zi 2)), some (.int (zi jn200v0))]) (S' := [.int (zi 218), .ref m]) rfl ?_
                refine gz_call rfl (by decide) rfl (by decide) (by decide) (gcal_of rfl rfl rfl (Nat.le_of_ble_eq_true rfl) (gJ.recv (G := gGG) sq296.1 tm rfl rfl)) (mm_putMarker _ sq296.1 m tm 218 (by omega) fq296_0 efq296_0 (by omega)) (fun q305 _ wq305 => ?_)
                obtain ⟨pq305, oq305, hq305⟩ := q305
                obtain ⟨xq305, fq305_0, gq305, efq305_0, afq305_0, bfq305_0, uq305_0⟩ := wq305
                refine ⟨_, gq305, ?_⟩
                show gz gPP gGG gcn _ _ 131 [some (.ref m), some (.int (zi a)), some (.int (zi b)), some (.int (zi ov)), some (.int (zi bt)), some (.int (zi 2)), some (.int (zi jn200v0))] [] hq305 _
                have sq305 := gSs.tr sq296 xq305 (by decide)
                have s306 := (xq305.2.2.2.2.2 m 64 (by rw [tm]; decide)).trans s297
                have s307 := (xq305.2.2.2.2.2 m 62 (by rw [tm]; decide)).trans s298
                have s308 := (xq305.2.2.2.2.2 m 67 (by rw [tm]; decide)).trans s299
                have s309 := (xq305.2.2.2.2.2 m 68 (by rw [tm]; decide)).trans s300
                have pr310 := gEl.fr xq305.2 (by decide) (fun _ => rfl) pr301
                have pr311 := gEl.fr xq305.2 (by decide) (fun _ => rfl) pr302
                have pr312 := gOf.fr xq305.2 (by decide) pr303
                have pr313 := gO1.fr xq305.2 (by decide) pr304
                refine gz_s 2 (pc' := 134) (L' := [some (.ref m), some (.int (zi a)), some (.int (zi b)), some (.int (zi ov)), some (.int (zi bt)), some (.int (zi 2)), some (.int (zi jn200v0))]) (S' := [.int (zi 8), .ref m]) rfl ?_
                refine gz_call rfl (by decide) rfl (by decide) (by decide) (gcal_of rfl rfl rfl (Nat.le_of_ble_eq_true rfl) (gJ.recv (G := gGG) sq305.1 tm rfl rfl)) (mm_putTwo _ sq305.1 m tm 8 (by omega) fq305_0 efq305_0 (by omega)) (fun q314 _ wq314 => ?_)
                obtain ⟨pq314, oq314, hq314⟩ := q314
                obtain ⟨xq314, fq314_0, gq314, efq314_0, afq314_0, bfq314_0, uq314_0⟩ := wq314
                refine ⟨_, gq314, ?_⟩
                show gz gPP gGG gcn _ _ 137 [some (.ref m), some (.int (zi a)), some (.int (zi b)), some (.int (zi ov)), some (.int (zi bt)), some (.int (zi 2)), some (.int (zi jn200v0))] [] hq314 _
                have sq314 := gSs.tr sq305 xq314 (by decide)
                have s315 := (xq314.2.2.2.2.2 m 64 (by rw [tm]; decide)).trans s306
                have s316 := (xq314.2.2.2.2.2 m 62 (by rw [tm]; decide)).trans s307
                have s317 := (xq314.2.2.2.2.2 m 67 (by rw [tm]; decide)).trans s308
                have s318 := (xq314.2.2.2.2.2 m 68 (by rw [tm]; decide)).trans s309
                have pr319 := gEl.fr xq314.2 (by decide) (fun _ => rfl) pr310
                have pr320 := gEl.fr xq314.2 (by decide) (fun _ => rfl) pr311
                have pr321 := gOf.fr xq314.2 (by decide) pr312
                have pr322 := gO1.fr xq314.2 (by decide) pr313
                refine gz_s 2 (pc' := 139) (L' := [some (.ref m), some (.int (zi a)), some (.int (zi b)), some (.int (zi ov)), some (.int (zi bt)), some (.int (zi 2)), some (.int (zi jn200v0))]) (S' := [.int (zi 1), .ref m]) rfl ?_
                refine gz_call rfl (by decide) rfl (by decide) (by decide) (gcal_of rfl rfl rfl (Nat.le_of_ble_eq_true rfl) (gJ.recv (G := gGG) sq314.1 tm rfl rfl)) (mm_putByte _ sq314.1 m tm 1 (by omega) fq314_0 efq314_0 (by omega)) (fun q323 _ wq323 => ?_)
                obtain ⟨pq323, oq323, hq323⟩ := q323
                obtain ⟨xq323, fq323_0, gq323, efq323_0, afq323_0, bfq323_0, uq323_0⟩ := wq323
                refine ⟨_, gq323, ?_⟩
                show gz gPP gGG gcn _ _ 142 [some (.ref m), some (.int (zi a)), some (.int (zi b)), some (.int (zi ov)), some (.int (zi bt)), some (.int (zi 2)), some (.int (zi jn200v0))] [] hq323 _
                have sq323 := gSs.tr sq314 xq323 (by decide)
                have s324 := (xq323.2.2.2.2.2 m 64 (by rw [tm]; decide)).trans s315
                have s325 := (xq323.2.2.2.2.2 m 62 (by rw [tm]; decide)).trans s316
                have s326 := (xq323.2.2.2.2.2 m 67 (by rw [tm]; decide)).trans s317
                have s327 := (xq323.2.2.2.2.2 m 68 (by rw [tm]; decide)).trans s318
                have pr328 := gEl.fr xq323.2 (by decide) (fun _ => rfl) pr319
                have pr329 := gEl.fr xq323.2 (by decide) (fun _ => rfl) pr320
                have pr330 := gOf.fr xq323.2 (by decide) pr321
                have pr331 := gO1.fr xq323.2 (by decide) pr322
                refine gz_s 2 (pc' := 144) (L' := [some (.ref m), some (.int (zi a)), some (.int (zi b)), some (.int (zi ov)), some (.int (zi bt)), some (.int (zi 2)), some (.int (zi jn200v0))]) (S' := [.int (zi 1), .ref m]) rfl ?_
                refine gz_call rfl (by decide) rfl (by decide) (by decide) (gcal_of rfl rfl rfl (Nat.le_of_ble_eq_true rfl) (gJ.recv (G := gGG) sq323.1 tm rfl rfl)) (mm_putByte _ sq323.1 m tm 1 (by omega) fq323_0 efq323_0 (by omega)) (fun q332 _ wq332 => ?_)
                obtain ⟨pq332, oq332, hq332⟩ := q332
                obtain ⟨xq332, fq332_0, gq332, efq332_0, afq332_0, bfq332_0, uq332_0⟩ := wq332
                refine ⟨_, gq332, ?_⟩
                show gz gPP gGG gcn _ _ 147 [some (.ref m), some (.int (zi a)), some (.int (zi b)), some (.int (zi ov)), some (.int (zi bt)), some (.int (zi 2)), some (.int (zi jn200v0))] [] hq332 _
                have sq332 := gSs.tr sq323 xq332 (by decide)
                have s333 := (xq332.2.2.2.2.2 m 64 (by rw [tm]; decide)).trans s324
                have s334 := (xq332.2.2.2.2.2 m 62 (by rw [tm]; decide)).trans s325
                have s335 := (xq332.2.2.2.2.2 m 67 (by rw [tm]; decide)).trans s326
                have s336 := (xq332.2.2.2.2.2 m 68 (by rw [tm]; decide)).trans s327
                have pr337 := gEl.fr xq332.2 (by decide) (fun _ => rfl) pr328
                have pr338 := gEl.fr xq332.2 (by decide) (fun _ => rfl) pr329
                have pr339 := gOf.fr xq332.2 (by decide) pr330
                have pr340 := gO1.fr xq332.2 (by decide) pr331
                refine gz_s 2 (pc' := 149) (L' := [some (.ref m), some (.int (zi a)), some (.int (zi b)), some (.int (zi ov)), some (.int (zi bt)), some (.int (zi 2)), some (.int (zi jn200v0))]) (S' := [.int (zi 0), .ref m]) rfl ?_
                refine gz_call rfl (by decide) rfl (by decide) (by decide) (gcal_of rfl rfl rfl (Nat.le_of_ble_eq_true rfl) (gJ.recv (G := gGG) sq332.1 tm rfl rfl)) (mm_putByte _ sq332.1 m tm 0 (by omega) fq332_0 efq332_0 (by omega)) (fun q341 _ wq341 => ?_)
                obtain ⟨pq341, oq341, hq341⟩ := q341
                obtain ⟨xq341, fq341_0, gq341, efq341_0, afq341_0, bfq341_0, uq341_0⟩ := wq341
                refine ⟨_, gq341, ?_⟩
                show gz gPP gGG gcn _ _ 152 [some (.ref m), some (.int (zi a)), some (.int (zi b)), some (.int (zi ov)), some (.int (zi bt)), some (.int (zi 2)), some (.int (zi jn200v0))] [] hq341 _
                have sq341 := gSs.tr sq332 xq341 (by decide)
                have s342 := (xq341.2.2.2.2.2 m 64 (by rw [tm]; decide)).trans s333
                have s343 := (xq341.2.2.2.2.2 m 62 (by rw [tm]; decide)).trans s334
                have s344 := (xq341.2.2.2.2.2 m 67 (by rw [tm]; decide)).trans s335
                have s345 := (xq341.2.2.2.2.2 m 68 (by rw [tm]; decide)).trans s336
                have pr346 := gEl.fr xq341.2 (by decide) (fun _ => rfl) pr337
                have pr347 := gEl.fr xq341.2 (by decide) (fun _ => rfl) pr338
                have pr348 := gOf.fr xq341.2 (by decide) pr339
                have pr349 := gO1.fr xq341.2 (by decide) pr340
                refine gz_s 2 (pc' := 154) (L' := [some (.ref m), some (.int (zi a)), some (.int (zi b)), some (.int (zi ov)), some (.int (zi bt)), some (.int (zi 2)), some (.int (zi jn200v0))]) (S' := [.int (zi a), .ref m]) rfl ?_
                refine gz_call rfl (by decide) rfl (by decide) (by decide) (gcal_of rfl rfl rfl (Nat.le_of_ble_eq_true rfl) (gJ.recv (G := gGG) sq341.1 tm rfl rfl)) (mm_putByte _ sq341.1 m tm a (by omega) fq341_0 efq341_0 (by omega)) (fun q350 _ wq350 => ?_)
                obtain ⟨pq350, oq350, hq350⟩ := q350
                obtain ⟨xq350, fq350_0, gq350, efq350_0, afq350_0, bfq350_0, uq350_0⟩ := wq350
                refine ⟨_, gq350, ?_⟩
                show gz gPP gGG gcn _ _ 157 [some (.ref m), some (.int (zi a)), some (.int (zi b)), some (.int (zi ov)), some (.int (zi bt)), some (.int (zi 2)), some (.int (zi jn200v0))] [] hq350 _
                have sq350 := gSs.tr sq341 xq350 (by decide)
                have s351 := (xq350.2.2.2.2.2 m 64 (by rw [tm]; decide)).trans s342
                have s352 := (xq350.2.2.2.2.2 m 62 (by rw [tm]; decide)).trans s343
                have s353 := (xq350.2.2.2.2.2 m 67 (by rw [tm]; decide)).trans s344
                have s354 := (xq350.2.2.2.2.2 m 68 (by rw [tm]; decide)).trans s345
                have pr355 := gEl.fr xq350.2 (by decide) (fun _ => rfl) pr346
                have pr356 := gEl.fr xq350.2 (by decide) (fun _ => rfl) pr347
                have pr357 := gOf.fr xq350.2 (by decide) pr348
                have pr358 := gO1.fr xq350.2 (by decide) pr349
                refine gz_s 2 (pc' := 159) (L' := [some (.ref m), some (.int (zi a)), some (.int (zi b)), some (.int (zi ov)), some (.int (zi bt)), some (.int (zi 2)), some (.int (zi jn200v0))]) (S' := [.int (zi b), .ref m]) rfl ?_
                refine gz_call rfl (by decide) rfl (by decide) (by decide) (gcal_of rfl rfl rfl (Nat.le_of_ble_eq_true rfl) (gJ.recv (G := gGG) sq350.1 tm rfl rfl)) (mm_putByte _ sq350.1 m tm b (by omega) fq350_0 efq350_0 (by omega)) (fun q359 _ wq359 => ?_)
                obtain ⟨pq359, oq359, hq359⟩ := q359
                obtain ⟨xq359, fq359_0, gq359, efq359_0, afq359_0, bfq359_0, uq359_0⟩ := wq359
                refine ⟨_, gq359, ?_⟩
                show gz gPP gGG gcn _ _ 162 [some (.ref m), some (.int (zi a)), some (.int (zi b)), some (.int (zi ov)), some (.int (zi bt)), some (.int (zi 2)), some (.int (zi jn200v0))] [] hq359 _
                have sq359 := gSs.tr sq350 xq359 (by decide)
                have s360 := (xq359.2.2.2.2.2 m 64 (by rw [tm]; decide)).trans s351
                have s361 := (xq359.2.2.2.2.2 m 62 (by rw [tm]; decide)).trans s352
                have s362 := (xq359.2.2.2.2.2 m 67 (by rw [tm]; decide)).trans s353
                have s363 := (xq359.2.2.2.2.2 m 68 (by rw [tm]; decide)).trans s354
                have pr364 := gEl.fr xq359.2 (by decide) (fun _ => rfl) pr355
                have pr365 := gEl.fr xq359.2 (by decide) (fun _ => rfl) pr356
                have pr366 := gOf.fr xq359.2 (by decide) pr357
                have pr367 := gO1.fr xq359.2 (by decide) pr358
                refine gy_s 6 (pc' := 170) (L' := [some (.ref m), some (.int (zi a)), some (.int (zi b)), some (.int (zi ov)), some (.int (zi bt)), some (.int (zi 2)), some (.int (zi jn200v0))]) (S' := [.int (((zi 16) * (zi ov)) + (zi bt)), .ref m]) (L2 := [some (.ref m), some (.int (zi a)), some (.int (zi b)), some (.int (zi ov)), some (.int (zi bt)), some (.int (zi 2)), some (.int (zi jn200v0))]) (S2 := [.int (zi ((16 * ov) + bt)), .ref m]) rfl (by simp only [zi_add, zi_sub, zi_mul, zi_neg, zi_and1, zi_and7, zi_and15, zi_and31, zi_and255, Int.reduceAdd, Int.reduceMul, Int.reduceSub]) (by simp only [zi_add, zi_sub, zi_mul, zi_neg, zi_and1, zi_and7, zi_and15, zi_and31, zi_and255, Int.reduceAdd, Int.reduceMul, Int.reduceSub]) ?_
                refine gz_call rfl (by decide) rfl (by decide) (by decide) (gcal_of rfl rfl rfl (Nat.le_of_ble_eq_true rfl) (gJ.recv (G := gGG) sq359.1 tm rfl rfl)) (mm_putByte _ sq359.1 m tm ((16 * ov) + bt) (by omega) fq359_0 efq359_0 (by omega)) (fun q368 _ wq368 => ?_)
                obtain ⟨pq368, oq368, hq368⟩ := q368
                obtain ⟨xq368, fq368_0, gq368, efq368_0, afq368_0, bfq368_0, uq368_0⟩ := wq368
                refine ⟨_, gq368, ?_⟩
                show gz gPP gGG gcn _ _ 173 [some (.ref m), some (.int (zi a)), some (.int (zi b)), some (.int (zi ov)), some (.int (zi bt)), some (.int (zi 2)), some (.int (zi jn200v0))] [] hq368 _
                have sq368 := gSs.tr sq359 xq368 (by decide)
                have s369 := (xq368.2.2.2.2.2 m 64 (by rw [tm]; decide)).trans s360
                have s370 := (xq368.2.2.2.2.2 m 62 (by rw [tm]; decide)).trans s361
                have s371 := (xq368.2.2.2.2.2 m 67 (by rw [tm]; decide)).trans s362
                have s372 := (xq368.2.2.2.2.2 m 68 (by rw [tm]; decide)).trans s363
                have pr373 := gEl.fr xq368.2 (by decide) (fun _ => rfl) pr364
                have pr374 := gEl.fr xq368.2 (by decide) (fun _ => rfl) pr365
                have pr375 := gOf.fr xq368.2 (by decide) pr366
                have pr376 := gO1.fr xq368.2 (by decide) pr367
                refine gz_s 5 (pc' := 179) (L' := [some (.ref m), some (.int (zi a)), some (.int (zi b)), some (.int (zi ov)), some (.int (zi bt)), some (.int (zi 2)), some (.int (zi jn200v0))]) (S' := [.int (zi bt), .int (zi ov), .int (zi b), .int (zi a), .ref m]) rfl ?_
                refine gz_call rfl (by decide) rfl (by decide) (by decide) (gcal_of rfl rfl rfl (Nat.le_of_ble_eq_true rfl) (gJ.recv (G := gGG) sq368.1 tm rfl rfl)) (mm_putBlocks _ sq368.1 m tm a (by omega) b (by omega) ov (by omega) bt (by omega) fq368_0 efq368_0 (by omega) fq11_1 s370 (by omega) 1 s371 (by omega) z10 s369 (by omega) so284 (by omega) (by omega) (by omega) uq pr375) (fun q377 _ wq377 => ?_)
                obtain ⟨pq377, oq377, hq377⟩ := q377
                obtain ⟨xq377, fq377_0, fq377_1, xq377_0, gq377, efq377_0, afq377_0, bfq377_0, efq377_1, afq377_1, bfq377_1, axq377_0, bxq377_0, uq377_0, uq377_1, uq377_2, uq377_3, uq377_4, yq377_0⟩ := wq377
                refine ⟨_, gq377, ?_⟩
                show gz gPP gGG gcn _ _ 182 [some (.ref m), some (.int (zi a)), some (.int (zi b)), some (.int (zi ov)), some (.int (zi bt)), some (.int (zi 2)), some (.int (zi jn200v0))] [] hq377 _
                have sq377 := gSs.tr sq368 xq377 (by decide)
                have s378 := (xq377.2.2.2.2.2 m 64 (by rw [tm]; decide)).trans s369
                have s379 := (xq377.2.2.2.2.2 m 67 (by rw [tm]; decide)).trans s371
                have s380 := (xq377.2.2.2.2.2 m 68 (by rw [tm]; decide)).trans s372
                refine gz_s 1 (pc' := 183) (L' := [some (.ref m), some (.int (zi a)), some (.int (zi b)), some (.int (zi ov)), some (.int (zi bt)), some (.int (zi 2)), some (.int (zi jn200v0))]) (S' := [.ref m]) rfl ?_
                refine gz_call rfl (by decide) rfl (by decide) (by decide) (gcal_of rfl rfl rfl (Nat.le_of_ble_eq_true rfl) (gJ.recv (G := gGG) sq377.1 tm rfl rfl)) (mm_fillByte _ sq377.1 m tm fq377_0 efq377_0 (by omega) fq377_1 efq377_1 (by omega) 1 s379 (by omega) (by omega) (by omega)) (fun q381 _ wq381 => ?_)
                obtain ⟨pq381, oq381, hq381⟩ := q381
                obtain ⟨xq381, fq381_0, fq381_1, gq381, efq381_0, afq381_0, bfq381_0, efq381_1, afq381_1, bfq381_1, uq381_0, uq381_1, uq381_2⟩ := wq381
                refine ⟨_, gq381, ?_⟩
                show gz gPP gGG gcn _ _ 186 [some (.ref m), some (.int (zi a)), some (.int (zi b)), some (.int (zi ov)), some (.int (zi bt)), some (.int (zi 2)), some (.int (zi jn200v0))] [] hq381 _
                have sq381 := gSs.tr sq377 xq381 (by decide)
                have s382 := (xq381.2.2.2.2.2 m 64 (by rw [tm]; decide)).trans s378
                have s383 := (xq381.2.2.2.2.2 m 67 (by rw [tm]; decide)).trans s379
                have s384 := (xq381.2.2.2.2.2 m 68 (by rw [tm]; decide)).trans s380
                have pr385 := gOf.fr xq381.2 (by decide) yq377_0
                exact gz_end (I := .return_) (len := 1) rfl (Or.inl rfl) ⟨sq381, fq381_0, fq381_1, rfl, efq381_0, (by omega), (by omega), efq381_1, (by omega), (by omega), (by omega), (by omega)⟩
            by_cases hc386 : (b : Int) ≤ 0
            · refine gy_ifT (pc' := 82) rfl (by decide) (by decide) (by omega) hc386 ?_
              refine gz_s 1 (pc' := 83) (L' := [some (.ref m), some (.int (zi a)), some (.int (zi b)), some (.int (zi ov)), some (.int (zi bt)), some (.int (zi 1)), some (.int (zi jn19v0))]) (S' := [.int (zi 0)]) rfl ?_
              exact jn200 0 (by omega)
            · refine gy_ifF rfl (by decide) (by decide) (by omega) hc386 ?_
              refine gz_s 2 (pc' := 83) (L' := [some (.ref m), some (.int (zi a)), some (.int (zi b)), some (.int (zi ov)), some (.int (zi bt)), some (.int (zi 1)), some (.int (zi jn19v0))]) (S' := [.int (zi 1)]) rfl ?_
              exact jn200 1 (by omega)
        by_cases hc387 : ¬ (a : Int) = 0
        · refine gy_ifT (pc' := 70) rfl (by decide) (by decide) (by omega) hc387 ?_
          refine gz_s 2 (pc' := 83) (L' := [some (.ref m), some (.int (zi a)), some (.int (zi b)), some (.int (zi ov)), some (.int (zi bt)), some (.int (zi 0)), none]) (S' := [.int (zi 0)]) rfl ?_
          exact jn19 0 (by omega)
        · refine gy_ifF rfl (by decide) (by decide) (by omega) hc387 ?_
          refine gz_s 1 (pc' := 63) (L' := [some (.ref m), some (.int (zi a)), some (.int (zi b)), some (.int (zi ov)), some (.int (zi bt)), some (.int (zi 0)), none]) (S' := [.int (zi ov)]) rfl ?_
          by_cases hc388 : ¬ (ov : Int) = 0
          · refine gy_ifT (pc' := 70) rfl (by decide) (by decide) (by omega) hc388 ?_
            refine gz_s 2 (pc' := 83) (L' := [some (.ref m), some (.int (zi a)), some (.int (zi b)), some (.int (zi ov)), some (.int (zi bt)), some (.int (zi 0)), none]) (S' := [.int (zi 0)]) rfl ?_
            exact jn19 0 (by omega)
          · refine gy_ifF rfl (by decide) (by decide) (by omega) hc388 ?_
            refine gz_s 2 (pc' := 83) (L' := [some (.ref m), some (.int (zi a)), some (.int (zi b)), some (.int (zi ov)), some (.int (zi bt)), some (.int (zi 0)), none]) (S' := [.int (zi 1)]) rfl ?_
            exact jn19 1 (by omega)
      · refine gy_icF rfl (by decide) (by decide) (by omega) (by omega) hc5 ?_
        obtain ⟨f9, rf9, z9⟩ := lp1k2
        refine gz_s 1 (pc' := 12) (L' := [some (.ref m), some (.int (zi a)), some (.int (zi b)), some (.int (zi ov)), some (.int (zi bt)), some (.int (zi k)), none]) (S' := [.ref m]) rfl ?_
        refine gs_gtr rfl (by decide) rfl sh4.1 tm rfl rfl rfl (fun c389 ec389 tc389 => ?_)
        refine gz_s 2 (pc' := 18) (L' := [some (.ref m), some (.int (zi a)), some (.int (zi b)), some (.int (zi ov)), some (.int (zi bt)), some (.int (zi k)), none]) (S' := [.int (zi 0), .int (zi k), .ref c389]) rfl ?_
        have hl390 : 514 ≤ h4.2.2.2.1 c389 ∧ h4.2.2.2.1 c389 ≤ 514 := gJ.rowl (G := gGG) sh4.1 tc389 rfl
        refine gs_ast rfl (by decide) sh4 tc389 rfl rfl rfl (by decide) (fun _ => rfl) (by omega) (by omega) (fun _ => (by decide : (36999 : Nat) ∈ ([1059, 1061, 1062, 1067, 1074, 1075, 32999, 36999, 37999, 38999, 39999, 40999, 41999, 42999] : List Nat))) (by omega) (by omega) (fun h391 sh391 eh391 fh391 => ?_)
        have pr392 := gRow.put (i := k) (z := 0) uq tc389 (by decide) fh391 eh391 (by omega) (by omega) rf9
        have s393 := (fh391 m 59 (fun q => absurd (((tm).symm.trans (congrArg ty q.1)).trans tc389) (by decide))).trans lp1k0
        have s394 := (fh391 m 62 (fun q => absurd (((tm).symm.trans (congrArg ty q.1)).trans tc389) (by decide))).trans lp1k1
        have s395 := (fh391 m 68 (fun q => absurd (((tm).symm.trans (congrArg ty q.1)).trans tc389) (by decide))).trans ec389
        have pr396 := gEl.set (i := k) (z := 0) uq tc389 (by decide) eh391 (by omega) (by omega)
        have hoz397 : gOz ty 36 0 (k + 1) h391 := gOz.step (by omega) pr392 z9
        refine gy_s 2 (pc' := 3) (L' := [some (.ref m), some (.int (zi a)), some (.int (zi b)), some (.int (zi ov)), some (.int (zi bt)), some (.int ((zi k) + zi 1)), none]) (S' := []) (L2 := [some (.ref m), some (.int (zi a)), some (.int (zi b)), some (.int (zi ov)), some (.int (zi bt)), some (.int (zi (k + 1))), none]) (S2 := []) rfl (by simp only [zi_add, zi_sub, zi_mul, zi_neg, zi_and1, zi_and7, zi_and15, zi_and31, zi_and255, Int.reduceAdd, Int.reduceMul, Int.reduceSub]) (by simp only [zi_add, zi_sub, zi_mul, zi_neg, zi_and1, zi_and7, zi_and15, zi_and31, zi_and255, Int.reduceAdd, Int.reduceMul, Int.reduceSub]) ?_
        exact gz_wk (ihlp1 h391 (k + 1) (by omega) sh391 (by omega) s393 s394 hoz397) (gLw.s (gLw.s (gLw.s (gLw.s (gLw.s (gLw.s (gLw.n gLw.z)))))))
  exact gz_wk (lp1 _ h 0 (Nat.lt_succ_self _) hS (by omega) ew0 eb0 hoz3) (gLw.s (gLw.s (gLw.s (gLw.s (gLw.s (gLw.s (gLw.n gLw.z)))))))
set_option maxRecDepth 20000 in
set_option maxHeartbeats 4000000 in
theorem mm_encode (d : Nat) {ty : Nat → Nat} {h : gH} (hJ : gJ rT 1027 ty h) (m : Nat) (tm : ty m = 1) (q : Int) (rq : (-2147483648) ≤ q ∧ q ≤ 2147483647) (n0 : Int) (en0 : h.2.2.2.2 m 53 = .int (zi n0)) (rn0 : 0 ≤ n0 ∧ n0 ≤ 10) (cw : Int) (ecw : h.2.2.2.2 m 50 = .int (zi cw)) (rcw : 0 ≤ cw ∧ cw ≤ 32) (ch : Int) (ech : h.2.2.2.2 m 51 = .int (zi ch)) (rch : 0 ≤ ch ∧ ch ≤ 32) (pp0 : cw = 0 ↔ ch = 0) (uq : gUq ty) (hyts : gTs ty n0 h) : gz gPP gGG gcn (d + 6) gt183 0 (gent [.ref m, .int (zi q)] 5) [] h (fun q _ => gSs rT 1027 ty [1000, 1053, 1059, 1061, 1062, 1064, 1067, 1074, 1075, 31999, 32999, 33999, 34999, 36999, 37999, 38999, 39999, 40999, 41999, 42999] h q.2.2 ∧ ∃ z n1 : Int, gfin gt183 q.1 q.2.1 = some (some (.int (zi z))) ∧ 0 ≤ z ∧ z ≤ 60000 ∧ q.2.2.2.2.2.2 m 53 = .int (zi n1) ∧ 0 ≤ n1 ∧ n1 ≤ 10 ∧ (gTs ty n1 q.2.2)) := by
  have hS : gSs rT 1027 ty [1000, 1053, 1059, 1061, 1062, 1064, 1067, 1074, 1075, 31999, 32999, 33999, 34999, 36999, 37999, 38999, 39999, 40999, 41999, 42999] h h := gSs.rf hJ
  refine gz_s 3 (pc' := 3) (L' := [some (.ref m), some (.int (zi q)), none, none, none]) (S' := [.int (zi 1), .int (zi q), .ref m]) rfl ?_
  have jn1 : ∀ (jn1v0 : Int), ((0 ≤ jn1v0) ∧ (jn1v0 ≤ 2) ∧ (jn1v0 = 0 → (1 ≤ q ∧ q ≤ 100 ∧ ¬ cw = 0))) → gz gPP gGG gcn (d + 6) gt183 28 [some (.ref m), some (.int (zi q)), none, none, none] [.int (zi jn1v0), .ref m] h (fun q _ => gSs rT 1027 ty [1000, 1053, 1059, 1061, 1062, 1064, 1067, 1074, 1075, 31999, 32999, 33999, 34999, 36999, 37999, 38999, 39999, 40999, 41999, 42999] h q.2.2 ∧ ∃ z n1 : Int, gfin gt183 q.1 q.2.1 = some (some (.int (zi z))) ∧ 0 ≤ z ∧ z ≤ 60000 ∧ q.2.2.2.2.2.2 m 53 = .int (zi n1) ∧ 0 ≤ n1 ∧ n1 ≤ 10 ∧ (gTs ty n1 q.2.2)) := by
    intro jn1v0 jn1d
    refine gs_put rfl (by decide) rfl hS tm rfl rfl rfl rfl (Or.inl rfl) (by decide) (by omega) (by omega) (fun h2 sh2 eh2 fh2 => ?_)
    have pr3 := gTs.pt fh2 tm (by decide) hyts
    have s4 := (fh2 m 53 (fun q => absurd q.2 (by decide))).trans en0
    have s5 := (fh2 m 50 (fun q => absurd q.2 (by decide))).trans ecw
    have s6 := (fh2 m 51 (fun q => absurd q.2 (by decide))).trans ech
    refine gz_s 1 (pc' := 32) (L' := [some (.ref m), some (.int (zi q)), none, none, none]) (S' := [.ref m]) rfl ?_
    refine gs_gtk rfl (by decide) rfl sh2.1 tm rfl rfl eh2 ?_
    by_cases hc7 : (jn1v0 : Int) ≤ 0
    · refine gy_ifT (pc' := 40) rfl (by decide) (by decide) (by omega) hc7 ?_
      refine gz_s 2 (pc' := 43) (L' := [some (.ref m), some (.int (zi q)), none, none, none]) (S' := [.int (zi 50), .int (zi q)]) rfl ?_
      have jn8 : ∀ (jn8v0 : Int), ((0 ≤ jn8v0) ∧ (jn8v0 ≤ 5000)) → gz gPP gGG gcn (d + 6) gt183 61 [some (.ref m), some (.int (zi q)), none, none, none] [.int (zi jn8v0)] h2 (fun q _ => gSs rT 1027 ty [1000, 1053, 1059, 1061, 1062, 1064, 1067, 1074, 1075, 31999, 32999, 33999, 34999, 36999, 37999, 38999, 39999, 40999, 41999, 42999] h q.2.2 ∧ ∃ z n1 : Int, gfin gt183 q.1 q.2.1 = some (some (.int (zi z))) ∧ 0 ≤ z ∧ z ≤ 60000 ∧ q.2.2.2.2.2.2 m 53 = .int (zi n1) ∧ 0 ≤ n1 ∧ n1 ≤ 10 ∧ (gTs ty n1 q.2.2)) := by
        intro jn8v0 jn8d
        refine gz_s 3 (pc' := 64) (L' := [some (.ref m), some (.int (zi q)), some (.int (zi jn8v0)), some (.int (zi 0)), none]) (S' := []) rfl ?_
        have lp9 : ∀ (fu : Nat) (h10 : gH) (k : Int), (65 - k).toNat < fu → gSs rT 1027 ty [1000, 1053, 1059, 1061, 1062, 1064, 1067, 1074, 1075, 31999, 32999, 33999, 34999, 36999, 37999, 38999, 39999, 40999, 41999, 42999] h h10 → (0 ≤ k ∧ k ≤ 64) → h10.2.2.2.2 m 53 = .int (zi n0) → h10.2.2.2.2 m 50 = .int (zi cw) → h10.2.2.2.2 m 51 = .int (zi ch) → h10.2.2.2.2 m 0 = .int (zi jn1v0) → gTs ty n0 h10 → gOt ty k h10 → gz gPP gGG gcn (d + 6) gt183 64 [some (.ref m), some (.int (zi q)), some (.int (zi jn8v0)), some (.int (zi k)), none] [] h10 (fun q _ => gSs rT 1027 ty [1000, 1053, 1059, 1061, 1062, 1064, 1067, 1074, 1075, 31999, 32999, 33999, 34999, 36999, 37999, 38999, 39999, 40999, 41999, 42999] h q.2.2 ∧ ∃ z n1 : Int, gfin gt183 q.1 q.2.1 = some (some (.int (zi z))) ∧ 0 ≤ z ∧ z ≤ 60000 ∧ q.2.2.2.2.2.2 m 53 = .int (zi n1) ∧ 0 ≤ n1 ∧ n1 ≤ 10 ∧ (gTs ty n1 q.2.2)) := by
          intro fu
          induction fu with
          | zero => intro h10 k hm; exact absurd hm (Nat.not_lt_zero _)
          | succ fu ihlp9 =>
            intro h10 k lp9m sh10 lp9f0 lp9k0 lp9k1 lp9k2 lp9k3 lp9k4 lp9k5
            refine gz_s 2 (pc' := 67) (L' := [some (.ref m), some (.int (zi q)), some (.int (zi jn8v0)), some (.int (zi k)), none]) (S' := [.int (zi 64), .int (zi k)]) rfl ?_
            by_cases hc11 : (64 : Int) ≤ k
            · refine gy_icT (pc' := 124) rfl (by decide) (by decide) (by omega) (by omega) hc11 ?_
              have hot64 : gOt ty 64 h10 := by have e9 := lp9k5; rwa [(by omega : k = 64)] at e9
              refine gz_s 1 (pc' := 125) (L' := [some (.ref m), some (.int (zi q)), some (.int (zi jn8v0)), some (.int (zi k)), none]) (S' := [.ref m]) rfl ?_
              refine gz_call rfl (by decide) rfl (by decide) (by decide) (gcal_of rfl rfl rfl (Nat.le_of_ble_eq_true rfl) (gJ.recv (G := gGG) sh10.1 tm rfl rfl)) (mm_transform _ sh10.1 m tm cw lp9k1 (by omega) ch lp9k2 (by omega) hot64) (fun q12 _ wq12 => ?_)
              obtain ⟨pq12, oq12, hq12⟩ := q12
              obtain ⟨xq12, gq12⟩ := wq12
              refine ⟨_, gq12, ?_⟩
              show gz gPP gGG gcn _ _ 128 [some (.ref m), some (.int (zi q)), some (.int (zi jn8v0)), some (.int (zi k)), none] [] hq12 _
              have sq12 := gSs.tr sh10 xq12 (by decide)
              have s13 := (xq12.2.2.2.2.2 m 53 (by rw [tm]; decide)).trans lp9k0
              have s14 := (xq12.2.2.2.2.2 m 50 (by rw [tm]; decide)).trans lp9k1
              have s15 := (xq12.2.2.2.2.2 m 51 (by rw [tm]; decide)).trans lp9k2
              have s16 := (xq12.2.2.2.2.2 m 0 (by rw [tm]; decide)).trans lp9k3
              have pr17 := gTs.fr xq12.2 (by decide) lp9k4
              have pr18 := gOt.fr xq12.2 (by decide) hot64
              refine gz_s 2 (pc' := 130) (L' := [some (.ref m), some (.int (zi q)), some (.int (zi jn8v0)), some (.int (zi k)), none]) (S' := [.int (zi 0), .ref m]) rfl ?_
              refine gs_put rfl (by decide) rfl sq12 tm rfl rfl rfl rfl (Or.inl rfl) (by decide) (by omega) (by omega) (fun h19 sh19 eh19 fh19 => ?_)
              have pr20 := gTs.pt fh19 tm (by decide) pr17
              have pr21 := gOt.pt fh19 tm (by decide) pr18
              have s22 := (fh19 m 53 (fun q => absurd q.2 (by decide))).trans s13
              have s23 := (fh19 m 50 (fun q => absurd q.2 (by decide))).trans s14
              have s24 := (fh19 m 51 (fun q => absurd q.2 (by decide))).trans s15
              have s25 := (fh19 m 0 (fun q => absurd q.2 (by decide))).trans s16
              refine gz_s 2 (pc' := 135) (L' := [some (.ref m), some (.int (zi q)), some (.int (zi jn8v0)), some (.int (zi k)), none]) (S' := [.int (zi 0), .ref m]) rfl ?_
              refine gs_put rfl (by decide) rfl sh19 tm rfl rfl rfl rfl (Or.inl rfl) (by decide) (by omega) (by omega) (fun h26 sh26 eh26 fh26 => ?_)
              have pr27 := gTs.pt fh26 tm (by decide) pr20
              have pr28 := gOt.pt fh26 tm (by decide) pr21
              have s29 := (fh26 m 53 (fun q => absurd q.2 (by decide))).trans s22
              have s30 := (fh26 m 50 (fun q => absurd q.2 (by decide))).trans s23
              have s31 := (fh26 m 51 (fun q => absurd q.2 (by decide))).trans s24
              have s32 := (fh26 m 0 (fun q => absurd q.2 (by decide))).trans s25
              have s33 := (fh26 m 59 (fun q => absurd q.2 (by decide))).trans eh19
              refine gz_s 2 (pc' := 140) (L' := [some (.ref m), some (.int (zi q)), some (.int (zi jn8v0)), some (.int (zi k)), none]) (S' := [.int (zi 0), .ref m]) rfl ?_
              refine gs_put rfl (by decide) rfl sh26 tm rfl rfl rfl rfl (Or.inl rfl) (by decide) (by omega) (by omega) (fun h34 sh34 eh34 fh34 => ?_)
              have pr35 := gTs.pt fh34 tm (by decide) pr27
              have pr36 := gOt.pt fh34 tm (by decide) pr28
              have s37 := (fh34 m 53 (fun q => absurd q.2 (by decide))).trans s29
              have s38 := (fh34 m 50 (fun q => absurd q.2 (by decide))).trans s30
              have s39 := (fh34 m 51 (fun q => absurd q.2 (by decide))).trans s31
              have s40 := (fh34 m 0 (fun q => absurd q.2 (by decide))).trans s32
              have s41 := (fh34 m 59 (fun q => absurd q.2 (by decide))).trans s33
              have s42 := (fh34 m 61 (fun q => absurd q.2 (by decide))).trans eh26
              refine gz_s 2 (pc' := 147) (L' := [some (.ref m), some (.int (zi q)), some (.int (zi jn8v0)), some (.int (zi k)), none]) (S' := [.int (zi 216), .ref m]) rfl ?_
              refine gz_call rfl (by decide) rfl (by decide) (by decide) (gcal_of rfl rfl rfl (Nat.le_of_ble_eq_true rfl) (gJ.recv (G := gGG) sh34.1 tm rfl rfl)) (mm_putMarker _ sh34.1 m tm 216 (by omega) 0 s41 (by omega)) (fun q43 _ wq43 => ?_)
              obtain ⟨pq43, oq43, hq43⟩ := q43
              obtain ⟨xq43, fq43_0, gq43, efq43_0, afq43_0, bfq43_0, uq43_0⟩ := wq43
              refine ⟨_, gq43, ?_⟩
              show gz gPP gGG gcn _ _ 150 [some (.ref m), some (.int (zi q)), some (.int (zi jn8v0)), some (.int (zi k)), none] [] hq43 _
              have sq43 := gSs.tr sh34 xq43 (by decide)
              have s44 := (xq43.2.2.2.2.2 m 53 (by rw [tm]; decide)).trans s37
              have s45 := (xq43.2.2.2.2.2 m 50 (by rw [tm]; decide)).trans s38
              have s46 := (xq43.2.2.2.2.2 m 51 (by rw [tm]; decide)).trans s39
              have s47 := (xq43.2.2.2.2.2 m 0 (by rw [tm]; decide)).trans s40
              have s48 := (xq43.2.2.2.2.2 m 61 (by rw [tm]; decide)).trans s42
              have s49 := (xq43.2.2.2.2.2 m 62 (by rw [tm]; decide)).trans eh34
              have pr50 := gTs.fr xq43.2 (by decide) pr35
              have pr51 := gOt.fr xq43.2 (by decide) pr36
              refine gz_s 2 (pc' := 154) (L' := [some (.ref m), some (.int (zi q)), some (.int (zi jn8v0)), some (.int (zi k)), none]) (S' := [.int (zi 219), .ref m]) rfl ?_
              refine gz_call rfl (by decide) rfl (by decide) (by decide) (gcal_of rfl rfl rfl (Nat.le_of_ble_eq_true rfl) (gJ.recv (G := gGG) sq43.1 tm rfl rfl)) (mm_putMarker _ sq43.1 m tm 219 (by omega) fq43_0 efq43_0 (by omega)) (fun q52 _ wq52 => ?_)
              obtain ⟨pq52, oq52, hq52⟩ := q52
              obtain ⟨xq52, fq52_0, gq52, efq52_0, afq52_0, bfq52_0, uq52_0⟩ := wq52
              refine ⟨_, gq52, ?_⟩
              show gz gPP gGG gcn _ _ 157 [some (.ref m), some (.int (zi q)), some (.int (zi jn8v0)), some (.int (zi k)), none] [] hq52 _
              have sq52 := gSs.tr sq43 xq52 (by decide)
              have s53 := (xq52.2.2.2.2.2 m 53 (by rw [tm]; decide)).trans s44
              have s54 := (xq52.2.2.2.2.2 m 50 (by rw [tm]; decide)).trans s45
              have s55 := (xq52.2.2.2.2.2 m 51 (by rw [tm]; decide)).trans s46
              have s56 := (xq52.2.2.2.2.2 m 0 (by rw [tm]; decide)).trans s47
              have s57 := (xq52.2.2.2.2.2 m 61 (by rw [tm]; decide)).trans s48
              have s58 := (xq52.2.2.2.2.2 m 62 (by rw [tm]; decide)).trans s49
              have pr59 := gTs.fr xq52.2 (by decide) pr50
              have pr60 := gOt.fr xq52.2 (by decide) pr51
              refine gz_s 2 (pc' := 160) (L' := [some (.ref m), some (.int (zi q)), some (.int (zi jn8v0)), some (.int (zi k)), none]) (S' := [.int (zi 67), .ref m]) rfl ?_
              refine gz_call rfl (by decide) rfl (by decide) (by decide) (gcal_of rfl rfl rfl (Nat.le_of_ble_eq_true rfl) (gJ.recv (G := gGG) sq52.1 tm rfl rfl)) (mm_putTwo _ sq52.1 m tm 67 (by omega) fq52_0 efq52_0 (by omega)) (fun q61 _ wq61 => ?_)
              obtain ⟨pq61, oq61, hq61⟩ := q61
              obtain ⟨xq61, fq61_0, gq61, efq61_0, afq61_0, bfq61_0, uq61_0⟩ := wq61
              refine ⟨_, gq61, ?_⟩
              show gz gPP gGG gcn _ _ 163 [some (.ref m), some (.int (zi q)), some (.int (zi jn8v0)), some (.int (zi k)), none] [] hq61 _
              have sq61 := gSs.tr sq52 xq61 (by decide)
              have s62 := (xq61.2.2.2.2.2 m 53 (by rw [tm]; decide)).trans s53
              have s63 := (xq61.2.2.2.2.2 m 50 (by rw [tm]; decide)).trans s54
              have s64 := (xq61.2.2.2.2.2 m 51 (by rw [tm]; decide)).trans s55
              have s65 := (xq61.2.2.2.2.2 m 0 (by rw [tm]; decide)).trans s56
              have s66 := (xq61.2.2.2.2.2 m 61 (by rw [tm]; decide)).trans s57
              have s67 := (xq61.2.2.2.2.2 m 62 (by rw [tm]; decide)).trans s58
              have pr68 := gTs.fr xq61.2 (by decide) pr59
              have pr69 := gOt.fr xq61.2 (by decide) pr60
              refine gz_s 2 (pc' := 165) (L' := [some (.ref m), some (.int (zi q)), some (.int (zi jn8v0)), some (.int (zi k)), none]) (S' := [.int (zi 0), .ref m]) rfl ?_
              refine gz_call rfl (by decide) rfl (by decide) (by decide) (gcal_of rfl rfl rfl (Nat.le_of_ble_eq_true rfl) (gJ.recv (G := gGG) sq61.1 tm rfl rfl)) (mm_putByte _ sq61.1 m tm 0 (by omega) fq61_0 efq61_0 (by omega)) (fun q70 _ wq70 => ?_)
              obtain ⟨pq70, oq70, hq70⟩ := q70
              obtain ⟨xq70, fq70_0, gq70, efq70_0, afq70_0, bfq70_0, uq70_0⟩ := wq70
              refine ⟨_, gq70, ?_⟩
              show gz gPP gGG gcn _ _ 168 [some (.ref m), some (.int (zi q)), some (.int (zi jn8v0)), some (.int (zi k)), none] [] hq70 _
              have sq70 := gSs.tr sq61 xq70 (by decide)
              have s71 := (xq70.2.2.2.2.2 m 53 (by rw [tm]; decide)).trans s62
              have s72 := (xq70.2.2.2.2.2 m 50 (by rw [tm]; decide)).trans s63
              have s73 := (xq70.2.2.2.2.2 m 51 (by rw [tm]; decide)).trans s64
              have s74 := (xq70.2.2.2.2.2 m 0 (by rw [tm]; decide)).trans s65
              have s75 := (xq70.2.2.2.2.2 m 61 (by rw [tm]; decide)).trans s66
              have s76 := (xq70.2.2.2.2.2 m 62 (by rw [tm]; decide)).trans s67
              have pr77 := gTs.fr xq70.2 (by decide) pr68
              have pr78 := gOt.fr xq70.2 (by decide) pr69
              refine gz_s 2 (pc' := 170) (L' := [some (.ref m), some (.int (zi q)), some (.int (zi jn8v0)), some (.int (zi 0)), none]) (S' := []) rfl ?_
              have lp79 : ∀ (fu : Nat) (h80 : gH) (k1 : Int) (wa : Int), (65 - k1).toNat < fu → gSs rT 1027 ty [1000, 1053, 1059, 1061, 1062, 1064, 1067, 1074, 1075, 31999, 32999, 33999, 34999, 36999, 37999, 38999, 39999, 40999, 41999, 42999] h h80 → (0 ≤ k1 ∧ k1 ≤ 64) → (0 ≤ wa ∧ wa ≤ 60000) → (wa = 7 + k1) → h80.2.2.2.2 m 53 = .int (zi n0) → h80.2.2.2.2 m 50 = .int (zi cw) → h80.2.2.2.2 m 51 = .int (zi ch) → h80.2.2.2.2 m 0 = .int (zi jn1v0) → h80.2.2.2.2 m 61 = .int (zi 0) → h80.2.2.2.2 m 62 = .int (zi 0) → h80.2.2.2.2 m 59 = .int (zi wa) → gTs ty n0 h80 → gOt ty 64 h80 → gz gPP gGG gcn (d + 6) gt183 170 [some (.ref m), some (.int (zi q)), some (.int (zi jn8v0)), some (.int (zi k1)), none] [] h80 (fun q _ => gSs rT 1027 ty [1000, 1053, 1059, 1061, 1062, 1064, 1067, 1074, 1075, 31999, 32999, 33999, 34999, 36999, 37999, 38999, 39999, 40999, 41999, 42999] h q.2.2 ∧ ∃ z n1 : Int, gfin gt183 q.1 q.2.1 = some (some (.int (zi z))) ∧ 0 ≤ z ∧ z ≤ 60000 ∧ q.2.2.2.2.2.2 m 53 = .int (zi n1) ∧ 0 ≤ n1 ∧ n1 ≤ 10 ∧ (gTs ty n1 q.2.2)) := by
                intro fu
                induction fu with
                | zero => intro h80 k1 wa hm; exact absurd hm (Nat.not_lt_zero _)
                | succ fu ihlp79 =>
                  intro h80 k1 wa lp79m sh80 lp79f0 lp79f1 lp79f2 lp79k0 lp79k1 lp79k2 lp79k3 lp79k4 lp79k5 lp79k6 lp79k7 lp79k8
                  refine gz_s 2 (pc' := 173) (L' := [some (.ref m), some (.int (zi q)), some (.int (zi jn8v0)), some (.int (zi k1)), none]) (S' := [.int (zi 64), .int (zi k1)]) rfl ?_
                  by_cases hc81 : (64 : Int) ≤ k1
                  · refine gy_icT (pc' := 192) rfl (by decide) (by decide) (by omega) (by omega) hc81 ?_
                    refine gz_s 2 (pc' := 194) (L' := [some (.ref m), some (.int (zi q)), some (.int (zi jn8v0)), some (.int (zi k1)), none]) (S' := [.ref m, .ref m]) rfl ?_
                    refine gs_gtk rfl (by decide) rfl sh80.1 tm rfl rfl lp79k0 ?_
                    have jn82 : ∀ (jn82v0 : Int), ((0 ≤ jn82v0) ∧ (jn82v0 ≤ 255)) → gz gPP gGG gcn (d + 6) gt183 209 [some (.ref m), some (.int (zi q)), some (.int (zi jn8v0)), some (.int (zi k1)), none] [.int (zi jn82v0), .ref m] h80 (fun q _ => gSs rT 1027 ty [1000, 1053, 1059, 1061, 1062, 1064, 1067, 1074, 1075, 31999, 32999, 33999, 34999, 36999, 37999, 38999, 39999, 40999, 41999, 42999] h q.2.2 ∧ ∃ z n1 : Int, gfin gt183 q.1 q.2.1 = some (some (.int (zi z))) ∧ 0 ≤ z ∧ z ≤ 60000 ∧ q.2.2.2.2.2.2 m 53 = .int (zi n1) ∧ 0 ≤ n1 ∧ n1 ≤ 10 ∧ (gTs ty n1 q.2.2)) := by
                      intro jn82v0 jn82d
                      refine gz_call rfl (by decide) rfl (by decide) (by decide) (gcal_of rfl rfl rfl (Nat.le_of_ble_eq_true rfl) (gJ.recv (G := gGG) sh80.1 tm rfl rfl)) (mm_putMarker _ sh80.1 m tm jn82v0 (by omega) wa lp79k6 (by omega)) (fun q83 _ wq83 => ?_)
                      obtain ⟨pq83, oq83, hq83⟩ := q83
                      obtain ⟨xq83, fq83_0, gq83, efq83_0, afq83_0, bfq83_0, uq83_0⟩ := wq83
                      refine ⟨_, gq83, ?_⟩
                      show gz gPP gGG gcn _ _ 212 [some (.ref m), some (.int (zi q)), some (.int (zi jn8v0)), some (.int (zi k1)), none] [] hq83 _
                      have sq83 := gSs.tr sh80 xq83 (by decide)
                      have s84 := (xq83.2.2.2.2.2 m 53 (by rw [tm]; decide)).trans lp79k0
                      have s85 := (xq83.2.2.2.2.2 m 50 (by rw [tm]; decide)).trans lp79k1
                      have s86 := (xq83.2.2.2.2.2 m 51 (by rw [tm]; decide)).trans lp79k2
                      have s87 := (xq83.2.2.2.2.2 m 0 (by rw [tm]; decide)).trans lp79k3
                      have s88 := (xq83.2.2.2.2.2 m 61 (by rw [tm]; decide)).trans lp79k4
                      have s89 := (xq83.2.2.2.2.2 m 62 (by rw [tm]; decide)).trans lp79k5
                      have pr90 := gTs.fr xq83.2 (by decide) lp79k7
                      have pr91 := gOt.fr xq83.2 (by decide) lp79k8
                      refine gz_s 2 (pc' := 215) (L' := [some (.ref m), some (.int (zi q)), some (.int (zi jn8v0)), some (.int (zi k1)), none]) (S' := [.int (zi 11), .ref m]) rfl ?_
                      refine gz_call rfl (by decide) rfl (by decide) (by decide) (gcal_of rfl rfl rfl (Nat.le_of_ble_eq_true rfl) (gJ.recv (G := gGG) sq83.1 tm rfl rfl)) (mm_putTwo _ sq83.1 m tm 11 (by omega) fq83_0 efq83_0 (by omega)) (fun q92 _ wq92 => ?_)
                      obtain ⟨pq92, oq92, hq92⟩ := q92
                      obtain ⟨xq92, fq92_0, gq92, efq92_0, afq92_0, bfq92_0, uq92_0⟩ := wq92
                      refine ⟨_, gq92, ?_⟩
                      show gz gPP gGG gcn _ _ 218 [some (.ref m), some (.int (zi q)), some (.int (zi jn8v0)), some (.int (zi k1)), none] [] hq92 _
                      have sq92 := gSs.tr sq83 xq92 (by decide)
                      have s93 := (xq92.2.2.2.2.2 m 53 (by rw [tm]; decide)).trans s84
                      have s94 := (xq92.2.2.2.2.2 m 50 (by rw [tm]; decide)).trans s85
                      have s95 := (xq92.2.2.2.2.2 m 51 (by rw [tm]; decide)).trans s86
                      have s96 := (xq92.2.2.2.2.2 m 0 (by rw [tm]; decide)).trans s87
                      have s97 := (xq92.2.2.2.2.2 m 61 (by rw [tm]; decide)).trans s88
                      have s98 := (xq92.2.2.2.2.2 m 62 (by rw [tm]; decide)).trans s89
                      have pr99 := gTs.fr xq92.2 (by decide) pr90
                      have pr100 := gOt.fr xq92.2 (by decide) pr91
                      refine gz_s 2 (pc' := 221) (L' := [some (.ref m), some (.int (zi q)), some (.int (zi jn8v0)), some (.int (zi k1)), none]) (S' := [.int (zi 8), .ref m]) rfl ?_
                      refine gz_call rfl (by decide) rfl (by decide) (by decide) (gcal_of rfl rfl rfl (Nat.le_of_ble_eq_true rfl) (gJ.recv (G := gGG) sq92.1 tm rfl rfl)) (mm_putByte _ sq92.1 m tm 8 (by omega) fq92_0 efq92_0 (by omega)) (fun q101 _ wq101 => ?_)
                      obtain ⟨pq101, oq101, hq101⟩ := q101
                      obtain ⟨xq101, fq101_0, gq101, efq101_0, afq101_0, bfq101_0, uq101_0⟩ := wq101
                      refine ⟨_, gq101, ?_⟩
                      show gz gPP gGG gcn _ _ 224 [some (.ref m), some (.int (zi q)), some (.int (zi jn8v0)), some (.int (zi k1)), none] [] hq101 _
                      have sq101 := gSs.tr sq92 xq101 (by decide)
                      have s102 := (xq101.2.2.2.2.2 m 53 (by rw [tm]; decide)).trans s93
                      have s103 := (xq101.2.2.2.2.2 m 50 (by rw [tm]; decide)).trans s94
                      have s104 := (xq101.2.2.2.2.2 m 51 (by rw [tm]; decide)).trans s95
                      have s105 := (xq101.2.2.2.2.2 m 0 (by rw [tm]; decide)).trans s96
                      have s106 := (xq101.2.2.2.2.2 m 61 (by rw [tm]; decide)).trans s97
                      have s107 := (xq101.2.2.2.2.2 m 62 (by rw [tm]; decide)).trans s98
                      have pr108 := gTs.fr xq101.2 (by decide) pr99
                      have pr109 := gOt.fr xq101.2 (by decide) pr100
                      refine gz_s 2 (pc' := 226) (L' := [some (.ref m), some (.int (zi q)), some (.int (zi jn8v0)), some (.int (zi k1)), none]) (S' := [.ref m, .ref m]) rfl ?_
                      refine gs_gtk rfl (by decide) rfl sq101.1 tm rfl rfl s104 ?_
                      refine gz_call rfl (by decide) rfl (by decide) (by decide) (gcal_of rfl rfl rfl (Nat.le_of_ble_eq_true rfl) (gJ.recv (G := gGG) sq101.1 tm rfl rfl)) (mm_putTwo _ sq101.1 m tm ch (by omega) fq101_0 efq101_0 (by omega)) (fun q110 _ wq110 => ?_)
                      obtain ⟨pq110, oq110, hq110⟩ := q110
                      obtain ⟨xq110, fq110_0, gq110, efq110_0, afq110_0, bfq110_0, uq110_0⟩ := wq110
                      refine ⟨_, gq110, ?_⟩
                      show gz gPP gGG gcn _ _ 232 [some (.ref m), some (.int (zi q)), some (.int (zi jn8v0)), some (.int (zi k1)), none] [] hq110 _
                      have sq110 := gSs.tr sq101 xq110 (by decide)
                      have s111 := (xq110.2.2.2.2.2 m 53 (by rw [tm]; decide)).trans s102
                      have s112 := (xq110.2.2.2.2.2 m 50 (by rw [tm]; decide)).trans s103
                      have s113 := (xq110.2.2.2.2.2 m 51 (by rw [tm]; decide)).trans s104
                      have s114 := (xq110.2.2.2.2.2 m 0 (by rw [tm]; decide)).trans s105
                      have s115 := (xq110.2.2.2.2.2 m 61 (by rw [tm]; decide)).trans s106
                      have s116 := (xq110.2.2.2.2.2 m 62 (by rw [tm]; decide)).trans s107
                      have pr117 := gTs.fr xq110.2 (by decide) pr108
                      have pr118 := gOt.fr xq110.2 (by decide) pr109
                      refine gz_s 2 (pc' := 234) (L' := [some (.ref m), some (.int (zi q)), some (.int (zi jn8v0)), some (.int (zi k1)), none]) (S' := [.ref m, .ref m]) rfl ?_
                      refine gs_gtk rfl (by decide) rfl sq110.1 tm rfl rfl s112 ?_
                      refine gz_call rfl (by decide) rfl (by decide) (by decide) (gcal_of rfl rfl rfl (Nat.le_of_ble_eq_true rfl) (gJ.recv (G := gGG) sq110.1 tm rfl rfl)) (mm_putTwo _ sq110.1 m tm cw (by omega) fq110_0 efq110_0 (by omega)) (fun q119 _ wq119 => ?_)
                      obtain ⟨pq119, oq119, hq119⟩ := q119
                      obtain ⟨xq119, fq119_0, gq119, efq119_0, afq119_0, bfq119_0, uq119_0⟩ := wq119
                      refine ⟨_, gq119, ?_⟩
                      show gz gPP gGG gcn _ _ 240 [some (.ref m), some (.int (zi q)), some (.int (zi jn8v0)), some (.int (zi k1)), none] [] hq119 _
                      have sq119 := gSs.tr sq110 xq119 (by decide)
                      have s120 := (xq119.2.2.2.2.2 m 53 (by rw [tm]; decide)).trans s111
                      have s121 := (xq119.2.2.2.2.2 m 50 (by rw [tm]; decide)).trans s112
                      have s122 := (xq119.2.2.2.2.2 m 51 (by rw [tm]; decide)).trans s113
                      have s123 := (xq119.2.2.2.2.2 m 0 (by rw [tm]; decide)).trans s114
                      have s124 := (xq119.2.2.2.2.2 m 61 (by rw [tm]; decide)).trans s115
                      have s125 := (xq119.2.2.2.2.2 m 62 (by rw [tm]; decide)).trans s116
                      have pr126 := gTs.fr xq119.2 (by decide) pr117
                      have pr127 := gOt.fr xq119.2 (by decide) pr118
                      refine gz_s 2 (pc' := 242) (L' := [some (.ref m), some (.int (zi q)), some (.int (zi jn8v0)), some (.int (zi k1)), none]) (S' := [.int (zi 1), .ref m]) rfl ?_
                      refine gz_call rfl (by decide) rfl (by decide) (by decide) (gcal_of rfl rfl rfl (Nat.le_of_ble_eq_true rfl) (gJ.recv (G := gGG) sq119.1 tm rfl rfl)) (mm_putByte _ sq119.1 m tm 1 (by omega) fq119_0 efq119_0 (by omega)) (fun q128 _ wq128 => ?_)
                      obtain ⟨pq128, oq128, hq128⟩ := q128
                      obtain ⟨xq128, fq128_0, gq128, efq128_0, afq128_0, bfq128_0, uq128_0⟩ := wq128
                      refine ⟨_, gq128, ?_⟩
                      show gz gPP gGG gcn _ _ 245 [some (.ref m), some (.int (zi q)), some (.int (zi jn8v0)), some (.int (zi k1)), none] [] hq128 _
                      have sq128 := gSs.tr sq119 xq128 (by decide)
                      have s129 := (xq128.2.2.2.2.2 m 53 (by rw [tm]; decide)).trans s120
                      have s130 := (xq128.2.2.2.2.2 m 50 (by rw [tm]; decide)).trans s121
                      have s131 := (xq128.2.2.2.2.2 m 51 (by rw [tm]; decide)).trans s122
                      have s132 := (xq128.2.2.2.2.2 m 0 (by rw [tm]; decide)).trans s123
                      have s133 := (xq128.2.2.2.2.2 m 61 (by rw [tm]; decide)).trans s124
                      have s134 := (xq128.2.2.2.2.2 m 62 (by rw [tm]; decide)).trans s125
                      have pr135 := gTs.fr xq128.2 (by decide) pr126
                      have pr136 := gOt.fr xq128.2 (by decide) pr127
                      refine gz_s 2 (pc' := 247) (L' := [some (.ref m), some (.int (zi q)), some (.int (zi jn8v0)), some (.int (zi k1)), none]) (S' := [.int (zi 1), .ref m]) rfl ?_
                      refine gz_call rfl (by decide) rfl (by decide) (by decide) (gcal_of rfl rfl rfl (Nat.le_of_ble_eq_true rfl) (gJ.recv (G := gGG) sq128.1 tm rfl rfl)) (mm_putByte _ sq128.1 m tm 1 (by omega) fq128_0 efq128_0 (by omega)) (fun q137 _ wq137 => ?_)
                      obtain ⟨pq137, oq137, hq137⟩ := q137
                      obtain ⟨xq137, fq137_0, gq137, efq137_0, afq137_0, bfq137_0, uq137_0⟩ := wq137
                      refine ⟨_, gq137, ?_⟩
                      show gz gPP gGG gcn _ _ 250 [some (.ref m), some (.int (zi q)), some (.int (zi jn8v0)), some (.int (zi k1)), none] [] hq137 _
                      have sq137 := gSs.tr sq128 xq137 (by decide)
                      have s138 := (xq137.2.2.2.2.2 m 53 (by rw [tm]; decide)).trans s129
                      have s139 := (xq137.2.2.2.2.2 m 50 (by rw [tm]; decide)).trans s130
                      have s140 := (xq137.2.2.2.2.2 m 51 (by rw [tm]; decide)).trans s131
                      have s141 := (xq137.2.2.2.2.2 m 0 (by rw [tm]; decide)).trans s132
                      have s142 := (xq137.2.2.2.2.2 m 61 (by rw [tm]; decide)).trans s133
                      have s143 := (xq137.2.2.2.2.2 m 62 (by rw [tm]; decide)).trans s134
                      have pr144 := gTs.fr xq137.2 (by decide) pr135
                      have pr145 := gOt.fr xq137.2 (by decide) pr136
                      refine gz_s 2 (pc' := 253) (L' := [some (.ref m), some (.int (zi q)), some (.int (zi jn8v0)), some (.int (zi k1)), none]) (S' := [.int (zi 17), .ref m]) rfl ?_
                      refine gz_call rfl (by decide) rfl (by decide) (by decide) (gcal_of rfl rfl rfl (Nat.le_of_ble_eq_true rfl) (gJ.recv (G := gGG) sq137.1 tm rfl rfl)) (mm_putByte _ sq137.1 m tm 17 (by omega) fq137_0 efq137_0 (by omega)) (fun q146 _ wq146 => ?_)
                      obtain ⟨pq146, oq146, hq146⟩ := q146
                      obtain ⟨xq146, fq146_0, gq146, efq146_0, afq146_0, bfq146_0, uq146_0⟩ := wq146
                      refine ⟨_, gq146, ?_⟩
                      show gz gPP gGG gcn _ _ 256 [some (.ref m), some (.int (zi q)), some (.int (zi jn8v0)), some (.int (zi k1)), none] [] hq146 _
                      have sq146 := gSs.tr sq137 xq146 (by decide)
                      have s147 := (xq146.2.2.2.2.2 m 53 (by rw [tm]; decide)).trans s138
                      have s148 := (xq146.2.2.2.2.2 m 50 (by rw [tm]; decide)).trans s139
                      have s149 := (xq146.2.2.2.2.2 m 51 (by rw [tm]; decide)).trans s140
                      have s150 := (xq146.2.2.2.2.2 m 0 (by rw [tm]; decide)).trans s141
                      have s151 := (xq146.2.2.2.2.2 m 61 (by rw [tm]; decide)).trans s142
                      have s152 := (xq146.2.2.2.2.2 m 62 (by rw [tm]; decide)).trans s143
                      have pr153 := gTs.fr xq146.2 (by decide) pr144
                      have pr154 := gOt.fr xq146.2 (by decide) pr145
                      refine gz_s 2 (pc' := 258) (L' := [some (.ref m), some (.int (zi q)), some (.int (zi jn8v0)), some (.int (zi k1)), none]) (S' := [.int (zi 0), .ref m]) rfl ?_
                      refine gz_call rfl (by decide) rfl (by decide) (by decide) (gcal_of rfl rfl rfl (Nat.le_of_ble_eq_true rfl) (gJ.recv (G := gGG) sq146.1 tm rfl rfl)) (mm_putByte _ sq146.1 m tm 0 (by omega) fq146_0 efq146_0 (by omega)) (fun q155 _ wq155 => ?_)
                      obtain ⟨pq155, oq155, hq155⟩ := q155
                      obtain ⟨xq155, fq155_0, gq155, efq155_0, afq155_0, bfq155_0, uq155_0⟩ := wq155
                      refine ⟨_, gq155, ?_⟩
                      show gz gPP gGG gcn _ _ 261 [some (.ref m), some (.int (zi q)), some (.int (zi jn8v0)), some (.int (zi k1)), none] [] hq155 _
                      have sq155 := gSs.tr sq146 xq155 (by decide)
                      have s156 := (xq155.2.2.2.2.2 m 53 (by rw [tm]; decide)).trans s147
                      have s157 := (xq155.2.2.2.2.2 m 50 (by rw [tm]; decide)).trans s148
                      have s158 := (xq155.2.2.2.2.2 m 51 (by rw [tm]; decide)).trans s149
                      have s159 := (xq155.2.2.2.2.2 m 0 (by rw [tm]; decide)).trans s150
                      have s160 := (xq155.2.2.2.2.2 m 61 (by rw [tm]; decide)).trans s151
                      have s161 := (xq155.2.2.2.2.2 m 62 (by rw [tm]; decide)).trans s152
                      have pr162 := gTs.fr xq155.2 (by decide) pr153
                      have pr163 := gOt.fr xq155.2 (by decide) pr154
                      refine gz_s 1 (pc' := 262) (L' := [some (.ref m), some (.int (zi q)), some (.int (zi jn8v0)), some (.int (zi k1)), none]) (S' := [.ref m]) rfl ?_
                      refine gs_get rfl (by decide) rfl sq155.1 tm rfl rfl rfl (fun z164 ez164 az164 bz164 => ?_)
                      by_cases hc165 : (z164 : Int) ≤ 0
                      · refine gy_ifT (pc' := 288) rfl (by decide) (by decide) (by omega) hc165 ?_
                        obtain ⟨tf, tt, cf, rf, rt, rc, tle, tsm⟩ := pr162
                        have tsn : 0 ≤ gsf (fun j => gcr (cf j)) 64 := gsf_nn (fun j => gcr_nn) 64
                        refine gz_s 1 (pc' := 289) (L' := [some (.ref m), some (.int (zi q)), some (.int (zi jn8v0)), some (.int (zi k1)), none]) (S' := [.ref m]) rfl ?_
                        refine gs_gtk rfl (by decide) rfl sq155.1 tm rfl rfl s156 ?_
                        by_cases hc166 : ¬ (n0 : Int) = 0
                        · refine gy_ifT (pc' := 304) rfl (by decide) (by decide) (by omega) hc166 ?_
                          refine gz_s 2 (pc' := 306) (L' := [some (.ref m), some (.int (zi q)), some (.int (zi jn8v0)), some (.int (zi 0)), none]) (S' := []) rfl ?_
                          have lp167 : ∀ (fu : Nat) (h168 : gH) (k3 : Int) (wv : Int) (bv : Int), (11 - k3).toNat < fu → gSs rT 1027 ty [1000, 1053, 1059, 1061, 1062, 1064, 1067, 1074, 1075, 31999, 32999, 33999, 34999, 36999, 37999, 38999, 39999, 40999, 41999, 42999] h h168 → (0 ≤ k3 ∧ k3 ≤ 10) → (0 ≤ wv ∧ wv ≤ 60000) → (0 ≤ bv ∧ bv ≤ 0) → (n0 = 0 ∨ (4 * wv ≤ 1000 + 560 * gTl tf tt k3 + 3468 * k3)) → (n0 = 0 → (k3 = 0 ∧ wv ≤ 45000)) → (k3 ≤ n0) → h168.2.2.2.2 m 53 = .int (zi n0) → h168.2.2.2.2 m 50 = .int (zi cw) → h168.2.2.2.2 m 51 = .int (zi ch) → h168.2.2.2.2 m 0 = .int (zi jn1v0) → h168.2.2.2.2 m 52 = .int (zi z164) → h168.2.2.2.2 m 59 = .int (zi wv) → h168.2.2.2.2 m 62 = .int (zi bv) → gOt ty 64 h168 → gRow ty 27 tf h168 → gRow ty 28 tt h168 → gz gPP gGG gcn (d + 6) gt183 306 [some (.ref m), some (.int (zi q)), some (.int (zi jn8v0)), some (.int (zi k3)), none] [] h168 (fun q _ => gSs rT 1027 ty [1000, 1053, 1059, 1061, 1062, 1064, 1067, 1074, 1075, 31999, 32999, 33999, 34999, 36999, 37999, 38999, 39999, 40999, 41999, 42999] h q.2.2 ∧ ∃ z n1 : Int, gfin gt183 q.1 q.2.1 = some (some (.int (zi z))) ∧ 0 ≤ z ∧ z ≤ 60000 ∧ q.2.2.2.2.2.2 m 53 = .int (zi n1) ∧ 0 ≤ n1 ∧ n1 ≤ 10 ∧ (gTs ty n1 q.2.2)) := by
                            intro fu
                            induction fu with
                            | zero => intro h168 k3 wv bv hm; exact absurd hm (Nat.not_lt_zero _)
                            | succ fu ihlp167 =>
                              intro h168 k3 wv bv lp167m sh168 lp167f0 lp167f1 lp167f2 lp167f3 lp167f4 lp167f5 lp167k0 lp167k1 lp167k2 lp167k3 lp167k4 lp167k5 lp167k6 lp167k7 lp167k8 lp167k9
                              have hl0 := gTl_le (f := tf) (t := tt) (k := k3) (n := n0) tle
                              refine gz_s 2 (pc' := 308) (L' := [some (.ref m), some (.int (zi q)), some (.int (zi jn8v0)), some (.int (zi k3)), none]) (S' := [.ref m, .int (zi k3)]) rfl ?_
                              refine gs_gtk rfl (by decide) rfl sh168.1 tm rfl rfl lp167k0 ?_
                              by_cases hc169 : (n0 : Int) ≤ k3
                              · refine gy_icT (pc' := 348) rfl (by decide) (by decide) (by omega) (by omega) hc169 ?_
                                refine gz_s 2 (pc' := 352) (L' := [some (.ref m), some (.int (zi q)), some (.int (zi jn8v0)), some (.int (zi k3)), none]) (S' := [.int (zi 217), .ref m]) rfl ?_
                                refine gz_call rfl (by decide) rfl (by decide) (by decide) (gcal_of rfl rfl rfl (Nat.le_of_ble_eq_true rfl) (gJ.recv (G := gGG) sh168.1 tm rfl rfl)) (mm_putMarker _ sh168.1 m tm 217 (by omega) wv lp167k5 (by omega)) (fun q170 _ wq170 => ?_)
                                obtain ⟨pq170, oq170, hq170⟩ := q170
                                obtain ⟨xq170, fq170_0, gq170, efq170_0, afq170_0, bfq170_0, uq170_0⟩ := wq170
                                refine ⟨_, gq170, ?_⟩
                                show gz gPP gGG gcn _ _ 355 [some (.ref m), some (.int (zi q)), some (.int (zi jn8v0)), some (.int (zi k3)), none] [] hq170 _
                                have sq170 := gSs.tr sh168 xq170 (by decide)
                                have s171 := (xq170.2.2.2.2.2 m 53 (by rw [tm]; decide)).trans lp167k0
                                have s172 := (xq170.2.2.2.2.2 m 50 (by rw [tm]; decide)).trans lp167k1
                                have s173 := (xq170.2.2.2.2.2 m 51 (by rw [tm]; decide)).trans lp167k2
                                have s174 := (xq170.2.2.2.2.2 m 0 (by rw [tm]; decide)).trans lp167k3
                                have s175 := (xq170.2.2.2.2.2 m 52 (by rw [tm]; decide)).trans lp167k4
                                have s176 := (xq170.2.2.2.2.2 m 62 (by rw [tm]; decide)).trans lp167k6
                                have pr177 := gOt.fr xq170.2 (by decide) lp167k7
                                have pr178 := gRow.fr xq170.2 (by decide) lp167k8
                                have pr179 := gRow.fr xq170.2 (by decide) lp167k9
                                refine gz_s 2 (pc' := 357) (L' := [some (.ref m), some (.int (zi q)), some (.int (zi jn8v0)), some (.int (zi k3)), none]) (S' := [.int (zi 0), .ref m]) rfl ?_
                                refine gs_put rfl (by decide) rfl sq170 tm rfl rfl rfl rfl (Or.inl rfl) (by decide) (by omega) (by omega) (fun h180 sh180 eh180 fh180 => ?_)
                                have pr181 := gOt.pt fh180 tm (by decide) pr177
                                have pr182 := gRow.pt fh180 tm (by decide) pr178
                                have pr183 := gRow.pt fh180 tm (by decide) pr179
                                have s184 := (fh180 m 50 (fun q => absurd q.2 (by decide))).trans s172
                                have s185 := (fh180 m 51 (fun q => absurd q.2 (by decide))).trans s173
                                have s186 := (fh180 m 0 (fun q => absurd q.2 (by decide))).trans s174
                                have s187 := (fh180 m 52 (fun q => absurd q.2 (by decide))).trans s175
                                have s188 := (fh180 m 62 (fun q => absurd q.2 (by decide))).trans s176
                                have s189 := (fh180 m 59 (fun q => absurd q.2 (by decide))).trans efq170_0
                                refine gz_s 2 (pc' := 362) (L' := [some (.ref m), some (.int (zi q)), some (.int (zi jn8v0)), some (.int (zi 0)), none]) (S' := []) rfl ?_
                                obtain ⟨c191, ec191, tc191⟩ := gJ.ref (k := 58) (G := gGG) sh180.1 tm rfl rfl rfl
                                have hoz192 : gOz ty 31 (-1) 0 h180 := ⟨_, gRow.mk uq tc191 (by decide) (fun _ => rfl), fun j hj => absurd hj (by omega)⟩
                                have lp190 : ∀ (fu : Nat) (h193 : gH) (kz : Int), (65 - kz).toNat < fu → gSs rT 1027 ty [1000, 1053, 1059, 1061, 1062, 1064, 1067, 1074, 1075, 31999, 32999, 33999, 34999, 36999, 37999, 38999, 39999, 40999, 41999, 42999] h h193 → (0 ≤ kz ∧ kz ≤ 64) → h193.2.2.2.2 m 50 = .int (zi cw) → h193.2.2.2.2 m 51 = .int (zi ch) → h193.2.2.2.2 m 0 = .int (zi jn1v0) → h193.2.2.2.2 m 52 = .int (zi z164) → h193.2.2.2.2 m 62 = .int (zi bv) → h193.2.2.2.2 m 59 = .int (zi fq170_0) → h193.2.2.2.2 m 53 = .int (zi 0) → gOt ty 64 h193 → gRow ty 27 tf h193 → gRow ty 28 tt h193 → gOz ty 31 (-1) kz h193 → gz gPP gGG gcn (d + 6) gt183 362 [some (.ref m), some (.int (zi q)), some (.int (zi jn8v0)), some (.int (zi kz)), none] [] h193 (fun q _ => gSs rT 1027 ty [1000, 1053, 1059, 1061, 1062, 1064, 1067, 1074, 1075, 31999, 32999, 33999, 34999, 36999, 37999, 38999, 39999, 40999, 41999, 42999] h q.2.2 ∧ ∃ z n1 : Int, gfin gt183 q.1 q.2.1 = some (some (.int (zi z))) ∧ 0 ≤ z ∧ z ≤ 60000 ∧ q.2.2.2.2.2.2 m 53 = .int (zi n1) ∧ 0 ≤ n1 ∧ n1 ≤ 10 ∧ (gTs ty n1 q.2.2)) := by
                                  intro fu
                                  induction fu with
                                  | zero => intro h193 kz hm; exact absurd hm (Nat.not_lt_zero _)
                                  | succ fu ihlp190 =>
                                    intro h193 kz lp190m sh193 lp190f0 lp190k0 lp190k1 lp190k2 lp190k3 lp190k4 lp190k5 lp190k6 lp190k7 lp190k8 lp190k9 lp190k10
                                    refine gz_s 2 (pc' := 365) (L' := [some (.ref m), some (.int (zi q)), some (.int (zi jn8v0)), some (.int (zi kz)), none]) (S' := [.int (zi 64), .int (zi kz)]) rfl ?_
                                    by_cases hc194 : (64 : Int) ≤ kz
                                    · refine gy_icT (pc' := 381) rfl (by decide) (by decide) (by omega) (by omega) hc194 ?_
                                      have hts : gTs ty 0 h193 := by
                                        have e9 := lp190k10
                                        rw [(by omega : kz = 64)] at e9
                                        exact gTs.anew lp190k8 lp190k9 e9
                                      refine gz_s 1 (pc' := 382) (L' := [some (.ref m), some (.int (zi q)), some (.int (zi jn8v0)), some (.int (zi kz)), none]) (S' := [.ref m]) rfl ?_
                                      refine gs_gtk rfl (by decide) rfl sh193.1 tm rfl rfl lp190k5 ?_
                                      exact gz_end (I := .ireturn) (len := 1) rfl (Or.inl rfl) ⟨sh193, fq170_0, 0, rfl, (by omega), (by omega), lp190k6, (by omega), (by omega), hts⟩
                                    · refine gy_icF rfl (by decide) (by decide) (by omega) (by omega) hc194 ?_
                                      obtain ⟨f9, rf9, z9⟩ := lp190k10
                                      refine gz_s 1 (pc' := 369) (L' := [some (.ref m), some (.int (zi q)), some (.int (zi jn8v0)), some (.int (zi kz)), none]) (S' := [.ref m]) rfl ?_
                                      refine gs_gtr rfl (by decide) rfl sh193.1 tm rfl rfl rfl (fun c195 ec195 tc195 => ?_)
                                      refine gz_s 2 (pc' := 374) (L' := [some (.ref m), some (.int (zi q)), some (.int (zi jn8v0)), some (.int (zi kz)), none]) (S' := [.int (zi (-1)), .int (zi kz), .ref c195]) rfl ?_
                                      have hl196 : 64 ≤ h193.2.2.2.1 c195 ∧ h193.2.2.2.1 c195 ≤ 64 := gJ.rowl (G := gGG) sh193.1 tc195 rfl
                                      refine gs_ast rfl (by decide) sh193 tc195 rfl rfl rfl (by decide) (fun _ => rfl) (by omega) (by omega) (fun _ => (by decide : (31999 : Nat) ∈ ([1000, 1053, 1059, 1061, 1062, 1064, 1067, 1074, 1075, 31999, 32999, 33999, 34999, 36999, 37999, 38999, 39999, 40999, 41999, 42999] : List Nat))) (by omega) (by omega) (fun h197 sh197 eh197 fh197 => ?_)
                                      have pr198 := gOt.pt fh197 tc195 (by decide) lp190k7
                                      have pr199 := gRow.pt fh197 tc195 (by decide) lp190k8
                                      have pr200 := gRow.pt fh197 tc195 (by decide) lp190k9
                                      have pr201 := gRow.put (i := kz) (z := (-1)) uq tc195 (by decide) fh197 eh197 (by omega) (by omega) rf9
                                      have s202 := (fh197 m 50 (fun q => absurd (((tm).symm.trans (congrArg ty q.1)).trans tc195) (by decide))).trans lp190k0
                                      have s203 := (fh197 m 51 (fun q => absurd (((tm).symm.trans (congrArg ty q.1)).trans tc195) (by decide))).trans lp190k1
                                      have s204 := (fh197 m 0 (fun q => absurd (((tm).symm.trans (congrArg ty q.1)).trans tc195) (by decide))).trans lp190k2
                                      have s205 := (fh197 m 52 (fun q => absurd (((tm).symm.trans (congrArg ty q.1)).trans tc195) (by decide))).trans lp190k3
                                      have s206 := (fh197 m 62 (fun q => absurd (((tm).symm.trans (congrArg ty q.1)).trans tc195) (by decide))).trans lp190k4
                                      have s207 := (fh197 m 59 (fun q => absurd (((tm).symm.trans (congrArg ty q.1)).trans tc195) (by decide))).trans lp190k5
                                      have s208 := (fh197 m 53 (fun q => absurd (((tm).symm.trans (congrArg ty q.1)).trans tc195) (by decide))).trans lp190k6
                                      have s209 := (fh197 m 58 (fun q => absurd (((tm).symm.trans (congrArg ty q.1)).trans tc195) (by decide))).trans ec195
                                      have pr210 := gEl.set (i := kz) (z := (-1)) uq tc195 (by decide) eh197 (by omega) (by omega)
                                      have hoz211 : gOz ty 31 (-1) (kz + 1) h197 := gOz.step (by omega) pr201 z9
                                      refine gy_s 2 (pc' := 362) (L' := [some (.ref m), some (.int (zi q)), some (.int (zi jn8v0)), some (.int ((zi kz) + zi 1)), none]) (S' := []) (L2 := [some (.ref m), some (.int (zi q)), some (.int (zi jn8v0)), some (.int (zi (kz + 1))), none]) (S2 := []) rfl (by simp only [zi_add, zi_sub, zi_mul, zi_neg, zi_and1, zi_and7, zi_and15, zi_and31, zi_and255]) (by simp only [zi_add, zi_sub, zi_mul, zi_neg, zi_and1, zi_and7, zi_and15, zi_and31, zi_and255]) ?_
                                      exact gz_wk (ihlp190 h197 (kz + 1) (by omega) sh197 (by omega) s202 s203 s204 s205 s206 s207 s208 pr198 pr199 pr200 hoz211) (gLw.s (gLw.s (gLw.s (gLw.s (gLw.n gLw.z)))))
                                exact gz_wk (lp190 _ h180 0 (Nat.lt_succ_self _) sh180 (by omega) s184 s185 s186 s187 s188 s189 eh180 pr181 pr182 pr183 hoz192) (gLw.s (gLw.s (gLw.s (gLw.s (gLw.n gLw.z)))))
                              · refine gy_icF rfl (by decide) (by decide) (by omega) (by omega) hc169 ?_
                                refine gz_s 2 (pc' := 316) (L' := [some (.ref m), some (.int (zi q)), some (.int (zi jn8v0)), some (.int (zi k3)), none]) (S' := [.ref m, .ref m]) rfl ?_
                                refine gs_gtr rfl (by decide) rfl sh168.1 tm rfl rfl rfl (fun c212 ec212 tc212 => ?_)
                                refine gz_s 1 (pc' := 320) (L' := [some (.ref m), some (.int (zi q)), some (.int (zi jn8v0)), some (.int (zi k3)), none]) (S' := [.int (zi k3), .ref c212, .ref m]) rfl ?_
                                have hl213 : 10 ≤ h168.2.2.2.1 c212 ∧ h168.2.2.2.1 c212 ≤ 10 := gJ.rowl (G := gGG) sh168.1 tc212 rfl
                                refine gs_ald rfl (by decide) sh168.1 tc212 rfl rfl rfl (by decide) (fun _ => rfl) (by omega) (by omega) (fun z214 ez214 az214 bz214 => ?_)
                                have hf215 := gRow.at (i := k3) (z := z214) lp167k8 tc212 ez214 (by omega) (by omega) (by omega)
                                refine gz_s 1 (pc' := 322) (L' := [some (.ref m), some (.int (zi q)), some (.int (zi jn8v0)), some (.int (zi k3)), none]) (S' := [.ref m, .int (zi z214), .ref m]) rfl ?_
                                refine gs_gtr rfl (by decide) rfl sh168.1 tm rfl rfl rfl (fun c216 ec216 tc216 => ?_)
                                refine gz_s 1 (pc' := 326) (L' := [some (.ref m), some (.int (zi q)), some (.int (zi jn8v0)), some (.int (zi k3)), none]) (S' := [.int (zi k3), .ref c216, .int (zi z214), .ref m]) rfl ?_
                                have hl217 : 10 ≤ h168.2.2.2.1 c216 ∧ h168.2.2.2.1 c216 ≤ 10 := gJ.rowl (G := gGG) sh168.1 tc216 rfl
                                refine gs_ald rfl (by decide) sh168.1 tc216 rfl rfl rfl (by decide) (fun _ => rfl) (by omega) (by omega) (fun z218 ez218 az218 bz218 => ?_)
                                have hf219 := gRow.at (i := k3) (z := z218) lp167k9 tc216 ez218 (by omega) (by omega) (by omega)
                                have hl1 := gTl_st (f := tf) (t := tt) (k := k3) (a := z214) (b := z218) (by omega) (by omega) (by omega)
                                have hl2 := gTl_le (f := tf) (t := tt) (k := k3 + 1) (n := n0) tle (by omega)
                                have hl3 := tle (k3).toNat (by omega)
                                refine gz_s 1 (pc' := 328) (L' := [some (.ref m), some (.int (zi q)), some (.int (zi jn8v0)), some (.int (zi k3)), none]) (S' := [.ref m, .int (zi z218), .int (zi z214), .ref m]) rfl ?_
                                refine gs_gtr rfl (by decide) rfl sh168.1 tm rfl rfl rfl (fun c220 ec220 tc220 => ?_)
                                refine gz_s 1 (pc' := 332) (L' := [some (.ref m), some (.int (zi q)), some (.int (zi jn8v0)), some (.int (zi k3)), none]) (S' := [.int (zi k3), .ref c220, .int (zi z218), .int (zi z214), .ref m]) rfl ?_
                                have hl221 : 10 ≤ h168.2.2.2.1 c220 ∧ h168.2.2.2.1 c220 ≤ 10 := gJ.rowl (G := gGG) sh168.1 tc220 rfl
                                refine gs_ald rfl (by decide) sh168.1 tc220 rfl rfl rfl (by decide) (fun _ => rfl) (by omega) (by omega) (fun z222 ez222 az222 bz222 => ?_)
                                refine gz_s 1 (pc' := 334) (L' := [some (.ref m), some (.int (zi q)), some (.int (zi jn8v0)), some (.int (zi k3)), none]) (S' := [.ref m, .int (zi z222), .int (zi z218), .int (zi z214), .ref m]) rfl ?_
                                refine gs_gtr rfl (by decide) rfl sh168.1 tm rfl rfl rfl (fun c223 ec223 tc223 => ?_)
                                refine gz_s 1 (pc' := 338) (L' := [some (.ref m), some (.int (zi q)), some (.int (zi jn8v0)), some (.int (zi k3)), none]) (S' := [.int (zi k3), .ref c223, .int (zi z222), .int (zi z218), .int (zi z214), .ref m]) rfl ?_
                                have hl224 : 10 ≤ h168.2.2.2.1 c223 ∧ h168.2.2.2.1 c223 ≤ 10 := gJ.rowl (G := gGG) sh168.1 tc223 rfl
                                refine gs_ald rfl (by decide) sh168.1 tc223 rfl rfl rfl (by decide) (fun _ => rfl) (by omega) (by omega) (fun z225 ez225 az225 bz225 => ?_)
                                refine gz_call rfl (by decide) rfl (by decide) (by decide) (gcal_of rfl rfl rfl (Nat.le_of_ble_eq_true rfl) (gJ.recv (G := gGG) sh168.1 tm rfl rfl)) (mm_putScan _ sh168.1 m tm z214 (by omega) z218 (by omega) z222 (by omega) z225 (by omega) wv lp167k5 (by omega) bv lp167k6 (by omega) (by omega) uq) (fun q226 _ wq226 => ?_)
                                obtain ⟨pq226, oq226, hq226⟩ := q226
                                obtain ⟨xq226, fq226_0, fq226_1, gq226, efq226_0, afq226_0, bfq226_0, efq226_1, afq226_1, bfq226_1, uq226_0, uq226_1⟩ := wq226
                                refine ⟨_, gq226, ?_⟩
                                show gz gPP gGG gcn _ _ 342 [some (.ref m), some (.int (zi q)), some (.int (zi jn8v0)), some (.int (zi k3)), none] [] hq226 _
                                have sq226 := gSs.tr sh168 xq226 (by decide)
                                have s227 := (xq226.2.2.2.2.2 m 53 (by rw [tm]; decide)).trans lp167k0
                                have s228 := (xq226.2.2.2.2.2 m 50 (by rw [tm]; decide)).trans lp167k1
                                have s229 := (xq226.2.2.2.2.2 m 51 (by rw [tm]; decide)).trans lp167k2
                                have s230 := (xq226.2.2.2.2.2 m 0 (by rw [tm]; decide)).trans lp167k3
                                have s231 := (xq226.2.2.2.2.2 m 52 (by rw [tm]; decide)).trans lp167k4
                                have s232 := (xq226.2.2.2.2.2 m 54 (by rw [tm]; decide)).trans ec212
                                have s233 := (xq226.2.2.2.2.2 m 55 (by rw [tm]; decide)).trans ec216
                                have s234 := (xq226.2.2.2.2.2 m 56 (by rw [tm]; decide)).trans ec220
                                have s235 := (xq226.2.2.2.2.2 m 57 (by rw [tm]; decide)).trans ec223
                                have pr236 := gOt.fr xq226.2 (by decide) lp167k7
                                have pr237 := gRow.fr xq226.2 (by decide) lp167k8
                                have pr238 := gRow.fr xq226.2 (by decide) lp167k9
                                refine gy_s 2 (pc' := 306) (L' := [some (.ref m), some (.int (zi q)), some (.int (zi jn8v0)), some (.int ((zi k3) + zi 1)), none]) (S' := []) (L2 := [some (.ref m), some (.int (zi q)), some (.int (zi jn8v0)), some (.int (zi (k3 + 1))), none]) (S2 := []) rfl (by simp only [zi_add, zi_sub, zi_mul, zi_neg, zi_and1, zi_and7, zi_and15, zi_and31, zi_and255]) (by simp only [zi_add, zi_sub, zi_mul, zi_neg, zi_and1, zi_and7, zi_and15, zi_and31, zi_and255]) ?_
                                exact gz_wk (ihlp167 hq226 (k3 + 1) fq226_0 fq226_1 (by omega) sq226 (by omega) (by omega) (by omega) (by omega) (by omega) (by omega) s227 s228 s229 s230 s231 efq226_0 efq226_1 pr236 pr237 pr238) (gLw.s (gLw.s (gLw.s (gLw.s (gLw.n gLw.z)))))
                          have hl9 : gTl tf tt 0 = 0 := rfl
                          exact gz_wk (lp167 _ hq155 0 fq155_0 0 (Nat.lt_succ_self _) sq155 (by omega) (by omega) (by omega) (by omega) (by omega) (by omega) s156 s157 s158 s159 ez164 efq155_0 s161 pr163 rf rt) (gLw.s (gLw.s (gLw.s (gLw.s (gLw.n gLw.z)))))
                        · refine gy_ifF rfl (by decide) (by decide) (by omega) hc166 ?_
                          refine gz_s 5 (pc' := 301) (L' := [some (.ref m), some (.int (zi q)), some (.int (zi jn8v0)), some (.int (zi k1)), none]) (S' := [.int (zi 0), .int (zi 0), .int (zi 63), .int (zi 0), .ref m]) rfl ?_
                          refine gz_call rfl (by decide) rfl (by decide) (by decide) (gcal_of rfl rfl rfl (Nat.le_of_ble_eq_true rfl) (gJ.recv (G := gGG) sq155.1 tm rfl rfl)) (mm_putScan _ sq155.1 m tm 0 (by omega) 63 (by omega) 0 (by omega) 0 (by omega) fq155_0 efq155_0 (by omega) 0 s161 (by omega) (by omega) uq) (fun q239 _ wq239 => ?_)
                          obtain ⟨pq239, oq239, hq239⟩ := q239
                          obtain ⟨xq239, fq239_0, fq239_1, gq239, efq239_0, afq239_0, bfq239_0, efq239_1, afq239_1, bfq239_1, uq239_0, uq239_1⟩ := wq239
                          refine ⟨_, gq239, ?_⟩
                          show gz gPP gGG gcn _ _ 304 [some (.ref m), some (.int (zi q)), some (.int (zi jn8v0)), some (.int (zi k1)), none] [] hq239 _
                          have sq239 := gSs.tr sq155 xq239 (by decide)
                          have s240 := (xq239.2.2.2.2.2 m 53 (by rw [tm]; decide)).trans s156
                          have s241 := (xq239.2.2.2.2.2 m 50 (by rw [tm]; decide)).trans s157
                          have s242 := (xq239.2.2.2.2.2 m 51 (by rw [tm]; decide)).trans s158
                          have s243 := (xq239.2.2.2.2.2 m 0 (by rw [tm]; decide)).trans s159
                          have s244 := (xq239.2.2.2.2.2 m 52 (by rw [tm]; decide)).trans ez164
                          have pr245 := gOt.fr xq239.2 (by decide) pr163
                          have pr246 := gRow.fr xq239.2 (by decide) rf
                          have pr247 := gRow.fr xq239.2 (by decide) rt
                          refine gz_s 2 (pc' := 306) (L' := [some (.ref m), some (.int (zi q)), some (.int (zi jn8v0)), some (.int (zi 0)), none]) (S' := []) rfl ?_
                          have lp248 : ∀ (fu : Nat) (h249 : gH) (k3 : Int) (wv : Int) (bv : Int), (11 - k3).toNat < fu → gSs rT 1027 ty [1000, 1053, 1059, 1061, 1062, 1064, 1067, 1074, 1075, 31999, 32999, 33999, 34999, 36999, 37999, 38999, 39999, 40999, 41999, 42999] h h249 → (0 ≤ k3 ∧ k3 ≤ 10) → (0 ≤ wv ∧ wv ≤ 60000) → (0 ≤ bv ∧ bv ≤ 0) → (n0 = 0 ∨ (4 * wv ≤ 1000 + 560 * gTl tf tt k3 + 3468 * k3)) → (n0 = 0 → (k3 = 0 ∧ wv ≤ 45000)) → (k3 ≤ n0) → h249.2.2.2.2 m 53 = .int (zi n0) → h249.2.2.2.2 m 50 = .int (zi cw) → h249.2.2.2.2 m 51 = .int (zi ch) → h249.2.2.2.2 m 0 = .int (zi jn1v0) → h249.2.2.2.2 m 52 = .int (zi z164) → h249.2.2.2.2 m 59 = .int (zi wv) → h249.2.2.2.2 m 62 = .int (zi bv) → gOt ty 64 h249 → gRow ty 27 tf h249 → gRow ty 28 tt h249 → gz gPP gGG gcn (d + 6) gt183 306 [some (.ref m), some (.int (zi q)), some (.int (zi jn8v0)), some (.int (zi k3)), none] [] h249 (fun q _ => gSs rT 1027 ty [1000, 1053, 1059, 1061, 1062, 1064, 1067, 1074, 1075, 31999, 32999, 33999, 34999, 36999, 37999, 38999, 39999, 40999, 41999, 42999] h q.2.2 ∧ ∃ z n1 : Int, gfin gt183 q.1 q.2.1 = some (some (.int (zi z))) ∧ 0 ≤ z ∧ z ≤ 60000 ∧ q.2.2.2.2.2.2 m 53 = .int (zi n1) ∧ 0 ≤ n1 ∧ n1 ≤ 10 ∧ (gTs ty n1 q.2.2)) := by
                            intro fu
                            induction fu with
                            | zero => intro h249 k3 wv bv hm; exact absurd hm (Nat.not_lt_zero _)
                            | succ fu ihlp248 =>
                              intro h249 k3 wv bv lp248m sh249 lp248f0 lp248f1 lp248f2 lp248f3 lp248f4 lp248f5 lp248k0 lp248k1 lp248k2 lp248k3 lp248k4 lp248k5 lp248k6 lp248k7 lp248k8 lp248k9
                              have hl0 := gTl_le (f := tf) (t := tt) (k := k3) (n := n0) tle
                              refine gz_s 2 (pc' := 308) (L' := [some (.ref m), some (.int (zi q)), some (.int (zi jn8v0)), some (.int (zi k3)), none]) (S' := [.ref m, .int (zi k3)]) rfl ?_
                              refine gs_gtk rfl (by decide) rfl sh249.1 tm rfl rfl lp248k0 ?_
                              refine gy_icT (pc' := 348) rfl (by decide) (by decide) (by omega) (by omega) (by first | (simp [zc]; done) | (simp only [zc]; omega)) ?_
                              refine gz_s 2 (pc' := 352) (L' := [some (.ref m), some (.int (zi q)), some (.int (zi jn8v0)), some (.int (zi k3)), none]) (S' := [.int (zi 217), .ref m]) rfl ?_
                              refine gz_call rfl (by decide) rfl (by decide) (by decide) (gcal_of rfl rfl rfl (Nat.le_of_ble_eq_true rfl) (gJ.recv (G := gGG) sh249.1 tm rfl rfl)) (mm_putMarker _ sh249.1 m tm 217 (by omega) wv lp248k5 (by omega)) (fun q250 _ wq250 => ?_)
                              obtain ⟨pq250, oq250, hq250⟩ := q250
                              obtain ⟨xq250, fq250_0, gq250, efq250_0, afq250_0, bfq250_0, uq250_0⟩ := wq250
                              refine ⟨_, gq250, ?_⟩
                              show gz gPP gGG gcn _ _ 355 [some (.ref m), some (.int (zi q)), some (.int (zi jn8v0)), some (.int (zi k3)), none] [] hq250 _
                              have sq250 := gSs.tr sh249 xq250 (by decide)
                              have s251 := (xq250.2.2.2.2.2 m 53 (by rw [tm]; decide)).trans lp248k0
                              have s252 := (xq250.2.2.2.2.2 m 50 (by rw [tm]; decide)).trans lp248k1
                              have s253 := (xq250.2.2.2.2.2 m 51 (by rw [tm]; decide)).trans lp248k2
                              have s254 := (xq250.2.2.2.2.2 m 0 (by rw [tm]; decide)).trans lp248k3
                              have s255 := (xq250.2.2.2.2.2 m 52 (by rw [tm]; decide)).trans lp248k4
                              have s256 := (xq250.2.2.2.2.2 m 62 (by rw [tm]; decide)).trans lp248k6
                              have pr257 := gOt.fr xq250.2 (by decide) lp248k7
                              have pr258 := gRow.fr xq250.2 (by decide) lp248k8
                              have pr259 := gRow.fr xq250.2 (by decide) lp248k9
                              refine gz_s 2 (pc' := 357) (L' := [some (.ref m), some (.int (zi q)), some (.int (zi jn8v0)), some (.int (zi k3)), none]) (S' := [.int (zi 0), .ref m]) rfl ?_
                              refine gs_put rfl (by decide) rfl sq250 tm rfl rfl rfl rfl (Or.inl rfl) (by decide) (by omega) (by omega) (fun h260 sh260 eh260 fh260 => ?_)
                              have pr261 := gOt.pt fh260 tm (by decide) pr257
                              have pr262 := gRow.pt fh260 tm (by decide) pr258
                              have pr263 := gRow.pt fh260 tm (by decide) pr259
                              have s264 := (fh260 m 50 (fun q => absurd q.2 (by decide))).trans s252
                              have s265 := (fh260 m 51 (fun q => absurd q.2 (by decide))).trans s253
                              have s266 := (fh260 m 0 (fun q => absurd q.2 (by decide))).trans s254
                              have s267 := (fh260 m 52 (fun q => absurd q.2 (by decide))).trans s255
                              have s268 := (fh260 m 62 (fun q => absurd q.2 (by decide))).trans s256
                              have s269 := (fh260 m 59 (fun q => absurd q.2 (by decide))).trans efq250_0
                              refine gz_s 2 (pc' := 362) (L' := [some (.ref m), some (.int (zi q)), some (.int (zi jn8v0)), some (.int (zi 0)), none]) (S' := []) rfl ?_
                              obtain ⟨c271, ec271, tc271⟩ := gJ.ref (k := 58) (G := gGG) sh260.1 tm rfl rfl rfl
                              have hoz272 : gOz ty 31 (-1) 0 h260 := ⟨_, gRow.mk uq tc271 (by decide) (fun _ => rfl), fun j hj => absurd hj (by omega)⟩
                              have lp270 : ∀ (fu : Nat) (h273 : gH) (kz : Int), (65 - kz).toNat < fu → gSs rT 1027 ty [1000, 1053, 1059, 1061, 1062, 1064, 1067, 1074, 1075, 31999, 32999, 33999, 34999, 36999, 37999, 38999, 39999, 40999, 41999, 42999] h h273 → (0 ≤ kz ∧ kz ≤ 64) → h273.2.2.2.2 m 50 = .int (zi cw) → h273.2.2.2.2 m 51 = .int (zi ch) → h273.2.2.2.2 m 0 = .int (zi jn1v0) → h273.2.2.2.2 m 52 = .int (zi z164) → h273.2.2.2.2 m 62 = .int (zi bv) → h273.2.2.2.2 m 59 = .int (zi fq250_0) → h273.2.2.2.2 m 53 = .int (zi 0) → gOt ty 64 h273 → gRow ty 27 tf h273 → gRow ty 28 tt h273 → gOz ty 31 (-1) kz h273 → gz gPP gGG gcn (d + 6) gt183 362 [some (.ref m), some (.int (zi q)), some (.int (zi jn8v0)), some (.int (zi kz)), none] [] h273 (fun q _ => gSs rT 1027 ty [1000, 1053, 1059, 1061, 1062, 1064, 1067, 1074, 1075, 31999, 32999, 33999, 34999, 36999, 37999, 38999, 39999, 40999, 41999, 42999] h q.2.2 ∧ ∃ z n1 : Int, gfin gt183 q.1 q.2.1 = some (some (.int (zi z))) ∧ 0 ≤ z ∧ z ≤ 60000 ∧ q.2.2.2.2.2.2 m 53 = .int (zi n1) ∧ 0 ≤ n1 ∧ n1 ≤ 10 ∧ (gTs ty n1 q.2.2)) := by
                                intro fu
                                induction fu with
                                | zero => intro h273 kz hm; exact absurd hm (Nat.not_lt_zero _)
                                | succ fu ihlp270 =>
                                  intro h273 kz lp270m sh273 lp270f0 lp270k0 lp270k1 lp270k2 lp270k3 lp270k4 lp270k5 lp270k6 lp270k7 lp270k8 lp270k9 lp270k10
                                  refine gz_s 2 (pc' := 365) (L' := [some (.ref m), some (.int (zi q)), some (.int (zi jn8v0)), some (.int (zi kz)), none]) (S' := [.int (zi 64), .int (zi kz)]) rfl ?_
                                  by_cases hc274 : (64 : Int) ≤ kz
                                  · refine gy_icT (pc' := 381) rfl (by decide) (by decide) (by omega) (by omega) hc274 ?_
                                    have hts : gTs ty 0 h273 := by
                                      have e9 := lp270k10
                                      rw [(by omega : kz = 64)] at e9
                                      exact gTs.anew lp270k8 lp270k9 e9
                                    refine gz_s 1 (pc' := 382) (L' := [some (.ref m), some (.int (zi q)), some (.int (zi jn8v0)), some (.int (zi kz)), none]) (S' := [.ref m]) rfl ?_
                                    refine gs_gtk rfl (by decide) rfl sh273.1 tm rfl rfl lp270k5 ?_
                                    exact gz_end (I := .ireturn) (len := 1) rfl (Or.inl rfl) ⟨sh273, fq250_0, 0, rfl, (by omega), (by omega), lp270k6, (by omega), (by omega), hts⟩
                                  · refine gy_icF rfl (by decide) (by decide) (by omega) (by omega) hc274 ?_
                                    obtain ⟨f9, rf9, z9⟩ := lp270k10
                                    refine gz_s 1 (pc' := 369) (L' := [some (.ref m), some (.int (zi q)), some (.int (zi jn8v0)), some (.int (zi kz)), none]) (S' := [.ref m]) rfl ?_
                                    refine gs_gtr rfl (by decide) rfl sh273.1 tm rfl rfl rfl (fun c275 ec275 tc275 => ?_)
                                    refine gz_s 2 (pc' := 374) (L' := [some (.ref m), some (.int (zi q)), some (.int (zi jn8v0)), some (.int (zi kz)), none]) (S' := [.int (zi (-1)), .int (zi kz), .ref c275]) rfl ?_
                                    have hl276 : 64 ≤ h273.2.2.2.1 c275 ∧ h273.2.2.2.1 c275 ≤ 64 := gJ.rowl (G := gGG) sh273.1 tc275 rfl
                                    refine gs_ast rfl (by decide) sh273 tc275 rfl rfl rfl (by decide) (fun _ => rfl) (by omega) (by omega) (fun _ => (by decide : (31999 : Nat) ∈ ([1000, 1053, 1059, 1061, 1062, 1064, 1067, 1074, 1075, 31999, 32999, 33999, 34999, 36999, 37999, 38999, 39999, 40999, 41999, 42999] : List Nat))) (by omega) (by omega) (fun h277 sh277 eh277 fh277 => ?_)
                                    have pr278 := gOt.pt fh277 tc275 (by decide) lp270k7
                                    have pr279 := gRow.pt fh277 tc275 (by decide) lp270k8
                                    have pr280 := gRow.pt fh277 tc275 (by decide) lp270k9
                                    have pr281 := gRow.put (i := kz) (z := (-1)) uq tc275 (by decide) fh277 eh277 (by omega) (by omega) rf9
                                    have s282 := (fh277 m 50 (fun q => absurd (((tm).symm.trans (congrArg ty q.1)).trans tc275) (by decide))).trans lp270k0
                                    have s283 := (fh277 m 51 (fun q => absurd (((tm).symm.trans (congrArg ty q.1)).trans tc275) (by decide))).trans lp270k1
                                    have s284 := (fh277 m 0 (fun q => absurd (((tm).symm.trans (congrArg ty q.1)).trans tc275) (by decide))).trans lp270k2
                                    have s285 := (fh277 m 52 (fun q => absurd (((tm).symm.trans (congrArg ty q.1)).trans tc275) (by decide))).trans lp270k3
                                    have s286 := (fh277 m 62 (fun q => absurd (((tm).symm.trans (congrArg ty q.1)).trans tc275) (by decide))).trans lp270k4
                                    have s287 := (fh277 m 59 (fun q => absurd (((tm).symm.trans (congrArg ty q.1)).trans tc275) (by decide))).trans lp270k5
                                    have s288 := (fh277 m 53 (fun q => absurd (((tm).symm.trans (congrArg ty q.1)).trans tc275) (by decide))).trans lp270k6
                                    have s289 := (fh277 m 58 (fun q => absurd (((tm).symm.trans (congrArg ty q.1)).trans tc275) (by decide))).trans ec275
                                    have pr290 := gEl.set (i := kz) (z := (-1)) uq tc275 (by decide) eh277 (by omega) (by omega)
                                    have hoz291 : gOz ty 31 (-1) (kz + 1) h277 := gOz.step (by omega) pr281 z9
                                    refine gy_s 2 (pc' := 362) (L' := [some (.ref m), some (.int (zi q)), some (.int (zi jn8v0)), some (.int ((zi kz) + zi 1)), none]) (S' := []) (L2 := [some (.ref m), some (.int (zi q)), some (.int (zi jn8v0)), some (.int (zi (kz + 1))), none]) (S2 := []) rfl (by simp only [zi_add, zi_sub, zi_mul, zi_neg, zi_and1, zi_and7, zi_and15, zi_and31, zi_and255]) (by simp only [zi_add, zi_sub, zi_mul, zi_neg, zi_and1, zi_and7, zi_and15, zi_and31, zi_and255]) ?_
                                    exact gz_wk (ihlp270 h277 (kz + 1) (by omega) sh277 (by omega) s282 s283 s284 s285 s286 s287 s288 pr278 pr279 pr280 hoz291) (gLw.s (gLw.s (gLw.s (gLw.s (gLw.n gLw.z)))))
                              exact gz_wk (lp270 _ h260 0 (Nat.lt_succ_self _) sh260 (by omega) s264 s265 s266 s267 s268 s269 eh260 pr261 pr262 pr263 hoz272) (gLw.s (gLw.s (gLw.s (gLw.s (gLw.n gLw.z)))))
                          have hl9 : gTl tf tt 0 = 0 := rfl
                          exact gz_wk (lp248 _ hq239 0 fq239_0 fq239_1 (Nat.lt_succ_self _) sq239 (by omega) (by omega) (by omega) (by omega) (by omega) (by omega) s240 s241 s242 s243 s244 efq239_0 efq239_1 pr245 pr246 pr247) (gLw.s (gLw.s (gLw.s (gLw.s (gLw.n gLw.z)))))
                      · refine gy_ifF rfl (by decide) (by decide) (by omega) hc165 ?_
                        refine gz_s 2 (pc' := 272) (L' := [some (.ref m), some (.int (zi q)), some (.int (zi jn8v0)), some (.int (zi k1)), none]) (S' := [.int (zi 221), .ref m]) rfl ?_
                        refine gz_call rfl (by decide) rfl (by decide) (by decide) (gcal_of rfl rfl rfl (Nat.le_of_ble_eq_true rfl) (gJ.recv (G := gGG) sq155.1 tm rfl rfl)) (mm_putMarker _ sq155.1 m tm 221 (by omega) fq155_0 efq155_0 (by omega)) (fun q292 _ wq292 => ?_)
                        obtain ⟨pq292, oq292, hq292⟩ := q292
                        obtain ⟨xq292, fq292_0, gq292, efq292_0, afq292_0, bfq292_0, uq292_0⟩ := wq292
                        refine ⟨_, gq292, ?_⟩
                        show gz gPP gGG gcn _ _ 275 [some (.ref m), some (.int (zi q)), some (.int (zi jn8v0)), some (.int (zi k1)), none] [] hq292 _
                        have sq292 := gSs.tr sq155 xq292 (by decide)
                        have s293 := (xq292.2.2.2.2.2 m 53 (by rw [tm]; decide)).trans s156
                        have s294 := (xq292.2.2.2.2.2 m 50 (by rw [tm]; decide)).trans s157
                        have s295 := (xq292.2.2.2.2.2 m 51 (by rw [tm]; decide)).trans s158
                        have s296 := (xq292.2.2.2.2.2 m 0 (by rw [tm]; decide)).trans s159
                        have s297 := (xq292.2.2.2.2.2 m 61 (by rw [tm]; decide)).trans s160
                        have s298 := (xq292.2.2.2.2.2 m 62 (by rw [tm]; decide)).trans s161
                        have s299 := (xq292.2.2.2.2.2 m 52 (by rw [tm]; decide)).trans ez164
                        have pr300 := gTs.fr xq292.2 (by decide) pr162
                        have pr301 := gOt.fr xq292.2 (by decide) pr163
                        refine gz_s 2 (pc' := 277) (L' := [some (.ref m), some (.int (zi q)), some (.int (zi jn8v0)), some (.int (zi k1)), none]) (S' := [.int (zi 4), .ref m]) rfl ?_
                        refine gz_call rfl (by decide) rfl (by decide) (by decide) (gcal_of rfl rfl rfl (Nat.le_of_ble_eq_true rfl) (gJ.recv (G := gGG) sq292.1 tm rfl rfl)) (mm_putTwo _ sq292.1 m tm 4 (by omega) fq292_0 efq292_0 (by omega)) (fun q302 _ wq302 => ?_)
                        obtain ⟨pq302, oq302, hq302⟩ := q302
                        obtain ⟨xq302, fq302_0, gq302, efq302_0, afq302_0, bfq302_0, uq302_0⟩ := wq302
                        refine ⟨_, gq302, ?_⟩
                        show gz gPP gGG gcn _ _ 280 [some (.ref m), some (.int (zi q)), some (.int (zi jn8v0)), some (.int (zi k1)), none] [] hq302 _
                        have sq302 := gSs.tr sq292 xq302 (by decide)
                        have s303 := (xq302.2.2.2.2.2 m 53 (by rw [tm]; decide)).trans s293
                        have s304 := (xq302.2.2.2.2.2 m 50 (by rw [tm]; decide)).trans s294
                        have s305 := (xq302.2.2.2.2.2 m 51 (by rw [tm]; decide)).trans s295
                        have s306 := (xq302.2.2.2.2.2 m 0 (by rw [tm]; decide)).trans s296
                        have s307 := (xq302.2.2.2.2.2 m 61 (by rw [tm]; decide)).trans s297
                        have s308 := (xq302.2.2.2.2.2 m 62 (by rw [tm]; decide)).trans s298
                        have s309 := (xq302.2.2.2.2.2 m 52 (by rw [tm]; decide)).trans s299
                        have pr310 := gTs.fr xq302.2 (by decide) pr300
                        have pr311 := gOt.fr xq302.2 (by decide) pr301
                        refine gz_s 2 (pc' := 282) (L' := [some (.ref m), some (.int (zi q)), some (.int (zi jn8v0)), some (.int (zi k1)), none]) (S' := [.ref m, .ref m]) rfl ?_
                        refine gs_gtk rfl (by decide) rfl sq302.1 tm rfl rfl s309 ?_
                        refine gz_call rfl (by decide) rfl (by decide) (by decide) (gcal_of rfl rfl rfl (Nat.le_of_ble_eq_true rfl) (gJ.recv (G := gGG) sq302.1 tm rfl rfl)) (mm_putTwo _ sq302.1 m tm z164 (by omega) fq302_0 efq302_0 (by omega)) (fun q312 _ wq312 => ?_)
                        obtain ⟨pq312, oq312, hq312⟩ := q312
                        obtain ⟨xq312, fq312_0, gq312, efq312_0, afq312_0, bfq312_0, uq312_0⟩ := wq312
                        refine ⟨_, gq312, ?_⟩
                        show gz gPP gGG gcn _ _ 288 [some (.ref m), some (.int (zi q)), some (.int (zi jn8v0)), some (.int (zi k1)), none] [] hq312 _
                        have sq312 := gSs.tr sq302 xq312 (by decide)
                        have s313 := (xq312.2.2.2.2.2 m 53 (by rw [tm]; decide)).trans s303
                        have s314 := (xq312.2.2.2.2.2 m 50 (by rw [tm]; decide)).trans s304
                        have s315 := (xq312.2.2.2.2.2 m 51 (by rw [tm]; decide)).trans s305
                        have s316 := (xq312.2.2.2.2.2 m 0 (by rw [tm]; decide)).trans s306
                        have s317 := (xq312.2.2.2.2.2 m 61 (by rw [tm]; decide)).trans s307
                        have s318 := (xq312.2.2.2.2.2 m 62 (by rw [tm]; decide)).trans s308
                        have s319 := (xq312.2.2.2.2.2 m 52 (by rw [tm]; decide)).trans s309
                        have pr320 := gTs.fr xq312.2 (by decide) pr310
                        have pr321 := gOt.fr xq312.2 (by decide) pr311
                        obtain ⟨tf, tt, cf, rf, rt, rc, tle, tsm⟩ := pr320
                        have tsn : 0 ≤ gsf (fun j => gcr (cf j)) 64 := gsf_nn (fun j => gcr_nn) 64
                        refine gz_s 1 (pc' := 289) (L' := [some (.ref m), some (.int (zi q)), some (.int (zi jn8v0)), some (.int (zi k1)), none]) (S' := [.ref m]) rfl ?_
                        refine gs_gtk rfl (by decide) rfl sq312.1 tm rfl rfl s313 ?_
                        by_cases hc322 : ¬ (n0 : Int) = 0
                        · refine gy_ifT (pc' := 304) rfl (by decide) (by decide) (by omega) hc322 ?_
                          refine gz_s 2 (pc' := 306) (L' := [some (.ref m), some (.int (zi q)), some (.int (zi jn8v0)), some (.int (zi 0)), none]) (S' := []) rfl ?_
                          have lp323 : ∀ (fu : Nat) (h324 : gH) (k3 : Int) (wv : Int) (bv : Int), (11 - k3).toNat < fu → gSs rT 1027 ty [1000, 1053, 1059, 1061, 1062, 1064, 1067, 1074, 1075, 31999, 32999, 33999, 34999, 36999, 37999, 38999, 39999, 40999, 41999, 42999] h h324 → (0 ≤ k3 ∧ k3 ≤ 10) → (0 ≤ wv ∧ wv ≤ 60000) → (0 ≤ bv ∧ bv ≤ 0) → (n0 = 0 ∨ (4 * wv ≤ 1000 + 560 * gTl tf tt k3 + 3468 * k3)) → (n0 = 0 → (k3 = 0 ∧ wv ≤ 45000)) → (k3 ≤ n0) → h324.2.2.2.2 m 53 = .int (zi n0) → h324.2.2.2.2 m 50 = .int (zi cw) → h324.2.2.2.2 m 51 = .int (zi ch) → h324.2.2.2.2 m 0 = .int (zi jn1v0) → h324.2.2.2.2 m 52 = .int (zi z164) → h324.2.2.2.2 m 59 = .int (zi wv) → h324.2.2.2.2 m 62 = .int (zi bv) → gOt ty 64 h324 → gRow ty 27 tf h324 → gRow ty 28 tt h324 → gz gPP gGG gcn (d + 6) gt183 306 [some (.ref m), some (.int (zi q)), some (.int (zi jn8v0)), some (.int (zi k3)), none] [] h324 (fun q _ => gSs rT 1027 ty [1000, 1053, 1059, 1061, 1062, 1064, 1067, 1074, 1075, 31999, 32999, 33999, 34999, 36999, 37999, 38999, 39999, 40999, 41999, 42999] h q.2.2 ∧ ∃ z n1 : Int, gfin gt183 q.1 q.2.1 = some (some (.int (zi z))) ∧ 0 ≤ z ∧ z ≤ 60000 ∧ q.2.2.2.2.2.2 m 53 = .int (zi n1) ∧ 0 ≤ n1 ∧ n1 ≤ 10 ∧ (gTs ty n1 q.2.2)) := by
                            intro fu
                            induction fu with
                            | zero => intro h324 k3 wv bv hm; exact absurd hm (Nat.not_lt_zero _)
                            | succ fu ihlp323 =>
                              intro h324 k3 wv bv lp323m sh324 lp323f0 lp323f1 lp323f2 lp323f3 lp323f4 lp323f5 lp323k0 lp323k1 lp323k2 lp323k3 lp323k4 lp323k5 lp323k6 lp323k7 lp323k8 lp323k9
                              have hl0 := gTl_le (f := tf) (t := tt) (k := k3) (n := n0) tle
                              refine gz_s 2 (pc' := 308) (L' := [some (.ref m), some (.int (zi q)), some (.int (zi jn8v0)), some (.int (zi k3)), none]) (S' := [.ref m, .int (zi k3)]) rfl ?_
                              refine gs_gtk rfl (by decide) rfl sh324.1 tm rfl rfl lp323k0 ?_
                              by_cases hc325 : (n0 : Int) ≤ k3
                              · refine gy_icT (pc' := 348) rfl (by decide) (by decide) (by omega) (by omega) hc325 ?_
                                refine gz_s 2 (pc' := 352) (L' := [some (.ref m), some (.int (zi q)), some (.int (zi jn8v0)), some (.int (zi k3)), none]) (S' := [.int (zi 217), .ref m]) rfl ?_
                                refine gz_call rfl (by decide) rfl (by decide) (by decide) (gcal_of rfl rfl rfl (Nat.le_of_ble_eq_true rfl) (gJ.recv (G := gGG) sh324.1 tm rfl rfl)) (mm_putMarker _ sh324.1 m tm 217 (by omega) wv lp323k5 (by omega)) (fun q326 _ wq326 => ?_)
                                obtain ⟨pq326, oq326, hq326⟩ := q326
                                obtain ⟨xq326, fq326_0, gq326, efq326_0, afq326_0, bfq326_0, uq326_0⟩ := wq326
                                refine ⟨_, gq326, ?_⟩
                                show gz gPP gGG gcn _ _ 355 [some (.ref m), some (.int (zi q)), some (.int (zi jn8v0)), some (.int (zi k3)), none] [] hq326 _
                                have sq326 := gSs.tr sh324 xq326 (by decide)
                                have s327 := (xq326.2.2.2.2.2 m 53 (by rw [tm]; decide)).trans lp323k0
                                have s328 := (xq326.2.2.2.2.2 m 50 (by rw [tm]; decide)).trans lp323k1
                                have s329 := (xq326.2.2.2.2.2 m 51 (by rw [tm]; decide)).trans lp323k2
                                have s330 := (xq326.2.2.2.2.2 m 0 (by rw [tm]; decide)).trans lp323k3
                                have s331 := (xq326.2.2.2.2.2 m 52 (by rw [tm]; decide)).trans lp323k4
                                have s332 := (xq326.2.2.2.2.2 m 62 (by rw [tm]; decide)).trans lp323k6
                                have pr333 := gOt.fr xq326.2 (by decide) lp323k7
                                have pr334 := gRow.fr xq326.2 (by decide) lp323k8
                                have pr335 := gRow.fr xq326.2 (by decide) lp323k9
                                refine gz_s 2 (pc' := 357) (L' := [some (.ref m), some (.int (zi q)), some (.int (zi jn8v0)), some (.int (zi k3)), none]) (S' := [.int (zi 0), .ref m]) rfl ?_
                                refine gs_put rfl (by decide) rfl sq326 tm rfl rfl rfl rfl (Or.inl rfl) (by decide) (by omega) (by omega) (fun h336 sh336 eh336 fh336 => ?_)
                                have pr337 := gOt.pt fh336 tm (by decide) pr333
                                have pr338 := gRow.pt fh336 tm (by decide) pr334
                                have pr339 := gRow.pt fh336 tm (by decide) pr335
                                have s340 := (fh336 m 50 (fun q => absurd q.2 (by decide))).trans s328
                                have s341 := (fh336 m 51 (fun q => absurd q.2 (by decide))).trans s329
                                have s342 := (fh336 m 0 (fun q => absurd q.2 (by decide))).trans s330
                                have s343 := (fh336 m 52 (fun q => absurd q.2 (by decide))).trans s331
                                have s344 := (fh336 m 62 (fun q => absurd q.2 (by decide))).trans s332
                                have s345 := (fh336 m 59 (fun q => absurd q.2 (by decide))).trans efq326_0
                                refine gz_s 2 (pc' := 362) (L' := [some (.ref m), some (.int (zi q)), some (.int (zi jn8v0)), some (.int (zi 0)), none]) (S' := []) rfl ?_
                                obtain ⟨c347, ec347, tc347⟩ := gJ.ref (k := 58) (G := gGG) sh336.1 tm rfl rfl rfl
                                have hoz348 : gOz ty 31 (-1) 0 h336 := ⟨_, gRow.mk uq tc347 (by decide) (fun _ => rfl), fun j hj => absurd hj (by omega)⟩
                                have lp346 : ∀ (fu : Nat) (h349 : gH) (kz : Int), (65 - kz).toNat < fu → gSs rT 1027 ty [1000, 1053, 1059, 1061, 1062, 1064, 1067, 1074, 1075, 31999, 32999, 33999, 34999, 36999, 37999, 38999, 39999, 40999, 41999, 42999] h h349 → (0 ≤ kz ∧ kz ≤ 64) → h349.2.2.2.2 m 50 = .int (zi cw) → h349.2.2.2.2 m 51 = .int (zi ch) → h349.2.2.2.2 m 0 = .int (zi jn1v0) → h349.2.2.2.2 m 52 = .int (zi z164) → h349.2.2.2.2 m 62 = .int (zi bv) → h349.2.2.2.2 m 59 = .int (zi fq326_0) → h349.2.2.2.2 m 53 = .int (zi 0) → gOt ty 64 h349 → gRow ty 27 tf h349 → gRow ty 28 tt h349 → gOz ty 31 (-1) kz h349 → gz gPP gGG gcn (d + 6) gt183 362 [some (.ref m), some (.int (zi q)), some (.int (zi jn8v0)), some (.int (zi kz)), none] [] h349 (fun q _ => gSs rT 1027 ty [1000, 1053, 1059, 1061, 1062, 1064, 1067, 1074, 1075, 31999, 32999, 33999, 34999, 36999, 37999, 38999, 39999, 40999, 41999, 42999] h q.2.2 ∧ ∃ z n1 : Int, gfin gt183 q.1 q.2.1 = some (some (.int (zi z))) ∧ 0 ≤ z ∧ z ≤ 60000 ∧ q.2.2.2.2.2.2 m 53 = .int (zi n1) ∧ 0 ≤ n1 ∧ n1 ≤ 10 ∧ (gTs ty n1 q.2.2)) := by
                                  intro fu
                                  induction fu with
                                  | zero => intro h349 kz hm; exact absurd hm (Nat.not_lt_zero _)
                                  | succ fu ihlp346 =>
                                    intro h349 kz lp346m sh349 lp346f0 lp346k0 lp346k1 lp346k2 lp346k3 lp346k4 lp346k5 lp346k6 lp346k7 lp346k8 lp346k9 lp346k10
                                    refine gz_s 2 (pc' := 365) (L' := [some (.ref m), some (.int (zi q)), some (.int (zi jn8v0)), some (.int (zi kz)), none]) (S' := [.int (zi 64), .int (zi kz)]) rfl ?_
                                    by_cases hc350 : (64 : Int) ≤ kz
                                    · refine gy_icT (pc' := 381) rfl (by decide) (by decide) (by omega) (by omega) hc350 ?_
                                      have hts : gTs ty 0 h349 := by
                                        have e9 := lp346k10
                                        rw [(by omega : kz = 64)] at e9
                                        exact gTs.anew lp346k8 lp346k9 e9
                                      refine gz_s 1 (pc' := 382) (L' := [some (.ref m), some (.int (zi q)), some (.int (zi jn8v0)), some (.int (zi kz)), none]) (S' := [.ref m]) rfl ?_
                                      refine gs_gtk rfl (by decide) rfl sh349.1 tm rfl rfl lp346k5 ?_
                                      exact gz_end (I := .ireturn) (len := 1) rfl (Or.inl rfl) ⟨sh349, fq326_0, 0, rfl, (by omega), (by omega), lp346k6, (by omega), (by omega), hts⟩
                                    · refine gy_icF rfl (by decide) (by decide) (by omega) (by omega) hc350 ?_
                                      obtain ⟨f9, rf9, z9⟩ := lp346k10
                                      refine gz_s 1 (pc' := 369) (L' := [some (.ref m), some (.int (zi q)), some (.int (zi jn8v0)), some (.int (zi kz)), none]) (S' := [.ref m]) rfl ?_
                                      refine gs_gtr rfl (by decide) rfl sh349.1 tm rfl rfl rfl (fun c351 ec351 tc351 => ?_)
                                      refine gz_s 2 (pc' := 374) (L' := [some (.ref m), some (.int (zi q)), some (.int (zi jn8v0)), some (.int (zi kz)), none]) (S' := [.int (zi (-1)), .int (zi kz), .ref c351]) rfl ?_
                                      have hl352 : 64 ≤ h349.2.2.2.1 c351 ∧ h349.2.2.2.1 c351 ≤ 64 := gJ.rowl (G := gGG) sh349.1 tc351 rfl
                                      refine gs_ast rfl (by decide) sh349 tc351 rfl rfl rfl (by decide) (fun _ => rfl) (by omega) (by omega) (fun _ => (by decide : (31999 : Nat) ∈ ([1000, 1053, 1059, 1061, 1062, 1064, 1067, 1074, 1075, 31999, 32999, 33999, 34999, 36999, 37999, 38999, 39999, 40999, 41999, 42999] : List Nat))) (by omega) (by omega) (fun h353 sh353 eh353 fh353 => ?_)
                                      have pr354 := gOt.pt fh353 tc351 (by decide) lp346k7
                                      have pr355 := gRow.pt fh353 tc351 (by decide) lp346k8
                                      have pr356 := gRow.pt fh353 tc351 (by decide) lp346k9
                                      have pr357 := gRow.put (i := kz) (z := (-1)) uq tc351 (by decide) fh353 eh353 (by omega) (by omega) rf9
                                      have s358 := (fh353 m 50 (fun q => absurd (((tm).symm.trans (congrArg ty q.1)).trans tc351) (by decide))).trans lp346k0
                                      have s359 := (fh353 m 51 (fun q => absurd (((tm).symm.trans (congrArg ty q.1)).trans tc351) (by decide))).trans lp346k1
                                      have s360 := (fh353 m 0 (fun q => absurd (((tm).symm.trans (congrArg ty q.1)).trans tc351) (by decide))).trans lp346k2
                                      have s361 := (fh353 m 52 (fun q => absurd (((tm).symm.trans (congrArg ty q.1)).trans tc351) (by decide))).trans lp346k3
                                      have s362 := (fh353 m 62 (fun q => absurd (((tm).symm.trans (congrArg ty q.1)).trans tc351) (by decide))).trans lp346k4
                                      have s363 := (fh353 m 59 (fun q => absurd (((tm).symm.trans (congrArg ty q.1)).trans tc351) (by decide))).trans lp346k5
                                      have s364 := (fh353 m 53 (fun q => absurd (((tm).symm.trans (congrArg ty q.1)).trans tc351) (by decide))).trans lp346k6
                                      have s365 := (fh353 m 58 (fun q => absurd (((tm).symm.trans (congrArg ty q.1)).trans tc351) (by decide))).trans ec351
                                      have pr366 := gEl.set (i := kz) (z := (-1)) uq tc351 (by decide) eh353 (by omega) (by omega)
                                      have hoz367 : gOz ty 31 (-1) (kz + 1) h353 := gOz.step (by omega) pr357 z9
                                      refine gy_s 2 (pc' := 362) (L' := [some (.ref m), some (.int (zi q)), some (.int (zi jn8v0)), some (.int ((zi kz) + zi 1)), none]) (S' := []) (L2 := [some (.ref m), some (.int (zi q)), some (.int (zi jn8v0)), some (.int (zi (kz + 1))), none]) (S2 := []) rfl (by simp only [zi_add, zi_sub, zi_mul, zi_neg, zi_and1, zi_and7, zi_and15, zi_and31, zi_and255]) (by simp only [zi_add, zi_sub, zi_mul, zi_neg, zi_and1, zi_and7, zi_and15, zi_and31, zi_and255]) ?_
                                      exact gz_wk (ihlp346 h353 (kz + 1) (by omega) sh353 (by omega) s358 s359 s360 s361 s362 s363 s364 pr354 pr355 pr356 hoz367) (gLw.s (gLw.s (gLw.s (gLw.s (gLw.n gLw.z)))))
                                exact gz_wk (lp346 _ h336 0 (Nat.lt_succ_self _) sh336 (by omega) s340 s341 s342 s343 s344 s345 eh336 pr337 pr338 pr339 hoz348) (gLw.s (gLw.s (gLw.s (gLw.s (gLw.n gLw.z)))))
                              · refine gy_icF rfl (by decide) (by decide) (by omega) (by omega) hc325 ?_
                                refine gz_s 2 (pc' := 316) (L' := [some (.ref m), some (.int (zi q)), some (.int (zi jn8v0)), some (.int (zi k3)), none]) (S' := [.ref m, .ref m]) rfl ?_
                                refine gs_gtr rfl (by decide) rfl sh324.1 tm rfl rfl rfl (fun c368 ec368 tc368 => ?_)
                                refine gz_s 1 (pc' := 320) (L' := [some (.ref m), some (.int (zi q)), some (.int (zi jn8v0)), some (.int (zi k3)), none]) (S' := [.int (zi k3), .ref c368, .ref m]) rfl ?_
                                have hl369 : 10 ≤ h324.2.2.2.1 c368 ∧ h324.2.2.2.1 c368 ≤ 10 := gJ.rowl (G := gGG) sh324.1 tc368 rfl
                                refine gs_ald rfl (by decide) sh324.1 tc368 rfl rfl rfl (by decide) (fun _ => rfl) (by omega) (by omega) (fun z370 ez370 az370 bz370 => ?_)
                                have hf371 := gRow.at (i := k3) (z := z370) lp323k8 tc368 ez370 (by omega) (by omega) (by omega)
                                refine gz_s 1 (pc' := 322) (L' := [some (.ref m), some (.int (zi q)), some (.int (zi jn8v0)), some (.int (zi k3)), none]) (S' := [.ref m, .int (zi z370), .ref m]) rfl ?_
                                refine gs_gtr rfl (by decide) rfl sh324.1 tm rfl rfl rfl (fun c372 ec372 tc372 => ?_)
                                refine gz_s 1 (pc' := 326) (L' := [some (.ref m), some (.int (zi q)), some (.int (zi jn8v0)), some (.int (zi k3)), none]) (S' := [.int (zi k3), .ref c372, .int (zi z370), .ref m]) rfl ?_
                                have hl373 : 10 ≤ h324.2.2.2.1 c372 ∧ h324.2.2.2.1 c372 ≤ 10 := gJ.rowl (G := gGG) sh324.1 tc372 rfl
                                refine gs_ald rfl (by decide) sh324.1 tc372 rfl rfl rfl (by decide) (fun _ => rfl) (by omega) (by omega) (fun z374 ez374 az374 bz374 => ?_)
                                have hf375 := gRow.at (i := k3) (z := z374) lp323k9 tc372 ez374 (by omega) (by omega) (by omega)
                                have hl1 := gTl_st (f := tf) (t := tt) (k := k3) (a := z370) (b := z374) (by omega) (by omega) (by omega)
                                have hl2 := gTl_le (f := tf) (t := tt) (k := k3 + 1) (n := n0) tle (by omega)
                                have hl3 := tle (k3).toNat (by omega)
                                refine gz_s 1 (pc' := 328) (L' := [some (.ref m), some (.int (zi q)), some (.int (zi jn8v0)), some (.int (zi k3)), none]) (S' := [.ref m, .int (zi z374), .int (zi z370), .ref m]) rfl ?_
                                refine gs_gtr rfl (by decide) rfl sh324.1 tm rfl rfl rfl (fun c376 ec376 tc376 => ?_)
                                refine gz_s 1 (pc' := 332) (L' := [some (.ref m), some (.int (zi q)), some (.int (zi jn8v0)), some (.int (zi k3)), none]) (S' := [.int (zi k3), .ref c376, .int (zi z374), .int (zi z370), .ref m]) rfl ?_
                                have hl377 : 10 ≤ h324.2.2.2.1 c376 ∧ h324.2.2.2.1 c376 ≤ 10 := gJ.rowl (G := gGG) sh324.1 tc376 rfl
                                refine gs_ald rfl (by decide) sh324.1 tc376 rfl rfl rfl (by decide) (fun _ => rfl) (by omega) (by omega) (fun z378 ez378 az378 bz378 => ?_)
                                refine gz_s 1 (pc' := 334) (L' := [some (.ref m), some (.int (zi q)), some (.int (zi jn8v0)), some (.int (zi k3)), none]) (S' := [.ref m, .int (zi z378), .int (zi z374), .int (zi z370), .ref m]) rfl ?_
                                refine gs_gtr rfl (by decide) rfl sh324.1 tm rfl rfl rfl (fun c379 ec379 tc379 => ?_)
                                refine gz_s 1 (pc' := 338) (L' := [some (.ref m), some (.int (zi q)), some (.int (zi jn8v0)), some (.int (zi k3)), none]) (S' := [.int (zi k3), .ref c379, .int (zi z378), .int (zi z374), .int (zi z370), .ref m]) rfl ?_
                                have hl380 : 10 ≤ h324.2.2.2.1 c379 ∧ h324.2.2.2.1 c379 ≤ 10 := gJ.rowl (G := gGG) sh324.1 tc379 rfl
                                refine gs_ald rfl (by decide) sh324.1 tc379 rfl rfl rfl (by decide) (fun _ => rfl) (by omega) (by omega) (fun z381 ez381 az381 bz381 => ?_)
                                refine gz_call rfl (by decide) rfl (by decide) (by decide) (gcal_of rfl rfl rfl (Nat.le_of_ble_eq_true rfl) (gJ.recv (G := gGG) sh324.1 tm rfl rfl)) (mm_putScan _ sh324.1 m tm z370 (by omega) z374 (by omega) z378 (by omega) z381 (by omega) wv lp323k5 (by omega) bv lp323k6 (by omega) (by omega) uq) (fun q382 _ wq382 => ?_)
                                obtain ⟨pq382, oq382, hq382⟩ := q382
                                obtain ⟨xq382, fq382_0, fq382_1, gq382, efq382_0, afq382_0, bfq382_0, efq382_1, afq382_1, bfq382_1, uq382_0, uq382_1⟩ := wq382
                                refine ⟨_, gq382, ?_⟩
                                show gz gPP gGG gcn _ _ 342 [some (.ref m), some (.int (zi q)), some (.int (zi jn8v0)), some (.int (zi k3)), none] [] hq382 _
                                have sq382 := gSs.tr sh324 xq382 (by decide)
                                have s383 := (xq382.2.2.2.2.2 m 53 (by rw [tm]; decide)).trans lp323k0
                                have s384 := (xq382.2.2.2.2.2 m 50 (by rw [tm]; decide)).trans lp323k1
                                have s385 := (xq382.2.2.2.2.2 m 51 (by rw [tm]; decide)).trans lp323k2
                                have s386 := (xq382.2.2.2.2.2 m 0 (by rw [tm]; decide)).trans lp323k3
                                have s387 := (xq382.2.2.2.2.2 m 52 (by rw [tm]; decide)).trans lp323k4
                                have s388 := (xq382.2.2.2.2.2 m 54 (by rw [tm]; decide)).trans ec368
                                have s389 := (xq382.2.2.2.2.2 m 55 (by rw [tm]; decide)).trans ec372
                                have s390 := (xq382.2.2.2.2.2 m 56 (by rw [tm]; decide)).trans ec376
                                have s391 := (xq382.2.2.2.2.2 m 57 (by rw [tm]; decide)).trans ec379
                                have pr392 := gOt.fr xq382.2 (by decide) lp323k7
                                have pr393 := gRow.fr xq382.2 (by decide) lp323k8
                                have pr394 := gRow.fr xq382.2 (by decide) lp323k9
                                refine gy_s 2 (pc' := 306) (L' := [some (.ref m), some (.int (zi q)), some (.int (zi jn8v0)), some (.int ((zi k3) + zi 1)), none]) (S' := []) (L2 := [some (.ref m), some (.int (zi q)), some (.int (zi jn8v0)), some (.int (zi (k3 + 1))), none]) (S2 := []) rfl (by simp only [zi_add, zi_sub, zi_mul, zi_neg, zi_and1, zi_and7, zi_and15, zi_and31, zi_and255]) (by simp only [zi_add, zi_sub, zi_mul, zi_neg, zi_and1, zi_and7, zi_and15, zi_and31, zi_and255]) ?_
                                exact gz_wk (ihlp323 hq382 (k3 + 1) fq382_0 fq382_1 (by omega) sq382 (by omega) (by omega) (by omega) (by omega) (by omega) (by omega) s383 s384 s385 s386 s387 efq382_0 efq382_1 pr392 pr393 pr394) (gLw.s (gLw.s (gLw.s (gLw.s (gLw.n gLw.z)))))
                          have hl9 : gTl tf tt 0 = 0 := rfl
                          exact gz_wk (lp323 _ hq312 0 fq312_0 0 (Nat.lt_succ_self _) sq312 (by omega) (by omega) (by omega) (by omega) (by omega) (by omega) s313 s314 s315 s316 s319 efq312_0 s318 pr321 rf rt) (gLw.s (gLw.s (gLw.s (gLw.s (gLw.n gLw.z)))))
                        · refine gy_ifF rfl (by decide) (by decide) (by omega) hc322 ?_
                          refine gz_s 5 (pc' := 301) (L' := [some (.ref m), some (.int (zi q)), some (.int (zi jn8v0)), some (.int (zi k1)), none]) (S' := [.int (zi 0), .int (zi 0), .int (zi 63), .int (zi 0), .ref m]) rfl ?_
                          refine gz_call rfl (by decide) rfl (by decide) (by decide) (gcal_of rfl rfl rfl (Nat.le_of_ble_eq_true rfl) (gJ.recv (G := gGG) sq312.1 tm rfl rfl)) (mm_putScan _ sq312.1 m tm 0 (by omega) 63 (by omega) 0 (by omega) 0 (by omega) fq312_0 efq312_0 (by omega) 0 s318 (by omega) (by omega) uq) (fun q395 _ wq395 => ?_)
                          obtain ⟨pq395, oq395, hq395⟩ := q395
                          obtain ⟨xq395, fq395_0, fq395_1, gq395, efq395_0, afq395_0, bfq395_0, efq395_1, afq395_1, bfq395_1, uq395_0, uq395_1⟩ := wq395
                          refine ⟨_, gq395, ?_⟩
                          show gz gPP gGG gcn _ _ 304 [some (.ref m), some (.int (zi q)), some (.int (zi jn8v0)), some (.int (zi k1)), none] [] hq395 _
                          have sq395 := gSs.tr sq312 xq395 (by decide)
                          have s396 := (xq395.2.2.2.2.2 m 53 (by rw [tm]; decide)).trans s313
                          have s397 := (xq395.2.2.2.2.2 m 50 (by rw [tm]; decide)).trans s314
                          have s398 := (xq395.2.2.2.2.2 m 51 (by rw [tm]; decide)).trans s315
                          have s399 := (xq395.2.2.2.2.2 m 0 (by rw [tm]; decide)).trans s316
                          have s400 := (xq395.2.2.2.2.2 m 52 (by rw [tm]; decide)).trans s319
                          have pr401 := gOt.fr xq395.2 (by decide) pr321
                          have pr402 := gRow.fr xq395.2 (by decide) rf
                          have pr403 := gRow.fr xq395.2 (by decide) rt
                          refine gz_s 2 (pc' := 306) (L' := [some (.ref m), some (.int (zi q)), some (.int (zi jn8v0)), some (.int (zi 0)), none]) (S' := []) rfl ?_
                          have lp404 : ∀ (fu : Nat) (h405 : gH) (k3 : Int) (wv : Int) (bv : Int), (11 - k3).toNat < fu → gSs rT 1027 ty [1000, 1053, 1059, 1061, 1062, 1064, 1067, 1074, 1075, 31999, 32999, 33999, 34999, 36999, 37999, 38999, 39999, 40999, 41999, 42999] h h405 → (0 ≤ k3 ∧ k3 ≤ 10) → (0 ≤ wv ∧ wv ≤ 60000) → (0 ≤ bv ∧ bv ≤ 0) → (n0 = 0 ∨ (4 * wv ≤ 1000 + 560 * gTl tf tt k3 + 3468 * k3)) → (n0 = 0 → (k3 = 0 ∧ wv ≤ 45000)) → (k3 ≤ n0) → h405.2.2.2.2 m 53 = .int (zi n0) → h405.2.2.2.2 m 50 = .int (zi cw) → h405.2.2.2.2 m 51 = .int (zi ch) → h405.2.2.2.2 m 0 = .int (zi jn1v0) → h405.2.2.2.2 m 52 = .int (zi z164) → h405.2.2.2.2 m 59 = .int (zi wv) → h405.2.2.2.2 m 62 = .int (zi bv) → gOt ty 64 h405 → gRow ty 27 tf h405 → gRow ty 28 tt h405 → gz gPP gGG gcn (d + 6) gt183 306 [some (.ref m), some (.int (zi q)), some (.int (zi jn8v0)), some (.int (zi k3)), none] [] h405 (fun q _ => gSs rT 1027 ty [1000, 1053, 1059, 1061, 1062, 1064, 1067, 1074, 1075, 31999, 32999, 33999, 34999, 36999, 37999, 38999, 39999, 40999, 41999, 42999] h q.2.2 ∧ ∃ z n1 : Int, gfin gt183 q.1 q.2.1 = some (some (.int (zi z))) ∧ 0 ≤ z ∧ z ≤ 60000 ∧ q.2.2.2.2.2.2 m 53 = .int (zi n1) ∧ 0 ≤ n1 ∧ n1 ≤ 10 ∧ (gTs ty n1 q.2.2)) := by
                            intro fu
                            induction fu with
                            | zero => intro h405 k3 wv bv hm; exact absurd hm (Nat.not_lt_zero _)
                            | succ fu ihlp404 =>
                              intro h405 k3 wv bv lp404m sh405 lp404f0 lp404f1 lp404f2 lp404f3 lp404f4 lp404f5 lp404k0 lp404k1 lp404k2 lp404k3 lp404k4 lp404k5 lp404k6 lp404k7 lp404k8 lp404k9
                              have hl0 := gTl_le (f := tf) (t := tt) (k := k3) (n := n0) tle
                              refine gz_s 2 (pc' := 308) (L' := [some (.ref m), some (.int (zi q)), some (.int (zi jn8v0)), some (.int (zi k3)), none]) (S' := [.ref m, .int (zi k3)]) rfl ?_
                              refine gs_gtk rfl (by decide) rfl sh405.1 tm rfl rfl lp404k0 ?_
                              refine gy_icT (pc' := 348) rfl (by decide) (by decide) (by omega) (by omega) (by first | (simp [zc]; done) | (simp only [zc]; omega)) ?_
                              refine gz_s 2 (pc' := 352) (L' := [some (.ref m), some (.int (zi q)), some (.int (zi jn8v0)), some (.int (zi k3)), none]) (S' := [.int (zi 217), .ref m]) rfl ?_
                              refine gz_call rfl (by decide) rfl (by decide) (by decide) (gcal_of rfl rfl rfl (Nat.le_of_ble_eq_true rfl) (gJ.recv (G := gGG) sh405.1 tm rfl rfl)) (mm_putMarker _ sh405.1 m tm 217 (by omega) wv lp404k5 (by omega)) (fun q406 _ wq406 => ?_)
                              obtain ⟨pq406, oq406, hq406⟩ := q406
                              obtain ⟨xq406, fq406_0, gq406, efq406_0, afq406_0, bfq406_0, uq406_0⟩ := wq406
                              refine ⟨_, gq406, ?_⟩
                              show gz gPP gGG gcn _ _ 355 [some (.ref m), some (.int (zi q)), some (.int (zi jn8v0)), some (.int (zi k3)), none] [] hq406 _
                              have sq406 := gSs.tr sh405 xq406 (by decide)
                              have s407 := (xq406.2.2.2.2.2 m 53 (by rw [tm]; decide)).trans lp404k0
                              have s408 := (xq406.2.2.2.2.2 m 50 (by rw [tm]; decide)).trans lp404k1
                              have s409 := (xq406.2.2.2.2.2 m 51 (by rw [tm]; decide)).trans lp404k2
                              have s410 := (xq406.2.2.2.2.2 m 0 (by rw [tm]; decide)).trans lp404k3
                              have s411 := (xq406.2.2.2.2.2 m 52 (by rw [tm]; decide)).trans lp404k4
                              have s412 := (xq406.2.2.2.2.2 m 62 (by rw [tm]; decide)).trans lp404k6
                              have pr413 := gOt.fr xq406.2 (by decide) lp404k7
                              have pr414 := gRow.fr xq406.2 (by decide) lp404k8
                              have pr415 := gRow.fr xq406.2 (by decide) lp404k9
                              refine gz_s 2 (pc' := 357) (L' := [some (.ref m), some (.int (zi q)), some (.int (zi jn8v0)), some (.int (zi k3)), none]) (S' := [.int (zi 0), .ref m]) rfl ?_
                              refine gs_put rfl (by decide) rfl sq406 tm rfl rfl rfl rfl (Or.inl rfl) (by decide) (by omega) (by omega) (fun h416 sh416 eh416 fh416 => ?_)
                              have pr417 := gOt.pt fh416 tm (by decide) pr413
                              have pr418 := gRow.pt fh416 tm (by decide) pr414
                              have pr419 := gRow.pt fh416 tm (by decide) pr415
                              have s420 := (fh416 m 50 (fun q => absurd q.2 (by decide))).trans s408
                              have s421 := (fh416 m 51 (fun q => absurd q.2 (by decide))).trans s409
                              have s422 := (fh416 m 0 (fun q => absurd q.2 (by decide))).trans s410
                              have s423 := (fh416 m 52 (fun q => absurd q.2 (by decide))).trans s411
                              have s424 := (fh416 m 62 (fun q => absurd q.2 (by decide))).trans s412
                              have s425 := (fh416 m 59 (fun q => absurd q.2 (by decide))).trans efq406_0
                              refine gz_s 2 (pc' := 362) (L' := [some (.ref m), some (.int (zi q)), some (.int (zi jn8v0)), some (.int (zi 0)), none]) (S' := []) rfl ?_
                              obtain ⟨c427, ec427, tc427⟩ := gJ.ref (k := 58) (G := gGG) sh416.1 tm rfl rfl rfl
                              have hoz428 : gOz ty 31 (-1) 0 h416 := ⟨_, gRow.mk uq tc427 (by decide) (fun _ => rfl), fun j hj => absurd hj (by omega)⟩
                              have lp426 : ∀ (fu : Nat) (h429 : gH) (kz : Int), (65 - kz).toNat < fu → gSs rT 1027 ty [1000, 1053, 1059, 1061, 1062, 1064, 1067, 1074, 1075, 31999, 32999, 33999, 34999, 36999, 37999, 38999, 39999, 40999, 41999, 42999] h h429 → (0 ≤ kz ∧ kz ≤ 64) → h429.2.2.2.2 m 50 = .int (zi cw) → h429.2.2.2.2 m 51 = .int (zi ch) → h429.2.2.2.2 m 0 = .int (zi jn1v0) → h429.2.2.2.2 m 52 = .int (zi z164) → h429.2.2.2.2 m 62 = .int (zi bv) → h429.2.2.2.2 m 59 = .int (zi fq406_0) → h429.2.2.2.2 m 53 = .int (zi 0) → gOt ty 64 h429 → gRow ty 27 tf h429 → gRow ty 28 tt h429 → gOz ty 31 (-1) kz h429 → gz gPP gGG gcn (d + 6) gt183 362 [some (.ref m), some (.int (zi q)), some (.int (zi jn8v0)), some (.int (zi kz)), none] [] h429 (fun q _ => gSs rT 1027 ty [1000, 1053, 1059, 1061, 1062, 1064, 1067, 1074, 1075, 31999, 32999, 33999, 34999, 36999, 37999, 38999, 39999, 40999, 41999, 42999] h q.2.2 ∧ ∃ z n1 : Int, gfin gt183 q.1 q.2.1 = some (some (.int (zi z))) ∧ 0 ≤ z ∧ z ≤ 60000 ∧ q.2.2.2.2.2.2 m 53 = .int (zi n1) ∧ 0 ≤ n1 ∧ n1 ≤ 10 ∧ (gTs ty n1 q.2.2)) := by
                                intro fu
                                induction fu with
                                | zero => intro h429 kz hm; exact absurd hm (Nat.not_lt_zero _)
                                | succ fu ihlp426 =>
                                  intro h429 kz lp426m sh429 lp426f0 lp426k0 lp426k1 lp426k2 lp426k3 lp426k4 lp426k5 lp426k6 lp426k7 lp426k8 lp426k9 lp426k10
                                  refine gz_s 2 (pc' := 365) (L' := [some (.ref m), some (.int (zi q)), some (.int (zi jn8v0)), some (.int (zi kz)), none]) (S' := [.int (zi 64), .int (zi kz)]) rfl ?_
                                  by_cases hc430 : (64 : Int) ≤ kz
                                  · refine gy_icT (pc' := 381) rfl (by decide) (by decide) (by omega) (by omega) hc430 ?_
                                    have hts : gTs ty 0 h429 := by
                                      have e9 := lp426k10
                                      rw [(by omega : kz = 64)] at e9
                                      exact gTs.anew lp426k8 lp426k9 e9
                                    refine gz_s 1 (pc' := 382) (L' := [some (.ref m), some (.int (zi q)), some (.int (zi jn8v0)), some (.int (zi kz)), none]) (S' := [.ref m]) rfl ?_
                                    refine gs_gtk rfl (by decide) rfl sh429.1 tm rfl rfl lp426k5 ?_
                                    exact gz_end (I := .ireturn) (len := 1) rfl (Or.inl rfl) ⟨sh429, fq406_0, 0, rfl, (by omega), (by omega), lp426k6, (by omega), (by omega), hts⟩
                                  · refine gy_icF rfl (by decide) (by decide) (by omega) (by omega) hc430 ?_
                                    obtain ⟨f9, rf9, z9⟩ := lp426k10
                                    refine gz_s 1 (pc' := 369) (L' := [some (.ref m), some (.int (zi q)), some (.int (zi jn8v0)), some (.int (zi kz)), none]) (S' := [.ref m]) rfl ?_
                                    refine gs_gtr rfl (by decide) rfl sh429.1 tm rfl rfl rfl (fun c431 ec431 tc431 => ?_)
                                    refine gz_s 2 (pc' := 374) (L' := [some (.ref m), some (.int (zi q)), some (.int (zi jn8v0)), some (.int (zi kz)), none]) (S' := [.int (zi (-1)), .int (zi kz), .ref c431]) rfl ?_
                                    have hl432 : 64 ≤ h429.2.2.2.1 c431 ∧ h429.2.2.2.1 c431 ≤ 64 := gJ.rowl (G := gGG) sh429.1 tc431 rfl
                                    refine gs_ast rfl (by decide) sh429 tc431 rfl rfl rfl (by decide) (fun _ => rfl) (by omega) (by omega) (fun _ => (by decide : (31999 : Nat) ∈ ([1000, 1053, 1059, 1061, 1062, 1064, 1067, 1074, 1075, 31999, 32999, 33999, 34999, 36999, 37999, 38999, 39999, 40999, 41999, 42999] : List Nat))) (by omega) (by omega) (fun h433 sh433 eh433 fh433 => ?_)
                                    have pr434 := gOt.pt fh433 tc431 (by decide) lp426k7
                                    have pr435 := gRow.pt fh433 tc431 (by decide) lp426k8
                                    have pr436 := gRow.pt fh433 tc431 (by decide) lp426k9
                                    have pr437 := gRow.put (i := kz) (z := (-1)) uq tc431 (by decide) fh433 eh433 (by omega) (by omega) rf9
                                    have s438 := (fh433 m 50 (fun q => absurd (((tm).symm.trans (congrArg ty q.1)).trans tc431) (by decide))).trans lp426k0
                                    have s439 := (fh433 m 51 (fun q => absurd (((tm).symm.trans (congrArg ty q.1)).trans tc431) (by decide))).trans lp426k1
                                    have s440 := (fh433 m 0 (fun q => absurd (((tm).symm.trans (congrArg ty q.1)).trans tc431) (by decide))).trans lp426k2
                                    have s441 := (fh433 m 52 (fun q => absurd (((tm).symm.trans (congrArg ty q.1)).trans tc431) (by decide))).trans lp426k3
                                    have s442 := (fh433 m 62 (fun q => absurd (((tm).symm.trans (congrArg ty q.1)).trans tc431) (by decide))).trans lp426k4
                                    have s443 := (fh433 m 59 (fun q => absurd (((tm).symm.trans (congrArg ty q.1)).trans tc431) (by decide))).trans lp426k5
                                    have s444 := (fh433 m 53 (fun q => absurd (((tm).symm.trans (congrArg ty q.1)).trans tc431) (by decide))).trans lp426k6
                                    have s445 := (fh433 m 58 (fun q => absurd (((tm).symm.trans (congrArg ty q.1)).trans tc431) (by decide))).trans ec431
                                    have pr446 := gEl.set (i := kz) (z := (-1)) uq tc431 (by decide) eh433 (by omega) (by omega)
                                    have hoz447 : gOz ty 31 (-1) (kz + 1) h433 := gOz.step (by omega) pr437 z9
                                    refine gy_s 2 (pc' := 362) (L' := [some (.ref m), some (.int (zi q)), some (.int (zi jn8v0)), some (.int ((zi kz) + zi 1)), none]) (S' := []) (L2 := [some (.ref m), some (.int (zi q)), some (.int (zi jn8v0)), some (.int (zi (kz + 1))), none]) (S2 := []) rfl (by simp only [zi_add, zi_sub, zi_mul, zi_neg, zi_and1, zi_and7, zi_and15, zi_and31, zi_and255]) (by simp only [zi_add, zi_sub, zi_mul, zi_neg, zi_and1, zi_and7, zi_and15, zi_and31, zi_and255]) ?_
                                    exact gz_wk (ihlp426 h433 (kz + 1) (by omega) sh433 (by omega) s438 s439 s440 s441 s442 s443 s444 pr434 pr435 pr436 hoz447) (gLw.s (gLw.s (gLw.s (gLw.s (gLw.n gLw.z)))))
                              exact gz_wk (lp426 _ h416 0 (Nat.lt_succ_self _) sh416 (by omega) s420 s421 s422 s423 s424 s425 eh416 pr417 pr418 pr419 hoz428) (gLw.s (gLw.s (gLw.s (gLw.s (gLw.n gLw.z)))))
                          have hl9 : gTl tf tt 0 = 0 := rfl
                          exact gz_wk (lp404 _ hq395 0 fq395_0 fq395_1 (Nat.lt_succ_self _) sq395 (by omega) (by omega) (by omega) (by omega) (by omega) (by omega) s396 s397 s398 s399 s400 efq395_0 efq395_1 pr401 pr402 pr403) (gLw.s (gLw.s (gLw.s (gLw.s (gLw.n gLw.z)))))
                    by_cases hc448 : (n0 : Int) ≤ 0
                    · refine gy_ifT (pc' := 206) rfl (by decide) (by decide) (by omega) hc448 ?_
                      refine gz_s 1 (pc' := 209) (L' := [some (.ref m), some (.int (zi q)), some (.int (zi jn8v0)), some (.int (zi k1)), none]) (S' := [.int (zi 192), .ref m]) rfl ?_
                      exact jn82 192 (by omega)
                    · refine gy_ifF rfl (by decide) (by decide) (by omega) hc448 ?_
                      refine gz_s 2 (pc' := 209) (L' := [some (.ref m), some (.int (zi q)), some (.int (zi jn8v0)), some (.int (zi k1)), none]) (S' := [.int (zi 194), .ref m]) rfl ?_
                      exact jn82 194 (by omega)
                  · refine gy_icF rfl (by decide) (by decide) (by omega) (by omega) hc81 ?_
                    refine gz_s 2 (pc' := 178) (L' := [some (.ref m), some (.int (zi q)), some (.int (zi jn8v0)), some (.int (zi k1)), none]) (S' := [.ref m, .ref m]) rfl ?_
                    refine gs_gtr rfl (by decide) rfl sh80.1 tm rfl rfl rfl (fun c449 ec449 tc449 => ?_)
                    refine gz_s 1 (pc' := 182) (L' := [some (.ref m), some (.int (zi q)), some (.int (zi jn8v0)), some (.int (zi k1)), none]) (S' := [.int (zi k1), .ref c449, .ref m]) rfl ?_
                    have hl450 : 64 ≤ h80.2.2.2.1 c449 ∧ h80.2.2.2.1 c449 ≤ 64 := gJ.rowl (G := gGG) sh80.1 tc449 rfl
                    refine gs_ald rfl (by decide) sh80.1 tc449 rfl rfl rfl (by decide) (fun _ => rfl) (by omega) (by omega) (fun z451 ez451 az451 bz451 => ?_)
                    refine gz_call rfl (by decide) rfl (by decide) (by decide) (gcal_of rfl rfl rfl (Nat.le_of_ble_eq_true rfl) (gJ.recv (G := gGG) sh80.1 tm rfl rfl)) (mm_putByte _ sh80.1 m tm z451 (by omega) wa lp79k6 (by omega)) (fun q452 _ wq452 => ?_)
                    obtain ⟨pq452, oq452, hq452⟩ := q452
                    obtain ⟨xq452, fq452_0, gq452, efq452_0, afq452_0, bfq452_0, uq452_0⟩ := wq452
                    refine ⟨_, gq452, ?_⟩
                    show gz gPP gGG gcn _ _ 186 [some (.ref m), some (.int (zi q)), some (.int (zi jn8v0)), some (.int (zi k1)), none] [] hq452 _
                    have sq452 := gSs.tr sh80 xq452 (by decide)
                    have s453 := (xq452.2.2.2.2.2 m 53 (by rw [tm]; decide)).trans lp79k0
                    have s454 := (xq452.2.2.2.2.2 m 50 (by rw [tm]; decide)).trans lp79k1
                    have s455 := (xq452.2.2.2.2.2 m 51 (by rw [tm]; decide)).trans lp79k2
                    have s456 := (xq452.2.2.2.2.2 m 0 (by rw [tm]; decide)).trans lp79k3
                    have s457 := (xq452.2.2.2.2.2 m 61 (by rw [tm]; decide)).trans lp79k4
                    have s458 := (xq452.2.2.2.2.2 m 62 (by rw [tm]; decide)).trans lp79k5
                    have s459 := (xq452.2.2.2.2.2 m 65 (by rw [tm]; decide)).trans ec449
                    have pr460 := gTs.fr xq452.2 (by decide) lp79k7
                    have pr461 := gOt.fr xq452.2 (by decide) lp79k8
                    refine gy_s 2 (pc' := 170) (L' := [some (.ref m), some (.int (zi q)), some (.int (zi jn8v0)), some (.int ((zi k1) + zi 1)), none]) (S' := []) (L2 := [some (.ref m), some (.int (zi q)), some (.int (zi jn8v0)), some (.int (zi (k1 + 1))), none]) (S2 := []) rfl (by simp only [zi_add, zi_sub, zi_mul, zi_neg, zi_and1, zi_and7, zi_and15, zi_and31, zi_and255]) (by simp only [zi_add, zi_sub, zi_mul, zi_neg, zi_and1, zi_and7, zi_and15, zi_and31, zi_and255]) ?_
                    exact gz_wk (ihlp79 hq452 (k1 + 1) fq452_0 (by omega) sq452 (by omega) (by omega) (by omega) s453 s454 s455 s456 s457 s458 efq452_0 pr460 pr461) (gLw.s (gLw.s (gLw.s (gLw.s (gLw.n gLw.z)))))
              exact gz_wk (lp79 _ hq70 0 fq70_0 (Nat.lt_succ_self _) sq70 (by omega) (by omega) (by omega) s71 s72 s73 s74 s75 s76 efq70_0 pr77 pr78) (gLw.s (gLw.s (gLw.s (gLw.s (gLw.n gLw.z)))))
            · refine gy_icF rfl (by decide) (by decide) (by omega) (by omega) hc11 ?_
              refine gz_s 1 (pc' := 71) (L' := [some (.ref m), some (.int (zi q)), some (.int (zi jn8v0)), some (.int (zi k)), none]) (S' := [.ref m]) rfl ?_
              refine gs_gtr rfl (by decide) rfl sh10.1 tm rfl rfl rfl (fun c462 ec462 tc462 => ?_)
              refine gz_s 1 (pc' := 75) (L' := [some (.ref m), some (.int (zi q)), some (.int (zi jn8v0)), some (.int (zi k)), none]) (S' := [.int (zi k), .ref c462]) rfl ?_
              have hl463 : 256 ≤ h10.2.2.2.1 c462 ∧ h10.2.2.2.1 c462 ≤ 256 := gJ.rowl (G := gGG) sh10.1 tc462 rfl
              refine gs_ald rfl (by decide) sh10.1 tc462 rfl rfl rfl (by decide) (fun _ => rfl) (by omega) (by omega) (fun z464 ez464 az464 bz464 => ?_)
              have hx465 := zx_f (a := z464) (b := jn8v0) (A := 255) (B := 5000) (by omega) (by omega) (by omega) (by omega)
              refine gy_s 5 (pc' := 83) (L' := [some (.ref m), some (.int (zi q)), some (.int (zi jn8v0)), some (.int (zi k)), none]) (S' := [.int (zi 100), .int (((zi z464) * (zi jn8v0)) + (zi 50))]) (L2 := [some (.ref m), some (.int (zi q)), some (.int (zi jn8v0)), some (.int (zi k)), none]) (S2 := [.int (zi 100), .int (zi ((z464 * jn8v0) + 50))]) rfl (by simp only [zi_add, zi_sub, zi_mul, zi_neg, zi_and1, zi_and7, zi_and15, zi_and31, zi_and255]) (by simp only [zi_add, zi_sub, zi_mul, zi_neg, zi_and1, zi_and7, zi_and15, zi_and31, zi_and255]) ?_
              refine gy_div rfl (by decide) (by omega) (by omega) ?_
              refine gz_s 2 (pc' := 87) (L' := [some (.ref m), some (.int (zi q)), some (.int (zi jn8v0)), some (.int (zi k)), some (.int (zi (((z464 * jn8v0) + 50) / 100)))]) (S' := [.ref m]) rfl ?_
              refine gs_gtr rfl (by decide) rfl sh10.1 tm rfl rfl rfl (fun c466 ec466 tc466 => ?_)
              refine gz_s 3 (pc' := 94) (L' := [some (.ref m), some (.int (zi q)), some (.int (zi jn8v0)), some (.int (zi k)), some (.int (zi (((z464 * jn8v0) + 50) / 100)))]) (S' := [.int (zi 1), .int (zi (((z464 * jn8v0) + 50) / 100)), .int (zi k), .ref c466]) rfl ?_
              have jn467 : ∀ (jn467v0 : Int), ((1 ≤ jn467v0) ∧ (jn467v0 ≤ 255)) → gz gPP gGG gcn (d + 6) gt183 117 [some (.ref m), some (.int (zi q)), some (.int (zi jn8v0)), some (.int (zi k)), some (.int (zi (((z464 * jn8v0) + 50) / 100)))] [.int (zi jn467v0), .int (zi k), .ref c466] h10 (fun q _ => gSs rT 1027 ty [1000, 1053, 1059, 1061, 1062, 1064, 1067, 1074, 1075, 31999, 32999, 33999, 34999, 36999, 37999, 38999, 39999, 40999, 41999, 42999] h q.2.2 ∧ ∃ z n1 : Int, gfin gt183 q.1 q.2.1 = some (some (.int (zi z))) ∧ 0 ≤ z ∧ z ≤ 60000 ∧ q.2.2.2.2.2.2 m 53 = .int (zi n1) ∧ 0 ≤ n1 ∧ n1 ≤ 10 ∧ (gTs ty n1 q.2.2)) := by
                intro jn467v0 jn467d
                have hl468 : 64 ≤ h10.2.2.2.1 c466 ∧ h10.2.2.2.1 c466 ≤ 64 := gJ.rowl (G := gGG) sh10.1 tc466 rfl
                refine gs_ast rfl (by decide) sh10 tc466 rfl rfl rfl (by decide) (fun _ => rfl) (by omega) (by omega) (fun _ => (by decide : (34999 : Nat) ∈ ([1000, 1053, 1059, 1061, 1062, 1064, 1067, 1074, 1075, 31999, 32999, 33999, 34999, 36999, 37999, 38999, 39999, 40999, 41999, 42999] : List Nat))) (by omega) (by omega) (fun h469 sh469 eh469 fh469 => ?_)
                have pr470 := gTs.pt fh469 tc466 (by decide) lp9k4
                have s471 := (fh469 m 53 (fun q => absurd (((tm).symm.trans (congrArg ty q.1)).trans tc466) (by decide))).trans lp9k0
                have s472 := (fh469 m 50 (fun q => absurd (((tm).symm.trans (congrArg ty q.1)).trans tc466) (by decide))).trans lp9k1
                have s473 := (fh469 m 51 (fun q => absurd (((tm).symm.trans (congrArg ty q.1)).trans tc466) (by decide))).trans lp9k2
                have s474 := (fh469 m 0 (fun q => absurd (((tm).symm.trans (congrArg ty q.1)).trans tc466) (by decide))).trans lp9k3
                have s475 := (fh469 m 13 (fun q => absurd (((tm).symm.trans (congrArg ty q.1)).trans tc466) (by decide))).trans ec462
                have s476 := (fh469 m 65 (fun q => absurd (((tm).symm.trans (congrArg ty q.1)).trans tc466) (by decide))).trans ec466
                have pr477 := gEl.set (i := k) (z := jn467v0) uq tc466 (by decide) eh469 (by omega) (by omega)
                have hot478 : gOt ty (k + 1) h469 := fun i h0 h1 => by
                  by_cases e : i = k
                  · subst e; exact (gEl.set uq tc466 (by decide) eh469 (by omega) (by omega)).wd (by omega) (by omega)
                  · exact gEl.ot fh469 (lp9k5 i h0 (by omega)) (by omega)
                refine gy_s 2 (pc' := 64) (L' := [some (.ref m), some (.int (zi q)), some (.int (zi jn8v0)), some (.int ((zi k) + zi 1)), some (.int (zi (((z464 * jn8v0) + 50) / 100)))]) (S' := []) (L2 := [some (.ref m), some (.int (zi q)), some (.int (zi jn8v0)), some (.int (zi (k + 1))), some (.int (zi (((z464 * jn8v0) + 50) / 100)))]) (S2 := []) rfl (by simp only [zi_add, zi_sub, zi_mul, zi_neg, zi_and1, zi_and7, zi_and15, zi_and31, zi_and255]) (by simp only [zi_add, zi_sub, zi_mul, zi_neg, zi_and1, zi_and7, zi_and15, zi_and31, zi_and255]) ?_
                exact gz_wk (ihlp9 h469 (k + 1) (by omega) sh469 (by omega) s471 s472 s473 s474 pr470 hot478) (gLw.s (gLw.s (gLw.s (gLw.s (gLw.n gLw.z)))))
              by_cases hc479 : (1 : Int) ≤ ((z464 * jn8v0) + 50) / 100
              · refine gy_icT (pc' := 101) rfl (by decide) (by decide) (by omega) (by omega) hc479 ?_
                refine gz_s 2 (pc' := 106) (L' := [some (.ref m), some (.int (zi q)), some (.int (zi jn8v0)), some (.int (zi k)), some (.int (zi (((z464 * jn8v0) + 50) / 100)))]) (S' := [.int (zi 255), .int (zi (((z464 * jn8v0) + 50) / 100)), .int (zi k), .ref c466]) rfl ?_
                by_cases hc480 : (((z464 * jn8v0) + 50) / 100 : Int) ≤ 255
                · refine gy_icT (pc' := 115) rfl (by decide) (by decide) (by omega) (by omega) hc480 ?_
                  refine gz_s 1 (pc' := 117) (L' := [some (.ref m), some (.int (zi q)), some (.int (zi jn8v0)), some (.int (zi k)), some (.int (zi (((z464 * jn8v0) + 50) / 100)))]) (S' := [.int (zi (((z464 * jn8v0) + 50) / 100)), .int (zi k), .ref c466]) rfl ?_
                  exact jn467 (((z464 * jn8v0) + 50) / 100) (by omega)
                · refine gy_icF rfl (by decide) (by decide) (by omega) (by omega) hc480 ?_
                  refine gz_s 2 (pc' := 117) (L' := [some (.ref m), some (.int (zi q)), some (.int (zi jn8v0)), some (.int (zi k)), some (.int (zi (((z464 * jn8v0) + 50) / 100)))]) (S' := [.int (zi 255), .int (zi k), .ref c466]) rfl ?_
                  exact jn467 255 (by omega)
              · refine gy_icF rfl (by decide) (by decide) (by omega) (by omega) hc479 ?_
                refine gz_s 2 (pc' := 117) (L' := [some (.ref m), some (.int (zi q)), some (.int (zi jn8v0)), some (.int (zi k)), some (.int (zi (((z464 * jn8v0) + 50) / 100)))]) (S' := [.int (zi 1), .int (zi k), .ref c466]) rfl ?_
                exact jn467 1 (by omega)
        exact gz_wk (lp9 _ h2 0 (Nat.lt_succ_self _) sh2 (by omega) s4 s5 s6 eh2 pr3 (fun i h0 h1 => absurd h1 (by omega))) (gLw.s (gLw.s (gLw.s (gLw.s (gLw.n gLw.z)))))
      by_cases hc481 : (50 : Int) ≤ q
      · refine gy_icT (pc' := 54) rfl (by decide) (by decide) (by omega) (by omega) hc481 ?_
        refine gy_s 5 (pc' := 61) (L' := [some (.ref m), some (.int (zi q)), none, none, none]) (S' := [.int ((zi 200) - ((zi 2) * (zi q)))]) (L2 := [some (.ref m), some (.int (zi q)), none, none, none]) (S2 := [.int (zi (200 - (2 * q)))]) rfl (by simp only [zi_add, zi_sub, zi_mul, zi_neg, zi_and1, zi_and7, zi_and15, zi_and31, zi_and255]) (by simp only [zi_add, zi_sub, zi_mul, zi_neg, zi_and1, zi_and7, zi_and15, zi_and31, zi_and255]) ?_
        exact jn8 (200 - (2 * q)) (by omega)
      · refine gy_icF rfl (by decide) (by decide) (by omega) (by omega) hc481 ?_
        refine gz_s 2 (pc' := 50) (L' := [some (.ref m), some (.int (zi q)), none, none, none]) (S' := [.int (zi q), .int (zi 5000)]) rfl ?_
        refine gy_div rfl (by decide) (by omega) (by omega) ?_
        have hd482 := zd_f (x := 5000) (y := q) (by omega) (by omega)
        refine gz_s 1 (pc' := 61) (L' := [some (.ref m), some (.int (zi q)), none, none, none]) (S' := [.int (zi (5000 / q))]) rfl ?_
        exact jn8 (5000 / q) (by omega)
    · refine gy_ifF rfl (by decide) (by decide) (by omega) hc7 ?_
      refine gz_s 1 (pc' := 39) (L' := [some (.ref m), some (.int (zi q)), none, none, none]) (S' := [.int (zi 0)]) rfl ?_
      exact gz_end (I := .ireturn) (len := 1) rfl (Or.inl rfl) ⟨sh2, 0, n0, rfl, (by omega), (by omega), s4, (by omega), (by omega), pr3⟩
  by_cases hc483 : (q : Int) < 1
  · refine gy_icT (pc' := 12) rfl (by decide) (by decide) (by omega) (by omega) hc483 ?_
    refine gz_s 2 (pc' := 28) (L' := [some (.ref m), some (.int (zi q)), none, none, none]) (S' := [.int (zi 1), .ref m]) rfl ?_
    exact jn1 1 (by omega)
  · refine gy_icF rfl (by decide) (by decide) (by omega) (by omega) hc483 ?_
    refine gz_s 2 (pc' := 9) (L' := [some (.ref m), some (.int (zi q)), none, none, none]) (S' := [.int (zi 100), .int (zi q), .ref m]) rfl ?_
    by_cases hc484 : (q : Int) ≤ 100
    · refine gy_icT (pc' := 16) rfl (by decide) (by decide) (by omega) (by omega) hc484 ?_
      refine gz_s 1 (pc' := 17) (L' := [some (.ref m), some (.int (zi q)), none, none, none]) (S' := [.ref m, .ref m]) rfl ?_
      refine gs_gtk rfl (by decide) rfl hS.1 tm rfl rfl ecw ?_
      by_cases hc485 : ¬ (cw : Int) = 0
      · refine gy_ifT (pc' := 27) rfl (by decide) (by decide) (by omega) hc485 ?_
        refine gz_s 1 (pc' := 28) (L' := [some (.ref m), some (.int (zi q)), none, none, none]) (S' := [.int (zi 0), .ref m]) rfl ?_
        exact jn1 0 (by omega)
      · refine gy_ifF rfl (by decide) (by decide) (by omega) hc485 ?_
        refine gz_s 2 (pc' := 28) (L' := [some (.ref m), some (.int (zi q)), none, none, none]) (S' := [.int (zi 2), .ref m]) rfl ?_
        exact jn1 2 (by omega)
    · refine gy_icF rfl (by decide) (by decide) (by omega) (by omega) hc484 ?_
      refine gz_s 2 (pc' := 28) (L' := [some (.ref m), some (.int (zi q)), none, none, none]) (S' := [.int (zi 1), .ref m]) rfl ?_
      exact jn1 1 (by omega)
set_option maxRecDepth 20000 in
set_option maxHeartbeats 4000000 in
theorem mm_point2 (d : Nat) {ty : Nat → Nat} {h : gH} (hJ : gJ rT 1027 ty h) (m : Nat) (tm : ty m = 1) (x : Int) (rx : (-2147483648) ≤ x ∧ x ≤ 2147483647) (y : Int) (ry : (-2147483648) ≤ y ∧ y ≤ 2147483647) (v : Int) (rv : (-2147483648) ≤ v ∧ v ≤ 2147483647) (cw : Int) (ecw : h.2.2.2.2 m 50 = .int (zi cw)) (rcw : 0 ≤ cw ∧ cw ≤ 32) (ch : Int) (ech : h.2.2.2.2 m 51 = .int (zi ch)) (rch : 0 ≤ ch ∧ ch ≤ 32) (pp0 : cw = 0 ↔ ch = 0) : gz gPP gGG gcn (d + 0) gt180 0 (gent [.ref m, .int (zi x), .int (zi y), .int (zi v)] 5) [] h (fun q _ => gSs rT 1027 ty [1000, 1050, 1051, 26999] h q.2.2 ∧ ∃ z cw1 ch1 : Int, gfin gt180 q.1 q.2.1 = some (some (.int (zi z))) ∧ 0 ≤ z ∧ z ≤ 255 ∧ q.2.2.2.2.2.2 m 50 = .int (zi cw1) ∧ 0 ≤ cw1 ∧ cw1 ≤ 32 ∧ q.2.2.2.2.2.2 m 51 = .int (zi ch1) ∧ 0 ≤ ch1 ∧ ch1 ≤ 32 ∧ (cw1 = 0 ↔ ch1 = 0)) := by
  have hS : gSs rT 1027 ty [1000, 1050, 1051, 26999] h h := gSs.rf hJ
  refine gz_s 2 (pc' := 2) (L' := [some (.ref m), some (.int (zi x)), some (.int (zi y)), some (.int (zi v)), none]) (S' := [.int (zi x), .ref m]) rfl ?_
  by_cases hc1 : (x : Int) < 0
  · refine gy_ifT (pc' := 21) rfl (by decide) (by decide) (by omega) hc1 ?_
    refine gz_s 2 (pc' := 41) (L' := [some (.ref m), some (.int (zi x)), some (.int (zi y)), some (.int (zi v)), none]) (S' := [.int (zi 1), .ref m]) rfl ?_
    refine gs_put rfl (by decide) rfl hS tm rfl rfl rfl rfl (Or.inl rfl) (by decide) (by omega) (by omega) (fun h2 sh2 eh2 fh2 => ?_)
    have s3 := (fh2 m 50 (fun q => absurd q.2 (by decide))).trans ecw
    have s4 := (fh2 m 51 (fun q => absurd q.2 (by decide))).trans ech
    refine gz_s 1 (pc' := 45) (L' := [some (.ref m), some (.int (zi x)), some (.int (zi y)), some (.int (zi v)), none]) (S' := [.ref m]) rfl ?_
    refine gs_gtk rfl (by decide) rfl sh2.1 tm rfl rfl eh2 ?_
    refine gy_ifF rfl (by decide) (by decide) (by omega) (by first | (simp [zc]; done) | (simp only [zc]; omega)) ?_
    refine gz_s 1 (pc' := 52) (L' := [some (.ref m), some (.int (zi x)), some (.int (zi y)), some (.int (zi v)), none]) (S' := [.int (zi 0)]) rfl ?_
    exact gz_end (I := .ireturn) (len := 1) rfl (Or.inl rfl) ⟨sh2, 0, cw, ch, rfl, (by omega), (by omega), s3, (by omega), (by omega), s4, (by omega), (by omega), (by omega)⟩
  · refine gy_ifF rfl (by decide) (by decide) (by omega) hc1 ?_
    refine gz_s 2 (pc' := 8) (L' := [some (.ref m), some (.int (zi x)), some (.int (zi y)), some (.int (zi v)), none]) (S' := [.int (zi 31), .int (zi x), .ref m]) rfl ?_
    by_cases hc5 : (31 : Int) < x
    · refine gy_icT (pc' := 21) rfl (by decide) (by decide) (by omega) (by omega) hc5 ?_
      refine gz_s 2 (pc' := 41) (L' := [some (.ref m), some (.int (zi x)), some (.int (zi y)), some (.int (zi v)), none]) (S' := [.int (zi 1), .ref m]) rfl ?_
      refine gs_put rfl (by decide) rfl hS tm rfl rfl rfl rfl (Or.inl rfl) (by decide) (by omega) (by omega) (fun h6 sh6 eh6 fh6 => ?_)
      have s7 := (fh6 m 50 (fun q => absurd q.2 (by decide))).trans ecw
      have s8 := (fh6 m 51 (fun q => absurd q.2 (by decide))).trans ech
      refine gz_s 1 (pc' := 45) (L' := [some (.ref m), some (.int (zi x)), some (.int (zi y)), some (.int (zi v)), none]) (S' := [.ref m]) rfl ?_
      refine gs_gtk rfl (by decide) rfl sh6.1 tm rfl rfl eh6 ?_
      refine gy_ifF rfl (by decide) (by decide) (by omega) (by first | (simp [zc]; done) | (simp only [zc]; omega)) ?_
      refine gz_s 1 (pc' := 52) (L' := [some (.ref m), some (.int (zi x)), some (.int (zi y)), some (.int (zi v)), none]) (S' := [.int (zi 0)]) rfl ?_
      exact gz_end (I := .ireturn) (len := 1) rfl (Or.inl rfl) ⟨sh6, 0, cw, ch, rfl, (by omega), (by omega), s7, (by omega), (by omega), s8, (by omega), (by omega), (by omega)⟩
    · refine gy_icF rfl (by decide) (by decide) (by omega) (by omega) hc5 ?_
      refine gz_s 1 (pc' := 12) (L' := [some (.ref m), some (.int (zi x)), some (.int (zi y)), some (.int (zi v)), none]) (S' := [.int (zi y), .ref m]) rfl ?_
      by_cases hc9 : (y : Int) < 0
      · refine gy_ifT (pc' := 21) rfl (by decide) (by decide) (by omega) hc9 ?_
        refine gz_s 2 (pc' := 41) (L' := [some (.ref m), some (.int (zi x)), some (.int (zi y)), some (.int (zi v)), none]) (S' := [.int (zi 1), .ref m]) rfl ?_
        refine gs_put rfl (by decide) rfl hS tm rfl rfl rfl rfl (Or.inl rfl) (by decide) (by omega) (by omega) (fun h10 sh10 eh10 fh10 => ?_)
        have s11 := (fh10 m 50 (fun q => absurd q.2 (by decide))).trans ecw
        have s12 := (fh10 m 51 (fun q => absurd q.2 (by decide))).trans ech
        refine gz_s 1 (pc' := 45) (L' := [some (.ref m), some (.int (zi x)), some (.int (zi y)), some (.int (zi v)), none]) (S' := [.ref m]) rfl ?_
        refine gs_gtk rfl (by decide) rfl sh10.1 tm rfl rfl eh10 ?_
        refine gy_ifF rfl (by decide) (by decide) (by omega) (by first | (simp [zc]; done) | (simp only [zc]; omega)) ?_
        refine gz_s 1 (pc' := 52) (L' := [some (.ref m), some (.int (zi x)), some (.int (zi y)), some (.int (zi v)), none]) (S' := [.int (zi 0)]) rfl ?_
        exact gz_end (I := .ireturn) (len := 1) rfl (Or.inl rfl) ⟨sh10, 0, cw, ch, rfl, (by omega), (by omega), s11, (by omega), (by omega), s12, (by omega), (by omega), (by omega)⟩
      · refine gy_ifF rfl (by decide) (by decide) (by omega) hc9 ?_
        refine gz_s 2 (pc' := 18) (L' := [some (.ref m), some (.int (zi x)), some (.int (zi y)), some (.int (zi v)), none]) (S' := [.int (zi 31), .int (zi y), .ref m]) rfl ?_
        by_cases hc13 : (y : Int) ≤ 31
        · refine gy_icT (pc' := 25) rfl (by decide) (by decide) (by omega) (by omega) hc13 ?_
          refine gz_s 1 (pc' := 26) (L' := [some (.ref m), some (.int (zi x)), some (.int (zi y)), some (.int (zi v)), none]) (S' := [.int (zi v), .ref m]) rfl ?_
          by_cases hc14 : (v : Int) < 0
          · refine gy_ifT (pc' := 36) rfl (by decide) (by decide) (by omega) hc14 ?_
            refine gz_s 2 (pc' := 41) (L' := [some (.ref m), some (.int (zi x)), some (.int (zi y)), some (.int (zi v)), none]) (S' := [.int (zi 2), .ref m]) rfl ?_
            refine gs_put rfl (by decide) rfl hS tm rfl rfl rfl rfl (Or.inl rfl) (by decide) (by omega) (by omega) (fun h15 sh15 eh15 fh15 => ?_)
            have s16 := (fh15 m 50 (fun q => absurd q.2 (by decide))).trans ecw
            have s17 := (fh15 m 51 (fun q => absurd q.2 (by decide))).trans ech
            refine gz_s 1 (pc' := 45) (L' := [some (.ref m), some (.int (zi x)), some (.int (zi y)), some (.int (zi v)), none]) (S' := [.ref m]) rfl ?_
            refine gs_gtk rfl (by decide) rfl sh15.1 tm rfl rfl eh15 ?_
            refine gy_ifF rfl (by decide) (by decide) (by omega) (by first | (simp [zc]; done) | (simp only [zc]; omega)) ?_
            refine gz_s 1 (pc' := 52) (L' := [some (.ref m), some (.int (zi x)), some (.int (zi y)), some (.int (zi v)), none]) (S' := [.int (zi 0)]) rfl ?_
            exact gz_end (I := .ireturn) (len := 1) rfl (Or.inl rfl) ⟨sh15, 0, cw, ch, rfl, (by omega), (by omega), s16, (by omega), (by omega), s17, (by omega), (by omega), (by omega)⟩
          · refine gy_ifF rfl (by decide) (by decide) (by omega) hc14 ?_
            refine gz_s 2 (pc' := 33) (L' := [some (.ref m), some (.int (zi x)), some (.int (zi y)), some (.int (zi v)), none]) (S' := [.int (zi 255), .int (zi v), .ref m]) rfl ?_
            by_cases hc18 : (v : Int) ≤ 255
            · refine gy_icT (pc' := 40) rfl (by decide) (by decide) (by omega) (by omega) hc18 ?_
              refine gz_s 1 (pc' := 41) (L' := [some (.ref m), some (.int (zi x)), some (.int (zi y)), some (.int (zi v)), none]) (S' := [.int (zi 0), .ref m]) rfl ?_
              refine gs_put rfl (by decide) rfl hS tm rfl rfl rfl rfl (Or.inl rfl) (by decide) (by omega) (by omega) (fun h19 sh19 eh19 fh19 => ?_)
              have s20 := (fh19 m 50 (fun q => absurd q.2 (by decide))).trans ecw
              have s21 := (fh19 m 51 (fun q => absurd q.2 (by decide))).trans ech
              refine gz_s 1 (pc' := 45) (L' := [some (.ref m), some (.int (zi x)), some (.int (zi y)), some (.int (zi v)), none]) (S' := [.ref m]) rfl ?_
              refine gs_gtk rfl (by decide) rfl sh19.1 tm rfl rfl eh19 ?_
              refine gy_ifT (pc' := 53) rfl (by decide) (by decide) (by omega) (by first | (simp [zc]; done) | (simp only [zc]; omega)) ?_
              refine gz_s 1 (pc' := 54) (L' := [some (.ref m), some (.int (zi x)), some (.int (zi y)), some (.int (zi v)), none]) (S' := [.ref m]) rfl ?_
              refine gs_gtr rfl (by decide) rfl sh19.1 tm rfl rfl rfl (fun c22 ec22 tc22 => ?_)
              refine gy_s 5 (pc' := 63) (L' := [some (.ref m), some (.int (zi x)), some (.int (zi y)), some (.int (zi v)), none]) (S' := [.int (((zi 32) * (zi y)) + (zi x)), .ref c22]) (L2 := [some (.ref m), some (.int (zi x)), some (.int (zi y)), some (.int (zi v)), none]) (S2 := [.int (zi ((32 * y) + x)), .ref c22]) rfl (by simp only [zi_add, zi_sub, zi_mul, zi_neg, zi_and1, zi_and7, zi_and15, zi_and31, zi_and255]) (by simp only [zi_add, zi_sub, zi_mul, zi_neg, zi_and1, zi_and7, zi_and15, zi_and31, zi_and255]) ?_
              have hl23 : 1024 ≤ h19.2.2.2.1 c22 ∧ h19.2.2.2.1 c22 ≤ 1024 := gJ.rowl (G := gGG) sh19.1 tc22 rfl
              refine gs_ald rfl (by decide) sh19.1 tc22 rfl rfl rfl (by decide) (fun _ => rfl) (by omega) (by omega) (fun z24 ez24 az24 bz24 => ?_)
              refine gz_s 2 (pc' := 67) (L' := [some (.ref m), some (.int (zi x)), some (.int (zi y)), some (.int (zi v)), some (.int (zi z24))]) (S' := [.ref m]) rfl ?_
              refine gs_gtk rfl (by decide) rfl sh19.1 tm rfl rfl ec22 ?_
              refine gy_s 6 (pc' := 77) (L' := [some (.ref m), some (.int (zi x)), some (.int (zi y)), some (.int (zi v)), some (.int (zi z24))]) (S' := [.int (zi v), .int (((zi 32) * (zi y)) + (zi x)), .ref c22]) (L2 := [some (.ref m), some (.int (zi x)), some (.int (zi y)), some (.int (zi v)), some (.int (zi z24))]) (S2 := [.int (zi v), .int (zi ((32 * y) + x)), .ref c22]) rfl (by simp only [zi_add, zi_sub, zi_mul, zi_neg, zi_and1, zi_and7, zi_and15, zi_and31, zi_and255]) (by simp only [zi_add, zi_sub, zi_mul, zi_neg, zi_and1, zi_and7, zi_and15, zi_and31, zi_and255]) ?_
              have hl25 : 1024 ≤ h19.2.2.2.1 c22 ∧ h19.2.2.2.1 c22 ≤ 1024 := gJ.rowl (G := gGG) sh19.1 tc22 rfl
              refine gs_ast rfl (by decide) sh19 tc22 rfl rfl rfl (by decide) (fun _ => rfl) (by omega) (by omega) (fun _ => (by decide : (26999 : Nat) ∈ ([1000, 1050, 1051, 26999] : List Nat))) (by omega) (by omega) (fun h26 sh26 eh26 fh26 => ?_)
              have s27 := (fh26 m 50 (fun q => absurd (((tm).symm.trans (congrArg ty q.1)).trans tc22) (by decide))).trans s20
              have s28 := (fh26 m 51 (fun q => absurd (((tm).symm.trans (congrArg ty q.1)).trans tc22) (by decide))).trans s21
              have s29 := (fh26 m 0 (fun q => absurd (((tm).symm.trans (congrArg ty q.1)).trans tc22) (by decide))).trans eh19
              have s30 := (fh26 m 49 (fun q => absurd (((tm).symm.trans (congrArg ty q.1)).trans tc22) (by decide))).trans ec22
              refine gz_s 3 (pc' := 81) (L' := [some (.ref m), some (.int (zi x)), some (.int (zi y)), some (.int (zi v)), some (.int (zi z24))]) (S' := [.ref m, .int (zi x), .ref m]) rfl ?_
              refine gs_gtk rfl (by decide) rfl sh26.1 tm rfl rfl s27 ?_
              by_cases hc31 : (x : Int) < cw
              · refine gy_icT (pc' := 93) rfl (by decide) (by decide) (by omega) (by omega) hc31 ?_
                refine gz_s 1 (pc' := 94) (L' := [some (.ref m), some (.int (zi x)), some (.int (zi y)), some (.int (zi v)), some (.int (zi z24))]) (S' := [.ref m, .ref m]) rfl ?_
                refine gs_gtk rfl (by decide) rfl sh26.1 tm rfl rfl s27 ?_
                refine gs_put rfl (by decide) rfl sh26 tm rfl rfl rfl rfl (Or.inl rfl) (by decide) (by omega) (by omega) (fun h32 sh32 eh32 fh32 => ?_)
                have s33 := (fh32 m 51 (fun q => absurd q.2 (by decide))).trans s28
                have s34 := (fh32 m 0 (fun q => absurd q.2 (by decide))).trans s29
                have s35 := (fh32 m 49 (fun q => absurd q.2 (by decide))).trans s30
                refine gz_s 3 (pc' := 103) (L' := [some (.ref m), some (.int (zi x)), some (.int (zi y)), some (.int (zi v)), some (.int (zi z24))]) (S' := [.ref m, .int (zi y), .ref m]) rfl ?_
                refine gs_gtk rfl (by decide) rfl sh32.1 tm rfl rfl s33 ?_
                by_cases hc36 : (y : Int) < ch
                · refine gy_icT (pc' := 115) rfl (by decide) (by decide) (by omega) (by omega) hc36 ?_
                  refine gz_s 1 (pc' := 116) (L' := [some (.ref m), some (.int (zi x)), some (.int (zi y)), some (.int (zi v)), some (.int (zi z24))]) (S' := [.ref m, .ref m]) rfl ?_
                  refine gs_gtk rfl (by decide) rfl sh32.1 tm rfl rfl s33 ?_
                  refine gs_put rfl (by decide) rfl sh32 tm rfl rfl rfl rfl (Or.inl rfl) (by decide) (by omega) (by omega) (fun h37 sh37 eh37 fh37 => ?_)
                  have s38 := (fh37 m 0 (fun q => absurd q.2 (by decide))).trans s34
                  have s39 := (fh37 m 49 (fun q => absurd q.2 (by decide))).trans s35
                  have s40 := (fh37 m 50 (fun q => absurd q.2 (by decide))).trans eh32
                  refine gz_s 1 (pc' := 124) (L' := [some (.ref m), some (.int (zi x)), some (.int (zi y)), some (.int (zi v)), some (.int (zi z24))]) (S' := [.int (zi z24)]) rfl ?_
                  exact gz_end (I := .ireturn) (len := 1) rfl (Or.inl rfl) ⟨sh37, z24, cw, ch, rfl, (by omega), (by omega), s40, (by omega), (by omega), eh37, (by omega), (by omega), (by omega)⟩
                · refine gy_icF rfl (by decide) (by decide) (by omega) (by omega) hc36 ?_
                  refine gy_s 4 (pc' := 119) (L' := [some (.ref m), some (.int (zi x)), some (.int (zi y)), some (.int (zi v)), some (.int (zi z24))]) (S' := [.int ((zi y) + (zi 1)), .ref m]) (L2 := [some (.ref m), some (.int (zi x)), some (.int (zi y)), some (.int (zi v)), some (.int (zi z24))]) (S2 := [.int (zi (y + 1)), .ref m]) rfl (by simp only [zi_add, zi_sub, zi_mul, zi_neg, zi_and1, zi_and7, zi_and15, zi_and31, zi_and255]) (by simp only [zi_add, zi_sub, zi_mul, zi_neg, zi_and1, zi_and7, zi_and15, zi_and31, zi_and255]) ?_
                  refine gs_put rfl (by decide) rfl sh32 tm rfl rfl rfl rfl (Or.inl rfl) (by decide) (by omega) (by omega) (fun h41 sh41 eh41 fh41 => ?_)
                  have s42 := (fh41 m 0 (fun q => absurd q.2 (by decide))).trans s34
                  have s43 := (fh41 m 49 (fun q => absurd q.2 (by decide))).trans s35
                  have s44 := (fh41 m 50 (fun q => absurd q.2 (by decide))).trans eh32
                  refine gz_s 1 (pc' := 124) (L' := [some (.ref m), some (.int (zi x)), some (.int (zi y)), some (.int (zi v)), some (.int (zi z24))]) (S' := [.int (zi z24)]) rfl ?_
                  exact gz_end (I := .ireturn) (len := 1) rfl (Or.inl rfl) ⟨sh41, z24, cw, y + 1, rfl, (by omega), (by omega), s44, (by omega), (by omega), eh41, (by omega), (by omega), (by omega)⟩
              · refine gy_icF rfl (by decide) (by decide) (by omega) (by omega) hc31 ?_
                refine gy_s 4 (pc' := 97) (L' := [some (.ref m), some (.int (zi x)), some (.int (zi y)), some (.int (zi v)), some (.int (zi z24))]) (S' := [.int ((zi x) + (zi 1)), .ref m]) (L2 := [some (.ref m), some (.int (zi x)), some (.int (zi y)), some (.int (zi v)), some (.int (zi z24))]) (S2 := [.int (zi (x + 1)), .ref m]) rfl (by simp only [zi_add, zi_sub, zi_mul, zi_neg, zi_and1, zi_and7, zi_and15, zi_and31, zi_and255]) (by simp only [zi_add, zi_sub, zi_mul, zi_neg, zi_and1, zi_and7, zi_and15, zi_and31, zi_and255]) ?_
                refine gs_put rfl (by decide) rfl sh26 tm rfl rfl rfl rfl (Or.inl rfl) (by decide) (by omega) (by omega) (fun h45 sh45 eh45 fh45 => ?_)
                have s46 := (fh45 m 51 (fun q => absurd q.2 (by decide))).trans s28
                have s47 := (fh45 m 0 (fun q => absurd q.2 (by decide))).trans s29
                have s48 := (fh45 m 49 (fun q => absurd q.2 (by decide))).trans s30
                refine gz_s 3 (pc' := 103) (L' := [some (.ref m), some (.int (zi x)), some (.int (zi y)), some (.int (zi v)), some (.int (zi z24))]) (S' := [.ref m, .int (zi y), .ref m]) rfl ?_
                refine gs_gtk rfl (by decide) rfl sh45.1 tm rfl rfl s46 ?_
                by_cases hc49 : (y : Int) < ch
                · refine gy_icT (pc' := 115) rfl (by decide) (by decide) (by omega) (by omega) hc49 ?_
                  refine gz_s 1 (pc' := 116) (L' := [some (.ref m), some (.int (zi x)), some (.int (zi y)), some (.int (zi v)), some (.int (zi z24))]) (S' := [.ref m, .ref m]) rfl ?_
                  refine gs_gtk rfl (by decide) rfl sh45.1 tm rfl rfl s46 ?_
                  refine gs_put rfl (by decide) rfl sh45 tm rfl rfl rfl rfl (Or.inl rfl) (by decide) (by omega) (by omega) (fun h50 sh50 eh50 fh50 => ?_)
                  have s51 := (fh50 m 0 (fun q => absurd q.2 (by decide))).trans s47
                  have s52 := (fh50 m 49 (fun q => absurd q.2 (by decide))).trans s48
                  have s53 := (fh50 m 50 (fun q => absurd q.2 (by decide))).trans eh45
                  refine gz_s 1 (pc' := 124) (L' := [some (.ref m), some (.int (zi x)), some (.int (zi y)), some (.int (zi v)), some (.int (zi z24))]) (S' := [.int (zi z24)]) rfl ?_
                  exact gz_end (I := .ireturn) (len := 1) rfl (Or.inl rfl) ⟨sh50, z24, x + 1, ch, rfl, (by omega), (by omega), s53, (by omega), (by omega), eh50, (by omega), (by omega), (by omega)⟩
                · refine gy_icF rfl (by decide) (by decide) (by omega) (by omega) hc49 ?_
                  refine gy_s 4 (pc' := 119) (L' := [some (.ref m), some (.int (zi x)), some (.int (zi y)), some (.int (zi v)), some (.int (zi z24))]) (S' := [.int ((zi y) + (zi 1)), .ref m]) (L2 := [some (.ref m), some (.int (zi x)), some (.int (zi y)), some (.int (zi v)), some (.int (zi z24))]) (S2 := [.int (zi (y + 1)), .ref m]) rfl (by simp only [zi_add, zi_sub, zi_mul, zi_neg, zi_and1, zi_and7, zi_and15, zi_and31, zi_and255]) (by simp only [zi_add, zi_sub, zi_mul, zi_neg, zi_and1, zi_and7, zi_and15, zi_and31, zi_and255]) ?_
                  refine gs_put rfl (by decide) rfl sh45 tm rfl rfl rfl rfl (Or.inl rfl) (by decide) (by omega) (by omega) (fun h54 sh54 eh54 fh54 => ?_)
                  have s55 := (fh54 m 0 (fun q => absurd q.2 (by decide))).trans s47
                  have s56 := (fh54 m 49 (fun q => absurd q.2 (by decide))).trans s48
                  have s57 := (fh54 m 50 (fun q => absurd q.2 (by decide))).trans eh45
                  refine gz_s 1 (pc' := 124) (L' := [some (.ref m), some (.int (zi x)), some (.int (zi y)), some (.int (zi v)), some (.int (zi z24))]) (S' := [.int (zi z24)]) rfl ?_
                  exact gz_end (I := .ireturn) (len := 1) rfl (Or.inl rfl) ⟨sh54, z24, x + 1, y + 1, rfl, (by omega), (by omega), s57, (by omega), (by omega), eh54, (by omega), (by omega), (by omega)⟩
            · refine gy_icF rfl (by decide) (by decide) (by omega) (by omega) hc18 ?_
              refine gz_s 2 (pc' := 41) (L' := [some (.ref m), some (.int (zi x)), some (.int (zi y)), some (.int (zi v)), none]) (S' := [.int (zi 2), .ref m]) rfl ?_
              refine gs_put rfl (by decide) rfl hS tm rfl rfl rfl rfl (Or.inl rfl) (by decide) (by omega) (by omega) (fun h58 sh58 eh58 fh58 => ?_)
              have s59 := (fh58 m 50 (fun q => absurd q.2 (by decide))).trans ecw
              have s60 := (fh58 m 51 (fun q => absurd q.2 (by decide))).trans ech
              refine gz_s 1 (pc' := 45) (L' := [some (.ref m), some (.int (zi x)), some (.int (zi y)), some (.int (zi v)), none]) (S' := [.ref m]) rfl ?_
              refine gs_gtk rfl (by decide) rfl sh58.1 tm rfl rfl eh58 ?_
              refine gy_ifF rfl (by decide) (by decide) (by omega) (by first | (simp [zc]; done) | (simp only [zc]; omega)) ?_
              refine gz_s 1 (pc' := 52) (L' := [some (.ref m), some (.int (zi x)), some (.int (zi y)), some (.int (zi v)), none]) (S' := [.int (zi 0)]) rfl ?_
              exact gz_end (I := .ireturn) (len := 1) rfl (Or.inl rfl) ⟨sh58, 0, cw, ch, rfl, (by omega), (by omega), s59, (by omega), (by omega), s60, (by omega), (by omega), (by omega)⟩
        · refine gy_icF rfl (by decide) (by decide) (by omega) (by omega) hc13 ?_
          refine gz_s 2 (pc' := 41) (L' := [some (.ref m), some (.int (zi x)), some (.int (zi y)), some (.int (zi v)), none]) (S' := [.int (zi 1), .ref m]) rfl ?_
          refine gs_put rfl (by decide) rfl hS tm rfl rfl rfl rfl (Or.inl rfl) (by decide) (by omega) (by omega) (fun h61 sh61 eh61 fh61 => ?_)
          have s62 := (fh61 m 50 (fun q => absurd q.2 (by decide))).trans ecw
          have s63 := (fh61 m 51 (fun q => absurd q.2 (by decide))).trans ech
          refine gz_s 1 (pc' := 45) (L' := [some (.ref m), some (.int (zi x)), some (.int (zi y)), some (.int (zi v)), none]) (S' := [.ref m]) rfl ?_
          refine gs_gtk rfl (by decide) rfl sh61.1 tm rfl rfl eh61 ?_
          refine gy_ifF rfl (by decide) (by decide) (by omega) (by first | (simp [zc]; done) | (simp only [zc]; omega)) ?_
          refine gz_s 1 (pc' := 52) (L' := [some (.ref m), some (.int (zi x)), some (.int (zi y)), some (.int (zi v)), none]) (S' := [.int (zi 0)]) rfl ?_
          exact gz_end (I := .ireturn) (len := 1) rfl (Or.inl rfl) ⟨sh61, 0, cw, ch, rfl, (by omega), (by omega), s62, (by omega), (by omega), s63, (by omega), (by omega), (by omega)⟩
