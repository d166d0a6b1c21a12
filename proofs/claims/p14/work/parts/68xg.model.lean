/-! ===== the encoder of the reference (by program) ===== -/
set_option maxRecDepth 20000 in
set_option maxHeartbeats 4000000 in
theorem mw_putScan (d : Nat) {ty : Nat → Nat} {h : gH} (hJ : gJ rT 1027 ty h) (m : Nat) (tm : ty m = 1) (a : Int) (ra : 0 ≤ a ∧ a ≤ 63) (b : Int) (rb : 0 ≤ b ∧ b ≤ 63) (ov : Int) (rov : 0 ≤ ov ∧ ov ≤ 4) (bt : Int) (rbt : 0 ≤ bt ∧ bt ≤ 3) (w0 : Int) (ew0 : h.2.2.2.2 m 59 = .int (zi w0)) (rw0 : 0 ≤ w0 ∧ w0 ≤ 46000) (u0 : Int) (eu0 : h.2.2.2.2 m 61 = .int (zi u0)) (ru0 : 0 ≤ u0 ∧ u0 ≤ 127) (b0 : Int) (eb0 : h.2.2.2.2 m 62 = .int (zi b0)) (rb0 : 0 ≤ b0 ∧ b0 ≤ 0) (mb : Int) (emb : h.2.2.2.2 m 64 = .int (zi mb)) (rmb : 0 ≤ mb ∧ mb ≤ 16) (iv : Int) (eiv : h.2.2.2.2 m 52 = .int (zi iv)) (riv : 0 ≤ iv ∧ iv ≤ 100) (cf : Nat → Int) (sg : gWt) (pp0 : w0 = sg.1) (pp1 : u0 = sg.2.1) (pp2 : b0 = sg.2.2.1) (pp3 : a ≤ b) (pp4 : a = 0 → (b = 0 ∨ ov = 0)) (uq : gUq ty) (hyso : gSO ty sg h) (hyok : eeOk sg) (hyf33 : gRn (64 * mb).toNat ty 33 cf h) : gz gPP gGG gcn (d + 5) gt189 0 (gent [.ref m, .int (zi a), .int (zi b), .int (zi ov), .int (zi bt)] 7) [] h (fun q _ => gSs rT 1027 ty [1059, 1061, 1062, 1067, 1074, 1075, 32999, 36999, 37999, 38999, 39999, 40999, 41999, 42999] h q.2.2 ∧ ∃ w1 u1 b1 : Int, gfin gt189 q.1 q.2.1 = some none ∧ q.2.2.2.2.2.2 m 59 = .int (zi w1) ∧ 0 ≤ w1 ∧ w1 ≤ 60000 ∧ q.2.2.2.2.2.2 m 61 = .int (zi u1) ∧ 0 ≤ u1 ∧ u1 ≤ 127 ∧ q.2.2.2.2.2.2 m 62 = .int (zi b1) ∧ 0 ≤ b1 ∧ b1 ≤ 0 ∧ (w1 = (eSc iv a b ov bt cf (mb).toNat sg).1) ∧ (u1 = (eSc iv a b ov bt cf (mb).toNat sg).2.1) ∧ (b1 = (eSc iv a b ov bt cf (mb).toNat sg).2.2.1) ∧ (w0 ≤ w1) ∧ (4 * w1 ≤ 4 * w0 + 16 * (35 * (b - a + 1) + 73) + 2300) ∧ (gSO ty (eSc iv a b ov bt cf (mb).toNat sg) q.2.2) ∧ (eeOk (eSc iv a b ov bt cf (mb).toNat sg))) := by
  have hS : gSs rT 1027 ty [1059, 1061, 1062, 1067, 1074, 1075, 32999, 36999, 37999, 38999, 39999, 40999, 41999, 42999] h h := gSs.rf hJ
  refine gz_s 2 (pc' := 3) (L' := [some (.ref m), some (.int (zi a)), some (.int (zi b)), some (.int (zi ov)), some (.int (zi bt)), some (.int (zi 0)), none]) (S' := []) rfl ?_
  have lp1 : ∀ (fu : Nat) (h2 : gH) (k : Int), (515 - k).toNat < fu → gSs rT 1027 ty [1059, 1061, 1062, 1067, 1074, 1075, 32999, 36999, 37999, 38999, 39999, 40999, 41999, 42999] h h2 → (0 ≤ k ∧ k ≤ 514) → h2.2.2.2.2 m 59 = .int (zi w0) → h2.2.2.2.2 m 61 = .int (zi u0) → h2.2.2.2.2 m 62 = .int (zi b0) → h2.2.2.2.2 m 64 = .int (zi mb) → h2.2.2.2.2 m 52 = .int (zi iv) → gSO ty sg h2 → eeOk sg → gRn (64 * mb).toNat ty 33 cf h2 → gRn (k).toNat ty 36 (fun _ => 0) h2 → gz gPP gGG gcn (d + 5) gt189 3 [some (.ref m), some (.int (zi a)), some (.int (zi b)), some (.int (zi ov)), some (.int (zi bt)), some (.int (zi k)), none] [] h2 (fun q _ => gSs rT 1027 ty [1059, 1061, 1062, 1067, 1074, 1075, 32999, 36999, 37999, 38999, 39999, 40999, 41999, 42999] h q.2.2 ∧ ∃ w1 u1 b1 : Int, gfin gt189 q.1 q.2.1 = some none ∧ q.2.2.2.2.2.2 m 59 = .int (zi w1) ∧ 0 ≤ w1 ∧ w1 ≤ 60000 ∧ q.2.2.2.2.2.2 m 61 = .int (zi u1) ∧ 0 ≤ u1 ∧ u1 ≤ 127 ∧ q.2.2.2.2.2.2 m 62 = .int (zi b1) ∧ 0 ≤ b1 ∧ b1 ≤ 0 ∧ (w1 = (eSc iv a b ov bt cf (mb).toNat sg).1) ∧ (u1 = (eSc iv a b ov bt cf (mb).toNat sg).2.1) ∧ (b1 = (eSc iv a b ov bt cf (mb).toNat sg).2.2.1) ∧ (w0 ≤ w1) ∧ (4 * w1 ≤ 4 * w0 + 16 * (35 * (b - a + 1) + 73) + 2300) ∧ (gSO ty (eSc iv a b ov bt cf (mb).toNat sg) q.2.2) ∧ (eeOk (eSc iv a b ov bt cf (mb).toNat sg))) := by
    intro fu
    induction fu with
    | zero => intro h2 k hm; exact absurd hm (Nat.not_lt_zero _)
    | succ fu ihlp1 =>
      intro h2 k lp1m sh2 lp1f0 lp1k0 lp1k1 lp1k2 lp1k3 lp1k4 lp1k5 lp1k6 lp1k7 lp1k8
      refine gz_s 2 (pc' := 8) (L' := [some (.ref m), some (.int (zi a)), some (.int (zi b)), some (.int (zi ov)), some (.int (zi bt)), some (.int (zi k)), none]) (S' := [.int (zi 514), .int (zi k)]) rfl ?_
      by_cases hc3 : (514 : Int) ≤ k
      · refine gy_icT (pc' := 25) rfl (by decide) (by decide) (by omega) (by omega) hc3 ?_
        have hrw4 : gRn 514 ty 36 (eeJ e0w e0w) h2 := by
          have e9 := lp1k8
          rw [(by omega : (k).toNat = 514)] at e9
          exact gRn.cg e0w_J e9
        refine gz_s 2 (pc' := 27) (L' := [some (.ref m), some (.int (zi a)), some (.int (zi b)), some (.int (zi ov)), some (.int (zi bt)), some (.int (zi k)), none]) (S' := [.int (zi 0), .ref m]) rfl ?_
        refine gs_put rfl (by decide) rfl sh2 tm rfl rfl rfl rfl (Or.inl rfl) (by decide) (by omega) (by omega) (fun h5 sh5 eh5 fh5 => ?_)
        have pr6 := gSO.pt fh5 tm (by decide) lp1k5
        have pr7 := gRn.pt fh5 tm (by decide) lp1k7
        have pr8 := gRn.pt fh5 tm (by decide) hrw4
        have s9 := (fh5 m 59 (fun q => absurd q.2 (by decide))).trans lp1k0
        have s10 := (fh5 m 61 (fun q => absurd q.2 (by decide))).trans lp1k1
        have s11 := (fh5 m 62 (fun q => absurd q.2 (by decide))).trans lp1k2
        have s12 := (fh5 m 64 (fun q => absurd q.2 (by decide))).trans lp1k3
        have s13 := (fh5 m 52 (fun q => absurd q.2 (by decide))).trans lp1k4
        refine gz_s 5 (pc' := 36) (L' := [some (.ref m), some (.int (zi a)), some (.int (zi b)), some (.int (zi ov)), some (.int (zi bt)), some (.int (zi k)), none]) (S' := [.int (zi bt), .int (zi ov), .int (zi b), .int (zi a), .ref m]) rfl ?_
        refine gz_call rfl (by decide) rfl (by decide) (by decide) (gcal_of rfl rfl rfl (Nat.le_of_ble_eq_true rfl) (gJ.recv (G := gGG) sh5.1 tm rfl rfl)) (mn_putBlocks _ sh5.1 m tm a (by omega) b (by omega) ov (by omega) bt (by omega) 0 eh5 (by omega) mb s12 (by omega) iv s13 (by omega) cf e0w e0w (by omega) (by omega) uq pr7 pr8 e0w_B e0w_B) (fun q14 _ wq14 => ?_)
        obtain ⟨pq14, oq14, hq14⟩ := q14
        obtain ⟨xq14, gq14, yq14_0⟩ := wq14
        refine ⟨_, gq14, ?_⟩
        show gz gPP gGG gcn _ _ 39 [some (.ref m), some (.int (zi a)), some (.int (zi b)), some (.int (zi ov)), some (.int (zi bt)), some (.int (zi k)), none] [] hq14 _
        have sq14 := gSs.tr sh5 xq14 (by decide)
        have s15 := (xq14.2.2.2.2.2 m 59 (by rw [tm]; decide)).trans s9
        have s16 := (xq14.2.2.2.2.2 m 61 (by rw [tm]; decide)).trans s10
        have s17 := (xq14.2.2.2.2.2 m 62 (by rw [tm]; decide)).trans s11
        have s18 := (xq14.2.2.2.2.2 m 64 (by rw [tm]; decide)).trans s12
        have s19 := (xq14.2.2.2.2.2 m 52 (by rw [tm]; decide)).trans s13
        have s20 := (xq14.2.2.2.2.2 m 67 (by rw [tm]; decide)).trans eh5
        have pr21 := gSO.fr xq14.2 (by decide) pr6
        have pr22 := gRn.fr xq14.2 (by decide) pr7
        have hB9 := ecK_B (iv := iv) (fr := a) (tt := b) (hg := ov) (lw := bt) (cf := cf) (by omega) (by omega) (n := (mb).toNat) (by omega)
        have h69 := ec256 (iv := iv) (fr := a) (tt := b) (hg := ov) (lw := bt) (cf := cf) (w0 := e1w) (w1 := e1w) (by decide) (by decide) (mb).toNat
        refine gz_s 2 (pc' := 41) (L' := [some (.ref m), some (.int (zi a)), some (.int (zi b)), some (.int (zi ov)), some (.int (zi bt)), some (.int (zi k)), none]) (S' := [.int (zi 1), .ref m]) rfl ?_
        refine gs_put rfl (by decide) rfl sq14 tm rfl rfl rfl rfl (Or.inl rfl) (by decide) (by omega) (by omega) (fun h23 sh23 eh23 fh23 => ?_)
        have pr24 := gSO.pt fh23 tm (by decide) pr21
        have pr25 := gRn.pt fh23 tm (by decide) pr22
        have pr26 := gRn.pt fh23 tm (by decide) yq14_0
        have s27 := (fh23 m 59 (fun q => absurd q.2 (by decide))).trans s15
        have s28 := (fh23 m 61 (fun q => absurd q.2 (by decide))).trans s16
        have s29 := (fh23 m 62 (fun q => absurd q.2 (by decide))).trans s17
        have s30 := (fh23 m 64 (fun q => absurd q.2 (by decide))).trans s18
        have s31 := (fh23 m 52 (fun q => absurd q.2 (by decide))).trans s19
        refine gz_s 4 (pc' := 50) (L' := [some (.ref m), some (.int (zi a)), some (.int (zi b)), some (.int (zi ov)), some (.int (zi bt)), some (.int (zi 0)), none]) (S' := [.int (zi 2), .int (zi 0)]) rfl ?_
        refine gy_icF rfl (by decide) (by decide) (by omega) (by omega) (by first | (simp [zc]; done) | (simp only [zc]; omega)) ?_
        refine gz_s 1 (pc' := 55) (L' := [some (.ref m), some (.int (zi a)), some (.int (zi b)), some (.int (zi ov)), some (.int (zi bt)), some (.int (zi 0)), none]) (S' := [.int (zi 0)]) rfl ?_
        refine gy_ifF rfl (by decide) (by decide) (by omega) (by first | (simp [zc]; done) | (simp only [zc]; omega)) ?_
        refine gz_s 1 (pc' := 59) (L' := [some (.ref m), some (.int (zi a)), some (.int (zi b)), some (.int (zi ov)), some (.int (zi bt)), some (.int (zi 0)), none]) (S' := [.int (zi a)]) rfl ?_
        have jn32 : ∀ (jn32v0 : Int), ((0 ≤ jn32v0) ∧ (jn32v0 ≤ 1) ∧ (jn32v0 = 1 → (a = 0 ∧ ov = 0)) ∧ (jn32v0 = 0 → (¬ a = 0 ∨ ¬ ov = 0))) → gz gPP gGG gcn (d + 5) gt189 83 [some (.ref m), some (.int (zi a)), some (.int (zi b)), some (.int (zi ov)), some (.int (zi bt)), some (.int (zi 0)), none] [.int (zi jn32v0)] h23 (fun q _ => gSs rT 1027 ty [1059, 1061, 1062, 1067, 1074, 1075, 32999, 36999, 37999, 38999, 39999, 40999, 41999, 42999] h q.2.2 ∧ ∃ w1 u1 b1 : Int, gfin gt189 q.1 q.2.1 = some none ∧ q.2.2.2.2.2.2 m 59 = .int (zi w1) ∧ 0 ≤ w1 ∧ w1 ≤ 60000 ∧ q.2.2.2.2.2.2 m 61 = .int (zi u1) ∧ 0 ≤ u1 ∧ u1 ≤ 127 ∧ q.2.2.2.2.2.2 m 62 = .int (zi b1) ∧ 0 ≤ b1 ∧ b1 ≤ 0 ∧ (w1 = (eSc iv a b ov bt cf (mb).toNat sg).1) ∧ (u1 = (eSc iv a b ov bt cf (mb).toNat sg).2.1) ∧ (b1 = (eSc iv a b ov bt cf (mb).toNat sg).2.2.1) ∧ (w0 ≤ w1) ∧ (4 * w1 ≤ 4 * w0 + 16 * (35 * (b - a + 1) + 73) + 2300) ∧ (gSO ty (eSc iv a b ov bt cf (mb).toNat sg) q.2.2) ∧ (eeOk (eSc iv a b ov bt cf (mb).toNat sg))) := by
          intro jn32v0 jn32d
          refine gz_s 2 (pc' := 87) (L' := [some (.ref m), some (.int (zi a)), some (.int (zi b)), some (.int (zi ov)), some (.int (zi bt)), some (.int (zi 0)), some (.int (zi jn32v0))]) (S' := [.int (zi jn32v0)]) rfl ?_
          by_cases hc33 : (jn32v0 : Int) = 0
          · refine gy_ifT (pc' := 118) rfl (by decide) (by decide) (by omega) hc33 ?_
            refine gy_s 4 (pc' := 50) (L' := [some (.ref m), some (.int (zi a)), some (.int (zi b)), some (.int (zi ov)), some (.int (zi bt)), some (.int ((zi 0) + zi 1)), some (.int (zi jn32v0))]) (S' := [.int (zi 2), .int ((zi 0) + zi 1)]) (L2 := [some (.ref m), some (.int (zi a)), some (.int (zi b)), some (.int (zi ov)), some (.int (zi bt)), some (.int (zi 1)), some (.int (zi jn32v0))]) (S2 := [.int (zi 2), .int (zi 1)]) rfl (by simp only [zi_add, zi_sub, zi_mul, zi_neg, zi_and1, zi_and7, zi_and15, zi_and31, zi_and255, Int.reduceAdd, Int.reduceMul, Int.reduceSub]) (by simp only [zi_add, zi_sub, zi_mul, zi_neg, zi_and1, zi_and7, zi_and15, zi_and31, zi_and255, Int.reduceAdd, Int.reduceMul, Int.reduceSub]) ?_
            refine gy_icF rfl (by decide) (by decide) (by omega) (by omega) (by first | (simp [zc]; done) | (simp only [zc]; omega)) ?_
            refine gz_s 1 (pc' := 55) (L' := [some (.ref m), some (.int (zi a)), some (.int (zi b)), some (.int (zi ov)), some (.int (zi bt)), some (.int (zi 1)), some (.int (zi jn32v0))]) (S' := [.int (zi 1)]) rfl ?_
            refine gy_ifT (pc' := 74) rfl (by decide) (by decide) (by omega) (by first | (simp [zc]; done) | (simp only [zc]; omega)) ?_
            refine gz_s 1 (pc' := 75) (L' := [some (.ref m), some (.int (zi a)), some (.int (zi b)), some (.int (zi ov)), some (.int (zi bt)), some (.int (zi 1)), some (.int (zi jn32v0))]) (S' := [.int (zi b)]) rfl ?_
            have jn34 : ∀ (jn34v0 : Int), ((0 ≤ jn34v0) ∧ (jn34v0 ≤ 1) ∧ (jn34v0 = 1 → 0 < b) ∧ (jn34v0 = 0 → b ≤ 0)) → gz gPP gGG gcn (d + 5) gt189 83 [some (.ref m), some (.int (zi a)), some (.int (zi b)), some (.int (zi ov)), some (.int (zi bt)), some (.int (zi 1)), some (.int (zi jn32v0))] [.int (zi jn34v0)] h23 (fun q _ => gSs rT 1027 ty [1059, 1061, 1062, 1067, 1074, 1075, 32999, 36999, 37999, 38999, 39999, 40999, 41999, 42999] h q.2.2 ∧ ∃ w1 u1 b1 : Int, gfin gt189 q.1 q.2.1 = some none ∧ q.2.2.2.2.2.2 m 59 = .int (zi w1) ∧ 0 ≤ w1 ∧ w1 ≤ 60000 ∧ q.2.2.2.2.2.2 m 61 = .int (zi u1) ∧ 0 ≤ u1 ∧ u1 ≤ 127 ∧ q.2.2.2.2.2.2 m 62 = .int (zi b1) ∧ 0 ≤ b1 ∧ b1 ≤ 0 ∧ (w1 = (eSc iv a b ov bt cf (mb).toNat sg).1) ∧ (u1 = (eSc iv a b ov bt cf (mb).toNat sg).2.1) ∧ (b1 = (eSc iv a b ov bt cf (mb).toNat sg).2.2.1) ∧ (w0 ≤ w1) ∧ (4 * w1 ≤ 4 * w0 + 16 * (35 * (b - a + 1) + 73) + 2300) ∧ (gSO ty (eSc iv a b ov bt cf (mb).toNat sg) q.2.2) ∧ (eeOk (eSc iv a b ov bt cf (mb).toNat sg))) := by
              intro jn34v0 jn34d
              refine gz_s 2 (pc' := 87) (L' := [some (.ref m), some (.int (zi a)), some (.int (zi b)), some (.int (zi ov)), some (.int (zi bt)), some (.int (zi 1)), some (.int (zi jn34v0))]) (S' := [.int (zi jn34v0)]) rfl ?_
              by_cases hc35 : (jn34v0 : Int) = 0
              · refine gy_ifT (pc' := 118) rfl (by decide) (by decide) (by omega) hc35 ?_
                refine gy_s 4 (pc' := 50) (L' := [some (.ref m), some (.int (zi a)), some (.int (zi b)), some (.int (zi ov)), some (.int (zi bt)), some (.int ((zi 1) + zi 1)), some (.int (zi jn34v0))]) (S' := [.int (zi 2), .int ((zi 1) + zi 1)]) (L2 := [some (.ref m), some (.int (zi a)), some (.int (zi b)), some (.int (zi ov)), some (.int (zi bt)), some (.int (zi 2)), some (.int (zi jn34v0))]) (S2 := [.int (zi 2), .int (zi 2)]) rfl (by simp only [zi_add, zi_sub, zi_mul, zi_neg, zi_and1, zi_and7, zi_and15, zi_and31, zi_and255, Int.reduceAdd, Int.reduceMul, Int.reduceSub]) (by simp only [zi_add, zi_sub, zi_mul, zi_neg, zi_and1, zi_and7, zi_and15, zi_and31, zi_and255, Int.reduceAdd, Int.reduceMul, Int.reduceSub]) ?_
                refine gy_icT (pc' := 124) rfl (by decide) (by decide) (by omega) (by omega) (by first | (simp [zc]; done) | (simp only [zc]; omega)) ?_
                have htk36 : gTk (a = 0 ∧ ov = 0) 0 ty (ekc (ehN ((ecK iv a b ov bt cf e1w e1w (mb).toNat).2.1))) h23 := fun w => absurd w (by omega)
                have htk37 : gTk (0 < b) 1 ty (ekc (ehN ((ecK iv a b ov bt cf e1w e1w (mb).toNat).2.2))) h23 := fun w => absurd w (by omega)
                refine gz_s 2 (pc' := 128) (L' := [some (.ref m), some (.int (zi a)), some (.int (zi b)), some (.int (zi ov)), some (.int (zi bt)), some (.int (zi 2)), some (.int (zi jn34v0))]) (S' := [.int (zi 218), .ref m]) rfl ?_
                refine gz_call rfl (by decide) rfl (by decide) (by decide) (gcal_of rfl rfl rfl (Nat.le_of_ble_eq_true rfl) (gJ.recv (G := gGG) sh23.1 tm rfl rfl)) (mw_putMarker _ sh23.1 m tm 218 (by omega) w0 s27 (by omega) sg (by omega) uq pr24 lp1k6) (fun q38 _ wq38 => ?_)
                obtain ⟨pq38, oq38, hq38⟩ := q38
                obtain ⟨xq38, fq38_0, gq38, efq38_0, afq38_0, bfq38_0, uq38_0, uq38_1, uq38_2, uq38_3, yq38_0, yq38_1⟩ := wq38
                refine ⟨_, gq38, ?_⟩
                show gz gPP gGG gcn _ _ 131 [some (.ref m), some (.int (zi a)), some (.int (zi b)), some (.int (zi ov)), some (.int (zi bt)), some (.int (zi 2)), some (.int (zi jn34v0))] [] hq38 _
                have sq38 := gSs.tr sh23 xq38 (by decide)
                have s39 := (xq38.2.2.2.2.2 m 61 (by rw [tm]; decide)).trans s28
                have s40 := (xq38.2.2.2.2.2 m 62 (by rw [tm]; decide)).trans s29
                have s41 := (xq38.2.2.2.2.2 m 64 (by rw [tm]; decide)).trans s30
                have s42 := (xq38.2.2.2.2.2 m 52 (by rw [tm]; decide)).trans s31
                have s43 := (xq38.2.2.2.2.2 m 67 (by rw [tm]; decide)).trans eh23
                have pr44 := gRn.fr xq38.2 (by decide) pr25
                have pr45 := gTk.fr xq38.2 (by decide) (by decide) htk36
                have pr46 := gTk.fr xq38.2 (by decide) (by decide) htk37
                refine gz_s 2 (pc' := 134) (L' := [some (.ref m), some (.int (zi a)), some (.int (zi b)), some (.int (zi ov)), some (.int (zi bt)), some (.int (zi 2)), some (.int (zi jn34v0))]) (S' := [.int (zi 8), .ref m]) rfl ?_
                refine gz_call rfl (by decide) rfl (by decide) (by decide) (gcal_of rfl rfl rfl (Nat.le_of_ble_eq_true rfl) (gJ.recv (G := gGG) sq38.1 tm rfl rfl)) (mw_putTwo _ sq38.1 m tm 8 (by omega) fq38_0 efq38_0 (by omega) (eeM sg 218) (by omega) uq yq38_0 yq38_1) (fun q47 _ wq47 => ?_)
                obtain ⟨pq47, oq47, hq47⟩ := q47
                obtain ⟨xq47, fq47_0, gq47, efq47_0, afq47_0, bfq47_0, uq47_0, uq47_1, uq47_2, uq47_3, yq47_0, yq47_1⟩ := wq47
                refine ⟨_, gq47, ?_⟩
                show gz gPP gGG gcn _ _ 137 [some (.ref m), some (.int (zi a)), some (.int (zi b)), some (.int (zi ov)), some (.int (zi bt)), some (.int (zi 2)), some (.int (zi jn34v0))] [] hq47 _
                have sq47 := gSs.tr sq38 xq47 (by decide)
                have s48 := (xq47.2.2.2.2.2 m 61 (by rw [tm]; decide)).trans s39
                have s49 := (xq47.2.2.2.2.2 m 62 (by rw [tm]; decide)).trans s40
                have s50 := (xq47.2.2.2.2.2 m 64 (by rw [tm]; decide)).trans s41
                have s51 := (xq47.2.2.2.2.2 m 52 (by rw [tm]; decide)).trans s42
                have s52 := (xq47.2.2.2.2.2 m 67 (by rw [tm]; decide)).trans s43
                have pr53 := gRn.fr xq47.2 (by decide) pr44
                have pr54 := gTk.fr xq47.2 (by decide) (by decide) pr45
                have pr55 := gTk.fr xq47.2 (by decide) (by decide) pr46
                refine gz_s 2 (pc' := 139) (L' := [some (.ref m), some (.int (zi a)), some (.int (zi b)), some (.int (zi ov)), some (.int (zi bt)), some (.int (zi 2)), some (.int (zi jn34v0))]) (S' := [.int (zi 1), .ref m]) rfl ?_
                refine gz_call rfl (by decide) rfl (by decide) (by decide) (gcal_of rfl rfl rfl (Nat.le_of_ble_eq_true rfl) (gJ.recv (G := gGG) sq47.1 tm rfl rfl)) (mw_putByte _ sq47.1 m tm 1 (by omega) fq47_0 efq47_0 (by omega) (eeT (eeM sg 218) 8) (by omega) uq yq47_0 yq47_1) (fun q56 _ wq56 => ?_)
                obtain ⟨pq56, oq56, hq56⟩ := q56
                obtain ⟨xq56, fq56_0, gq56, efq56_0, afq56_0, bfq56_0, uq56_0, uq56_1, uq56_2, uq56_3, yq56_0, yq56_1⟩ := wq56
                refine ⟨_, gq56, ?_⟩
                show gz gPP gGG gcn _ _ 142 [some (.ref m), some (.int (zi a)), some (.int (zi b)), some (.int (zi ov)), some (.int (zi bt)), some (.int (zi 2)), some (.int (zi jn34v0))] [] hq56 _
                have sq56 := gSs.tr sq47 xq56 (by decide)
                have s57 := (xq56.2.2.2.2.2 m 61 (by rw [tm]; decide)).trans s48
                have s58 := (xq56.2.2.2.2.2 m 62 (by rw [tm]; decide)).trans s49
                have s59 := (xq56.2.2.2.2.2 m 64 (by rw [tm]; decide)).trans s50
                have s60 := (xq56.2.2.2.2.2 m 52 (by rw [tm]; decide)).trans s51
                have s61 := (xq56.2.2.2.2.2 m 67 (by rw [tm]; decide)).trans s52
                have pr62 := gRn.fr xq56.2 (by decide) pr53
                have pr63 := gTk.fr xq56.2 (by decide) (by decide) pr54
                have pr64 := gTk.fr xq56.2 (by decide) (by decide) pr55
                refine gz_s 2 (pc' := 144) (L' := [some (.ref m), some (.int (zi a)), some (.int (zi b)), some (.int (zi ov)), some (.int (zi bt)), some (.int (zi 2)), some (.int (zi jn34v0))]) (S' := [.int (zi 1), .ref m]) rfl ?_
                refine gz_call rfl (by decide) rfl (by decide) (by decide) (gcal_of rfl rfl rfl (Nat.le_of_ble_eq_true rfl) (gJ.recv (G := gGG) sq56.1 tm rfl rfl)) (mw_putByte _ sq56.1 m tm 1 (by omega) fq56_0 efq56_0 (by omega) (eeB (eeT (eeM sg 218) 8) 1) (by omega) uq yq56_0 yq56_1) (fun q65 _ wq65 => ?_)
                obtain ⟨pq65, oq65, hq65⟩ := q65
                obtain ⟨xq65, fq65_0, gq65, efq65_0, afq65_0, bfq65_0, uq65_0, uq65_1, uq65_2, uq65_3, yq65_0, yq65_1⟩ := wq65
                refine ⟨_, gq65, ?_⟩
                show gz gPP gGG gcn _ _ 147 [some (.ref m), some (.int (zi a)), some (.int (zi b)), some (.int (zi ov)), some (.int (zi bt)), some (.int (zi 2)), some (.int (zi jn34v0))] [] hq65 _
                have sq65 := gSs.tr sq56 xq65 (by decide)
                have s66 := (xq65.2.2.2.2.2 m 61 (by rw [tm]; decide)).trans s57
                have s67 := (xq65.2.2.2.2.2 m 62 (by rw [tm]; decide)).trans s58
                have s68 := (xq65.2.2.2.2.2 m 64 (by rw [tm]; decide)).trans s59
                have s69 := (xq65.2.2.2.2.2 m 52 (by rw [tm]; decide)).trans s60
                have s70 := (xq65.2.2.2.2.2 m 67 (by rw [tm]; decide)).trans s61
                have pr71 := gRn.fr xq65.2 (by decide) pr62
                have pr72 := gTk.fr xq65.2 (by decide) (by decide) pr63
                have pr73 := gTk.fr xq65.2 (by decide) (by decide) pr64
                refine gz_s 2 (pc' := 149) (L' := [some (.ref m), some (.int (zi a)), some (.int (zi b)), some (.int (zi ov)), some (.int (zi bt)), some (.int (zi 2)), some (.int (zi jn34v0))]) (S' := [.int (zi 0), .ref m]) rfl ?_
                refine gz_call rfl (by decide) rfl (by decide) (by decide) (gcal_of rfl rfl rfl (Nat.le_of_ble_eq_true rfl) (gJ.recv (G := gGG) sq65.1 tm rfl rfl)) (mw_putByte _ sq65.1 m tm 0 (by omega) fq65_0 efq65_0 (by omega) (eeB (eeB (eeT (eeM sg 218) 8) 1) 1) (by omega) uq yq65_0 yq65_1) (fun q74 _ wq74 => ?_)
                obtain ⟨pq74, oq74, hq74⟩ := q74
                obtain ⟨xq74, fq74_0, gq74, efq74_0, afq74_0, bfq74_0, uq74_0, uq74_1, uq74_2, uq74_3, yq74_0, yq74_1⟩ := wq74
                refine ⟨_, gq74, ?_⟩
                show gz gPP gGG gcn _ _ 152 [some (.ref m), some (.int (zi a)), some (.int (zi b)), some (.int (zi ov)), some (.int (zi bt)), some (.int (zi 2)), some (.int (zi jn34v0))] [] hq74 _
                have sq74 := gSs.tr sq65 xq74 (by decide)
                have s75 := (xq74.2.2.2.2.2 m 61 (by rw [tm]; decide)).trans s66
                have s76 := (xq74.2.2.2.2.2 m 62 (by rw [tm]; decide)).trans s67
                have s77 := (xq74.2.2.2.2.2 m 64 (by rw [tm]; decide)).trans s68
                have s78 := (xq74.2.2.2.2.2 m 52 (by rw [tm]; decide)).trans s69
                have s79 := (xq74.2.2.2.2.2 m 67 (by rw [tm]; decide)).trans s70
                have pr80 := gRn.fr xq74.2 (by decide) pr71
                have pr81 := gTk.fr xq74.2 (by decide) (by decide) pr72
                have pr82 := gTk.fr xq74.2 (by decide) (by decide) pr73
                refine gz_s 2 (pc' := 154) (L' := [some (.ref m), some (.int (zi a)), some (.int (zi b)), some (.int (zi ov)), some (.int (zi bt)), some (.int (zi 2)), some (.int (zi jn34v0))]) (S' := [.int (zi a), .ref m]) rfl ?_
                refine gz_call rfl (by decide) rfl (by decide) (by decide) (gcal_of rfl rfl rfl (Nat.le_of_ble_eq_true rfl) (gJ.recv (G := gGG) sq74.1 tm rfl rfl)) (mw_putByte _ sq74.1 m tm a (by omega) fq74_0 efq74_0 (by omega) (eeB (eeB (eeB (eeT (eeM sg 218) 8) 1) 1) 0) (by omega) uq yq74_0 yq74_1) (fun q83 _ wq83 => ?_)
                obtain ⟨pq83, oq83, hq83⟩ := q83
                obtain ⟨xq83, fq83_0, gq83, efq83_0, afq83_0, bfq83_0, uq83_0, uq83_1, uq83_2, uq83_3, yq83_0, yq83_1⟩ := wq83
                refine ⟨_, gq83, ?_⟩
                show gz gPP gGG gcn _ _ 157 [some (.ref m), some (.int (zi a)), some (.int (zi b)), some (.int (zi ov)), some (.int (zi bt)), some (.int (zi 2)), some (.int (zi jn34v0))] [] hq83 _
                have sq83 := gSs.tr sq74 xq83 (by decide)
                have s84 := (xq83.2.2.2.2.2 m 61 (by rw [tm]; decide)).trans s75
                have s85 := (xq83.2.2.2.2.2 m 62 (by rw [tm]; decide)).trans s76
                have s86 := (xq83.2.2.2.2.2 m 64 (by rw [tm]; decide)).trans s77
                have s87 := (xq83.2.2.2.2.2 m 52 (by rw [tm]; decide)).trans s78
                have s88 := (xq83.2.2.2.2.2 m 67 (by rw [tm]; decide)).trans s79
                have pr89 := gRn.fr xq83.2 (by decide) pr80
                have pr90 := gTk.fr xq83.2 (by decide) (by decide) pr81
                have pr91 := gTk.fr xq83.2 (by decide) (by decide) pr82
                refine gz_s 2 (pc' := 159) (L' := [some (.ref m), some (.int (zi a)), some (.int (zi b)), some (.int (zi ov)), some (.int (zi bt)), some (.int (zi 2)), some (.int (zi jn34v0))]) (S' := [.int (zi b), .ref m]) rfl ?_
                refine gz_call rfl (by decide) rfl (by decide) (by decide) (gcal_of rfl rfl rfl (Nat.le_of_ble_eq_true rfl) (gJ.recv (G := gGG) sq83.1 tm rfl rfl)) (mw_putByte _ sq83.1 m tm b (by omega) fq83_0 efq83_0 (by omega) (eeB (eeB (eeB (eeB (eeT (eeM sg 218) 8) 1) 1) 0) a) (by omega) uq yq83_0 yq83_1) (fun q92 _ wq92 => ?_)
                obtain ⟨pq92, oq92, hq92⟩ := q92
                obtain ⟨xq92, fq92_0, gq92, efq92_0, afq92_0, bfq92_0, uq92_0, uq92_1, uq92_2, uq92_3, yq92_0, yq92_1⟩ := wq92
                refine ⟨_, gq92, ?_⟩
                show gz gPP gGG gcn _ _ 162 [some (.ref m), some (.int (zi a)), some (.int (zi b)), some (.int (zi ov)), some (.int (zi bt)), some (.int (zi 2)), some (.int (zi jn34v0))] [] hq92 _
                have sq92 := gSs.tr sq83 xq92 (by decide)
                have s93 := (xq92.2.2.2.2.2 m 61 (by rw [tm]; decide)).trans s84
                have s94 := (xq92.2.2.2.2.2 m 62 (by rw [tm]; decide)).trans s85
                have s95 := (xq92.2.2.2.2.2 m 64 (by rw [tm]; decide)).trans s86
                have s96 := (xq92.2.2.2.2.2 m 52 (by rw [tm]; decide)).trans s87
                have s97 := (xq92.2.2.2.2.2 m 67 (by rw [tm]; decide)).trans s88
                have pr98 := gRn.fr xq92.2 (by decide) pr89
                have pr99 := gTk.fr xq92.2 (by decide) (by decide) pr90
                have pr100 := gTk.fr xq92.2 (by decide) (by decide) pr91
                refine gy_s 6 (pc' := 170) (L' := [some (.ref m), some (.int (zi a)), some (.int (zi b)), some (.int (zi ov)), some (.int (zi bt)), some (.int (zi 2)), some (.int (zi jn34v0))]) (S' := [.int (((zi 16) * (zi ov)) + (zi bt)), .ref m]) (L2 := [some (.ref m), some (.int (zi a)), some (.int (zi b)), some (.int (zi ov)), some (.int (zi bt)), some (.int (zi 2)), some (.int (zi jn34v0))]) (S2 := [.int (zi ((16 * ov) + bt)), .ref m]) rfl (by simp only [zi_add, zi_sub, zi_mul, zi_neg, zi_and1, zi_and7, zi_and15, zi_and31, zi_and255, Int.reduceAdd, Int.reduceMul, Int.reduceSub]) (by simp only [zi_add, zi_sub, zi_mul, zi_neg, zi_and1, zi_and7, zi_and15, zi_and31, zi_and255, Int.reduceAdd, Int.reduceMul, Int.reduceSub]) ?_
                refine gz_call rfl (by decide) rfl (by decide) (by decide) (gcal_of rfl rfl rfl (Nat.le_of_ble_eq_true rfl) (gJ.recv (G := gGG) sq92.1 tm rfl rfl)) (mw_putByte _ sq92.1 m tm ((16 * ov) + bt) (by omega) fq92_0 efq92_0 (by omega) (eeB (eeB (eeB (eeB (eeB (eeT (eeM sg 218) 8) 1) 1) 0) a) b) (by omega) uq yq92_0 yq92_1) (fun q101 _ wq101 => ?_)
                obtain ⟨pq101, oq101, hq101⟩ := q101
                obtain ⟨xq101, fq101_0, gq101, efq101_0, afq101_0, bfq101_0, uq101_0, uq101_1, uq101_2, uq101_3, yq101_0, yq101_1⟩ := wq101
                refine ⟨_, gq101, ?_⟩
                show gz gPP gGG gcn _ _ 173 [some (.ref m), some (.int (zi a)), some (.int (zi b)), some (.int (zi ov)), some (.int (zi bt)), some (.int (zi 2)), some (.int (zi jn34v0))] [] hq101 _
                have sq101 := gSs.tr sq92 xq101 (by decide)
                have s102 := (xq101.2.2.2.2.2 m 61 (by rw [tm]; decide)).trans s93
                have s103 := (xq101.2.2.2.2.2 m 62 (by rw [tm]; decide)).trans s94
                have s104 := (xq101.2.2.2.2.2 m 64 (by rw [tm]; decide)).trans s95
                have s105 := (xq101.2.2.2.2.2 m 52 (by rw [tm]; decide)).trans s96
                have s106 := (xq101.2.2.2.2.2 m 67 (by rw [tm]; decide)).trans s97
                have pr107 := gRn.fr xq101.2 (by decide) pr98
                have pr108 := gTk.fr xq101.2 (by decide) (by decide) pr99
                have pr109 := gTk.fr xq101.2 (by decide) (by decide) pr100
                have hk110 : eSh a b ov bt sg = eeB (eeB (eeB (eeB (eeB (eeB (eeT (eeM sg 218) 8) 1) 1) 0) a) b) ((16 * ov) + bt) := rfl
                have hk110_1 : (eSh a b ov bt sg).1 = (eeB (eeB (eeB (eeB (eeB (eeB (eeT (eeM sg 218) 8) 1) 1) 0) a) b) ((16 * ov) + bt)).1 := by rw [hk110]
                have hk110_21 : (eSh a b ov bt sg).2.1 = (eeB (eeB (eeB (eeB (eeB (eeB (eeT (eeM sg 218) 8) 1) 1) 0) a) b) ((16 * ov) + bt)).2.1 := by rw [hk110]
                have hk110_221 : (eSh a b ov bt sg).2.2.1 = (eeB (eeB (eeB (eeB (eeB (eeB (eeT (eeM sg 218) 8) 1) 1) 0) a) b) ((16 * ov) + bt)).2.2.1 := by rw [hk110]
                have hso111 : gSO ty (eSh a b ov bt sg) hq101 := by rw [hk110]; exact yq101_0
                have hok112 : eeOk (eSh a b ov bt sg) := by rw [hk110]; exact yq101_1
                have hok112c := hok112.cur
                refine gz_s 5 (pc' := 179) (L' := [some (.ref m), some (.int (zi a)), some (.int (zi b)), some (.int (zi ov)), some (.int (zi bt)), some (.int (zi 2)), some (.int (zi jn34v0))]) (S' := [.int (zi bt), .int (zi ov), .int (zi b), .int (zi a), .ref m]) rfl ?_
                refine gz_call rfl (by decide) rfl (by decide) (by decide) (gcal_of rfl rfl rfl (Nat.le_of_ble_eq_true rfl) (gJ.recv (G := gGG) sq101.1 tm rfl rfl)) (mw_putBlocks _ sq101.1 m tm a (by omega) b (by omega) ov (by omega) bt (by omega) fq101_0 efq101_0 (by omega) u0 s102 (by omega) b0 s103 (by omega) 1 s106 (by omega) mb s104 (by omega) iv s105 (by omega) cf (eSh a b ov bt sg) (ekc (ehN ((ecK iv a b ov bt cf e1w e1w (mb).toNat).2.1))) (ekc (ehN ((ecK iv a b ov bt cf e1w e1w (mb).toNat).2.2))) (by omega) (by omega) (by omega) (by omega) (by omega) (by omega) uq hso111 hok112 pr107 pr108 pr109) (fun q113 _ wq113 => ?_)
                obtain ⟨pq113, oq113, hq113⟩ := q113
                obtain ⟨xq113, fq113_0, fq113_1, fq113_2, gq113, efq113_0, afq113_0, bfq113_0, efq113_1, afq113_1, bfq113_1, efq113_2, afq113_2, bfq113_2, uq113_0, uq113_1, uq113_2, uq113_3, uq113_4, yq113_0, yq113_1⟩ := wq113
                refine ⟨_, gq113, ?_⟩
                show gz gPP gGG gcn _ _ 182 [some (.ref m), some (.int (zi a)), some (.int (zi b)), some (.int (zi ov)), some (.int (zi bt)), some (.int (zi 2)), some (.int (zi jn34v0))] [] hq113 _
                have sq113 := gSs.tr sq101 xq113 (by decide)
                have s114 := (xq113.2.2.2.2.2 m 64 (by rw [tm]; decide)).trans s104
                have s115 := (xq113.2.2.2.2.2 m 52 (by rw [tm]; decide)).trans s105
                have s116 := (xq113.2.2.2.2.2 m 67 (by rw [tm]; decide)).trans s106
                have pr117 := gRn.fr xq113.2 (by decide) pr107
                have pr118 := gTk.fr xq113.2 (by decide) (by decide) pr108
                have pr119 := gTk.fr xq113.2 (by decide) (by decide) pr109
                refine gz_s 1 (pc' := 183) (L' := [some (.ref m), some (.int (zi a)), some (.int (zi b)), some (.int (zi ov)), some (.int (zi bt)), some (.int (zi 2)), some (.int (zi jn34v0))]) (S' := [.ref m]) rfl ?_
                refine gz_call rfl (by decide) rfl (by decide) (by decide) (gcal_of rfl rfl rfl (Nat.le_of_ble_eq_true rfl) (gJ.recv (G := gGG) sq113.1 tm rfl rfl)) (mw_fillByte _ sq113.1 m tm fq113_0 efq113_0 (by omega) fq113_1 efq113_1 (by omega) fq113_2 efq113_2 (by omega) 1 s116 (by omega) ((ewK (ekc (ehN ((ecK iv a b ov bt cf e1w e1w (mb).toNat).2.1))) (ekc (ehN ((ecK iv a b ov bt cf e1w e1w (mb).toNat).2.2))) iv a b ov bt cf (eSh a b ov bt sg) (mb).toNat).2) (by omega) (by omega) (by omega) (by omega) uq yq113_0 yq113_1) (fun q120 _ wq120 => ?_)
                obtain ⟨pq120, oq120, hq120⟩ := q120
                obtain ⟨xq120, fq120_0, fq120_1, fq120_2, gq120, efq120_0, afq120_0, bfq120_0, efq120_1, afq120_1, bfq120_1, efq120_2, afq120_2, bfq120_2, uq120_0, uq120_1, uq120_2, uq120_3, uq120_4, uq120_5, yq120_0, yq120_1⟩ := wq120
                refine ⟨_, gq120, ?_⟩
                show gz gPP gGG gcn _ _ 186 [some (.ref m), some (.int (zi a)), some (.int (zi b)), some (.int (zi ov)), some (.int (zi bt)), some (.int (zi 2)), some (.int (zi jn34v0))] [] hq120 _
                have sq120 := gSs.tr sq113 xq120 (by decide)
                have s121 := (xq120.2.2.2.2.2 m 64 (by rw [tm]; decide)).trans s114
                have s122 := (xq120.2.2.2.2.2 m 52 (by rw [tm]; decide)).trans s115
                have s123 := (xq120.2.2.2.2.2 m 67 (by rw [tm]; decide)).trans s116
                have pr124 := gRn.fr xq120.2 (by decide) pr117
                have pr125 := gTk.fr xq120.2 (by decide) (by decide) pr118
                have pr126 := gTk.fr xq120.2 (by decide) (by decide) pr119
                have hk127 : eSc iv a b ov bt cf (mb).toNat sg = eeF ((ewK (ekc (ehN ((ecK iv a b ov bt cf e1w e1w (mb).toNat).2.1))) (ekc (ehN ((ecK iv a b ov bt cf e1w e1w (mb).toNat).2.2))) iv a b ov bt cf (eSh a b ov bt sg) (mb).toNat).2) := by unfold eSc; rw [if_neg (show ¬ 0 < b by omega), if_neg (show ¬ (a = 0 ∧ ov = 0) by omega)]
                have hk127_1 : (eSc iv a b ov bt cf (mb).toNat sg).1 = (eeF ((ewK (ekc (ehN ((ecK iv a b ov bt cf e1w e1w (mb).toNat).2.1))) (ekc (ehN ((ecK iv a b ov bt cf e1w e1w (mb).toNat).2.2))) iv a b ov bt cf (eSh a b ov bt sg) (mb).toNat).2)).1 := by rw [hk127]
                have hk127_21 : (eSc iv a b ov bt cf (mb).toNat sg).2.1 = (eeF ((ewK (ekc (ehN ((ecK iv a b ov bt cf e1w e1w (mb).toNat).2.1))) (ekc (ehN ((ecK iv a b ov bt cf e1w e1w (mb).toNat).2.2))) iv a b ov bt cf (eSh a b ov bt sg) (mb).toNat).2)).2.1 := by rw [hk127]
                have hk127_221 : (eSc iv a b ov bt cf (mb).toNat sg).2.2.1 = (eeF ((ewK (ekc (ehN ((ecK iv a b ov bt cf e1w e1w (mb).toNat).2.1))) (ekc (ehN ((ecK iv a b ov bt cf e1w e1w (mb).toNat).2.2))) iv a b ov bt cf (eSh a b ov bt sg) (mb).toNat).2)).2.2.1 := by rw [hk127]
                have hso128 : gSO ty (eSc iv a b ov bt cf (mb).toNat sg) hq120 := by rw [hk127]; exact yq120_0
                have hok129 : eeOk (eSc iv a b ov bt cf (mb).toNat sg) := by rw [hk127]; exact yq120_1
                have hok129c := hok129.cur
                exact gz_end (I := .return_) (len := 1) rfl (Or.inl rfl) ⟨sq120, fq120_0, fq120_1, fq120_2, rfl, efq120_0, (by omega), (by omega), efq120_1, (by omega), (by omega), efq120_2, (by omega), (by omega), (by omega), (by omega), (by omega), (by omega), (by omega), hso128, hok129⟩
              · refine gy_ifF rfl (by decide) (by decide) (by omega) hc35 ?_
                refine gz_s 1 (pc' := 91) (L' := [some (.ref m), some (.int (zi a)), some (.int (zi b)), some (.int (zi ov)), some (.int (zi bt)), some (.int (zi 1)), some (.int (zi jn34v0))]) (S' := [.ref m]) rfl ?_
                refine gs_gtr rfl (by decide) rfl sh23.1 tm rfl rfl rfl (fun c130 ec130 tc130 => ?_)
                refine gy_s 6 (pc' := 105) (L' := [some (.ref m), some (.int (zi a)), some (.int (zi b)), some (.int (zi ov)), some (.int (zi bt)), some (.int (zi 1)), some (.int (zi jn34v0))]) (S' := [.int (zi 1), .int (((zi 257) * (zi 1)) + (zi 256)), .ref c130]) (L2 := [some (.ref m), some (.int (zi a)), some (.int (zi b)), some (.int (zi ov)), some (.int (zi bt)), some (.int (zi 1)), some (.int (zi jn34v0))]) (S2 := [.int (zi 1), .int (zi 513), .ref c130]) rfl (by simp only [zi_add, zi_sub, zi_mul, zi_neg, zi_and1, zi_and7, zi_and15, zi_and31, zi_and255, Int.reduceAdd, Int.reduceMul, Int.reduceSub]) (by simp only [zi_add, zi_sub, zi_mul, zi_neg, zi_and1, zi_and7, zi_and15, zi_and31, zi_and255, Int.reduceAdd, Int.reduceMul, Int.reduceSub]) ?_
                have hl131 : 514 ≤ h23.2.2.2.1 c130 ∧ h23.2.2.2.1 c130 ≤ 514 := gJ.rowl (G := gGG) sh23.1 tc130 rfl
                refine gs_ast rfl (by decide) sh23 tc130 rfl rfl rfl (by decide) (fun _ => rfl) (by omega) (by omega) (fun _ => (by decide : (36999 : Nat) ∈ ([1059, 1061, 1062, 1067, 1074, 1075, 32999, 36999, 37999, 38999, 39999, 40999, 41999, 42999] : List Nat))) (by omega) (by omega) (fun h132 sh132 eh132 fh132 => ?_)
                have pr133 := gSO.pt fh132 tc130 (by decide) pr24
                have pr134 := gRn.pt fh132 tc130 (by decide) pr25
                have pr135 := gRn.put (i := 513) (z := 1) uq tc130 (by decide) fh132 eh132 (by omega) (by omega) pr26
                have s136 := (fh132 m 59 (fun q => absurd (((tm).symm.trans (congrArg ty q.1)).trans tc130) (by decide))).trans s27
                have s137 := (fh132 m 61 (fun q => absurd (((tm).symm.trans (congrArg ty q.1)).trans tc130) (by decide))).trans s28
                have s138 := (fh132 m 62 (fun q => absurd (((tm).symm.trans (congrArg ty q.1)).trans tc130) (by decide))).trans s29
                have s139 := (fh132 m 64 (fun q => absurd (((tm).symm.trans (congrArg ty q.1)).trans tc130) (by decide))).trans s30
                have s140 := (fh132 m 52 (fun q => absurd (((tm).symm.trans (congrArg ty q.1)).trans tc130) (by decide))).trans s31
                have s141 := (fh132 m 67 (fun q => absurd (((tm).symm.trans (congrArg ty q.1)).trans tc130) (by decide))).trans eh23
                have s142 := (fh132 m 68 (fun q => absurd (((tm).symm.trans (congrArg ty q.1)).trans tc130) (by decide))).trans ec130
                have pr143 := gEl.set (i := 513) (z := 1) uq tc130 (by decide) eh132 (by omega) (by omega)
                have hrw144 : gRn 514 ty 36 (eeJ (ecK iv a b ov bt cf e0w e0w (mb).toNat).2.1 ((ecK iv a b ov bt cf e1w e1w (mb).toNat).2.2)) h132 := by
                  have e9 := pr135
                  rw [show (513 : Int).toNat = (257 * 1 + 256 : Int).toNat from rfl, eeJ_p1 (by decide) (by decide)] at e9
                  rw [(ecK_01 (mb).toNat).2.2]
                  exact e9
                obtain ⟨c145, ec145, tc145⟩ := gJ.ref (k := 69) (G := gGG) sh132.1 tm rfl rfl rfl
                obtain ⟨zf, hrw146a⟩ : ∃ f9 : Nat → Int, gRn 514 ty 37 f9 h132 := ⟨_, gRn.mk uq tc145 (by decide) (fun _ => rfl)⟩
                have hrw146 := hrw146a.J
                obtain ⟨c147, ec147, tc147⟩ := gJ.ref (k := 70) (G := gGG) sh132.1 tm rfl rfl rfl
                obtain ⟨df, hrw148a⟩ : ∃ f9 : Nat → Int, gRn 514 ty 38 f9 h132 := ⟨_, gRn.mk uq tc147 (by decide) (fun _ => rfl)⟩
                have hrw148 := hrw148a.J
                refine gz_s 2 (pc' := 109) (L' := [some (.ref m), some (.int (zi a)), some (.int (zi b)), some (.int (zi ov)), some (.int (zi bt)), some (.int (zi 1)), some (.int (zi jn34v0))]) (S' := [.int (zi 1), .ref m]) rfl ?_
                refine gz_call rfl (by decide) rfl (by decide) (by decide) (gcal_of rfl rfl rfl (Nat.le_of_ble_eq_true rfl) (gJ.recv (G := gGG) sh132.1 tm rfl rfl)) (mw_suit1 _ sh132.1 m tm 1 (by omega) ((ecK iv a b ov bt cf e0w e0w (mb).toNat).2.1) ((ecK iv a b ov bt cf e1w e1w (mb).toNat).2.2) zf (fun j => zf (j + 257)) df (fun j => df (j + 257)) uq hrw144 hrw146 hrw148 hB9.2 h69.2) (fun q149 _ wq149 => ?_)
                obtain ⟨pq149, oq149, hq149⟩ := q149
                obtain ⟨xq149, gq149, yq149_0, yq149_1⟩ := wq149
                refine ⟨_, gq149, ?_⟩
                show gz gPP gGG gcn _ _ 112 [some (.ref m), some (.int (zi a)), some (.int (zi b)), some (.int (zi ov)), some (.int (zi bt)), some (.int (zi 1)), some (.int (zi jn34v0))] [] hq149 _
                have sq149 := gSs.tr sh132 xq149 (by decide)
                have s150 := (xq149.2.2.2.2.2 m 59 (by rw [tm]; decide)).trans s136
                have s151 := (xq149.2.2.2.2.2 m 61 (by rw [tm]; decide)).trans s137
                have s152 := (xq149.2.2.2.2.2 m 62 (by rw [tm]; decide)).trans s138
                have s153 := (xq149.2.2.2.2.2 m 64 (by rw [tm]; decide)).trans s139
                have s154 := (xq149.2.2.2.2.2 m 52 (by rw [tm]; decide)).trans s140
                have s155 := (xq149.2.2.2.2.2 m 67 (by rw [tm]; decide)).trans s141
                have s156 := (xq149.2.2.2.2.2 m 68 (by rw [tm]; decide)).trans s142
                have s157 := (xq149.2.2.2.2.2 m 69 (by rw [tm]; decide)).trans ec145
                have s158 := (xq149.2.2.2.2.2 m 70 (by rw [tm]; decide)).trans ec147
                have pr159 := gSO.fr xq149.2 (by decide) pr133
                have pr160 := gRn.fr xq149.2 (by decide) pr134
                have pr161 := gRn.fr xq149.2 (by decide) hrw144
                have pr162 := gEl.fr xq149.2 (by decide) (fun _ => rfl) pr143
                refine gz_s 2 (pc' := 115) (L' := [some (.ref m), some (.int (zi a)), some (.int (zi b)), some (.int (zi ov)), some (.int (zi bt)), some (.int (zi 1)), some (.int (zi jn34v0))]) (S' := [.int (zi 1), .ref m]) rfl ?_
                refine gz_call rfl (by decide) rfl (by decide) (by decide) (gcal_of rfl rfl rfl (Nat.le_of_ble_eq_true rfl) (gJ.recv (G := gGG) sq149.1 tm rfl rfl)) (mw_putCodes1 _ sq149.1 m tm 1 (by omega) w0 s150 (by omega) zf (ehN ((ecK iv a b ov bt cf e1w e1w (mb).toNat).2.2)) sg (by omega) uq pr159 lp1k6 yq149_0 (eh16N hB9.2)) (fun q163 _ wq163 => ?_)
                obtain ⟨pq163, oq163, hq163⟩ := q163
                obtain ⟨xq163, fq163_0, gq163, efq163_0, afq163_0, bfq163_0, uq163_0, uq163_1, uq163_2, uq163_3, uq163_4, yq163_0, yq163_1⟩ := wq163
                refine ⟨_, gq163, ?_⟩
                show gz gPP gGG gcn _ _ 118 [some (.ref m), some (.int (zi a)), some (.int (zi b)), some (.int (zi ov)), some (.int (zi bt)), some (.int (zi 1)), some (.int (zi jn34v0))] [] hq163 _
                have sq163 := gSs.tr sq149 xq163 (by decide)
                have s164 := (xq163.2.2.2.2.2 m 61 (by rw [tm]; decide)).trans s151
                have s165 := (xq163.2.2.2.2.2 m 62 (by rw [tm]; decide)).trans s152
                have s166 := (xq163.2.2.2.2.2 m 64 (by rw [tm]; decide)).trans s153
                have s167 := (xq163.2.2.2.2.2 m 52 (by rw [tm]; decide)).trans s154
                have s168 := (xq163.2.2.2.2.2 m 67 (by rw [tm]; decide)).trans s155
                have s169 := (xq163.2.2.2.2.2 m 68 (by rw [tm]; decide)).trans s156
                have s170 := (xq163.2.2.2.2.2 m 69 (by rw [tm]; decide)).trans s157
                have s171 := (xq163.2.2.2.2.2 m 70 (by rw [tm]; decide)).trans s158
                have pr172 := gRn.fr xq163.2 (by decide) pr160
                have pr173 := gRn.fr xq163.2 (by decide) pr161
                have pr174 := gEl.fr xq163.2 (by decide) (fun _ => rfl) pr162
                have pr175 := gRn.fr xq163.2 (by decide) yq149_0
                have pr176 := gRn.fr xq163.2 (by decide) yq149_1
                refine gy_s 4 (pc' := 50) (L' := [some (.ref m), some (.int (zi a)), some (.int (zi b)), some (.int (zi ov)), some (.int (zi bt)), some (.int ((zi 1) + zi 1)), some (.int (zi jn34v0))]) (S' := [.int (zi 2), .int ((zi 1) + zi 1)]) (L2 := [some (.ref m), some (.int (zi a)), some (.int (zi b)), some (.int (zi ov)), some (.int (zi bt)), some (.int (zi 2)), some (.int (zi jn34v0))]) (S2 := [.int (zi 2), .int (zi 2)]) rfl (by simp only [zi_add, zi_sub, zi_mul, zi_neg, zi_and1, zi_and7, zi_and15, zi_and31, zi_and255, Int.reduceAdd, Int.reduceMul, Int.reduceSub]) (by simp only [zi_add, zi_sub, zi_mul, zi_neg, zi_and1, zi_and7, zi_and15, zi_and31, zi_and255, Int.reduceAdd, Int.reduceMul, Int.reduceSub]) ?_
                refine gy_icT (pc' := 124) rfl (by decide) (by decide) (by omega) (by omega) (by first | (simp [zc]; done) | (simp only [zc]; omega)) ?_
                have htk177 : gTk (a = 0 ∧ ov = 0) 0 ty (ekc (ehN ((ecK iv a b ov bt cf e1w e1w (mb).toNat).2.1))) hq163 := fun w => absurd w (by omega)
                have htk178 : gTk (0 < b) 1 ty (ekc (ehN ((ecK iv a b ov bt cf e1w e1w (mb).toNat).2.2))) hq163 := gTk.of1 pr175 pr176 (eh16N hB9.2)
                refine gz_s 2 (pc' := 128) (L' := [some (.ref m), some (.int (zi a)), some (.int (zi b)), some (.int (zi ov)), some (.int (zi bt)), some (.int (zi 2)), some (.int (zi jn34v0))]) (S' := [.int (zi 218), .ref m]) rfl ?_
                refine gz_call rfl (by decide) rfl (by decide) (by decide) (gcal_of rfl rfl rfl (Nat.le_of_ble_eq_true rfl) (gJ.recv (G := gGG) sq163.1 tm rfl rfl)) (mw_putMarker _ sq163.1 m tm 218 (by omega) fq163_0 efq163_0 (by omega) (ekP 1 (ehN ((ecK iv a b ov bt cf e1w e1w (mb).toNat).2.2)) sg) (by omega) uq yq163_0 yq163_1) (fun q179 _ wq179 => ?_)
                obtain ⟨pq179, oq179, hq179⟩ := q179
                obtain ⟨xq179, fq179_0, gq179, efq179_0, afq179_0, bfq179_0, uq179_0, uq179_1, uq179_2, uq179_3, yq179_0, yq179_1⟩ := wq179
                refine ⟨_, gq179, ?_⟩
                show gz gPP gGG gcn _ _ 131 [some (.ref m), some (.int (zi a)), some (.int (zi b)), some (.int (zi ov)), some (.int (zi bt)), some (.int (zi 2)), some (.int (zi jn34v0))] [] hq179 _
                have sq179 := gSs.tr sq163 xq179 (by decide)
                have s180 := (xq179.2.2.2.2.2 m 61 (by rw [tm]; decide)).trans s164
                have s181 := (xq179.2.2.2.2.2 m 62 (by rw [tm]; decide)).trans s165
                have s182 := (xq179.2.2.2.2.2 m 64 (by rw [tm]; decide)).trans s166
                have s183 := (xq179.2.2.2.2.2 m 52 (by rw [tm]; decide)).trans s167
                have s184 := (xq179.2.2.2.2.2 m 67 (by rw [tm]; decide)).trans s168
                have s185 := (xq179.2.2.2.2.2 m 68 (by rw [tm]; decide)).trans s169
                have s186 := (xq179.2.2.2.2.2 m 69 (by rw [tm]; decide)).trans s170
                have s187 := (xq179.2.2.2.2.2 m 70 (by rw [tm]; decide)).trans s171
                have pr188 := gRn.fr xq179.2 (by decide) pr172
                have pr189 := gEl.fr xq179.2 (by decide) (fun _ => rfl) pr174
                have pr190 := gTk.fr xq179.2 (by decide) (by decide) htk177
                have pr191 := gTk.fr xq179.2 (by decide) (by decide) htk178
                refine gz_s 2 (pc' := 134) (L' := [some (.ref m), some (.int (zi a)), some (.int (zi b)), some (.int (zi ov)), some (.int (zi bt)), some (.int (zi 2)), some (.int (zi jn34v0))]) (S' := [.int (zi 8), .ref m]) rfl ?_
                refine gz_call rfl (by decide) rfl (by decide) (by decide) (gcal_of rfl rfl rfl (Nat.le_of_ble_eq_true rfl) (gJ.recv (G := gGG) sq179.1 tm rfl rfl)) (mw_putTwo _ sq179.1 m tm 8 (by omega) fq179_0 efq179_0 (by omega) (eeM (ekP 1 (ehN ((ecK iv a b ov bt cf e1w e1w (mb).toNat).2.2)) sg) 218) (by omega) uq yq179_0 yq179_1) (fun q192 _ wq192 => ?_)
                obtain ⟨pq192, oq192, hq192⟩ := q192
                obtain ⟨xq192, fq192_0, gq192, efq192_0, afq192_0, bfq192_0, uq192_0, uq192_1, uq192_2, uq192_3, yq192_0, yq192_1⟩ := wq192
                refine ⟨_, gq192, ?_⟩
                show gz gPP gGG gcn _ _ 137 [some (.ref m), some (.int (zi a)), some (.int (zi b)), some (.int (zi ov)), some (.int (zi bt)), some (.int (zi 2)), some (.int (zi jn34v0))] [] hq192 _
                have sq192 := gSs.tr sq179 xq192 (by decide)
                have s193 := (xq192.2.2.2.2.2 m 61 (by rw [tm]; decide)).trans s180
                have s194 := (xq192.2.2.2.2.2 m 62 (by rw [tm]; decide)).trans s181
                have s195 := (xq192.2.2.2.2.2 m 64 (by rw [tm]; decide)).trans s182
                have s196 := (xq192.2.2.2.2.2 m 52 (by rw [tm]; decide)).trans s183
                have s197 := (xq192.2.2.2.2.2 m 67 (by rw [tm]; decide)).trans s184
                have s198 := (xq192.2.2.2.2.2 m 68 (by rw [tm]; decide)).trans s185
                have s199 := (xq192.2.2.2.2.2 m 69 (by rw [tm]; decide)).trans s186
                have s200 := (xq192.2.2.2.2.2 m 70 (by rw [tm]; decide)).trans s187
                have pr201 := gRn.fr xq192.2 (by decide) pr188
                have pr202 := gEl.fr xq192.2 (by decide) (fun _ => rfl) pr189
                have pr203 := gTk.fr xq192.2 (by decide) (by decide) pr190
                have pr204 := gTk.fr xq192.2 (by decide) (by decide) pr191
                refine gz_s 2 (pc' := 139) (L' := [some (.ref m), some (.int (zi a)), some (.int (zi b)), some (.int (zi ov)), some (.int (zi bt)), some (.int (zi 2)), some (.int (zi jn34v0))]) (S' := [.int (zi 1), .ref m]) rfl ?_
                refine gz_call rfl (by decide) rfl (by decide) (by decide) (gcal_of rfl rfl rfl (Nat.le_of_ble_eq_true rfl) (gJ.recv (G := gGG) sq192.1 tm rfl rfl)) (mw_putByte _ sq192.1 m tm 1 (by omega) fq192_0 efq192_0 (by omega) (eeT (eeM (ekP 1 (ehN ((ecK iv a b ov bt cf e1w e1w (mb).toNat).2.2)) sg) 218) 8) (by omega) uq yq192_0 yq192_1) (fun q205 _ wq205 => ?_)
                obtain ⟨pq205, oq205, hq205⟩ := q205
                obtain ⟨xq205, fq205_0, gq205, efq205_0, afq205_0, bfq205_0, uq205_0, uq205_1, uq205_2, uq205_3, yq205_0, yq205_1⟩ := wq205
                refine ⟨_, gq205, ?_⟩
                show gz gPP gGG gcn _ _ 142 [some (.ref m), some (.int (zi a)), some (.int (zi b)), some (.int (zi ov)), some (.int (zi bt)), some (.int (zi 2)), some (.int (zi jn34v0))] [] hq205 _
                have sq205 := gSs.tr sq192 xq205 (by decide)
                have s206 := (xq205.2.2.2.2.2 m 61 (by rw [tm]; decide)).trans s193
                have s207 := (xq205.2.2.2.2.2 m 62 (by rw [tm]; decide)).trans s194
                have s208 := (xq205.2.2.2.2.2 m 64 (by rw [tm]; decide)).trans s195
                have s209 := (xq205.2.2.2.2.2 m 52 (by rw [tm]; decide)).trans s196
                have s210 := (xq205.2.2.2.2.2 m 67 (by rw [tm]; decide)).trans s197
                have s211 := (xq205.2.2.2.2.2 m 68 (by rw [tm]; decide)).trans s198
                have s212 := (xq205.2.2.2.2.2 m 69 (by rw [tm]; decide)).trans s199
                have s213 := (xq205.2.2.2.2.2 m 70 (by rw [tm]; decide)).trans s200
                have pr214 := gRn.fr xq205.2 (by decide) pr201
                have pr215 := gEl.fr xq205.2 (by decide) (fun _ => rfl) pr202
                have pr216 := gTk.fr xq205.2 (by decide) (by decide) pr203
                have pr217 := gTk.fr xq205.2 (by decide) (by decide) pr204
                refine gz_s 2 (pc' := 144) (L' := [some (.ref m), some (.int (zi a)), some (.int (zi b)), some (.int (zi ov)), some (.int (zi bt)), some (.int (zi 2)), some (.int (zi jn34v0))]) (S' := [.int (zi 1), .ref m]) rfl ?_
                refine gz_call rfl (by decide) rfl (by decide) (by decide) (gcal_of rfl rfl rfl (Nat.le_of_ble_eq_true rfl) (gJ.recv (G := gGG) sq205.1 tm rfl rfl)) (mw_putByte _ sq205.1 m tm 1 (by omega) fq205_0 efq205_0 (by omega) (eeB (eeT (eeM (ekP 1 (ehN ((ecK iv a b ov bt cf e1w e1w (mb).toNat).2.2)) sg) 218) 8) 1) (by omega) uq yq205_0 yq205_1) (fun q218 _ wq218 => ?_)
                obtain ⟨pq218, oq218, hq218⟩ := q218
                obtain ⟨xq218, fq218_0, gq218, efq218_0, afq218_0, bfq218_0, uq218_0, uq218_1, uq218_2, uq218_3, yq218_0, yq218_1⟩ := wq218
                refine ⟨_, gq218, ?_⟩
                show gz gPP gGG gcn _ _ 147 [some (.ref m), some (.int (zi a)), some (.int (zi b)), some (.int (zi ov)), some (.int (zi bt)), some (.int (zi 2)), some (.int (zi jn34v0))] [] hq218 _
                have sq218 := gSs.tr sq205 xq218 (by decide)
                have s219 := (xq218.2.2.2.2.2 m 61 (by rw [tm]; decide)).trans s206
                have s220 := (xq218.2.2.2.2.2 m 62 (by rw [tm]; decide)).trans s207
                have s221 := (xq218.2.2.2.2.2 m 64 (by rw [tm]; decide)).trans s208
                have s222 := (xq218.2.2.2.2.2 m 52 (by rw [tm]; decide)).trans s209
                have s223 := (xq218.2.2.2.2.2 m 67 (by rw [tm]; decide)).trans s210
                have s224 := (xq218.2.2.2.2.2 m 68 (by rw [tm]; decide)).trans s211
                have s225 := (xq218.2.2.2.2.2 m 69 (by rw [tm]; decide)).trans s212
                have s226 := (xq218.2.2.2.2.2 m 70 (by rw [tm]; decide)).trans s213
                have pr227 := gRn.fr xq218.2 (by decide) pr214
                have pr228 := gEl.fr xq218.2 (by decide) (fun _ => rfl) pr215
                have pr229 := gTk.fr xq218.2 (by decide) (by decide) pr216
                have pr230 := gTk.fr xq218.2 (by decide) (by decide) pr217
                refine gz_s 2 (pc' := 149) (L' := [some (.ref m), some (.int (zi a)), some (.int (zi b)), some (.int (zi ov)), some (.int (zi bt)), some (.int (zi 2)), some (.int (zi jn34v0))]) (S' := [.int (zi 0), .ref m]) rfl ?_
                refine gz_call rfl (by decide) rfl (by decide) (by decide) (gcal_of rfl rfl rfl (Nat.le_of_ble_eq_true rfl) (gJ.recv (G := gGG) sq218.1 tm rfl rfl)) (mw_putByte _ sq218.1 m tm 0 (by omega) fq218_0 efq218_0 (by omega) (eeB (eeB (eeT (eeM (ekP 1 (ehN ((ecK iv a b ov bt cf e1w e1w (mb).toNat).2.2)) sg) 218) 8) 1) 1) (by omega) uq yq218_0 yq218_1) (fun q231 _ wq231 => ?_)
                obtain ⟨pq231, oq231, hq231⟩ := q231
                obtain ⟨xq231, fq231_0, gq231, efq231_0, afq231_0, bfq231_0, uq231_0, uq231_1, uq231_2, uq231_3, yq231_0, yq231_1⟩ := wq231
                refine ⟨_, gq231, ?_⟩
                show gz gPP gGG gcn _ _ 152 [some (.ref m), some (.int (zi a)), some (.int (zi b)), some (.int (zi ov)), some (.int (zi bt)), some (.int (zi 2)), some (.int (zi jn34v0))] [] hq231 _
                have sq231 := gSs.tr sq218 xq231 (by decide)
                have s232 := (xq231.2.2.2.2.2 m 61 (by rw [tm]; decide)).trans s219
                have s233 := (xq231.2.2.2.2.2 m 62 (by rw [tm]; decide)).trans s220
                have s234 := (xq231.2.2.2.2.2 m 64 (by rw [tm]; decide)).trans s221
                have s235 := (xq231.2.2.2.2.2 m 52 (by rw [tm]; decide)).trans s222
                have s236 := (xq231.2.2.2.2.2 m 67 (by rw [tm]; decide)).trans s223
                have s237 := (xq231.2.2.2.2.2 m 68 (by rw [tm]; decide)).trans s224
                have s238 := (xq231.2.2.2.2.2 m 69 (by rw [tm]; decide)).trans s225
                have s239 := (xq231.2.2.2.2.2 m 70 (by rw [tm]; decide)).trans s226
                have pr240 := gRn.fr xq231.2 (by decide) pr227
                have pr241 := gEl.fr xq231.2 (by decide) (fun _ => rfl) pr228
                have pr242 := gTk.fr xq231.2 (by decide) (by decide) pr229
                have pr243 := gTk.fr xq231.2 (by decide) (by decide) pr230
                refine gz_s 2 (pc' := 154) (L' := [some (.ref m), some (.int (zi a)), some (.int (zi b)), some (.int (zi ov)), some (.int (zi bt)), some (.int (zi 2)), some (.int (zi jn34v0))]) (S' := [.int (zi a), .ref m]) rfl ?_
                refine gz_call rfl (by decide) rfl (by decide) (by decide) (gcal_of rfl rfl rfl (Nat.le_of_ble_eq_true rfl) (gJ.recv (G := gGG) sq231.1 tm rfl rfl)) (mw_putByte _ sq231.1 m tm a (by omega) fq231_0 efq231_0 (by omega) (eeB (eeB (eeB (eeT (eeM (ekP 1 (ehN ((ecK iv a b ov bt cf e1w e1w (mb).toNat).2.2)) sg) 218) 8) 1) 1) 0) (by omega) uq yq231_0 yq231_1) (fun q244 _ wq244 => ?_)
                obtain ⟨pq244, oq244, hq244⟩ := q244
                obtain ⟨xq244, fq244_0, gq244, efq244_0, afq244_0, bfq244_0, uq244_0, uq244_1, uq244_2, uq244_3, yq244_0, yq244_1⟩ := wq244
                refine ⟨_, gq244, ?_⟩
                show gz gPP gGG gcn _ _ 157 [some (.ref m), some (.int (zi a)), some (.int (zi b)), some (.int (zi ov)), some (.int (zi bt)), some (.int (zi 2)), some (.int (zi jn34v0))] [] hq244 _
                have sq244 := gSs.tr sq231 xq244 (by decide)
                have s245 := (xq244.2.2.2.2.2 m 61 (by rw [tm]; decide)).trans s232
                have s246 := (xq244.2.2.2.2.2 m 62 (by rw [tm]; decide)).trans s233
                have s247 := (xq244.2.2.2.2.2 m 64 (by rw [tm]; decide)).trans s234
                have s248 := (xq244.2.2.2.2.2 m 52 (by rw [tm]; decide)).trans s235
                have s249 := (xq244.2.2.2.2.2 m 67 (by rw [tm]; decide)).trans s236
                have s250 := (xq244.2.2.2.2.2 m 68 (by rw [tm]; decide)).trans s237
                have s251 := (xq244.2.2.2.2.2 m 69 (by rw [tm]; decide)).trans s238
                have s252 := (xq244.2.2.2.2.2 m 70 (by rw [tm]; decide)).trans s239
                have pr253 := gRn.fr xq244.2 (by decide) pr240
                have pr254 := gEl.fr xq244.2 (by decide) (fun _ => rfl) pr241
                have pr255 := gTk.fr xq244.2 (by decide) (by decide) pr242
                have pr256 := gTk.fr xq244.2 (by decide) (by decide) pr243
                refine gz_s 2 (pc' := 159) (L' := [some (.ref m), some (.int (zi a)), some (.int (zi b)), some (.int (zi ov)), some (.int (zi bt)), some (.int (zi 2)), some (.int (zi jn34v0))]) (S' := [.int (zi b), .ref m]) rfl ?_
                refine gz_call rfl (by decide) rfl (by decide) (by decide) (gcal_of rfl rfl rfl (Nat.le_of_ble_eq_true rfl) (gJ.recv (G := gGG) sq244.1 tm rfl rfl)) (mw_putByte _ sq244.1 m tm b (by omega) fq244_0 efq244_0 (by omega) (eeB (eeB (eeB (eeB (eeT (eeM (ekP 1 (ehN ((ecK iv a b ov bt cf e1w e1w (mb).toNat).2.2)) sg) 218) 8) 1) 1) 0) a) (by omega) uq yq244_0 yq244_1) (fun q257 _ wq257 => ?_)
                obtain ⟨pq257, oq257, hq257⟩ := q257
                obtain ⟨xq257, fq257_0, gq257, efq257_0, afq257_0, bfq257_0, uq257_0, uq257_1, uq257_2, uq257_3, yq257_0, yq257_1⟩ := wq257
                refine ⟨_, gq257, ?_⟩
                show gz gPP gGG gcn _ _ 162 [some (.ref m), some (.int (zi a)), some (.int (zi b)), some (.int (zi ov)), some (.int (zi bt)), some (.int (zi 2)), some (.int (zi jn34v0))] [] hq257 _
                have sq257 := gSs.tr sq244 xq257 (by decide)
                have s258 := (xq257.2.2.2.2.2 m 61 (by rw [tm]; decide)).trans s245
                have s259 := (xq257.2.2.2.2.2 m 62 (by rw [tm]; decide)).trans s246
                have s260 := (xq257.2.2.2.2.2 m 64 (by rw [tm]; decide)).trans s247
                have s261 := (xq257.2.2.2.2.2 m 52 (by rw [tm]; decide)).trans s248
                have s262 := (xq257.2.2.2.2.2 m 67 (by rw [tm]; decide)).trans s249
                have s263 := (xq257.2.2.2.2.2 m 68 (by rw [tm]; decide)).trans s250
                have s264 := (xq257.2.2.2.2.2 m 69 (by rw [tm]; decide)).trans s251
                have s265 := (xq257.2.2.2.2.2 m 70 (by rw [tm]; decide)).trans s252
                have pr266 := gRn.fr xq257.2 (by decide) pr253
                have pr267 := gEl.fr xq257.2 (by decide) (fun _ => rfl) pr254
                have pr268 := gTk.fr xq257.2 (by decide) (by decide) pr255
                have pr269 := gTk.fr xq257.2 (by decide) (by decide) pr256
                refine gy_s 6 (pc' := 170) (L' := [some (.ref m), some (.int (zi a)), some (.int (zi b)), some (.int (zi ov)), some (.int (zi bt)), some (.int (zi 2)), some (.int (zi jn34v0))]) (S' := [.int (((zi 16) * (zi ov)) + (zi bt)), .ref m]) (L2 := [some (.ref m), some (.int (zi a)), some (.int (zi b)), some (.int (zi ov)), some (.int (zi bt)), some (.int (zi 2)), some (.int (zi jn34v0))]) (S2 := [.int (zi ((16 * ov) + bt)), .ref m]) rfl (by simp only [zi_add, zi_sub, zi_mul, zi_neg, zi_and1, zi_and7, zi_and15, zi_and31, zi_and255, Int.reduceAdd, Int.reduceMul, Int.reduceSub]) (by simp only [zi_add, zi_sub, zi_mul, zi_neg, zi_and1, zi_and7, zi_and15, zi_and31, zi_and255, Int.reduceAdd, Int.reduceMul, Int.reduceSub]) ?_
                refine gz_call rfl (by decide) rfl (by decide) (by decide) (gcal_of rfl rfl rfl (Nat.le_of_ble_eq_true rfl) (gJ.recv (G := gGG) sq257.1 tm rfl rfl)) (mw_putByte _ sq257.1 m tm ((16 * ov) + bt) (by omega) fq257_0 efq257_0 (by omega) (eeB (eeB (eeB (eeB (eeB (eeT (eeM (ekP 1 (ehN ((ecK iv a b ov bt cf e1w e1w (mb).toNat).2.2)) sg) 218) 8) 1) 1) 0) a) b) (by omega) uq yq257_0 yq257_1) (fun q270 _ wq270 => ?_)
                obtain ⟨pq270, oq270, hq270⟩ := q270
                obtain ⟨xq270, fq270_0, gq270, efq270_0, afq270_0, bfq270_0, uq270_0, uq270_1, uq270_2, uq270_3, yq270_0, yq270_1⟩ := wq270
                refine ⟨_, gq270, ?_⟩
                show gz gPP gGG gcn _ _ 173 [some (.ref m), some (.int (zi a)), some (.int (zi b)), some (.int (zi ov)), some (.int (zi bt)), some (.int (zi 2)), some (.int (zi jn34v0))] [] hq270 _
                have sq270 := gSs.tr sq257 xq270 (by decide)
                have s271 := (xq270.2.2.2.2.2 m 61 (by rw [tm]; decide)).trans s258
                have s272 := (xq270.2.2.2.2.2 m 62 (by rw [tm]; decide)).trans s259
                have s273 := (xq270.2.2.2.2.2 m 64 (by rw [tm]; decide)).trans s260
                have s274 := (xq270.2.2.2.2.2 m 52 (by rw [tm]; decide)).trans s261
                have s275 := (xq270.2.2.2.2.2 m 67 (by rw [tm]; decide)).trans s262
                have s276 := (xq270.2.2.2.2.2 m 68 (by rw [tm]; decide)).trans s263
                have s277 := (xq270.2.2.2.2.2 m 69 (by rw [tm]; decide)).trans s264
                have s278 := (xq270.2.2.2.2.2 m 70 (by rw [tm]; decide)).trans s265
                have pr279 := gRn.fr xq270.2 (by decide) pr266
                have pr280 := gEl.fr xq270.2 (by decide) (fun _ => rfl) pr267
                have pr281 := gTk.fr xq270.2 (by decide) (by decide) pr268
                have pr282 := gTk.fr xq270.2 (by decide) (by decide) pr269
                have hk283 : eSh a b ov bt (ekP 1 (ehN ((ecK iv a b ov bt cf e1w e1w (mb).toNat).2.2)) sg) = eeB (eeB (eeB (eeB (eeB (eeB (eeT (eeM (ekP 1 (ehN ((ecK iv a b ov bt cf e1w e1w (mb).toNat).2.2)) sg) 218) 8) 1) 1) 0) a) b) ((16 * ov) + bt) := rfl
                have hk283_1 : (eSh a b ov bt (ekP 1 (ehN ((ecK iv a b ov bt cf e1w e1w (mb).toNat).2.2)) sg)).1 = (eeB (eeB (eeB (eeB (eeB (eeB (eeT (eeM (ekP 1 (ehN ((ecK iv a b ov bt cf e1w e1w (mb).toNat).2.2)) sg) 218) 8) 1) 1) 0) a) b) ((16 * ov) + bt)).1 := by rw [hk283]
                have hk283_21 : (eSh a b ov bt (ekP 1 (ehN ((ecK iv a b ov bt cf e1w e1w (mb).toNat).2.2)) sg)).2.1 = (eeB (eeB (eeB (eeB (eeB (eeB (eeT (eeM (ekP 1 (ehN ((ecK iv a b ov bt cf e1w e1w (mb).toNat).2.2)) sg) 218) 8) 1) 1) 0) a) b) ((16 * ov) + bt)).2.1 := by rw [hk283]
                have hk283_221 : (eSh a b ov bt (ekP 1 (ehN ((ecK iv a b ov bt cf e1w e1w (mb).toNat).2.2)) sg)).2.2.1 = (eeB (eeB (eeB (eeB (eeB (eeB (eeT (eeM (ekP 1 (ehN ((ecK iv a b ov bt cf e1w e1w (mb).toNat).2.2)) sg) 218) 8) 1) 1) 0) a) b) ((16 * ov) + bt)).2.2.1 := by rw [hk283]
                have hso284 : gSO ty (eSh a b ov bt (ekP 1 (ehN ((ecK iv a b ov bt cf e1w e1w (mb).toNat).2.2)) sg)) hq270 := by rw [hk283]; exact yq270_0
                have hok285 : eeOk (eSh a b ov bt (ekP 1 (ehN ((ecK iv a b ov bt cf e1w e1w (mb).toNat).2.2)) sg)) := by rw [hk283]; exact yq270_1
                have hok285c := hok285.cur
                refine gz_s 5 (pc' := 179) (L' := [some (.ref m), some (.int (zi a)), some (.int (zi b)), some (.int (zi ov)), some (.int (zi bt)), some (.int (zi 2)), some (.int (zi jn34v0))]) (S' := [.int (zi bt), .int (zi ov), .int (zi b), .int (zi a), .ref m]) rfl ?_
                refine gz_call rfl (by decide) rfl (by decide) (by decide) (gcal_of rfl rfl rfl (Nat.le_of_ble_eq_true rfl) (gJ.recv (G := gGG) sq270.1 tm rfl rfl)) (mw_putBlocks _ sq270.1 m tm a (by omega) b (by omega) ov (by omega) bt (by omega) fq270_0 efq270_0 (by omega) u0 s271 (by omega) b0 s272 (by omega) 1 s275 (by omega) mb s273 (by omega) iv s274 (by omega) cf (eSh a b ov bt (ekP 1 (ehN ((ecK iv a b ov bt cf e1w e1w (mb).toNat).2.2)) sg)) (ekc (ehN ((ecK iv a b ov bt cf e1w e1w (mb).toNat).2.1))) (ekc (ehN ((ecK iv a b ov bt cf e1w e1w (mb).toNat).2.2))) (by omega) (by omega) (by omega) (by omega) (by omega) (by omega) uq hso284 hok285 pr279 pr281 pr282) (fun q286 _ wq286 => ?_)
                obtain ⟨pq286, oq286, hq286⟩ := q286
                obtain ⟨xq286, fq286_0, fq286_1, fq286_2, gq286, efq286_0, afq286_0, bfq286_0, efq286_1, afq286_1, bfq286_1, efq286_2, afq286_2, bfq286_2, uq286_0, uq286_1, uq286_2, uq286_3, uq286_4, yq286_0, yq286_1⟩ := wq286
                refine ⟨_, gq286, ?_⟩
                show gz gPP gGG gcn _ _ 182 [some (.ref m), some (.int (zi a)), some (.int (zi b)), some (.int (zi ov)), some (.int (zi bt)), some (.int (zi 2)), some (.int (zi jn34v0))] [] hq286 _
                have sq286 := gSs.tr sq270 xq286 (by decide)
                have s287 := (xq286.2.2.2.2.2 m 64 (by rw [tm]; decide)).trans s273
                have s288 := (xq286.2.2.2.2.2 m 52 (by rw [tm]; decide)).trans s274
                have s289 := (xq286.2.2.2.2.2 m 67 (by rw [tm]; decide)).trans s275
                have s290 := (xq286.2.2.2.2.2 m 68 (by rw [tm]; decide)).trans s276
                have s291 := (xq286.2.2.2.2.2 m 69 (by rw [tm]; decide)).trans s277
                have s292 := (xq286.2.2.2.2.2 m 70 (by rw [tm]; decide)).trans s278
                have pr293 := gRn.fr xq286.2 (by decide) pr279
                have pr294 := gEl.fr xq286.2 (by decide) (fun _ => rfl) pr280
                have pr295 := gTk.fr xq286.2 (by decide) (by decide) pr281
                have pr296 := gTk.fr xq286.2 (by decide) (by decide) pr282
                refine gz_s 1 (pc' := 183) (L' := [some (.ref m), some (.int (zi a)), some (.int (zi b)), some (.int (zi ov)), some (.int (zi bt)), some (.int (zi 2)), some (.int (zi jn34v0))]) (S' := [.ref m]) rfl ?_
                refine gz_call rfl (by decide) rfl (by decide) (by decide) (gcal_of rfl rfl rfl (Nat.le_of_ble_eq_true rfl) (gJ.recv (G := gGG) sq286.1 tm rfl rfl)) (mw_fillByte _ sq286.1 m tm fq286_0 efq286_0 (by omega) fq286_1 efq286_1 (by omega) fq286_2 efq286_2 (by omega) 1 s289 (by omega) ((ewK (ekc (ehN ((ecK iv a b ov bt cf e1w e1w (mb).toNat).2.1))) (ekc (ehN ((ecK iv a b ov bt cf e1w e1w (mb).toNat).2.2))) iv a b ov bt cf (eSh a b ov bt (ekP 1 (ehN ((ecK iv a b ov bt cf e1w e1w (mb).toNat).2.2)) sg)) (mb).toNat).2) (by omega) (by omega) (by omega) (by omega) uq yq286_0 yq286_1) (fun q297 _ wq297 => ?_)
                obtain ⟨pq297, oq297, hq297⟩ := q297
                obtain ⟨xq297, fq297_0, fq297_1, fq297_2, gq297, efq297_0, afq297_0, bfq297_0, efq297_1, afq297_1, bfq297_1, efq297_2, afq297_2, bfq297_2, uq297_0, uq297_1, uq297_2, uq297_3, uq297_4, uq297_5, yq297_0, yq297_1⟩ := wq297
                refine ⟨_, gq297, ?_⟩
                show gz gPP gGG gcn _ _ 186 [some (.ref m), some (.int (zi a)), some (.int (zi b)), some (.int (zi ov)), some (.int (zi bt)), some (.int (zi 2)), some (.int (zi jn34v0))] [] hq297 _
                have sq297 := gSs.tr sq286 xq297 (by decide)
                have s298 := (xq297.2.2.2.2.2 m 64 (by rw [tm]; decide)).trans s287
                have s299 := (xq297.2.2.2.2.2 m 52 (by rw [tm]; decide)).trans s288
                have s300 := (xq297.2.2.2.2.2 m 67 (by rw [tm]; decide)).trans s289
                have s301 := (xq297.2.2.2.2.2 m 68 (by rw [tm]; decide)).trans s290
                have s302 := (xq297.2.2.2.2.2 m 69 (by rw [tm]; decide)).trans s291
                have s303 := (xq297.2.2.2.2.2 m 70 (by rw [tm]; decide)).trans s292
                have pr304 := gRn.fr xq297.2 (by decide) pr293
                have pr305 := gEl.fr xq297.2 (by decide) (fun _ => rfl) pr294
                have pr306 := gTk.fr xq297.2 (by decide) (by decide) pr295
                have pr307 := gTk.fr xq297.2 (by decide) (by decide) pr296
                have hk308 : eSc iv a b ov bt cf (mb).toNat sg = eeF ((ewK (ekc (ehN ((ecK iv a b ov bt cf e1w e1w (mb).toNat).2.1))) (ekc (ehN ((ecK iv a b ov bt cf e1w e1w (mb).toNat).2.2))) iv a b ov bt cf (eSh a b ov bt (ekP 1 (ehN ((ecK iv a b ov bt cf e1w e1w (mb).toNat).2.2)) sg)) (mb).toNat).2) := by unfold eSc; rw [if_pos (show 0 < b by omega), if_neg (show ¬ (a = 0 ∧ ov = 0) by omega)]
                have hk308_1 : (eSc iv a b ov bt cf (mb).toNat sg).1 = (eeF ((ewK (ekc (ehN ((ecK iv a b ov bt cf e1w e1w (mb).toNat).2.1))) (ekc (ehN ((ecK iv a b ov bt cf e1w e1w (mb).toNat).2.2))) iv a b ov bt cf (eSh a b ov bt (ekP 1 (ehN ((ecK iv a b ov bt cf e1w e1w (mb).toNat).2.2)) sg)) (mb).toNat).2)).1 := by rw [hk308]
                have hk308_21 : (eSc iv a b ov bt cf (mb).toNat sg).2.1 = (eeF ((ewK (ekc (ehN ((ecK iv a b ov bt cf e1w e1w (mb).toNat).2.1))) (ekc (ehN ((ecK iv a b ov bt cf e1w e1w (mb).toNat).2.2))) iv a b ov bt cf (eSh a b ov bt (ekP 1 (ehN ((ecK iv a b ov bt cf e1w e1w (mb).toNat).2.2)) sg)) (mb).toNat).2)).2.1 := by rw [hk308]
                have hk308_221 : (eSc iv a b ov bt cf (mb).toNat sg).2.2.1 = (eeF ((ewK (ekc (ehN ((ecK iv a b ov bt cf e1w e1w (mb).toNat).2.1))) (ekc (ehN ((ecK iv a b ov bt cf e1w e1w (mb).toNat).2.2))) iv a b ov bt cf (eSh a b ov bt (ekP 1 (ehN ((ecK iv a b ov bt cf e1w e1w (mb).toNat).2.2)) sg)) (mb).toNat).2)).2.2.1 := by rw [hk308]
                have hso309 : gSO ty (eSc iv a b ov bt cf (mb).toNat sg) hq297 := by rw [hk308]; exact yq297_0
                have hok310 : eeOk (eSc iv a b ov bt cf (mb).toNat sg) := by rw [hk308]; exact yq297_1
                have hok310c := hok310.cur
                exact gz_end (I := .return_) (len := 1) rfl (Or.inl rfl) ⟨sq297, fq297_0, fq297_1, fq297_2, rfl, efq297_0, (by omega), (by omega), efq297_1, (by omega), (by omega), efq297_2, (by omega), (by omega), (by omega), (by omega), (by omega), (by omega), (by omega), hso309, hok310⟩
            by_cases hc311 : (b : Int) ≤ 0
            · refine gy_ifT (pc' := 82) rfl (by decide) (by decide) (by omega) hc311 ?_
              refine gz_s 1 (pc' := 83) (L' := [some (.ref m), some (.int (zi a)), some (.int (zi b)), some (.int (zi ov)), some (.int (zi bt)), some (.int (zi 1)), some (.int (zi jn32v0))]) (S' := [.int (zi 0)]) rfl ?_
              exact jn34 0 (by omega)
            · refine gy_ifF rfl (by decide) (by decide) (by omega) hc311 ?_
              refine gz_s 2 (pc' := 83) (L' := [some (.ref m), some (.int (zi a)), some (.int (zi b)), some (.int (zi ov)), some (.int (zi bt)), some (.int (zi 1)), some (.int (zi jn32v0))]) (S' := [.int (zi 1)]) rfl ?_
              exact jn34 1 (by omega)
          · refine gy_ifF rfl (by decide) (by decide) (by omega) hc33 ?_
            refine gz_s 1 (pc' := 91) (L' := [some (.ref m), some (.int (zi a)), some (.int (zi b)), some (.int (zi ov)), some (.int (zi bt)), some (.int (zi 0)), some (.int (zi jn32v0))]) (S' := [.ref m]) rfl ?_
            refine gs_gtr rfl (by decide) rfl sh23.1 tm rfl rfl rfl (fun c312 ec312 tc312 => ?_)
            refine gy_s 6 (pc' := 105) (L' := [some (.ref m), some (.int (zi a)), some (.int (zi b)), some (.int (zi ov)), some (.int (zi bt)), some (.int (zi 0)), some (.int (zi jn32v0))]) (S' := [.int (zi 1), .int (((zi 257) * (zi 0)) + (zi 256)), .ref c312]) (L2 := [some (.ref m), some (.int (zi a)), some (.int (zi b)), some (.int (zi ov)), some (.int (zi bt)), some (.int (zi 0)), some (.int (zi jn32v0))]) (S2 := [.int (zi 1), .int (zi 256), .ref c312]) rfl (by simp only [zi_add, zi_sub, zi_mul, zi_neg, zi_and1, zi_and7, zi_and15, zi_and31, zi_and255, Int.reduceAdd, Int.reduceMul, Int.reduceSub]) (by simp only [zi_add, zi_sub, zi_mul, zi_neg, zi_and1, zi_and7, zi_and15, zi_and31, zi_and255, Int.reduceAdd, Int.reduceMul, Int.reduceSub]) ?_
            have hl313 : 514 ≤ h23.2.2.2.1 c312 ∧ h23.2.2.2.1 c312 ≤ 514 := gJ.rowl (G := gGG) sh23.1 tc312 rfl
            refine gs_ast rfl (by decide) sh23 tc312 rfl rfl rfl (by decide) (fun _ => rfl) (by omega) (by omega) (fun _ => (by decide : (36999 : Nat) ∈ ([1059, 1061, 1062, 1067, 1074, 1075, 32999, 36999, 37999, 38999, 39999, 40999, 41999, 42999] : List Nat))) (by omega) (by omega) (fun h314 sh314 eh314 fh314 => ?_)
            have pr315 := gSO.pt fh314 tc312 (by decide) pr24
            have pr316 := gRn.pt fh314 tc312 (by decide) pr25
            have pr317 := gRn.put (i := 256) (z := 1) uq tc312 (by decide) fh314 eh314 (by omega) (by omega) pr26
            have s318 := (fh314 m 59 (fun q => absurd (((tm).symm.trans (congrArg ty q.1)).trans tc312) (by decide))).trans s27
            have s319 := (fh314 m 61 (fun q => absurd (((tm).symm.trans (congrArg ty q.1)).trans tc312) (by decide))).trans s28
            have s320 := (fh314 m 62 (fun q => absurd (((tm).symm.trans (congrArg ty q.1)).trans tc312) (by decide))).trans s29
            have s321 := (fh314 m 64 (fun q => absurd (((tm).symm.trans (congrArg ty q.1)).trans tc312) (by decide))).trans s30
            have s322 := (fh314 m 52 (fun q => absurd (((tm).symm.trans (congrArg ty q.1)).trans tc312) (by decide))).trans s31
            have s323 := (fh314 m 67 (fun q => absurd (((tm).symm.trans (congrArg ty q.1)).trans tc312) (by decide))).trans eh23
            have s324 := (fh314 m 68 (fun q => absurd (((tm).symm.trans (congrArg ty q.1)).trans tc312) (by decide))).trans ec312
            have pr325 := gEl.set (i := 256) (z := 1) uq tc312 (by decide) eh314 (by omega) (by omega)
            have hrw326 : gRn 514 ty 36 (eeJ ((ecK iv a b ov bt cf e1w e1w (mb).toNat).2.1) (ecK iv a b ov bt cf e0w e0w (mb).toNat).2.2) h314 := by
              have e9 := pr317
              rw [show (256 : Int).toNat = (257 * 0 + 256 : Int).toNat from rfl, eeJ_p0 (by decide) (by decide)] at e9
              rw [(ecK_01 (mb).toNat).2.1]
              exact e9
            obtain ⟨c327, ec327, tc327⟩ := gJ.ref (k := 69) (G := gGG) sh314.1 tm rfl rfl rfl
            obtain ⟨zf, hrw328a⟩ : ∃ f9 : Nat → Int, gRn 514 ty 37 f9 h314 := ⟨_, gRn.mk uq tc327 (by decide) (fun _ => rfl)⟩
            have hrw328 := hrw328a.J
            obtain ⟨c329, ec329, tc329⟩ := gJ.ref (k := 70) (G := gGG) sh314.1 tm rfl rfl rfl
            obtain ⟨df, hrw330a⟩ : ∃ f9 : Nat → Int, gRn 514 ty 38 f9 h314 := ⟨_, gRn.mk uq tc329 (by decide) (fun _ => rfl)⟩
            have hrw330 := hrw330a.J
            refine gz_s 2 (pc' := 109) (L' := [some (.ref m), some (.int (zi a)), some (.int (zi b)), some (.int (zi ov)), some (.int (zi bt)), some (.int (zi 0)), some (.int (zi jn32v0))]) (S' := [.int (zi 0), .ref m]) rfl ?_
            refine gz_call rfl (by decide) rfl (by decide) (by decide) (gcal_of rfl rfl rfl (Nat.le_of_ble_eq_true rfl) (gJ.recv (G := gGG) sh314.1 tm rfl rfl)) (mw_suit0 _ sh314.1 m tm 0 (by omega) ((ecK iv a b ov bt cf e1w e1w (mb).toNat).2.1) ((ecK iv a b ov bt cf e0w e0w (mb).toNat).2.2) zf (fun j => zf (j + 257)) df (fun j => df (j + 257)) uq hrw326 hrw328 hrw330 hB9.1 h69.1) (fun q331 _ wq331 => ?_)
            obtain ⟨pq331, oq331, hq331⟩ := q331
            obtain ⟨xq331, gq331, yq331_0, yq331_1⟩ := wq331
            refine ⟨_, gq331, ?_⟩
            show gz gPP gGG gcn _ _ 112 [some (.ref m), some (.int (zi a)), some (.int (zi b)), some (.int (zi ov)), some (.int (zi bt)), some (.int (zi 0)), some (.int (zi jn32v0))] [] hq331 _
            have sq331 := gSs.tr sh314 xq331 (by decide)
            have s332 := (xq331.2.2.2.2.2 m 59 (by rw [tm]; decide)).trans s318
            have s333 := (xq331.2.2.2.2.2 m 61 (by rw [tm]; decide)).trans s319
            have s334 := (xq331.2.2.2.2.2 m 62 (by rw [tm]; decide)).trans s320
            have s335 := (xq331.2.2.2.2.2 m 64 (by rw [tm]; decide)).trans s321
            have s336 := (xq331.2.2.2.2.2 m 52 (by rw [tm]; decide)).trans s322
            have s337 := (xq331.2.2.2.2.2 m 67 (by rw [tm]; decide)).trans s323
            have s338 := (xq331.2.2.2.2.2 m 68 (by rw [tm]; decide)).trans s324
            have s339 := (xq331.2.2.2.2.2 m 69 (by rw [tm]; decide)).trans ec327
            have s340 := (xq331.2.2.2.2.2 m 70 (by rw [tm]; decide)).trans ec329
            have pr341 := gSO.fr xq331.2 (by decide) pr315
            have pr342 := gRn.fr xq331.2 (by decide) pr316
            have pr343 := gRn.fr xq331.2 (by decide) hrw326
            have pr344 := gEl.fr xq331.2 (by decide) (fun _ => rfl) pr325
            refine gz_s 2 (pc' := 115) (L' := [some (.ref m), some (.int (zi a)), some (.int (zi b)), some (.int (zi ov)), some (.int (zi bt)), some (.int (zi 0)), some (.int (zi jn32v0))]) (S' := [.int (zi 0), .ref m]) rfl ?_
            refine gz_call rfl (by decide) rfl (by decide) (by decide) (gcal_of rfl rfl rfl (Nat.le_of_ble_eq_true rfl) (gJ.recv (G := gGG) sq331.1 tm rfl rfl)) (mw_putCodes0 _ sq331.1 m tm 0 (by omega) w0 s332 (by omega) (ehN ((ecK iv a b ov bt cf e1w e1w (mb).toNat).2.1)) (fun j => zf (j + 257)) sg (by omega) uq pr341 lp1k6 yq331_0 (eh16N hB9.1)) (fun q345 _ wq345 => ?_)
            obtain ⟨pq345, oq345, hq345⟩ := q345
            obtain ⟨xq345, fq345_0, gq345, efq345_0, afq345_0, bfq345_0, uq345_0, uq345_1, uq345_2, uq345_3, uq345_4, yq345_0, yq345_1⟩ := wq345
            refine ⟨_, gq345, ?_⟩
            show gz gPP gGG gcn _ _ 118 [some (.ref m), some (.int (zi a)), some (.int (zi b)), some (.int (zi ov)), some (.int (zi bt)), some (.int (zi 0)), some (.int (zi jn32v0))] [] hq345 _
            have sq345 := gSs.tr sq331 xq345 (by decide)
            have s346 := (xq345.2.2.2.2.2 m 61 (by rw [tm]; decide)).trans s333
            have s347 := (xq345.2.2.2.2.2 m 62 (by rw [tm]; decide)).trans s334
            have s348 := (xq345.2.2.2.2.2 m 64 (by rw [tm]; decide)).trans s335
            have s349 := (xq345.2.2.2.2.2 m 52 (by rw [tm]; decide)).trans s336
            have s350 := (xq345.2.2.2.2.2 m 67 (by rw [tm]; decide)).trans s337
            have s351 := (xq345.2.2.2.2.2 m 68 (by rw [tm]; decide)).trans s338
            have s352 := (xq345.2.2.2.2.2 m 69 (by rw [tm]; decide)).trans s339
            have s353 := (xq345.2.2.2.2.2 m 70 (by rw [tm]; decide)).trans s340
            have pr354 := gRn.fr xq345.2 (by decide) pr342
            have pr355 := gRn.fr xq345.2 (by decide) pr343
            have pr356 := gEl.fr xq345.2 (by decide) (fun _ => rfl) pr344
            have pr357 := gRn.fr xq345.2 (by decide) yq331_0
            have pr358 := gRn.fr xq345.2 (by decide) yq331_1
            refine gy_s 4 (pc' := 50) (L' := [some (.ref m), some (.int (zi a)), some (.int (zi b)), some (.int (zi ov)), some (.int (zi bt)), some (.int ((zi 0) + zi 1)), some (.int (zi jn32v0))]) (S' := [.int (zi 2), .int ((zi 0) + zi 1)]) (L2 := [some (.ref m), some (.int (zi a)), some (.int (zi b)), some (.int (zi ov)), some (.int (zi bt)), some (.int (zi 1)), some (.int (zi jn32v0))]) (S2 := [.int (zi 2), .int (zi 1)]) rfl (by simp only [zi_add, zi_sub, zi_mul, zi_neg, zi_and1, zi_and7, zi_and15, zi_and31, zi_and255, Int.reduceAdd, Int.reduceMul, Int.reduceSub]) (by simp only [zi_add, zi_sub, zi_mul, zi_neg, zi_and1, zi_and7, zi_and15, zi_and31, zi_and255, Int.reduceAdd, Int.reduceMul, Int.reduceSub]) ?_
            refine gy_icF rfl (by decide) (by decide) (by omega) (by omega) (by first | (simp [zc]; done) | (simp only [zc]; omega)) ?_
            refine gz_s 1 (pc' := 55) (L' := [some (.ref m), some (.int (zi a)), some (.int (zi b)), some (.int (zi ov)), some (.int (zi bt)), some (.int (zi 1)), some (.int (zi jn32v0))]) (S' := [.int (zi 1)]) rfl ?_
            refine gy_ifT (pc' := 74) rfl (by decide) (by decide) (by omega) (by first | (simp [zc]; done) | (simp only [zc]; omega)) ?_
            refine gz_s 1 (pc' := 75) (L' := [some (.ref m), some (.int (zi a)), some (.int (zi b)), some (.int (zi ov)), some (.int (zi bt)), some (.int (zi 1)), some (.int (zi jn32v0))]) (S' := [.int (zi b)]) rfl ?_
            have jn359 : ∀ (jn359v0 : Int), ((0 ≤ jn359v0) ∧ (jn359v0 ≤ 1) ∧ (jn359v0 = 1 → 0 < b) ∧ (jn359v0 = 0 → b ≤ 0)) → gz gPP gGG gcn (d + 5) gt189 83 [some (.ref m), some (.int (zi a)), some (.int (zi b)), some (.int (zi ov)), some (.int (zi bt)), some (.int (zi 1)), some (.int (zi jn32v0))] [.int (zi jn359v0)] hq345 (fun q _ => gSs rT 1027 ty [1059, 1061, 1062, 1067, 1074, 1075, 32999, 36999, 37999, 38999, 39999, 40999, 41999, 42999] h q.2.2 ∧ ∃ w1 u1 b1 : Int, gfin gt189 q.1 q.2.1 = some none ∧ q.2.2.2.2.2.2 m 59 = .int (zi w1) ∧ 0 ≤ w1 ∧ w1 ≤ 60000 ∧ q.2.2.2.2.2.2 m 61 = .int (zi u1) ∧ 0 ≤ u1 ∧ u1 ≤ 127 ∧ q.2.2.2.2.2.2 m 62 = .int (zi b1) ∧ 0 ≤ b1 ∧ b1 ≤ 0 ∧ (w1 = (eSc iv a b ov bt cf (mb).toNat sg).1) ∧ (u1 = (eSc iv a b ov bt cf (mb).toNat sg).2.1) ∧ (b1 = (eSc iv a b ov bt cf (mb).toNat sg).2.2.1) ∧ (w0 ≤ w1) ∧ (4 * w1 ≤ 4 * w0 + 16 * (35 * (b - a + 1) + 73) + 2300) ∧ (gSO ty (eSc iv a b ov bt cf (mb).toNat sg) q.2.2) ∧ (eeOk (eSc iv a b ov bt cf (mb).toNat sg))) := by
              intro jn359v0 jn359d
              refine gz_s 2 (pc' := 87) (L' := [some (.ref m), some (.int (zi a)), some (.int (zi b)), some (.int (zi ov)), some (.int (zi bt)), some (.int (zi 1)), some (.int (zi jn359v0))]) (S' := [.int (zi jn359v0)]) rfl ?_
              by_cases hc360 : (jn359v0 : Int) = 0
              · refine gy_ifT (pc' := 118) rfl (by decide) (by decide) (by omega) hc360 ?_
                refine gy_s 4 (pc' := 50) (L' := [some (.ref m), some (.int (zi a)), some (.int (zi b)), some (.int (zi ov)), some (.int (zi bt)), some (.int ((zi 1) + zi 1)), some (.int (zi jn359v0))]) (S' := [.int (zi 2), .int ((zi 1) + zi 1)]) (L2 := [some (.ref m), some (.int (zi a)), some (.int (zi b)), some (.int (zi ov)), some (.int (zi bt)), some (.int (zi 2)), some (.int (zi jn359v0))]) (S2 := [.int (zi 2), .int (zi 2)]) rfl (by simp only [zi_add, zi_sub, zi_mul, zi_neg, zi_and1, zi_and7, zi_and15, zi_and31, zi_and255, Int.reduceAdd, Int.reduceMul, Int.reduceSub]) (by simp only [zi_add, zi_sub, zi_mul, zi_neg, zi_and1, zi_and7, zi_and15, zi_and31, zi_and255, Int.reduceAdd, Int.reduceMul, Int.reduceSub]) ?_
                refine gy_icT (pc' := 124) rfl (by decide) (by decide) (by omega) (by omega) (by first | (simp [zc]; done) | (simp only [zc]; omega)) ?_
                have htk361 : gTk (a = 0 ∧ ov = 0) 0 ty (ekc (ehN ((ecK iv a b ov bt cf e1w e1w (mb).toNat).2.1))) hq345 := gTk.of0 pr357 pr358 (eh16N hB9.1)
                have htk362 : gTk (0 < b) 1 ty (ekc (ehN ((ecK iv a b ov bt cf e1w e1w (mb).toNat).2.2))) hq345 := fun w => absurd w (by omega)
                refine gz_s 2 (pc' := 128) (L' := [some (.ref m), some (.int (zi a)), some (.int (zi b)), some (.int (zi ov)), some (.int (zi bt)), some (.int (zi 2)), some (.int (zi jn359v0))]) (S' := [.int (zi 218), .ref m]) rfl ?_
                refine gz_call rfl (by decide) rfl (by decide) (by decide) (gcal_of rfl rfl rfl (Nat.le_of_ble_eq_true rfl) (gJ.recv (G := gGG) sq345.1 tm rfl rfl)) (mw_putMarker _ sq345.1 m tm 218 (by omega) fq345_0 efq345_0 (by omega) (ekP 0 (ehN ((ecK iv a b ov bt cf e1w e1w (mb).toNat).2.1)) sg) (by omega) uq yq345_0 yq345_1) (fun q363 _ wq363 => ?_)
                obtain ⟨pq363, oq363, hq363⟩ := q363
                obtain ⟨xq363, fq363_0, gq363, efq363_0, afq363_0, bfq363_0, uq363_0, uq363_1, uq363_2, uq363_3, yq363_0, yq363_1⟩ := wq363
                refine ⟨_, gq363, ?_⟩
                show gz gPP gGG gcn _ _ 131 [some (.ref m), some (.int (zi a)), some (.int (zi b)), some (.int (zi ov)), some (.int (zi bt)), some (.int (zi 2)), some (.int (zi jn359v0))] [] hq363 _
                have sq363 := gSs.tr sq345 xq363 (by decide)
                have s364 := (xq363.2.2.2.2.2 m 61 (by rw [tm]; decide)).trans s346
                have s365 := (xq363.2.2.2.2.2 m 62 (by rw [tm]; decide)).trans s347
                have s366 := (xq363.2.2.2.2.2 m 64 (by rw [tm]; decide)).trans s348
                have s367 := (xq363.2.2.2.2.2 m 52 (by rw [tm]; decide)).trans s349
                have s368 := (xq363.2.2.2.2.2 m 67 (by rw [tm]; decide)).trans s350
                have s369 := (xq363.2.2.2.2.2 m 68 (by rw [tm]; decide)).trans s351
                have s370 := (xq363.2.2.2.2.2 m 69 (by rw [tm]; decide)).trans s352
                have s371 := (xq363.2.2.2.2.2 m 70 (by rw [tm]; decide)).trans s353
                have pr372 := gRn.fr xq363.2 (by decide) pr354
                have pr373 := gEl.fr xq363.2 (by decide) (fun _ => rfl) pr356
                have pr374 := gTk.fr xq363.2 (by decide) (by decide) htk361
                have pr375 := gTk.fr xq363.2 (by decide) (by decide) htk362
                refine gz_s 2 (pc' := 134) (L' := [some (.ref m), some (.int (zi a)), some (.int (zi b)), some (.int (zi ov)), some (.int (zi bt)), some (.int (zi 2)), some (.int (zi jn359v0))]) (S' := [.int (zi 8), .ref m]) rfl ?_
                refine gz_call rfl (by decide) rfl (by decide) (by decide) (gcal_of rfl rfl rfl (Nat.le_of_ble_eq_true rfl) (gJ.recv (G := gGG) sq363.1 tm rfl rfl)) (mw_putTwo _ sq363.1 m tm 8 (by omega) fq363_0 efq363_0 (by omega) (eeM (ekP 0 (ehN ((ecK iv a b ov bt cf e1w e1w (mb).toNat).2.1)) sg) 218) (by omega) uq yq363_0 yq363_1) (fun q376 _ wq376 => ?_)
                obtain ⟨pq376, oq376, hq376⟩ := q376
                obtain ⟨xq376, fq376_0, gq376, efq376_0, afq376_0, bfq376_0, uq376_0, uq376_1, uq376_2, uq376_3, yq376_0, yq376_1⟩ := wq376
                refine ⟨_, gq376, ?_⟩
                show gz gPP gGG gcn _ _ 137 [some (.ref m), some (.int (zi a)), some (.int (zi b)), some (.int (zi ov)), some (.int (zi bt)), some (.int (zi 2)), some (.int (zi jn359v0))] [] hq376 _
                have sq376 := gSs.tr sq363 xq376 (by decide)
                have s377 := (xq376.2.2.2.2.2 m 61 (by rw [tm]; decide)).trans s364
                have s378 := (xq376.2.2.2.2.2 m 62 (by rw [tm]; decide)).trans s365
                have s379 := (xq376.2.2.2.2.2 m 64 (by rw [tm]; decide)).trans s366
                have s380 := (xq376.2.2.2.2.2 m 52 (by rw [tm]; decide)).trans s367
                have s381 := (xq376.2.2.2.2.2 m 67 (by rw [tm]; decide)).trans s368
                have s382 := (xq376.2.2.2.2.2 m 68 (by rw [tm]; decide)).trans s369
                have s383 := (xq376.2.2.2.2.2 m 69 (by rw [tm]; decide)).trans s370
                have s384 := (xq376.2.2.2.2.2 m 70 (by rw [tm]; decide)).trans s371
                have pr385 := gRn.fr xq376.2 (by decide) pr372
                have pr386 := gEl.fr xq376.2 (by decide) (fun _ => rfl) pr373
                have pr387 := gTk.fr xq376.2 (by decide) (by decide) pr374
                have pr388 := gTk.fr xq376.2 (by decide) (by decide) pr375
                refine gz_s 2 (pc' := 139) (L' := [some (.ref m), some (.int (zi a)), some (.int (zi b)), some (.int (zi ov)), some (.int (zi bt)), some (.int (zi 2)), some (.int (zi jn359v0))]) (S' := [.int (zi 1), .ref m]) rfl ?_
                refine gz_call rfl (by decide) rfl (by decide) (by decide) (gcal_of rfl rfl rfl (Nat.le_of_ble_eq_true rfl) (gJ.recv (G := gGG) sq376.1 tm rfl rfl)) (mw_putByte _ sq376.1 m tm 1 (by omega) fq376_0 efq376_0 (by omega) (eeT (eeM (ekP 0 (ehN ((ecK iv a b ov bt cf e1w e1w (mb).toNat).2.1)) sg) 218) 8) (by omega) uq yq376_0 yq376_1) (fun q389 _ wq389 => ?_)
                obtain ⟨pq389, oq389, hq389⟩ := q389
                obtain ⟨xq389, fq389_0, gq389, efq389_0, afq389_0, bfq389_0, uq389_0, uq389_1, uq389_2, uq389_3, yq389_0, yq389_1⟩ := wq389
                refine ⟨_, gq389, ?_⟩
                show gz gPP gGG gcn _ _ 142 [some (.ref m), some (.int (zi a)), some (.int (zi b)), some (.int (zi ov)), some (.int (zi bt)), some (.int (zi 2)), some (.int (zi jn359v0))] [] hq389 _
                have sq389 := gSs.tr sq376 xq389 (by decide)
                have s390 := (xq389.2.2.2.2.2 m 61 (by rw [tm]; decide)).trans s377
                have s391 := (xq389.2.2.2.2.2 m 62 (by rw [tm]; decide)).trans s378
                have s392 := (xq389.2.2.2.2.2 m 64 (by rw [tm]; decide)).trans s379
                have s393 := (xq389.2.2.2.2.2 m 52 (by rw [tm]; decide)).trans s380
                have s394 := (xq389.2.2.2.2.2 m 67 (by rw [tm]; decide)).trans s381
                have s395 := (xq389.2.2.2.2.2 m 68 (by rw [tm]; decide)).trans s382
                have s396 := (xq389.2.2.2.2.2 m 69 (by rw [tm]; decide)).trans s383
                have s397 := (xq389.2.2.2.2.2 m 70 (by rw [tm]; decide)).trans s384
                have pr398 := gRn.fr xq389.2 (by decide) pr385
                have pr399 := gEl.fr xq389.2 (by decide) (fun _ => rfl) pr386
                have pr400 := gTk.fr xq389.2 (by decide) (by decide) pr387
                have pr401 := gTk.fr xq389.2 (by decide) (by decide) pr388
                refine gz_s 2 (pc' := 144) (L' := [some (.ref m), some (.int (zi a)), some (.int (zi b)), some (.int (zi ov)), some (.int (zi bt)), some (.int (zi 2)), some (.int (zi jn359v0))]) (S' := [.int (zi 1), .ref m]) rfl ?_
                refine gz_call rfl (by decide) rfl (by decide) (by decide) (gcal_of rfl rfl rfl (Nat.le_of_ble_eq_true rfl) (gJ.recv (G := gGG) sq389.1 tm rfl rfl)) (mw_putByte _ sq389.1 m tm 1 (by omega) fq389_0 efq389_0 (by omega) (eeB (eeT (eeM (ekP 0 (ehN ((ecK iv a b ov bt cf e1w e1w (mb).toNat).2.1)) sg) 218) 8) 1) (by omega) uq yq389_0 yq389_1) (fun q402 _ wq402 => ?_)
                obtain ⟨pq402, oq402, hq402⟩ := q402
                obtain ⟨xq402, fq402_0, gq402, efq402_0, afq402_0, bfq402_0, uq402_0, uq402_1, uq402_2, uq402_3, yq402_0, yq402_1⟩ := wq402
                refine ⟨_, gq402, ?_⟩
                show gz gPP gGG gcn _ _ 147 [some (.ref m), some (.int (zi a)), some (.int (zi b)), some (.int (zi ov)), some (.int (zi bt)), some (.int (zi 2)), some (.int (zi jn359v0))] [] hq402 _
                have sq402 := gSs.tr sq389 xq402 (by decide)
                have s403 := (xq402.2.2.2.2.2 m 61 (by rw [tm]; decide)).trans s390
                have s404 := (xq402.2.2.2.2.2 m 62 (by rw [tm]; decide)).trans s391
                have s405 := (xq402.2.2.2.2.2 m 64 (by rw [tm]; decide)).trans s392
                have s406 := (xq402.2.2.2.2.2 m 52 (by rw [tm]; decide)).trans s393
                have s407 := (xq402.2.2.2.2.2 m 67 (by rw [tm]; decide)).trans s394
                have s408 := (xq402.2.2.2.2.2 m 68 (by rw [tm]; decide)).trans s395
                have s409 := (xq402.2.2.2.2.2 m 69 (by rw [tm]; decide)).trans s396
                have s410 := (xq402.2.2.2.2.2 m 70 (by rw [tm]; decide)).trans s397
                have pr411 := gRn.fr xq402.2 (by decide) pr398
                have pr412 := gEl.fr xq402.2 (by decide) (fun _ => rfl) pr399
                have pr413 := gTk.fr xq402.2 (by decide) (by decide) pr400
                have pr414 := gTk.fr xq402.2 (by decide) (by decide) pr401
                refine gz_s 2 (pc' := 149) (L' := [some (.ref m), some (.int (zi a)), some (.int (zi b)), some (.int (zi ov)), some (.int (zi bt)), some (.int (zi 2)), some (.int (zi jn359v0))]) (S' := [.int (zi 0), .ref m]) rfl ?_
                refine gz_call rfl (by decide) rfl (by decide) (by decide) (gcal_of rfl rfl rfl (Nat.le_of_ble_eq_true rfl) (gJ.recv (G := gGG) sq402.1 tm rfl rfl)) (mw_putByte _ sq402.1 m tm 0 (by omega) fq402_0 efq402_0 (by omega) (eeB (eeB (eeT (eeM (ekP 0 (ehN ((ecK iv a b ov bt cf e1w e1w (mb).toNat).2.1)) sg) 218) 8) 1) 1) (by omega) uq yq402_0 yq402_1) (fun q415 _ wq415 => ?_)
                obtain ⟨pq415, oq415, hq415⟩ := q415
                obtain ⟨xq415, fq415_0, gq415, efq415_0, afq415_0, bfq415_0, uq415_0, uq415_1, uq415_2, uq415_3, yq415_0, yq415_1⟩ := wq415
                refine ⟨_, gq415, ?_⟩
                show gz gPP gGG gcn _ _ 152 [some (.ref m), some (.int (zi a)), some (.int (zi b)), some (.int (zi ov)), some (.int (zi bt)), some (.int (zi 2)), some (.int (zi jn359v0))] [] hq415 _
                have sq415 := gSs.tr sq402 xq415 (by decide)
                have s416 := (xq415.2.2.2.2.2 m 61 (by rw [tm]; decide)).trans s403
                have s417 := (xq415.2.2.2.2.2 m 62 (by rw [tm]; decide)).trans s404
                have s418 := (xq415.2.2.2.2.2 m 64 (by rw [tm]; decide)).trans s405
                have s419 := (xq415.2.2.2.2.2 m 52 (by rw [tm]; decide)).trans s406
                have s420 := (xq415.2.2.2.2.2 m 67 (by rw [tm]; decide)).trans s407
                have s421 := (xq415.2.2.2.2.2 m 68 (by rw [tm]; decide)).trans s408
                have s422 := (xq415.2.2.2.2.2 m 69 (by rw [tm]; decide)).trans s409
                have s423 := (xq415.2.2.2.2.2 m 70 (by rw [tm]; decide)).trans s410
                have pr424 := gRn.fr xq415.2 (by decide) pr411
                have pr425 := gEl.fr xq415.2 (by decide) (fun _ => rfl) pr412
                have pr426 := gTk.fr xq415.2 (by decide) (by decide) pr413
                have pr427 := gTk.fr xq415.2 (by decide) (by decide) pr414
                refine gz_s 2 (pc' := 154) (L' := [some (.ref m), some (.int (zi a)), some (.int (zi b)), some (.int (zi ov)), some (.int (zi bt)), some (.int (zi 2)), some (.int (zi jn359v0))]) (S' := [.int (zi a), .ref m]) rfl ?_
                refine gz_call rfl (by decide) rfl (by decide) (by decide) (gcal_of rfl rfl rfl (Nat.le_of_ble_eq_true rfl) (gJ.recv (G := gGG) sq415.1 tm rfl rfl)) (mw_putByte _ sq415.1 m tm a (by omega) fq415_0 efq415_0 (by omega) (eeB (eeB (eeB (eeT (eeM (ekP 0 (ehN ((ecK iv a b ov bt cf e1w e1w (mb).toNat).2.1)) sg) 218) 8) 1) 1) 0) (by omega) uq yq415_0 yq415_1) (fun q428 _ wq428 => ?_)
                obtain ⟨pq428, oq428, hq428⟩ := q428
                obtain ⟨xq428, fq428_0, gq428, efq428_0, afq428_0, bfq428_0, uq428_0, uq428_1, uq428_2, uq428_3, yq428_0, yq428_1⟩ := wq428
                refine ⟨_, gq428, ?_⟩
                show gz gPP gGG gcn _ _ 157 [some (.ref m), some (.int (zi a)), some (.int (zi b)), some (.int (zi ov)), some (.int (zi bt)), some (.int (zi 2)), some (.int (zi jn359v0))] [] hq428 _
                have sq428 := gSs.tr sq415 xq428 (by decide)
                have s429 := (xq428.2.2.2.2.2 m 61 (by rw [tm]; decide)).trans s416
                have s430 := (xq428.2.2.2.2.2 m 62 (by rw [tm]; decide)).trans s417
                have s431 := (xq428.2.2.2.2.2 m 64 (by rw [tm]; decide)).trans s418
                have s432 := (xq428.2.2.2.2.2 m 52 (by rw [tm]; decide)).trans s419
                have s433 := (xq428.2.2.2.2.2 m 67 (by rw [tm]; decide)).trans s420
                have s434 := (xq428.2.2.2.2.2 m 68 (by rw [tm]; decide)).trans s421
                have s435 := (xq428.2.2.2.2.2 m 69 (by rw [tm]; decide)).trans s422
                have s436 := (xq428.2.2.2.2.2 m 70 (by rw [tm]; decide)).trans s423
                have pr437 := gRn.fr xq428.2 (by decide) pr424
                have pr438 := gEl.fr xq428.2 (by decide) (fun _ => rfl) pr425
                have pr439 := gTk.fr xq428.2 (by decide) (by decide) pr426
                have pr440 := gTk.fr xq428.2 (by decide) (by decide) pr427
                refine gz_s 2 (pc' := 159) (L' := [some (.ref m), some (.int (zi a)), some (.int (zi b)), some (.int (zi ov)), some (.int (zi bt)), some (.int (zi 2)), some (.int (zi jn359v0))]) (S' := [.int (zi b), .ref m]) rfl ?_
                refine gz_call rfl (by decide) rfl (by decide) (by decide) (gcal_of rfl rfl rfl (Nat.le_of_ble_eq_true rfl) (gJ.recv (G := gGG) sq428.1 tm rfl rfl)) (mw_putByte _ sq428.1 m tm b (by omega) fq428_0 efq428_0 (by omega) (eeB (eeB (eeB (eeB (eeT (eeM (ekP 0 (ehN ((ecK iv a b ov bt cf e1w e1w (mb).toNat).2.1)) sg) 218) 8) 1) 1) 0) a) (by omega) uq yq428_0 yq428_1) (fun q441 _ wq441 => ?_)
                obtain ⟨pq441, oq441, hq441⟩ := q441
                obtain ⟨xq441, fq441_0, gq441, efq441_0, afq441_0, bfq441_0, uq441_0, uq441_1, uq441_2, uq441_3, yq441_0, yq441_1⟩ := wq441
                refine ⟨_, gq441, ?_⟩
                show gz gPP gGG gcn _ _ 162 [some (.ref m), some (.int (zi a)), some (.int (zi b)), some (.int (zi ov)), some (.int (zi bt)), some (.int (zi 2)), some (.int (zi jn359v0))] [] hq441 _
                have sq441 := gSs.tr sq428 xq441 (by decide)
                have s442 := (xq441.2.2.2.2.2 m 61 (by rw [tm]; decide)).trans s429
                have s443 := (xq441.2.2.2.2.2 m 62 (by rw [tm]; decide)).trans s430
                have s444 := (xq441.2.2.2.2.2 m 64 (by rw [tm]; decide)).trans s431
                have s445 := (xq441.2.2.2.2.2 m 52 (by rw [tm]; decide)).trans s432
                have s446 := (xq441.2.2.2.2.2 m 67 (by rw [tm]; decide)).trans s433
                have s447 := (xq441.2.2.2.2.2 m 68 (by rw [tm]; decide)).trans s434
                have s448 := (xq441.2.2.2.2.2 m 69 (by rw [tm]; decide)).trans s435
                have s449 := (xq441.2.2.2.2.2 m 70 (by rw [tm]; decide)).trans s436
                have pr450 := gRn.fr xq441.2 (by decide) pr437
                have pr451 := gEl.fr xq441.2 (by decide) (fun _ => rfl) pr438
                have pr452 := gTk.fr xq441.2 (by decide) (by decide) pr439
                have pr453 := gTk.fr xq441.2 (by decide) (by decide) pr440
                refine gy_s 6 (pc' := 170) (L' := [some (.ref m), some (.int (zi a)), some (.int (zi b)), some (.int (zi ov)), some (.int (zi bt)), some (.int (zi 2)), some (.int (zi jn359v0))]) (S' := [.int (((zi 16) * (zi ov)) + (zi bt)), .ref m]) (L2 := [some (.ref m), some (.int (zi a)), some (.int (zi b)), some (.int (zi ov)), some (.int (zi bt)), some (.int (zi 2)), some (.int (zi jn359v0))]) (S2 := [.int (zi ((16 * ov) + bt)), .ref m]) rfl (by simp only [zi_add, zi_sub, zi_mul, zi_neg, zi_and1, zi_and7, zi_and15, zi_and31, zi_and255, Int.reduceAdd, Int.reduceMul, Int.reduceSub]) (by simp only [zi_add, zi_sub, zi_mul, zi_neg, zi_and1, zi_and7, zi_and15, zi_and31, zi_and255, Int.reduceAdd, Int.reduceMul, Int.reduceSub]) ?_
                refine gz_call rfl (by decide) rfl (by decide) (by decide) (gcal_of rfl rfl rfl (Nat.le_of_ble_eq_true rfl) (gJ.recv (G := gGG) sq441.1 tm rfl rfl)) (mw_putByte _ sq441.1 m tm ((16 * ov) + bt) (by omega) fq441_0 efq441_0 (by omega) (eeB (eeB (eeB (eeB (eeB (eeT (eeM (ekP 0 (ehN ((ecK iv a b ov bt cf e1w e1w (mb).toNat).2.1)) sg) 218) 8) 1) 1) 0) a) b) (by omega) uq yq441_0 yq441_1) (fun q454 _ wq454 => ?_)
                obtain ⟨pq454, oq454, hq454⟩ := q454
                obtain ⟨xq454, fq454_0, gq454, efq454_0, afq454_0, bfq454_0, uq454_0, uq454_1, uq454_2, uq454_3, yq454_0, yq454_1⟩ := wq454
                refine ⟨_, gq454, ?_⟩
                show gz gPP gGG gcn _ _ 173 [some (.ref m), some (.int (zi a)), some (.int (zi b)), some (.int (zi ov)), some (.int (zi bt)), some (.int (zi 2)), some (.int (zi jn359v0))] [] hq454 _
                have sq454 := gSs.tr sq441 xq454 (by decide)
                have s455 := (xq454.2.2.2.2.2 m 61 (by rw [tm]; decide)).trans s442
                have s456 := (xq454.2.2.2.2.2 m 62 (by rw [tm]; decide)).trans s443
                have s457 := (xq454.2.2.2.2.2 m 64 (by rw [tm]; decide)).trans s444
                have s458 := (xq454.2.2.2.2.2 m 52 (by rw [tm]; decide)).trans s445
                have s459 := (xq454.2.2.2.2.2 m 67 (by rw [tm]; decide)).trans s446
                have s460 := (xq454.2.2.2.2.2 m 68 (by rw [tm]; decide)).trans s447
                have s461 := (xq454.2.2.2.2.2 m 69 (by rw [tm]; decide)).trans s448
                have s462 := (xq454.2.2.2.2.2 m 70 (by rw [tm]; decide)).trans s449
                have pr463 := gRn.fr xq454.2 (by decide) pr450
                have pr464 := gEl.fr xq454.2 (by decide) (fun _ => rfl) pr451
                have pr465 := gTk.fr xq454.2 (by decide) (by decide) pr452
                have pr466 := gTk.fr xq454.2 (by decide) (by decide) pr453
                have hk467 : eSh a b ov bt (ekP 0 (ehN ((ecK iv a b ov bt cf e1w e1w (mb).toNat).2.1)) sg) = eeB (eeB (eeB (eeB (eeB (eeB (eeT (eeM (ekP 0 (ehN ((ecK iv a b ov bt cf e1w e1w (mb).toNat).2.1)) sg) 218) 8) 1) 1) 0) a) b) ((16 * ov) + bt) := rfl
                have hk467_1 : (eSh a b ov bt (ekP 0 (ehN ((ecK iv a b ov bt cf e1w e1w (mb).toNat).2.1)) sg)).1 = (eeB (eeB (eeB (eeB (eeB (eeB (eeT (eeM (ekP 0 (ehN ((ecK iv a b ov bt cf e1w e1w (mb).toNat).2.1)) sg) 218) 8) 1) 1) 0) a) b) ((16 * ov) + bt)).1 := by rw [hk467]
                have hk467_21 : (eSh a b ov bt (ekP 0 (ehN ((ecK iv a b ov bt cf e1w e1w (mb).toNat).2.1)) sg)).2.1 = (eeB (eeB (eeB (eeB (eeB (eeB (eeT (eeM (ekP 0 (ehN ((ecK iv a b ov bt cf e1w e1w (mb).toNat).2.1)) sg) 218) 8) 1) 1) 0) a) b) ((16 * ov) + bt)).2.1 := by rw [hk467]
                have hk467_221 : (eSh a b ov bt (ekP 0 (ehN ((ecK iv a b ov bt cf e1w e1w (mb).toNat).2.1)) sg)).2.2.1 = (eeB (eeB (eeB (eeB (eeB (eeB (eeT (eeM (ekP 0 (ehN ((ecK iv a b ov bt cf e1w e1w (mb).toNat).2.1)) sg) 218) 8) 1) 1) 0) a) b) ((16 * ov) + bt)).2.2.1 := by rw [hk467]
                have hso468 : gSO ty (eSh a b ov bt (ekP 0 (ehN ((ecK iv a b ov bt cf e1w e1w (mb).toNat).2.1)) sg)) hq454 := by rw [hk467]; exact yq454_0
                have hok469 : eeOk (eSh a b ov bt (ekP 0 (ehN ((ecK iv a b ov bt cf e1w e1w (mb).toNat).2.1)) sg)) := by rw [hk467]; exact yq454_1
                have hok469c := hok469.cur
                refine gz_s 5 (pc' := 179) (L' := [some (.ref m), some (.int (zi a)), some (.int (zi b)), some (.int (zi ov)), some (.int (zi bt)), some (.int (zi 2)), some (.int (zi jn359v0))]) (S' := [.int (zi bt), .int (zi ov), .int (zi b), .int (zi a), .ref m]) rfl ?_
                refine gz_call rfl (by decide) rfl (by decide) (by decide) (gcal_of rfl rfl rfl (Nat.le_of_ble_eq_true rfl) (gJ.recv (G := gGG) sq454.1 tm rfl rfl)) (mw_putBlocks _ sq454.1 m tm a (by omega) b (by omega) ov (by omega) bt (by omega) fq454_0 efq454_0 (by omega) u0 s455 (by omega) b0 s456 (by omega) 1 s459 (by omega) mb s457 (by omega) iv s458 (by omega) cf (eSh a b ov bt (ekP 0 (ehN ((ecK iv a b ov bt cf e1w e1w (mb).toNat).2.1)) sg)) (ekc (ehN ((ecK iv a b ov bt cf e1w e1w (mb).toNat).2.1))) (ekc (ehN ((ecK iv a b ov bt cf e1w e1w (mb).toNat).2.2))) (by omega) (by omega) (by omega) (by omega) (by omega) (by omega) uq hso468 hok469 pr463 pr465 pr466) (fun q470 _ wq470 => ?_)
                obtain ⟨pq470, oq470, hq470⟩ := q470
                obtain ⟨xq470, fq470_0, fq470_1, fq470_2, gq470, efq470_0, afq470_0, bfq470_0, efq470_1, afq470_1, bfq470_1, efq470_2, afq470_2, bfq470_2, uq470_0, uq470_1, uq470_2, uq470_3, uq470_4, yq470_0, yq470_1⟩ := wq470
                refine ⟨_, gq470, ?_⟩
                show gz gPP gGG gcn _ _ 182 [some (.ref m), some (.int (zi a)), some (.int (zi b)), some (.int (zi ov)), some (.int (zi bt)), some (.int (zi 2)), some (.int (zi jn359v0))] [] hq470 _
                have sq470 := gSs.tr sq454 xq470 (by decide)
                have s471 := (xq470.2.2.2.2.2 m 64 (by rw [tm]; decide)).trans s457
                have s472 := (xq470.2.2.2.2.2 m 52 (by rw [tm]; decide)).trans s458
                have s473 := (xq470.2.2.2.2.2 m 67 (by rw [tm]; decide)).trans s459
                have s474 := (xq470.2.2.2.2.2 m 68 (by rw [tm]; decide)).trans s460
                have s475 := (xq470.2.2.2.2.2 m 69 (by rw [tm]; decide)).trans s461
                have s476 := (xq470.2.2.2.2.2 m 70 (by rw [tm]; decide)).trans s462
                have pr477 := gRn.fr xq470.2 (by decide) pr463
                have pr478 := gEl.fr xq470.2 (by decide) (fun _ => rfl) pr464
                have pr479 := gTk.fr xq470.2 (by decide) (by decide) pr465
                have pr480 := gTk.fr xq470.2 (by decide) (by decide) pr466
                refine gz_s 1 (pc' := 183) (L' := [some (.ref m), some (.int (zi a)), some (.int (zi b)), some (.int (zi ov)), some (.int (zi bt)), some (.int (zi 2)), some (.int (zi jn359v0))]) (S' := [.ref m]) rfl ?_
                refine gz_call rfl (by decide) rfl (by decide) (by decide) (gcal_of rfl rfl rfl (Nat.le_of_ble_eq_true rfl) (gJ.recv (G := gGG) sq470.1 tm rfl rfl)) (mw_fillByte _ sq470.1 m tm fq470_0 efq470_0 (by omega) fq470_1 efq470_1 (by omega) fq470_2 efq470_2 (by omega) 1 s473 (by omega) ((ewK (ekc (ehN ((ecK iv a b ov bt cf e1w e1w (mb).toNat).2.1))) (ekc (ehN ((ecK iv a b ov bt cf e1w e1w (mb).toNat).2.2))) iv a b ov bt cf (eSh a b ov bt (ekP 0 (ehN ((ecK iv a b ov bt cf e1w e1w (mb).toNat).2.1)) sg)) (mb).toNat).2) (by omega) (by omega) (by omega) (by omega) uq yq470_0 yq470_1) (fun q481 _ wq481 => ?_)
                obtain ⟨pq481, oq481, hq481⟩ := q481
                obtain ⟨xq481, fq481_0, fq481_1, fq481_2, gq481, efq481_0, afq481_0, bfq481_0, efq481_1, afq481_1, bfq481_1, efq481_2, afq481_2, bfq481_2, uq481_0, uq481_1, uq481_2, uq481_3, uq481_4, uq481_5, yq481_0, yq481_1⟩ := wq481
                refine ⟨_, gq481, ?_⟩
                show gz gPP gGG gcn _ _ 186 [some (.ref m), some (.int (zi a)), some (.int (zi b)), some (.int (zi ov)), some (.int (zi bt)), some (.int (zi 2)), some (.int (zi jn359v0))] [] hq481 _
                have sq481 := gSs.tr sq470 xq481 (by decide)
                have s482 := (xq481.2.2.2.2.2 m 64 (by rw [tm]; decide)).trans s471
                have s483 := (xq481.2.2.2.2.2 m 52 (by rw [tm]; decide)).trans s472
                have s484 := (xq481.2.2.2.2.2 m 67 (by rw [tm]; decide)).trans s473
                have s485 := (xq481.2.2.2.2.2 m 68 (by rw [tm]; decide)).trans s474
                have s486 := (xq481.2.2.2.2.2 m 69 (by rw [tm]; decide)).trans s475
                have s487 := (xq481.2.2.2.2.2 m 70 (by rw [tm]; decide)).trans s476
                have pr488 := gRn.fr xq481.2 (by decide) pr477
                have pr489 := gEl.fr xq481.2 (by decide) (fun _ => rfl) pr478
                have pr490 := gTk.fr xq481.2 (by decide) (by decide) pr479
                have pr491 := gTk.fr xq481.2 (by decide) (by decide) pr480
                have hk492 : eSc iv a b ov bt cf (mb).toNat sg = eeF ((ewK (ekc (ehN ((ecK iv a b ov bt cf e1w e1w (mb).toNat).2.1))) (ekc (ehN ((ecK iv a b ov bt cf e1w e1w (mb).toNat).2.2))) iv a b ov bt cf (eSh a b ov bt (ekP 0 (ehN ((ecK iv a b ov bt cf e1w e1w (mb).toNat).2.1)) sg)) (mb).toNat).2) := by unfold eSc; rw [if_neg (show ¬ 0 < b by omega), if_pos (show a = 0 ∧ ov = 0 by omega)]
                have hk492_1 : (eSc iv a b ov bt cf (mb).toNat sg).1 = (eeF ((ewK (ekc (ehN ((ecK iv a b ov bt cf e1w e1w (mb).toNat).2.1))) (ekc (ehN ((ecK iv a b ov bt cf e1w e1w (mb).toNat).2.2))) iv a b ov bt cf (eSh a b ov bt (ekP 0 (ehN ((ecK iv a b ov bt cf e1w e1w (mb).toNat).2.1)) sg)) (mb).toNat).2)).1 := by rw [hk492]
                have hk492_21 : (eSc iv a b ov bt cf (mb).toNat sg).2.1 = (eeF ((ewK (ekc (ehN ((ecK iv a b ov bt cf e1w e1w (mb).toNat).2.1))) (ekc (ehN ((ecK iv a b ov bt cf e1w e1w (mb).toNat).2.2))) iv a b ov bt cf (eSh a b ov bt (ekP 0 (ehN ((ecK iv a b ov bt cf e1w e1w (mb).toNat).2.1)) sg)) (mb).toNat).2)).2.1 := by rw [hk492]
                have hk492_221 : (eSc iv a b ov bt cf (mb).toNat sg).2.2.1 = (eeF ((ewK (ekc (ehN ((ecK iv a b ov bt cf e1w e1w (mb).toNat).2.1))) (ekc (ehN ((ecK iv a b ov bt cf e1w e1w (mb).toNat).2.2))) iv a b ov bt cf (eSh a b ov bt (ekP 0 (ehN ((ecK iv a b ov bt cf e1w e1w (mb).toNat).2.1)) sg)) (mb).toNat).2)).2.2.1 := by rw [hk492]
                have hso493 : gSO ty (eSc iv a b ov bt cf (mb).toNat sg) hq481 := by rw [hk492]; exact yq481_0
                have hok494 : eeOk (eSc iv a b ov bt cf (mb).toNat sg) := by rw [hk492]; exact yq481_1
                have hok494c := hok494.cur
                exact gz_end (I := .return_) (len := 1) rfl (Or.inl rfl) ⟨sq481, fq481_0, fq481_1, fq481_2, rfl, efq481_0, (by omega), (by omega), efq481_1, (by omega), (by omega), efq481_2, (by omega), (by omega), (by omega), (by omega), (by omega), (by omega), (by omega), hso493, hok494⟩
              · refine gy_ifF rfl (by decide) (by decide) (by omega) hc360 ?_
                refine gz_s 1 (pc' := 91) (L' := [some (.ref m), some (.int (zi a)), some (.int (zi b)), some (.int (zi ov)), some (.int (zi bt)), some (.int (zi 1)), some (.int (zi jn359v0))]) (S' := [.ref m]) rfl ?_
                refine gs_gtk rfl (by decide) rfl sq345.1 tm rfl rfl s351 ?_
                refine gy_s 6 (pc' := 105) (L' := [some (.ref m), some (.int (zi a)), some (.int (zi b)), some (.int (zi ov)), some (.int (zi bt)), some (.int (zi 1)), some (.int (zi jn359v0))]) (S' := [.int (zi 1), .int (((zi 257) * (zi 1)) + (zi 256)), .ref c312]) (L2 := [some (.ref m), some (.int (zi a)), some (.int (zi b)), some (.int (zi ov)), some (.int (zi bt)), some (.int (zi 1)), some (.int (zi jn359v0))]) (S2 := [.int (zi 1), .int (zi 513), .ref c312]) rfl (by simp only [zi_add, zi_sub, zi_mul, zi_neg, zi_and1, zi_and7, zi_and15, zi_and31, zi_and255, Int.reduceAdd, Int.reduceMul, Int.reduceSub]) (by simp only [zi_add, zi_sub, zi_mul, zi_neg, zi_and1, zi_and7, zi_and15, zi_and31, zi_and255, Int.reduceAdd, Int.reduceMul, Int.reduceSub]) ?_
                have hl495 : 514 ≤ hq345.2.2.2.1 c312 ∧ hq345.2.2.2.1 c312 ≤ 514 := gJ.rowl (G := gGG) sq345.1 tc312 rfl
                refine gs_ast rfl (by decide) sq345 tc312 rfl rfl rfl (by decide) (fun _ => rfl) (by omega) (by omega) (fun _ => (by decide : (36999 : Nat) ∈ ([1059, 1061, 1062, 1067, 1074, 1075, 32999, 36999, 37999, 38999, 39999, 40999, 41999, 42999] : List Nat))) (by omega) (by omega) (fun h496 sh496 eh496 fh496 => ?_)
                have pr497 := gRn.pt fh496 tc312 (by decide) pr354
                have pr498 := gRn.put (i := 513) (z := 1) uq tc312 (by decide) fh496 eh496 (by omega) (by omega) pr355
                have pr499 := gEl.ot fh496 pr356 (i := 513) (by omega)
                have pr500 := gRn.pt fh496 tc312 (by decide) pr357
                have pr501 := gRn.pt fh496 tc312 (by decide) pr358
                have pr502 := gSO.pt fh496 tc312 (by decide) yq345_0
                have s503 := (fh496 m 61 (fun q => absurd (((tm).symm.trans (congrArg ty q.1)).trans tc312) (by decide))).trans s346
                have s504 := (fh496 m 62 (fun q => absurd (((tm).symm.trans (congrArg ty q.1)).trans tc312) (by decide))).trans s347
                have s505 := (fh496 m 64 (fun q => absurd (((tm).symm.trans (congrArg ty q.1)).trans tc312) (by decide))).trans s348
                have s506 := (fh496 m 52 (fun q => absurd (((tm).symm.trans (congrArg ty q.1)).trans tc312) (by decide))).trans s349
                have s507 := (fh496 m 67 (fun q => absurd (((tm).symm.trans (congrArg ty q.1)).trans tc312) (by decide))).trans s350
                have s508 := (fh496 m 68 (fun q => absurd (((tm).symm.trans (congrArg ty q.1)).trans tc312) (by decide))).trans s351
                have s509 := (fh496 m 69 (fun q => absurd (((tm).symm.trans (congrArg ty q.1)).trans tc312) (by decide))).trans s352
                have s510 := (fh496 m 70 (fun q => absurd (((tm).symm.trans (congrArg ty q.1)).trans tc312) (by decide))).trans s353
                have s511 := (fh496 m 59 (fun q => absurd (((tm).symm.trans (congrArg ty q.1)).trans tc312) (by decide))).trans efq345_0
                have pr512 := gEl.set (i := 513) (z := 1) uq tc312 (by decide) eh496 (by omega) (by omega)
                have hrw513 : gRn 514 ty 36 (eeJ ((ecK iv a b ov bt cf e1w e1w (mb).toNat).2.1) ((ecK iv a b ov bt cf e1w e1w (mb).toNat).2.2)) h496 := by
                  have e9 := pr498
                  rw [show (513 : Int).toNat = (257 * 1 + 256 : Int).toNat from rfl, eeJ_p1 (by decide) (by decide)] at e9
                  rw [(ecK_01 (mb).toNat).2.2]
                  exact e9
                refine gz_s 2 (pc' := 109) (L' := [some (.ref m), some (.int (zi a)), some (.int (zi b)), some (.int (zi ov)), some (.int (zi bt)), some (.int (zi 1)), some (.int (zi jn359v0))]) (S' := [.int (zi 1), .ref m]) rfl ?_
                refine gz_call rfl (by decide) rfl (by decide) (by decide) (gcal_of rfl rfl rfl (Nat.le_of_ble_eq_true rfl) (gJ.recv (G := gGG) sh496.1 tm rfl rfl)) (mw_suit1 _ sh496.1 m tm 1 (by omega) ((ecK iv a b ov bt cf e1w e1w (mb).toNat).2.1) ((ecK iv a b ov bt cf e1w e1w (mb).toNat).2.2) (ehN ((ecK iv a b ov bt cf e1w e1w (mb).toNat).2.1)) (fun j => zf (j + 257)) (eCd (ehN ((ecK iv a b ov bt cf e1w e1w (mb).toNat).2.1)) df 17 0) (fun j => df (j + 257)) uq hrw513 pr500 pr501 hB9.2 h69.2) (fun q514 _ wq514 => ?_)
                obtain ⟨pq514, oq514, hq514⟩ := q514
                obtain ⟨xq514, gq514, yq514_0, yq514_1⟩ := wq514
                refine ⟨_, gq514, ?_⟩
                show gz gPP gGG gcn _ _ 112 [some (.ref m), some (.int (zi a)), some (.int (zi b)), some (.int (zi ov)), some (.int (zi bt)), some (.int (zi 1)), some (.int (zi jn359v0))] [] hq514 _
                have sq514 := gSs.tr sh496 xq514 (by decide)
                have s515 := (xq514.2.2.2.2.2 m 61 (by rw [tm]; decide)).trans s503
                have s516 := (xq514.2.2.2.2.2 m 62 (by rw [tm]; decide)).trans s504
                have s517 := (xq514.2.2.2.2.2 m 64 (by rw [tm]; decide)).trans s505
                have s518 := (xq514.2.2.2.2.2 m 52 (by rw [tm]; decide)).trans s506
                have s519 := (xq514.2.2.2.2.2 m 67 (by rw [tm]; decide)).trans s507
                have s520 := (xq514.2.2.2.2.2 m 68 (by rw [tm]; decide)).trans s508
                have s521 := (xq514.2.2.2.2.2 m 69 (by rw [tm]; decide)).trans s509
                have s522 := (xq514.2.2.2.2.2 m 70 (by rw [tm]; decide)).trans s510
                have s523 := (xq514.2.2.2.2.2 m 59 (by rw [tm]; decide)).trans s511
                have pr524 := gRn.fr xq514.2 (by decide) pr497
                have pr525 := gRn.fr xq514.2 (by decide) hrw513
                have pr526 := gEl.fr xq514.2 (by decide) (fun _ => rfl) pr499
                have pr527 := gSO.fr xq514.2 (by decide) pr502
                have pr528 := gEl.fr xq514.2 (by decide) (fun _ => rfl) pr512
                refine gz_s 2 (pc' := 115) (L' := [some (.ref m), some (.int (zi a)), some (.int (zi b)), some (.int (zi ov)), some (.int (zi bt)), some (.int (zi 1)), some (.int (zi jn359v0))]) (S' := [.int (zi 1), .ref m]) rfl ?_
                refine gz_call rfl (by decide) rfl (by decide) (by decide) (gcal_of rfl rfl rfl (Nat.le_of_ble_eq_true rfl) (gJ.recv (G := gGG) sq514.1 tm rfl rfl)) (mw_putCodes1 _ sq514.1 m tm 1 (by omega) fq345_0 s523 (by omega) (ehN ((ecK iv a b ov bt cf e1w e1w (mb).toNat).2.1)) (ehN ((ecK iv a b ov bt cf e1w e1w (mb).toNat).2.2)) (ekP 0 (ehN ((ecK iv a b ov bt cf e1w e1w (mb).toNat).2.1)) sg) (by omega) uq pr527 yq345_1 yq514_0 (eh16N hB9.2)) (fun q529 _ wq529 => ?_)
                obtain ⟨pq529, oq529, hq529⟩ := q529
                obtain ⟨xq529, fq529_0, gq529, efq529_0, afq529_0, bfq529_0, uq529_0, uq529_1, uq529_2, uq529_3, uq529_4, yq529_0, yq529_1⟩ := wq529
                refine ⟨_, gq529, ?_⟩
                show gz gPP gGG gcn _ _ 118 [some (.ref m), some (.int (zi a)), some (.int (zi b)), some (.int (zi ov)), some (.int (zi bt)), some (.int (zi 1)), some (.int (zi jn359v0))] [] hq529 _
                have sq529 := gSs.tr sq514 xq529 (by decide)
                have s530 := (xq529.2.2.2.2.2 m 61 (by rw [tm]; decide)).trans s515
                have s531 := (xq529.2.2.2.2.2 m 62 (by rw [tm]; decide)).trans s516
                have s532 := (xq529.2.2.2.2.2 m 64 (by rw [tm]; decide)).trans s517
                have s533 := (xq529.2.2.2.2.2 m 52 (by rw [tm]; decide)).trans s518
                have s534 := (xq529.2.2.2.2.2 m 67 (by rw [tm]; decide)).trans s519
                have s535 := (xq529.2.2.2.2.2 m 68 (by rw [tm]; decide)).trans s520
                have s536 := (xq529.2.2.2.2.2 m 69 (by rw [tm]; decide)).trans s521
                have s537 := (xq529.2.2.2.2.2 m 70 (by rw [tm]; decide)).trans s522
                have pr538 := gRn.fr xq529.2 (by decide) pr524
                have pr539 := gRn.fr xq529.2 (by decide) pr525
                have pr540 := gEl.fr xq529.2 (by decide) (fun _ => rfl) pr526
                have pr541 := gEl.fr xq529.2 (by decide) (fun _ => rfl) pr528
                have pr542 := gRn.fr xq529.2 (by decide) yq514_0
                have pr543 := gRn.fr xq529.2 (by decide) yq514_1
                refine gy_s 4 (pc' := 50) (L' := [some (.ref m), some (.int (zi a)), some (.int (zi b)), some (.int (zi ov)), some (.int (zi bt)), some (.int ((zi 1) + zi 1)), some (.int (zi jn359v0))]) (S' := [.int (zi 2), .int ((zi 1) + zi 1)]) (L2 := [some (.ref m), some (.int (zi a)), some (.int (zi b)), some (.int (zi ov)), some (.int (zi bt)), some (.int (zi 2)), some (.int (zi jn359v0))]) (S2 := [.int (zi 2), .int (zi 2)]) rfl (by simp only [zi_add, zi_sub, zi_mul, zi_neg, zi_and1, zi_and7, zi_and15, zi_and31, zi_and255, Int.reduceAdd, Int.reduceMul, Int.reduceSub]) (by simp only [zi_add, zi_sub, zi_mul, zi_neg, zi_and1, zi_and7, zi_and15, zi_and31, zi_and255, Int.reduceAdd, Int.reduceMul, Int.reduceSub]) ?_
                refine gy_icT (pc' := 124) rfl (by decide) (by decide) (by omega) (by omega) (by first | (simp [zc]; done) | (simp only [zc]; omega)) ?_
                have htk544 : gTk (a = 0 ∧ ov = 0) 0 ty (ekc (ehN ((ecK iv a b ov bt cf e1w e1w (mb).toNat).2.1))) hq529 := gTk.of0 pr542 pr543 (eh16N hB9.1)
                have htk545 : gTk (0 < b) 1 ty (ekc (ehN ((ecK iv a b ov bt cf e1w e1w (mb).toNat).2.2))) hq529 := gTk.of1 pr542 pr543 (eh16N hB9.2)
                refine gz_s 2 (pc' := 128) (L' := [some (.ref m), some (.int (zi a)), some (.int (zi b)), some (.int (zi ov)), some (.int (zi bt)), some (.int (zi 2)), some (.int (zi jn359v0))]) (S' := [.int (zi 218), .ref m]) rfl ?_
                refine gz_call rfl (by decide) rfl (by decide) (by decide) (gcal_of rfl rfl rfl (Nat.le_of_ble_eq_true rfl) (gJ.recv (G := gGG) sq529.1 tm rfl rfl)) (mw_putMarker _ sq529.1 m tm 218 (by omega) fq529_0 efq529_0 (by omega) (ekP 1 (ehN ((ecK iv a b ov bt cf e1w e1w (mb).toNat).2.2)) (ekP 0 (ehN ((ecK iv a b ov bt cf e1w e1w (mb).toNat).2.1)) sg)) (by omega) uq yq529_0 yq529_1) (fun q546 _ wq546 => ?_)
                obtain ⟨pq546, oq546, hq546⟩ := q546
                obtain ⟨xq546, fq546_0, gq546, efq546_0, afq546_0, bfq546_0, uq546_0, uq546_1, uq546_2, uq546_3, yq546_0, yq546_1⟩ := wq546
                refine ⟨_, gq546, ?_⟩
                show gz gPP gGG gcn _ _ 131 [some (.ref m), some (.int (zi a)), some (.int (zi b)), some (.int (zi ov)), some (.int (zi bt)), some (.int (zi 2)), some (.int (zi jn359v0))] [] hq546 _
                have sq546 := gSs.tr sq529 xq546 (by decide)
                have s547 := (xq546.2.2.2.2.2 m 61 (by rw [tm]; decide)).trans s530
                have s548 := (xq546.2.2.2.2.2 m 62 (by rw [tm]; decide)).trans s531
                have s549 := (xq546.2.2.2.2.2 m 64 (by rw [tm]; decide)).trans s532
                have s550 := (xq546.2.2.2.2.2 m 52 (by rw [tm]; decide)).trans s533
                have s551 := (xq546.2.2.2.2.2 m 67 (by rw [tm]; decide)).trans s534
                have s552 := (xq546.2.2.2.2.2 m 68 (by rw [tm]; decide)).trans s535
                have s553 := (xq546.2.2.2.2.2 m 69 (by rw [tm]; decide)).trans s536
                have s554 := (xq546.2.2.2.2.2 m 70 (by rw [tm]; decide)).trans s537
                have pr555 := gRn.fr xq546.2 (by decide) pr538
                have pr556 := gEl.fr xq546.2 (by decide) (fun _ => rfl) pr540
                have pr557 := gEl.fr xq546.2 (by decide) (fun _ => rfl) pr541
                have pr558 := gTk.fr xq546.2 (by decide) (by decide) htk544
                have pr559 := gTk.fr xq546.2 (by decide) (by decide) htk545
                refine gz_s 2 (pc' := 134) (L' := [some (.ref m), some (.int (zi a)), some (.int (zi b)), some (.int (zi ov)), some (.int (zi bt)), some (.int (zi 2)), some (.int (zi jn359v0))]) (S' := [.int (zi 8), .ref m]) rfl ?_
                refine gz_call rfl (by decide) rfl (by decide) (by decide) (gcal_of rfl rfl rfl (Nat.le_of_ble_eq_true rfl) (gJ.recv (G := gGG) sq546.1 tm rfl rfl)) (mw_putTwo _ sq546.1 m tm 8 (by omega) fq546_0 efq546_0 (by omega) (eeM (ekP 1 (ehN ((ecK iv a b ov bt cf e1w e1w (mb).toNat).2.2)) (ekP 0 (ehN ((ecK iv a b ov bt cf e1w e1w (mb).toNat).2.1)) sg)) 218) (by omega) uq yq546_0 yq546_1) (fun q560 _ wq560 => ?_)
                obtain ⟨pq560, oq560, hq560⟩ := q560
                obtain ⟨xq560, fq560_0, gq560, efq560_0, afq560_0, bfq560_0, uq560_0, uq560_1, uq560_2, uq560_3, yq560_0, yq560_1⟩ := wq560
                refine ⟨_, gq560, ?_⟩
                show gz gPP gGG gcn _ _ 137 [some (.ref m), some (.int (zi a)), some (.int (zi b)), some (.int (zi ov)), some (.int (zi bt)), some (.int (zi 2)), some (.int (zi jn359v0))] [] hq560 _
                have sq560 := gSs.tr sq546 xq560 (by decide)
                have s561 := (xq560.2.2.2.2.2 m 61 (by rw [tm]; decide)).trans s547
                have s562 := (xq560.2.2.2.2.2 m 62 (by rw [tm]; decide)).trans s548
                have s563 := (xq560.2.2.2.2.2 m 64 (by rw [tm]; decide)).trans s549
                have s564 := (xq560.2.2.2.2.2 m 52 (by rw [tm]; decide)).trans s550
                have s565 := (xq560.2.2.2.2.2 m 67 (by rw [tm]; decide)).trans s551
                have s566 := (xq560.2.2.2.2.2 m 68 (by rw [tm]; decide)).trans s552
                have s567 := (xq560.2.2.2.2.2 m 69 (by rw [tm]; decide)).trans s553
                have s568 := (xq560.2.2.2.2.2 m 70 (by rw [tm]; decide)).trans s554
                have pr569 := gRn.fr xq560.2 (by decide) pr555
                have pr570 := gEl.fr xq560.2 (by decide) (fun _ => rfl) pr556
                have pr571 := gEl.fr xq560.2 (by decide) (fun _ => rfl) pr557
                have pr572 := gTk.fr xq560.2 (by decide) (by decide) pr558
                have pr573 := gTk.fr xq560.2 (by decide) (by decide) pr559
                refine gz_s 2 (pc' := 139) (L' := [some (.ref m), some (.int (zi a)), some (.int (zi b)), some (.int (zi ov)), some (.int (zi bt)), some (.int (zi 2)), some (.int (zi jn359v0))]) (S' := [.int (zi 1), .ref m]) rfl ?_
                refine gz_call rfl (by decide) rfl (by decide) (by decide) (gcal_of rfl rfl rfl (Nat.le_of_ble_eq_true rfl) (gJ.recv (G := gGG) sq560.1 tm rfl rfl)) (mw_putByte _ sq560.1 m tm 1 (by omega) fq560_0 efq560_0 (by omega) (eeT (eeM (ekP 1 (ehN ((ecK iv a b ov bt cf e1w e1w (mb).toNat).2.2)) (ekP 0 (ehN ((ecK iv a b ov bt cf e1w e1w (mb).toNat).2.1)) sg)) 218) 8) (by omega) uq yq560_0 yq560_1) (fun q574 _ wq574 => ?_)
                obtain ⟨pq574, oq574, hq574⟩ := q574
                obtain ⟨xq574, fq574_0, gq574, efq574_0, afq574_0, bfq574_0, uq574_0, uq574_1, uq574_2, uq574_3, yq574_0, yq574_1⟩ := wq574
                refine ⟨_, gq574, ?_⟩
                show gz gPP gGG gcn _ _ 142 [some (.ref m), some (.int (zi a)), some (.int (zi b)), some (.int (zi ov)), some (.int (zi bt)), some (.int (zi 2)), some (.int (zi jn359v0))] [] hq574 _
                have sq574 := gSs.tr sq560 xq574 (by decide)
                have s575 := (xq574.2.2.2.2.2 m 61 (by rw [tm]; decide)).trans s561
                have s576 := (xq574.2.2.2.2.2 m 62 (by rw [tm]; decide)).trans s562
                have s577 := (xq574.2.2.2.2.2 m 64 (by rw [tm]; decide)).trans s563
                have s578 := (xq574.2.2.2.2.2 m 52 (by rw [tm]; decide)).trans s564
                have s579 := (xq574.2.2.2.2.2 m 67 (by rw [tm]; decide)).trans s565
                have s580 := (xq574.2.2.2.2.2 m 68 (by rw [tm]; decide)).trans s566
                have s581 := (xq574.2.2.2.2.2 m 69 (by rw [tm]; decide)).trans s567
                have s582 := (xq574.2.2.2.2.2 m 70 (by rw [tm]; decide)).trans s568
                have pr583 := gRn.fr xq574.2 (by decide) pr569
                have pr584 := gEl.fr xq574.2 (by decide) (fun _ => rfl) pr570
                have pr585 := gEl.fr xq574.2 (by decide) (fun _ => rfl) pr571
                have pr586 := gTk.fr xq574.2 (by decide) (by decide) pr572
                have pr587 := gTk.fr xq574.2 (by decide) (by decide) pr573
                refine gz_s 2 (pc' := 144) (L' := [some (.ref m), some (.int (zi a)), some (.int (zi b)), some (.int (zi ov)), some (.int (zi bt)), some (.int (zi 2)), some (.int (zi jn359v0))]) (S' := [.int (zi 1), .ref m]) rfl ?_
                refine gz_call rfl (by decide) rfl (by decide) (by decide) (gcal_of rfl rfl rfl (Nat.le_of_ble_eq_true rfl) (gJ.recv (G := gGG) sq574.1 tm rfl rfl)) (mw_putByte _ sq574.1 m tm 1 (by omega) fq574_0 efq574_0 (by omega) (eeB (eeT (eeM (ekP 1 (ehN ((ecK iv a b ov bt cf e1w e1w (mb).toNat).2.2)) (ekP 0 (ehN ((ecK iv a b ov bt cf e1w e1w (mb).toNat).2.1)) sg)) 218) 8) 1) (by omega) uq yq574_0 yq574_1) (fun q588 _ wq588 => ?_)
                obtain ⟨pq588, oq588, hq588⟩ := q588
                obtain ⟨xq588, fq588_0, gq588, efq588_0, afq588_0, bfq588_0, uq588_0, uq588_1, uq588_2, uq588_3, yq588_0, yq588_1⟩ := wq588
                refine ⟨_, gq588, ?_⟩
                show gz gPP gGG gcn _ _ 147 [some (.ref m), some (.int (zi a)), some (.int (zi b)), some (.int (zi ov)), some (.int (zi bt)), some (.int (zi 2)), some (.int (zi jn359v0))] [] hq588 _
                have sq588 := gSs.tr sq574 xq588 (by decide)
                have s589 := (xq588.2.2.2.2.2 m 61 (by rw [tm]; decide)).trans s575
                have s590 := (xq588.2.2.2.2.2 m 62 (by rw [tm]; decide)).trans s576
                have s591 := (xq588.2.2.2.2.2 m 64 (by rw [tm]; decide)).trans s577
                have s592 := (xq588.2.2.2.2.2 m 52 (by rw [tm]; decide)).trans s578
                have s593 := (xq588.2.2.2.2.2 m 67 (by rw [tm]; decide)).trans s579
                have s594 := (xq588.2.2.2.2.2 m 68 (by rw [tm]; decide)).trans s580
                have s595 := (xq588.2.2.2.2.2 m 69 (by rw [tm]; decide)).trans s581
                have s596 := (xq588.2.2.2.2.2 m 70 (by rw [tm]; decide)).trans s582
                have pr597 := gRn.fr xq588.2 (by decide) pr583
                have pr598 := gEl.fr xq588.2 (by decide) (fun _ => rfl) pr584
                have pr599 := gEl.fr xq588.2 (by decide) (fun _ => rfl) pr585
                have pr600 := gTk.fr xq588.2 (by decide) (by decide) pr586
                have pr601 := gTk.fr xq588.2 (by decide) (by decide) pr587
                refine gz_s 2 (pc' := 149) (L' := [some (.ref m), some (.int (zi a)), some (.int (zi b)), some (.int (zi ov)), some (.int (zi bt)), some (.int (zi 2)), some (.int (zi jn359v0))]) (S' := [.int (zi 0), .ref m]) rfl ?_
                refine gz_call rfl (by decide) rfl (by decide) (by decide) (gcal_of rfl rfl rfl (Nat.le_of_ble_eq_true rfl) (gJ.recv (G := gGG) sq588.1 tm rfl rfl)) (mw_putByte _ sq588.1 m tm 0 (by omega) fq588_0 efq588_0 (by omega) (eeB (eeB (eeT (eeM (ekP 1 (ehN ((ecK iv a b ov bt cf e1w e1w (mb).toNat).2.2)) (ekP 0 (ehN ((ecK iv a b ov bt cf e1w e1w (mb).toNat).2.1)) sg)) 218) 8) 1) 1) (by omega) uq yq588_0 yq588_1) (fun q602 _ wq602 => ?_)
                obtain ⟨pq602, oq602, hq602⟩ := q602
                obtain ⟨xq602, fq602_0, gq602, efq602_0, afq602_0, bfq602_0, uq602_0, uq602_1, uq602_2, uq602_3, yq602_0, yq602_1⟩ := wq602
                refine ⟨_, gq602, ?_⟩
                show gz gPP gGG gcn _ _ 152 [some (.ref m), some (.int (zi a)), some (.int (zi b)), some (.int (zi ov)), some (.int (zi bt)), some (.int (zi 2)), some (.int (zi jn359v0))] [] hq602 _
                have sq602 := gSs.tr sq588 xq602 (by decide)
                have s603 := (xq602.2.2.2.2.2 m 61 (by rw [tm]; decide)).trans s589
                have s604 := (xq602.2.2.2.2.2 m 62 (by rw [tm]; decide)).trans s590
                have s605 := (xq602.2.2.2.2.2 m 64 (by rw [tm]; decide)).trans s591
                have s606 := (xq602.2.2.2.2.2 m 52 (by rw [tm]; decide)).trans s592
                have s607 := (xq602.2.2.2.2.2 m 67 (by rw [tm]; decide)).trans s593
                have s608 := (xq602.2.2.2.2.2 m 68 (by rw [tm]; decide)).trans s594
                have s609 := (xq602.2.2.2.2.2 m 69 (by rw [tm]; decide)).trans s595
                have s610 := (xq602.2.2.2.2.2 m 70 (by rw [tm]; decide)).trans s596
                have pr611 := gRn.fr xq602.2 (by decide) pr597
                have pr612 := gEl.fr xq602.2 (by decide) (fun _ => rfl) pr598
                have pr613 := gEl.fr xq602.2 (by decide) (fun _ => rfl) pr599
                have pr614 := gTk.fr xq602.2 (by decide) (by decide) pr600
                have pr615 := gTk.fr xq602.2 (by decide) (by decide) pr601
                refine gz_s 2 (pc' := 154) (L' := [some (.ref m), some (.int (zi a)), some (.int (zi b)), some (.int (zi ov)), some (.int (zi bt)), some (.int (zi 2)), some (.int (zi jn359v0))]) (S' := [.int (zi a), .ref m]) rfl ?_
                refine gz_call rfl (by decide) rfl (by decide) (by decide) (gcal_of rfl rfl rfl (Nat.le_of_ble_eq_true rfl) (gJ.recv (G := gGG) sq602.1 tm rfl rfl)) (mw_putByte _ sq602.1 m tm a (by omega) fq602_0 efq602_0 (by omega) (eeB (eeB (eeB (eeT (eeM (ekP 1 (ehN ((ecK iv a b ov bt cf e1w e1w (mb).toNat).2.2)) (ekP 0 (ehN ((ecK iv a b ov bt cf e1w e1w (mb).toNat).2.1)) sg)) 218) 8) 1) 1) 0) (by omega) uq yq602_0 yq602_1) (fun q616 _ wq616 => ?_)
                obtain ⟨pq616, oq616, hq616⟩ := q616
                obtain ⟨xq616, fq616_0, gq616, efq616_0, afq616_0, bfq616_0, uq616_0, uq616_1, uq616_2, uq616_3, yq616_0, yq616_1⟩ := wq616
                refine ⟨_, gq616, ?_⟩
                show gz gPP gGG gcn _ _ 157 [some (.ref m), some (.int (zi a)), some (.int (zi b)), some (.int (zi ov)), some (.int (zi bt)), some (.int (zi 2)), some (.int (zi jn359v0))] [] hq616 _
                have sq616 := gSs.tr sq602 xq616 (by decide)
                have s617 := (xq616.2.2.2.2.2 m 61 (by rw [tm]; decide)).trans s603
                have s618 := (xq616.2.2.2.2.2 m 62 (by rw [tm]; decide)).trans s604
                have s619 := (xq616.2.2.2.2.2 m 64 (by rw [tm]; decide)).trans s605
                have s620 := (xq616.2.2.2.2.2 m 52 (by rw [tm]; decide)).trans s606
                have s621 := (xq616.2.2.2.2.2 m 67 (by rw [tm]; decide)).trans s607
                have s622 := (xq616.2.2.2.2.2 m 68 (by rw [tm]; decide)).trans s608
                have s623 := (xq616.2.2.2.2.2 m 69 (by rw [tm]; decide)).trans s609
                have s624 := (xq616.2.2.2.2.2 m 70 (by rw [tm]; decide)).trans s610
                have pr625 := gRn.fr xq616.2 (by decide) pr611
                have pr626 := gEl.fr xq616.2 (by decide) (fun _ => rfl) pr612
                have pr627 := gEl.fr xq616.2 (by decide) (fun _ => rfl) pr613
                have pr628 := gTk.fr xq616.2 (by decide) (by decide) pr614
                have pr629 := gTk.fr xq616.2 (by decide) (by decide) pr615
                refine gz_s 2 (pc' := 159) (L' := [some (.ref m), some (.int (zi a)), some (.int (zi b)), some (.int (zi ov)), some (.int (zi bt)), some (.int (zi 2)), some (.int (zi jn359v0))]) (S' := [.int (zi b), .ref m]) rfl ?_
                refine gz_call rfl (by decide) rfl (by decide) (by decide) (gcal_of rfl rfl rfl (Nat.le_of_ble_eq_true rfl) (gJ.recv (G := gGG) sq616.1 tm rfl rfl)) (mw_putByte _ sq616.1 m tm b (by omega) fq616_0 efq616_0 (by omega) (eeB (eeB (eeB (eeB (eeT (eeM (ekP 1 (ehN ((ecK iv a b ov bt cf e1w e1w (mb).toNat).2.2)) (ekP 0 (ehN ((ecK iv a b ov bt cf e1w e1w (mb).toNat).2.1)) sg)) 218) 8) 1) 1) 0) a) (by omega) uq yq616_0 yq616_1) (fun q630 _ wq630 => ?_)
                obtain ⟨pq630, oq630, hq630⟩ := q630
                obtain ⟨xq630, fq630_0, gq630, efq630_0, afq630_0, bfq630_0, uq630_0, uq630_1, uq630_2, uq630_3, yq630_0, yq630_1⟩ := wq630
                refine ⟨_, gq630, ?_⟩
                show gz gPP gGG gcn _ _ 162 [some (.ref m), some (.int (zi a)), some (.int (zi b)), some (.int (zi ov)), some (.int (zi bt)), some (.int (zi 2)), some (.int (zi jn359v0))] [] hq630 _
                have sq630 := gSs.tr sq616 xq630 (by decide)
                have s631 := (xq630.2.2.2.2.2 m 61 (by rw [tm]; decide)).trans s617
                have s632 := (xq630.2.2.2.2.2 m 62 (by rw [tm]; decide)).trans s618
                have s633 := (xq630.2.2.2.2.2 m 64 (by rw [tm]; decide)).trans s619
                have s634 := (xq630.2.2.2.2.2 m 52 (by rw [tm]; decide)).trans s620
                have s635 := (xq630.2.2.2.2.2 m 67 (by rw [tm]; decide)).trans s621
                have s636 := (xq630.2.2.2.2.2 m 68 (by rw [tm]; decide)).trans s622
                have s637 := (xq630.2.2.2.2.2 m 69 (by rw [tm]; decide)).trans s623
                have s638 := (xq630.2.2.2.2.2 m 70 (by rw [tm]; decide)).trans s624
                have pr639 := gRn.fr xq630.2 (by decide) pr625
                have pr640 := gEl.fr xq630.2 (by decide) (fun _ => rfl) pr626
                have pr641 := gEl.fr xq630.2 (by decide) (fun _ => rfl) pr627
                have pr642 := gTk.fr xq630.2 (by decide) (by decide) pr628
                have pr643 := gTk.fr xq630.2 (by decide) (by decide) pr629
                refine gy_s 6 (pc' := 170) (L' := [some (.ref m), some (.int (zi a)), some (.int (zi b)), some (.int (zi ov)), some (.int (zi bt)), some (.int (zi 2)), some (.int (zi jn359v0))]) (S' := [.int (((zi 16) * (zi ov)) + (zi bt)), .ref m]) (L2 := [some (.ref m), some (.int (zi a)), some (.int (zi b)), some (.int (zi ov)), some (.int (zi bt)), some (.int (zi 2)), some (.int (zi jn359v0))]) (S2 := [.int (zi ((16 * ov) + bt)), .ref m]) rfl (by simp only [zi_add, zi_sub, zi_mul, zi_neg, zi_and1, zi_and7, zi_and15, zi_and31, zi_and255, Int.reduceAdd, Int.reduceMul, Int.reduceSub]) (by simp only [zi_add, zi_sub, zi_mul, zi_neg, zi_and1, zi_and7, zi_and15, zi_and31, zi_and255, Int.reduceAdd, Int.reduceMul, Int.reduceSub]) ?_
                refine gz_call rfl (by decide) rfl (by decide) (by decide) (gcal_of rfl rfl rfl (Nat.le_of_ble_eq_true rfl) (gJ.recv (G := gGG) sq630.1 tm rfl rfl)) (mw_putByte _ sq630.1 m tm ((16 * ov) + bt) (by omega) fq630_0 efq630_0 (by omega) (eeB (eeB (eeB (eeB (eeB (eeT (eeM (ekP 1 (ehN ((ecK iv a b ov bt cf e1w e1w (mb).toNat).2.2)) (ekP 0 (ehN ((ecK iv a b ov bt cf e1w e1w (mb).toNat).2.1)) sg)) 218) 8) 1) 1) 0) a) b) (by omega) uq yq630_0 yq630_1) (fun q644 _ wq644 => ?_)
                obtain ⟨pq644, oq644, hq644⟩ := q644
                obtain ⟨xq644, fq644_0, gq644, efq644_0, afq644_0, bfq644_0, uq644_0, uq644_1, uq644_2, uq644_3, yq644_0, yq644_1⟩ := wq644
                refine ⟨_, gq644, ?_⟩
                show gz gPP gGG gcn _ _ 173 [some (.ref m), some (.int (zi a)), some (.int (zi b)), some (.int (zi ov)), some (.int (zi bt)), some (.int (zi 2)), some (.int (zi jn359v0))] [] hq644 _
                have sq644 := gSs.tr sq630 xq644 (by decide)
                have s645 := (xq644.2.2.2.2.2 m 61 (by rw [tm]; decide)).trans s631
                have s646 := (xq644.2.2.2.2.2 m 62 (by rw [tm]; decide)).trans s632
                have s647 := (xq644.2.2.2.2.2 m 64 (by rw [tm]; decide)).trans s633
                have s648 := (xq644.2.2.2.2.2 m 52 (by rw [tm]; decide)).trans s634
                have s649 := (xq644.2.2.2.2.2 m 67 (by rw [tm]; decide)).trans s635
                have s650 := (xq644.2.2.2.2.2 m 68 (by rw [tm]; decide)).trans s636
                have s651 := (xq644.2.2.2.2.2 m 69 (by rw [tm]; decide)).trans s637
                have s652 := (xq644.2.2.2.2.2 m 70 (by rw [tm]; decide)).trans s638
                have pr653 := gRn.fr xq644.2 (by decide) pr639
                have pr654 := gEl.fr xq644.2 (by decide) (fun _ => rfl) pr640
                have pr655 := gEl.fr xq644.2 (by decide) (fun _ => rfl) pr641
                have pr656 := gTk.fr xq644.2 (by decide) (by decide) pr642
                have pr657 := gTk.fr xq644.2 (by decide) (by decide) pr643
                have hk658 : eSh a b ov bt (ekP 1 (ehN ((ecK iv a b ov bt cf e1w e1w (mb).toNat).2.2)) (ekP 0 (ehN ((ecK iv a b ov bt cf e1w e1w (mb).toNat).2.1)) sg)) = eeB (eeB (eeB (eeB (eeB (eeB (eeT (eeM (ekP 1 (ehN ((ecK iv a b ov bt cf e1w e1w (mb).toNat).2.2)) (ekP 0 (ehN ((ecK iv a b ov bt cf e1w e1w (mb).toNat).2.1)) sg)) 218) 8) 1) 1) 0) a) b) ((16 * ov) + bt) := rfl
                have hk658_1 : (eSh a b ov bt (ekP 1 (ehN ((ecK iv a b ov bt cf e1w e1w (mb).toNat).2.2)) (ekP 0 (ehN ((ecK iv a b ov bt cf e1w e1w (mb).toNat).2.1)) sg))).1 = (eeB (eeB (eeB (eeB (eeB (eeB (eeT (eeM (ekP 1 (ehN ((ecK iv a b ov bt cf e1w e1w (mb).toNat).2.2)) (ekP 0 (ehN ((ecK iv a b ov bt cf e1w e1w (mb).toNat).2.1)) sg)) 218) 8) 1) 1) 0) a) b) ((16 * ov) + bt)).1 := by rw [hk658]
                have hk658_21 : (eSh a b ov bt (ekP 1 (ehN ((ecK iv a b ov bt cf e1w e1w (mb).toNat).2.2)) (ekP 0 (ehN ((ecK iv a b ov bt cf e1w e1w (mb).toNat).2.1)) sg))).2.1 = (eeB (eeB (eeB (eeB (eeB (eeB (eeT (eeM (ekP 1 (ehN ((ecK iv a b ov bt cf e1w e1w (mb).toNat).2.2)) (ekP 0 (ehN ((ecK iv a b ov bt cf e1w e1w (mb).toNat).2.1)) sg)) 218) 8) 1) 1) 0) a) b) ((16 * ov) + bt)).2.1 := by rw [hk658]
                have hk658_221 : (eSh a b ov bt (ekP 1 (ehN ((ecK iv a b ov bt cf e1w e1w (mb).toNat).2.2)) (ekP 0 (ehN ((ecK iv a b ov bt cf e1w e1w (mb).toNat).2.1)) sg))).2.2.1 = (eeB (eeB (eeB (eeB (eeB (eeB (eeT (eeM (ekP 1 (ehN ((ecK iv a b ov bt cf e1w e1w (mb).toNat).2.2)) (ekP 0 (ehN ((ecK iv a b ov bt cf e1w e1w (mb).toNat).2.1)) sg)) 218) 8) 1) 1) 0) a) b) ((16 * ov) + bt)).2.2.1 := by rw [hk658]
                have hso659 : gSO ty (eSh a b ov bt (ekP 1 (ehN ((ecK iv a b ov bt cf e1w e1w (mb).toNat).2.2)) (ekP 0 (ehN ((ecK iv a b ov bt cf e1w e1w (mb).toNat).2.1)) sg))) hq644 := by rw [hk658]; exact yq644_0
                have hok660 : eeOk (eSh a b ov bt (ekP 1 (ehN ((ecK iv a b ov bt cf e1w e1w (mb).toNat).2.2)) (ekP 0 (ehN ((ecK iv a b ov bt cf e1w e1w (mb).toNat).2.1)) sg))) := by rw [hk658]; exact yq644_1
                have hok660c := hok660.cur
                refine gz_s 5 (pc' := 179) (L' := [some (.ref m), some (.int (zi a)), some (.int (zi b)), some (.int (zi ov)), some (.int (zi bt)), some (.int (zi 2)), some (.int (zi jn359v0))]) (S' := [.int (zi bt), .int (zi ov), .int (zi b), .int (zi a), .ref m]) rfl ?_
                refine gz_call rfl (by decide) rfl (by decide) (by decide) (gcal_of rfl rfl rfl (Nat.le_of_ble_eq_true rfl) (gJ.recv (G := gGG) sq644.1 tm rfl rfl)) (mw_putBlocks _ sq644.1 m tm a (by omega) b (by omega) ov (by omega) bt (by omega) fq644_0 efq644_0 (by omega) u0 s645 (by omega) b0 s646 (by omega) 1 s649 (by omega) mb s647 (by omega) iv s648 (by omega) cf (eSh a b ov bt (ekP 1 (ehN ((ecK iv a b ov bt cf e1w e1w (mb).toNat).2.2)) (ekP 0 (ehN ((ecK iv a b ov bt cf e1w e1w (mb).toNat).2.1)) sg))) (ekc (ehN ((ecK iv a b ov bt cf e1w e1w (mb).toNat).2.1))) (ekc (ehN ((ecK iv a b ov bt cf e1w e1w (mb).toNat).2.2))) (by omega) (by omega) (by omega) (by omega) (by omega) (by omega) uq hso659 hok660 pr653 pr656 pr657) (fun q661 _ wq661 => ?_)
                obtain ⟨pq661, oq661, hq661⟩ := q661
                obtain ⟨xq661, fq661_0, fq661_1, fq661_2, gq661, efq661_0, afq661_0, bfq661_0, efq661_1, afq661_1, bfq661_1, efq661_2, afq661_2, bfq661_2, uq661_0, uq661_1, uq661_2, uq661_3, uq661_4, yq661_0, yq661_1⟩ := wq661
                refine ⟨_, gq661, ?_⟩
                show gz gPP gGG gcn _ _ 182 [some (.ref m), some (.int (zi a)), some (.int (zi b)), some (.int (zi ov)), some (.int (zi bt)), some (.int (zi 2)), some (.int (zi jn359v0))] [] hq661 _
                have sq661 := gSs.tr sq644 xq661 (by decide)
                have s662 := (xq661.2.2.2.2.2 m 64 (by rw [tm]; decide)).trans s647
                have s663 := (xq661.2.2.2.2.2 m 52 (by rw [tm]; decide)).trans s648
                have s664 := (xq661.2.2.2.2.2 m 67 (by rw [tm]; decide)).trans s649
                have s665 := (xq661.2.2.2.2.2 m 68 (by rw [tm]; decide)).trans s650
                have s666 := (xq661.2.2.2.2.2 m 69 (by rw [tm]; decide)).trans s651
                have s667 := (xq661.2.2.2.2.2 m 70 (by rw [tm]; decide)).trans s652
                have pr668 := gRn.fr xq661.2 (by decide) pr653
                have pr669 := gEl.fr xq661.2 (by decide) (fun _ => rfl) pr654
                have pr670 := gEl.fr xq661.2 (by decide) (fun _ => rfl) pr655
                have pr671 := gTk.fr xq661.2 (by decide) (by decide) pr656
                have pr672 := gTk.fr xq661.2 (by decide) (by decide) pr657
                refine gz_s 1 (pc' := 183) (L' := [some (.ref m), some (.int (zi a)), some (.int (zi b)), some (.int (zi ov)), some (.int (zi bt)), some (.int (zi 2)), some (.int (zi jn359v0))]) (S' := [.ref m]) rfl ?_
                refine gz_call rfl (by decide) rfl (by decide) (by decide) (gcal_of rfl rfl rfl (Nat.le_of_ble_eq_true rfl) (gJ.recv (G := gGG) sq661.1 tm rfl rfl)) (mw_fillByte _ sq661.1 m tm fq661_0 efq661_0 (by omega) fq661_1 efq661_1 (by omega) fq661_2 efq661_2 (by omega) 1 s664 (by omega) ((ewK (ekc (ehN ((ecK iv a b ov bt cf e1w e1w (mb).toNat).2.1))) (ekc (ehN ((ecK iv a b ov bt cf e1w e1w (mb).toNat).2.2))) iv a b ov bt cf (eSh a b ov bt (ekP 1 (ehN ((ecK iv a b ov bt cf e1w e1w (mb).toNat).2.2)) (ekP 0 (ehN ((ecK iv a b ov bt cf e1w e1w (mb).toNat).2.1)) sg))) (mb).toNat).2) (by omega) (by omega) (by omega) (by omega) uq yq661_0 yq661_1) (fun q673 _ wq673 => ?_)
                obtain ⟨pq673, oq673, hq673⟩ := q673
                obtain ⟨xq673, fq673_0, fq673_1, fq673_2, gq673, efq673_0, afq673_0, bfq673_0, efq673_1, afq673_1, bfq673_1, efq673_2, afq673_2, bfq673_2, uq673_0, uq673_1, uq673_2, uq673_3, uq673_4, uq673_5, yq673_0, yq673_1⟩ := wq673
                refine ⟨_, gq673, ?_⟩
                show gz gPP gGG gcn _ _ 186 [some (.ref m), some (.int (zi a)), some (.int (zi b)), some (.int (zi ov)), some (.int (zi bt)), some (.int (zi 2)), some (.int (zi jn359v0))] [] hq673 _
                have sq673 := gSs.tr sq661 xq673 (by decide)
                have s674 := (xq673.2.2.2.2.2 m 64 (by rw [tm]; decide)).trans s662
                have s675 := (xq673.2.2.2.2.2 m 52 (by rw [tm]; decide)).trans s663
                have s676 := (xq673.2.2.2.2.2 m 67 (by rw [tm]; decide)).trans s664
                have s677 := (xq673.2.2.2.2.2 m 68 (by rw [tm]; decide)).trans s665
                have s678 := (xq673.2.2.2.2.2 m 69 (by rw [tm]; decide)).trans s666
                have s679 := (xq673.2.2.2.2.2 m 70 (by rw [tm]; decide)).trans s667
                have pr680 := gRn.fr xq673.2 (by decide) pr668
                have pr681 := gEl.fr xq673.2 (by decide) (fun _ => rfl) pr669
                have pr682 := gEl.fr xq673.2 (by decide) (fun _ => rfl) pr670
                have pr683 := gTk.fr xq673.2 (by decide) (by decide) pr671
                have pr684 := gTk.fr xq673.2 (by decide) (by decide) pr672
                have hk685 : eSc iv a b ov bt cf (mb).toNat sg = eeF ((ewK (ekc (ehN ((ecK iv a b ov bt cf e1w e1w (mb).toNat).2.1))) (ekc (ehN ((ecK iv a b ov bt cf e1w e1w (mb).toNat).2.2))) iv a b ov bt cf (eSh a b ov bt (ekP 1 (ehN ((ecK iv a b ov bt cf e1w e1w (mb).toNat).2.2)) (ekP 0 (ehN ((ecK iv a b ov bt cf e1w e1w (mb).toNat).2.1)) sg))) (mb).toNat).2) := by unfold eSc; rw [if_pos (show 0 < b by omega), if_pos (show a = 0 ∧ ov = 0 by omega)]
                have hk685_1 : (eSc iv a b ov bt cf (mb).toNat sg).1 = (eeF ((ewK (ekc (ehN ((ecK iv a b ov bt cf e1w e1w (mb).toNat).2.1))) (ekc (ehN ((ecK iv a b ov bt cf e1w e1w (mb).toNat).2.2))) iv a b ov bt cf (eSh a b ov bt (ekP 1 (ehN ((ecK iv a b ov bt cf e1w e1w (mb).toNat).2.2)) (ekP 0 (ehN ((ecK iv a b ov bt cf e1w e1w (mb).toNat).2.1)) sg))) (mb).toNat).2)).1 := by rw [hk685]
                have hk685_21 : (eSc iv a b ov bt cf (mb).toNat sg).2.1 = (eeF ((ewK (ekc (ehN ((ecK iv a b ov bt cf e1w e1w (mb).toNat).2.1))) (ekc (ehN ((ecK iv a b ov bt cf e1w e1w (mb).toNat).2.2))) iv a b ov bt cf (eSh a b ov bt (ekP 1 (ehN ((ecK iv a b ov bt cf e1w e1w (mb).toNat).2.2)) (ekP 0 (ehN ((ecK iv a b ov bt cf e1w e1w (mb).toNat).2.1)) sg))) (mb).toNat).2)).2.1 := by rw [hk685]
                have hk685_221 : (eSc iv a b ov bt cf (mb).toNat sg).2.2.1 = (eeF ((ewK (ekc (ehN ((ecK iv a b ov bt cf e1w e1w (mb).toNat).2.1))) (ekc (ehN ((ecK iv a b ov bt cf e1w e1w (mb).toNat).2.2))) iv a b ov bt cf (eSh a b ov bt (ekP 1 (ehN ((ecK iv a b ov bt cf e1w e1w (mb).toNat).2.2)) (ekP 0 (ehN ((ecK iv a b ov bt cf e1w e1w (mb).toNat).2.1)) sg))) (mb).toNat).2)).2.2.1 := by rw [hk685]
                have hso686 : gSO ty (eSc iv a b ov bt cf (mb).toNat sg) hq673 := by rw [hk685]; exact yq673_0
                have hok687 : eeOk (eSc iv a b ov bt cf (mb).toNat sg) := by rw [hk685]; exact yq673_1
                have hok687c := hok687.cur
                exact gz_end (I := .return_) (len := 1) rfl (Or.inl rfl) ⟨sq673, fq673_0, fq673_1, fq673_2, rfl, efq673_0, (by omega), (by omega), efq673_1, (by omega), (by omega), efq673_2, (by omega), (by omega), (by omega), (by omega), (by omega), (by omega), (by omega), hso686, hok687⟩
            by_cases hc688 : (b : Int) ≤ 0
            · refine gy_ifT (pc' := 82) rfl (by decide) (by decide) (by omega) hc688 ?_
              refine gz_s 1 (pc' := 83) (L' := [some (.ref m), some (.int (zi a)), some (.int (zi b)), some (.int (zi ov)), some (.int (zi bt)), some (.int (zi 1)), some (.int (zi jn32v0))]) (S' := [.int (zi 0)]) rfl ?_
              exact jn359 0 (by omega)
            · refine gy_ifF rfl (by decide) (by decide) (by omega) hc688 ?_
              refine gz_s 2 (pc' := 83) (L' := [some (.ref m), some (.int (zi a)), some (.int (zi b)), some (.int (zi ov)), some (.int (zi bt)), some (.int (zi 1)), some (.int (zi jn32v0))]) (S' := [.int (zi 1)]) rfl ?_
              exact jn359 1 (by omega)
        by_cases hc689 : ¬ (a : Int) = 0
        · refine gy_ifT (pc' := 70) rfl (by decide) (by decide) (by omega) hc689 ?_
          refine gz_s 2 (pc' := 83) (L' := [some (.ref m), some (.int (zi a)), some (.int (zi b)), some (.int (zi ov)), some (.int (zi bt)), some (.int (zi 0)), none]) (S' := [.int (zi 0)]) rfl ?_
          exact jn32 0 (by omega)
        · refine gy_ifF rfl (by decide) (by decide) (by omega) hc689 ?_
          refine gz_s 1 (pc' := 63) (L' := [some (.ref m), some (.int (zi a)), some (.int (zi b)), some (.int (zi ov)), some (.int (zi bt)), some (.int (zi 0)), none]) (S' := [.int (zi ov)]) rfl ?_
          by_cases hc690 : ¬ (ov : Int) = 0
          · refine gy_ifT (pc' := 70) rfl (by decide) (by decide) (by omega) hc690 ?_
            refine gz_s 2 (pc' := 83) (L' := [some (.ref m), some (.int (zi a)), some (.int (zi b)), some (.int (zi ov)), some (.int (zi bt)), some (.int (zi 0)), none]) (S' := [.int (zi 0)]) rfl ?_
            exact jn32 0 (by omega)
          · refine gy_ifF rfl (by decide) (by decide) (by omega) hc690 ?_
            refine gz_s 2 (pc' := 83) (L' := [some (.ref m), some (.int (zi a)), some (.int (zi b)), some (.int (zi ov)), some (.int (zi bt)), some (.int (zi 0)), none]) (S' := [.int (zi 1)]) rfl ?_
            exact jn32 1 (by omega)
      · refine gy_icF rfl (by decide) (by decide) (by omega) (by omega) hc3 ?_
        refine gz_s 1 (pc' := 12) (L' := [some (.ref m), some (.int (zi a)), some (.int (zi b)), some (.int (zi ov)), some (.int (zi bt)), some (.int (zi k)), none]) (S' := [.ref m]) rfl ?_
        refine gs_gtr rfl (by decide) rfl sh2.1 tm rfl rfl rfl (fun c691 ec691 tc691 => ?_)
        refine gz_s 2 (pc' := 18) (L' := [some (.ref m), some (.int (zi a)), some (.int (zi b)), some (.int (zi ov)), some (.int (zi bt)), some (.int (zi k)), none]) (S' := [.int (zi 0), .int (zi k), .ref c691]) rfl ?_
        have hl692 : 514 ≤ h2.2.2.2.1 c691 ∧ h2.2.2.2.1 c691 ≤ 514 := gJ.rowl (G := gGG) sh2.1 tc691 rfl
        refine gs_ast rfl (by decide) sh2 tc691 rfl rfl rfl (by decide) (fun _ => rfl) (by omega) (by omega) (fun _ => (by decide : (36999 : Nat) ∈ ([1059, 1061, 1062, 1067, 1074, 1075, 32999, 36999, 37999, 38999, 39999, 40999, 41999, 42999] : List Nat))) (by omega) (by omega) (fun h693 sh693 eh693 fh693 => ?_)
        have pr694 := gSO.pt fh693 tc691 (by decide) lp1k5
        have pr695 := gRn.pt fh693 tc691 (by decide) lp1k7
        have s696 := (fh693 m 59 (fun q => absurd (((tm).symm.trans (congrArg ty q.1)).trans tc691) (by decide))).trans lp1k0
        have s697 := (fh693 m 61 (fun q => absurd (((tm).symm.trans (congrArg ty q.1)).trans tc691) (by decide))).trans lp1k1
        have s698 := (fh693 m 62 (fun q => absurd (((tm).symm.trans (congrArg ty q.1)).trans tc691) (by decide))).trans lp1k2
        have s699 := (fh693 m 64 (fun q => absurd (((tm).symm.trans (congrArg ty q.1)).trans tc691) (by decide))).trans lp1k3
        have s700 := (fh693 m 52 (fun q => absurd (((tm).symm.trans (congrArg ty q.1)).trans tc691) (by decide))).trans lp1k4
        have s701 := (fh693 m 68 (fun q => absurd (((tm).symm.trans (congrArg ty q.1)).trans tc691) (by decide))).trans ec691
        have pr702 := gEl.set (i := k) (z := 0) uq tc691 (by decide) eh693 (by omega) (by omega)
        have hrw703 : gRn (k + 1).toNat ty 36 (fun _ => 0) h693 := gRn.ext (z := 0) uq tc691 (by decide) fh693 eh693 (by omega) (by omega) (by omega) rfl lp1k8
        refine gy_s 2 (pc' := 3) (L' := [some (.ref m), some (.int (zi a)), some (.int (zi b)), some (.int (zi ov)), some (.int (zi bt)), some (.int ((zi k) + zi 1)), none]) (S' := []) (L2 := [some (.ref m), some (.int (zi a)), some (.int (zi b)), some (.int (zi ov)), some (.int (zi bt)), some (.int (zi (k + 1))), none]) (S2 := []) rfl (by simp only [zi_add, zi_sub, zi_mul, zi_neg, zi_and1, zi_and7, zi_and15, zi_and31, zi_and255, Int.reduceAdd, Int.reduceMul, Int.reduceSub]) (by simp only [zi_add, zi_sub, zi_mul, zi_neg, zi_and1, zi_and7, zi_and15, zi_and31, zi_and255, Int.reduceAdd, Int.reduceMul, Int.reduceSub]) ?_
        exact gz_wk (ihlp1 h693 (k + 1) (by omega) sh693 (by omega) s696 s697 s698 s699 s700 pr694 lp1k6 pr695 hrw703) (gLw.s (gLw.s (gLw.s (gLw.s (gLw.s (gLw.s (gLw.n gLw.z)))))))
  exact gz_wk (lp1 _ h 0 (Nat.lt_succ_self _) hS (by omega) ew0 eu0 eb0 emb eiv hyso hyok hyf33 (gRn.nil (fun _ => rfl))) (gLw.s (gLw.s (gLw.s (gLw.s (gLw.s (gLw.s (gLw.n gLw.z)))))))
