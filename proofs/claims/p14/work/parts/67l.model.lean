/-! ===== the model: methods (by program) ===== -/
set_option maxRecDepth 20000 in
set_option maxHeartbeats 4000000 in
theorem mm_read (d : Nat) {ty : Nat → Nat} {h : gH} (hJ : gJ rT 1027 ty h) (m : Nat) (tm : ty m = 1) (uq : gUq ty) : gz gPP gGG gcn (d + 10) gt132 0 (gent [.ref m] 3) [] h (fun q _ => gSs rT 1027 ty [1000, 1001, 1003, 1005, 1006, 1007, 1008, 1016, 1017, 1018, 1019, 1020, 1021, 1022, 1023, 1024, 1039, 1041, 1042, 1043, 1044, 1045, 1046, 1047, 1048, 3999, 4999, 5999, 6999, 7999, 9999, 11999, 12999, 13999, 14999, 15999, 16999, 17999, 18999, 19999, 20999, 21999, 22999, 23999, 24999, 25999, 35999] h q.2.2 ∧ ∃ z ip1 w1 hh1 wd1 hg1 bs1 : Int, gfin gt132 q.1 q.2.1 = some (some (.int (zi z))) ∧ (-4001) ≤ z ∧ z ≤ 64 ∧ q.2.2.2.2.2.2 m 16 = .int (zi ip1) ∧ 0 ≤ ip1 ∧ ip1 ≤ 1 ∧ q.2.2.2.2.2.2 m 18 = .int (zi w1) ∧ 0 ≤ w1 ∧ w1 ≤ 64 ∧ q.2.2.2.2.2.2 m 19 = .int (zi hh1) ∧ 0 ≤ hh1 ∧ hh1 ≤ 64 ∧ q.2.2.2.2.2.2 m 21 = .int (zi wd1) ∧ 0 ≤ wd1 ∧ wd1 ≤ 2 ∧ q.2.2.2.2.2.2 m 22 = .int (zi hg1) ∧ 0 ≤ hg1 ∧ hg1 ≤ 2 ∧ q.2.2.2.2.2.2 m 20 = .int (zi bs1) ∧ 0 ≤ bs1 ∧ bs1 ≤ 3 ∧ (gPi ty ip1 w1 hh1 wd1 hg1 bs1 q.2.2)) := by
  have hS : gSs rT 1027 ty [1000, 1001, 1003, 1005, 1006, 1007, 1008, 1016, 1017, 1018, 1019, 1020, 1021, 1022, 1023, 1024, 1039, 1041, 1042, 1043, 1044, 1045, 1046, 1047, 1048, 3999, 4999, 5999, 6999, 7999, 9999, 11999, 12999, 13999, 14999, 15999, 16999, 17999, 18999, 19999, 20999, 21999, 22999, 23999, 24999, 25999, 35999] h h := gSs.rf hJ
  refine gz_s 2 (pc' := 2) (L' := [some (.ref m), none, none]) (S' := [.int (zi 0), .ref m]) rfl ?_
  refine gs_put rfl (by decide) rfl hS tm rfl rfl rfl rfl (Or.inl rfl) (by decide) (by omega) (by omega) (fun h1 sh1 eh1 fh1 => ?_)
  refine gz_s 2 (pc' := 7) (L' := [some (.ref m), none, none]) (S' := [.ref m, .ref m]) rfl ?_
  refine gs_get rfl (by decide) rfl sh1.1 tm rfl rfl rfl (fun z2 ez2 az2 bz2 => ?_)
  refine gs_put rfl (by decide) rfl sh1 tm rfl rfl rfl rfl (Or.inl rfl) (by decide) (by omega) (by omega) (fun h3 sh3 eh3 fh3 => ?_)
  have s4 := (fh3 m 0 (fun q => absurd q.2 (by decide))).trans eh1
  have s5 := (fh3 m 1 (fun q => absurd q.2 (by decide))).trans ez2
  refine gz_s 2 (pc' := 15) (L' := [some (.ref m), none, none]) (S' := [.int (zi 0), .ref m]) rfl ?_
  refine gs_put rfl (by decide) rfl sh3 tm rfl rfl rfl rfl (Or.inl rfl) (by decide) (by omega) (by omega) (fun h6 sh6 eh6 fh6 => ?_)
  have s7 := (fh6 m 0 (fun q => absurd q.2 (by decide))).trans s4
  have s8 := (fh6 m 3 (fun q => absurd q.2 (by decide))).trans eh3
  refine gz_s 2 (pc' := 20) (L' := [some (.ref m), some (.int (zi 0)), none]) (S' := []) rfl ?_
  have lp9 : ∀ (fu : Nat) (h10 : gH) (kb : Int), (2001 - kb).toNat < fu → gSs rT 1027 ty [1000, 1001, 1003, 1005, 1006, 1007, 1008, 1016, 1017, 1018, 1019, 1020, 1021, 1022, 1023, 1024, 1039, 1041, 1042, 1043, 1044, 1045, 1046, 1047, 1048, 3999, 4999, 5999, 6999, 7999, 9999, 11999, 12999, 13999, 14999, 15999, 16999, 17999, 18999, 19999, 20999, 21999, 22999, 23999, 24999, 25999, 35999] h h10 → (0 ≤ kb ∧ kb ≤ 2000) → h10.2.2.2.2 m 0 = .int (zi 0) → h10.2.2.2.2 m 3 = .int (zi z2) → h10.2.2.2.2 m 1 = .int (zi 0) → gz gPP gGG gcn (d + 10) gt132 20 [some (.ref m), some (.int (zi kb)), none] [] h10 (fun q _ => gSs rT 1027 ty [1000, 1001, 1003, 1005, 1006, 1007, 1008, 1016, 1017, 1018, 1019, 1020, 1021, 1022, 1023, 1024, 1039, 1041, 1042, 1043, 1044, 1045, 1046, 1047, 1048, 3999, 4999, 5999, 6999, 7999, 9999, 11999, 12999, 13999, 14999, 15999, 16999, 17999, 18999, 19999, 20999, 21999, 22999, 23999, 24999, 25999, 35999] h q.2.2 ∧ ∃ z ip1 w1 hh1 wd1 hg1 bs1 : Int, gfin gt132 q.1 q.2.1 = some (some (.int (zi z))) ∧ (-4001) ≤ z ∧ z ≤ 64 ∧ q.2.2.2.2.2.2 m 16 = .int (zi ip1) ∧ 0 ≤ ip1 ∧ ip1 ≤ 1 ∧ q.2.2.2.2.2.2 m 18 = .int (zi w1) ∧ 0 ≤ w1 ∧ w1 ≤ 64 ∧ q.2.2.2.2.2.2 m 19 = .int (zi hh1) ∧ 0 ≤ hh1 ∧ hh1 ≤ 64 ∧ q.2.2.2.2.2.2 m 21 = .int (zi wd1) ∧ 0 ≤ wd1 ∧ wd1 ≤ 2 ∧ q.2.2.2.2.2.2 m 22 = .int (zi hg1) ∧ 0 ≤ hg1 ∧ hg1 ≤ 2 ∧ q.2.2.2.2.2.2 m 20 = .int (zi bs1) ∧ 0 ≤ bs1 ∧ bs1 ≤ 3 ∧ (gPi ty ip1 w1 hh1 wd1 hg1 bs1 q.2.2)) := by
    intro fu
    induction fu with
    | zero => intro h10 kb hm; exact absurd hm (Nat.not_lt_zero _)
    | succ fu ihlp9 =>
      intro h10 kb lp9m sh10 lp9f0 lp9k0 lp9k1 lp9k2
      refine gz_s 2 (pc' := 22) (L' := [some (.ref m), some (.int (zi kb)), none]) (S' := [.ref m, .int (zi kb)]) rfl ?_
      refine gs_gtk rfl (by decide) rfl sh10.1 tm rfl rfl lp9k1 ?_
      by_cases hc11 : (z2 : Int) ≤ kb
      · refine gy_icT (pc' := 46) rfl (by decide) (by decide) (by omega) (by omega) hc11 ?_
        refine gz_s 2 (pc' := 48) (L' := [some (.ref m), some (.int (zi 0)), none]) (S' := []) rfl ?_
        have lp12 : ∀ (fu : Nat) (h13 : gH) (kt : Int), (257 - kt).toNat < fu → gSs rT 1027 ty [1000, 1001, 1003, 1005, 1006, 1007, 1008, 1016, 1017, 1018, 1019, 1020, 1021, 1022, 1023, 1024, 1039, 1041, 1042, 1043, 1044, 1045, 1046, 1047, 1048, 3999, 4999, 5999, 6999, 7999, 9999, 11999, 12999, 13999, 14999, 15999, 16999, 17999, 18999, 19999, 20999, 21999, 22999, 23999, 24999, 25999, 35999] h h13 → (0 ≤ kt ∧ kt ≤ 256) → h13.2.2.2.2 m 0 = .int (zi 0) → h13.2.2.2.2 m 3 = .int (zi z2) → h13.2.2.2.2 m 1 = .int (zi 0) → gz gPP gGG gcn (d + 10) gt132 48 [some (.ref m), some (.int (zi kt)), none] [] h13 (fun q _ => gSs rT 1027 ty [1000, 1001, 1003, 1005, 1006, 1007, 1008, 1016, 1017, 1018, 1019, 1020, 1021, 1022, 1023, 1024, 1039, 1041, 1042, 1043, 1044, 1045, 1046, 1047, 1048, 3999, 4999, 5999, 6999, 7999, 9999, 11999, 12999, 13999, 14999, 15999, 16999, 17999, 18999, 19999, 20999, 21999, 22999, 23999, 24999, 25999, 35999] h q.2.2 ∧ ∃ z ip1 w1 hh1 wd1 hg1 bs1 : Int, gfin gt132 q.1 q.2.1 = some (some (.int (zi z))) ∧ (-4001) ≤ z ∧ z ≤ 64 ∧ q.2.2.2.2.2.2 m 16 = .int (zi ip1) ∧ 0 ≤ ip1 ∧ ip1 ≤ 1 ∧ q.2.2.2.2.2.2 m 18 = .int (zi w1) ∧ 0 ≤ w1 ∧ w1 ≤ 64 ∧ q.2.2.2.2.2.2 m 19 = .int (zi hh1) ∧ 0 ≤ hh1 ∧ hh1 ≤ 64 ∧ q.2.2.2.2.2.2 m 21 = .int (zi wd1) ∧ 0 ≤ wd1 ∧ wd1 ≤ 2 ∧ q.2.2.2.2.2.2 m 22 = .int (zi hg1) ∧ 0 ≤ hg1 ∧ hg1 ≤ 2 ∧ q.2.2.2.2.2.2 m 20 = .int (zi bs1) ∧ 0 ≤ bs1 ∧ bs1 ≤ 3 ∧ (gPi ty ip1 w1 hh1 wd1 hg1 bs1 q.2.2)) := by
          intro fu
          induction fu with
          | zero => intro h13 kt hm; exact absurd hm (Nat.not_lt_zero _)
          | succ fu ihlp12 =>
            intro h13 kt lp12m sh13 lp12f0 lp12k0 lp12k1 lp12k2
            refine gz_s 2 (pc' := 52) (L' := [some (.ref m), some (.int (zi kt)), none]) (S' := [.int (zi 256), .int (zi kt)]) rfl ?_
            by_cases hc14 : (256 : Int) ≤ kt
            · refine gy_icT (pc' := 73) rfl (by decide) (by decide) (by omega) (by omega) hc14 ?_
              obtain ⟨c15, ec15, tc15⟩ := gJ.ref (k := 66) (G := gGG) sh13.1 tm rfl rfl rfl
              refine gz_s 2 (pc' := 75) (L' := [some (.ref m), some (.int (zi 0)), none]) (S' := []) rfl ?_
              have lp16 : ∀ (fu : Nat) (h17 : gH) (k : Int), (18 - k).toNat < fu → gSs rT 1027 ty [1000, 1001, 1003, 1005, 1006, 1007, 1008, 1016, 1017, 1018, 1019, 1020, 1021, 1022, 1023, 1024, 1039, 1041, 1042, 1043, 1044, 1045, 1046, 1047, 1048, 3999, 4999, 5999, 6999, 7999, 9999, 11999, 12999, 13999, 14999, 15999, 16999, 17999, 18999, 19999, 20999, 21999, 22999, 23999, 24999, 25999, 35999] h h17 → (0 ≤ k ∧ k ≤ 17) → (gS h17 c15 k = if 8 < k then 255 else 0) → h17.2.2.2.2 m 0 = .int (zi 0) → h17.2.2.2.2 m 3 = .int (zi z2) → h17.2.2.2.2 m 1 = .int (zi 0) → h17.2.2.2.2 m 66 = .ref c15 → gz gPP gGG gcn (d + 10) gt132 75 [some (.ref m), some (.int (zi k)), none] [] h17 (fun q _ => gSs rT 1027 ty [1000, 1001, 1003, 1005, 1006, 1007, 1008, 1016, 1017, 1018, 1019, 1020, 1021, 1022, 1023, 1024, 1039, 1041, 1042, 1043, 1044, 1045, 1046, 1047, 1048, 3999, 4999, 5999, 6999, 7999, 9999, 11999, 12999, 13999, 14999, 15999, 16999, 17999, 18999, 19999, 20999, 21999, 22999, 23999, 24999, 25999, 35999] h q.2.2 ∧ ∃ z ip1 w1 hh1 wd1 hg1 bs1 : Int, gfin gt132 q.1 q.2.1 = some (some (.int (zi z))) ∧ (-4001) ≤ z ∧ z ≤ 64 ∧ q.2.2.2.2.2.2 m 16 = .int (zi ip1) ∧ 0 ≤ ip1 ∧ ip1 ≤ 1 ∧ q.2.2.2.2.2.2 m 18 = .int (zi w1) ∧ 0 ≤ w1 ∧ w1 ≤ 64 ∧ q.2.2.2.2.2.2 m 19 = .int (zi hh1) ∧ 0 ≤ hh1 ∧ hh1 ≤ 64 ∧ q.2.2.2.2.2.2 m 21 = .int (zi wd1) ∧ 0 ≤ wd1 ∧ wd1 ≤ 2 ∧ q.2.2.2.2.2.2 m 22 = .int (zi hg1) ∧ 0 ≤ hg1 ∧ hg1 ≤ 2 ∧ q.2.2.2.2.2.2 m 20 = .int (zi bs1) ∧ 0 ≤ bs1 ∧ bs1 ≤ 3 ∧ (gPi ty ip1 w1 hh1 wd1 hg1 bs1 q.2.2)) := by
                intro fu
                induction fu with
                | zero => intro h17 k hm; exact absurd hm (Nat.not_lt_zero _)
                | succ fu ihlp16 =>
                  intro h17 k lp16m sh17 lp16f0 lp16f1 lp16k0 lp16k1 lp16k2 lp16k3
                  refine gz_s 2 (pc' := 78) (L' := [some (.ref m), some (.int (zi k)), none]) (S' := [.int (zi 17), .int (zi k)]) rfl ?_
                  by_cases hc18 : (17 : Int) ≤ k
                  · refine gy_icT (pc' := 106) rfl (by decide) (by decide) (by omega) (by omega) hc18 ?_
                    have hk17 : gS h17 c15 k = gsm h17 c15 16 := by rw [(by omega : k = 17)]; rfl
                    have hcn : gCn ty 35 c15 255 h17 := ⟨tc15, fun _ => rfl, by omega⟩
                    refine gz_s 2 (pc' := 108) (L' := [some (.ref m), some (.int (zi 0)), none]) (S' := []) rfl ?_
                    have lp19 : ∀ (fu : Nat) (h20 : gH) (ks : Int), (9 - ks).toNat < fu → gSs rT 1027 ty [1000, 1001, 1003, 1005, 1006, 1007, 1008, 1016, 1017, 1018, 1019, 1020, 1021, 1022, 1023, 1024, 1039, 1041, 1042, 1043, 1044, 1045, 1046, 1047, 1048, 3999, 4999, 5999, 6999, 7999, 9999, 11999, 12999, 13999, 14999, 15999, 16999, 17999, 18999, 19999, 20999, 21999, 22999, 23999, 24999, 25999, 35999] h h20 → (0 ≤ ks ∧ ks ≤ 8) → h20.2.2.2.2 m 0 = .int (zi 0) → h20.2.2.2.2 m 3 = .int (zi z2) → h20.2.2.2.2 m 1 = .int (zi 0) → h20.2.2.2.2 m 66 = .ref c15 → gCn ty 35 c15 255 h20 → gz gPP gGG gcn (d + 10) gt132 108 [some (.ref m), some (.int (zi ks)), none] [] h20 (fun q _ => gSs rT 1027 ty [1000, 1001, 1003, 1005, 1006, 1007, 1008, 1016, 1017, 1018, 1019, 1020, 1021, 1022, 1023, 1024, 1039, 1041, 1042, 1043, 1044, 1045, 1046, 1047, 1048, 3999, 4999, 5999, 6999, 7999, 9999, 11999, 12999, 13999, 14999, 15999, 16999, 17999, 18999, 19999, 20999, 21999, 22999, 23999, 24999, 25999, 35999] h q.2.2 ∧ ∃ z ip1 w1 hh1 wd1 hg1 bs1 : Int, gfin gt132 q.1 q.2.1 = some (some (.int (zi z))) ∧ (-4001) ≤ z ∧ z ≤ 64 ∧ q.2.2.2.2.2.2 m 16 = .int (zi ip1) ∧ 0 ≤ ip1 ∧ ip1 ≤ 1 ∧ q.2.2.2.2.2.2 m 18 = .int (zi w1) ∧ 0 ≤ w1 ∧ w1 ≤ 64 ∧ q.2.2.2.2.2.2 m 19 = .int (zi hh1) ∧ 0 ≤ hh1 ∧ hh1 ≤ 64 ∧ q.2.2.2.2.2.2 m 21 = .int (zi wd1) ∧ 0 ≤ wd1 ∧ wd1 ≤ 2 ∧ q.2.2.2.2.2.2 m 22 = .int (zi hg1) ∧ 0 ≤ hg1 ∧ hg1 ≤ 2 ∧ q.2.2.2.2.2.2 m 20 = .int (zi bs1) ∧ 0 ≤ bs1 ∧ bs1 ≤ 3 ∧ (gPi ty ip1 w1 hh1 wd1 hg1 bs1 q.2.2)) := by
                      intro fu
                      induction fu with
                      | zero => intro h20 ks hm; exact absurd hm (Nat.not_lt_zero _)
                      | succ fu ihlp19 =>
                        intro h20 ks lp19m sh20 lp19f0 lp19k0 lp19k1 lp19k2 lp19k3 lp19k4
                        refine gz_s 2 (pc' := 111) (L' := [some (.ref m), some (.int (zi ks)), none]) (S' := [.int (zi 8), .int (zi ks)]) rfl ?_
                        by_cases hc21 : (8 : Int) ≤ ks
                        · refine gy_icT (pc' := 157) rfl (by decide) (by decide) (by omega) (by omega) hc21 ?_
                          obtain ⟨z22, ez22, az22, bz22⟩ := gJ.int (k := 18) (G := gGG) sh20.1 tm rfl rfl rfl
                          obtain ⟨z23, ez23, az23, bz23⟩ := gJ.int (k := 19) (G := gGG) sh20.1 tm rfl rfl rfl
                          obtain ⟨z24, ez24, az24, bz24⟩ := gJ.int (k := 21) (G := gGG) sh20.1 tm rfl rfl rfl
                          obtain ⟨z25, ez25, az25, bz25⟩ := gJ.int (k := 22) (G := gGG) sh20.1 tm rfl rfl rfl
                          obtain ⟨z26, ez26, az26, bz26⟩ := gJ.int (k := 20) (G := gGG) sh20.1 tm rfl rfl rfl
                          refine gz_s 2 (pc' := 159) (L' := [some (.ref m), some (.int (zi ks)), none]) (S' := [.int (zi 0), .ref m]) rfl ?_
                          refine gs_put rfl (by decide) rfl sh20 tm rfl rfl rfl rfl (Or.inl rfl) (by decide) (by omega) (by omega) (fun h27 sh27 eh27 fh27 => ?_)
                          have pr28 := gCn.pt fh27 tm (by decide) lp19k4
                          have s29 := (fh27 m 0 (fun q => absurd q.2 (by decide))).trans lp19k0
                          have s30 := (fh27 m 3 (fun q => absurd q.2 (by decide))).trans lp19k1
                          have s31 := (fh27 m 1 (fun q => absurd q.2 (by decide))).trans lp19k2
                          have s32 := (fh27 m 66 (fun q => absurd q.2 (by decide))).trans lp19k3
                          have s33 := (fh27 m 18 (fun q => absurd q.2 (by decide))).trans ez22
                          have s34 := (fh27 m 19 (fun q => absurd q.2 (by decide))).trans ez23
                          have s35 := (fh27 m 21 (fun q => absurd q.2 (by decide))).trans ez24
                          have s36 := (fh27 m 22 (fun q => absurd q.2 (by decide))).trans ez25
                          have s37 := (fh27 m 20 (fun q => absurd q.2 (by decide))).trans ez26
                          refine gz_s 2 (pc' := 164) (L' := [some (.ref m), some (.int (zi ks)), none]) (S' := [.int (zi 0), .ref m]) rfl ?_
                          refine gs_put rfl (by decide) rfl sh27 tm rfl rfl rfl rfl (Or.inl rfl) (by decide) (by omega) (by omega) (fun h38 sh38 eh38 fh38 => ?_)
                          have pr39 := gCn.pt fh38 tm (by decide) pr28
                          have s40 := (fh38 m 0 (fun q => absurd q.2 (by decide))).trans s29
                          have s41 := (fh38 m 3 (fun q => absurd q.2 (by decide))).trans s30
                          have s42 := (fh38 m 1 (fun q => absurd q.2 (by decide))).trans s31
                          have s43 := (fh38 m 66 (fun q => absurd q.2 (by decide))).trans s32
                          have s44 := (fh38 m 18 (fun q => absurd q.2 (by decide))).trans s33
                          have s45 := (fh38 m 19 (fun q => absurd q.2 (by decide))).trans s34
                          have s46 := (fh38 m 21 (fun q => absurd q.2 (by decide))).trans s35
                          have s47 := (fh38 m 22 (fun q => absurd q.2 (by decide))).trans s36
                          have s48 := (fh38 m 20 (fun q => absurd q.2 (by decide))).trans s37
                          have s49 := (fh38 m 16 (fun q => absurd q.2 (by decide))).trans eh27
                          refine gz_s 2 (pc' := 169) (L' := [some (.ref m), some (.int (zi ks)), none]) (S' := [.int (zi (-1)), .ref m]) rfl ?_
                          refine gs_put rfl (by decide) rfl sh38 tm rfl rfl rfl rfl (Or.inl rfl) (by decide) (by omega) (by omega) (fun h50 sh50 eh50 fh50 => ?_)
                          have pr51 := gCn.pt fh50 tm (by decide) pr39
                          have s52 := (fh50 m 0 (fun q => absurd q.2 (by decide))).trans s40
                          have s53 := (fh50 m 3 (fun q => absurd q.2 (by decide))).trans s41
                          have s54 := (fh50 m 1 (fun q => absurd q.2 (by decide))).trans s42
                          have s55 := (fh50 m 66 (fun q => absurd q.2 (by decide))).trans s43
                          have s56 := (fh50 m 18 (fun q => absurd q.2 (by decide))).trans s44
                          have s57 := (fh50 m 19 (fun q => absurd q.2 (by decide))).trans s45
                          have s58 := (fh50 m 21 (fun q => absurd q.2 (by decide))).trans s46
                          have s59 := (fh50 m 22 (fun q => absurd q.2 (by decide))).trans s47
                          have s60 := (fh50 m 20 (fun q => absurd q.2 (by decide))).trans s48
                          have s61 := (fh50 m 16 (fun q => absurd q.2 (by decide))).trans s49
                          have s62 := (fh50 m 8 (fun q => absurd q.2 (by decide))).trans eh38
                          refine gz_s 2 (pc' := 174) (L' := [some (.ref m), some (.int (zi ks)), none]) (S' := [.ref m, .ref m]) rfl ?_
                          refine gs_gtk rfl (by decide) rfl sh50.1 tm rfl rfl s53 ?_
                          refine gz_s 1 (pc' := 178) (L' := [some (.ref m), some (.int (zi ks)), none]) (S' := [.int (zi 2), .int (zi z2), .ref m]) rfl ?_
                          have jn63 : ∀ (jn63v0 : Int), ((0 ≤ jn63v0) ∧ (jn63v0 ≤ 1) ∧ (jn63v0 = 1 → 2 ≤ z2)) → gz gPP gGG gcn (d + 10) gt132 210 [some (.ref m), some (.int (zi ks)), none] [.int (zi jn63v0), .ref m] h50 (fun q _ => gSs rT 1027 ty [1000, 1001, 1003, 1005, 1006, 1007, 1008, 1016, 1017, 1018, 1019, 1020, 1021, 1022, 1023, 1024, 1039, 1041, 1042, 1043, 1044, 1045, 1046, 1047, 1048, 3999, 4999, 5999, 6999, 7999, 9999, 11999, 12999, 13999, 14999, 15999, 16999, 17999, 18999, 19999, 20999, 21999, 22999, 23999, 24999, 25999, 35999] h q.2.2 ∧ ∃ z ip1 w1 hh1 wd1 hg1 bs1 : Int, gfin gt132 q.1 q.2.1 = some (some (.int (zi z))) ∧ (-4001) ≤ z ∧ z ≤ 64 ∧ q.2.2.2.2.2.2 m 16 = .int (zi ip1) ∧ 0 ≤ ip1 ∧ ip1 ≤ 1 ∧ q.2.2.2.2.2.2 m 18 = .int (zi w1) ∧ 0 ≤ w1 ∧ w1 ≤ 64 ∧ q.2.2.2.2.2.2 m 19 = .int (zi hh1) ∧ 0 ≤ hh1 ∧ hh1 ≤ 64 ∧ q.2.2.2.2.2.2 m 21 = .int (zi wd1) ∧ 0 ≤ wd1 ∧ wd1 ≤ 2 ∧ q.2.2.2.2.2.2 m 22 = .int (zi hg1) ∧ 0 ≤ hg1 ∧ hg1 ≤ 2 ∧ q.2.2.2.2.2.2 m 20 = .int (zi bs1) ∧ 0 ≤ bs1 ∧ bs1 ≤ 3 ∧ (gPi ty ip1 w1 hh1 wd1 hg1 bs1 q.2.2)) := by
                            intro jn63v0 jn63d
                            refine gz_s 1 (pc' := 211) (L' := [some (.ref m), some (.int (zi ks)), none]) (S' := [.int (zi 0), .int (zi jn63v0), .ref m]) rfl ?_
                            refine gz_call rfl (by decide) rfl (by decide) (by decide) (gcal_of rfl rfl rfl (Nat.le_of_ble_eq_true rfl) (gJ.recv (G := gGG) sh50.1 tm rfl rfl)) (mm_must _ sh50.1 m tm jn63v0 (by omega) 0 (by omega) (-1) eh50 (by omega)) (fun q64 _ wq64 => ?_)
                            obtain ⟨pq64, oq64, hq64⟩ := q64
                            obtain ⟨xq64, zq64, fq64_0, gq64, aq64, bq64, efq64_0, afq64_0, bfq64_0, uq64_0, uq64_1⟩ := wq64
                            refine ⟨_, gq64, ?_⟩
                            show gz gPP gGG gcn _ _ 214 [some (.ref m), some (.int (zi ks)), none] [.int (zi zq64)] hq64 _
                            have sq64 := gSs.tr sh50 xq64 (by decide)
                            have s65 := (xq64.2.2.2.2.2 m 0 (by rw [tm]; decide)).trans s52
                            have s66 := (xq64.2.2.2.2.2 m 3 (by rw [tm]; decide)).trans s53
                            have s67 := (xq64.2.2.2.2.2 m 1 (by rw [tm]; decide)).trans s54
                            have s68 := (xq64.2.2.2.2.2 m 66 (by rw [tm]; decide)).trans s55
                            have s69 := (xq64.2.2.2.2.2 m 18 (by rw [tm]; decide)).trans s56
                            have s70 := (xq64.2.2.2.2.2 m 19 (by rw [tm]; decide)).trans s57
                            have s71 := (xq64.2.2.2.2.2 m 21 (by rw [tm]; decide)).trans s58
                            have s72 := (xq64.2.2.2.2.2 m 22 (by rw [tm]; decide)).trans s59
                            have s73 := (xq64.2.2.2.2.2 m 20 (by rw [tm]; decide)).trans s60
                            have s74 := (xq64.2.2.2.2.2 m 16 (by rw [tm]; decide)).trans s61
                            have s75 := (xq64.2.2.2.2.2 m 8 (by rw [tm]; decide)).trans s62
                            have pr76 := gCn.fr xq64.2 (by decide) pr51
                            refine gz_s 3 (pc' := 217) (L' := [some (.ref m), some (.int (zi ks)), none]) (S' := [.int (zi 2), .ref m]) rfl ?_
                            refine gs_put rfl (by decide) rfl sq64 tm rfl rfl rfl rfl (Or.inl rfl) (by decide) (by omega) (by omega) (fun h77 sh77 eh77 fh77 => ?_)
                            have pr78 := gCn.pt fh77 tm (by decide) pr76
                            have s79 := (fh77 m 0 (fun q => absurd q.2 (by decide))).trans s65
                            have s80 := (fh77 m 3 (fun q => absurd q.2 (by decide))).trans s66
                            have s81 := (fh77 m 1 (fun q => absurd q.2 (by decide))).trans s67
                            have s82 := (fh77 m 66 (fun q => absurd q.2 (by decide))).trans s68
                            have s83 := (fh77 m 18 (fun q => absurd q.2 (by decide))).trans s69
                            have s84 := (fh77 m 19 (fun q => absurd q.2 (by decide))).trans s70
                            have s85 := (fh77 m 21 (fun q => absurd q.2 (by decide))).trans s71
                            have s86 := (fh77 m 22 (fun q => absurd q.2 (by decide))).trans s72
                            have s87 := (fh77 m 20 (fun q => absurd q.2 (by decide))).trans s73
                            have s88 := (fh77 m 16 (fun q => absurd q.2 (by decide))).trans s74
                            have s89 := (fh77 m 8 (fun q => absurd q.2 (by decide))).trans s75
                            have s90 := (fh77 m 7 (fun q => absurd q.2 (by decide))).trans efq64_0
                            refine gz_s 1 (pc' := 221) (L' := [some (.ref m), some (.int (zi ks)), none]) (S' := [.ref m]) rfl ?_
                            refine gs_gtk rfl (by decide) rfl sh77.1 tm rfl rfl s90 ?_
                            refine gz_s 1 (pc' := 225) (L' := [some (.ref m), some (.int (zi ks)), none]) (S' := [.int (zi (-1)), .int (zi fq64_0)]) rfl ?_
                            by_cases hc91 : ¬ (fq64_0 : Int) = (-1)
                            · refine gy_icT (pc' := 235) rfl (by decide) (by decide) (by omega) (by omega) hc91 ?_
                              refine gz_s 2 (pc' := 237) (L' := [some (.ref m), some (.int (zi 0)), none]) (S' := []) rfl ?_
                              have hpi93 : gPi ty 0 z22 z23 z24 z25 z26 h77 := fun e => absurd e (by omega)
                              have lp92 : ∀ (fu : Nat) (h94 : gH) (mk : Int) (fv : Int) (pv : Int) (ipv : Int) (wv : Int) (hv : Int) (wdv : Int) (hgv : Int) (bv : Int), (if fv = -1 then 5000 - pv else 0).toNat < fu → gSs rT 1027 ty [1000, 1001, 1003, 1005, 1006, 1007, 1008, 1016, 1017, 1018, 1019, 1020, 1021, 1022, 1023, 1024, 1039, 1041, 1042, 1043, 1044, 1045, 1046, 1047, 1048, 3999, 4999, 5999, 6999, 7999, 9999, 11999, 12999, 13999, 14999, 15999, 16999, 17999, 18999, 19999, 20999, 21999, 22999, 23999, 24999, 25999, 35999] h h94 → (0 ≤ mk ∧ mk ≤ 255) → ((-1) ≤ fv ∧ fv ≤ 4000) → (0 ≤ pv ∧ pv ≤ 4000) → (0 ≤ ipv ∧ ipv ≤ 1) → (0 ≤ wv ∧ wv ≤ 64) → (0 ≤ hv ∧ hv ≤ 64) → (0 ≤ wdv ∧ wdv ≤ 2) → (0 ≤ hgv ∧ hgv ≤ 2) → (0 ≤ bv ∧ bv ≤ 3) → (fv = -1 → (2 ≤ pv ∧ pv ≤ z2)) → h94.2.2.2.2 m 0 = .int (zi 0) → h94.2.2.2.2 m 3 = .int (zi z2) → h94.2.2.2.2 m 1 = .int (zi 0) → h94.2.2.2.2 m 66 = .ref c15 → h94.2.2.2.2 m 7 = .int (zi fv) → h94.2.2.2.2 m 5 = .int (zi pv) → h94.2.2.2.2 m 16 = .int (zi ipv) → h94.2.2.2.2 m 18 = .int (zi wv) → h94.2.2.2.2 m 19 = .int (zi hv) → h94.2.2.2.2 m 21 = .int (zi wdv) → h94.2.2.2.2 m 22 = .int (zi hgv) → h94.2.2.2.2 m 20 = .int (zi bv) → gPi ty ipv wv hv wdv hgv bv h94 → gz gPP gGG gcn (d + 10) gt132 237 [some (.ref m), some (.int (zi mk)), none] [] h94 (fun q _ => gSs rT 1027 ty [1000, 1001, 1003, 1005, 1006, 1007, 1008, 1016, 1017, 1018, 1019, 1020, 1021, 1022, 1023, 1024, 1039, 1041, 1042, 1043, 1044, 1045, 1046, 1047, 1048, 3999, 4999, 5999, 6999, 7999, 9999, 11999, 12999, 13999, 14999, 15999, 16999, 17999, 18999, 19999, 20999, 21999, 22999, 23999, 24999, 25999, 35999] h q.2.2 ∧ ∃ z ip1 w1 hh1 wd1 hg1 bs1 : Int, gfin gt132 q.1 q.2.1 = some (some (.int (zi z))) ∧ (-4001) ≤ z ∧ z ≤ 64 ∧ q.2.2.2.2.2.2 m 16 = .int (zi ip1) ∧ 0 ≤ ip1 ∧ ip1 ≤ 1 ∧ q.2.2.2.2.2.2 m 18 = .int (zi w1) ∧ 0 ≤ w1 ∧ w1 ≤ 64 ∧ q.2.2.2.2.2.2 m 19 = .int (zi hh1) ∧ 0 ≤ hh1 ∧ hh1 ≤ 64 ∧ q.2.2.2.2.2.2 m 21 = .int (zi wd1) ∧ 0 ≤ wd1 ∧ wd1 ≤ 2 ∧ q.2.2.2.2.2.2 m 22 = .int (zi hg1) ∧ 0 ≤ hg1 ∧ hg1 ≤ 2 ∧ q.2.2.2.2.2.2 m 20 = .int (zi bs1) ∧ 0 ≤ bs1 ∧ bs1 ≤ 3 ∧ (gPi ty ip1 w1 hh1 wd1 hg1 bs1 q.2.2)) := by
                                intro fu
                                induction fu with
                                | zero => intro h94 mk fv pv ipv wv hv wdv hgv bv hm; exact absurd hm (Nat.not_lt_zero _)
                                | succ fu ihlp92 =>
                                  intro h94 mk fv pv ipv wv hv wdv hgv bv lp92m sh94 lp92f0 lp92f1 lp92f2 lp92f3 lp92f4 lp92f5 lp92f6 lp92f7 lp92f8 lp92f9 lp92k0 lp92k1 lp92k2 lp92k3 lp92k4 lp92k5 lp92k6 lp92k7 lp92k8 lp92k9 lp92k10 lp92k11 lp92k12
                                  refine gz_s 1 (pc' := 238) (L' := [some (.ref m), some (.int (zi mk)), none]) (S' := [.ref m]) rfl ?_
                                  refine gs_gtk rfl (by decide) rfl sh94.1 tm rfl rfl lp92k4 ?_
                                  refine gz_s 1 (pc' := 242) (L' := [some (.ref m), some (.int (zi mk)), none]) (S' := [.int (zi (-1)), .int (zi fv)]) rfl ?_
                                  by_cases hc95 : ¬ (fv : Int) = (-1)
                                  · refine gy_icT (pc' := 296) rfl (by decide) (by decide) (by omega) (by omega) hc95 ?_
                                    refine gz_s 2 (pc' := 298) (L' := [some (.ref m), some (.int (zi mk)), none]) (S' := [.ref m, .ref m]) rfl ?_
                                    refine gs_gtk rfl (by decide) rfl sh94.1 tm rfl rfl lp92k6 ?_
                                    have jn96 : ((((ipv : Int) = 0)) ∨ ((¬ ((ipv : Int) = 0)))) → gz gPP gGG gcn (d + 10) gt132 317 [some (.ref m), some (.int (zi mk)), none] [.int (zi 0), .ref m] h94 (fun q _ => gSs rT 1027 ty [1000, 1001, 1003, 1005, 1006, 1007, 1008, 1016, 1017, 1018, 1019, 1020, 1021, 1022, 1023, 1024, 1039, 1041, 1042, 1043, 1044, 1045, 1046, 1047, 1048, 3999, 4999, 5999, 6999, 7999, 9999, 11999, 12999, 13999, 14999, 15999, 16999, 17999, 18999, 19999, 20999, 21999, 22999, 23999, 24999, 25999, 35999] h q.2.2 ∧ ∃ z ip1 w1 hh1 wd1 hg1 bs1 : Int, gfin gt132 q.1 q.2.1 = some (some (.int (zi z))) ∧ (-4001) ≤ z ∧ z ≤ 64 ∧ q.2.2.2.2.2.2 m 16 = .int (zi ip1) ∧ 0 ≤ ip1 ∧ ip1 ≤ 1 ∧ q.2.2.2.2.2.2 m 18 = .int (zi w1) ∧ 0 ≤ w1 ∧ w1 ≤ 64 ∧ q.2.2.2.2.2.2 m 19 = .int (zi hh1) ∧ 0 ≤ hh1 ∧ hh1 ≤ 64 ∧ q.2.2.2.2.2.2 m 21 = .int (zi wd1) ∧ 0 ≤ wd1 ∧ wd1 ≤ 2 ∧ q.2.2.2.2.2.2 m 22 = .int (zi hg1) ∧ 0 ≤ hg1 ∧ hg1 ≤ 2 ∧ q.2.2.2.2.2.2 m 20 = .int (zi bs1) ∧ 0 ≤ bs1 ∧ bs1 ≤ 3 ∧ (gPi ty ip1 w1 hh1 wd1 hg1 bs1 q.2.2)) := by
                                      intro  jn96d
                                      refine gs_put rfl (by decide) rfl sh94 tm rfl rfl rfl rfl (Or.inl rfl) (by decide) (by omega) (by omega) (fun h97 sh97 eh97 fh97 => ?_)
                                      have pr98 := gPi.pt fh97 tm (by decide) lp92k12
                                      have s99 := (fh97 m 0 (fun q => absurd q.2 (by decide))).trans lp92k0
                                      have s100 := (fh97 m 3 (fun q => absurd q.2 (by decide))).trans lp92k1
                                      have s101 := (fh97 m 1 (fun q => absurd q.2 (by decide))).trans lp92k2
                                      have s102 := (fh97 m 66 (fun q => absurd q.2 (by decide))).trans lp92k3
                                      have s103 := (fh97 m 7 (fun q => absurd q.2 (by decide))).trans lp92k4
                                      have s104 := (fh97 m 5 (fun q => absurd q.2 (by decide))).trans lp92k5
                                      have s105 := (fh97 m 18 (fun q => absurd q.2 (by decide))).trans lp92k7
                                      have s106 := (fh97 m 19 (fun q => absurd q.2 (by decide))).trans lp92k8
                                      have s107 := (fh97 m 21 (fun q => absurd q.2 (by decide))).trans lp92k9
                                      have s108 := (fh97 m 22 (fun q => absurd q.2 (by decide))).trans lp92k10
                                      have s109 := (fh97 m 20 (fun q => absurd q.2 (by decide))).trans lp92k11
                                      have hpi110 : gPi ty 0 wv hv wdv hgv bv h97 := fun e => pr98 (by omega)
                                      refine gz_s 1 (pc' := 321) (L' := [some (.ref m), some (.int (zi mk)), none]) (S' := [.ref m]) rfl ?_
                                      refine gs_gtk rfl (by decide) rfl sh97.1 tm rfl rfl s103 ?_
                                      refine gz_s 1 (pc' := 325) (L' := [some (.ref m), some (.int (zi mk)), none]) (S' := [.int (zi (-1)), .int (zi fv)]) rfl ?_
                                      refine gy_icF rfl (by decide) (by decide) (by omega) (by omega) (by first | (simp [zc]; done) | (simp only [zc]; omega)) ?_
                                      refine gz_s 2 (pc' := 330) (L' := [some (.ref m), some (.int (zi mk)), none]) (S' := [.ref m, .int (zi (-1))]) rfl ?_
                                      refine gs_gtk rfl (by decide) rfl sh97.1 tm rfl rfl s103 ?_
                                      refine gy_s 2 (pc' := 352) (L' := [some (.ref m), some (.int (zi mk)), none]) (S' := [.int ((zi (-1)) - (zi fv))]) (L2 := [some (.ref m), some (.int (zi mk)), none]) (S2 := [.int (zi ((-1) - fv))]) rfl (by simp only [zi_add, zi_sub, zi_mul, zi_neg, zi_and1, zi_and7, zi_and15, zi_and31, zi_and255]) (by simp only [zi_add, zi_sub, zi_mul, zi_neg, zi_and1, zi_and7, zi_and15, zi_and31, zi_and255]) ?_
                                      have hpi111 : gPi ty 0 wv hv wdv hgv bv h97 := fun e => absurd e (by omega)
                                      exact gz_end (I := .ireturn) (len := 1) rfl (Or.inl rfl) ⟨sh97, (-1) - fv, 0, wv, hv, wdv, hgv, bv, rfl, (by omega), (by omega), eh97, (by omega), (by omega), s105, (by omega), (by omega), s106, (by omega), (by omega), s107, (by omega), (by omega), s108, (by omega), (by omega), s109, (by omega), (by omega), hpi111⟩
                                    by_cases hc112 : (ipv : Int) = 0
                                    · refine gy_ifT (pc' := 316) rfl (by decide) (by decide) (by omega) hc112 ?_
                                      refine gz_s 1 (pc' := 317) (L' := [some (.ref m), some (.int (zi mk)), none]) (S' := [.int (zi 0), .ref m]) rfl ?_
                                      exact jn96  (by omega)
                                    · refine gy_ifF rfl (by decide) (by decide) (by omega) hc112 ?_
                                      refine gz_s 1 (pc' := 305) (L' := [some (.ref m), some (.int (zi mk)), none]) (S' := [.ref m, .ref m]) rfl ?_
                                      refine gs_gtk rfl (by decide) rfl sh94.1 tm rfl rfl lp92k4 ?_
                                      refine gz_s 1 (pc' := 309) (L' := [some (.ref m), some (.int (zi mk)), none]) (S' := [.int (zi (-1)), .int (zi fv), .ref m]) rfl ?_
                                      refine gy_icT (pc' := 316) rfl (by decide) (by decide) (by omega) (by omega) (by first | (simp [zc]; done) | (simp only [zc]; omega)) ?_
                                      refine gz_s 1 (pc' := 317) (L' := [some (.ref m), some (.int (zi mk)), none]) (S' := [.int (zi 0), .ref m]) rfl ?_
                                      exact jn96  (by omega)
                                  · refine gy_icF rfl (by decide) (by decide) (by omega) (by omega) hc95 ?_
                                    refine gz_s 2 (pc' := 249) (L' := [some (.ref m), some (.int (zi mk)), none]) (S' := [.int (zi 217), .int (zi mk)]) rfl ?_
                                    by_cases hc113 : (mk : Int) = 217
                                    · refine gy_icT (pc' := 296) rfl (by decide) (by decide) (by omega) (by omega) hc113 ?_
                                      refine gz_s 2 (pc' := 298) (L' := [some (.ref m), some (.int (zi mk)), none]) (S' := [.ref m, .ref m]) rfl ?_
                                      refine gs_gtk rfl (by decide) rfl sh94.1 tm rfl rfl lp92k6 ?_
                                      have jn114 : ∀ (jn114v0 : Int), ((0 ≤ jn114v0) ∧ (jn114v0 ≤ 1) ∧ (jn114v0 = 1 → ipv = 1)) → gz gPP gGG gcn (d + 10) gt132 317 [some (.ref m), some (.int (zi mk)), none] [.int (zi jn114v0), .ref m] h94 (fun q _ => gSs rT 1027 ty [1000, 1001, 1003, 1005, 1006, 1007, 1008, 1016, 1017, 1018, 1019, 1020, 1021, 1022, 1023, 1024, 1039, 1041, 1042, 1043, 1044, 1045, 1046, 1047, 1048, 3999, 4999, 5999, 6999, 7999, 9999, 11999, 12999, 13999, 14999, 15999, 16999, 17999, 18999, 19999, 20999, 21999, 22999, 23999, 24999, 25999, 35999] h q.2.2 ∧ ∃ z ip1 w1 hh1 wd1 hg1 bs1 : Int, gfin gt132 q.1 q.2.1 = some (some (.int (zi z))) ∧ (-4001) ≤ z ∧ z ≤ 64 ∧ q.2.2.2.2.2.2 m 16 = .int (zi ip1) ∧ 0 ≤ ip1 ∧ ip1 ≤ 1 ∧ q.2.2.2.2.2.2 m 18 = .int (zi w1) ∧ 0 ≤ w1 ∧ w1 ≤ 64 ∧ q.2.2.2.2.2.2 m 19 = .int (zi hh1) ∧ 0 ≤ hh1 ∧ hh1 ≤ 64 ∧ q.2.2.2.2.2.2 m 21 = .int (zi wd1) ∧ 0 ≤ wd1 ∧ wd1 ≤ 2 ∧ q.2.2.2.2.2.2 m 22 = .int (zi hg1) ∧ 0 ≤ hg1 ∧ hg1 ≤ 2 ∧ q.2.2.2.2.2.2 m 20 = .int (zi bs1) ∧ 0 ≤ bs1 ∧ bs1 ≤ 3 ∧ (gPi ty ip1 w1 hh1 wd1 hg1 bs1 q.2.2)) := by
                                        intro jn114v0 jn114d
                                        refine gs_put rfl (by decide) rfl sh94 tm rfl rfl rfl (gfit_z (by omega)) (Or.inl rfl) (by decide) (by omega) (by omega) (fun h115 sh115 eh115 fh115 => ?_)
                                        have pr116 := gPi.pt fh115 tm (by decide) lp92k12
                                        have s117 := (fh115 m 0 (fun q => absurd q.2 (by decide))).trans lp92k0
                                        have s118 := (fh115 m 3 (fun q => absurd q.2 (by decide))).trans lp92k1
                                        have s119 := (fh115 m 1 (fun q => absurd q.2 (by decide))).trans lp92k2
                                        have s120 := (fh115 m 66 (fun q => absurd q.2 (by decide))).trans lp92k3
                                        have s121 := (fh115 m 7 (fun q => absurd q.2 (by decide))).trans lp92k4
                                        have s122 := (fh115 m 5 (fun q => absurd q.2 (by decide))).trans lp92k5
                                        have s123 := (fh115 m 18 (fun q => absurd q.2 (by decide))).trans lp92k7
                                        have s124 := (fh115 m 19 (fun q => absurd q.2 (by decide))).trans lp92k8
                                        have s125 := (fh115 m 21 (fun q => absurd q.2 (by decide))).trans lp92k9
                                        have s126 := (fh115 m 22 (fun q => absurd q.2 (by decide))).trans lp92k10
                                        have s127 := (fh115 m 20 (fun q => absurd q.2 (by decide))).trans lp92k11
                                        have hpi128 : gPi ty jn114v0 wv hv wdv hgv bv h115 := fun e => pr116 (by omega)
                                        refine gz_s 1 (pc' := 321) (L' := [some (.ref m), some (.int (zi mk)), none]) (S' := [.ref m]) rfl ?_
                                        refine gs_gtk rfl (by decide) rfl sh115.1 tm rfl rfl s121 ?_
                                        refine gz_s 1 (pc' := 325) (L' := [some (.ref m), some (.int (zi mk)), none]) (S' := [.int (zi (-1)), .int (zi fv)]) rfl ?_
                                        refine gy_icT (pc' := 337) rfl (by decide) (by decide) (by omega) (by omega) (by first | (simp [zc]; done) | (simp only [zc]; omega)) ?_
                                        refine gz_s 1 (pc' := 338) (L' := [some (.ref m), some (.int (zi mk)), none]) (S' := [.ref m]) rfl ?_
                                        refine gs_gtk rfl (by decide) rfl sh115.1 tm rfl rfl eh115 ?_
                                        by_cases hc129 : (jn114v0 : Int) = 0
                                        · refine gy_ifT (pc' := 351) rfl (by decide) (by decide) (by omega) hc129 ?_
                                          refine gz_s 1 (pc' := 352) (L' := [some (.ref m), some (.int (zi mk)), none]) (S' := [.int (zi 0)]) rfl ?_
                                          have hpi130 : gPi ty jn114v0 wv hv wdv hgv bv h115 := fun e => absurd e (by omega)
                                          exact gz_end (I := .ireturn) (len := 1) rfl (Or.inl rfl) ⟨sh115, 0, jn114v0, wv, hv, wdv, hgv, bv, rfl, (by omega), (by omega), eh115, (by omega), (by omega), s123, (by omega), (by omega), s124, (by omega), (by omega), s125, (by omega), (by omega), s126, (by omega), (by omega), s127, (by omega), (by omega), hpi130⟩
                                        · refine gy_ifF rfl (by decide) (by decide) (by omega) hc129 ?_
                                          refine gz_s 1 (pc' := 345) (L' := [some (.ref m), some (.int (zi mk)), none]) (S' := [.ref m]) rfl ?_
                                          refine gs_gtk rfl (by decide) rfl sh115.1 tm rfl rfl s124 ?_
                                          refine gz_s 1 (pc' := 352) (L' := [some (.ref m), some (.int (zi mk)), none]) (S' := [.int (zi hv)]) rfl ?_
                                          have hpi131 : gPi ty jn114v0 wv hv wdv hgv bv h115 := hpi128
                                          exact gz_end (I := .ireturn) (len := 1) rfl (Or.inl rfl) ⟨sh115, hv, jn114v0, wv, hv, wdv, hgv, bv, rfl, (by omega), (by omega), eh115, (by omega), (by omega), s123, (by omega), (by omega), s124, (by omega), (by omega), s125, (by omega), (by omega), s126, (by omega), (by omega), s127, (by omega), (by omega), hpi131⟩
                                      by_cases hc132 : (ipv : Int) = 0
                                      · refine gy_ifT (pc' := 316) rfl (by decide) (by decide) (by omega) hc132 ?_
                                        refine gz_s 1 (pc' := 317) (L' := [some (.ref m), some (.int (zi mk)), none]) (S' := [.int (zi 0), .ref m]) rfl ?_
                                        exact jn114 0 (by omega)
                                      · refine gy_ifF rfl (by decide) (by decide) (by omega) hc132 ?_
                                        refine gz_s 1 (pc' := 305) (L' := [some (.ref m), some (.int (zi mk)), none]) (S' := [.ref m, .ref m]) rfl ?_
                                        refine gs_gtk rfl (by decide) rfl sh94.1 tm rfl rfl lp92k4 ?_
                                        refine gz_s 1 (pc' := 309) (L' := [some (.ref m), some (.int (zi mk)), none]) (S' := [.int (zi (-1)), .int (zi fv), .ref m]) rfl ?_
                                        refine gy_icF rfl (by decide) (by decide) (by omega) (by omega) (by first | (simp [zc]; done) | (simp only [zc]; omega)) ?_
                                        refine gz_s 2 (pc' := 317) (L' := [some (.ref m), some (.int (zi mk)), none]) (S' := [.int (zi 1), .ref m]) rfl ?_
                                        exact jn114 1 (by omega)
                                    · refine gy_icF rfl (by decide) (by decide) (by omega) (by omega) hc113 ?_
                                      refine gz_s 2 (pc' := 254) (L' := [some (.ref m), some (.int (zi mk)), none]) (S' := [.int (zi 1), .int (zi mk)]) rfl ?_
                                      by_cases hc133 : (mk : Int) = 1
                                      · refine gy_icT (pc' := 276) rfl (by decide) (by decide) (by omega) (by omega) hc133 ?_
                                        refine gz_s 1 (pc' := 277) (L' := [some (.ref m), some (.int (zi mk)), none]) (S' := [.ref m]) rfl ?_
                                        refine gs_gtk rfl (by decide) rfl sh94.1 tm rfl rfl lp92k4 ?_
                                        refine gz_s 1 (pc' := 281) (L' := [some (.ref m), some (.int (zi mk)), none]) (S' := [.int (zi (-1)), .int (zi fv)]) rfl ?_
                                        refine gy_icF rfl (by decide) (by decide) (by omega) (by omega) (by first | (simp [zc]; done) | (simp only [zc]; omega)) ?_
                                        refine gz_s 1 (pc' := 285) (L' := [some (.ref m), some (.int (zi mk)), none]) (S' := [.ref m]) rfl ?_
                                        refine gz_call rfl (by decide) rfl (by decide) (by decide) (gcal_of rfl rfl rfl (Nat.le_of_ble_eq_true rfl) (gJ.recv (G := gGG) sh94.1 tm rfl rfl)) (mm_marker _ sh94.1 m tm fv lp92k4 (by omega) z2 lp92k1 (by omega) pv lp92k5 (by omega)) (fun q134 _ wq134 => ?_)
                                        obtain ⟨pq134, oq134, hq134⟩ := q134
                                        obtain ⟨xq134, zq134, fq134_0, fq134_1, gq134, aq134, bq134, efq134_0, afq134_0, bfq134_0, efq134_1, afq134_1, bfq134_1, uq134_0⟩ := wq134
                                        refine ⟨_, gq134, ?_⟩
                                        show gz gPP gGG gcn _ _ 288 [some (.ref m), some (.int (zi mk)), none] [.int (zi zq134)] hq134 _
                                        have sq134 := gSs.tr sh94 xq134 (by decide)
                                        have s135 := (xq134.2.2.2.2.2 m 0 (by rw [tm]; decide)).trans lp92k0
                                        have s136 := (xq134.2.2.2.2.2 m 3 (by rw [tm]; decide)).trans lp92k1
                                        have s137 := (xq134.2.2.2.2.2 m 1 (by rw [tm]; decide)).trans lp92k2
                                        have s138 := (xq134.2.2.2.2.2 m 66 (by rw [tm]; decide)).trans lp92k3
                                        have s139 := (xq134.2.2.2.2.2 m 16 (by rw [tm]; decide)).trans lp92k6
                                        have s140 := (xq134.2.2.2.2.2 m 18 (by rw [tm]; decide)).trans lp92k7
                                        have s141 := (xq134.2.2.2.2.2 m 19 (by rw [tm]; decide)).trans lp92k8
                                        have s142 := (xq134.2.2.2.2.2 m 21 (by rw [tm]; decide)).trans lp92k9
                                        have s143 := (xq134.2.2.2.2.2 m 22 (by rw [tm]; decide)).trans lp92k10
                                        have s144 := (xq134.2.2.2.2.2 m 20 (by rw [tm]; decide)).trans lp92k11
                                        have pr145 := gPi.fr xq134.2 (by decide) lp92k12
                                        refine gz_s 3 (pc' := 237) (L' := [some (.ref m), some (.int (zi zq134)), none]) (S' := []) rfl ?_
                                        exact gz_wk (ihlp92 hq134 zq134 fq134_0 fq134_1 ipv wv hv wdv hgv bv (by omega) sq134 (by omega) (by omega) (by omega) (by omega) (by omega) (by omega) (by omega) (by omega) (by omega) (by omega) s135 s136 s137 s138 efq134_0 efq134_1 s139 s140 s141 s142 s143 s144 pr145) (gLw.s (gLw.s (gLw.n gLw.z)))
                                      · refine gy_icF rfl (by decide) (by decide) (by omega) (by omega) hc133 ?_
                                        refine gz_s 2 (pc' := 261) (L' := [some (.ref m), some (.int (zi mk)), none]) (S' := [.int (zi 208), .int (zi mk)]) rfl ?_
                                        by_cases hc146 : (mk : Int) < 208
                                        · refine gy_icT (pc' := 271) rfl (by decide) (by decide) (by omega) (by omega) hc146 ?_
                                          refine gz_s 2 (pc' := 273) (L' := [some (.ref m), some (.int (zi mk)), none]) (S' := [.int (zi mk), .ref m]) rfl ?_
                                          refine gz_call rfl (by decide) rfl (by decide) (by decide) (gcal_of rfl rfl rfl (Nat.le_of_ble_eq_true rfl) (gJ.recv (G := gGG) sh94.1 tm rfl rfl)) (mm_segment _ sh94.1 m tm mk (by omega) fv lp92k4 (by omega) pv lp92k5 (by omega) z2 lp92k1 (by omega) ipv lp92k6 (by omega) wv lp92k7 (by omega) hv lp92k8 (by omega) wdv lp92k9 (by omega) hgv lp92k10 (by omega) bv lp92k11 (by omega) uq lp92k12) (fun q147 _ wq147 => ?_)
                                          obtain ⟨pq147, oq147, hq147⟩ := q147
                                          obtain ⟨xq147, fq147_0, fq147_1, fq147_2, fq147_3, fq147_4, fq147_5, fq147_6, fq147_7, gq147, efq147_0, afq147_0, bfq147_0, efq147_1, afq147_1, bfq147_1, efq147_2, afq147_2, bfq147_2, efq147_3, afq147_3, bfq147_3, efq147_4, afq147_4, bfq147_4, efq147_5, afq147_5, bfq147_5, efq147_6, afq147_6, bfq147_6, efq147_7, afq147_7, bfq147_7, uq147_0, yq147_0⟩ := wq147
                                          refine ⟨_, gq147, ?_⟩
                                          show gz gPP gGG gcn _ _ 276 [some (.ref m), some (.int (zi mk)), none] [] hq147 _
                                          have sq147 := gSs.tr sh94 xq147 (by decide)
                                          have s148 := (xq147.2.2.2.2.2 m 0 (by rw [tm]; decide)).trans lp92k0
                                          have s149 := (xq147.2.2.2.2.2 m 3 (by rw [tm]; decide)).trans lp92k1
                                          have s150 := (xq147.2.2.2.2.2 m 1 (by rw [tm]; decide)).trans lp92k2
                                          have s151 := (xq147.2.2.2.2.2 m 66 (by rw [tm]; decide)).trans lp92k3
                                          refine gz_s 1 (pc' := 277) (L' := [some (.ref m), some (.int (zi mk)), none]) (S' := [.ref m]) rfl ?_
                                          refine gs_gtk rfl (by decide) rfl sq147.1 tm rfl rfl efq147_0 ?_
                                          refine gz_s 1 (pc' := 281) (L' := [some (.ref m), some (.int (zi mk)), none]) (S' := [.int (zi (-1)), .int (zi fq147_0)]) rfl ?_
                                          by_cases hc152 : ¬ (fq147_0 : Int) = (-1)
                                          · refine gy_icT (pc' := 291) rfl (by decide) (by decide) (by omega) (by omega) hc152 ?_
                                            refine gz_s 3 (pc' := 237) (L' := [some (.ref m), some (.int (zi 0)), none]) (S' := []) rfl ?_
                                            exact gz_wk (ihlp92 hq147 0 fq147_0 fq147_1 fq147_2 fq147_3 fq147_4 fq147_5 fq147_6 fq147_7 (by omega) sq147 (by omega) (by omega) (by omega) (by omega) (by omega) (by omega) (by omega) (by omega) (by omega) (by omega) s148 s149 s150 s151 efq147_0 efq147_1 efq147_2 efq147_3 efq147_4 efq147_5 efq147_6 efq147_7 yq147_0) (gLw.s (gLw.s (gLw.n gLw.z)))
                                          · refine gy_icF rfl (by decide) (by decide) (by omega) (by omega) hc152 ?_
                                            refine gz_s 1 (pc' := 285) (L' := [some (.ref m), some (.int (zi mk)), none]) (S' := [.ref m]) rfl ?_
                                            refine gz_call rfl (by decide) rfl (by decide) (by decide) (gcal_of rfl rfl rfl (Nat.le_of_ble_eq_true rfl) (gJ.recv (G := gGG) sq147.1 tm rfl rfl)) (mm_marker _ sq147.1 m tm fq147_0 efq147_0 (by omega) z2 s149 (by omega) fq147_1 efq147_1 (by omega)) (fun q153 _ wq153 => ?_)
                                            obtain ⟨pq153, oq153, hq153⟩ := q153
                                            obtain ⟨xq153, zq153, fq153_0, fq153_1, gq153, aq153, bq153, efq153_0, afq153_0, bfq153_0, efq153_1, afq153_1, bfq153_1, uq153_0⟩ := wq153
                                            refine ⟨_, gq153, ?_⟩
                                            show gz gPP gGG gcn _ _ 288 [some (.ref m), some (.int (zi mk)), none] [.int (zi zq153)] hq153 _
                                            have sq153 := gSs.tr sq147 xq153 (by decide)
                                            have s154 := (xq153.2.2.2.2.2 m 0 (by rw [tm]; decide)).trans s148
                                            have s155 := (xq153.2.2.2.2.2 m 3 (by rw [tm]; decide)).trans s149
                                            have s156 := (xq153.2.2.2.2.2 m 1 (by rw [tm]; decide)).trans s150
                                            have s157 := (xq153.2.2.2.2.2 m 66 (by rw [tm]; decide)).trans s151
                                            have s158 := (xq153.2.2.2.2.2 m 16 (by rw [tm]; decide)).trans efq147_2
                                            have s159 := (xq153.2.2.2.2.2 m 18 (by rw [tm]; decide)).trans efq147_3
                                            have s160 := (xq153.2.2.2.2.2 m 19 (by rw [tm]; decide)).trans efq147_4
                                            have s161 := (xq153.2.2.2.2.2 m 21 (by rw [tm]; decide)).trans efq147_5
                                            have s162 := (xq153.2.2.2.2.2 m 22 (by rw [tm]; decide)).trans efq147_6
                                            have s163 := (xq153.2.2.2.2.2 m 20 (by rw [tm]; decide)).trans efq147_7
                                            have pr164 := gPi.fr xq153.2 (by decide) yq147_0
                                            refine gz_s 3 (pc' := 237) (L' := [some (.ref m), some (.int (zi zq153)), none]) (S' := []) rfl ?_
                                            exact gz_wk (ihlp92 hq153 zq153 fq153_0 fq153_1 fq147_2 fq147_3 fq147_4 fq147_5 fq147_6 fq147_7 (by omega) sq153 (by omega) (by omega) (by omega) (by omega) (by omega) (by omega) (by omega) (by omega) (by omega) (by omega) s154 s155 s156 s157 efq153_0 efq153_1 s158 s159 s160 s161 s162 s163 pr164) (gLw.s (gLw.s (gLw.n gLw.z)))
                                        · refine gy_icF rfl (by decide) (by decide) (by omega) (by omega) hc146 ?_
                                          refine gz_s 2 (pc' := 268) (L' := [some (.ref m), some (.int (zi mk)), none]) (S' := [.int (zi 215), .int (zi mk)]) rfl ?_
                                          by_cases hc165 : (mk : Int) ≤ 215
                                          · refine gy_icT (pc' := 276) rfl (by decide) (by decide) (by omega) (by omega) hc165 ?_
                                            refine gz_s 1 (pc' := 277) (L' := [some (.ref m), some (.int (zi mk)), none]) (S' := [.ref m]) rfl ?_
                                            refine gs_gtk rfl (by decide) rfl sh94.1 tm rfl rfl lp92k4 ?_
                                            refine gz_s 1 (pc' := 281) (L' := [some (.ref m), some (.int (zi mk)), none]) (S' := [.int (zi (-1)), .int (zi fv)]) rfl ?_
                                            refine gy_icF rfl (by decide) (by decide) (by omega) (by omega) (by first | (simp [zc]; done) | (simp only [zc]; omega)) ?_
                                            refine gz_s 1 (pc' := 285) (L' := [some (.ref m), some (.int (zi mk)), none]) (S' := [.ref m]) rfl ?_
                                            refine gz_call rfl (by decide) rfl (by decide) (by decide) (gcal_of rfl rfl rfl (Nat.le_of_ble_eq_true rfl) (gJ.recv (G := gGG) sh94.1 tm rfl rfl)) (mm_marker _ sh94.1 m tm fv lp92k4 (by omega) z2 lp92k1 (by omega) pv lp92k5 (by omega)) (fun q166 _ wq166 => ?_)
                                            obtain ⟨pq166, oq166, hq166⟩ := q166
                                            obtain ⟨xq166, zq166, fq166_0, fq166_1, gq166, aq166, bq166, efq166_0, afq166_0, bfq166_0, efq166_1, afq166_1, bfq166_1, uq166_0⟩ := wq166
                                            refine ⟨_, gq166, ?_⟩
                                            show gz gPP gGG gcn _ _ 288 [some (.ref m), some (.int (zi mk)), none] [.int (zi zq166)] hq166 _
                                            have sq166 := gSs.tr sh94 xq166 (by decide)
                                            have s167 := (xq166.2.2.2.2.2 m 0 (by rw [tm]; decide)).trans lp92k0
                                            have s168 := (xq166.2.2.2.2.2 m 3 (by rw [tm]; decide)).trans lp92k1
                                            have s169 := (xq166.2.2.2.2.2 m 1 (by rw [tm]; decide)).trans lp92k2
                                            have s170 := (xq166.2.2.2.2.2 m 66 (by rw [tm]; decide)).trans lp92k3
                                            have s171 := (xq166.2.2.2.2.2 m 16 (by rw [tm]; decide)).trans lp92k6
                                            have s172 := (xq166.2.2.2.2.2 m 18 (by rw [tm]; decide)).trans lp92k7
                                            have s173 := (xq166.2.2.2.2.2 m 19 (by rw [tm]; decide)).trans lp92k8
                                            have s174 := (xq166.2.2.2.2.2 m 21 (by rw [tm]; decide)).trans lp92k9
                                            have s175 := (xq166.2.2.2.2.2 m 22 (by rw [tm]; decide)).trans lp92k10
                                            have s176 := (xq166.2.2.2.2.2 m 20 (by rw [tm]; decide)).trans lp92k11
                                            have pr177 := gPi.fr xq166.2 (by decide) lp92k12
                                            refine gz_s 3 (pc' := 237) (L' := [some (.ref m), some (.int (zi zq166)), none]) (S' := []) rfl ?_
                                            exact gz_wk (ihlp92 hq166 zq166 fq166_0 fq166_1 ipv wv hv wdv hgv bv (by omega) sq166 (by omega) (by omega) (by omega) (by omega) (by omega) (by omega) (by omega) (by omega) (by omega) (by omega) s167 s168 s169 s170 efq166_0 efq166_1 s171 s172 s173 s174 s175 s176 pr177) (gLw.s (gLw.s (gLw.n gLw.z)))
                                          · refine gy_icF rfl (by decide) (by decide) (by omega) (by omega) hc165 ?_
                                            refine gz_s 2 (pc' := 273) (L' := [some (.ref m), some (.int (zi mk)), none]) (S' := [.int (zi mk), .ref m]) rfl ?_
                                            refine gz_call rfl (by decide) rfl (by decide) (by decide) (gcal_of rfl rfl rfl (Nat.le_of_ble_eq_true rfl) (gJ.recv (G := gGG) sh94.1 tm rfl rfl)) (mm_segment _ sh94.1 m tm mk (by omega) fv lp92k4 (by omega) pv lp92k5 (by omega) z2 lp92k1 (by omega) ipv lp92k6 (by omega) wv lp92k7 (by omega) hv lp92k8 (by omega) wdv lp92k9 (by omega) hgv lp92k10 (by omega) bv lp92k11 (by omega) uq lp92k12) (fun q178 _ wq178 => ?_)
                                            obtain ⟨pq178, oq178, hq178⟩ := q178
                                            obtain ⟨xq178, fq178_0, fq178_1, fq178_2, fq178_3, fq178_4, fq178_5, fq178_6, fq178_7, gq178, efq178_0, afq178_0, bfq178_0, efq178_1, afq178_1, bfq178_1, efq178_2, afq178_2, bfq178_2, efq178_3, afq178_3, bfq178_3, efq178_4, afq178_4, bfq178_4, efq178_5, afq178_5, bfq178_5, efq178_6, afq178_6, bfq178_6, efq178_7, afq178_7, bfq178_7, uq178_0, yq178_0⟩ := wq178
                                            refine ⟨_, gq178, ?_⟩
                                            show gz gPP gGG gcn _ _ 276 [some (.ref m), some (.int (zi mk)), none] [] hq178 _
                                            have sq178 := gSs.tr sh94 xq178 (by decide)
                                            have s179 := (xq178.2.2.2.2.2 m 0 (by rw [tm]; decide)).trans lp92k0
                                            have s180 := (xq178.2.2.2.2.2 m 3 (by rw [tm]; decide)).trans lp92k1
                                            have s181 := (xq178.2.2.2.2.2 m 1 (by rw [tm]; decide)).trans lp92k2
                                            have s182 := (xq178.2.2.2.2.2 m 66 (by rw [tm]; decide)).trans lp92k3
                                            refine gz_s 1 (pc' := 277) (L' := [some (.ref m), some (.int (zi mk)), none]) (S' := [.ref m]) rfl ?_
                                            refine gs_gtk rfl (by decide) rfl sq178.1 tm rfl rfl efq178_0 ?_
                                            refine gz_s 1 (pc' := 281) (L' := [some (.ref m), some (.int (zi mk)), none]) (S' := [.int (zi (-1)), .int (zi fq178_0)]) rfl ?_
                                            by_cases hc183 : ¬ (fq178_0 : Int) = (-1)
                                            · refine gy_icT (pc' := 291) rfl (by decide) (by decide) (by omega) (by omega) hc183 ?_
                                              refine gz_s 3 (pc' := 237) (L' := [some (.ref m), some (.int (zi 0)), none]) (S' := []) rfl ?_
                                              exact gz_wk (ihlp92 hq178 0 fq178_0 fq178_1 fq178_2 fq178_3 fq178_4 fq178_5 fq178_6 fq178_7 (by omega) sq178 (by omega) (by omega) (by omega) (by omega) (by omega) (by omega) (by omega) (by omega) (by omega) (by omega) s179 s180 s181 s182 efq178_0 efq178_1 efq178_2 efq178_3 efq178_4 efq178_5 efq178_6 efq178_7 yq178_0) (gLw.s (gLw.s (gLw.n gLw.z)))
                                            · refine gy_icF rfl (by decide) (by decide) (by omega) (by omega) hc183 ?_
                                              refine gz_s 1 (pc' := 285) (L' := [some (.ref m), some (.int (zi mk)), none]) (S' := [.ref m]) rfl ?_
                                              refine gz_call rfl (by decide) rfl (by decide) (by decide) (gcal_of rfl rfl rfl (Nat.le_of_ble_eq_true rfl) (gJ.recv (G := gGG) sq178.1 tm rfl rfl)) (mm_marker _ sq178.1 m tm fq178_0 efq178_0 (by omega) z2 s180 (by omega) fq178_1 efq178_1 (by omega)) (fun q184 _ wq184 => ?_)
                                              obtain ⟨pq184, oq184, hq184⟩ := q184
                                              obtain ⟨xq184, zq184, fq184_0, fq184_1, gq184, aq184, bq184, efq184_0, afq184_0, bfq184_0, efq184_1, afq184_1, bfq184_1, uq184_0⟩ := wq184
                                              refine ⟨_, gq184, ?_⟩
                                              show gz gPP gGG gcn _ _ 288 [some (.ref m), some (.int (zi mk)), none] [.int (zi zq184)] hq184 _
                                              have sq184 := gSs.tr sq178 xq184 (by decide)
                                              have s185 := (xq184.2.2.2.2.2 m 0 (by rw [tm]; decide)).trans s179
                                              have s186 := (xq184.2.2.2.2.2 m 3 (by rw [tm]; decide)).trans s180
                                              have s187 := (xq184.2.2.2.2.2 m 1 (by rw [tm]; decide)).trans s181
                                              have s188 := (xq184.2.2.2.2.2 m 66 (by rw [tm]; decide)).trans s182
                                              have s189 := (xq184.2.2.2.2.2 m 16 (by rw [tm]; decide)).trans efq178_2
                                              have s190 := (xq184.2.2.2.2.2 m 18 (by rw [tm]; decide)).trans efq178_3
                                              have s191 := (xq184.2.2.2.2.2 m 19 (by rw [tm]; decide)).trans efq178_4
                                              have s192 := (xq184.2.2.2.2.2 m 21 (by rw [tm]; decide)).trans efq178_5
                                              have s193 := (xq184.2.2.2.2.2 m 22 (by rw [tm]; decide)).trans efq178_6
                                              have s194 := (xq184.2.2.2.2.2 m 20 (by rw [tm]; decide)).trans efq178_7
                                              have pr195 := gPi.fr xq184.2 (by decide) yq178_0
                                              refine gz_s 3 (pc' := 237) (L' := [some (.ref m), some (.int (zi zq184)), none]) (S' := []) rfl ?_
                                              exact gz_wk (ihlp92 hq184 zq184 fq184_0 fq184_1 fq178_2 fq178_3 fq178_4 fq178_5 fq178_6 fq178_7 (by omega) sq184 (by omega) (by omega) (by omega) (by omega) (by omega) (by omega) (by omega) (by omega) (by omega) (by omega) s185 s186 s187 s188 efq184_0 efq184_1 s189 s190 s191 s192 s193 s194 pr195) (gLw.s (gLw.s (gLw.n gLw.z)))
                              exact gz_wk (lp92 _ h77 0 fq64_0 2 0 z22 z23 z24 z25 z26 (Nat.lt_succ_self _) sh77 (by omega) (by omega) (by omega) (by omega) (by omega) (by omega) (by omega) (by omega) (by omega) (by omega) s79 s80 s81 s82 s90 eh77 s88 s83 s84 s85 s86 s87 hpi93) (gLw.s (gLw.s (gLw.n gLw.z)))
                            · refine gy_icF rfl (by decide) (by decide) (by omega) (by omega) hc91 ?_
                              refine gz_s 1 (pc' := 229) (L' := [some (.ref m), some (.int (zi ks)), none]) (S' := [.ref m]) rfl ?_
                              refine gz_call rfl (by decide) rfl (by decide) (by decide) (gcal_of rfl rfl rfl (Nat.le_of_ble_eq_true rfl) (gJ.recv (G := gGG) sh77.1 tm rfl rfl)) (mm_marker _ sh77.1 m tm fq64_0 s90 (by omega) z2 s80 (by omega) 2 eh77 (by omega)) (fun q196 _ wq196 => ?_)
                              obtain ⟨pq196, oq196, hq196⟩ := q196
                              obtain ⟨xq196, zq196, fq196_0, fq196_1, gq196, aq196, bq196, efq196_0, afq196_0, bfq196_0, efq196_1, afq196_1, bfq196_1, uq196_0⟩ := wq196
                              refine ⟨_, gq196, ?_⟩
                              show gz gPP gGG gcn _ _ 232 [some (.ref m), some (.int (zi ks)), none] [.int (zi zq196)] hq196 _
                              have sq196 := gSs.tr sh77 xq196 (by decide)
                              have s197 := (xq196.2.2.2.2.2 m 0 (by rw [tm]; decide)).trans s79
                              have s198 := (xq196.2.2.2.2.2 m 3 (by rw [tm]; decide)).trans s80
                              have s199 := (xq196.2.2.2.2.2 m 1 (by rw [tm]; decide)).trans s81
                              have s200 := (xq196.2.2.2.2.2 m 66 (by rw [tm]; decide)).trans s82
                              have s201 := (xq196.2.2.2.2.2 m 18 (by rw [tm]; decide)).trans s83
                              have s202 := (xq196.2.2.2.2.2 m 19 (by rw [tm]; decide)).trans s84
                              have s203 := (xq196.2.2.2.2.2 m 21 (by rw [tm]; decide)).trans s85
                              have s204 := (xq196.2.2.2.2.2 m 22 (by rw [tm]; decide)).trans s86
                              have s205 := (xq196.2.2.2.2.2 m 20 (by rw [tm]; decide)).trans s87
                              have s206 := (xq196.2.2.2.2.2 m 16 (by rw [tm]; decide)).trans s88
                              have s207 := (xq196.2.2.2.2.2 m 8 (by rw [tm]; decide)).trans s89
                              have pr208 := gCn.fr xq196.2 (by decide) pr78
                              refine gz_s 2 (pc' := 237) (L' := [some (.ref m), some (.int (zi zq196)), none]) (S' := []) rfl ?_
                              have hpi210 : gPi ty 0 z22 z23 z24 z25 z26 hq196 := fun e => absurd e (by omega)
                              have lp209 : ∀ (fu : Nat) (h211 : gH) (mk : Int) (fv : Int) (pv : Int) (ipv : Int) (wv : Int) (hv : Int) (wdv : Int) (hgv : Int) (bv : Int), (if fv = -1 then 5000 - pv else 0).toNat < fu → gSs rT 1027 ty [1000, 1001, 1003, 1005, 1006, 1007, 1008, 1016, 1017, 1018, 1019, 1020, 1021, 1022, 1023, 1024, 1039, 1041, 1042, 1043, 1044, 1045, 1046, 1047, 1048, 3999, 4999, 5999, 6999, 7999, 9999, 11999, 12999, 13999, 14999, 15999, 16999, 17999, 18999, 19999, 20999, 21999, 22999, 23999, 24999, 25999, 35999] h h211 → (0 ≤ mk ∧ mk ≤ 255) → ((-1) ≤ fv ∧ fv ≤ 4000) → (0 ≤ pv ∧ pv ≤ 4000) → (0 ≤ ipv ∧ ipv ≤ 1) → (0 ≤ wv ∧ wv ≤ 64) → (0 ≤ hv ∧ hv ≤ 64) → (0 ≤ wdv ∧ wdv ≤ 2) → (0 ≤ hgv ∧ hgv ≤ 2) → (0 ≤ bv ∧ bv ≤ 3) → (fv = -1 → (2 ≤ pv ∧ pv ≤ z2)) → h211.2.2.2.2 m 0 = .int (zi 0) → h211.2.2.2.2 m 3 = .int (zi z2) → h211.2.2.2.2 m 1 = .int (zi 0) → h211.2.2.2.2 m 66 = .ref c15 → h211.2.2.2.2 m 7 = .int (zi fv) → h211.2.2.2.2 m 5 = .int (zi pv) → h211.2.2.2.2 m 16 = .int (zi ipv) → h211.2.2.2.2 m 18 = .int (zi wv) → h211.2.2.2.2 m 19 = .int (zi hv) → h211.2.2.2.2 m 21 = .int (zi wdv) → h211.2.2.2.2 m 22 = .int (zi hgv) → h211.2.2.2.2 m 20 = .int (zi bv) → gPi ty ipv wv hv wdv hgv bv h211 → gz gPP gGG gcn (d + 10) gt132 237 [some (.ref m), some (.int (zi mk)), none] [] h211 (fun q _ => gSs rT 1027 ty [1000, 1001, 1003, 1005, 1006, 1007, 1008, 1016, 1017, 1018, 1019, 1020, 1021, 1022, 1023, 1024, 1039, 1041, 1042, 1043, 1044, 1045, 1046, 1047, 1048, 3999, 4999, 5999, 6999, 7999, 9999, 11999, 12999, 13999, 14999, 15999, 16999, 17999, 18999, 19999, 20999, 21999, 22999, 23999, 24999, 25999, 35999] h q.2.2 ∧ ∃ z ip1 w1 hh1 wd1 hg1 bs1 : Int, gfin gt132 q.1 q.2.1 = some (some (.int (zi z))) ∧ (-4001) ≤ z ∧ z ≤ 64 ∧ q.2.2.2.2.2.2 m 16 = .int (zi ip1) ∧ 0 ≤ ip1 ∧ ip1 ≤ 1 ∧ q.2.2.2.2.2.2 m 18 = .int (zi w1) ∧ 0 ≤ w1 ∧ w1 ≤ 64 ∧ q.2.2.2.2.2.2 m 19 = .int (zi hh1) ∧ 0 ≤ hh1 ∧ hh1 ≤ 64 ∧ q.2.2.2.2.2.2 m 21 = .int (zi wd1) ∧ 0 ≤ wd1 ∧ wd1 ≤ 2 ∧ q.2.2.2.2.2.2 m 22 = .int (zi hg1) ∧ 0 ≤ hg1 ∧ hg1 ≤ 2 ∧ q.2.2.2.2.2.2 m 20 = .int (zi bs1) ∧ 0 ≤ bs1 ∧ bs1 ≤ 3 ∧ (gPi ty ip1 w1 hh1 wd1 hg1 bs1 q.2.2)) := by
                                intro fu
                                induction fu with
                                | zero => intro h211 mk fv pv ipv wv hv wdv hgv bv hm; exact absurd hm (Nat.not_lt_zero _)
                                | succ fu ihlp209 =>
                                  intro h211 mk fv pv ipv wv hv wdv hgv bv lp209m sh211 lp209f0 lp209f1 lp209f2 lp209f3 lp209f4 lp209f5 lp209f6 lp209f7 lp209f8 lp209f9 lp209k0 lp209k1 lp209k2 lp209k3 lp209k4 lp209k5 lp209k6 lp209k7 lp209k8 lp209k9 lp209k10 lp209k11 lp209k12
                                  refine gz_s 1 (pc' := 238) (L' := [some (.ref m), some (.int (zi mk)), none]) (S' := [.ref m]) rfl ?_
                                  refine gs_gtk rfl (by decide) rfl sh211.1 tm rfl rfl lp209k4 ?_
                                  refine gz_s 1 (pc' := 242) (L' := [some (.ref m), some (.int (zi mk)), none]) (S' := [.int (zi (-1)), .int (zi fv)]) rfl ?_
                                  by_cases hc212 : ¬ (fv : Int) = (-1)
                                  · refine gy_icT (pc' := 296) rfl (by decide) (by decide) (by omega) (by omega) hc212 ?_
                                    refine gz_s 2 (pc' := 298) (L' := [some (.ref m), some (.int (zi mk)), none]) (S' := [.ref m, .ref m]) rfl ?_
                                    refine gs_gtk rfl (by decide) rfl sh211.1 tm rfl rfl lp209k6 ?_
                                    have jn213 : ((((ipv : Int) = 0)) ∨ ((¬ ((ipv : Int) = 0)))) → gz gPP gGG gcn (d + 10) gt132 317 [some (.ref m), some (.int (zi mk)), none] [.int (zi 0), .ref m] h211 (fun q _ => gSs rT 1027 ty [1000, 1001, 1003, 1005, 1006, 1007, 1008, 1016, 1017, 1018, 1019, 1020, 1021, 1022, 1023, 1024, 1039, 1041, 1042, 1043, 1044, 1045, 1046, 1047, 1048, 3999, 4999, 5999, 6999, 7999, 9999, 11999, 12999, 13999, 14999, 15999, 16999, 17999, 18999, 19999, 20999, 21999, 22999, 23999, 24999, 25999, 35999] h q.2.2 ∧ ∃ z ip1 w1 hh1 wd1 hg1 bs1 : Int, gfin gt132 q.1 q.2.1 = some (some (.int (zi z))) ∧ (-4001) ≤ z ∧ z ≤ 64 ∧ q.2.2.2.2.2.2 m 16 = .int (zi ip1) ∧ 0 ≤ ip1 ∧ ip1 ≤ 1 ∧ q.2.2.2.2.2.2 m 18 = .int (zi w1) ∧ 0 ≤ w1 ∧ w1 ≤ 64 ∧ q.2.2.2.2.2.2 m 19 = .int (zi hh1) ∧ 0 ≤ hh1 ∧ hh1 ≤ 64 ∧ q.2.2.2.2.2.2 m 21 = .int (zi wd1) ∧ 0 ≤ wd1 ∧ wd1 ≤ 2 ∧ q.2.2.2.2.2.2 m 22 = .int (zi hg1) ∧ 0 ≤ hg1 ∧ hg1 ≤ 2 ∧ q.2.2.2.2.2.2 m 20 = .int (zi bs1) ∧ 0 ≤ bs1 ∧ bs1 ≤ 3 ∧ (gPi ty ip1 w1 hh1 wd1 hg1 bs1 q.2.2)) := by
                                      intro  jn213d
                                      refine gs_put rfl (by decide) rfl sh211 tm rfl rfl rfl rfl (Or.inl rfl) (by decide) (by omega) (by omega) (fun h214 sh214 eh214 fh214 => ?_)
                                      have pr215 := gPi.pt fh214 tm (by decide) lp209k12
                                      have s216 := (fh214 m 0 (fun q => absurd q.2 (by decide))).trans lp209k0
                                      have s217 := (fh214 m 3 (fun q => absurd q.2 (by decide))).trans lp209k1
                                      have s218 := (fh214 m 1 (fun q => absurd q.2 (by decide))).trans lp209k2
                                      have s219 := (fh214 m 66 (fun q => absurd q.2 (by decide))).trans lp209k3
                                      have s220 := (fh214 m 7 (fun q => absurd q.2 (by decide))).trans lp209k4
                                      have s221 := (fh214 m 5 (fun q => absurd q.2 (by decide))).trans lp209k5
                                      have s222 := (fh214 m 18 (fun q => absurd q.2 (by decide))).trans lp209k7
                                      have s223 := (fh214 m 19 (fun q => absurd q.2 (by decide))).trans lp209k8
                                      have s224 := (fh214 m 21 (fun q => absurd q.2 (by decide))).trans lp209k9
                                      have s225 := (fh214 m 22 (fun q => absurd q.2 (by decide))).trans lp209k10
                                      have s226 := (fh214 m 20 (fun q => absurd q.2 (by decide))).trans lp209k11
                                      have hpi227 : gPi ty 0 wv hv wdv hgv bv h214 := fun e => pr215 (by omega)
                                      refine gz_s 1 (pc' := 321) (L' := [some (.ref m), some (.int (zi mk)), none]) (S' := [.ref m]) rfl ?_
                                      refine gs_gtk rfl (by decide) rfl sh214.1 tm rfl rfl s220 ?_
                                      refine gz_s 1 (pc' := 325) (L' := [some (.ref m), some (.int (zi mk)), none]) (S' := [.int (zi (-1)), .int (zi fv)]) rfl ?_
                                      refine gy_icF rfl (by decide) (by decide) (by omega) (by omega) (by first | (simp [zc]; done) | (simp only [zc]; omega)) ?_
                                      refine gz_s 2 (pc' := 330) (L' := [some (.ref m), some (.int (zi mk)), none]) (S' := [.ref m, .int (zi (-1))]) rfl ?_
                                      refine gs_gtk rfl (by decide) rfl sh214.1 tm rfl rfl s220 ?_
                                      refine gy_s 2 (pc' := 352) (L' := [some (.ref m), some (.int (zi mk)), none]) (S' := [.int ((zi (-1)) - (zi fv))]) (L2 := [some (.ref m), some (.int (zi mk)), none]) (S2 := [.int (zi ((-1) - fv))]) rfl (by simp only [zi_add, zi_sub, zi_mul, zi_neg, zi_and1, zi_and7, zi_and15, zi_and31, zi_and255]) (by simp only [zi_add, zi_sub, zi_mul, zi_neg, zi_and1, zi_and7, zi_and15, zi_and31, zi_and255]) ?_
                                      have hpi228 : gPi ty 0 wv hv wdv hgv bv h214 := fun e => absurd e (by omega)
                                      exact gz_end (I := .ireturn) (len := 1) rfl (Or.inl rfl) ⟨sh214, (-1) - fv, 0, wv, hv, wdv, hgv, bv, rfl, (by omega), (by omega), eh214, (by omega), (by omega), s222, (by omega), (by omega), s223, (by omega), (by omega), s224, (by omega), (by omega), s225, (by omega), (by omega), s226, (by omega), (by omega), hpi228⟩
                                    by_cases hc229 : (ipv : Int) = 0
                                    · refine gy_ifT (pc' := 316) rfl (by decide) (by decide) (by omega) hc229 ?_
                                      refine gz_s 1 (pc' := 317) (L' := [some (.ref m), some (.int (zi mk)), none]) (S' := [.int (zi 0), .ref m]) rfl ?_
                                      exact jn213  (by omega)
                                    · refine gy_ifF rfl (by decide) (by decide) (by omega) hc229 ?_
                                      refine gz_s 1 (pc' := 305) (L' := [some (.ref m), some (.int (zi mk)), none]) (S' := [.ref m, .ref m]) rfl ?_
                                      refine gs_gtk rfl (by decide) rfl sh211.1 tm rfl rfl lp209k4 ?_
                                      refine gz_s 1 (pc' := 309) (L' := [some (.ref m), some (.int (zi mk)), none]) (S' := [.int (zi (-1)), .int (zi fv), .ref m]) rfl ?_
                                      refine gy_icT (pc' := 316) rfl (by decide) (by decide) (by omega) (by omega) (by first | (simp [zc]; done) | (simp only [zc]; omega)) ?_
                                      refine gz_s 1 (pc' := 317) (L' := [some (.ref m), some (.int (zi mk)), none]) (S' := [.int (zi 0), .ref m]) rfl ?_
                                      exact jn213  (by omega)
                                  · refine gy_icF rfl (by decide) (by decide) (by omega) (by omega) hc212 ?_
                                    refine gz_s 2 (pc' := 249) (L' := [some (.ref m), some (.int (zi mk)), none]) (S' := [.int (zi 217), .int (zi mk)]) rfl ?_
                                    by_cases hc230 : (mk : Int) = 217
                                    · refine gy_icT (pc' := 296) rfl (by decide) (by decide) (by omega) (by omega) hc230 ?_
                                      refine gz_s 2 (pc' := 298) (L' := [some (.ref m), some (.int (zi mk)), none]) (S' := [.ref m, .ref m]) rfl ?_
                                      refine gs_gtk rfl (by decide) rfl sh211.1 tm rfl rfl lp209k6 ?_
                                      have jn231 : ∀ (jn231v0 : Int), ((0 ≤ jn231v0) ∧ (jn231v0 ≤ 1) ∧ (jn231v0 = 1 → ipv = 1)) → gz gPP gGG gcn (d + 10) gt132 317 [some (.ref m), some (.int (zi mk)), none] [.int (zi jn231v0), .ref m] h211 (fun q _ => gSs rT 1027 ty [1000, 1001, 1003, 1005, 1006, 1007, 1008, 1016, 1017, 1018, 1019, 1020, 1021, 1022, 1023, 1024, 1039, 1041, 1042, 1043, 1044, 1045, 1046, 1047, 1048, 3999, 4999, 5999, 6999, 7999, 9999, 11999, 12999, 13999, 14999, 15999, 16999, 17999, 18999, 19999, 20999, 21999, 22999, 23999, 24999, 25999, 35999] h q.2.2 ∧ ∃ z ip1 w1 hh1 wd1 hg1 bs1 : Int, gfin gt132 q.1 q.2.1 = some (some (.int (zi z))) ∧ (-4001) ≤ z ∧ z ≤ 64 ∧ q.2.2.2.2.2.2 m 16 = .int (zi ip1) ∧ 0 ≤ ip1 ∧ ip1 ≤ 1 ∧ q.2.2.2.2.2.2 m 18 = .int (zi w1) ∧ 0 ≤ w1 ∧ w1 ≤ 64 ∧ q.2.2.2.2.2.2 m 19 = .int (zi hh1) ∧ 0 ≤ hh1 ∧ hh1 ≤ 64 ∧ q.2.2.2.2.2.2 m 21 = .int (zi wd1) ∧ 0 ≤ wd1 ∧ wd1 ≤ 2 ∧ q.2.2.2.2.2.2 m 22 = .int (zi hg1) ∧ 0 ≤ hg1 ∧ hg1 ≤ 2 ∧ q.2.2.2.2.2.2 m 20 = .int (zi bs1) ∧ 0 ≤ bs1 ∧ bs1 ≤ 3 ∧ (gPi ty ip1 w1 hh1 wd1 hg1 bs1 q.2.2)) := by
                                        intro jn231v0 jn231d
                                        refine gs_put rfl (by decide) rfl sh211 tm rfl rfl rfl (gfit_z (by omega)) (Or.inl rfl) (by decide) (by omega) (by omega) (fun h232 sh232 eh232 fh232 => ?_)
                                        have pr233 := gPi.pt fh232 tm (by decide) lp209k12
                                        have s234 := (fh232 m 0 (fun q => absurd q.2 (by decide))).trans lp209k0
                                        have s235 := (fh232 m 3 (fun q => absurd q.2 (by decide))).trans lp209k1
                                        have s236 := (fh232 m 1 (fun q => absurd q.2 (by decide))).trans lp209k2
                                        have s237 := (fh232 m 66 (fun q => absurd q.2 (by decide))).trans lp209k3
                                        have s238 := (fh232 m 7 (fun q => absurd q.2 (by decide))).trans lp209k4
                                        have s239 := (fh232 m 5 (fun q => absurd q.2 (by decide))).trans lp209k5
                                        have s240 := (fh232 m 18 (fun q => absurd q.2 (by decide))).trans lp209k7
                                        have s241 := (fh232 m 19 (fun q => absurd q.2 (by decide))).trans lp209k8
                                        have s242 := (fh232 m 21 (fun q => absurd q.2 (by decide))).trans lp209k9
                                        have s243 := (fh232 m 22 (fun q => absurd q.2 (by decide))).trans lp209k10
                                        have s244 := (fh232 m 20 (fun q => absurd q.2 (by decide))).trans lp209k11
                                        have hpi245 : gPi ty jn231v0 wv hv wdv hgv bv h232 := fun e => pr233 (by omega)
                                        refine gz_s 1 (pc' := 321) (L' := [some (.ref m), some (.int (zi mk)), none]) (S' := [.ref m]) rfl ?_
                                        refine gs_gtk rfl (by decide) rfl sh232.1 tm rfl rfl s238 ?_
                                        refine gz_s 1 (pc' := 325) (L' := [some (.ref m), some (.int (zi mk)), none]) (S' := [.int (zi (-1)), .int (zi fv)]) rfl ?_
                                        refine gy_icT (pc' := 337) rfl (by decide) (by decide) (by omega) (by omega) (by first | (simp [zc]; done) | (simp only [zc]; omega)) ?_
                                        refine gz_s 1 (pc' := 338) (L' := [some (.ref m), some (.int (zi mk)), none]) (S' := [.ref m]) rfl ?_
                                        refine gs_gtk rfl (by decide) rfl sh232.1 tm rfl rfl eh232 ?_
                                        by_cases hc246 : (jn231v0 : Int) = 0
                                        · refine gy_ifT (pc' := 351) rfl (by decide) (by decide) (by omega) hc246 ?_
                                          refine gz_s 1 (pc' := 352) (L' := [some (.ref m), some (.int (zi mk)), none]) (S' := [.int (zi 0)]) rfl ?_
                                          have hpi247 : gPi ty jn231v0 wv hv wdv hgv bv h232 := fun e => absurd e (by omega)
                                          exact gz_end (I := .ireturn) (len := 1) rfl (Or.inl rfl) ⟨sh232, 0, jn231v0, wv, hv, wdv, hgv, bv, rfl, (by omega), (by omega), eh232, (by omega), (by omega), s240, (by omega), (by omega), s241, (by omega), (by omega), s242, (by omega), (by omega), s243, (by omega), (by omega), s244, (by omega), (by omega), hpi247⟩
                                        · refine gy_ifF rfl (by decide) (by decide) (by omega) hc246 ?_
                                          refine gz_s 1 (pc' := 345) (L' := [some (.ref m), some (.int (zi mk)), none]) (S' := [.ref m]) rfl ?_
                                          refine gs_gtk rfl (by decide) rfl sh232.1 tm rfl rfl s241 ?_
                                          refine gz_s 1 (pc' := 352) (L' := [some (.ref m), some (.int (zi mk)), none]) (S' := [.int (zi hv)]) rfl ?_
                                          have hpi248 : gPi ty jn231v0 wv hv wdv hgv bv h232 := hpi245
                                          exact gz_end (I := .ireturn) (len := 1) rfl (Or.inl rfl) ⟨sh232, hv, jn231v0, wv, hv, wdv, hgv, bv, rfl, (by omega), (by omega), eh232, (by omega), (by omega), s240, (by omega), (by omega), s241, (by omega), (by omega), s242, (by omega), (by omega), s243, (by omega), (by omega), s244, (by omega), (by omega), hpi248⟩
                                      by_cases hc249 : (ipv : Int) = 0
                                      · refine gy_ifT (pc' := 316) rfl (by decide) (by decide) (by omega) hc249 ?_
                                        refine gz_s 1 (pc' := 317) (L' := [some (.ref m), some (.int (zi mk)), none]) (S' := [.int (zi 0), .ref m]) rfl ?_
                                        exact jn231 0 (by omega)
                                      · refine gy_ifF rfl (by decide) (by decide) (by omega) hc249 ?_
                                        refine gz_s 1 (pc' := 305) (L' := [some (.ref m), some (.int (zi mk)), none]) (S' := [.ref m, .ref m]) rfl ?_
                                        refine gs_gtk rfl (by decide) rfl sh211.1 tm rfl rfl lp209k4 ?_
                                        refine gz_s 1 (pc' := 309) (L' := [some (.ref m), some (.int (zi mk)), none]) (S' := [.int (zi (-1)), .int (zi fv), .ref m]) rfl ?_
                                        refine gy_icF rfl (by decide) (by decide) (by omega) (by omega) (by first | (simp [zc]; done) | (simp only [zc]; omega)) ?_
                                        refine gz_s 2 (pc' := 317) (L' := [some (.ref m), some (.int (zi mk)), none]) (S' := [.int (zi 1), .ref m]) rfl ?_
                                        exact jn231 1 (by omega)
                                    · refine gy_icF rfl (by decide) (by decide) (by omega) (by omega) hc230 ?_
                                      refine gz_s 2 (pc' := 254) (L' := [some (.ref m), some (.int (zi mk)), none]) (S' := [.int (zi 1), .int (zi mk)]) rfl ?_
                                      by_cases hc250 : (mk : Int) = 1
                                      · refine gy_icT (pc' := 276) rfl (by decide) (by decide) (by omega) (by omega) hc250 ?_
                                        refine gz_s 1 (pc' := 277) (L' := [some (.ref m), some (.int (zi mk)), none]) (S' := [.ref m]) rfl ?_
                                        refine gs_gtk rfl (by decide) rfl sh211.1 tm rfl rfl lp209k4 ?_
                                        refine gz_s 1 (pc' := 281) (L' := [some (.ref m), some (.int (zi mk)), none]) (S' := [.int (zi (-1)), .int (zi fv)]) rfl ?_
                                        refine gy_icF rfl (by decide) (by decide) (by omega) (by omega) (by first | (simp [zc]; done) | (simp only [zc]; omega)) ?_
                                        refine gz_s 1 (pc' := 285) (L' := [some (.ref m), some (.int (zi mk)), none]) (S' := [.ref m]) rfl ?_
                                        refine gz_call rfl (by decide) rfl (by decide) (by decide) (gcal_of rfl rfl rfl (Nat.le_of_ble_eq_true rfl) (gJ.recv (G := gGG) sh211.1 tm rfl rfl)) (mm_marker _ sh211.1 m tm fv lp209k4 (by omega) z2 lp209k1 (by omega) pv lp209k5 (by omega)) (fun q251 _ wq251 => ?_)
                                        obtain ⟨pq251, oq251, hq251⟩ := q251
                                        obtain ⟨xq251, zq251, fq251_0, fq251_1, gq251, aq251, bq251, efq251_0, afq251_0, bfq251_0, efq251_1, afq251_1, bfq251_1, uq251_0⟩ := wq251
                                        refine ⟨_, gq251, ?_⟩
                                        show gz gPP gGG gcn _ _ 288 [some (.ref m), some (.int (zi mk)), none] [.int (zi zq251)] hq251 _
                                        have sq251 := gSs.tr sh211 xq251 (by decide)
                                        have s252 := (xq251.2.2.2.2.2 m 0 (by rw [tm]; decide)).trans lp209k0
                                        have s253 := (xq251.2.2.2.2.2 m 3 (by rw [tm]; decide)).trans lp209k1
                                        have s254 := (xq251.2.2.2.2.2 m 1 (by rw [tm]; decide)).trans lp209k2
                                        have s255 := (xq251.2.2.2.2.2 m 66 (by rw [tm]; decide)).trans lp209k3
                                        have s256 := (xq251.2.2.2.2.2 m 16 (by rw [tm]; decide)).trans lp209k6
                                        have s257 := (xq251.2.2.2.2.2 m 18 (by rw [tm]; decide)).trans lp209k7
                                        have s258 := (xq251.2.2.2.2.2 m 19 (by rw [tm]; decide)).trans lp209k8
                                        have s259 := (xq251.2.2.2.2.2 m 21 (by rw [tm]; decide)).trans lp209k9
                                        have s260 := (xq251.2.2.2.2.2 m 22 (by rw [tm]; decide)).trans lp209k10
                                        have s261 := (xq251.2.2.2.2.2 m 20 (by rw [tm]; decide)).trans lp209k11
                                        have pr262 := gPi.fr xq251.2 (by decide) lp209k12
                                        refine gz_s 3 (pc' := 237) (L' := [some (.ref m), some (.int (zi zq251)), none]) (S' := []) rfl ?_
                                        exact gz_wk (ihlp209 hq251 zq251 fq251_0 fq251_1 ipv wv hv wdv hgv bv (by omega) sq251 (by omega) (by omega) (by omega) (by omega) (by omega) (by omega) (by omega) (by omega) (by omega) (by omega) s252 s253 s254 s255 efq251_0 efq251_1 s256 s257 s258 s259 s260 s261 pr262) (gLw.s (gLw.s (gLw.n gLw.z)))
                                      · refine gy_icF rfl (by decide) (by decide) (by omega) (by omega) hc250 ?_
                                        refine gz_s 2 (pc' := 261) (L' := [some (.ref m), some (.int (zi mk)), none]) (S' := [.int (zi 208), .int (zi mk)]) rfl ?_
                                        by_cases hc263 : (mk : Int) < 208
                                        · refine gy_icT (pc' := 271) rfl (by decide) (by decide) (by omega) (by omega) hc263 ?_
                                          refine gz_s 2 (pc' := 273) (L' := [some (.ref m), some (.int (zi mk)), none]) (S' := [.int (zi mk), .ref m]) rfl ?_
                                          refine gz_call rfl (by decide) rfl (by decide) (by decide) (gcal_of rfl rfl rfl (Nat.le_of_ble_eq_true rfl) (gJ.recv (G := gGG) sh211.1 tm rfl rfl)) (mm_segment _ sh211.1 m tm mk (by omega) fv lp209k4 (by omega) pv lp209k5 (by omega) z2 lp209k1 (by omega) ipv lp209k6 (by omega) wv lp209k7 (by omega) hv lp209k8 (by omega) wdv lp209k9 (by omega) hgv lp209k10 (by omega) bv lp209k11 (by omega) uq lp209k12) (fun q264 _ wq264 => ?_)
                                          obtain ⟨pq264, oq264, hq264⟩ := q264
                                          obtain ⟨xq264, fq264_0, fq264_1, fq264_2, fq264_3, fq264_4, fq264_5, fq264_6, fq264_7, gq264, efq264_0, afq264_0, bfq264_0, efq264_1, afq264_1, bfq264_1, efq264_2, afq264_2, bfq264_2, efq264_3, afq264_3, bfq264_3, efq264_4, afq264_4, bfq264_4, efq264_5, afq264_5, bfq264_5, efq264_6, afq264_6, bfq264_6, efq264_7, afq264_7, bfq264_7, uq264_0, yq264_0⟩ := wq264
                                          refine ⟨_, gq264, ?_⟩
                                          show gz gPP gGG gcn _ _ 276 [some (.ref m), some (.int (zi mk)), none] [] hq264 _
                                          have sq264 := gSs.tr sh211 xq264 (by decide)
                                          have s265 := (xq264.2.2.2.2.2 m 0 (by rw [tm]; decide)).trans lp209k0
                                          have s266 := (xq264.2.2.2.2.2 m 3 (by rw [tm]; decide)).trans lp209k1
                                          have s267 := (xq264.2.2.2.2.2 m 1 (by rw [tm]; decide)).trans lp209k2
                                          have s268 := (xq264.2.2.2.2.2 m 66 (by rw [tm]; decide)).trans lp209k3
                                          refine gz_s 1 (pc' := 277) (L' := [some (.ref m), some (.int (zi mk)), none]) (S' := [.ref m]) rfl ?_
                                          refine gs_gtk rfl (by decide) rfl sq264.1 tm rfl rfl efq264_0 ?_
                                          refine gz_s 1 (pc' := 281) (L' := [some (.ref m), some (.int (zi mk)), none]) (S' := [.int (zi (-1)), .int (zi fq264_0)]) rfl ?_
                                          by_cases hc269 : ¬ (fq264_0 : Int) = (-1)
                                          · refine gy_icT (pc' := 291) rfl (by decide) (by decide) (by omega) (by omega) hc269 ?_
                                            refine gz_s 3 (pc' := 237) (L' := [some (.ref m), some (.int (zi 0)), none]) (S' := []) rfl ?_
                                            exact gz_wk (ihlp209 hq264 0 fq264_0 fq264_1 fq264_2 fq264_3 fq264_4 fq264_5 fq264_6 fq264_7 (by omega) sq264 (by omega) (by omega) (by omega) (by omega) (by omega) (by omega) (by omega) (by omega) (by omega) (by omega) s265 s266 s267 s268 efq264_0 efq264_1 efq264_2 efq264_3 efq264_4 efq264_5 efq264_6 efq264_7 yq264_0) (gLw.s (gLw.s (gLw.n gLw.z)))
                                          · refine gy_icF rfl (by decide) (by decide) (by omega) (by omega) hc269 ?_
                                            refine gz_s 1 (pc' := 285) (L' := [some (.ref m), some (.int (zi mk)), none]) (S' := [.ref m]) rfl ?_
                                            refine gz_call rfl (by decide) rfl (by decide) (by decide) (gcal_of rfl rfl rfl (Nat.le_of_ble_eq_true rfl) (gJ.recv (G := gGG) sq264.1 tm rfl rfl)) (mm_marker _ sq264.1 m tm fq264_0 efq264_0 (by omega) z2 s266 (by omega) fq264_1 efq264_1 (by omega)) (fun q270 _ wq270 => ?_)
                                            obtain ⟨pq270, oq270, hq270⟩ := q270
                                            obtain ⟨xq270, zq270, fq270_0, fq270_1, gq270, aq270, bq270, efq270_0, afq270_0, bfq270_0, efq270_1, afq270_1, bfq270_1, uq270_0⟩ := wq270
                                            refine ⟨_, gq270, ?_⟩
                                            show gz gPP gGG gcn _ _ 288 [some (.ref m), some (.int (zi mk)), none] [.int (zi zq270)] hq270 _
                                            have sq270 := gSs.tr sq264 xq270 (by decide)
                                            have s271 := (xq270.2.2.2.2.2 m 0 (by rw [tm]; decide)).trans s265
                                            have s272 := (xq270.2.2.2.2.2 m 3 (by rw [tm]; decide)).trans s266
                                            have s273 := (xq270.2.2.2.2.2 m 1 (by rw [tm]; decide)).trans s267
                                            have s274 := (xq270.2.2.2.2.2 m 66 (by rw [tm]; decide)).trans s268
                                            have s275 := (xq270.2.2.2.2.2 m 16 (by rw [tm]; decide)).trans efq264_2
                                            have s276 := (xq270.2.2.2.2.2 m 18 (by rw [tm]; decide)).trans efq264_3
                                            have s277 := (xq270.2.2.2.2.2 m 19 (by rw [tm]; decide)).trans efq264_4
                                            have s278 := (xq270.2.2.2.2.2 m 21 (by rw [tm]; decide)).trans efq264_5
                                            have s279 := (xq270.2.2.2.2.2 m 22 (by rw [tm]; decide)).trans efq264_6
                                            have s280 := (xq270.2.2.2.2.2 m 20 (by rw [tm]; decide)).trans efq264_7
                                            have pr281 := gPi.fr xq270.2 (by decide) yq264_0
                                            refine gz_s 3 (pc' := 237) (L' := [some (.ref m), some (.int (zi zq270)), none]) (S' := []) rfl ?_
                                            exact gz_wk (ihlp209 hq270 zq270 fq270_0 fq270_1 fq264_2 fq264_3 fq264_4 fq264_5 fq264_6 fq264_7 (by omega) sq270 (by omega) (by omega) (by omega) (by omega) (by omega) (by omega) (by omega) (by omega) (by omega) (by omega) s271 s272 s273 s274 efq270_0 efq270_1 s275 s276 s277 s278 s279 s280 pr281) (gLw.s (gLw.s (gLw.n gLw.z)))
                                        · refine gy_icF rfl (by decide) (by decide) (by omega) (by omega) hc263 ?_
                                          refine gz_s 2 (pc' := 268) (L' := [some (.ref m), some (.int (zi mk)), none]) (S' := [.int (zi 215), .int (zi mk)]) rfl ?_
                                          by_cases hc282 : (mk : Int) ≤ 215
                                          · refine gy_icT (pc' := 276) rfl (by decide) (by decide) (by omega) (by omega) hc282 ?_
                                            refine gz_s 1 (pc' := 277) (L' := [some (.ref m), some (.int (zi mk)), none]) (S' := [.ref m]) rfl ?_
                                            refine gs_gtk rfl (by decide) rfl sh211.1 tm rfl rfl lp209k4 ?_
                                            refine gz_s 1 (pc' := 281) (L' := [some (.ref m), some (.int (zi mk)), none]) (S' := [.int (zi (-1)), .int (zi fv)]) rfl ?_
                                            refine gy_icF rfl (by decide) (by decide) (by omega) (by omega) (by first | (simp [zc]; done) | (simp only [zc]; omega)) ?_
                                            refine gz_s 1 (pc' := 285) (L' := [some (.ref m), some (.int (zi mk)), none]) (S' := [.ref m]) rfl ?_
                                            refine gz_call rfl (by decide) rfl (by decide) (by decide) (gcal_of rfl rfl rfl (Nat.le_of_ble_eq_true rfl) (gJ.recv (G := gGG) sh211.1 tm rfl rfl)) (mm_marker _ sh211.1 m tm fv lp209k4 (by omega) z2 lp209k1 (by omega) pv lp209k5 (by omega)) (fun q283 _ wq283 => ?_)
                                            obtain ⟨pq283, oq283, hq283⟩ := q283
                                            obtain ⟨xq283, zq283, fq283_0, fq283_1, gq283, aq283, bq283, efq283_0, afq283_0, bfq283_0, efq283_1, afq283_1, bfq283_1, uq283_0⟩ := wq283
                                            refine ⟨_, gq283, ?_⟩
                                            show gz gPP gGG gcn _ _ 288 [some (.ref m), some (.int (zi mk)), none] [.int (zi zq283)] hq283 _
                                            have sq283 := gSs.tr sh211 xq283 (by decide)
                                            have s284 := (xq283.2.2.2.2.2 m 0 (by rw [tm]; decide)).trans lp209k0
                                            have s285 := (xq283.2.2.2.2.2 m 3 (by rw [tm]; decide)).trans lp209k1
                                            have s286 := (xq283.2.2.2.2.2 m 1 (by rw [tm]; decide)).trans lp209k2
                                            have s287 := (xq283.2.2.2.2.2 m 66 (by rw [tm]; decide)).trans lp209k3
                                            have s288 := (xq283.2.2.2.2.2 m 16 (by rw [tm]; decide)).trans lp209k6
                                            have s289 := (xq283.2.2.2.2.2 m 18 (by rw [tm]; decide)).trans lp209k7
                                            have s290 := (xq283.2.2.2.2.2 m 19 (by rw [tm]; decide)).trans lp209k8
                                            have s291 := (xq283.2.2.2.2.2 m 21 (by rw [tm]; decide)).trans lp209k9
                                            have s292 := (xq283.2.2.2.2.2 m 22 (by rw [tm]; decide)).trans lp209k10
                                            have s293 := (xq283.2.2.2.2.2 m 20 (by rw [tm]; decide)).trans lp209k11
                                            have pr294 := gPi.fr xq283.2 (by decide) lp209k12
                                            refine gz_s 3 (pc' := 237) (L' := [some (.ref m), some (.int (zi zq283)), none]) (S' := []) rfl ?_
                                            exact gz_wk (ihlp209 hq283 zq283 fq283_0 fq283_1 ipv wv hv wdv hgv bv (by omega) sq283 (by omega) (by omega) (by omega) (by omega) (by omega) (by omega) (by omega) (by omega) (by omega) (by omega) s284 s285 s286 s287 efq283_0 efq283_1 s288 s289 s290 s291 s292 s293 pr294) (gLw.s (gLw.s (gLw.n gLw.z)))
                                          · refine gy_icF rfl (by decide) (by decide) (by omega) (by omega) hc282 ?_
                                            refine gz_s 2 (pc' := 273) (L' := [some (.ref m), some (.int (zi mk)), none]) (S' := [.int (zi mk), .ref m]) rfl ?_
                                            refine gz_call rfl (by decide) rfl (by decide) (by decide) (gcal_of rfl rfl rfl (Nat.le_of_ble_eq_true rfl) (gJ.recv (G := gGG) sh211.1 tm rfl rfl)) (mm_segment _ sh211.1 m tm mk (by omega) fv lp209k4 (by omega) pv lp209k5 (by omega) z2 lp209k1 (by omega) ipv lp209k6 (by omega) wv lp209k7 (by omega) hv lp209k8 (by omega) wdv lp209k9 (by omega) hgv lp209k10 (by omega) bv lp209k11 (by omega) uq lp209k12) (fun q295 _ wq295 => ?_)
                                            obtain ⟨pq295, oq295, hq295⟩ := q295
                                            obtain ⟨xq295, fq295_0, fq295_1, fq295_2, fq295_3, fq295_4, fq295_5, fq295_6, fq295_7, gq295, efq295_0, afq295_0, bfq295_0, efq295_1, afq295_1, bfq295_1, efq295_2, afq295_2, bfq295_2, efq295_3, afq295_3, bfq295_3, efq295_4, afq295_4, bfq295_4, efq295_5, afq295_5, bfq295_5, efq295_6, afq295_6, bfq295_6, efq295_7, afq295_7, bfq295_7, uq295_0, yq295_0⟩ := wq295
                                            refine ⟨_, gq295, ?_⟩
                                            show gz gPP gGG gcn _ _ 276 [some (.ref m), some (.int (zi mk)), none] [] hq295 _
                                            have sq295 := gSs.tr sh211 xq295 (by decide)
                                            have s296 := (xq295.2.2.2.2.2 m 0 (by rw [tm]; decide)).trans lp209k0
                                            have s297 := (xq295.2.2.2.2.2 m 3 (by rw [tm]; decide)).trans lp209k1
                                            have s298 := (xq295.2.2.2.2.2 m 1 (by rw [tm]; decide)).trans lp209k2
                                            have s299 := (xq295.2.2.2.2.2 m 66 (by rw [tm]; decide)).trans lp209k3
                                            refine gz_s 1 (pc' := 277) (L' := [some (.ref m), some (.int (zi mk)), none]) (S' := [.ref m]) rfl ?_
                                            refine gs_gtk rfl (by decide) rfl sq295.1 tm rfl rfl efq295_0 ?_
                                            refine gz_s 1 (pc' := 281) (L' := [some (.ref m), some (.int (zi mk)), none]) (S' := [.int (zi (-1)), .int (zi fq295_0)]) rfl ?_
                                            by_cases hc300 : ¬ (fq295_0 : Int) = (-1)
                                            · refine gy_icT (pc' := 291) rfl (by decide) (by decide) (by omega) (by omega) hc300 ?_
                                              refine gz_s 3 (pc' := 237) (L' := [some (.ref m), some (.int (zi 0)), none]) (S' := []) rfl ?_
                                              exact gz_wk (ihlp209 hq295 0 fq295_0 fq295_1 fq295_2 fq295_3 fq295_4 fq295_5 fq295_6 fq295_7 (by omega) sq295 (by omega) (by omega) (by omega) (by omega) (by omega) (by omega) (by omega) (by omega) (by omega) (by omega) s296 s297 s298 s299 efq295_0 efq295_1 efq295_2 efq295_3 efq295_4 efq295_5 efq295_6 efq295_7 yq295_0) (gLw.s (gLw.s (gLw.n gLw.z)))
                                            · refine gy_icF rfl (by decide) (by decide) (by omega) (by omega) hc300 ?_
                                              refine gz_s 1 (pc' := 285) (L' := [some (.ref m), some (.int (zi mk)), none]) (S' := [.ref m]) rfl ?_
                                              refine gz_call rfl (by decide) rfl (by decide) (by decide) (gcal_of rfl rfl rfl (Nat.le_of_ble_eq_true rfl) (gJ.recv (G := gGG) sq295.1 tm rfl rfl)) (mm_marker _ sq295.1 m tm fq295_0 efq295_0 (by omega) z2 s297 (by omega) fq295_1 efq295_1 (by omega)) (fun q301 _ wq301 => ?_)
                                              obtain ⟨pq301, oq301, hq301⟩ := q301
                                              obtain ⟨xq301, zq301, fq301_0, fq301_1, gq301, aq301, bq301, efq301_0, afq301_0, bfq301_0, efq301_1, afq301_1, bfq301_1, uq301_0⟩ := wq301
                                              refine ⟨_, gq301, ?_⟩
                                              show gz gPP gGG gcn _ _ 288 [some (.ref m), some (.int (zi mk)), none] [.int (zi zq301)] hq301 _
                                              have sq301 := gSs.tr sq295 xq301 (by decide)
                                              have s302 := (xq301.2.2.2.2.2 m 0 (by rw [tm]; decide)).trans s296
                                              have s303 := (xq301.2.2.2.2.2 m 3 (by rw [tm]; decide)).trans s297
                                              have s304 := (xq301.2.2.2.2.2 m 1 (by rw [tm]; decide)).trans s298
                                              have s305 := (xq301.2.2.2.2.2 m 66 (by rw [tm]; decide)).trans s299
                                              have s306 := (xq301.2.2.2.2.2 m 16 (by rw [tm]; decide)).trans efq295_2
                                              have s307 := (xq301.2.2.2.2.2 m 18 (by rw [tm]; decide)).trans efq295_3
                                              have s308 := (xq301.2.2.2.2.2 m 19 (by rw [tm]; decide)).trans efq295_4
                                              have s309 := (xq301.2.2.2.2.2 m 21 (by rw [tm]; decide)).trans efq295_5
                                              have s310 := (xq301.2.2.2.2.2 m 22 (by rw [tm]; decide)).trans efq295_6
                                              have s311 := (xq301.2.2.2.2.2 m 20 (by rw [tm]; decide)).trans efq295_7
                                              have pr312 := gPi.fr xq301.2 (by decide) yq295_0
                                              refine gz_s 3 (pc' := 237) (L' := [some (.ref m), some (.int (zi zq301)), none]) (S' := []) rfl ?_
                                              exact gz_wk (ihlp209 hq301 zq301 fq301_0 fq301_1 fq295_2 fq295_3 fq295_4 fq295_5 fq295_6 fq295_7 (by omega) sq301 (by omega) (by omega) (by omega) (by omega) (by omega) (by omega) (by omega) (by omega) (by omega) (by omega) s302 s303 s304 s305 efq301_0 efq301_1 s306 s307 s308 s309 s310 s311 pr312) (gLw.s (gLw.s (gLw.n gLw.z)))
                              exact gz_wk (lp209 _ hq196 zq196 fq196_0 fq196_1 0 z22 z23 z24 z25 z26 (Nat.lt_succ_self _) sq196 (by omega) (by omega) (by omega) (by omega) (by omega) (by omega) (by omega) (by omega) (by omega) (by omega) s197 s198 s199 s200 efq196_0 efq196_1 s206 s201 s202 s203 s204 s205 hpi210) (gLw.s (gLw.s (gLw.n gLw.z)))
                          by_cases hc313 : (z2 : Int) < 2
                          · refine gy_icT (pc' := 209) rfl (by decide) (by decide) (by omega) (by omega) hc313 ?_
                            refine gz_s 1 (pc' := 210) (L' := [some (.ref m), some (.int (zi ks)), none]) (S' := [.int (zi 0), .ref m]) rfl ?_
                            exact jn63 0 (by omega)
                          · refine gy_icF rfl (by decide) (by decide) (by omega) (by omega) hc313 ?_
                            refine gz_s 1 (pc' := 182) (L' := [some (.ref m), some (.int (zi ks)), none]) (S' := [.ref m, .ref m]) rfl ?_
                            refine gs_gtr rfl (by decide) rfl sh50.1 tm rfl rfl rfl (fun c314 ec314 tc314 => ?_)
                            refine gz_s 1 (pc' := 186) (L' := [some (.ref m), some (.int (zi ks)), none]) (S' := [.int (zi 0), .ref c314, .ref m]) rfl ?_
                            have hl315 : 2000 ≤ h50.2.2.2.1 c314 ∧ h50.2.2.2.1 c314 ≤ 2000 := gJ.rowl (G := gGG) sh50.1 tc314 rfl
                            refine gs_ald rfl (by decide) sh50.1 tc314 rfl rfl rfl (by decide) (fun _ => rfl) (by omega) (by omega) (fun z316 ez316 az316 bz316 => ?_)
                            refine gz_s 1 (pc' := 190) (L' := [some (.ref m), some (.int (zi ks)), none]) (S' := [.int (zi 255), .int (zi z316), .ref m]) rfl ?_
                            by_cases hc317 : ¬ (z316 : Int) = 255
                            · refine gy_icT (pc' := 209) rfl (by decide) (by decide) (by omega) (by omega) hc317 ?_
                              refine gz_s 1 (pc' := 210) (L' := [some (.ref m), some (.int (zi ks)), none]) (S' := [.int (zi 0), .ref m]) rfl ?_
                              exact jn63 0 (by omega)
                            · refine gy_icF rfl (by decide) (by decide) (by omega) (by omega) hc317 ?_
                              refine gz_s 1 (pc' := 194) (L' := [some (.ref m), some (.int (zi ks)), none]) (S' := [.ref m, .ref m]) rfl ?_
                              refine gs_gtk rfl (by decide) rfl sh50.1 tm rfl rfl ec314 ?_
                              refine gz_s 1 (pc' := 198) (L' := [some (.ref m), some (.int (zi ks)), none]) (S' := [.int (zi 1), .ref c314, .ref m]) rfl ?_
                              have hl318 : 2000 ≤ h50.2.2.2.1 c314 ∧ h50.2.2.2.1 c314 ≤ 2000 := gJ.rowl (G := gGG) sh50.1 tc314 rfl
                              refine gs_ald rfl (by decide) sh50.1 tc314 rfl rfl rfl (by decide) (fun _ => rfl) (by omega) (by omega) (fun z319 ez319 az319 bz319 => ?_)
                              refine gz_s 1 (pc' := 202) (L' := [some (.ref m), some (.int (zi ks)), none]) (S' := [.int (zi 216), .int (zi z319), .ref m]) rfl ?_
                              by_cases hc320 : ¬ (z319 : Int) = 216
                              · refine gy_icT (pc' := 209) rfl (by decide) (by decide) (by omega) (by omega) hc320 ?_
                                refine gz_s 1 (pc' := 210) (L' := [some (.ref m), some (.int (zi ks)), none]) (S' := [.int (zi 0), .ref m]) rfl ?_
                                exact jn63 0 (by omega)
                              · refine gy_icF rfl (by decide) (by decide) (by omega) (by omega) hc320 ?_
                                refine gz_s 2 (pc' := 210) (L' := [some (.ref m), some (.int (zi ks)), none]) (S' := [.int (zi 1), .ref m]) rfl ?_
                                exact jn63 1 (by omega)
                        · refine gy_icF rfl (by decide) (by decide) (by omega) (by omega) hc21 ?_
                          refine gz_s 3 (pc' := 117) (L' := [some (.ref m), some (.int (zi ks)), none]) (S' := [.ref m, .int (zi ks), .ref m]) rfl ?_
                          refine gs_gtk rfl (by decide) rfl sh20.1 tm rfl rfl lp19k3 ?_
                          refine gz_call rfl (by decide) rfl (by decide) (by decide) (gcal_of rfl rfl rfl (Nat.le_of_ble_eq_true rfl) (gJ.recv (G := gGG) sh20.1 tm rfl rfl)) (mm_setCodes _ sh20.1 m tm ks (by omega) c15 tc15 255 (by omega) lp19k4) (fun q321 _ wq321 => ?_)
                          obtain ⟨pq321, oq321, hq321⟩ := q321
                          obtain ⟨xq321, gq321⟩ := wq321
                          refine ⟨_, gq321, ?_⟩
                          show gz gPP gGG gcn _ _ 123 [some (.ref m), some (.int (zi ks)), none] [] hq321 _
                          have sq321 := gSs.tr sh20 xq321 (by decide)
                          have s322 := (xq321.2.2.2.2.2 m 0 (by rw [tm]; decide)).trans lp19k0
                          have s323 := (xq321.2.2.2.2.2 m 3 (by rw [tm]; decide)).trans lp19k1
                          have s324 := (xq321.2.2.2.2.2 m 1 (by rw [tm]; decide)).trans lp19k2
                          have s325 := (xq321.2.2.2.2.2 m 66 (by rw [tm]; decide)).trans lp19k3
                          have pr326 := gCn.fr xq321.2 (by decide) lp19k4
                          refine gz_s 2 (pc' := 125) (L' := [some (.ref m), some (.int (zi ks)), some (.int (zi 0))]) (S' := []) rfl ?_
                          have lp327 : ∀ (fu : Nat) (h328 : gH) (ky : Int), (256 - ky).toNat < fu → gSs rT 1027 ty [1000, 1001, 1003, 1005, 1006, 1007, 1008, 1016, 1017, 1018, 1019, 1020, 1021, 1022, 1023, 1024, 1039, 1041, 1042, 1043, 1044, 1045, 1046, 1047, 1048, 3999, 4999, 5999, 6999, 7999, 9999, 11999, 12999, 13999, 14999, 15999, 16999, 17999, 18999, 19999, 20999, 21999, 22999, 23999, 24999, 25999, 35999] h h328 → (0 ≤ ky ∧ ky ≤ 255) → h328.2.2.2.2 m 0 = .int (zi 0) → h328.2.2.2.2 m 3 = .int (zi z2) → h328.2.2.2.2 m 1 = .int (zi 0) → h328.2.2.2.2 m 66 = .ref c15 → gCn ty 35 c15 255 h328 → gz gPP gGG gcn (d + 10) gt132 125 [some (.ref m), some (.int (zi ks)), some (.int (zi ky))] [] h328 (fun q _ => gSs rT 1027 ty [1000, 1001, 1003, 1005, 1006, 1007, 1008, 1016, 1017, 1018, 1019, 1020, 1021, 1022, 1023, 1024, 1039, 1041, 1042, 1043, 1044, 1045, 1046, 1047, 1048, 3999, 4999, 5999, 6999, 7999, 9999, 11999, 12999, 13999, 14999, 15999, 16999, 17999, 18999, 19999, 20999, 21999, 22999, 23999, 24999, 25999, 35999] h q.2.2 ∧ ∃ z ip1 w1 hh1 wd1 hg1 bs1 : Int, gfin gt132 q.1 q.2.1 = some (some (.int (zi z))) ∧ (-4001) ≤ z ∧ z ≤ 64 ∧ q.2.2.2.2.2.2 m 16 = .int (zi ip1) ∧ 0 ≤ ip1 ∧ ip1 ≤ 1 ∧ q.2.2.2.2.2.2 m 18 = .int (zi w1) ∧ 0 ≤ w1 ∧ w1 ≤ 64 ∧ q.2.2.2.2.2.2 m 19 = .int (zi hh1) ∧ 0 ≤ hh1 ∧ hh1 ≤ 64 ∧ q.2.2.2.2.2.2 m 21 = .int (zi wd1) ∧ 0 ≤ wd1 ∧ wd1 ≤ 2 ∧ q.2.2.2.2.2.2 m 22 = .int (zi hg1) ∧ 0 ≤ hg1 ∧ hg1 ≤ 2 ∧ q.2.2.2.2.2.2 m 20 = .int (zi bs1) ∧ 0 ≤ bs1 ∧ bs1 ≤ 3 ∧ (gPi ty ip1 w1 hh1 wd1 hg1 bs1 q.2.2)) := by
                            intro fu
                            induction fu with
                            | zero => intro h328 ky hm; exact absurd hm (Nat.not_lt_zero _)
                            | succ fu ihlp327 =>
                              intro h328 ky lp327m sh328 lp327f0 lp327k0 lp327k1 lp327k2 lp327k3 lp327k4
                              refine gz_s 2 (pc' := 129) (L' := [some (.ref m), some (.int (zi ks)), some (.int (zi ky))]) (S' := [.int (zi 255), .int (zi ky)]) rfl ?_
                              by_cases hc329 : (255 : Int) ≤ ky
                              · refine gy_icT (pc' := 151) rfl (by decide) (by decide) (by omega) (by omega) hc329 ?_
                                refine gy_s 2 (pc' := 108) (L' := [some (.ref m), some (.int ((zi ks) + zi 1)), some (.int (zi ky))]) (S' := []) (L2 := [some (.ref m), some (.int (zi (ks + 1))), some (.int (zi ky))]) (S2 := []) rfl (by simp only [zi_add, zi_sub, zi_mul, zi_neg, zi_and1, zi_and7, zi_and15, zi_and31, zi_and255]) (by simp only [zi_add, zi_sub, zi_mul, zi_neg, zi_and1, zi_and7, zi_and15, zi_and31, zi_and255]) ?_
                                exact gz_wk (ihlp19 h328 (ks + 1) (by omega) sh328 (by omega) lp327k0 lp327k1 lp327k2 lp327k3 lp327k4) (gLw.s (gLw.s (gLw.n gLw.z)))
                              · refine gy_icF rfl (by decide) (by decide) (by omega) (by omega) hc329 ?_
                                refine gz_s 1 (pc' := 133) (L' := [some (.ref m), some (.int (zi ks)), some (.int (zi ky))]) (S' := [.ref m]) rfl ?_
                                refine gs_gtr rfl (by decide) rfl sh328.1 tm rfl rfl rfl (fun c330 ec330 tc330 => ?_)
                                refine gy_s 6 (pc' := 144) (L' := [some (.ref m), some (.int (zi ks)), some (.int (zi ky))]) (S' := [.int (zi ky), .int (((zi 257) * (zi ks)) + (zi ky)), .ref c330]) (L2 := [some (.ref m), some (.int (zi ks)), some (.int (zi ky))]) (S2 := [.int (zi ky), .int (zi ((257 * ks) + ky)), .ref c330]) rfl (by simp only [zi_add, zi_sub, zi_mul, zi_neg, zi_and1, zi_and7, zi_and15, zi_and31, zi_and255]) (by simp only [zi_add, zi_sub, zi_mul, zi_neg, zi_and1, zi_and7, zi_and15, zi_and31, zi_and255]) ?_
                                have hl331 : 2056 ≤ h328.2.2.2.1 c330 ∧ h328.2.2.2.1 c330 ≤ 2056 := gJ.rowl (G := gGG) sh328.1 tc330 rfl
                                refine gs_ast rfl (by decide) sh328 tc330 rfl rfl rfl (by decide) (fun _ => rfl) (by omega) (by omega) (fun _ => (by decide : (5999 : Nat) ∈ ([1000, 1001, 1003, 1005, 1006, 1007, 1008, 1016, 1017, 1018, 1019, 1020, 1021, 1022, 1023, 1024, 1039, 1041, 1042, 1043, 1044, 1045, 1046, 1047, 1048, 3999, 4999, 5999, 6999, 7999, 9999, 11999, 12999, 13999, 14999, 15999, 16999, 17999, 18999, 19999, 20999, 21999, 22999, 23999, 24999, 25999, 35999] : List Nat))) (by omega) (by omega) (fun h332 sh332 eh332 fh332 => ?_)
                                have pr333 := gCn.pt fh332 tc330 (by decide) lp327k4
                                have s334 := (fh332 m 0 (fun q => absurd (((tm).symm.trans (congrArg ty q.1)).trans tc330) (by decide))).trans lp327k0
                                have s335 := (fh332 m 3 (fun q => absurd (((tm).symm.trans (congrArg ty q.1)).trans tc330) (by decide))).trans lp327k1
                                have s336 := (fh332 m 1 (fun q => absurd (((tm).symm.trans (congrArg ty q.1)).trans tc330) (by decide))).trans lp327k2
                                have s337 := (fh332 m 66 (fun q => absurd (((tm).symm.trans (congrArg ty q.1)).trans tc330) (by decide))).trans lp327k3
                                have s338 := (fh332 m 10 (fun q => absurd (((tm).symm.trans (congrArg ty q.1)).trans tc330) (by decide))).trans ec330
                                have pr339 := gEl.set (i := (257 * ks) + ky) (z := ky) uq tc330 (by decide) eh332 (by omega) (by omega)
                                refine gy_s 2 (pc' := 125) (L' := [some (.ref m), some (.int (zi ks)), some (.int ((zi ky) + zi 1))]) (S' := []) (L2 := [some (.ref m), some (.int (zi ks)), some (.int (zi (ky + 1)))]) (S2 := []) rfl (by simp only [zi_add, zi_sub, zi_mul, zi_neg, zi_and1, zi_and7, zi_and15, zi_and31, zi_and255]) (by simp only [zi_add, zi_sub, zi_mul, zi_neg, zi_and1, zi_and7, zi_and15, zi_and31, zi_and255]) ?_
                                exact gz_wk (ihlp327 h332 (ky + 1) (by omega) sh332 (by omega) s334 s335 s336 s337 pr333) (gLw.s (gLw.s (gLw.s gLw.z)))
                          exact gz_wk (lp327 _ hq321 0 (Nat.lt_succ_self _) sq321 (by omega) s322 s323 s324 s325 pr326) (gLw.s (gLw.s (gLw.s gLw.z)))
                    exact gz_wk (lp19 _ h17 0 (Nat.lt_succ_self _) sh17 (by omega) lp16k0 lp16k1 lp16k2 lp16k3 hcn) (gLw.s (gLw.s (gLw.n gLw.z)))
                  · refine gy_icF rfl (by decide) (by decide) (by omega) (by omega) hc18 ?_
                    refine gz_s 1 (pc' := 82) (L' := [some (.ref m), some (.int (zi k)), none]) (S' := [.ref m]) rfl ?_
                    refine gs_gtk rfl (by decide) rfl sh17.1 tm rfl rfl lp16k3 ?_
                    refine gz_s 3 (pc' := 89) (L' := [some (.ref m), some (.int (zi k)), none]) (S' := [.int (zi 8), .int (zi k), .int (zi k), .ref c15]) rfl ?_
                    by_cases hc340 : ¬ (k : Int) = 8
                    · refine gy_icT (pc' := 98) rfl (by decide) (by decide) (by omega) (by omega) hc340 ?_
                      refine gz_s 1 (pc' := 99) (L' := [some (.ref m), some (.int (zi k)), none]) (S' := [.int (zi 0), .int (zi k), .ref c15]) rfl ?_
                      have hl341 : 17 ≤ h17.2.2.2.1 c15 ∧ h17.2.2.2.1 c15 ≤ 17 := gJ.rowl (G := gGG) sh17.1 tc15 rfl
                      refine gs_ast rfl (by decide) sh17 tc15 rfl rfl rfl (by decide) (fun _ => rfl) (by omega) (by omega) (fun _ => (by decide : (35999 : Nat) ∈ ([1000, 1001, 1003, 1005, 1006, 1007, 1008, 1016, 1017, 1018, 1019, 1020, 1021, 1022, 1023, 1024, 1039, 1041, 1042, 1043, 1044, 1045, 1046, 1047, 1048, 3999, 4999, 5999, 6999, 7999, 9999, 11999, 12999, 13999, 14999, 15999, 16999, 17999, 18999, 19999, 20999, 21999, 22999, 23999, 24999, 25999, 35999] : List Nat))) (by omega) (by omega) (fun h342 sh342 eh342 fh342 => ?_)
                      have s343 := (fh342 m 0 (fun q => absurd (((tm).symm.trans (congrArg ty q.1)).trans tc15) (by decide))).trans lp16k0
                      have s344 := (fh342 m 3 (fun q => absurd (((tm).symm.trans (congrArg ty q.1)).trans tc15) (by decide))).trans lp16k1
                      have s345 := (fh342 m 1 (fun q => absurd (((tm).symm.trans (congrArg ty q.1)).trans tc15) (by decide))).trans lp16k2
                      have s346 := (fh342 m 66 (fun q => absurd (((tm).symm.trans (congrArg ty q.1)).trans tc15) (by decide))).trans lp16k3
                      have pr347 := gEl.set (i := k) (z := 0) uq tc15 (by decide) eh342 (by omega) (by omega)
                      have gp := gS_put (c := c15) (k := k) (z := 0) fh342 eh342 (by omega) (by omega)
                      refine gy_s 2 (pc' := 75) (L' := [some (.ref m), some (.int ((zi k) + zi 1)), none]) (S' := []) (L2 := [some (.ref m), some (.int (zi (k + 1))), none]) (S2 := []) rfl (by simp only [zi_add, zi_sub, zi_mul, zi_neg, zi_and1, zi_and7, zi_and15, zi_and31, zi_and255]) (by simp only [zi_add, zi_sub, zi_mul, zi_neg, zi_and1, zi_and7, zi_and15, zi_and31, zi_and255]) ?_
                      exact gz_wk (ihlp16 h342 (k + 1) (by omega) sh342 (by omega) (by omega) s343 s344 s345 s346) (gLw.s (gLw.s (gLw.n gLw.z)))
                    · refine gy_icF rfl (by decide) (by decide) (by omega) (by omega) hc340 ?_
                      refine gz_s 2 (pc' := 99) (L' := [some (.ref m), some (.int (zi k)), none]) (S' := [.int (zi 255), .int (zi k), .ref c15]) rfl ?_
                      have hl348 : 17 ≤ h17.2.2.2.1 c15 ∧ h17.2.2.2.1 c15 ≤ 17 := gJ.rowl (G := gGG) sh17.1 tc15 rfl
                      refine gs_ast rfl (by decide) sh17 tc15 rfl rfl rfl (by decide) (fun _ => rfl) (by omega) (by omega) (fun _ => (by decide : (35999 : Nat) ∈ ([1000, 1001, 1003, 1005, 1006, 1007, 1008, 1016, 1017, 1018, 1019, 1020, 1021, 1022, 1023, 1024, 1039, 1041, 1042, 1043, 1044, 1045, 1046, 1047, 1048, 3999, 4999, 5999, 6999, 7999, 9999, 11999, 12999, 13999, 14999, 15999, 16999, 17999, 18999, 19999, 20999, 21999, 22999, 23999, 24999, 25999, 35999] : List Nat))) (by omega) (by omega) (fun h349 sh349 eh349 fh349 => ?_)
                      have s350 := (fh349 m 0 (fun q => absurd (((tm).symm.trans (congrArg ty q.1)).trans tc15) (by decide))).trans lp16k0
                      have s351 := (fh349 m 3 (fun q => absurd (((tm).symm.trans (congrArg ty q.1)).trans tc15) (by decide))).trans lp16k1
                      have s352 := (fh349 m 1 (fun q => absurd (((tm).symm.trans (congrArg ty q.1)).trans tc15) (by decide))).trans lp16k2
                      have s353 := (fh349 m 66 (fun q => absurd (((tm).symm.trans (congrArg ty q.1)).trans tc15) (by decide))).trans lp16k3
                      have pr354 := gEl.set (i := k) (z := 255) uq tc15 (by decide) eh349 (by omega) (by omega)
                      have gp := gS_put (c := c15) (k := k) (z := 255) fh349 eh349 (by omega) (by omega)
                      refine gy_s 2 (pc' := 75) (L' := [some (.ref m), some (.int ((zi k) + zi 1)), none]) (S' := []) (L2 := [some (.ref m), some (.int (zi (k + 1))), none]) (S2 := []) rfl (by simp only [zi_add, zi_sub, zi_mul, zi_neg, zi_and1, zi_and7, zi_and15, zi_and31, zi_and255]) (by simp only [zi_add, zi_sub, zi_mul, zi_neg, zi_and1, zi_and7, zi_and15, zi_and31, zi_and255]) ?_
                      exact gz_wk (ihlp16 h349 (k + 1) (by omega) sh349 (by omega) (by omega) s350 s351 s352 s353) (gLw.s (gLw.s (gLw.n gLw.z)))
              have ge1 : gS h13 c15 0 = 0 := rfl
              exact gz_wk (lp16 _ h13 0 (Nat.lt_succ_self _) sh13 (by omega) (by omega) lp12k0 lp12k1 lp12k2 ec15) (gLw.s (gLw.s (gLw.n gLw.z)))
            · refine gy_icF rfl (by decide) (by decide) (by omega) (by omega) hc14 ?_
              refine gz_s 1 (pc' := 56) (L' := [some (.ref m), some (.int (zi kt)), none]) (S' := [.ref m]) rfl ?_
              refine gs_gtr rfl (by decide) rfl sh13.1 tm rfl rfl rfl (fun c355 ec355 tc355 => ?_)
              refine gz_s 2 (pc' := 61) (L' := [some (.ref m), some (.int (zi kt)), none]) (S' := [.ref m, .int (zi kt), .ref c355]) rfl ?_
              refine gs_gtr rfl (by decide) rfl sh13.1 tm rfl rfl rfl (fun c356 ec356 tc356 => ?_)
              refine gz_s 1 (pc' := 65) (L' := [some (.ref m), some (.int (zi kt)), none]) (S' := [.int (zi kt), .ref c356, .int (zi kt), .ref c355]) rfl ?_
              have hl357 : 256 ≤ h13.2.2.2.1 c356 ∧ h13.2.2.2.1 c356 ≤ 256 := gJ.rowl (G := gGG) sh13.1 tc356 rfl
              refine gs_ald rfl (by decide) sh13.1 tc356 rfl rfl rfl (by decide) (fun _ => rfl) (by omega) (by omega) (fun z358 ez358 az358 bz358 => ?_)
              have hl359 : 256 ≤ h13.2.2.2.1 c355 ∧ h13.2.2.2.1 c355 ≤ 256 := gJ.rowl (G := gGG) sh13.1 tc355 rfl
              refine gs_ast rfl (by decide) sh13 tc355 rfl rfl rfl (by decide) (fun _ => rfl) (by omega) (by omega) (fun _ => (by decide : (9999 : Nat) ∈ ([1000, 1001, 1003, 1005, 1006, 1007, 1008, 1016, 1017, 1018, 1019, 1020, 1021, 1022, 1023, 1024, 1039, 1041, 1042, 1043, 1044, 1045, 1046, 1047, 1048, 3999, 4999, 5999, 6999, 7999, 9999, 11999, 12999, 13999, 14999, 15999, 16999, 17999, 18999, 19999, 20999, 21999, 22999, 23999, 24999, 25999, 35999] : List Nat))) (by omega) (by omega) (fun h360 sh360 eh360 fh360 => ?_)
              have s361 := (fh360 m 0 (fun q => absurd (((tm).symm.trans (congrArg ty q.1)).trans tc355) (by decide))).trans lp12k0
              have s362 := (fh360 m 3 (fun q => absurd (((tm).symm.trans (congrArg ty q.1)).trans tc355) (by decide))).trans lp12k1
              have s363 := (fh360 m 1 (fun q => absurd (((tm).symm.trans (congrArg ty q.1)).trans tc355) (by decide))).trans lp12k2
              have s364 := (fh360 m 14 (fun q => absurd (((tm).symm.trans (congrArg ty q.1)).trans tc355) (by decide))).trans ec355
              have s365 := (fh360 m 13 (fun q => absurd (((tm).symm.trans (congrArg ty q.1)).trans tc355) (by decide))).trans ec356
              have pr366 := gEl.set (i := kt) (z := z358) uq tc355 (by decide) eh360 (by omega) (by omega)
              refine gy_s 2 (pc' := 48) (L' := [some (.ref m), some (.int ((zi kt) + zi 1)), none]) (S' := []) (L2 := [some (.ref m), some (.int (zi (kt + 1))), none]) (S2 := []) rfl (by simp only [zi_add, zi_sub, zi_mul, zi_neg, zi_and1, zi_and7, zi_and15, zi_and31, zi_and255]) (by simp only [zi_add, zi_sub, zi_mul, zi_neg, zi_and1, zi_and7, zi_and15, zi_and31, zi_and255]) ?_
              exact gz_wk (ihlp12 h360 (kt + 1) (by omega) sh360 (by omega) s361 s362 s363) (gLw.s (gLw.s (gLw.n gLw.z)))
        exact gz_wk (lp12 _ h10 0 (Nat.lt_succ_self _) sh10 (by omega) lp9k0 lp9k1 lp9k2) (gLw.s (gLw.s (gLw.n gLw.z)))
      · refine gy_icF rfl (by decide) (by decide) (by omega) (by omega) hc11 ?_
        refine gz_s 1 (pc' := 29) (L' := [some (.ref m), some (.int (zi kb)), none]) (S' := [.ref m]) rfl ?_
        refine gs_gtr rfl (by decide) rfl sh10.1 tm rfl rfl rfl (fun c367 ec367 tc367 => ?_)
        refine gz_s 2 (pc' := 34) (L' := [some (.ref m), some (.int (zi kb)), none]) (S' := [.ref m, .int (zi kb), .ref c367]) rfl ?_
        refine gs_gtr rfl (by decide) rfl sh10.1 tm rfl rfl rfl (fun c368 ec368 tc368 => ?_)
        refine gz_s 1 (pc' := 38) (L' := [some (.ref m), some (.int (zi kb)), none]) (S' := [.int (zi kb), .ref c368, .int (zi kb), .ref c367]) rfl ?_
        have hl369 : 2000 ≤ h10.2.2.2.1 c368 ∧ h10.2.2.2.1 c368 ≤ 2000 := gJ.rowl (G := gGG) sh10.1 tc368 rfl
        refine gs_ald rfl (by decide) sh10.1 tc368 rfl rfl rfl (by decide) (fun _ => rfl) (by omega) (by omega) (fun z370 ez370 az370 bz370 => ?_)
        have hl371 : 2000 ≤ h10.2.2.2.1 c367 ∧ h10.2.2.2.1 c367 ≤ 2000 := gJ.rowl (G := gGG) sh10.1 tc367 rfl
        refine gs_ast rfl (by decide) sh10 tc367 rfl rfl rfl (by decide) (fun _ => rfl) (by omega) (by omega) (fun _ => (by decide : (3999 : Nat) ∈ ([1000, 1001, 1003, 1005, 1006, 1007, 1008, 1016, 1017, 1018, 1019, 1020, 1021, 1022, 1023, 1024, 1039, 1041, 1042, 1043, 1044, 1045, 1046, 1047, 1048, 3999, 4999, 5999, 6999, 7999, 9999, 11999, 12999, 13999, 14999, 15999, 16999, 17999, 18999, 19999, 20999, 21999, 22999, 23999, 24999, 25999, 35999] : List Nat))) (by omega) (by omega) (fun h372 sh372 eh372 fh372 => ?_)
        have s373 := (fh372 m 0 (fun q => absurd (((tm).symm.trans (congrArg ty q.1)).trans tc367) (by decide))).trans lp9k0
        have s374 := (fh372 m 3 (fun q => absurd (((tm).symm.trans (congrArg ty q.1)).trans tc367) (by decide))).trans lp9k1
        have s375 := (fh372 m 1 (fun q => absurd (((tm).symm.trans (congrArg ty q.1)).trans tc367) (by decide))).trans lp9k2
        have s376 := (fh372 m 4 (fun q => absurd (((tm).symm.trans (congrArg ty q.1)).trans tc367) (by decide))).trans ec367
        have s377 := (fh372 m 2 (fun q => absurd (((tm).symm.trans (congrArg ty q.1)).trans tc367) (by decide))).trans ec368
        have pr378 := gEl.set (i := kb) (z := z370) uq tc367 (by decide) eh372 (by omega) (by omega)
        refine gy_s 2 (pc' := 20) (L' := [some (.ref m), some (.int ((zi kb) + zi 1)), none]) (S' := []) (L2 := [some (.ref m), some (.int (zi (kb + 1))), none]) (S2 := []) rfl (by simp only [zi_add, zi_sub, zi_mul, zi_neg, zi_and1, zi_and7, zi_and15, zi_and31, zi_and255]) (by simp only [zi_add, zi_sub, zi_mul, zi_neg, zi_and1, zi_and7, zi_and15, zi_and31, zi_and255]) ?_
        exact gz_wk (ihlp9 h372 (kb + 1) (by omega) sh372 (by omega) s373 s374 s375) (gLw.s (gLw.s (gLw.n gLw.z)))
  exact gz_wk (lp9 _ h6 0 (Nat.lt_succ_self _) sh6 (by omega) s7 s8 eh6) (gLw.s (gLw.s (gLw.n gLw.z)))
