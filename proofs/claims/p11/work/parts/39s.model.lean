/-! ===== the model: methods (by program) ===== -/
set_option maxRecDepth 20000 in
set_option maxHeartbeats 4000000 in
theorem mm_scan2 (d : Nat) {ty : Nat → Nat} {h : gH} (hJ : gJ rT 1027 ty h) (m : Nat) (tm : ty m = 1) (a : Int) (ra : (-2147483648) ≤ a ∧ a ≤ 2147483647) (b : Int) (rb : (-2147483648) ≤ b ∧ b ≤ 2147483647) (t : Int) (rt : (-2147483648) ≤ t ∧ t ≤ 2147483647) (n0 : Int) (en0 : h.2.2.2.2 m 53 = .int (zi n0)) (rn0 : 0 ≤ n0 ∧ n0 ≤ 10) (uq : gUq ty) (hyts : gTs ty n0 h) : gz gPP gGG gcn (d + 0) gt182 0 (gent [.ref m, .int (zi a), .int (zi b), .int (zi t)] 7) [] h (fun q _ => gSs rT 1027 ty [1000, 1053, 27999, 28999, 29999, 30999, 31999] h q.2.2 ∧ ∃ z n1 : Int, gfin gt182 q.1 q.2.1 = some (some (.int (zi z))) ∧ 0 ≤ z ∧ z ≤ 10 ∧ q.2.2.2.2.2.2 m 53 = .int (zi n1) ∧ 0 ≤ n1 ∧ n1 ≤ 10 ∧ (gTs ty n1 q.2.2)) := by
  have hS : gSs rT 1027 ty [1000, 1053, 27999, 28999, 29999, 30999, 31999] h h := gSs.rf hJ
  refine gz_s 2 (pc' := 2) (L' := [some (.ref m), some (.int (zi a)), some (.int (zi b)), some (.int (zi t)), none, none, none]) (S' := [.int (zi 0), .ref m]) rfl ?_
  refine gs_put rfl (by decide) rfl hS tm rfl rfl rfl rfl (Or.inl rfl) (by decide) (by omega) (by omega) (fun h1 sh1 eh1 fh1 => ?_)
  have pr2 := gTs.pt fh1 tm (by decide) hyts
  have s3 := (fh1 m 53 (fun q => absurd q.2 (by decide))).trans en0
  have hts0 := pr2
  obtain ⟨tf, tt, cf, rf, rt, rc, tle, tsm⟩ := hts0
  refine gz_s 1 (pc' := 6) (L' := [some (.ref m), some (.int (zi a)), some (.int (zi b)), some (.int (zi t)), none, none, none]) (S' := [.int (zi a)]) rfl ?_
  have jn4 : ∀ (jn4v0 : Int), ((0 ≤ jn4v0) ∧ (jn4v0 ≤ 1) ∧ (jn4v0 = 1 → (0 ≤ a ∧ a ≤ b ∧ b ≤ 63))) → gz gPP gGG gcn (d + 0) gt182 44 [some (.ref m), some (.int (zi a)), some (.int (zi b)), some (.int (zi t)), none, none, none] [.int (zi jn4v0)] h1 (fun q _ => gSs rT 1027 ty [1000, 1053, 27999, 28999, 29999, 30999, 31999] h q.2.2 ∧ ∃ z n1 : Int, gfin gt182 q.1 q.2.1 = some (some (.int (zi z))) ∧ 0 ≤ z ∧ z ≤ 10 ∧ q.2.2.2.2.2.2 m 53 = .int (zi n1) ∧ 0 ≤ n1 ∧ n1 ≤ 10 ∧ (gTs ty n1 q.2.2)) := by
    intro jn4v0 jn4d
    refine gz_s 2 (pc' := 48) (L' := [some (.ref m), some (.int (zi a)), some (.int (zi b)), some (.int (zi t)), some (.int (zi jn4v0)), none, none]) (S' := [.int (zi jn4v0)]) rfl ?_
    by_cases hc5 : (jn4v0 : Int) = 0
    · refine gy_ifT (pc' := 69) rfl (by decide) (by decide) (by omega) hc5 ?_
      refine gz_s 1 (pc' := 70) (L' := [some (.ref m), some (.int (zi a)), some (.int (zi b)), some (.int (zi t)), some (.int (zi jn4v0)), none, none]) (S' := [.int (zi 0)]) rfl ?_
      exact gz_end (I := .ireturn) (len := 1) rfl (Or.inl rfl) ⟨sh1, 0, n0, rfl, (by omega), (by omega), s3, (by omega), (by omega), pr2⟩
    · refine gy_ifF rfl (by decide) (by decide) (by omega) hc5 ?_
      refine gz_s 1 (pc' := 52) (L' := [some (.ref m), some (.int (zi a)), some (.int (zi b)), some (.int (zi t)), some (.int (zi jn4v0)), none, none]) (S' := [.int (zi t)]) rfl ?_
      by_cases hc6 : (t : Int) < 0
      · refine gy_ifT (pc' := 69) rfl (by decide) (by decide) (by omega) hc6 ?_
        refine gz_s 1 (pc' := 70) (L' := [some (.ref m), some (.int (zi a)), some (.int (zi b)), some (.int (zi t)), some (.int (zi jn4v0)), none, none]) (S' := [.int (zi 0)]) rfl ?_
        exact gz_end (I := .ireturn) (len := 1) rfl (Or.inl rfl) ⟨sh1, 0, n0, rfl, (by omega), (by omega), s3, (by omega), (by omega), pr2⟩
      · refine gy_ifF rfl (by decide) (by decide) (by omega) hc6 ?_
        refine gz_s 2 (pc' := 57) (L' := [some (.ref m), some (.int (zi a)), some (.int (zi b)), some (.int (zi t)), some (.int (zi jn4v0)), none, none]) (S' := [.int (zi 3), .int (zi t)]) rfl ?_
        by_cases hc7 : (3 : Int) < t
        · refine gy_icT (pc' := 69) rfl (by decide) (by decide) (by omega) (by omega) hc7 ?_
          refine gz_s 1 (pc' := 70) (L' := [some (.ref m), some (.int (zi a)), some (.int (zi b)), some (.int (zi t)), some (.int (zi jn4v0)), none, none]) (S' := [.int (zi 0)]) rfl ?_
          exact gz_end (I := .ireturn) (len := 1) rfl (Or.inl rfl) ⟨sh1, 0, n0, rfl, (by omega), (by omega), s3, (by omega), (by omega), pr2⟩
        · refine gy_icF rfl (by decide) (by decide) (by omega) (by omega) hc7 ?_
          refine gz_s 1 (pc' := 61) (L' := [some (.ref m), some (.int (zi a)), some (.int (zi b)), some (.int (zi t)), some (.int (zi jn4v0)), none, none]) (S' := [.ref m]) rfl ?_
          refine gs_gtk rfl (by decide) rfl sh1.1 tm rfl rfl s3 ?_
          refine gz_s 1 (pc' := 66) (L' := [some (.ref m), some (.int (zi a)), some (.int (zi b)), some (.int (zi t)), some (.int (zi jn4v0)), none, none]) (S' := [.int (zi 10), .int (zi n0)]) rfl ?_
          by_cases hc8 : ¬ (n0 : Int) = 10
          · refine gy_icT (pc' := 71) rfl (by decide) (by decide) (by omega) (by omega) hc8 ?_
            refine gz_s 2 (pc' := 74) (L' := [some (.ref m), some (.int (zi a)), some (.int (zi b)), some (.int (zi t)), some (.int (zi jn4v0)), some (.int (zi a)), none]) (S' := []) rfl ?_
            have lp9 : ∀ (fu : Nat) (h10 : gH) (k : Int), (65 - k).toNat < fu → gSs rT 1027 ty [1000, 1053, 27999, 28999, 29999, 30999, 31999] h h10 → (0 ≤ k ∧ k ≤ 64) → (a ≤ k) → h10.2.2.2.2 m 53 = .int (zi n0) → h10.2.2.2.2 m 0 = .int (zi 0) → gTs ty n0 h10 → gRow ty 27 tf h10 → gRow ty 28 tt h10 → gRow ty 31 cf h10 → (∀ j : Int, a ≤ j → j < k → cf j.toNat = cf a.toNat) → gz gPP gGG gcn (d + 0) gt182 74 [some (.ref m), some (.int (zi a)), some (.int (zi b)), some (.int (zi t)), some (.int (zi jn4v0)), some (.int (zi k)), none] [] h10 (fun q _ => gSs rT 1027 ty [1000, 1053, 27999, 28999, 29999, 30999, 31999] h q.2.2 ∧ ∃ z n1 : Int, gfin gt182 q.1 q.2.1 = some (some (.int (zi z))) ∧ 0 ≤ z ∧ z ≤ 10 ∧ q.2.2.2.2.2.2 m 53 = .int (zi n1) ∧ 0 ≤ n1 ∧ n1 ≤ 10 ∧ (gTs ty n1 q.2.2)) := by
              intro fu
              induction fu with
              | zero => intro h10 k hm; exact absurd hm (Nat.not_lt_zero _)
              | succ fu ihlp9 =>
                intro h10 k lp9m sh10 lp9f0 lp9f1 lp9k0 lp9k1 lp9k2 lp9k3 lp9k4 lp9k5 lp9k6
                refine gz_s 2 (pc' := 77) (L' := [some (.ref m), some (.int (zi a)), some (.int (zi b)), some (.int (zi t)), some (.int (zi jn4v0)), some (.int (zi k)), none]) (S' := [.int (zi b), .int (zi k)]) rfl ?_
                by_cases hc11 : (b : Int) < k
                · refine gy_icT (pc' := 104) rfl (by decide) (by decide) (by omega) (by omega) hc11 ?_
                  refine gz_s 1 (pc' := 105) (L' := [some (.ref m), some (.int (zi a)), some (.int (zi b)), some (.int (zi t)), some (.int (zi jn4v0)), some (.int (zi k)), none]) (S' := [.ref m]) rfl ?_
                  refine gs_gtr rfl (by decide) rfl sh10.1 tm rfl rfl rfl (fun c12 ec12 tc12 => ?_)
                  refine gz_s 1 (pc' := 109) (L' := [some (.ref m), some (.int (zi a)), some (.int (zi b)), some (.int (zi t)), some (.int (zi jn4v0)), some (.int (zi k)), none]) (S' := [.int (zi a), .ref c12]) rfl ?_
                  have hl13 : 64 ≤ h10.2.2.2.1 c12 ∧ h10.2.2.2.1 c12 ≤ 64 := gJ.rowl (G := gGG) sh10.1 tc12 rfl
                  refine gs_ald rfl (by decide) sh10.1 tc12 rfl rfl rfl (by decide) (fun _ => rfl) (by omega) (by omega) (fun z14 ez14 az14 bz14 => ?_)
                  have hf15 := gRow.at (i := a) (z := z14) lp9k5 tc12 ez14 (by omega) (by omega) (by omega)
                  refine gz_s 3 (pc' := 115) (L' := [some (.ref m), some (.int (zi a)), some (.int (zi b)), some (.int (zi t)), some (.int (zi jn4v0)), some (.int (zi z14)), none]) (S' := [.int (zi (-1)), .int (zi z14)]) rfl ?_
                  by_cases hc16 : (z14 : Int) = (-1)
                  · refine gy_icT (pc' := 128) rfl (by decide) (by decide) (by omega) (by omega) hc16 ?_
                    refine gz_s 2 (pc' := 131) (L' := [some (.ref m), some (.int (zi a)), some (.int (zi b)), some (.int (zi t)), some (.int (zi jn4v0)), some (.int (zi z14)), some (.int (zi a))]) (S' := []) rfl ?_
                    have hcq18 : gCq ty cf a a t h10 := ⟨cf, lp9k5, gCm.zero⟩
                    have hcf : cf a.toNat = cf a.toNat := rfl
                    have lp17 : ∀ (fu : Nat) (h19 : gH) (kb : Int), (65 - kb).toNat < fu → gSs rT 1027 ty [1000, 1053, 27999, 28999, 29999, 30999, 31999] h h19 → (0 ≤ kb ∧ kb ≤ 64) → (a ≤ kb) → (kb ≤ b + 1) → h19.2.2.2.2 m 53 = .int (zi n0) → h19.2.2.2.2 m 0 = .int (zi 0) → h19.2.2.2.2 m 58 = .ref c12 → gRow ty 27 tf h19 → gRow ty 28 tt h19 → (∀ j : Int, a ≤ j → j < k → cf j.toNat = cf a.toNat) → gCq ty cf a kb t h19 → gz gPP gGG gcn (d + 0) gt182 131 [some (.ref m), some (.int (zi a)), some (.int (zi b)), some (.int (zi t)), some (.int (zi jn4v0)), some (.int (zi z14)), some (.int (zi kb))] [] h19 (fun q _ => gSs rT 1027 ty [1000, 1053, 27999, 28999, 29999, 30999, 31999] h q.2.2 ∧ ∃ z n1 : Int, gfin gt182 q.1 q.2.1 = some (some (.int (zi z))) ∧ 0 ≤ z ∧ z ≤ 10 ∧ q.2.2.2.2.2.2 m 53 = .int (zi n1) ∧ 0 ≤ n1 ∧ n1 ≤ 10 ∧ (gTs ty n1 q.2.2)) := by
                      intro fu
                      induction fu with
                      | zero => intro h19 kb hm; exact absurd hm (Nat.not_lt_zero _)
                      | succ fu ihlp17 =>
                        intro h19 kb lp17m sh19 lp17f0 lp17f1 lp17f2 lp17k0 lp17k1 lp17k2 lp17k3 lp17k4 lp17k5 lp17k6
                        refine gz_s 2 (pc' := 134) (L' := [some (.ref m), some (.int (zi a)), some (.int (zi b)), some (.int (zi t)), some (.int (zi jn4v0)), some (.int (zi z14)), some (.int (zi kb))]) (S' := [.int (zi b), .int (zi kb)]) rfl ?_
                        by_cases hc20 : (b : Int) < kb
                        · refine gy_icT (pc' := 151) rfl (by decide) (by decide) (by omega) (by omega) hc20 ?_
                          refine gz_s 1 (pc' := 152) (L' := [some (.ref m), some (.int (zi a)), some (.int (zi b)), some (.int (zi t)), some (.int (zi jn4v0)), some (.int (zi z14)), some (.int (zi kb))]) (S' := [.ref m]) rfl ?_
                          refine gs_gtr rfl (by decide) rfl sh19.1 tm rfl rfl rfl (fun c21 ec21 tc21 => ?_)
                          refine gz_s 1 (pc' := 156) (L' := [some (.ref m), some (.int (zi a)), some (.int (zi b)), some (.int (zi t)), some (.int (zi jn4v0)), some (.int (zi z14)), some (.int (zi kb))]) (S' := [.ref m, .ref c21]) rfl ?_
                          refine gs_gtk rfl (by decide) rfl sh19.1 tm rfl rfl lp17k0 ?_
                          refine gz_s 1 (pc' := 160) (L' := [some (.ref m), some (.int (zi a)), some (.int (zi b)), some (.int (zi t)), some (.int (zi jn4v0)), some (.int (zi z14)), some (.int (zi kb))]) (S' := [.int (zi a), .int (zi n0), .ref c21]) rfl ?_
                          have hl22 : 10 ≤ h19.2.2.2.1 c21 ∧ h19.2.2.2.1 c21 ≤ 10 := gJ.rowl (G := gGG) sh19.1 tc21 rfl
                          refine gs_ast rfl (by decide) sh19 tc21 rfl rfl rfl (by decide) (fun _ => rfl) (by omega) (by omega) (fun _ => (by decide : (27999 : Nat) ∈ ([1000, 1053, 27999, 28999, 29999, 30999, 31999] : List Nat))) (by omega) (by omega) (fun h23 sh23 eh23 fh23 => ?_)
                          have pr24 := gRow.put (i := n0) (z := a) uq tc21 (by decide) fh23 eh23 (by omega) (by omega) lp17k3
                          have pr25 := gRow.pt fh23 tc21 (by decide) lp17k4
                          have pr26 := gCq.pt fh23 tc21 (by decide) lp17k6
                          have s27 := (fh23 m 53 (fun q => absurd (((tm).symm.trans (congrArg ty q.1)).trans tc21) (by decide))).trans lp17k0
                          have s28 := (fh23 m 0 (fun q => absurd (((tm).symm.trans (congrArg ty q.1)).trans tc21) (by decide))).trans lp17k1
                          have s29 := (fh23 m 58 (fun q => absurd (((tm).symm.trans (congrArg ty q.1)).trans tc21) (by decide))).trans lp17k2
                          have s30 := (fh23 m 54 (fun q => absurd (((tm).symm.trans (congrArg ty q.1)).trans tc21) (by decide))).trans ec21
                          have pr31 := gEl.set (i := n0) (z := a) uq tc21 (by decide) eh23 (by omega) (by omega)
                          refine gz_s 1 (pc' := 162) (L' := [some (.ref m), some (.int (zi a)), some (.int (zi b)), some (.int (zi t)), some (.int (zi jn4v0)), some (.int (zi z14)), some (.int (zi kb))]) (S' := [.ref m]) rfl ?_
                          refine gs_gtr rfl (by decide) rfl sh23.1 tm rfl rfl rfl (fun c32 ec32 tc32 => ?_)
                          refine gz_s 1 (pc' := 166) (L' := [some (.ref m), some (.int (zi a)), some (.int (zi b)), some (.int (zi t)), some (.int (zi jn4v0)), some (.int (zi z14)), some (.int (zi kb))]) (S' := [.ref m, .ref c32]) rfl ?_
                          refine gs_gtk rfl (by decide) rfl sh23.1 tm rfl rfl s27 ?_
                          refine gz_s 1 (pc' := 170) (L' := [some (.ref m), some (.int (zi a)), some (.int (zi b)), some (.int (zi t)), some (.int (zi jn4v0)), some (.int (zi z14)), some (.int (zi kb))]) (S' := [.int (zi b), .int (zi n0), .ref c32]) rfl ?_
                          have hl33 : 10 ≤ h23.2.2.2.1 c32 ∧ h23.2.2.2.1 c32 ≤ 10 := gJ.rowl (G := gGG) sh23.1 tc32 rfl
                          refine gs_ast rfl (by decide) sh23 tc32 rfl rfl rfl (by decide) (fun _ => rfl) (by omega) (by omega) (fun _ => (by decide : (28999 : Nat) ∈ ([1000, 1053, 27999, 28999, 29999, 30999, 31999] : List Nat))) (by omega) (by omega) (fun h34 sh34 eh34 fh34 => ?_)
                          have pr35 := gRow.pt fh34 tc32 (by decide) pr24
                          have pr36 := gRow.put (i := n0) (z := b) uq tc32 (by decide) fh34 eh34 (by omega) (by omega) pr25
                          have pr37 := gCq.pt fh34 tc32 (by decide) pr26
                          have pr38 := gEl.pt fh34 tc32 (by decide) pr31
                          have s39 := (fh34 m 53 (fun q => absurd (((tm).symm.trans (congrArg ty q.1)).trans tc32) (by decide))).trans s27
                          have s40 := (fh34 m 0 (fun q => absurd (((tm).symm.trans (congrArg ty q.1)).trans tc32) (by decide))).trans s28
                          have s41 := (fh34 m 58 (fun q => absurd (((tm).symm.trans (congrArg ty q.1)).trans tc32) (by decide))).trans s29
                          have s42 := (fh34 m 54 (fun q => absurd (((tm).symm.trans (congrArg ty q.1)).trans tc32) (by decide))).trans s30
                          have s43 := (fh34 m 55 (fun q => absurd (((tm).symm.trans (congrArg ty q.1)).trans tc32) (by decide))).trans ec32
                          have pr44 := gEl.set (i := n0) (z := b) uq tc32 (by decide) eh34 (by omega) (by omega)
                          refine gz_s 1 (pc' := 172) (L' := [some (.ref m), some (.int (zi a)), some (.int (zi b)), some (.int (zi t)), some (.int (zi jn4v0)), some (.int (zi z14)), some (.int (zi kb))]) (S' := [.ref m]) rfl ?_
                          refine gs_gtr rfl (by decide) rfl sh34.1 tm rfl rfl rfl (fun c45 ec45 tc45 => ?_)
                          refine gz_s 1 (pc' := 176) (L' := [some (.ref m), some (.int (zi a)), some (.int (zi b)), some (.int (zi t)), some (.int (zi jn4v0)), some (.int (zi z14)), some (.int (zi kb))]) (S' := [.ref m, .ref c45]) rfl ?_
                          refine gs_gtk rfl (by decide) rfl sh34.1 tm rfl rfl s39 ?_
                          refine gz_s 2 (pc' := 182) (L' := [some (.ref m), some (.int (zi a)), some (.int (zi b)), some (.int (zi t)), some (.int (zi jn4v0)), some (.int (zi z14)), some (.int (zi kb))]) (S' := [.int (zi (-1)), .int (zi z14), .int (zi n0), .ref c45]) rfl ?_
                          refine gy_icF rfl (by decide) (by decide) (by omega) (by omega) (by first | (simp [zc]; done) | (simp only [zc]; omega)) ?_
                          refine gz_s 2 (pc' := 191) (L' := [some (.ref m), some (.int (zi a)), some (.int (zi b)), some (.int (zi t)), some (.int (zi jn4v0)), some (.int (zi z14)), some (.int (zi kb))]) (S' := [.int (zi 0), .int (zi n0), .ref c45]) rfl ?_
                          have hl46 : 10 ≤ h34.2.2.2.1 c45 ∧ h34.2.2.2.1 c45 ≤ 10 := gJ.rowl (G := gGG) sh34.1 tc45 rfl
                          refine gs_ast rfl (by decide) sh34 tc45 rfl rfl rfl (by decide) (fun _ => rfl) (by omega) (by omega) (fun _ => (by decide : (29999 : Nat) ∈ ([1000, 1053, 27999, 28999, 29999, 30999, 31999] : List Nat))) (by omega) (by omega) (fun h47 sh47 eh47 fh47 => ?_)
                          have pr48 := gRow.pt fh47 tc45 (by decide) pr35
                          have pr49 := gRow.pt fh47 tc45 (by decide) pr36
                          have pr50 := gCq.pt fh47 tc45 (by decide) pr37
                          have pr51 := gEl.pt fh47 tc45 (by decide) pr38
                          have pr52 := gEl.pt fh47 tc45 (by decide) pr44
                          have s53 := (fh47 m 53 (fun q => absurd (((tm).symm.trans (congrArg ty q.1)).trans tc45) (by decide))).trans s39
                          have s54 := (fh47 m 0 (fun q => absurd (((tm).symm.trans (congrArg ty q.1)).trans tc45) (by decide))).trans s40
                          have s55 := (fh47 m 58 (fun q => absurd (((tm).symm.trans (congrArg ty q.1)).trans tc45) (by decide))).trans s41
                          have s56 := (fh47 m 54 (fun q => absurd (((tm).symm.trans (congrArg ty q.1)).trans tc45) (by decide))).trans s42
                          have s57 := (fh47 m 55 (fun q => absurd (((tm).symm.trans (congrArg ty q.1)).trans tc45) (by decide))).trans s43
                          have s58 := (fh47 m 56 (fun q => absurd (((tm).symm.trans (congrArg ty q.1)).trans tc45) (by decide))).trans ec45
                          have pr59 := gEl.set (i := n0) (z := 0) uq tc45 (by decide) eh47 (by omega) (by omega)
                          refine gz_s 1 (pc' := 193) (L' := [some (.ref m), some (.int (zi a)), some (.int (zi b)), some (.int (zi t)), some (.int (zi jn4v0)), some (.int (zi z14)), some (.int (zi kb))]) (S' := [.ref m]) rfl ?_
                          refine gs_gtr rfl (by decide) rfl sh47.1 tm rfl rfl rfl (fun c60 ec60 tc60 => ?_)
                          refine gz_s 1 (pc' := 197) (L' := [some (.ref m), some (.int (zi a)), some (.int (zi b)), some (.int (zi t)), some (.int (zi jn4v0)), some (.int (zi z14)), some (.int (zi kb))]) (S' := [.ref m, .ref c60]) rfl ?_
                          refine gs_gtk rfl (by decide) rfl sh47.1 tm rfl rfl s53 ?_
                          refine gz_s 1 (pc' := 201) (L' := [some (.ref m), some (.int (zi a)), some (.int (zi b)), some (.int (zi t)), some (.int (zi jn4v0)), some (.int (zi z14)), some (.int (zi kb))]) (S' := [.int (zi t), .int (zi n0), .ref c60]) rfl ?_
                          have hl61 : 10 ≤ h47.2.2.2.1 c60 ∧ h47.2.2.2.1 c60 ≤ 10 := gJ.rowl (G := gGG) sh47.1 tc60 rfl
                          refine gs_ast rfl (by decide) sh47 tc60 rfl rfl rfl (by decide) (fun _ => rfl) (by omega) (by omega) (fun _ => (by decide : (30999 : Nat) ∈ ([1000, 1053, 27999, 28999, 29999, 30999, 31999] : List Nat))) (by omega) (by omega) (fun h62 sh62 eh62 fh62 => ?_)
                          have pr63 := gRow.pt fh62 tc60 (by decide) pr48
                          have pr64 := gRow.pt fh62 tc60 (by decide) pr49
                          have pr65 := gCq.pt fh62 tc60 (by decide) pr50
                          have pr66 := gEl.pt fh62 tc60 (by decide) pr51
                          have pr67 := gEl.pt fh62 tc60 (by decide) pr52
                          have pr68 := gEl.pt fh62 tc60 (by decide) pr59
                          have s69 := (fh62 m 53 (fun q => absurd (((tm).symm.trans (congrArg ty q.1)).trans tc60) (by decide))).trans s53
                          have s70 := (fh62 m 0 (fun q => absurd (((tm).symm.trans (congrArg ty q.1)).trans tc60) (by decide))).trans s54
                          have s71 := (fh62 m 58 (fun q => absurd (((tm).symm.trans (congrArg ty q.1)).trans tc60) (by decide))).trans s55
                          have s72 := (fh62 m 54 (fun q => absurd (((tm).symm.trans (congrArg ty q.1)).trans tc60) (by decide))).trans s56
                          have s73 := (fh62 m 55 (fun q => absurd (((tm).symm.trans (congrArg ty q.1)).trans tc60) (by decide))).trans s57
                          have s74 := (fh62 m 56 (fun q => absurd (((tm).symm.trans (congrArg ty q.1)).trans tc60) (by decide))).trans s58
                          have s75 := (fh62 m 57 (fun q => absurd (((tm).symm.trans (congrArg ty q.1)).trans tc60) (by decide))).trans ec60
                          have pr76 := gEl.set (i := n0) (z := t) uq tc60 (by decide) eh62 (by omega) (by omega)
                          refine gz_s 2 (pc' := 204) (L' := [some (.ref m), some (.int (zi a)), some (.int (zi b)), some (.int (zi t)), some (.int (zi jn4v0)), some (.int (zi z14)), some (.int (zi kb))]) (S' := [.ref m, .ref m]) rfl ?_
                          refine gs_gtk rfl (by decide) rfl sh62.1 tm rfl rfl s69 ?_
                          refine gy_s 2 (pc' := 209) (L' := [some (.ref m), some (.int (zi a)), some (.int (zi b)), some (.int (zi t)), some (.int (zi jn4v0)), some (.int (zi z14)), some (.int (zi kb))]) (S' := [.int ((zi n0) + (zi 1)), .ref m]) (L2 := [some (.ref m), some (.int (zi a)), some (.int (zi b)), some (.int (zi t)), some (.int (zi jn4v0)), some (.int (zi z14)), some (.int (zi kb))]) (S2 := [.int (zi (n0 + 1)), .ref m]) rfl (by simp only [zi_add, zi_sub, zi_mul, zi_neg, zi_and1, zi_and7, zi_and15, zi_and31, zi_and255]) (by simp only [zi_add, zi_sub, zi_mul, zi_neg, zi_and1, zi_and7, zi_and15, zi_and31, zi_and255]) ?_
                          obtain ⟨c2, rc2, hcm⟩ := pr65
                          have hts77 : gTs ty (n0 + 1) h62 := gTs.tell (by omega) pr63 pr64 rc2 tle tsm hcm (by omega) (by omega)
                          refine gs_put rfl (by decide) rfl sh62 tm rfl rfl rfl rfl (Or.inl rfl) (by decide) (by omega) (by omega) (fun h78 sh78 eh78 fh78 => ?_)
                          have pr79 := gRow.pt fh78 tm (by decide) pr63
                          have pr80 := gRow.pt fh78 tm (by decide) pr64
                          have pr81 := gCq.pt fh78 tm (by decide) pr65
                          have pr82 := gEl.pt fh78 tm (by decide) pr66
                          have pr83 := gEl.pt fh78 tm (by decide) pr67
                          have pr84 := gEl.pt fh78 tm (by decide) pr68
                          have pr85 := gEl.pt fh78 tm (by decide) pr76
                          have pr86 := gTs.pt fh78 tm (by decide) hts77
                          have s87 := (fh78 m 0 (fun q => absurd q.2 (by decide))).trans s70
                          have s88 := (fh78 m 58 (fun q => absurd q.2 (by decide))).trans s71
                          have s89 := (fh78 m 54 (fun q => absurd q.2 (by decide))).trans s72
                          have s90 := (fh78 m 55 (fun q => absurd q.2 (by decide))).trans s73
                          have s91 := (fh78 m 56 (fun q => absurd q.2 (by decide))).trans s74
                          have s92 := (fh78 m 57 (fun q => absurd q.2 (by decide))).trans s75
                          refine gz_s 1 (pc' := 213) (L' := [some (.ref m), some (.int (zi a)), some (.int (zi b)), some (.int (zi t)), some (.int (zi jn4v0)), some (.int (zi z14)), some (.int (zi kb))]) (S' := [.ref m]) rfl ?_
                          refine gs_gtk rfl (by decide) rfl sh78.1 tm rfl rfl eh78 ?_
                          exact gz_end (I := .ireturn) (len := 1) rfl (Or.inl rfl) ⟨sh78, n0 + 1, n0 + 1, rfl, (by omega), (by omega), eh78, (by omega), (by omega), pr86⟩
                        · refine gy_icF rfl (by decide) (by decide) (by omega) (by omega) hc20 ?_
                          obtain ⟨c2, rc2, hcm⟩ := lp17k6
                          refine gz_s 1 (pc' := 138) (L' := [some (.ref m), some (.int (zi a)), some (.int (zi b)), some (.int (zi t)), some (.int (zi jn4v0)), some (.int (zi z14)), some (.int (zi kb))]) (S' := [.ref m]) rfl ?_
                          refine gs_gtk rfl (by decide) rfl sh19.1 tm rfl rfl lp17k2 ?_
                          refine gz_s 2 (pc' := 144) (L' := [some (.ref m), some (.int (zi a)), some (.int (zi b)), some (.int (zi t)), some (.int (zi jn4v0)), some (.int (zi z14)), some (.int (zi kb))]) (S' := [.int (zi t), .int (zi kb), .ref c12]) rfl ?_
                          have hl93 : 64 ≤ h19.2.2.2.1 c12 ∧ h19.2.2.2.1 c12 ≤ 64 := gJ.rowl (G := gGG) sh19.1 tc12 rfl
                          refine gs_ast rfl (by decide) sh19 tc12 rfl rfl rfl (by decide) (fun _ => rfl) (by omega) (by omega) (fun _ => (by decide : (31999 : Nat) ∈ ([1000, 1053, 27999, 28999, 29999, 30999, 31999] : List Nat))) (by omega) (by omega) (fun h94 sh94 eh94 fh94 => ?_)
                          have pr95 := gRow.pt fh94 tc12 (by decide) lp17k3
                          have pr96 := gRow.pt fh94 tc12 (by decide) lp17k4
                          have pr97 := gRow.put (i := kb) (z := t) uq tc12 (by decide) fh94 eh94 (by omega) (by omega) rc2
                          have s98 := (fh94 m 53 (fun q => absurd (((tm).symm.trans (congrArg ty q.1)).trans tc12) (by decide))).trans lp17k0
                          have s99 := (fh94 m 0 (fun q => absurd (((tm).symm.trans (congrArg ty q.1)).trans tc12) (by decide))).trans lp17k1
                          have s100 := (fh94 m 58 (fun q => absurd (((tm).symm.trans (congrArg ty q.1)).trans tc12) (by decide))).trans lp17k2
                          have pr101 := gEl.set (i := kb) (z := t) uq tc12 (by decide) eh94 (by omega) (by omega)
                          have e6 : cf (kb).toNat = cf a.toNat := lp17k5 kb (by omega) (by omega)
                          have e7 : t + 1 ≤ gcr (cf (kb).toNat) := by rw [e6]; unfold gcr; split <;> omega
                          have hcq102 : gCq ty cf a (kb + 1) t h94 := ⟨_, pr97, hcm.step (by omega) (by omega) e7 (by omega)⟩
                          refine gy_s 2 (pc' := 131) (L' := [some (.ref m), some (.int (zi a)), some (.int (zi b)), some (.int (zi t)), some (.int (zi jn4v0)), some (.int (zi z14)), some (.int ((zi kb) + zi 1))]) (S' := []) (L2 := [some (.ref m), some (.int (zi a)), some (.int (zi b)), some (.int (zi t)), some (.int (zi jn4v0)), some (.int (zi z14)), some (.int (zi (kb + 1)))]) (S2 := []) rfl (by simp only [zi_add, zi_sub, zi_mul, zi_neg, zi_and1, zi_and7, zi_and15, zi_and31, zi_and255]) (by simp only [zi_add, zi_sub, zi_mul, zi_neg, zi_and1, zi_and7, zi_and15, zi_and31, zi_and255]) ?_
                          exact gz_wk (ihlp17 h94 (kb + 1) (by omega) sh94 (by omega) (by omega) (by omega) s98 s99 s100 pr95 pr96 lp17k5 hcq102) (gLw.s (gLw.s (gLw.s (gLw.s (gLw.s (gLw.s (gLw.s gLw.z)))))))
                    exact gz_wk (lp17 _ h10 a (Nat.lt_succ_self _) sh10 (by omega) (by omega) (by omega) lp9k0 lp9k1 ec12 lp9k3 lp9k4 lp9k6 hcq18) (gLw.s (gLw.s (gLw.s (gLw.s (gLw.s (gLw.s (gLw.s gLw.z)))))))
                  · refine gy_icF rfl (by decide) (by decide) (by omega) (by omega) hc16 ?_
                    refine gy_s 4 (pc' := 123) (L' := [some (.ref m), some (.int (zi a)), some (.int (zi b)), some (.int (zi t)), some (.int (zi jn4v0)), some (.int (zi z14)), none]) (S' := [.int ((zi t) + (zi 1)), .int (zi z14)]) (L2 := [some (.ref m), some (.int (zi a)), some (.int (zi b)), some (.int (zi t)), some (.int (zi jn4v0)), some (.int (zi z14)), none]) (S2 := [.int (zi (t + 1)), .int (zi z14)]) rfl (by simp only [zi_add, zi_sub, zi_mul, zi_neg, zi_and1, zi_and7, zi_and15, zi_and31, zi_and255]) (by simp only [zi_add, zi_sub, zi_mul, zi_neg, zi_and1, zi_and7, zi_and15, zi_and31, zi_and255]) ?_
                    by_cases hc103 : (z14 : Int) = t + 1
                    · refine gy_icT (pc' := 128) rfl (by decide) (by decide) (by omega) (by omega) hc103 ?_
                      refine gz_s 2 (pc' := 131) (L' := [some (.ref m), some (.int (zi a)), some (.int (zi b)), some (.int (zi t)), some (.int (zi jn4v0)), some (.int (zi z14)), some (.int (zi a))]) (S' := []) rfl ?_
                      have hcq105 : gCq ty cf a a t h10 := ⟨cf, lp9k5, gCm.zero⟩
                      have hcf : cf a.toNat = cf a.toNat := rfl
                      have lp104 : ∀ (fu : Nat) (h106 : gH) (kb : Int), (65 - kb).toNat < fu → gSs rT 1027 ty [1000, 1053, 27999, 28999, 29999, 30999, 31999] h h106 → (0 ≤ kb ∧ kb ≤ 64) → (a ≤ kb) → (kb ≤ b + 1) → h106.2.2.2.2 m 53 = .int (zi n0) → h106.2.2.2.2 m 0 = .int (zi 0) → h106.2.2.2.2 m 58 = .ref c12 → gRow ty 27 tf h106 → gRow ty 28 tt h106 → (∀ j : Int, a ≤ j → j < k → cf j.toNat = cf a.toNat) → gCq ty cf a kb t h106 → gz gPP gGG gcn (d + 0) gt182 131 [some (.ref m), some (.int (zi a)), some (.int (zi b)), some (.int (zi t)), some (.int (zi jn4v0)), some (.int (zi z14)), some (.int (zi kb))] [] h106 (fun q _ => gSs rT 1027 ty [1000, 1053, 27999, 28999, 29999, 30999, 31999] h q.2.2 ∧ ∃ z n1 : Int, gfin gt182 q.1 q.2.1 = some (some (.int (zi z))) ∧ 0 ≤ z ∧ z ≤ 10 ∧ q.2.2.2.2.2.2 m 53 = .int (zi n1) ∧ 0 ≤ n1 ∧ n1 ≤ 10 ∧ (gTs ty n1 q.2.2)) := by
                        intro fu
                        induction fu with
                        | zero => intro h106 kb hm; exact absurd hm (Nat.not_lt_zero _)
                        | succ fu ihlp104 =>
                          intro h106 kb lp104m sh106 lp104f0 lp104f1 lp104f2 lp104k0 lp104k1 lp104k2 lp104k3 lp104k4 lp104k5 lp104k6
                          refine gz_s 2 (pc' := 134) (L' := [some (.ref m), some (.int (zi a)), some (.int (zi b)), some (.int (zi t)), some (.int (zi jn4v0)), some (.int (zi z14)), some (.int (zi kb))]) (S' := [.int (zi b), .int (zi kb)]) rfl ?_
                          by_cases hc107 : (b : Int) < kb
                          · refine gy_icT (pc' := 151) rfl (by decide) (by decide) (by omega) (by omega) hc107 ?_
                            refine gz_s 1 (pc' := 152) (L' := [some (.ref m), some (.int (zi a)), some (.int (zi b)), some (.int (zi t)), some (.int (zi jn4v0)), some (.int (zi z14)), some (.int (zi kb))]) (S' := [.ref m]) rfl ?_
                            refine gs_gtr rfl (by decide) rfl sh106.1 tm rfl rfl rfl (fun c108 ec108 tc108 => ?_)
                            refine gz_s 1 (pc' := 156) (L' := [some (.ref m), some (.int (zi a)), some (.int (zi b)), some (.int (zi t)), some (.int (zi jn4v0)), some (.int (zi z14)), some (.int (zi kb))]) (S' := [.ref m, .ref c108]) rfl ?_
                            refine gs_gtk rfl (by decide) rfl sh106.1 tm rfl rfl lp104k0 ?_
                            refine gz_s 1 (pc' := 160) (L' := [some (.ref m), some (.int (zi a)), some (.int (zi b)), some (.int (zi t)), some (.int (zi jn4v0)), some (.int (zi z14)), some (.int (zi kb))]) (S' := [.int (zi a), .int (zi n0), .ref c108]) rfl ?_
                            have hl109 : 10 ≤ h106.2.2.2.1 c108 ∧ h106.2.2.2.1 c108 ≤ 10 := gJ.rowl (G := gGG) sh106.1 tc108 rfl
                            refine gs_ast rfl (by decide) sh106 tc108 rfl rfl rfl (by decide) (fun _ => rfl) (by omega) (by omega) (fun _ => (by decide : (27999 : Nat) ∈ ([1000, 1053, 27999, 28999, 29999, 30999, 31999] : List Nat))) (by omega) (by omega) (fun h110 sh110 eh110 fh110 => ?_)
                            have pr111 := gRow.put (i := n0) (z := a) uq tc108 (by decide) fh110 eh110 (by omega) (by omega) lp104k3
                            have pr112 := gRow.pt fh110 tc108 (by decide) lp104k4
                            have pr113 := gCq.pt fh110 tc108 (by decide) lp104k6
                            have s114 := (fh110 m 53 (fun q => absurd (((tm).symm.trans (congrArg ty q.1)).trans tc108) (by decide))).trans lp104k0
                            have s115 := (fh110 m 0 (fun q => absurd (((tm).symm.trans (congrArg ty q.1)).trans tc108) (by decide))).trans lp104k1
                            have s116 := (fh110 m 58 (fun q => absurd (((tm).symm.trans (congrArg ty q.1)).trans tc108) (by decide))).trans lp104k2
                            have s117 := (fh110 m 54 (fun q => absurd (((tm).symm.trans (congrArg ty q.1)).trans tc108) (by decide))).trans ec108
                            have pr118 := gEl.set (i := n0) (z := a) uq tc108 (by decide) eh110 (by omega) (by omega)
                            refine gz_s 1 (pc' := 162) (L' := [some (.ref m), some (.int (zi a)), some (.int (zi b)), some (.int (zi t)), some (.int (zi jn4v0)), some (.int (zi z14)), some (.int (zi kb))]) (S' := [.ref m]) rfl ?_
                            refine gs_gtr rfl (by decide) rfl sh110.1 tm rfl rfl rfl (fun c119 ec119 tc119 => ?_)
                            refine gz_s 1 (pc' := 166) (L' := [some (.ref m), some (.int (zi a)), some (.int (zi b)), some (.int (zi t)), some (.int (zi jn4v0)), some (.int (zi z14)), some (.int (zi kb))]) (S' := [.ref m, .ref c119]) rfl ?_
                            refine gs_gtk rfl (by decide) rfl sh110.1 tm rfl rfl s114 ?_
                            refine gz_s 1 (pc' := 170) (L' := [some (.ref m), some (.int (zi a)), some (.int (zi b)), some (.int (zi t)), some (.int (zi jn4v0)), some (.int (zi z14)), some (.int (zi kb))]) (S' := [.int (zi b), .int (zi n0), .ref c119]) rfl ?_
                            have hl120 : 10 ≤ h110.2.2.2.1 c119 ∧ h110.2.2.2.1 c119 ≤ 10 := gJ.rowl (G := gGG) sh110.1 tc119 rfl
                            refine gs_ast rfl (by decide) sh110 tc119 rfl rfl rfl (by decide) (fun _ => rfl) (by omega) (by omega) (fun _ => (by decide : (28999 : Nat) ∈ ([1000, 1053, 27999, 28999, 29999, 30999, 31999] : List Nat))) (by omega) (by omega) (fun h121 sh121 eh121 fh121 => ?_)
                            have pr122 := gRow.pt fh121 tc119 (by decide) pr111
                            have pr123 := gRow.put (i := n0) (z := b) uq tc119 (by decide) fh121 eh121 (by omega) (by omega) pr112
                            have pr124 := gCq.pt fh121 tc119 (by decide) pr113
                            have pr125 := gEl.pt fh121 tc119 (by decide) pr118
                            have s126 := (fh121 m 53 (fun q => absurd (((tm).symm.trans (congrArg ty q.1)).trans tc119) (by decide))).trans s114
                            have s127 := (fh121 m 0 (fun q => absurd (((tm).symm.trans (congrArg ty q.1)).trans tc119) (by decide))).trans s115
                            have s128 := (fh121 m 58 (fun q => absurd (((tm).symm.trans (congrArg ty q.1)).trans tc119) (by decide))).trans s116
                            have s129 := (fh121 m 54 (fun q => absurd (((tm).symm.trans (congrArg ty q.1)).trans tc119) (by decide))).trans s117
                            have s130 := (fh121 m 55 (fun q => absurd (((tm).symm.trans (congrArg ty q.1)).trans tc119) (by decide))).trans ec119
                            have pr131 := gEl.set (i := n0) (z := b) uq tc119 (by decide) eh121 (by omega) (by omega)
                            refine gz_s 1 (pc' := 172) (L' := [some (.ref m), some (.int (zi a)), some (.int (zi b)), some (.int (zi t)), some (.int (zi jn4v0)), some (.int (zi z14)), some (.int (zi kb))]) (S' := [.ref m]) rfl ?_
                            refine gs_gtr rfl (by decide) rfl sh121.1 tm rfl rfl rfl (fun c132 ec132 tc132 => ?_)
                            refine gz_s 1 (pc' := 176) (L' := [some (.ref m), some (.int (zi a)), some (.int (zi b)), some (.int (zi t)), some (.int (zi jn4v0)), some (.int (zi z14)), some (.int (zi kb))]) (S' := [.ref m, .ref c132]) rfl ?_
                            refine gs_gtk rfl (by decide) rfl sh121.1 tm rfl rfl s126 ?_
                            refine gz_s 2 (pc' := 182) (L' := [some (.ref m), some (.int (zi a)), some (.int (zi b)), some (.int (zi t)), some (.int (zi jn4v0)), some (.int (zi z14)), some (.int (zi kb))]) (S' := [.int (zi (-1)), .int (zi z14), .int (zi n0), .ref c132]) rfl ?_
                            refine gy_icT (pc' := 189) rfl (by decide) (by decide) (by omega) (by omega) (by first | (simp [zc]; done) | (simp only [zc]; omega)) ?_
                            refine gz_s 1 (pc' := 191) (L' := [some (.ref m), some (.int (zi a)), some (.int (zi b)), some (.int (zi t)), some (.int (zi jn4v0)), some (.int (zi z14)), some (.int (zi kb))]) (S' := [.int (zi z14), .int (zi n0), .ref c132]) rfl ?_
                            have hl133 : 10 ≤ h121.2.2.2.1 c132 ∧ h121.2.2.2.1 c132 ≤ 10 := gJ.rowl (G := gGG) sh121.1 tc132 rfl
                            refine gs_ast rfl (by decide) sh121 tc132 rfl rfl rfl (by decide) (fun _ => rfl) (by omega) (by omega) (fun _ => (by decide : (29999 : Nat) ∈ ([1000, 1053, 27999, 28999, 29999, 30999, 31999] : List Nat))) (by omega) (by omega) (fun h134 sh134 eh134 fh134 => ?_)
                            have pr135 := gRow.pt fh134 tc132 (by decide) pr122
                            have pr136 := gRow.pt fh134 tc132 (by decide) pr123
                            have pr137 := gCq.pt fh134 tc132 (by decide) pr124
                            have pr138 := gEl.pt fh134 tc132 (by decide) pr125
                            have pr139 := gEl.pt fh134 tc132 (by decide) pr131
                            have s140 := (fh134 m 53 (fun q => absurd (((tm).symm.trans (congrArg ty q.1)).trans tc132) (by decide))).trans s126
                            have s141 := (fh134 m 0 (fun q => absurd (((tm).symm.trans (congrArg ty q.1)).trans tc132) (by decide))).trans s127
                            have s142 := (fh134 m 58 (fun q => absurd (((tm).symm.trans (congrArg ty q.1)).trans tc132) (by decide))).trans s128
                            have s143 := (fh134 m 54 (fun q => absurd (((tm).symm.trans (congrArg ty q.1)).trans tc132) (by decide))).trans s129
                            have s144 := (fh134 m 55 (fun q => absurd (((tm).symm.trans (congrArg ty q.1)).trans tc132) (by decide))).trans s130
                            have s145 := (fh134 m 56 (fun q => absurd (((tm).symm.trans (congrArg ty q.1)).trans tc132) (by decide))).trans ec132
                            have pr146 := gEl.set (i := n0) (z := z14) uq tc132 (by decide) eh134 (by omega) (by omega)
                            refine gz_s 1 (pc' := 193) (L' := [some (.ref m), some (.int (zi a)), some (.int (zi b)), some (.int (zi t)), some (.int (zi jn4v0)), some (.int (zi z14)), some (.int (zi kb))]) (S' := [.ref m]) rfl ?_
                            refine gs_gtr rfl (by decide) rfl sh134.1 tm rfl rfl rfl (fun c147 ec147 tc147 => ?_)
                            refine gz_s 1 (pc' := 197) (L' := [some (.ref m), some (.int (zi a)), some (.int (zi b)), some (.int (zi t)), some (.int (zi jn4v0)), some (.int (zi z14)), some (.int (zi kb))]) (S' := [.ref m, .ref c147]) rfl ?_
                            refine gs_gtk rfl (by decide) rfl sh134.1 tm rfl rfl s140 ?_
                            refine gz_s 1 (pc' := 201) (L' := [some (.ref m), some (.int (zi a)), some (.int (zi b)), some (.int (zi t)), some (.int (zi jn4v0)), some (.int (zi z14)), some (.int (zi kb))]) (S' := [.int (zi t), .int (zi n0), .ref c147]) rfl ?_
                            have hl148 : 10 ≤ h134.2.2.2.1 c147 ∧ h134.2.2.2.1 c147 ≤ 10 := gJ.rowl (G := gGG) sh134.1 tc147 rfl
                            refine gs_ast rfl (by decide) sh134 tc147 rfl rfl rfl (by decide) (fun _ => rfl) (by omega) (by omega) (fun _ => (by decide : (30999 : Nat) ∈ ([1000, 1053, 27999, 28999, 29999, 30999, 31999] : List Nat))) (by omega) (by omega) (fun h149 sh149 eh149 fh149 => ?_)
                            have pr150 := gRow.pt fh149 tc147 (by decide) pr135
                            have pr151 := gRow.pt fh149 tc147 (by decide) pr136
                            have pr152 := gCq.pt fh149 tc147 (by decide) pr137
                            have pr153 := gEl.pt fh149 tc147 (by decide) pr138
                            have pr154 := gEl.pt fh149 tc147 (by decide) pr139
                            have pr155 := gEl.pt fh149 tc147 (by decide) pr146
                            have s156 := (fh149 m 53 (fun q => absurd (((tm).symm.trans (congrArg ty q.1)).trans tc147) (by decide))).trans s140
                            have s157 := (fh149 m 0 (fun q => absurd (((tm).symm.trans (congrArg ty q.1)).trans tc147) (by decide))).trans s141
                            have s158 := (fh149 m 58 (fun q => absurd (((tm).symm.trans (congrArg ty q.1)).trans tc147) (by decide))).trans s142
                            have s159 := (fh149 m 54 (fun q => absurd (((tm).symm.trans (congrArg ty q.1)).trans tc147) (by decide))).trans s143
                            have s160 := (fh149 m 55 (fun q => absurd (((tm).symm.trans (congrArg ty q.1)).trans tc147) (by decide))).trans s144
                            have s161 := (fh149 m 56 (fun q => absurd (((tm).symm.trans (congrArg ty q.1)).trans tc147) (by decide))).trans s145
                            have s162 := (fh149 m 57 (fun q => absurd (((tm).symm.trans (congrArg ty q.1)).trans tc147) (by decide))).trans ec147
                            have pr163 := gEl.set (i := n0) (z := t) uq tc147 (by decide) eh149 (by omega) (by omega)
                            refine gz_s 2 (pc' := 204) (L' := [some (.ref m), some (.int (zi a)), some (.int (zi b)), some (.int (zi t)), some (.int (zi jn4v0)), some (.int (zi z14)), some (.int (zi kb))]) (S' := [.ref m, .ref m]) rfl ?_
                            refine gs_gtk rfl (by decide) rfl sh149.1 tm rfl rfl s156 ?_
                            refine gy_s 2 (pc' := 209) (L' := [some (.ref m), some (.int (zi a)), some (.int (zi b)), some (.int (zi t)), some (.int (zi jn4v0)), some (.int (zi z14)), some (.int (zi kb))]) (S' := [.int ((zi n0) + (zi 1)), .ref m]) (L2 := [some (.ref m), some (.int (zi a)), some (.int (zi b)), some (.int (zi t)), some (.int (zi jn4v0)), some (.int (zi z14)), some (.int (zi kb))]) (S2 := [.int (zi (n0 + 1)), .ref m]) rfl (by simp only [zi_add, zi_sub, zi_mul, zi_neg, zi_and1, zi_and7, zi_and15, zi_and31, zi_and255]) (by simp only [zi_add, zi_sub, zi_mul, zi_neg, zi_and1, zi_and7, zi_and15, zi_and31, zi_and255]) ?_
                            obtain ⟨c2, rc2, hcm⟩ := pr152
                            have hts164 : gTs ty (n0 + 1) h149 := gTs.tell (by omega) pr150 pr151 rc2 tle tsm hcm (by omega) (by omega)
                            refine gs_put rfl (by decide) rfl sh149 tm rfl rfl rfl rfl (Or.inl rfl) (by decide) (by omega) (by omega) (fun h165 sh165 eh165 fh165 => ?_)
                            have pr166 := gRow.pt fh165 tm (by decide) pr150
                            have pr167 := gRow.pt fh165 tm (by decide) pr151
                            have pr168 := gCq.pt fh165 tm (by decide) pr152
                            have pr169 := gEl.pt fh165 tm (by decide) pr153
                            have pr170 := gEl.pt fh165 tm (by decide) pr154
                            have pr171 := gEl.pt fh165 tm (by decide) pr155
                            have pr172 := gEl.pt fh165 tm (by decide) pr163
                            have pr173 := gTs.pt fh165 tm (by decide) hts164
                            have s174 := (fh165 m 0 (fun q => absurd q.2 (by decide))).trans s157
                            have s175 := (fh165 m 58 (fun q => absurd q.2 (by decide))).trans s158
                            have s176 := (fh165 m 54 (fun q => absurd q.2 (by decide))).trans s159
                            have s177 := (fh165 m 55 (fun q => absurd q.2 (by decide))).trans s160
                            have s178 := (fh165 m 56 (fun q => absurd q.2 (by decide))).trans s161
                            have s179 := (fh165 m 57 (fun q => absurd q.2 (by decide))).trans s162
                            refine gz_s 1 (pc' := 213) (L' := [some (.ref m), some (.int (zi a)), some (.int (zi b)), some (.int (zi t)), some (.int (zi jn4v0)), some (.int (zi z14)), some (.int (zi kb))]) (S' := [.ref m]) rfl ?_
                            refine gs_gtk rfl (by decide) rfl sh165.1 tm rfl rfl eh165 ?_
                            exact gz_end (I := .ireturn) (len := 1) rfl (Or.inl rfl) ⟨sh165, n0 + 1, n0 + 1, rfl, (by omega), (by omega), eh165, (by omega), (by omega), pr173⟩
                          · refine gy_icF rfl (by decide) (by decide) (by omega) (by omega) hc107 ?_
                            obtain ⟨c2, rc2, hcm⟩ := lp104k6
                            refine gz_s 1 (pc' := 138) (L' := [some (.ref m), some (.int (zi a)), some (.int (zi b)), some (.int (zi t)), some (.int (zi jn4v0)), some (.int (zi z14)), some (.int (zi kb))]) (S' := [.ref m]) rfl ?_
                            refine gs_gtk rfl (by decide) rfl sh106.1 tm rfl rfl lp104k2 ?_
                            refine gz_s 2 (pc' := 144) (L' := [some (.ref m), some (.int (zi a)), some (.int (zi b)), some (.int (zi t)), some (.int (zi jn4v0)), some (.int (zi z14)), some (.int (zi kb))]) (S' := [.int (zi t), .int (zi kb), .ref c12]) rfl ?_
                            have hl180 : 64 ≤ h106.2.2.2.1 c12 ∧ h106.2.2.2.1 c12 ≤ 64 := gJ.rowl (G := gGG) sh106.1 tc12 rfl
                            refine gs_ast rfl (by decide) sh106 tc12 rfl rfl rfl (by decide) (fun _ => rfl) (by omega) (by omega) (fun _ => (by decide : (31999 : Nat) ∈ ([1000, 1053, 27999, 28999, 29999, 30999, 31999] : List Nat))) (by omega) (by omega) (fun h181 sh181 eh181 fh181 => ?_)
                            have pr182 := gRow.pt fh181 tc12 (by decide) lp104k3
                            have pr183 := gRow.pt fh181 tc12 (by decide) lp104k4
                            have pr184 := gRow.put (i := kb) (z := t) uq tc12 (by decide) fh181 eh181 (by omega) (by omega) rc2
                            have s185 := (fh181 m 53 (fun q => absurd (((tm).symm.trans (congrArg ty q.1)).trans tc12) (by decide))).trans lp104k0
                            have s186 := (fh181 m 0 (fun q => absurd (((tm).symm.trans (congrArg ty q.1)).trans tc12) (by decide))).trans lp104k1
                            have s187 := (fh181 m 58 (fun q => absurd (((tm).symm.trans (congrArg ty q.1)).trans tc12) (by decide))).trans lp104k2
                            have pr188 := gEl.set (i := kb) (z := t) uq tc12 (by decide) eh181 (by omega) (by omega)
                            have e6 : cf (kb).toNat = cf a.toNat := lp104k5 kb (by omega) (by omega)
                            have e7 : t + 1 ≤ gcr (cf (kb).toNat) := by rw [e6]; unfold gcr; split <;> omega
                            have hcq189 : gCq ty cf a (kb + 1) t h181 := ⟨_, pr184, hcm.step (by omega) (by omega) e7 (by omega)⟩
                            refine gy_s 2 (pc' := 131) (L' := [some (.ref m), some (.int (zi a)), some (.int (zi b)), some (.int (zi t)), some (.int (zi jn4v0)), some (.int (zi z14)), some (.int ((zi kb) + zi 1))]) (S' := []) (L2 := [some (.ref m), some (.int (zi a)), some (.int (zi b)), some (.int (zi t)), some (.int (zi jn4v0)), some (.int (zi z14)), some (.int (zi (kb + 1)))]) (S2 := []) rfl (by simp only [zi_add, zi_sub, zi_mul, zi_neg, zi_and1, zi_and7, zi_and15, zi_and31, zi_and255]) (by simp only [zi_add, zi_sub, zi_mul, zi_neg, zi_and1, zi_and7, zi_and15, zi_and31, zi_and255]) ?_
                            exact gz_wk (ihlp104 h181 (kb + 1) (by omega) sh181 (by omega) (by omega) (by omega) s185 s186 s187 pr182 pr183 lp104k5 hcq189) (gLw.s (gLw.s (gLw.s (gLw.s (gLw.s (gLw.s (gLw.s gLw.z)))))))
                      exact gz_wk (lp104 _ h10 a (Nat.lt_succ_self _) sh10 (by omega) (by omega) (by omega) lp9k0 lp9k1 ec12 lp9k3 lp9k4 lp9k6 hcq105) (gLw.s (gLw.s (gLw.s (gLw.s (gLw.s (gLw.s (gLw.s gLw.z)))))))
                    · refine gy_icF rfl (by decide) (by decide) (by omega) (by omega) hc103 ?_
                      refine gz_s 1 (pc' := 127) (L' := [some (.ref m), some (.int (zi a)), some (.int (zi b)), some (.int (zi t)), some (.int (zi jn4v0)), some (.int (zi z14)), none]) (S' := [.int (zi 0)]) rfl ?_
                      exact gz_end (I := .ireturn) (len := 1) rfl (Or.inl rfl) ⟨sh10, 0, n0, rfl, (by omega), (by omega), lp9k0, (by omega), (by omega), lp9k2⟩
                · refine gy_icF rfl (by decide) (by decide) (by omega) (by omega) hc11 ?_
                  refine gz_s 1 (pc' := 81) (L' := [some (.ref m), some (.int (zi a)), some (.int (zi b)), some (.int (zi t)), some (.int (zi jn4v0)), some (.int (zi k)), none]) (S' := [.ref m]) rfl ?_
                  refine gs_gtr rfl (by decide) rfl sh10.1 tm rfl rfl rfl (fun c190 ec190 tc190 => ?_)
                  refine gz_s 1 (pc' := 86) (L' := [some (.ref m), some (.int (zi a)), some (.int (zi b)), some (.int (zi t)), some (.int (zi jn4v0)), some (.int (zi k)), none]) (S' := [.int (zi k), .ref c190]) rfl ?_
                  have hl191 : 64 ≤ h10.2.2.2.1 c190 ∧ h10.2.2.2.1 c190 ≤ 64 := gJ.rowl (G := gGG) sh10.1 tc190 rfl
                  refine gs_ald rfl (by decide) sh10.1 tc190 rfl rfl rfl (by decide) (fun _ => rfl) (by omega) (by omega) (fun z192 ez192 az192 bz192 => ?_)
                  have hf193 := gRow.at (i := k) (z := z192) lp9k5 tc190 ez192 (by omega) (by omega) (by omega)
                  refine gz_s 1 (pc' := 88) (L' := [some (.ref m), some (.int (zi a)), some (.int (zi b)), some (.int (zi t)), some (.int (zi jn4v0)), some (.int (zi k)), none]) (S' := [.ref m, .int (zi z192)]) rfl ?_
                  refine gs_gtk rfl (by decide) rfl sh10.1 tm rfl rfl ec190 ?_
                  refine gz_s 1 (pc' := 92) (L' := [some (.ref m), some (.int (zi a)), some (.int (zi b)), some (.int (zi t)), some (.int (zi jn4v0)), some (.int (zi k)), none]) (S' := [.int (zi a), .ref c190, .int (zi z192)]) rfl ?_
                  have hl194 : 64 ≤ h10.2.2.2.1 c190 ∧ h10.2.2.2.1 c190 ≤ 64 := gJ.rowl (G := gGG) sh10.1 tc190 rfl
                  refine gs_ald rfl (by decide) sh10.1 tc190 rfl rfl rfl (by decide) (fun _ => rfl) (by omega) (by omega) (fun z195 ez195 az195 bz195 => ?_)
                  have hf196 := gRow.at (i := a) (z := z195) lp9k5 tc190 ez195 (by omega) (by omega) (by omega)
                  by_cases hc197 : (z192 : Int) = z195
                  · refine gy_icT (pc' := 98) rfl (by decide) (by decide) (by omega) (by omega) hc197 ?_
                    have hce198 : ∀ j : Int, a ≤ j → j < k + 1 → cf j.toNat = cf a.toNat := fun j h1 h2 => by
                      by_cases e : j = k
                      · subst e; omega
                      · exact lp9k6 j h1 (by omega)
                    refine gy_s 2 (pc' := 74) (L' := [some (.ref m), some (.int (zi a)), some (.int (zi b)), some (.int (zi t)), some (.int (zi jn4v0)), some (.int ((zi k) + zi 1)), none]) (S' := []) (L2 := [some (.ref m), some (.int (zi a)), some (.int (zi b)), some (.int (zi t)), some (.int (zi jn4v0)), some (.int (zi (k + 1))), none]) (S2 := []) rfl (by simp only [zi_add, zi_sub, zi_mul, zi_neg, zi_and1, zi_and7, zi_and15, zi_and31, zi_and255]) (by simp only [zi_add, zi_sub, zi_mul, zi_neg, zi_and1, zi_and7, zi_and15, zi_and31, zi_and255]) ?_
                    exact gz_wk (ihlp9 h10 (k + 1) (by omega) sh10 (by omega) (by omega) lp9k0 lp9k1 lp9k2 lp9k3 lp9k4 lp9k5 hce198) (gLw.s (gLw.s (gLw.s (gLw.s (gLw.s (gLw.s (gLw.n gLw.z)))))))
                  · refine gy_icF rfl (by decide) (by decide) (by omega) (by omega) hc197 ?_
                    refine gz_s 1 (pc' := 97) (L' := [some (.ref m), some (.int (zi a)), some (.int (zi b)), some (.int (zi t)), some (.int (zi jn4v0)), some (.int (zi k)), none]) (S' := [.int (zi 0)]) rfl ?_
                    exact gz_end (I := .ireturn) (len := 1) rfl (Or.inl rfl) ⟨sh10, 0, n0, rfl, (by omega), (by omega), lp9k0, (by omega), (by omega), lp9k2⟩
            exact gz_wk (lp9 _ h1 a (Nat.lt_succ_self _) sh1 (by omega) (by omega) s3 eh1 pr2 rf rt rc (fun j h1 h2 => absurd h2 (by omega))) (gLw.s (gLw.s (gLw.s (gLw.s (gLw.s (gLw.s (gLw.n gLw.z)))))))
          · refine gy_icF rfl (by decide) (by decide) (by omega) (by omega) hc8 ?_
            refine gz_s 1 (pc' := 70) (L' := [some (.ref m), some (.int (zi a)), some (.int (zi b)), some (.int (zi t)), some (.int (zi jn4v0)), none, none]) (S' := [.int (zi 0)]) rfl ?_
            exact gz_end (I := .ireturn) (len := 1) rfl (Or.inl rfl) ⟨sh1, 0, n0, rfl, (by omega), (by omega), s3, (by omega), (by omega), pr2⟩
  by_cases hc199 : ¬ (a : Int) = 0
  · refine gy_ifT (pc' := 13) rfl (by decide) (by decide) (by omega) hc199 ?_
    refine gz_s 2 (pc' := 15) (L' := [some (.ref m), some (.int (zi a)), some (.int (zi b)), some (.int (zi t)), none, none, none]) (S' := [.int (zi 1), .int (zi a)]) rfl ?_
    by_cases hc200 : (a : Int) < 1
    · refine gy_icT (pc' := 43) rfl (by decide) (by decide) (by omega) (by omega) hc200 ?_
      refine gz_s 1 (pc' := 44) (L' := [some (.ref m), some (.int (zi a)), some (.int (zi b)), some (.int (zi t)), none, none, none]) (S' := [.int (zi 0)]) rfl ?_
      exact jn4 0 (by omega)
    · refine gy_icF rfl (by decide) (by decide) (by omega) (by omega) hc200 ?_
      refine gz_s 2 (pc' := 20) (L' := [some (.ref m), some (.int (zi a)), some (.int (zi b)), some (.int (zi t)), none, none, none]) (S' := [.int (zi b), .int (zi a)]) rfl ?_
      by_cases hc201 : (b : Int) < a
      · refine gy_icT (pc' := 43) rfl (by decide) (by decide) (by omega) (by omega) hc201 ?_
        refine gz_s 1 (pc' := 44) (L' := [some (.ref m), some (.int (zi a)), some (.int (zi b)), some (.int (zi t)), none, none, none]) (S' := [.int (zi 0)]) rfl ?_
        exact jn4 0 (by omega)
      · refine gy_icF rfl (by decide) (by decide) (by omega) (by omega) hc201 ?_
        refine gz_s 2 (pc' := 26) (L' := [some (.ref m), some (.int (zi a)), some (.int (zi b)), some (.int (zi t)), none, none, none]) (S' := [.int (zi 63), .int (zi b)]) rfl ?_
        by_cases hc202 : (63 : Int) < b
        · refine gy_icT (pc' := 43) rfl (by decide) (by decide) (by omega) (by omega) hc202 ?_
          refine gz_s 1 (pc' := 44) (L' := [some (.ref m), some (.int (zi a)), some (.int (zi b)), some (.int (zi t)), none, none, none]) (S' := [.int (zi 0)]) rfl ?_
          exact jn4 0 (by omega)
        · refine gy_icF rfl (by decide) (by decide) (by omega) (by omega) hc202 ?_
          refine gz_s 1 (pc' := 30) (L' := [some (.ref m), some (.int (zi a)), some (.int (zi b)), some (.int (zi t)), none, none, none]) (S' := [.ref m]) rfl ?_
          refine gs_gtr rfl (by decide) rfl sh1.1 tm rfl rfl rfl (fun c203 ec203 tc203 => ?_)
          refine gz_s 1 (pc' := 34) (L' := [some (.ref m), some (.int (zi a)), some (.int (zi b)), some (.int (zi t)), none, none, none]) (S' := [.int (zi 0), .ref c203]) rfl ?_
          have hl204 : 64 ≤ h1.2.2.2.1 c203 ∧ h1.2.2.2.1 c203 ≤ 64 := gJ.rowl (G := gGG) sh1.1 tc203 rfl
          refine gs_ald rfl (by decide) sh1.1 tc203 rfl rfl rfl (by decide) (fun _ => rfl) (by omega) (by omega) (fun z205 ez205 az205 bz205 => ?_)
          have hf206 := gRow.at (i := 0) (z := z205) rc tc203 ez205 (by omega) (by omega) (by omega)
          refine gz_s 1 (pc' := 36) (L' := [some (.ref m), some (.int (zi a)), some (.int (zi b)), some (.int (zi t)), none, none, none]) (S' := [.int (zi (-1)), .int (zi z205)]) rfl ?_
          by_cases hc207 : (z205 : Int) = (-1)
          · refine gy_icT (pc' := 43) rfl (by decide) (by decide) (by omega) (by omega) hc207 ?_
            refine gz_s 1 (pc' := 44) (L' := [some (.ref m), some (.int (zi a)), some (.int (zi b)), some (.int (zi t)), none, none, none]) (S' := [.int (zi 0)]) rfl ?_
            exact jn4 0 (by omega)
          · refine gy_icF rfl (by decide) (by decide) (by omega) (by omega) hc207 ?_
            refine gz_s 2 (pc' := 44) (L' := [some (.ref m), some (.int (zi a)), some (.int (zi b)), some (.int (zi t)), none, none, none]) (S' := [.int (zi 1)]) rfl ?_
            exact jn4 1 (by omega)
  · refine gy_ifF rfl (by decide) (by decide) (by omega) hc199 ?_
    refine gz_s 1 (pc' := 10) (L' := [some (.ref m), some (.int (zi a)), some (.int (zi b)), some (.int (zi t)), none, none, none]) (S' := [.int (zi b)]) rfl ?_
    by_cases hc208 : (b : Int) = 0
    · refine gy_ifT (pc' := 39) rfl (by decide) (by decide) (by omega) hc208 ?_
      refine gz_s 2 (pc' := 44) (L' := [some (.ref m), some (.int (zi a)), some (.int (zi b)), some (.int (zi t)), none, none, none]) (S' := [.int (zi 1)]) rfl ?_
      exact jn4 1 (by omega)
    · refine gy_ifF rfl (by decide) (by decide) (by omega) hc208 ?_
      refine gz_s 2 (pc' := 15) (L' := [some (.ref m), some (.int (zi a)), some (.int (zi b)), some (.int (zi t)), none, none, none]) (S' := [.int (zi 1), .int (zi a)]) rfl ?_
      refine gy_icT (pc' := 43) rfl (by decide) (by decide) (by omega) (by omega) (by first | (simp [zc]; done) | (simp only [zc]; omega)) ?_
      refine gz_s 1 (pc' := 44) (L' := [some (.ref m), some (.int (zi a)), some (.int (zi b)), some (.int (zi t)), none, none, none]) (S' := [.int (zi 0)]) rfl ?_
      exact jn4 0 (by omega)
