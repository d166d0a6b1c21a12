/-! ===== the model: methods (by program) ===== -/
set_option maxRecDepth 20000 in
set_option maxHeartbeats 4000000 in
theorem mm_scan2 (d : Nat) {ty : Nat → Nat} {h : gH} (hJ : gJ rT 1027 ty h) (m : Nat) (tm : ty m = 1) (a : Int) (ra : (-2147483648) ≤ a ∧ a ≤ 2147483647) (b : Int) (rb : (-2147483648) ≤ b ∧ b ≤ 2147483647) (t : Int) (rt : (-2147483648) ≤ t ∧ t ≤ 2147483647) (n0 : Int) (en0 : h.2.2.2.2 m 53 = .int (zi n0)) (rn0 : 0 ≤ n0 ∧ n0 ≤ 10) (uq : gUq ty) (hyts : gTs ty n0 h) : gz gPP gGG gcn (d + 0) gt181 0 (gent [.ref m, .int (zi a), .int (zi b), .int (zi t)] 7) [] h (fun q _ => gSs rT 1027 ty [1000, 1053, 27999, 28999, 29999, 30999, 31999] h q.2.2 ∧ ∃ z n1 : Int, gfin gt181 q.1 q.2.1 = some (some (.int (zi z))) ∧ 0 ≤ z ∧ z ≤ 10 ∧ q.2.2.2.2.2.2 m 53 = .int (zi n1) ∧ 0 ≤ n1 ∧ n1 ≤ 10 ∧ (gTs ty n1 q.2.2)) := by
  have hS : gSs rT 1027 ty [1000, 1053, 27999, 28999, 29999, 30999, 31999] h h := gSs.rf hJ
  refine gz_s 2 (pc' := 2) (L' := [some (.ref m), some (.int (zi a)), some (.int (zi b)), some (.int (zi t)), none, none, none]) (S' := [.int (zi 0), .ref m]) rfl ?_
  refine gs_put rfl (by decide) rfl hS tm rfl rfl rfl rfl (Or.inl rfl) (by decide) (by omega) (by omega) (fun h1 sh1 eh1 fh1 => ?_)
  have pr2 := gTs.pt fh1 tm (by decide) hyts
  have s3 := (fh1 m 53 (fun q => absurd q.2 (by decide))).trans en0
  have hts0 := pr2
  obtain ⟨tf, tt, cf, rf, rt, rc, tle, tsm⟩ := hts0
  refine gz_s 1 (pc' := 6) (L' := [some (.ref m), some (.int (zi a)), some (.int (zi b)), some (.int (zi t)), none, none, none]) (S' := [.int (zi a)]) rfl ?_
  have jn4 : ∀ (jn4v0 : Int), ((0 ≤ jn4v0) ∧ (jn4v0 ≤ 1) ∧ (jn4v0 = 1 → (0 ≤ a ∧ a ≤ b ∧ b ≤ 63))) → gz gPP gGG gcn (d + 0) gt181 44 [some (.ref m), some (.int (zi a)), some (.int (zi b)), some (.int (zi t)), none, none, none] [.int (zi jn4v0)] h1 (fun q _ => gSs rT 1027 ty [1000, 1053, 27999, 28999, 29999, 30999, 31999] h q.2.2 ∧ ∃ z n1 : Int, gfin gt181 q.1 q.2.1 = some (some (.int (zi z))) ∧ 0 ≤ z ∧ z ≤ 10 ∧ q.2.2.2.2.2.2 m 53 = .int (zi n1) ∧ 0 ≤ n1 ∧ n1 ≤ 10 ∧ (gTs ty n1 q.2.2)) := by
    intro jn4v0 jn4d
    refine gz_s 2 (pc' := 48) (L' := [some (.ref m), some (.int (zi a)), some (.int (zi b)), some (.int (zi t)), some (.int (zi jn4v0)), none, none]) (S' := [.int (zi jn4v0)]) rfl ?_
    by_cases hc5 : (jn4v0 : Int) = 0
    · refine gy_ifT (pc' := 69) rfl (by decide) (by decide) (by omega) hc5 ?_
      refine gz_s 1 (pc' := 70) (L' := [some (.ref m), some (.int (zi a)), some (.int (zi b)), some (.int (zi t)), some (.int (zi jn4v0)), none, none]) (S' := [.int (zi 0)]) rfl ?_
      exact gz_end (I := .ireturn) (len := 1) rfl (Or.inl rfl) ⟨sh1, 0, n0, rfl, (by omega), (by omega), s3, (by omega), (by omega), pr2⟩
    · refine gy_ifF rfl (by decide) (by decide) (by omega) hc5 ?_
      refine gz_s 1 (pc' := 52) (L' := [some (.ref m), some (.int (zi a)), some (.int (zi b)), some (.int (zi t)), some (.int (zi jn4v0)), none, none]) (S' := [.int (zi t)]) rfl ?_
      by_cases hc6 : (t : Int) < 0
      · refine gy_ifT (pc' := 69) rfl (by decide) (by decide) (by omega) hc6 ?_
        refine gz_s 1 (pc' := 70) (L' := [some (.ref m), some (.int (zi a)), some (.int (zi b)), some (.int (zi t)), some (.int (zi jn4v0)), none, none]) (S' := [.int (zi 0)]) rfl ?_
        exact gz_end (I := .ireturn) (len := 1) rfl (Or.inl rfl) ⟨sh1, 0, n0, rfl, (by omega), (by omega), s3, (by omega), (by omega), pr2⟩
      · refine gy_ifF rfl (by decide) (by decide) (by omega) hc6 ?_
        refine gz_s 2 (pc' := 57) (L' := [some (.ref m), some (.int (zi a)), some (.int (zi b)), some (.int (zi t)), some (.int (zi jn4v0)), none, none]) (S' := [.int (zi 3), .int (zi t)]) rfl ?_
        by_cases hc7 : (3 : Int) < t
        · refine gy_icT (pc' := 69) rfl (by decide) (by decide) (by omega) (by omega) hc7 ?_
          refine gz_s 1 (pc' := 70) (L' := [some (.ref m), some (.int (zi a)), some (.int (zi b)), some (.int (zi t)), some (.int (zi jn4v0)), none, none]) (S' := [.int (zi 0)]) rfl ?_
          exact gz_end (I := .ireturn) (len := 1) rfl (Or.inl rfl) ⟨sh1, 0, n0, rfl, (by omega), (by omega), s3, (by omega), (by omega), pr2⟩
        · refine gy_icF rfl (by decide) (by decide) (by omega) (by omega) hc7 ?_
          refine gz_s 1 (pc' := 61) (L' := [some (.ref m), some (.int (zi a)), some (.int (zi b)), some (.int (zi t)), some (.int (zi jn4v0)), none, none]) (S' := [.ref m]) rfl ?_
          refine gs_gtk rfl (by decide) rfl sh1.1 tm rfl rfl s3 ?_
          refine gz_s 1 (pc' := 66) (L' := [some (.ref m), some (.int (zi a)), some (.int (zi b)), some (.int (zi t)), some (.int (zi jn4v0)), none, none]) (S' := [.int (zi 10), .int (zi n0)]) rfl ?_
          by_cases hc8 : ¬ (n0 : Int) = 10
          · refine gy_icT (pc' := 71) rfl (by decide) (by decide) (by omega) (by omega) hc8 ?_
            refine gz_s 2 (pc' := 74) (L' := [some (.ref m), some (.int (zi a)), some (.int (zi b)), some (.int (zi t)), some (.int (zi jn4v0)), some (.int (zi a)), none]) (S' := []) rfl ?_
            have lp9 : ∀ (fu : Nat) (h10 : gH) (k : Int), (65 - k).toNat < fu → gSs rT 1027 ty [1000, 1053, 27999, 28999, 29999, 30999, 31999] h h10 → (0 ≤ k ∧ k ≤ 64) → (a ≤ k) → h10.2.2.2.2 m 53 = .int (zi n0) → h10.2.2.2.2 m 0 = .int (zi 0) → gTs ty n0 h10 → gRow ty 27 tf h10 → gRow ty 28 tt h10 → gRow ty 31 cf h10 → (∀ j : Int, a ≤ j → j < k → cf j.toNat = cf a.toNat) → gz gPP gGG gcn (d + 0) gt181 74 [some (.ref m), some (.int (zi a)), some (.int (zi b)), some (.int (zi t)), some (.int (zi jn4v0)), some (.int (zi k)), none] [] h10 (fun q _ => gSs rT 1027 ty [1000, 1053, 27999, 28999, 29999, 30999, 31999] h q.2.2 ∧ ∃ z n1 : Int, gfin gt181 q.1 q.2.1 = some (some (.int (zi z))) ∧ 0 ≤ z ∧ z ≤ 10 ∧ q.2.2.2.2.2.2 m 53 = .int (zi n1) ∧ 0 ≤ n1 ∧ n1 ≤ 10 ∧ (gTs ty n1 q.2.2)) := by
              intro fu
              induction fu with
              | zero => intro h10 k hm; exact absurd hm (Nat.not_lt_zero _)
              | succ fu ihlp9 =>
                intro h10 k lp9m sh10 lp9f0 lp9f1 lp9k0 lp9k1 lp9k2 lp9k3 lp9k4 lp9k5 lp9k6
                refine gz_s 2 (pc' := 77) (L' := [some (.ref m), some (.int (zi a)), some (.int (zi b)), some (.int (zi t)), some (.int (zi jn4v0)), some (.int (zi k)), none]) (S' := [.int (zi b), .int (zi k)]) rfl ?_
                by_cases hc11 : (b : Int) < k
                · refine gy_icT (pc' := 104) rfl (by decide) (by decide) (by omega) (by omega) hc11 ?_
                  refine gz_s 1 (pc' := 105) (L' := [some (.ref m), some (.int (zi a)), some (.int (zi b)), some (.int (zi t)), some (.int (zi jn4v0)), some (.int (zi k)), none]) (S' := [.ref m]) rfl ?_
                  refine gs_gtr rfl (by decide) rfl sh10.1 tm rfl rfl rfl (fun c12 ec12 tc12 => ?_)
                  refine gz_s 1 (pc' := 109) (L' := [some (.ref m), some (.int (zi a)), some (.int (zi b)), some (.int (zi t)), some (.int (zi jn4v0)), some (.int (zi k)), none]) (S' := [.int (zi a), .ref c12]) rfl ?_
                  have hl13 : 64 ≤ h10.2.2.2.1 c12 ∧ h10.2.2.2.1 c12 ≤ 64 := gJ.rowl (G := gGG) sh10.1 tc12 rfl
                  refine gs_ald rfl (by decide) sh10.1 tc12 rfl rfl rfl (by decide) (fun _ => rfl) (by omega) (by omega) (fun z14 ez14 az14 bz14 => ?_)
                  have hf15 := gRow.at (i := a) (z := z14) lp9k5 tc12 ez14 (by omega) (by omega) (by omega)
                  refine gz_s 3 (pc' := 115) (L' := [some (.ref m), some (.int (zi a)), some (.int (zi b)), some (.int (zi t)), some (.int (zi jn4v0)), some (.int (zi z14)), none]) (S' := [.int (zi (-1)), .int (zi z14)]) rfl ?_
                  by_cases hc16 : (z14 : Int) = (-1)
                  · refine gy_icT (pc' := 128) rfl (by decide) (by decide) (by omega) (by omega) hc16 ?_
                    refine gz_s 2 (pc' := 131) (L' := [some (.ref m), some (.int (zi a)), some (.int (zi b)), some (.int (zi t)), some (.int (zi jn4v0)), some (.int (zi z14)), some (.int (zi a))]) (S' := []) rfl ?_
                    have hcq18 : gCq ty cf a a t h10 := ⟨cf, lp9k5, gCm.zero⟩
                    have hcf : cf a.toNat = cf a.toNat := rfl
                    have lp17 : ∀ (fu : Nat) (h19 : gH) (kb : Int), (65 - kb).toNat < fu → gSs rT 1027 ty [1000, 1053, 27999, 28999, 29999, 30999, 31999] h h19 → (0 ≤ kb ∧ kb ≤ 64) → (a ≤ kb) → (kb ≤ b + 1) → h19.2.2.2.2 m 53 = .int (zi n0) → h19.2.2.2.2 m 0 = .int (zi 0) → h19.2.2.2.2 m 58 = .ref c12 → gRow ty 27 tf h19 → gRow ty 28 tt h19 → (∀ j : Int, a ≤ j → j < k → cf j.toNat = cf a.toNat) → gCq ty cf a kb t h19 → gz gPP gGG gcn (d + 0) gt181 131 [some (.ref m), some (.int (zi a)), some (.int (zi b)), some (.int (zi t)), some (.int (zi jn4v0)), some (.int (zi z14)), some (.int (zi kb))] [] h19 (fun q _ => gSs rT 1027 ty [1000, 1053, 27999, 28999, 29999, 30999, 31999] h q.2.2 ∧ ∃ z n1 : Int, gfin gt181 q.1 q.2.1 = some (some (.int (zi z))) ∧ 0 ≤ z ∧ z ≤ 10 ∧ q.2.2.2.2.2.2 m 53 = .int (zi n1) ∧ 0 ≤ n1 ∧ n1 ≤ 10 ∧ (gTs ty n1 q.2.2)) := by
                      intro fu
                      induction fu with
                      | zero => intro h19 kb hm; exact absurd hm (Nat.not_lt_zero _)
                      | succ fu ihlp17 =>
                        intro h19 kb lp17m sh19 lp17f0 lp17f1 lp17f2 lp17k0 lp17k1 lp17k2 lp17k3 lp17k4 lp17k5 lp17k6
                        refine gz_s 2 (pc' := 134) (L' := [some (.ref m), some (.int (zi a)), some (.int (zi b)), some (.int (zi t)), some (.int (zi jn4v0)), some (.int (zi z14)), some (.int (zi kb))]) (S' := [.int (zi b), .int (zi kb)]) rfl ?_
                        by_cases hc20 : (b : Int) < kb
                        · refine gy_icT (pc' := 151) rfl (by decide) (by decide) (by omega) (by omega) hc20 ?_
                          refine gz_s 1 (pc' := 152) (L' := [some (.ref m), some (.int (zi a)), some (.int (zi b)), some (.int (zi t)), some (.int (zi jn4v0)), some (.int (zi z14)), some (.int (zi kb))]) (S' := [.ref m]) rfl ?_
                          refine gs_gtr rfl (by decide) rfl sh19.1 tm rfl rfl rfl (fun c21 ec21 tc21 => ?_)
                          refine gz_s 1 (pc' := 156) (L' := [some (.ref m), some (.int (zi a)), some (.int (zi b)), some (.int (zi t)), some (.int (zi jn4v0)), some (.int (zi z14)), some (.int (zi kb))]) (S' := [.ref m, .ref c21]) rfl ?_
                          refine gs_gtk rfl (by decide) rfl sh19.1 tm rfl rfl lp17k0 ?_
                          refine gz_s 1 (pc' := 160) (L' := [some (.ref m), some (.int (zi a)), some (.int (zi b)), some (.int (zi t)), some (.int (zi jn4v0)), some (.int (zi z14)), some (.int (zi kb))]) (S' := [.int (zi a), .int (zi n0), .ref c21]) rfl ?_
                          have hl22 : 10 ≤ h19.2.2.2.1 c21 ∧ h19.2.2.2.1 c21 ≤ 10 := gJ.rowl (G := gGG) sh19.1 tc21 rfl
                          refine gs_ast rfl (by decide) sh19 tc21 rfl rfl rfl (by decide) (fun _ => rfl) (by omega) (by omega) (fun _ => (by decide : (27999 : Nat) ∈ ([1000, 1053, 27999, 28999, 29999, 30999, 31999] : List Nat))) (by omega) (by omega) (fun h23 sh23 eh23 fh23 => ?_)
                          have pr24 := gRow.put (i := n0) (z := a) uq tc21 (by decide) fh23 eh23 (by omega) (by omega) lp17k3
                          have pr25 := gRow.pt fh23 tc21 (by decide) lp17k4
                          have pr26 := gCq.pt fh23 tc21 (by decide) lp17k6
                          have s27 := (fh23 m 53 (fun q => absurd (((tm).symm.trans (congrArg ty q.1)).trans tc21) (by decide))).trans lp17k0
                          have s28 := (fh23 m 0 (fun q => absurd (((tm).symm.trans (congrArg ty q.1)).trans tc21) (by decide))).trans lp17k1
                          have s29 := (fh23 m 58 (fun q => absurd (((tm).symm.trans (congrArg ty q.1)).trans tc21) (by decide))).trans lp17k2
                          have s30 := (fh23 m 54 (fun q => absurd (((tm).symm.trans (congrArg ty q.1)).trans tc21) (by decide))).trans ec21
                          have pr31 := gEl.set (i := n0) (z := a) uq tc21 (by decide) eh23 (by omega) (by omega)
                          refine gz_s 1 (pc' := 162) (L' := [some (.ref m), some (.int (zi a)), some (.int (zi b)), some (.int (zi t)), some (.int (zi jn4v0)), some (.int (zi z14)), some (.int (zi kb))]) (S' := [.ref m]) rfl ?_
                          refine gs_gtr rfl (by decide) rfl sh23.1 tm rfl rfl rfl (fun c32 ec32 tc32 => ?_)
                          refine gz_s 1 (pc' := 166) (L' := [some (.ref m), some (.int (zi a)), some (.int (zi b)), some (.int (zi t)), some (.int (zi jn4v0)), some (.int (zi z14)), some (.int (zi kb))]) (S' := [.ref m, .ref c32]) rfl ?_
                          refine gs_gtk rfl (by decide) rfl sh23.1 tm rfl rfl s27 ?_
                          refine gz_s 1 (pc' := 170) (L' := [some (.ref m), some (.int (zi a)), some (.int (zi b)), some (.int (zi t)), some (.int (zi jn4v0)), some (.int (zi z14)), some (.int (zi kb))]) (S' := [.int (zi b), .int (zi n0), .ref c32]) rfl ?_
                          have hl33 : 10 ≤ h23.2.2.2.1 c32 ∧ h23.2.2.2.1 c32 ≤ 10 := gJ.rowl (G := gGG) sh23.1 tc32 rfl
                          refine gs_ast rfl (by decide) sh23 tc32 rfl rfl rfl (by decide) (fun _ => rfl) (by omega) (by omega) (fun _ => (by decide : (28999 : Nat) ∈ ([1000, 1053, 27999, 28999, 29999, 30999, 31999] : List Nat))) (by omega) (by omega) (fun h34 sh34 eh34 fh34 => ?_)
                          have pr35 := gRow.pt fh34 tc32 (by decide) pr24
                          have pr36 := gRow.put (i := n0) (z := b) uq tc32 (by decide) fh34 eh34 (by omega) (by omega) pr25
                          have pr37 := gCq.pt fh34 tc32 (by decide) pr26
                          have pr38 := gEl.pt fh34 tc32 (by decide) pr31
                          have s39 := (fh34 m 53 (fun q => absurd (((tm).symm.trans (congrArg ty q.1)).trans tc32) (by decide))).trans s27
                          have s40 := (fh34 m 0 (fun q => absurd (((tm).symm.trans (congrArg ty q.1)).trans tc32) (by decide))).trans s28
                          have s41 := (fh34 m 58 (fun q => absurd (((tm).symm.trans (congrArg ty q.1)).trans tc32) (by decide))).trans s29
                          have s42 := (fh34 m 54 (fun q => absurd (((tm).symm.trans (congrArg ty q.1)).trans tc32) (by decide))).trans s30
                          have s43 := (fh34 m 55 (fun q => absurd (((tm).symm.trans (congrArg ty q.1)).trans tc32) (by decide))).trans ec32
                          have pr44 := gEl.set (i := n0) (z := b) uq tc32 (by decide) eh34 (by omega) (by omega)
                          refine gz_s 1 (pc' := 172) (L' := [some (.ref m), some (.int (zi a)), some (.int (zi b)), some (.int (zi t)), some (.int (zi jn4v0)), some (.int (zi z14)), some (.int (zi kb))]) (S' := [.ref m]) rfl ?_
                          refine gs_gtr rfl (by decide) rfl sh34.1 tm rfl rfl rfl (fun c45 ec45 tc45 => ?_)
                          refine gz_s 1 (pc' := 176) (L' := [some (.ref m), some (.int (zi a)), some (.int (zi b)), some (.int (zi t)), some (.int (zi jn4v0)), some (.int (zi z14)), some (.int (zi kb))]) (S' := [.ref m, .ref c45]) rfl ?_
                          refine gs_gtk rfl (by decide) rfl sh34.1 tm rfl rfl s39 ?_
                          refine gz_s 2 (pc' := 182) (L' := [some (.ref m), some (.int (zi a)), some (.int (zi b)), some (.int (zi t)), some (.int (zi jn4v0)), some (.int (zi z14)), some (.int (zi kb))]) (S' := [.int (zi (-1)), .int (zi z14), .int (zi n0), .ref c45]) rfl ?_
                          refine gy_icF rfl (by decide) (by decide) (by omega) (by omega) (by first | (simp [zc]; done) | (simp only [zc]; omega)) ?_
                          refine gz_s 2 (pc' := 191) (L' := [some (.ref m), some (.int (zi a)), some (.int (zi b)), some (.int (zi t)), some (.int (zi jn4v0)), some (.int (zi z14)), some (.int (zi kb))]) (S' := [.int (zi 0), .int (zi n0), .ref c45]) rfl ?_
                          have hl46 : 10 ≤ h34.2.2.2.1 c45 ∧ h34.2.2.2.1 c45 ≤ 10 := gJ.rowl (G := gGG) sh34.1 tc45 rfl
                          refine gs_ast rfl (by decide) sh34 tc45 rfl rfl rfl (by decide) (fun _ => rfl) (by omega) (by omega) (fun _ => (by decide : (29999 : Nat) ∈ ([1000, 1053, 27999, 28999, 29999, 30999, 31999] : List Nat))) (by omega) (by omega) (fun h47 sh47 eh47 fh47 => ?_)
                          have pr48 := gRow.pt fh47 tc45 (by decide) pr35
                          have pr49 := gRow.pt fh47 tc45 (by decide) pr36
                          have pr50 := gCq.pt fh47 tc45 (by decide) pr37
                          have pr51 := gEl.pt fh47 tc45 (by decide) pr38
                          have pr52 := gEl.pt fh47 tc45 (by decide) pr44
                          have s53 := (fh47 m 53 (fun q => absurd (((tm).symm.trans (congrArg ty q.1)).trans tc45) (by decide))).trans s39
                          have s54 := (fh47 m 0 (fun q => absurd (((tm).symm.trans (congrArg ty q.1)).trans tc45) (by decide))).trans s40
                          have s55 := (fh47 m 58 (fun q => absurd (((tm).symm.trans (congrArg ty q.1)).trans tc45) (by decide))).trans s41
                          have s56 := (fh47 m 54 (fun q => absurd (((tm).symm.trans (congrArg ty q.1)).trans tc45) (by decide))).trans s42
                          have s57 := (fh47 m 55 (fun q => absurd (((tm).symm.trans (congrArg ty q.1)).trans tc45) (by decide))).trans s43
                          have s58 := (fh47 m 56 (fun q => absurd (((tm).symm.trans (congrArg ty q.1)).trans tc45) (by decide))).trans ec45
                          have pr59 := gEl.set (i := n0) (z := 0) uq tc45 (by decide) eh47 (by omega) (by omega)
                          refine gz_s 1 (pc' := 193) (L' := [some (.ref m), some (.int (zi a)), some (.int (zi b)), some (.int (zi t)), some (.int (zi jn4v0)), some (.int (zi z14)), some (.int (zi kb))]) (S' := [.ref m]) rfl ?_
                          refine gs_gtr rfl (by decide) rfl sh47.1 tm rfl rfl rfl (fun c60 ec60 tc60 => ?_)
                          refine gz_s 1 (pc' := 197) (L' := [some (.ref m), some (.int (zi a)), some (.int (zi b)), some (.int (zi t)), some (.int (zi jn4v0)), some (.int (zi z14)), some (.int (zi kb))]) (S' := [.ref m, .ref c60]) rfl ?_
                          refine gs_gtk rfl (by decide) rfl sh47.1 tm rfl rfl s53 ?_
                          refine gz_s 1 (pc' := 201) (L' := [some (.ref m), some (.int (zi a)), some (.int (zi b)), some (.int (zi t)), some (.int (zi jn4v0)), some (.int (zi z14)), some (.int (zi kb))]) (S' := [.int (zi t), .int (zi n0), .ref c60]) rfl ?_
                          have hl61 : 10 ≤ h47.2.2.2.1 c60 ∧ h47.2.2.2.1 c60 ≤ 10 := gJ.rowl (G := gGG) sh47.1 tc60 rfl
                          refine gs_ast rfl (by decide) sh47 tc60 rfl rfl rfl (by decide) (fun _ => rfl) (by omega) (by omega) (fun _ => (by decide : (30999 : Nat) ∈ ([1000, 1053, 27999, 28999, 29999, 30999, 31999] : List Nat))) (by omega) (by omega) (fun h62 sh62 eh62 fh62 => ?_)
                          have pr63 := gRow.pt fh62 tc60 (by decide) pr48
                          have pr64 := gRow.pt fh62 tc60 (by decide) pr49
                          have pr65 := gCq.pt fh62 tc60 (by decide) pr50
                          have pr66 := gEl.pt fh62 tc60 (by decide) pr51
                          have pr67 := gEl.pt fh62 tc60 (by decide) pr52
                          have pr68 := gEl.pt fh62 tc60 (by decide) pr59
                          have s69 := (fh62 m 53 (fun q => absurd (((tm).symm.trans (congrArg ty q.1)).trans tc60) (by decide))).trans s53
                          have s70 := (fh62 m 0 (fun q => absurd (((tm).symm.trans (congrArg ty q.1)).trans tc60) (by decide))).trans s54
                          have s71 := (fh62 m 58 (fun q => absurd (((tm).symm.trans (congrArg ty q.1)).trans tc60) (by decide))).trans s55
                          have s72 := (fh62 m 54 (fun q => absurd (((tm).symm.trans (congrArg ty q.1)).trans tc60) (by decide))).trans s56
                          have s73 := (fh62 m 55 (fun q => absurd (((tm).symm.trans (congrArg ty q.1)).trans tc60) (by decide))).trans s57
                          have s74 := (fh62 m 56 (fun q => absurd (((tm).symm.trans (congrArg ty q.1)).trans tc60) (by decide))).trans s58
                          have s75 := (fh62 m 57 (fun q => absurd (((tm).symm.trans (congrArg ty q.1)).trans tc60) (by decide))).trans ec60
                          have pr76 := gEl.set (i := n0) (z := t) uq tc60 (by decide) eh62 (by omega) (by omega)
                          refine gz_s 2 (pc' := 204) (L' := [some (.ref m), some (.int (zi a)), some (.int (zi b)), some (.int (zi t)), some (.int (zi jn4v0)), some (.int (zi z14)), some (.int (zi kb))]) (S' := [.ref m, .ref m]) rfl ?_
                          refine gs_gtk rfl (by decide) rfl sh62.1 tm rfl rfl s69 ?_
                          refine gy_s 2 (pc' := 209) (L' := [some (.ref m), some (.int (zi a)), some (.int (zi b)), some (.int (zi t)), some (.int (zi jn4v0)), some (.int (zi z14)), some (.int (zi kb))]) (S' := [.int ((zi n0) + (zi 1)), .ref m]) (L2 := [some (.ref m), some (.int (zi a)), some (.int (zi b)), some (.int (zi t)), some (.int (zi jn4v0)), some (.int (zi z14)), some (.int (zi kb))]) (S2 := [.int (zi (n0 + 1)), .ref m]) rfl (by simp only [zi_add, zi_sub, zi_mul, zi_neg, zi_and1, zi_and7, zi_and15, zi_and31, zi_and255]) (by simp only [zi_add, zi_sub, zi_mul, zi_neg, zi_and1, zi_and7, zi_and15, zi_and31, zi_and255]) ?_
                          obtain ⟨c2, rc2, hcm⟩ := pr65
                          have hts77 : gTs ty (n0 + 1) h62 := gTs.tell (by omega) pr63 pr64 rc2 tle tsm hcm (by omega) (by omega)
                          refine gs_put rfl (by decide) rfl sh62 tm rfl rfl rfl rfl (Or.inl rfl) (by decide) (by omega) (by omega) (fun h78 sh78 eh78 fh78 => ?_)
                          have pr79 := gRow.pt fh78 tm (by decide) pr63
                          have pr80 := gRow.pt fh78 tm (by decide) pr64
                          have pr81 := gEl.pt fh78 tm (by decide) pr66
                          have pr82 := gEl.pt fh78 tm (by decide) pr67
                          have pr83 := gEl.pt fh78 tm (by decide) pr68
                          have pr84 := gEl.pt fh78 tm (by decide) pr76
                          have pr85 := gTs.pt fh78 tm (by decide) hts77
                          have s86 := (fh78 m 0 (fun q => absurd q.2 (by decide))).trans s70
                          have s87 := (fh78 m 58 (fun q => absurd q.2 (by decide))).trans s71
                          have s88 := (fh78 m 54 (fun q => absurd q.2 (by decide))).trans s72
                          have s89 := (fh78 m 55 (fun q => absurd q.2 (by decide))).trans s73
                          have s90 := (fh78 m 56 (fun q => absurd q.2 (by decide))).trans s74
                          have s91 := (fh78 m 57 (fun q => absurd q.2 (by decide))).trans s75
                          refine gz_s 1 (pc' := 213) (L' := [some (.ref m), some (.int (zi a)), some (.int (zi b)), some (.int (zi t)), some (.int (zi jn4v0)), some (.int (zi z14)), some (.int (zi kb))]) (S' := [.ref m]) rfl ?_
                          refine gs_gtk rfl (by decide) rfl sh78.1 tm rfl rfl eh78 ?_
                          exact gz_end (I := .ireturn) (len := 1) rfl (Or.inl rfl) ⟨sh78, n0 + 1, n0 + 1, rfl, (by omega), (by omega), eh78, (by omega), (by omega), pr85⟩
                        · refine gy_icF rfl (by decide) (by decide) (by omega) (by omega) hc20 ?_
                          obtain ⟨c2, rc2, hcm⟩ := lp17k6
                          refine gz_s 1 (pc' := 138) (L' := [some (.ref m), some (.int (zi a)), some (.int (zi b)), some (.int (zi t)), some (.int (zi jn4v0)), some (.int (zi z14)), some (.int (zi kb))]) (S' := [.ref m]) rfl ?_
                          refine gs_gtk rfl (by decide) rfl sh19.1 tm rfl rfl lp17k2 ?_
                          refine gz_s 2 (pc' := 144) (L' := [some (.ref m), some (.int (zi a)), some (.int (zi b)), some (.int (zi t)), some (.int (zi jn4v0)), some (.int (zi z14)), some (.int (zi kb))]) (S' := [.int (zi t), .int (zi kb), .ref c12]) rfl ?_
                          have hl92 : 64 ≤ h19.2.2.2.1 c12 ∧ h19.2.2.2.1 c12 ≤ 64 := gJ.rowl (G := gGG) sh19.1 tc12 rfl
                          refine gs_ast rfl (by decide) sh19 tc12 rfl rfl rfl (by decide) (fun _ => rfl) (by omega) (by omega) (fun _ => (by decide : (31999 : Nat) ∈ ([1000, 1053, 27999, 28999, 29999, 30999, 31999] : List Nat))) (by omega) (by omega) (fun h93 sh93 eh93 fh93 => ?_)
                          have pr94 := gRow.pt fh93 tc12 (by decide) lp17k3
                          have pr95 := gRow.pt fh93 tc12 (by decide) lp17k4
                          have pr96 := gRow.put (i := kb) (z := t) uq tc12 (by decide) fh93 eh93 (by omega) (by omega) rc2
                          have s97 := (fh93 m 53 (fun q => absurd (((tm).symm.trans (congrArg ty q.1)).trans tc12) (by decide))).trans lp17k0
                          have s98 := (fh93 m 0 (fun q => absurd (((tm).symm.trans (congrArg ty q.1)).trans tc12) (by decide))).trans lp17k1
                          have s99 := (fh93 m 58 (fun q => absurd (((tm).symm.trans (congrArg ty q.1)).trans tc12) (by decide))).trans lp17k2
                          have pr100 := gEl.set (i := kb) (z := t) uq tc12 (by decide) eh93 (by omega) (by omega)
                          have e6 : cf (kb).toNat = cf a.toNat := lp17k5 kb (by omega) (by omega)
                          have e7 : t + 1 ≤ gcr (cf (kb).toNat) := by rw [e6]; unfold gcr; split <;> omega
                          have hcq101 : gCq ty cf a (kb + 1) t h93 := ⟨_, pr96, hcm.step (by omega) (by omega) e7 (by omega)⟩
                          refine gy_s 2 (pc' := 131) (L' := [some (.ref m), some (.int (zi a)), some (.int (zi b)), some (.int (zi t)), some (.int (zi jn4v0)), some (.int (zi z14)), some (.int ((zi kb) + zi 1))]) (S' := []) (L2 := [some (.ref m), some (.int (zi a)), some (.int (zi b)), some (.int (zi t)), some (.int (zi jn4v0)), some (.int (zi z14)), some (.int (zi (kb + 1)))]) (S2 := []) rfl (by simp only [zi_add, zi_sub, zi_mul, zi_neg, zi_and1, zi_and7, zi_and15, zi_and31, zi_and255]) (by simp only [zi_add, zi_sub, zi_mul, zi_neg, zi_and1, zi_and7, zi_and15, zi_and31, zi_and255]) ?_
                          exact gz_wk (ihlp17 h93 (kb + 1) (by omega) sh93 (by omega) (by omega) (by omega) s97 s98 s99 pr94 pr95 lp17k5 hcq101) (gLw.s (gLw.s (gLw.s (gLw.s (gLw.s (gLw.s (gLw.s gLw.z)))))))
                    exact gz_wk (lp17 _ h10 a (Nat.lt_succ_self _) sh10 (by omega) (by omega) (by omega) lp9k0 lp9k1 ec12 lp9k3 lp9k4 lp9k6 hcq18) (gLw.s (gLw.s (gLw.s (gLw.s (gLw.s (gLw.s (gLw.s gLw.z)))))))
                  · refine gy_icF rfl (by decide) (by decide) (by omega) (by omega) hc16 ?_
                    refine gy_s 4 (pc' := 123) (L' := [some (.ref m), some (.int (zi a)), some (.int (zi b)), some (.int (zi t)), some (.int (zi jn4v0)), some (.int (zi z14)), none]) (S' := [.int ((zi t) + (zi 1)), .int (zi z14)]) (L2 := [some (.ref m), some (.int (zi a)), some (.int (zi b)), some (.int (zi t)), some (.int (zi jn4v0)), some (.int (zi z14)), none]) (S2 := [.int (zi (t + 1)), .int (zi z14)]) rfl (by simp only [zi_add, zi_sub, zi_mul, zi_neg, zi_and1, zi_and7, zi_and15, zi_and31, zi_and255]) (by simp only [zi_add, zi_sub, zi_mul, zi_neg, zi_and1, zi_and7, zi_and15, zi_and31, zi_and255]) ?_
                    by_cases hc102 : (z14 : Int) = t + 1
                    · refine gy_icT (pc' := 128) rfl (by decide) (by decide) (by omega) (by omega) hc102 ?_
                      refine gz_s 2 (pc' := 131) (L' := [some (.ref m), some (.int (zi a)), some (.int (zi b)), some (.int (zi t)), some (.int (zi jn4v0)), some (.int (zi z14)), some (.int (zi a))]) (S' := []) rfl ?_
                      have hcq104 : gCq ty cf a a t h10 := ⟨cf, lp9k5, gCm.zero⟩
                      have hcf : cf a.toNat = cf a.toNat := rfl
                      have lp103 : ∀ (fu : Nat) (h105 : gH) (kb : Int), (65 - kb).toNat < fu → gSs rT 1027 ty [1000, 1053, 27999, 28999, 29999, 30999, 31999] h h105 → (0 ≤ kb ∧ kb ≤ 64) → (a ≤ kb) → (kb ≤ b + 1) → h105.2.2.2.2 m 53 = .int (zi n0) → h105.2.2.2.2 m 0 = .int (zi 0) → h105.2.2.2.2 m 58 = .ref c12 → gRow ty 27 tf h105 → gRow ty 28 tt h105 → (∀ j : Int, a ≤ j → j < k → cf j.toNat = cf a.toNat) → gCq ty cf a kb t h105 → gz gPP gGG gcn (d + 0) gt181 131 [some (.ref m), some (.int (zi a)), some (.int (zi b)), some (.int (zi t)), some (.int (zi jn4v0)), some (.int (zi z14)), some (.int (zi kb))] [] h105 (fun q _ => gSs rT 1027 ty [1000, 1053, 27999, 28999, 29999, 30999, 31999] h q.2.2 ∧ ∃ z n1 : Int, gfin gt181 q.1 q.2.1 = some (some (.int (zi z))) ∧ 0 ≤ z ∧ z ≤ 10 ∧ q.2.2.2.2.2.2 m 53 = .int (zi n1) ∧ 0 ≤ n1 ∧ n1 ≤ 10 ∧ (gTs ty n1 q.2.2)) := by
                        intro fu
                        induction fu with
                        | zero => intro h105 kb hm; exact absurd hm (Nat.not_lt_zero _)
                        | succ fu ihlp103 =>
                          intro h105 kb lp103m sh105 lp103f0 lp103f1 lp103f2 lp103k0 lp103k1 lp103k2 lp103k3 lp103k4 lp103k5 lp103k6
                          refine gz_s 2 (pc' := 134) (L' := [some (.ref m), some (.int (zi a)), some (.int (zi b)), some (.int (zi t)), some (.int (zi jn4v0)), some (.int (zi z14)), some (.int (zi kb))]) (S' := [.int (zi b), .int (zi kb)]) rfl ?_
                          by_cases hc106 : (b : Int) < kb
                          · refine gy_icT (pc' := 151) rfl (by decide) (by decide) (by omega) (by omega) hc106 ?_
                            refine gz_s 1 (pc' := 152) (L' := [some (.ref m), some (.int (zi a)), some (.int (zi b)), some (.int (zi t)), some (.int (zi jn4v0)), some (.int (zi z14)), some (.int (zi kb))]) (S' := [.ref m]) rfl ?_
                            refine gs_gtr rfl (by decide) rfl sh105.1 tm rfl rfl rfl (fun c107 ec107 tc107 => ?_)
                            refine gz_s 1 (pc' := 156) (L' := [some (.ref m), some (.int (zi a)), some (.int (zi b)), some (.int (zi t)), some (.int (zi jn4v0)), some (.int (zi z14)), some (.int (zi kb))]) (S' := [.ref m, .ref c107]) rfl ?_
                            refine gs_gtk rfl (by decide) rfl sh105.1 tm rfl rfl lp103k0 ?_
                            refine gz_s 1 (pc' := 160) (L' := [some (.ref m), some (.int (zi a)), some (.int (zi b)), some (.int (zi t)), some (.int (zi jn4v0)), some (.int (zi z14)), some (.int (zi kb))]) (S' := [.int (zi a), .int (zi n0), .ref c107]) rfl ?_
                            have hl108 : 10 ≤ h105.2.2.2.1 c107 ∧ h105.2.2.2.1 c107 ≤ 10 := gJ.rowl (G := gGG) sh105.1 tc107 rfl
                            refine gs_ast rfl (by decide) sh105 tc107 rfl rfl rfl (by decide) (fun _ => rfl) (by omega) (by omega) (fun _ => (by decide : (27999 : Nat) ∈ ([1000, 1053, 27999, 28999, 29999, 30999, 31999] : List Nat))) (by omega) (by omega) (fun h109 sh109 eh109 fh109 => ?_)
                            have pr110 := gRow.put (i := n0) (z := a) uq tc107 (by decide) fh109 eh109 (by omega) (by omega) lp103k3
                            have pr111 := gRow.pt fh109 tc107 (by decide) lp103k4
                            have pr112 := gCq.pt fh109 tc107 (by decide) lp103k6
                            have s113 := (fh109 m 53 (fun q => absurd (((tm).symm.trans (congrArg ty q.1)).trans tc107) (by decide))).trans lp103k0
                            have s114 := (fh109 m 0 (fun q => absurd (((tm).symm.trans (congrArg ty q.1)).trans tc107) (by decide))).trans lp103k1
                            have s115 := (fh109 m 58 (fun q => absurd (((tm).symm.trans (congrArg ty q.1)).trans tc107) (by decide))).trans lp103k2
                            have s116 := (fh109 m 54 (fun q => absurd (((tm).symm.trans (congrArg ty q.1)).trans tc107) (by decide))).trans ec107
                            have pr117 := gEl.set (i := n0) (z := a) uq tc107 (by decide) eh109 (by omega) (by omega)
                            refine gz_s 1 (pc' := 162) (L' := [some (.ref m), some (.int (zi a)), some (.int (zi b)), some (.int (zi t)), some (.int (zi jn4v0)), some (.int (zi z14)), some (.int (zi kb))]) (S' := [.ref m]) rfl ?_
                            refine gs_gtr rfl (by decide) rfl sh109.1 tm rfl rfl rfl (fun c118 ec118 tc118 => ?_)
                            refine gz_s 1 (pc' := 166) (L' := [some (.ref m), some (.int (zi a)), some (.int (zi b)), some (.int (zi t)), some (.int (zi jn4v0)), some (.int (zi z14)), some (.int (zi kb))]) (S' := [.ref m, .ref c118]) rfl ?_
                            refine gs_gtk rfl (by decide) rfl sh109.1 tm rfl rfl s113 ?_
                            refine gz_s 1 (pc' := 170) (L' := [some (.ref m), some (.int (zi a)), some (.int (zi b)), some (.int (zi t)), some (.int (zi jn4v0)), some (.int (zi z14)), some (.int (zi kb))]) (S' := [.int (zi b), .int (zi n0), .ref c118]) rfl ?_
                            have hl119 : 10 ≤ h109.2.2.2.1 c118 ∧ h109.2.2.2.1 c118 ≤ 10 := gJ.rowl (G := gGG) sh109.1 tc118 rfl
                            refine gs_ast rfl (by decide) sh109 tc118 rfl rfl rfl (by decide) (fun _ => rfl) (by omega) (by omega) (fun _ => (by decide : (28999 : Nat) ∈ ([1000, 1053, 27999, 28999, 29999, 30999, 31999] : List Nat))) (by omega) (by omega) (fun h120 sh120 eh120 fh120 => ?_)
                            have pr121 := gRow.pt fh120 tc118 (by decide) pr110
                            have pr122 := gRow.put (i := n0) (z := b) uq tc118 (by decide) fh120 eh120 (by omega) (by omega) pr111
                            have pr123 := gCq.pt fh120 tc118 (by decide) pr112
                            have pr124 := gEl.pt fh120 tc118 (by decide) pr117
                            have s125 := (fh120 m 53 (fun q => absurd (((tm).symm.trans (congrArg ty q.1)).trans tc118) (by decide))).trans s113
                            have s126 := (fh120 m 0 (fun q => absurd (((tm).symm.trans (congrArg ty q.1)).trans tc118) (by decide))).trans s114
                            have s127 := (fh120 m 58 (fun q => absurd (((tm).symm.trans (congrArg ty q.1)).trans tc118) (by decide))).trans s115
                            have s128 := (fh120 m 54 (fun q => absurd (((tm).symm.trans (congrArg ty q.1)).trans tc118) (by decide))).trans s116
                            have s129 := (fh120 m 55 (fun q => absurd (((tm).symm.trans (congrArg ty q.1)).trans tc118) (by decide))).trans ec118
                            have pr130 := gEl.set (i := n0) (z := b) uq tc118 (by decide) eh120 (by omega) (by omega)
                            refine gz_s 1 (pc' := 172) (L' := [some (.ref m), some (.int (zi a)), some (.int (zi b)), some (.int (zi t)), some (.int (zi jn4v0)), some (.int (zi z14)), some (.int (zi kb))]) (S' := [.ref m]) rfl ?_
                            refine gs_gtr rfl (by decide) rfl sh120.1 tm rfl rfl rfl (fun c131 ec131 tc131 => ?_)
                            refine gz_s 1 (pc' := 176) (L' := [some (.ref m), some (.int (zi a)), some (.int (zi b)), some (.int (zi t)), some (.int (zi jn4v0)), some (.int (zi z14)), some (.int (zi kb))]) (S' := [.ref m, .ref c131]) rfl ?_
                            refine gs_gtk rfl (by decide) rfl sh120.1 tm rfl rfl s125 ?_
                            refine gz_s 2 (pc' := 182) (L' := [some (.ref m), some (.int (zi a)), some (.int (zi b)), some (.int (zi t)), some (.int (zi jn4v0)), some (.int (zi z14)), some (.int (zi kb))]) (S' := [.int (zi (-1)), .int (zi z14), .int (zi n0), .ref c131]) rfl ?_
                            refine gy_icT (pc' := 189) rfl (by decide) (by decide) (by omega) (by omega) (by first | (simp [zc]; done) | (simp only [zc]; omega)) ?_
                            refine gz_s 1 (pc' := 191) (L' := [some (.ref m), some (.int (zi a)), some (.int (zi b)), some (.int (zi t)), some (.int (zi jn4v0)), some (.int (zi z14)), some (.int (zi kb))]) (S' := [.int (zi z14), .int (zi n0), .ref c131]) rfl ?_
                            have hl132 : 10 ≤ h120.2.2.2.1 c131 ∧ h120.2.2.2.1 c131 ≤ 10 := gJ.rowl (G := gGG) sh120.1 tc131 rfl
                            refine gs_ast rfl (by decide) sh120 tc131 rfl rfl rfl (by decide) (fun _ => rfl) (by omega) (by omega) (fun _ => (by decide : (29999 : Nat) ∈ ([1000, 1053, 27999, 28999, 29999, 30999, 31999] : List Nat))) (by omega) (by omega) (fun h133 sh133 eh133 fh133 => ?_)
                            have pr134 := gRow.pt fh133 tc131 (by decide) pr121
                            have pr135 := gRow.pt fh133 tc131 (by decide) pr122
                            have pr136 := gCq.pt fh133 tc131 (by decide) pr123
                            have pr137 := gEl.pt fh133 tc131 (by decide) pr124
                            have pr138 := gEl.pt fh133 tc131 (by decide) pr130
                            have s139 := (fh133 m 53 (fun q => absurd (((tm).symm.trans (congrArg ty q.1)).trans tc131) (by decide))).trans s125
                            have s140 := (fh133 m 0 (fun q => absurd (((tm).symm.trans (congrArg ty q.1)).trans tc131) (by decide))).trans s126
                            have s141 := (fh133 m 58 (fun q => absurd (((tm).symm.trans (congrArg ty q.1)).trans tc131) (by decide))).trans s127
                            have s142 := (fh133 m 54 (fun q => absurd (((tm).symm.trans (congrArg ty q.1)).trans tc131) (by decide))).trans s128
                            have s143 := (fh133 m 55 (fun q => absurd (((tm).symm.trans (congrArg ty q.1)).trans tc131) (by decide))).trans s129
                            have s144 := (fh133 m 56 (fun q => absurd (((tm).symm.trans (congrArg ty q.1)).trans tc131) (by decide))).trans ec131
                            have pr145 := gEl.set (i := n0) (z := z14) uq tc131 (by decide) eh133 (by omega) (by omega)
                            refine gz_s 1 (pc' := 193) (L' := [some (.ref m), some (.int (zi a)), some (.int (zi b)), some (.int (zi t)), some (.int (zi jn4v0)), some (.int (zi z14)), some (.int (zi kb))]) (S' := [.ref m]) rfl ?_
                            refine gs_gtr rfl (by decide) rfl sh133.1 tm rfl rfl rfl (fun c146 ec146 tc146 => ?_)
                            refine gz_s 1 (pc' := 197) (L' := [some (.ref m), some (.int (zi a)), some (.int (zi b)), some (.int (zi t)), some (.int (zi jn4v0)), some (.int (zi z14)), some (.int (zi kb))]) (S' := [.ref m, .ref c146]) rfl ?_
                            refine gs_gtk rfl (by decide) rfl sh133.1 tm rfl rfl s139 ?_
                            refine gz_s 1 (pc' := 201) (L' := [some (.ref m), some (.int (zi a)), some (.int (zi b)), some (.int (zi t)), some (.int (zi jn4v0)), some (.int (zi z14)), some (.int (zi kb))]) (S' := [.int (zi t), .int (zi n0), .ref c146]) rfl ?_
                            have hl147 : 10 ≤ h133.2.2.2.1 c146 ∧ h133.2.2.2.1 c146 ≤ 10 := gJ.rowl (G := gGG) sh133.1 tc146 rfl
                            refine gs_ast rfl (by decide) sh133 tc146 rfl rfl rfl (by decide) (fun _ => rfl) (by omega) (by omega) (fun _ => (by decide : (30999 : Nat) ∈ ([1000, 1053, 27999, 28999, 29999, 30999, 31999] : List Nat))) (by omega) (by omega) (fun h148 sh148 eh148 fh148 => ?_)
                            have pr149 := gRow.pt fh148 tc146 (by decide) pr134
                            have pr150 := gRow.pt fh148 tc146 (by decide) pr135
                            have pr151 := gCq.pt fh148 tc146 (by decide) pr136
                            have pr152 := gEl.pt fh148 tc146 (by decide) pr137
                            have pr153 := gEl.pt fh148 tc146 (by decide) pr138
                            have pr154 := gEl.pt fh148 tc146 (by decide) pr145
                            have s155 := (fh148 m 53 (fun q => absurd (((tm).symm.trans (congrArg ty q.1)).trans tc146) (by decide))).trans s139
                            have s156 := (fh148 m 0 (fun q => absurd (((tm).symm.trans (congrArg ty q.1)).trans tc146) (by decide))).trans s140
                            have s157 := (fh148 m 58 (fun q => absurd (((tm).symm.trans (congrArg ty q.1)).trans tc146) (by decide))).trans s141
                            have s158 := (fh148 m 54 (fun q => absurd (((tm).symm.trans (congrArg ty q.1)).trans tc146) (by decide))).trans s142
                            have s159 := (fh148 m 55 (fun q => absurd (((tm).symm.trans (congrArg ty q.1)).trans tc146) (by decide))).trans s143
                            have s160 := (fh148 m 56 (fun q => absurd (((tm).symm.trans (congrArg ty q.1)).trans tc146) (by decide))).trans s144
                            have s161 := (fh148 m 57 (fun q => absurd (((tm).symm.trans (congrArg ty q.1)).trans tc146) (by decide))).trans ec146
                            have pr162 := gEl.set (i := n0) (z := t) uq tc146 (by decide) eh148 (by omega) (by omega)
                            refine gz_s 2 (pc' := 204) (L' := [some (.ref m), some (.int (zi a)), some (.int (zi b)), some (.int (zi t)), some (.int (zi jn4v0)), some (.int (zi z14)), some (.int (zi kb))]) (S' := [.ref m, .ref m]) rfl ?_
                            refine gs_gtk rfl (by decide) rfl sh148.1 tm rfl rfl s155 ?_
                            refine gy_s 2 (pc' := 209) (L' := [some (.ref m), some (.int (zi a)), some (.int (zi b)), some (.int (zi t)), some (.int (zi jn4v0)), some (.int (zi z14)), some (.int (zi kb))]) (S' := [.int ((zi n0) + (zi 1)), .ref m]) (L2 := [some (.ref m), some (.int (zi a)), some (.int (zi b)), some (.int (zi t)), some (.int (zi jn4v0)), some (.int (zi z14)), some (.int (zi kb))]) (S2 := [.int (zi (n0 + 1)), .ref m]) rfl (by simp only [zi_add, zi_sub, zi_mul, zi_neg, zi_and1, zi_and7, zi_and15, zi_and31, zi_and255]) (by simp only [zi_add, zi_sub, zi_mul, zi_neg, zi_and1, zi_and7, zi_and15, zi_and31, zi_and255]) ?_
                            obtain ⟨c2, rc2, hcm⟩ := pr151
                            have hts163 : gTs ty (n0 + 1) h148 := gTs.tell (by omega) pr149 pr150 rc2 tle tsm hcm (by omega) (by omega)
                            refine gs_put rfl (by decide) rfl sh148 tm rfl rfl rfl rfl (Or.inl rfl) (by decide) (by omega) (by omega) (fun h164 sh164 eh164 fh164 => ?_)
                            have pr165 := gRow.pt fh164 tm (by decide) pr149
                            have pr166 := gRow.pt fh164 tm (by decide) pr150
                            have pr167 := gEl.pt fh164 tm (by decide) pr152
                            have pr168 := gEl.pt fh164 tm (by decide) pr153
                            have pr169 := gEl.pt fh164 tm (by decide) pr154
                            have pr170 := gEl.pt fh164 tm (by decide) pr162
                            have pr171 := gTs.pt fh164 tm (by decide) hts163
                            have s172 := (fh164 m 0 (fun q => absurd q.2 (by decide))).trans s156
                            have s173 := (fh164 m 58 (fun q => absurd q.2 (by decide))).trans s157
                            have s174 := (fh164 m 54 (fun q => absurd q.2 (by decide))).trans s158
                            have s175 := (fh164 m 55 (fun q => absurd q.2 (by decide))).trans s159
                            have s176 := (fh164 m 56 (fun q => absurd q.2 (by decide))).trans s160
                            have s177 := (fh164 m 57 (fun q => absurd q.2 (by decide))).trans s161
                            refine gz_s 1 (pc' := 213) (L' := [some (.ref m), some (.int (zi a)), some (.int (zi b)), some (.int (zi t)), some (.int (zi jn4v0)), some (.int (zi z14)), some (.int (zi kb))]) (S' := [.ref m]) rfl ?_
                            refine gs_gtk rfl (by decide) rfl sh164.1 tm rfl rfl eh164 ?_
                            exact gz_end (I := .ireturn) (len := 1) rfl (Or.inl rfl) ⟨sh164, n0 + 1, n0 + 1, rfl, (by omega), (by omega), eh164, (by omega), (by omega), pr171⟩
                          · refine gy_icF rfl (by decide) (by decide) (by omega) (by omega) hc106 ?_
                            obtain ⟨c2, rc2, hcm⟩ := lp103k6
                            refine gz_s 1 (pc' := 138) (L' := [some (.ref m), some (.int (zi a)), some (.int (zi b)), some (.int (zi t)), some (.int (zi jn4v0)), some (.int (zi z14)), some (.int (zi kb))]) (S' := [.ref m]) rfl ?_
                            refine gs_gtk rfl (by decide) rfl sh105.1 tm rfl rfl lp103k2 ?_
                            refine gz_s 2 (pc' := 144) (L' := [some (.ref m), some (.int (zi a)), some (.int (zi b)), some (.int (zi t)), some (.int (zi jn4v0)), some (.int (zi z14)), some (.int (zi kb))]) (S' := [.int (zi t), .int (zi kb), .ref c12]) rfl ?_
                            have hl178 : 64 ≤ h105.2.2.2.1 c12 ∧ h105.2.2.2.1 c12 ≤ 64 := gJ.rowl (G := gGG) sh105.1 tc12 rfl
                            refine gs_ast rfl (by decide) sh105 tc12 rfl rfl rfl (by decide) (fun _ => rfl) (by omega) (by omega) (fun _ => (by decide : (31999 : Nat) ∈ ([1000, 1053, 27999, 28999, 29999, 30999, 31999] : List Nat))) (by omega) (by omega) (fun h179 sh179 eh179 fh179 => ?_)
                            have pr180 := gRow.pt fh179 tc12 (by decide) lp103k3
                            have pr181 := gRow.pt fh179 tc12 (by decide) lp103k4
                            have pr182 := gRow.put (i := kb) (z := t) uq tc12 (by decide) fh179 eh179 (by omega) (by omega) rc2
                            have s183 := (fh179 m 53 (fun q => absurd (((tm).symm.trans (congrArg ty q.1)).trans tc12) (by decide))).trans lp103k0
                            have s184 := (fh179 m 0 (fun q => absurd (((tm).symm.trans (congrArg ty q.1)).trans tc12) (by decide))).trans lp103k1
                            have s185 := (fh179 m 58 (fun q => absurd (((tm).symm.trans (congrArg ty q.1)).trans tc12) (by decide))).trans lp103k2
                            have pr186 := gEl.set (i := kb) (z := t) uq tc12 (by decide) eh179 (by omega) (by omega)
                            have e6 : cf (kb).toNat = cf a.toNat := lp103k5 kb (by omega) (by omega)
                            have e7 : t + 1 ≤ gcr (cf (kb).toNat) := by rw [e6]; unfold gcr; split <;> omega
                            have hcq187 : gCq ty cf a (kb + 1) t h179 := ⟨_, pr182, hcm.step (by omega) (by omega) e7 (by omega)⟩
                            refine gy_s 2 (pc' := 131) (L' := [some (.ref m), some (.int (zi a)), some (.int (zi b)), some (.int (zi t)), some (.int (zi jn4v0)), some (.int (zi z14)), some (.int ((zi kb) + zi 1))]) (S' := []) (L2 := [some (.ref m), some (.int (zi a)), some (.int (zi b)), some (.int (zi t)), some (.int (zi jn4v0)), some (.int (zi z14)), some (.int (zi (kb + 1)))]) (S2 := []) rfl (by simp only [zi_add, zi_sub, zi_mul, zi_neg, zi_and1, zi_and7, zi_and15, zi_and31, zi_and255]) (by simp only [zi_add, zi_sub, zi_mul, zi_neg, zi_and1, zi_and7, zi_and15, zi_and31, zi_and255]) ?_
                            exact gz_wk (ihlp103 h179 (kb + 1) (by omega) sh179 (by omega) (by omega) (by omega) s183 s184 s185 pr180 pr181 lp103k5 hcq187) (gLw.s (gLw.s (gLw.s (gLw.s (gLw.s (gLw.s (gLw.s gLw.z)))))))
                      exact gz_wk (lp103 _ h10 a (Nat.lt_succ_self _) sh10 (by omega) (by omega) (by omega) lp9k0 lp9k1 ec12 lp9k3 lp9k4 lp9k6 hcq104) (gLw.s (gLw.s (gLw.s (gLw.s (gLw.s (gLw.s (gLw.s gLw.z)))))))
                    · refine gy_icF rfl (by decide) (by decide) (by omega) (by omega) hc102 ?_
                      refine gz_s 1 (pc' := 127) (L' := [some (.ref m), some (.int (zi a)), some (.int (zi b)), some (.int (zi t)), some (.int (zi jn4v0)), some (.int (zi z14)), none]) (S' := [.int (zi 0)]) rfl ?_
                      exact gz_end (I := .ireturn) (len := 1) rfl (Or.inl rfl) ⟨sh10, 0, n0, rfl, (by omega), (by omega), lp9k0, (by omega), (by omega), lp9k2⟩
                · refine gy_icF rfl (by decide) (by decide) (by omega) (by omega) hc11 ?_
                  refine gz_s 1 (pc' := 81) (L' := [some (.ref m), some (.int (zi a)), some (.int (zi b)), some (.int (zi t)), some (.int (zi jn4v0)), some (.int (zi k)), none]) (S' := [.ref m]) rfl ?_
                  refine gs_gtr rfl (by decide) rfl sh10.1 tm rfl rfl rfl (fun c188 ec188 tc188 => ?_)
                  refine gz_s 1 (pc' := 86) (L' := [some (.ref m), some (.int (zi a)), some (.int (zi b)), some (.int (zi t)), some (.int (zi jn4v0)), some (.int (zi k)), none]) (S' := [.int (zi k), .ref c188]) rfl ?_
                  have hl189 : 64 ≤ h10.2.2.2.1 c188 ∧ h10.2.2.2.1 c188 ≤ 64 := gJ.rowl (G := gGG) sh10.1 tc188 rfl
                  refine gs_ald rfl (by decide) sh10.1 tc188 rfl rfl rfl (by decide) (fun _ => rfl) (by omega) (by omega) (fun z190 ez190 az190 bz190 => ?_)
                  have hf191 := gRow.at (i := k) (z := z190) lp9k5 tc188 ez190 (by omega) (by omega) (by omega)
                  refine gz_s 1 (pc' := 88) (L' := [some (.ref m), some (.int (zi a)), some (.int (zi b)), some (.int (zi t)), some (.int (zi jn4v0)), some (.int (zi k)), none]) (S' := [.ref m, .int (zi z190)]) rfl ?_
                  refine gs_gtk rfl (by decide) rfl sh10.1 tm rfl rfl ec188 ?_
                  refine gz_s 1 (pc' := 92) (L' := [some (.ref m), some (.int (zi a)), some (.int (zi b)), some (.int (zi t)), some (.int (zi jn4v0)), some (.int (zi k)), none]) (S' := [.int (zi a), .ref c188, .int (zi z190)]) rfl ?_
                  have hl192 : 64 ≤ h10.2.2.2.1 c188 ∧ h10.2.2.2.1 c188 ≤ 64 := gJ.rowl (G := gGG) sh10.1 tc188 rfl
                  refine gs_ald rfl (by decide) sh10.1 tc188 rfl rfl rfl (by decide) (fun _ => rfl) (by omega) (by omega) (fun z193 ez193 az193 bz193 => ?_)
                  have hf194 := gRow.at (i := a) (z := z193) lp9k5 tc188 ez193 (by omega) (by omega) (by omega)
                  by_cases hc195 : (z190 : Int) = z193
                  · refine gy_icT (pc' := 98) rfl (by decide) (by decide) (by omega) (by omega) hc195 ?_
                    have hce196 : ∀ j : Int, a ≤ j → j < k + 1 → cf j.toNat = cf a.toNat := fun j h1 h2 => by
                      by_cases e : j = k
                      · subst e; omega
                      · exact lp9k6 j h1 (by omega)
                    refine gy_s 2 (pc' := 74) (L' := [some (.ref m), some (.int (zi a)), some (.int (zi b)), some (.int (zi t)), some (.int (zi jn4v0)), some (.int ((zi k) + zi 1)), none]) (S' := []) (L2 := [some (.ref m), some (.int (zi a)), some (.int (zi b)), some (.int (zi t)), some (.int (zi jn4v0)), some (.int (zi (k + 1))), none]) (S2 := []) rfl (by simp only [zi_add, zi_sub, zi_mul, zi_neg, zi_and1, zi_and7, zi_and15, zi_and31, zi_and255]) (by simp only [zi_add, zi_sub, zi_mul, zi_neg, zi_and1, zi_and7, zi_and15, zi_and31, zi_and255]) ?_
                    exact gz_wk (ihlp9 h10 (k + 1) (by omega) sh10 (by omega) (by omega) lp9k0 lp9k1 lp9k2 lp9k3 lp9k4 lp9k5 hce196) (gLw.s (gLw.s (gLw.s (gLw.s (gLw.s (gLw.s (gLw.n gLw.z)))))))
                  · refine gy_icF rfl (by decide) (by decide) (by omega) (by omega) hc195 ?_
                    refine gz_s 1 (pc' := 97) (L' := [some (.ref m), some (.int (zi a)), some (.int (zi b)), some (.int (zi t)), some (.int (zi jn4v0)), some (.int (zi k)), none]) (S' := [.int (zi 0)]) rfl ?_
                    exact gz_end (I := .ireturn) (len := 1) rfl (Or.inl rfl) ⟨sh10, 0, n0, rfl, (by omega), (by omega), lp9k0, (by omega), (by omega), lp9k2⟩
            exact gz_wk (lp9 _ h1 a (Nat.lt_succ_self _) sh1 (by omega) (by omega) s3 eh1 pr2 rf rt rc (fun j h1 h2 => absurd h2 (by omega))) (gLw.s (gLw.s (gLw.s (gLw.s (gLw.s (gLw.s (gLw.n gLw.z)))))))
          · refine gy_icF rfl (by decide) (by decide) (by omega) (by omega) hc8 ?_
            refine gz_s 1 (pc' := 70) (L' := [some (.ref m), some (.int (zi a)), some (.int (zi b)), some (.int (zi t)), some (.int (zi jn4v0)), none, none]) (S' := [.int (zi 0)]) rfl ?_
            exact gz_end (I := .ireturn) (len := 1) rfl (Or.inl rfl) ⟨sh1, 0, n0, rfl, (by omega), (by omega), s3, (by omega), (by omega), pr2⟩
  by_cases hc197 : ¬ (a : Int) = 0
  · refine gy_ifT (pc' := 13) rfl (by decide) (by decide) (by omega) hc197 ?_
    refine gz_s 2 (pc' := 15) (L' := [some (.ref m), some (.int (zi a)), some (.int (zi b)), some (.int (zi t)), none, none, none]) (S' := [.int (zi 1), .int (zi a)]) rfl ?_
    by_cases hc198 : (a : Int) < 1
    · refine gy_icT (pc' := 43) rfl (by decide) (by decide) (by omega) (by omega) hc198 ?_
      refine gz_s 1 (pc' := 44) (L' := [some (.ref m), some (.int (zi a)), some (.int (zi b)), some (.int (zi t)), none, none, none]) (S' := [.int (zi 0)]) rfl ?_
      exact jn4 0 (by omega)
    · refine gy_icF rfl (by decide) (by decide) (by omega) (by omega) hc198 ?_
      refine gz_s 2 (pc' := 20) (L' := [some (.ref m), some (.int (zi a)), some (.int (zi b)), some (.int (zi t)), none, none, none]) (S' := [.int (zi b), .int (zi a)]) rfl ?_
      by_cases hc199 : (b : Int) < a
      · refine gy_icT (pc' := 43) rfl (by decide) (by decide) (by omega) (by omega) hc199 ?_
        refine gz_s 1 (pc' := 44) (L' := [some (.ref m), some (.int (zi a)), some (.int (zi b)), some (.int (zi t)), none, none, none]) (S' := [.int (zi 0)]) rfl ?_
        exact jn4 0 (by omega)
      · refine gy_icF rfl (by decide) (by decide) (by omega) (by omega) hc199 ?_
        refine gz_s 2 (pc' := 26) (L' := [some (.ref m), some (.int (zi a)), some (.int (zi b)), some (.int (zi t)), none, none, none]) (S' := [.int (zi 63), .int (zi b)]) rfl ?_
        by_cases hc200 : (63 : Int) < b
        · refine gy_icT (pc' := 43) rfl (by decide) (by decide) (by omega) (by omega) hc200 ?_
          refine gz_s 1 (pc' := 44) (L' := [some (.ref m), some (.int (zi a)), some (.int (zi b)), some (.int (zi t)), none, none, none]) (S' := [.int (zi 0)]) rfl ?_
          exact jn4 0 (by omega)
        · refine gy_icF rfl (by decide) (by decide) (by omega) (by omega) hc200 ?_
          refine gz_s 1 (pc' := 30) (L' := [some (.ref m), some (.int (zi a)), some (.int (zi b)), some (.int (zi t)), none, none, none]) (S' := [.ref m]) rfl ?_
          refine gs_gtr rfl (by decide) rfl sh1.1 tm rfl rfl rfl (fun c201 ec201 tc201 => ?_)
          refine gz_s 1 (pc' := 34) (L' := [some (.ref m), some (.int (zi a)), some (.int (zi b)), some (.int (zi t)), none, none, none]) (S' := [.int (zi 0), .ref c201]) rfl ?_
          have hl202 : 64 ≤ h1.2.2.2.1 c201 ∧ h1.2.2.2.1 c201 ≤ 64 := gJ.rowl (G := gGG) sh1.1 tc201 rfl
          refine gs_ald rfl (by decide) sh1.1 tc201 rfl rfl rfl (by decide) (fun _ => rfl) (by omega) (by omega) (fun z203 ez203 az203 bz203 => ?_)
          have hf204 := gRow.at (i := 0) (z := z203) rc tc201 ez203 (by omega) (by omega) (by omega)
          refine gz_s 1 (pc' := 36) (L' := [some (.ref m), some (.int (zi a)), some (.int (zi b)), some (.int (zi t)), none, none, none]) (S' := [.int (zi (-1)), .int (zi z203)]) rfl ?_
          by_cases hc205 : (z203 : Int) = (-1)
          · refine gy_icT (pc' := 43) rfl (by decide) (by decide) (by omega) (by omega) hc205 ?_
            refine gz_s 1 (pc' := 44) (L' := [some (.ref m), some (.int (zi a)), some (.int (zi b)), some (.int (zi t)), none, none, none]) (S' := [.int (zi 0)]) rfl ?_
            exact jn4 0 (by omega)
          · refine gy_icF rfl (by decide) (by decide) (by omega) (by omega) hc205 ?_
            refine gz_s 2 (pc' := 44) (L' := [some (.ref m), some (.int (zi a)), some (.int (zi b)), some (.int (zi t)), none, none, none]) (S' := [.int (zi 1)]) rfl ?_
            exact jn4 1 (by omega)
  · refine gy_ifF rfl (by decide) (by decide) (by omega) hc197 ?_
    refine gz_s 1 (pc' := 10) (L' := [some (.ref m), some (.int (zi a)), some (.int (zi b)), some (.int (zi t)), none, none, none]) (S' := [.int (zi b)]) rfl ?_
    by_cases hc206 : (b : Int) = 0
    · refine gy_ifT (pc' := 39) rfl (by decide) (by decide) (by omega) hc206 ?_
      refine gz_s 2 (pc' := 44) (L' := [some (.ref m), some (.int (zi a)), some (.int (zi b)), some (.int (zi t)), none, none, none]) (S' := [.int (zi 1)]) rfl ?_
      exact jn4 1 (by omega)
    · refine gy_ifF rfl (by decide) (by decide) (by omega) hc206 ?_
      refine gz_s 2 (pc' := 15) (L' := [some (.ref m), some (.int (zi a)), some (.int (zi b)), some (.int (zi t)), none, none, none]) (S' := [.int (zi 1), .int (zi a)]) rfl ?_
      refine gy_icT (pc' := 43) rfl (by decide) (by decide) (by omega) (by omega) (by first | (simp [zc]; done) | (simp only [zc]; omega)) ?_
      refine gz_s 1 (pc' := 44) (L' := [some (.ref m), some (.int (zi a)), some (.int (zi b)), some (.int (zi t)), none, none, none]) (S' := [.int (zi 0)]) rfl ?_
      exact jn4 0 (by omega)
