/-! ===== the reference, further (by program) ===== -/
set_option maxRecDepth 20000 in
set_option maxHeartbeats 4000000 in
theorem mm_scan3 (d : Nat) {ty : Nat → Nat} {h : gH} (hJ : gJ rT 1027 ty h) (m : Nat) (tm : ty m = 1) (a : Int) (ra : (-2147483648) ≤ a ∧ a ≤ 2147483647) (b : Int) (rb : (-2147483648) ≤ b ∧ b ≤ 2147483647) (t : Int) (rt : (-2147483648) ≤ t ∧ t ≤ 2147483647) (n0 : Int) (en0 : h.2.2.2.2 m 53 = .int (zi n0)) (rn0 : 0 ≤ n0 ∧ n0 ≤ 10) (f : Nat → Int) (uq : gUq ty) (hyts : gTs ty n0 h) (hyf31 : gRow ty 31 f h) : gz gPP gGG gcn (d + 0) gt181 0 (gent [.ref m, .int (zi a), .int (zi b), .int (zi t)] 7) [] h (fun q _ => gSs rT 1027 ty [1000, 1053, 27999, 28999, 29999, 30999, 31999] h q.2.2 ∧ ∃ z n1 : Int, gfin gt181 q.1 q.2.1 = some (some (.int (zi z))) ∧ 0 ≤ z ∧ z ≤ 10 ∧ q.2.2.2.2.2.2 m 53 = .int (zi n1) ∧ 0 ≤ n1 ∧ n1 ≤ 10 ∧ (gTs ty n1 q.2.2) ∧ (gSz f n0 a b t z n1) ∧ (gSx ty 31 f n0 a b t q.2.2)) := by
  have hS : gSs rT 1027 ty [1000, 1053, 27999, 28999, 29999, 30999, 31999] h h := gSs.rf hJ
  refine gz_s 2 (pc' := 2) (L' := [some (.ref m), some (.int (zi a)), some (.int (zi b)), some (.int (zi t)), none, none, none]) (S' := [.int (zi 0), .ref m]) rfl ?_
  refine gs_put rfl (by decide) rfl hS tm rfl rfl rfl rfl (Or.inl rfl) (by decide) (by omega) (by omega) (fun h1 sh1 eh1 fh1 => ?_)
  have pr2 := gTs.pt fh1 tm (by decide) hyts
  have pr3 := gRow.pt fh1 tm (by decide) hyf31
  have s4 := (fh1 m 53 (fun q => absurd q.2 (by decide))).trans en0
  have hts0 := pr2
  obtain ⟨tf, tt, cf, rf, rt, rc, tle, tsm⟩ := hts0
  obtain ⟨c5, ec5, tc5⟩ := gJ.ref (k := 58) (G := gGG) sh1.1 tm rfl rfl rfl
  have ecf : gEq 64 cf f := gRow.eqv rc pr3 tc5
  refine gz_s 1 (pc' := 6) (L' := [some (.ref m), some (.int (zi a)), some (.int (zi b)), some (.int (zi t)), none, none, none]) (S' := [.int (zi a)]) rfl ?_
  have jn6 : ∀ (jn6v0 : Int), ((0 ≤ jn6v0) ∧ (jn6v0 ≤ 1) ∧ (jn6v0 = 1 ↔ ((a = 0 ∧ b = 0) ∨ (1 ≤ a ∧ a ≤ b ∧ b ≤ 63 ∧ 0 ≤ cf (0 : Int).toNat)))) → gz gPP gGG gcn (d + 0) gt181 44 [some (.ref m), some (.int (zi a)), some (.int (zi b)), some (.int (zi t)), none, none, none] [.int (zi jn6v0)] h1 (fun q _ => gSs rT 1027 ty [1000, 1053, 27999, 28999, 29999, 30999, 31999] h q.2.2 ∧ ∃ z n1 : Int, gfin gt181 q.1 q.2.1 = some (some (.int (zi z))) ∧ 0 ≤ z ∧ z ≤ 10 ∧ q.2.2.2.2.2.2 m 53 = .int (zi n1) ∧ 0 ≤ n1 ∧ n1 ≤ 10 ∧ (gTs ty n1 q.2.2) ∧ (gSz f n0 a b t z n1) ∧ (gSx ty 31 f n0 a b t q.2.2)) := by
    intro jn6v0 jn6d
    refine gz_s 2 (pc' := 48) (L' := [some (.ref m), some (.int (zi a)), some (.int (zi b)), some (.int (zi t)), some (.int (zi jn6v0)), none, none]) (S' := [.int (zi jn6v0)]) rfl ?_
    by_cases hc7 : (jn6v0 : Int) = 0
    · refine gy_ifT (pc' := 69) rfl (by decide) (by decide) (by omega) hc7 ?_
      refine gz_s 1 (pc' := 70) (L' := [some (.ref m), some (.int (zi a)), some (.int (zi b)), some (.int (zi t)), some (.int (zi jn6v0)), none, none]) (S' := [.int (zi 0)]) rfl ?_
      have hsk8 : ¬ gSk cf n0 a b t := fun w => by obtain ⟨w1, w2, w3, w4, w5⟩ := w; omega
      have hsz9 : gSz f n0 a b t 0 n0 := gSz.no ecf hsk8 (by omega) (by omega)
      have hsx10 : gSx ty 31 f n0 a b t h1 := gSx.no ecf rc hsk8
      exact gz_end (I := .ireturn) (len := 1) rfl (Or.inl rfl) ⟨sh1, 0, n0, rfl, (by omega), (by omega), s4, (by omega), (by omega), pr2, hsz9, hsx10⟩
    · refine gy_ifF rfl (by decide) (by decide) (by omega) hc7 ?_
      refine gz_s 1 (pc' := 52) (L' := [some (.ref m), some (.int (zi a)), some (.int (zi b)), some (.int (zi t)), some (.int (zi jn6v0)), none, none]) (S' := [.int (zi t)]) rfl ?_
      by_cases hc11 : (t : Int) < 0
      · refine gy_ifT (pc' := 69) rfl (by decide) (by decide) (by omega) hc11 ?_
        refine gz_s 1 (pc' := 70) (L' := [some (.ref m), some (.int (zi a)), some (.int (zi b)), some (.int (zi t)), some (.int (zi jn6v0)), none, none]) (S' := [.int (zi 0)]) rfl ?_
        have hsk12 : ¬ gSk cf n0 a b t := fun w => by obtain ⟨w1, w2, w3, w4, w5⟩ := w; omega
        have hsz13 : gSz f n0 a b t 0 n0 := gSz.no ecf hsk12 (by omega) (by omega)
        have hsx14 : gSx ty 31 f n0 a b t h1 := gSx.no ecf rc hsk12
        exact gz_end (I := .ireturn) (len := 1) rfl (Or.inl rfl) ⟨sh1, 0, n0, rfl, (by omega), (by omega), s4, (by omega), (by omega), pr2, hsz13, hsx14⟩
      · refine gy_ifF rfl (by decide) (by decide) (by omega) hc11 ?_
        refine gz_s 2 (pc' := 57) (L' := [some (.ref m), some (.int (zi a)), some (.int (zi b)), some (.int (zi t)), some (.int (zi jn6v0)), none, none]) (S' := [.int (zi 3), .int (zi t)]) rfl ?_
        by_cases hc15 : (3 : Int) < t
        · refine gy_icT (pc' := 69) rfl (by decide) (by decide) (by omega) (by omega) hc15 ?_
          refine gz_s 1 (pc' := 70) (L' := [some (.ref m), some (.int (zi a)), some (.int (zi b)), some (.int (zi t)), some (.int (zi jn6v0)), none, none]) (S' := [.int (zi 0)]) rfl ?_
          have hsk16 : ¬ gSk cf n0 a b t := fun w => by obtain ⟨w1, w2, w3, w4, w5⟩ := w; omega
          have hsz17 : gSz f n0 a b t 0 n0 := gSz.no ecf hsk16 (by omega) (by omega)
          have hsx18 : gSx ty 31 f n0 a b t h1 := gSx.no ecf rc hsk16
          exact gz_end (I := .ireturn) (len := 1) rfl (Or.inl rfl) ⟨sh1, 0, n0, rfl, (by omega), (by omega), s4, (by omega), (by omega), pr2, hsz17, hsx18⟩
        · refine gy_icF rfl (by decide) (by decide) (by omega) (by omega) hc15 ?_
          refine gz_s 1 (pc' := 61) (L' := [some (.ref m), some (.int (zi a)), some (.int (zi b)), some (.int (zi t)), some (.int (zi jn6v0)), none, none]) (S' := [.ref m]) rfl ?_
          refine gs_gtk rfl (by decide) rfl sh1.1 tm rfl rfl s4 ?_
          refine gz_s 1 (pc' := 66) (L' := [some (.ref m), some (.int (zi a)), some (.int (zi b)), some (.int (zi t)), some (.int (zi jn6v0)), none, none]) (S' := [.int (zi 10), .int (zi n0)]) rfl ?_
          by_cases hc19 : ¬ (n0 : Int) = 10
          · refine gy_icT (pc' := 71) rfl (by decide) (by decide) (by omega) (by omega) hc19 ?_
            refine gz_s 2 (pc' := 74) (L' := [some (.ref m), some (.int (zi a)), some (.int (zi b)), some (.int (zi t)), some (.int (zi jn6v0)), some (.int (zi a)), none]) (S' := []) rfl ?_
            have lp20 : ∀ (fu : Nat) (h21 : gH) (k : Int), (65 - k).toNat < fu → gSs rT 1027 ty [1000, 1053, 27999, 28999, 29999, 30999, 31999] h h21 → (0 ≤ k ∧ k ≤ 64) → (a ≤ k) → h21.2.2.2.2 m 53 = .int (zi n0) → h21.2.2.2.2 m 0 = .int (zi 0) → h21.2.2.2.2 m 58 = .ref c5 → gTs ty n0 h21 → gRow ty 31 cf h21 → gRow ty 27 tf h21 → gRow ty 28 tt h21 → (∀ j : Int, a ≤ j → j < k → cf j.toNat = cf a.toNat) → gz gPP gGG gcn (d + 0) gt181 74 [some (.ref m), some (.int (zi a)), some (.int (zi b)), some (.int (zi t)), some (.int (zi jn6v0)), some (.int (zi k)), none] [] h21 (fun q _ => gSs rT 1027 ty [1000, 1053, 27999, 28999, 29999, 30999, 31999] h q.2.2 ∧ ∃ z n1 : Int, gfin gt181 q.1 q.2.1 = some (some (.int (zi z))) ∧ 0 ≤ z ∧ z ≤ 10 ∧ q.2.2.2.2.2.2 m 53 = .int (zi n1) ∧ 0 ≤ n1 ∧ n1 ≤ 10 ∧ (gTs ty n1 q.2.2) ∧ (gSz f n0 a b t z n1) ∧ (gSx ty 31 f n0 a b t q.2.2)) := by
              intro fu
              induction fu with
              | zero => intro h21 k hm; exact absurd hm (Nat.not_lt_zero _)
              | succ fu ihlp20 =>
                intro h21 k lp20m sh21 lp20f0 lp20f1 lp20k0 lp20k1 lp20k2 lp20k3 lp20k4 lp20k5 lp20k6 lp20k7
                refine gz_s 2 (pc' := 77) (L' := [some (.ref m), some (.int (zi a)), some (.int (zi b)), some (.int (zi t)), some (.int (zi jn6v0)), some (.int (zi k)), none]) (S' := [.int (zi b), .int (zi k)]) rfl ?_
                by_cases hc22 : (b : Int) < k
                · refine gy_icT (pc' := 104) rfl (by decide) (by decide) (by omega) (by omega) hc22 ?_
                  refine gz_s 1 (pc' := 105) (L' := [some (.ref m), some (.int (zi a)), some (.int (zi b)), some (.int (zi t)), some (.int (zi jn6v0)), some (.int (zi k)), none]) (S' := [.ref m]) rfl ?_
                  refine gs_gtk rfl (by decide) rfl sh21.1 tm rfl rfl lp20k2 ?_
                  refine gz_s 1 (pc' := 109) (L' := [some (.ref m), some (.int (zi a)), some (.int (zi b)), some (.int (zi t)), some (.int (zi jn6v0)), some (.int (zi k)), none]) (S' := [.int (zi a), .ref c5]) rfl ?_
                  have hl23 : 64 ≤ h21.2.2.2.1 c5 ∧ h21.2.2.2.1 c5 ≤ 64 := gJ.rowl (G := gGG) sh21.1 tc5 rfl
                  refine gs_ald rfl (by decide) sh21.1 tc5 rfl rfl rfl (by decide) (fun _ => rfl) (by omega) (by omega) (fun z24 ez24 az24 bz24 => ?_)
                  have hf25 := gRow.at (i := a) (z := z24) lp20k4 tc5 ez24 (by omega) (by omega) (by omega)
                  refine gz_s 3 (pc' := 115) (L' := [some (.ref m), some (.int (zi a)), some (.int (zi b)), some (.int (zi t)), some (.int (zi jn6v0)), some (.int (zi z24)), none]) (S' := [.int (zi (-1)), .int (zi z24)]) rfl ?_
                  by_cases hc26 : (z24 : Int) = (-1)
                  · refine gy_icT (pc' := 128) rfl (by decide) (by decide) (by omega) (by omega) hc26 ?_
                    refine gz_s 2 (pc' := 131) (L' := [some (.ref m), some (.int (zi a)), some (.int (zi b)), some (.int (zi t)), some (.int (zi jn6v0)), some (.int (zi z24)), some (.int (zi a))]) (S' := []) rfl ?_
                    have hcq28 : gCq ty cf a a t h21 := ⟨cf, lp20k4, gCm.zero⟩
                    have hcf : cf a.toNat = cf a.toNat := rfl
                    have lp27 : ∀ (fu : Nat) (h29 : gH) (kb : Int), (65 - kb).toNat < fu → gSs rT 1027 ty [1000, 1053, 27999, 28999, 29999, 30999, 31999] h h29 → (0 ≤ kb ∧ kb ≤ 64) → (a ≤ kb) → (kb ≤ b + 1) → h29.2.2.2.2 m 53 = .int (zi n0) → h29.2.2.2.2 m 0 = .int (zi 0) → h29.2.2.2.2 m 58 = .ref c5 → gRow ty 27 tf h29 → gRow ty 28 tt h29 → (∀ j : Int, a ≤ j → j < k → cf j.toNat = cf a.toNat) → gCq ty cf a kb t h29 → gz gPP gGG gcn (d + 0) gt181 131 [some (.ref m), some (.int (zi a)), some (.int (zi b)), some (.int (zi t)), some (.int (zi jn6v0)), some (.int (zi z24)), some (.int (zi kb))] [] h29 (fun q _ => gSs rT 1027 ty [1000, 1053, 27999, 28999, 29999, 30999, 31999] h q.2.2 ∧ ∃ z n1 : Int, gfin gt181 q.1 q.2.1 = some (some (.int (zi z))) ∧ 0 ≤ z ∧ z ≤ 10 ∧ q.2.2.2.2.2.2 m 53 = .int (zi n1) ∧ 0 ≤ n1 ∧ n1 ≤ 10 ∧ (gTs ty n1 q.2.2) ∧ (gSz f n0 a b t z n1) ∧ (gSx ty 31 f n0 a b t q.2.2)) := by
                      intro fu
                      induction fu with
                      | zero => intro h29 kb hm; exact absurd hm (Nat.not_lt_zero _)
                      | succ fu ihlp27 =>
                        intro h29 kb lp27m sh29 lp27f0 lp27f1 lp27f2 lp27k0 lp27k1 lp27k2 lp27k3 lp27k4 lp27k5 lp27k6
                        refine gz_s 2 (pc' := 134) (L' := [some (.ref m), some (.int (zi a)), some (.int (zi b)), some (.int (zi t)), some (.int (zi jn6v0)), some (.int (zi z24)), some (.int (zi kb))]) (S' := [.int (zi b), .int (zi kb)]) rfl ?_
                        by_cases hc30 : (b : Int) < kb
                        · refine gy_icT (pc' := 151) rfl (by decide) (by decide) (by omega) (by omega) hc30 ?_
                          refine gz_s 1 (pc' := 152) (L' := [some (.ref m), some (.int (zi a)), some (.int (zi b)), some (.int (zi t)), some (.int (zi jn6v0)), some (.int (zi z24)), some (.int (zi kb))]) (S' := [.ref m]) rfl ?_
                          refine gs_gtr rfl (by decide) rfl sh29.1 tm rfl rfl rfl (fun c31 ec31 tc31 => ?_)
                          refine gz_s 1 (pc' := 156) (L' := [some (.ref m), some (.int (zi a)), some (.int (zi b)), some (.int (zi t)), some (.int (zi jn6v0)), some (.int (zi z24)), some (.int (zi kb))]) (S' := [.ref m, .ref c31]) rfl ?_
                          refine gs_gtk rfl (by decide) rfl sh29.1 tm rfl rfl lp27k0 ?_
                          refine gz_s 1 (pc' := 160) (L' := [some (.ref m), some (.int (zi a)), some (.int (zi b)), some (.int (zi t)), some (.int (zi jn6v0)), some (.int (zi z24)), some (.int (zi kb))]) (S' := [.int (zi a), .int (zi n0), .ref c31]) rfl ?_
                          have hl32 : 10 ≤ h29.2.2.2.1 c31 ∧ h29.2.2.2.1 c31 ≤ 10 := gJ.rowl (G := gGG) sh29.1 tc31 rfl
                          refine gs_ast rfl (by decide) sh29 tc31 rfl rfl rfl (by decide) (fun _ => rfl) (by omega) (by omega) (fun _ => (by decide : (27999 : Nat) ∈ ([1000, 1053, 27999, 28999, 29999, 30999, 31999] : List Nat))) (by omega) (by omega) (fun h33 sh33 eh33 fh33 => ?_)
                          have pr34 := gRow.put (i := n0) (z := a) uq tc31 (by decide) fh33 eh33 (by omega) (by omega) lp27k3
                          have pr35 := gRow.pt fh33 tc31 (by decide) lp27k4
                          have pr36 := gCq.pt fh33 tc31 (by decide) lp27k6
                          have s37 := (fh33 m 53 (fun q => absurd (((tm).symm.trans (congrArg ty q.1)).trans tc31) (by decide))).trans lp27k0
                          have s38 := (fh33 m 0 (fun q => absurd (((tm).symm.trans (congrArg ty q.1)).trans tc31) (by decide))).trans lp27k1
                          have s39 := (fh33 m 58 (fun q => absurd (((tm).symm.trans (congrArg ty q.1)).trans tc31) (by decide))).trans lp27k2
                          have s40 := (fh33 m 54 (fun q => absurd (((tm).symm.trans (congrArg ty q.1)).trans tc31) (by decide))).trans ec31
                          have pr41 := gEl.set (i := n0) (z := a) uq tc31 (by decide) eh33 (by omega) (by omega)
                          refine gz_s 1 (pc' := 162) (L' := [some (.ref m), some (.int (zi a)), some (.int (zi b)), some (.int (zi t)), some (.int (zi jn6v0)), some (.int (zi z24)), some (.int (zi kb))]) (S' := [.ref m]) rfl ?_
                          refine gs_gtr rfl (by decide) rfl sh33.1 tm rfl rfl rfl (fun c42 ec42 tc42 => ?_)
                          refine gz_s 1 (pc' := 166) (L' := [some (.ref m), some (.int (zi a)), some (.int (zi b)), some (.int (zi t)), some (.int (zi jn6v0)), some (.int (zi z24)), some (.int (zi kb))]) (S' := [.ref m, .ref c42]) rfl ?_
                          refine gs_gtk rfl (by decide) rfl sh33.1 tm rfl rfl s37 ?_
                          refine gz_s 1 (pc' := 170) (L' := [some (.ref m), some (.int (zi a)), some (.int (zi b)), some (.int (zi t)), some (.int (zi jn6v0)), some (.int (zi z24)), some (.int (zi kb))]) (S' := [.int (zi b), .int (zi n0), .ref c42]) rfl ?_
                          have hl43 : 10 ≤ h33.2.2.2.1 c42 ∧ h33.2.2.2.1 c42 ≤ 10 := gJ.rowl (G := gGG) sh33.1 tc42 rfl
                          refine gs_ast rfl (by decide) sh33 tc42 rfl rfl rfl (by decide) (fun _ => rfl) (by omega) (by omega) (fun _ => (by decide : (28999 : Nat) ∈ ([1000, 1053, 27999, 28999, 29999, 30999, 31999] : List Nat))) (by omega) (by omega) (fun h44 sh44 eh44 fh44 => ?_)
                          have pr45 := gRow.pt fh44 tc42 (by decide) pr34
                          have pr46 := gRow.put (i := n0) (z := b) uq tc42 (by decide) fh44 eh44 (by omega) (by omega) pr35
                          have pr47 := gCq.pt fh44 tc42 (by decide) pr36
                          have pr48 := gEl.pt fh44 tc42 (by decide) pr41
                          have s49 := (fh44 m 53 (fun q => absurd (((tm).symm.trans (congrArg ty q.1)).trans tc42) (by decide))).trans s37
                          have s50 := (fh44 m 0 (fun q => absurd (((tm).symm.trans (congrArg ty q.1)).trans tc42) (by decide))).trans s38
                          have s51 := (fh44 m 58 (fun q => absurd (((tm).symm.trans (congrArg ty q.1)).trans tc42) (by decide))).trans s39
                          have s52 := (fh44 m 54 (fun q => absurd (((tm).symm.trans (congrArg ty q.1)).trans tc42) (by decide))).trans s40
                          have s53 := (fh44 m 55 (fun q => absurd (((tm).symm.trans (congrArg ty q.1)).trans tc42) (by decide))).trans ec42
                          have pr54 := gEl.set (i := n0) (z := b) uq tc42 (by decide) eh44 (by omega) (by omega)
                          refine gz_s 1 (pc' := 172) (L' := [some (.ref m), some (.int (zi a)), some (.int (zi b)), some (.int (zi t)), some (.int (zi jn6v0)), some (.int (zi z24)), some (.int (zi kb))]) (S' := [.ref m]) rfl ?_
                          refine gs_gtr rfl (by decide) rfl sh44.1 tm rfl rfl rfl (fun c55 ec55 tc55 => ?_)
                          refine gz_s 1 (pc' := 176) (L' := [some (.ref m), some (.int (zi a)), some (.int (zi b)), some (.int (zi t)), some (.int (zi jn6v0)), some (.int (zi z24)), some (.int (zi kb))]) (S' := [.ref m, .ref c55]) rfl ?_
                          refine gs_gtk rfl (by decide) rfl sh44.1 tm rfl rfl s49 ?_
                          refine gz_s 2 (pc' := 182) (L' := [some (.ref m), some (.int (zi a)), some (.int (zi b)), some (.int (zi t)), some (.int (zi jn6v0)), some (.int (zi z24)), some (.int (zi kb))]) (S' := [.int (zi (-1)), .int (zi z24), .int (zi n0), .ref c55]) rfl ?_
                          refine gy_icF rfl (by decide) (by decide) (by omega) (by omega) (by first | (simp [zc]; done) | (simp only [zc]; omega)) ?_
                          refine gz_s 2 (pc' := 191) (L' := [some (.ref m), some (.int (zi a)), some (.int (zi b)), some (.int (zi t)), some (.int (zi jn6v0)), some (.int (zi z24)), some (.int (zi kb))]) (S' := [.int (zi 0), .int (zi n0), .ref c55]) rfl ?_
                          have hl56 : 10 ≤ h44.2.2.2.1 c55 ∧ h44.2.2.2.1 c55 ≤ 10 := gJ.rowl (G := gGG) sh44.1 tc55 rfl
                          refine gs_ast rfl (by decide) sh44 tc55 rfl rfl rfl (by decide) (fun _ => rfl) (by omega) (by omega) (fun _ => (by decide : (29999 : Nat) ∈ ([1000, 1053, 27999, 28999, 29999, 30999, 31999] : List Nat))) (by omega) (by omega) (fun h57 sh57 eh57 fh57 => ?_)
                          have pr58 := gRow.pt fh57 tc55 (by decide) pr45
                          have pr59 := gRow.pt fh57 tc55 (by decide) pr46
                          have pr60 := gCq.pt fh57 tc55 (by decide) pr47
                          have pr61 := gEl.pt fh57 tc55 (by decide) pr48
                          have pr62 := gEl.pt fh57 tc55 (by decide) pr54
                          have s63 := (fh57 m 53 (fun q => absurd (((tm).symm.trans (congrArg ty q.1)).trans tc55) (by decide))).trans s49
                          have s64 := (fh57 m 0 (fun q => absurd (((tm).symm.trans (congrArg ty q.1)).trans tc55) (by decide))).trans s50
                          have s65 := (fh57 m 58 (fun q => absurd (((tm).symm.trans (congrArg ty q.1)).trans tc55) (by decide))).trans s51
                          have s66 := (fh57 m 54 (fun q => absurd (((tm).symm.trans (congrArg ty q.1)).trans tc55) (by decide))).trans s52
                          have s67 := (fh57 m 55 (fun q => absurd (((tm).symm.trans (congrArg ty q.1)).trans tc55) (by decide))).trans s53
                          have s68 := (fh57 m 56 (fun q => absurd (((tm).symm.trans (congrArg ty q.1)).trans tc55) (by decide))).trans ec55
                          have pr69 := gEl.set (i := n0) (z := 0) uq tc55 (by decide) eh57 (by omega) (by omega)
                          refine gz_s 1 (pc' := 193) (L' := [some (.ref m), some (.int (zi a)), some (.int (zi b)), some (.int (zi t)), some (.int (zi jn6v0)), some (.int (zi z24)), some (.int (zi kb))]) (S' := [.ref m]) rfl ?_
                          refine gs_gtr rfl (by decide) rfl sh57.1 tm rfl rfl rfl (fun c70 ec70 tc70 => ?_)
                          refine gz_s 1 (pc' := 197) (L' := [some (.ref m), some (.int (zi a)), some (.int (zi b)), some (.int (zi t)), some (.int (zi jn6v0)), some (.int (zi z24)), some (.int (zi kb))]) (S' := [.ref m, .ref c70]) rfl ?_
                          refine gs_gtk rfl (by decide) rfl sh57.1 tm rfl rfl s63 ?_
                          refine gz_s 1 (pc' := 201) (L' := [some (.ref m), some (.int (zi a)), some (.int (zi b)), some (.int (zi t)), some (.int (zi jn6v0)), some (.int (zi z24)), some (.int (zi kb))]) (S' := [.int (zi t), .int (zi n0), .ref c70]) rfl ?_
                          have hl71 : 10 ≤ h57.2.2.2.1 c70 ∧ h57.2.2.2.1 c70 ≤ 10 := gJ.rowl (G := gGG) sh57.1 tc70 rfl
                          refine gs_ast rfl (by decide) sh57 tc70 rfl rfl rfl (by decide) (fun _ => rfl) (by omega) (by omega) (fun _ => (by decide : (30999 : Nat) ∈ ([1000, 1053, 27999, 28999, 29999, 30999, 31999] : List Nat))) (by omega) (by omega) (fun h72 sh72 eh72 fh72 => ?_)
                          have pr73 := gRow.pt fh72 tc70 (by decide) pr58
                          have pr74 := gRow.pt fh72 tc70 (by decide) pr59
                          have pr75 := gCq.pt fh72 tc70 (by decide) pr60
                          have pr76 := gEl.pt fh72 tc70 (by decide) pr61
                          have pr77 := gEl.pt fh72 tc70 (by decide) pr62
                          have pr78 := gEl.pt fh72 tc70 (by decide) pr69
                          have s79 := (fh72 m 53 (fun q => absurd (((tm).symm.trans (congrArg ty q.1)).trans tc70) (by decide))).trans s63
                          have s80 := (fh72 m 0 (fun q => absurd (((tm).symm.trans (congrArg ty q.1)).trans tc70) (by decide))).trans s64
                          have s81 := (fh72 m 58 (fun q => absurd (((tm).symm.trans (congrArg ty q.1)).trans tc70) (by decide))).trans s65
                          have s82 := (fh72 m 54 (fun q => absurd (((tm).symm.trans (congrArg ty q.1)).trans tc70) (by decide))).trans s66
                          have s83 := (fh72 m 55 (fun q => absurd (((tm).symm.trans (congrArg ty q.1)).trans tc70) (by decide))).trans s67
                          have s84 := (fh72 m 56 (fun q => absurd (((tm).symm.trans (congrArg ty q.1)).trans tc70) (by decide))).trans s68
                          have s85 := (fh72 m 57 (fun q => absurd (((tm).symm.trans (congrArg ty q.1)).trans tc70) (by decide))).trans ec70
                          have pr86 := gEl.set (i := n0) (z := t) uq tc70 (by decide) eh72 (by omega) (by omega)
                          refine gz_s 2 (pc' := 204) (L' := [some (.ref m), some (.int (zi a)), some (.int (zi b)), some (.int (zi t)), some (.int (zi jn6v0)), some (.int (zi z24)), some (.int (zi kb))]) (S' := [.ref m, .ref m]) rfl ?_
                          refine gs_gtk rfl (by decide) rfl sh72.1 tm rfl rfl s79 ?_
                          refine gy_s 2 (pc' := 209) (L' := [some (.ref m), some (.int (zi a)), some (.int (zi b)), some (.int (zi t)), some (.int (zi jn6v0)), some (.int (zi z24)), some (.int (zi kb))]) (S' := [.int ((zi n0) + (zi 1)), .ref m]) (L2 := [some (.ref m), some (.int (zi a)), some (.int (zi b)), some (.int (zi t)), some (.int (zi jn6v0)), some (.int (zi z24)), some (.int (zi kb))]) (S2 := [.int (zi (n0 + 1)), .ref m]) rfl (by simp only [zi_add, zi_sub, zi_mul, zi_neg, zi_and1, zi_and7, zi_and15, zi_and31, zi_and255]) (by simp only [zi_add, zi_sub, zi_mul, zi_neg, zi_and1, zi_and7, zi_and15, zi_and31, zi_and255]) ?_
                          obtain ⟨c2, rc2, hcm⟩ := pr75
                          have hts87 : gTs ty (n0 + 1) h72 := gTs.tell (by omega) pr73 pr74 rc2 tle tsm hcm (by omega) (by omega)
                          refine gs_put rfl (by decide) rfl sh72 tm rfl rfl rfl rfl (Or.inl rfl) (by decide) (by omega) (by omega) (fun h88 sh88 eh88 fh88 => ?_)
                          have pr89 := gRow.pt fh88 tm (by decide) pr73
                          have pr90 := gRow.pt fh88 tm (by decide) pr74
                          have pr91 := gEl.pt fh88 tm (by decide) pr76
                          have pr92 := gEl.pt fh88 tm (by decide) pr77
                          have pr93 := gEl.pt fh88 tm (by decide) pr78
                          have pr94 := gEl.pt fh88 tm (by decide) pr86
                          have pr95 := gTs.pt fh88 tm (by decide) hts87
                          have pr96 := gRow.pt fh88 tm (by decide) rc2
                          have s97 := (fh88 m 0 (fun q => absurd q.2 (by decide))).trans s80
                          have s98 := (fh88 m 58 (fun q => absurd q.2 (by decide))).trans s81
                          have s99 := (fh88 m 54 (fun q => absurd q.2 (by decide))).trans s82
                          have s100 := (fh88 m 55 (fun q => absurd q.2 (by decide))).trans s83
                          have s101 := (fh88 m 56 (fun q => absurd q.2 (by decide))).trans s84
                          have s102 := (fh88 m 57 (fun q => absurd q.2 (by decide))).trans s85
                          refine gz_s 1 (pc' := 213) (L' := [some (.ref m), some (.int (zi a)), some (.int (zi b)), some (.int (zi t)), some (.int (zi jn6v0)), some (.int (zi z24)), some (.int (zi kb))]) (S' := [.ref m]) rfl ?_
                          refine gs_gtk rfl (by decide) rfl sh88.1 tm rfl rfl eh88 ?_
                          have hsk103 : gSk cf n0 a b t := ⟨by omega, ⟨by omega, by omega⟩, by omega, by omega, fun j h1 h2 => lp27k5 j h1 (by omega)⟩
                          have hsz104 : gSz f n0 a b t (n0 + 1) (n0 + 1) := gSz.ys ecf hsk103 (by omega) (by omega)
                          have hsx105 : gSx ty 31 f n0 a b t h88 := gSx.ys ecf pr96 (by omega) (by omega) hcm hsk103
                          exact gz_end (I := .ireturn) (len := 1) rfl (Or.inl rfl) ⟨sh88, n0 + 1, n0 + 1, rfl, (by omega), (by omega), eh88, (by omega), (by omega), pr95, hsz104, hsx105⟩
                        · refine gy_icF rfl (by decide) (by decide) (by omega) (by omega) hc30 ?_
                          obtain ⟨c2, rc2, hcm⟩ := lp27k6
                          refine gz_s 1 (pc' := 138) (L' := [some (.ref m), some (.int (zi a)), some (.int (zi b)), some (.int (zi t)), some (.int (zi jn6v0)), some (.int (zi z24)), some (.int (zi kb))]) (S' := [.ref m]) rfl ?_
                          refine gs_gtk rfl (by decide) rfl sh29.1 tm rfl rfl lp27k2 ?_
                          refine gz_s 2 (pc' := 144) (L' := [some (.ref m), some (.int (zi a)), some (.int (zi b)), some (.int (zi t)), some (.int (zi jn6v0)), some (.int (zi z24)), some (.int (zi kb))]) (S' := [.int (zi t), .int (zi kb), .ref c5]) rfl ?_
                          have hl106 : 64 ≤ h29.2.2.2.1 c5 ∧ h29.2.2.2.1 c5 ≤ 64 := gJ.rowl (G := gGG) sh29.1 tc5 rfl
                          refine gs_ast rfl (by decide) sh29 tc5 rfl rfl rfl (by decide) (fun _ => rfl) (by omega) (by omega) (fun _ => (by decide : (31999 : Nat) ∈ ([1000, 1053, 27999, 28999, 29999, 30999, 31999] : List Nat))) (by omega) (by omega) (fun h107 sh107 eh107 fh107 => ?_)
                          have pr108 := gRow.pt fh107 tc5 (by decide) lp27k3
                          have pr109 := gRow.pt fh107 tc5 (by decide) lp27k4
                          have pr110 := gRow.put (i := kb) (z := t) uq tc5 (by decide) fh107 eh107 (by omega) (by omega) rc2
                          have s111 := (fh107 m 53 (fun q => absurd (((tm).symm.trans (congrArg ty q.1)).trans tc5) (by decide))).trans lp27k0
                          have s112 := (fh107 m 0 (fun q => absurd (((tm).symm.trans (congrArg ty q.1)).trans tc5) (by decide))).trans lp27k1
                          have s113 := (fh107 m 58 (fun q => absurd (((tm).symm.trans (congrArg ty q.1)).trans tc5) (by decide))).trans lp27k2
                          have pr114 := gEl.set (i := kb) (z := t) uq tc5 (by decide) eh107 (by omega) (by omega)
                          have e6 : cf (kb).toNat = cf a.toNat := lp27k5 kb (by omega) (by omega)
                          have e7 : t + 1 ≤ gcr (cf (kb).toNat) := by rw [e6]; unfold gcr; split <;> omega
                          have hcq115 : gCq ty cf a (kb + 1) t h107 := ⟨_, pr110, hcm.step (by omega) (by omega) e7 (by omega)⟩
                          refine gy_s 2 (pc' := 131) (L' := [some (.ref m), some (.int (zi a)), some (.int (zi b)), some (.int (zi t)), some (.int (zi jn6v0)), some (.int (zi z24)), some (.int ((zi kb) + zi 1))]) (S' := []) (L2 := [some (.ref m), some (.int (zi a)), some (.int (zi b)), some (.int (zi t)), some (.int (zi jn6v0)), some (.int (zi z24)), some (.int (zi (kb + 1)))]) (S2 := []) rfl (by simp only [zi_add, zi_sub, zi_mul, zi_neg, zi_and1, zi_and7, zi_and15, zi_and31, zi_and255]) (by simp only [zi_add, zi_sub, zi_mul, zi_neg, zi_and1, zi_and7, zi_and15, zi_and31, zi_and255]) ?_
                          exact gz_wk (ihlp27 h107 (kb + 1) (by omega) sh107 (by omega) (by omega) (by omega) s111 s112 s113 pr108 pr109 lp27k5 hcq115) (gLw.s (gLw.s (gLw.s (gLw.s (gLw.s (gLw.s (gLw.s gLw.z)))))))
                    exact gz_wk (lp27 _ h21 a (Nat.lt_succ_self _) sh21 (by omega) (by omega) (by omega) lp20k0 lp20k1 lp20k2 lp20k5 lp20k6 lp20k7 hcq28) (gLw.s (gLw.s (gLw.s (gLw.s (gLw.s (gLw.s (gLw.s gLw.z)))))))
                  · refine gy_icF rfl (by decide) (by decide) (by omega) (by omega) hc26 ?_
                    refine gy_s 4 (pc' := 123) (L' := [some (.ref m), some (.int (zi a)), some (.int (zi b)), some (.int (zi t)), some (.int (zi jn6v0)), some (.int (zi z24)), none]) (S' := [.int ((zi t) + (zi 1)), .int (zi z24)]) (L2 := [some (.ref m), some (.int (zi a)), some (.int (zi b)), some (.int (zi t)), some (.int (zi jn6v0)), some (.int (zi z24)), none]) (S2 := [.int (zi (t + 1)), .int (zi z24)]) rfl (by simp only [zi_add, zi_sub, zi_mul, zi_neg, zi_and1, zi_and7, zi_and15, zi_and31, zi_and255]) (by simp only [zi_add, zi_sub, zi_mul, zi_neg, zi_and1, zi_and7, zi_and15, zi_and31, zi_and255]) ?_
                    by_cases hc116 : (z24 : Int) = t + 1
                    · refine gy_icT (pc' := 128) rfl (by decide) (by decide) (by omega) (by omega) hc116 ?_
                      refine gz_s 2 (pc' := 131) (L' := [some (.ref m), some (.int (zi a)), some (.int (zi b)), some (.int (zi t)), some (.int (zi jn6v0)), some (.int (zi z24)), some (.int (zi a))]) (S' := []) rfl ?_
                      have hcq118 : gCq ty cf a a t h21 := ⟨cf, lp20k4, gCm.zero⟩
                      have hcf : cf a.toNat = cf a.toNat := rfl
                      have lp117 : ∀ (fu : Nat) (h119 : gH) (kb : Int), (65 - kb).toNat < fu → gSs rT 1027 ty [1000, 1053, 27999, 28999, 29999, 30999, 31999] h h119 → (0 ≤ kb ∧ kb ≤ 64) → (a ≤ kb) → (kb ≤ b + 1) → h119.2.2.2.2 m 53 = .int (zi n0) → h119.2.2.2.2 m 0 = .int (zi 0) → h119.2.2.2.2 m 58 = .ref c5 → gRow ty 27 tf h119 → gRow ty 28 tt h119 → (∀ j : Int, a ≤ j → j < k → cf j.toNat = cf a.toNat) → gCq ty cf a kb t h119 → gz gPP gGG gcn (d + 0) gt181 131 [some (.ref m), some (.int (zi a)), some (.int (zi b)), some (.int (zi t)), some (.int (zi jn6v0)), some (.int (zi z24)), some (.int (zi kb))] [] h119 (fun q _ => gSs rT 1027 ty [1000, 1053, 27999, 28999, 29999, 30999, 31999] h q.2.2 ∧ ∃ z n1 : Int, gfin gt181 q.1 q.2.1 = some (some (.int (zi z))) ∧ 0 ≤ z ∧ z ≤ 10 ∧ q.2.2.2.2.2.2 m 53 = .int (zi n1) ∧ 0 ≤ n1 ∧ n1 ≤ 10 ∧ (gTs ty n1 q.2.2) ∧ (gSz f n0 a b t z n1) ∧ (gSx ty 31 f n0 a b t q.2.2)) := by
                        intro fu
                        induction fu with
                        | zero => intro h119 kb hm; exact absurd hm (Nat.not_lt_zero _)
                        | succ fu ihlp117 =>
                          intro h119 kb lp117m sh119 lp117f0 lp117f1 lp117f2 lp117k0 lp117k1 lp117k2 lp117k3 lp117k4 lp117k5 lp117k6
                          refine gz_s 2 (pc' := 134) (L' := [some (.ref m), some (.int (zi a)), some (.int (zi b)), some (.int (zi t)), some (.int (zi jn6v0)), some (.int (zi z24)), some (.int (zi kb))]) (S' := [.int (zi b), .int (zi kb)]) rfl ?_
                          by_cases hc120 : (b : Int) < kb
                          · refine gy_icT (pc' := 151) rfl (by decide) (by decide) (by omega) (by omega) hc120 ?_
                            refine gz_s 1 (pc' := 152) (L' := [some (.ref m), some (.int (zi a)), some (.int (zi b)), some (.int (zi t)), some (.int (zi jn6v0)), some (.int (zi z24)), some (.int (zi kb))]) (S' := [.ref m]) rfl ?_
                            refine gs_gtr rfl (by decide) rfl sh119.1 tm rfl rfl rfl (fun c121 ec121 tc121 => ?_)
                            refine gz_s 1 (pc' := 156) (L' := [some (.ref m), some (.int (zi a)), some (.int (zi b)), some (.int (zi t)), some (.int (zi jn6v0)), some (.int (zi z24)), some (.int (zi kb))]) (S' := [.ref m, .ref c121]) rfl ?_
                            refine gs_gtk rfl (by decide) rfl sh119.1 tm rfl rfl lp117k0 ?_
                            refine gz_s 1 (pc' := 160) (L' := [some (.ref m), some (.int (zi a)), some (.int (zi b)), some (.int (zi t)), some (.int (zi jn6v0)), some (.int (zi z24)), some (.int (zi kb))]) (S' := [.int (zi a), .int (zi n0), .ref c121]) rfl ?_
                            have hl122 : 10 ≤ h119.2.2.2.1 c121 ∧ h119.2.2.2.1 c121 ≤ 10 := gJ.rowl (G := gGG) sh119.1 tc121 rfl
                            refine gs_ast rfl (by decide) sh119 tc121 rfl rfl rfl (by decide) (fun _ => rfl) (by omega) (by omega) (fun _ => (by decide : (27999 : Nat) ∈ ([1000, 1053, 27999, 28999, 29999, 30999, 31999] : List Nat))) (by omega) (by omega) (fun h123 sh123 eh123 fh123 => ?_)
                            have pr124 := gRow.put (i := n0) (z := a) uq tc121 (by decide) fh123 eh123 (by omega) (by omega) lp117k3
                            have pr125 := gRow.pt fh123 tc121 (by decide) lp117k4
                            have pr126 := gCq.pt fh123 tc121 (by decide) lp117k6
                            have s127 := (fh123 m 53 (fun q => absurd (((tm).symm.trans (congrArg ty q.1)).trans tc121) (by decide))).trans lp117k0
                            have s128 := (fh123 m 0 (fun q => absurd (((tm).symm.trans (congrArg ty q.1)).trans tc121) (by decide))).trans lp117k1
                            have s129 := (fh123 m 58 (fun q => absurd (((tm).symm.trans (congrArg ty q.1)).trans tc121) (by decide))).trans lp117k2
                            have s130 := (fh123 m 54 (fun q => absurd (((tm).symm.trans (congrArg ty q.1)).trans tc121) (by decide))).trans ec121
                            have pr131 := gEl.set (i := n0) (z := a) uq tc121 (by decide) eh123 (by omega) (by omega)
                            refine gz_s 1 (pc' := 162) (L' := [some (.ref m), some (.int (zi a)), some (.int (zi b)), some (.int (zi t)), some (.int (zi jn6v0)), some (.int (zi z24)), some (.int (zi kb))]) (S' := [.ref m]) rfl ?_
                            refine gs_gtr rfl (by decide) rfl sh123.1 tm rfl rfl rfl (fun c132 ec132 tc132 => ?_)
                            refine gz_s 1 (pc' := 166) (L' := [some (.ref m), some (.int (zi a)), some (.int (zi b)), some (.int (zi t)), some (.int (zi jn6v0)), some (.int (zi z24)), some (.int (zi kb))]) (S' := [.ref m, .ref c132]) rfl ?_
                            refine gs_gtk rfl (by decide) rfl sh123.1 tm rfl rfl s127 ?_
                            refine gz_s 1 (pc' := 170) (L' := [some (.ref m), some (.int (zi a)), some (.int (zi b)), some (.int (zi t)), some (.int (zi jn6v0)), some (.int (zi z24)), some (.int (zi kb))]) (S' := [.int (zi b), .int (zi n0), .ref c132]) rfl ?_
                            have hl133 : 10 ≤ h123.2.2.2.1 c132 ∧ h123.2.2.2.1 c132 ≤ 10 := gJ.rowl (G := gGG) sh123.1 tc132 rfl
                            refine gs_ast rfl (by decide) sh123 tc132 rfl rfl rfl (by decide) (fun _ => rfl) (by omega) (by omega) (fun _ => (by decide : (28999 : Nat) ∈ ([1000, 1053, 27999, 28999, 29999, 30999, 31999] : List Nat))) (by omega) (by omega) (fun h134 sh134 eh134 fh134 => ?_)
                            have pr135 := gRow.pt fh134 tc132 (by decide) pr124
                            have pr136 := gRow.put (i := n0) (z := b) uq tc132 (by decide) fh134 eh134 (by omega) (by omega) pr125
                            have pr137 := gCq.pt fh134 tc132 (by decide) pr126
                            have pr138 := gEl.pt fh134 tc132 (by decide) pr131
                            have s139 := (fh134 m 53 (fun q => absurd (((tm).symm.trans (congrArg ty q.1)).trans tc132) (by decide))).trans s127
                            have s140 := (fh134 m 0 (fun q => absurd (((tm).symm.trans (congrArg ty q.1)).trans tc132) (by decide))).trans s128
                            have s141 := (fh134 m 58 (fun q => absurd (((tm).symm.trans (congrArg ty q.1)).trans tc132) (by decide))).trans s129
                            have s142 := (fh134 m 54 (fun q => absurd (((tm).symm.trans (congrArg ty q.1)).trans tc132) (by decide))).trans s130
                            have s143 := (fh134 m 55 (fun q => absurd (((tm).symm.trans (congrArg ty q.1)).trans tc132) (by decide))).trans ec132
                            have pr144 := gEl.set (i := n0) (z := b) uq tc132 (by decide) eh134 (by omega) (by omega)
                            refine gz_s 1 (pc' := 172) (L' := [some (.ref m), some (.int (zi a)), some (.int (zi b)), some (.int (zi t)), some (.int (zi jn6v0)), some (.int (zi z24)), some (.int (zi kb))]) (S' := [.ref m]) rfl ?_
                            refine gs_gtr rfl (by decide) rfl sh134.1 tm rfl rfl rfl (fun c145 ec145 tc145 => ?_)
                            refine gz_s 1 (pc' := 176) (L' := [some (.ref m), some (.int (zi a)), some (.int (zi b)), some (.int (zi t)), some (.int (zi jn6v0)), some (.int (zi z24)), some (.int (zi kb))]) (S' := [.ref m, .ref c145]) rfl ?_
                            refine gs_gtk rfl (by decide) rfl sh134.1 tm rfl rfl s139 ?_
                            refine gz_s 2 (pc' := 182) (L' := [some (.ref m), some (.int (zi a)), some (.int (zi b)), some (.int (zi t)), some (.int (zi jn6v0)), some (.int (zi z24)), some (.int (zi kb))]) (S' := [.int (zi (-1)), .int (zi z24), .int (zi n0), .ref c145]) rfl ?_
                            refine gy_icT (pc' := 189) rfl (by decide) (by decide) (by omega) (by omega) (by first | (simp [zc]; done) | (simp only [zc]; omega)) ?_
                            refine gz_s 1 (pc' := 191) (L' := [some (.ref m), some (.int (zi a)), some (.int (zi b)), some (.int (zi t)), some (.int (zi jn6v0)), some (.int (zi z24)), some (.int (zi kb))]) (S' := [.int (zi z24), .int (zi n0), .ref c145]) rfl ?_
                            have hl146 : 10 ≤ h134.2.2.2.1 c145 ∧ h134.2.2.2.1 c145 ≤ 10 := gJ.rowl (G := gGG) sh134.1 tc145 rfl
                            refine gs_ast rfl (by decide) sh134 tc145 rfl rfl rfl (by decide) (fun _ => rfl) (by omega) (by omega) (fun _ => (by decide : (29999 : Nat) ∈ ([1000, 1053, 27999, 28999, 29999, 30999, 31999] : List Nat))) (by omega) (by omega) (fun h147 sh147 eh147 fh147 => ?_)
                            have pr148 := gRow.pt fh147 tc145 (by decide) pr135
                            have pr149 := gRow.pt fh147 tc145 (by decide) pr136
                            have pr150 := gCq.pt fh147 tc145 (by decide) pr137
                            have pr151 := gEl.pt fh147 tc145 (by decide) pr138
                            have pr152 := gEl.pt fh147 tc145 (by decide) pr144
                            have s153 := (fh147 m 53 (fun q => absurd (((tm).symm.trans (congrArg ty q.1)).trans tc145) (by decide))).trans s139
                            have s154 := (fh147 m 0 (fun q => absurd (((tm).symm.trans (congrArg ty q.1)).trans tc145) (by decide))).trans s140
                            have s155 := (fh147 m 58 (fun q => absurd (((tm).symm.trans (congrArg ty q.1)).trans tc145) (by decide))).trans s141
                            have s156 := (fh147 m 54 (fun q => absurd (((tm).symm.trans (congrArg ty q.1)).trans tc145) (by decide))).trans s142
                            have s157 := (fh147 m 55 (fun q => absurd (((tm).symm.trans (congrArg ty q.1)).trans tc145) (by decide))).trans s143
                            have s158 := (fh147 m 56 (fun q => absurd (((tm).symm.trans (congrArg ty q.1)).trans tc145) (by decide))).trans ec145
                            have pr159 := gEl.set (i := n0) (z := z24) uq tc145 (by decide) eh147 (by omega) (by omega)
                            refine gz_s 1 (pc' := 193) (L' := [some (.ref m), some (.int (zi a)), some (.int (zi b)), some (.int (zi t)), some (.int (zi jn6v0)), some (.int (zi z24)), some (.int (zi kb))]) (S' := [.ref m]) rfl ?_
                            refine gs_gtr rfl (by decide) rfl sh147.1 tm rfl rfl rfl (fun c160 ec160 tc160 => ?_)
                            refine gz_s 1 (pc' := 197) (L' := [some (.ref m), some (.int (zi a)), some (.int (zi b)), some (.int (zi t)), some (.int (zi jn6v0)), some (.int (zi z24)), some (.int (zi kb))]) (S' := [.ref m, .ref c160]) rfl ?_
                            refine gs_gtk rfl (by decide) rfl sh147.1 tm rfl rfl s153 ?_
                            refine gz_s 1 (pc' := 201) (L' := [some (.ref m), some (.int (zi a)), some (.int (zi b)), some (.int (zi t)), some (.int (zi jn6v0)), some (.int (zi z24)), some (.int (zi kb))]) (S' := [.int (zi t), .int (zi n0), .ref c160]) rfl ?_
                            have hl161 : 10 ≤ h147.2.2.2.1 c160 ∧ h147.2.2.2.1 c160 ≤ 10 := gJ.rowl (G := gGG) sh147.1 tc160 rfl
                            refine gs_ast rfl (by decide) sh147 tc160 rfl rfl rfl (by decide) (fun _ => rfl) (by omega) (by omega) (fun _ => (by decide : (30999 : Nat) ∈ ([1000, 1053, 27999, 28999, 29999, 30999, 31999] : List Nat))) (by omega) (by omega) (fun h162 sh162 eh162 fh162 => ?_)
                            have pr163 := gRow.pt fh162 tc160 (by decide) pr148
                            have pr164 := gRow.pt fh162 tc160 (by decide) pr149
                            have pr165 := gCq.pt fh162 tc160 (by decide) pr150
                            have pr166 := gEl.pt fh162 tc160 (by decide) pr151
                            have pr167 := gEl.pt fh162 tc160 (by decide) pr152
                            have pr168 := gEl.pt fh162 tc160 (by decide) pr159
                            have s169 := (fh162 m 53 (fun q => absurd (((tm).symm.trans (congrArg ty q.1)).trans tc160) (by decide))).trans s153
                            have s170 := (fh162 m 0 (fun q => absurd (((tm).symm.trans (congrArg ty q.1)).trans tc160) (by decide))).trans s154
                            have s171 := (fh162 m 58 (fun q => absurd (((tm).symm.trans (congrArg ty q.1)).trans tc160) (by decide))).trans s155
                            have s172 := (fh162 m 54 (fun q => absurd (((tm).symm.trans (congrArg ty q.1)).trans tc160) (by decide))).trans s156
                            have s173 := (fh162 m 55 (fun q => absurd (((tm).symm.trans (congrArg ty q.1)).trans tc160) (by decide))).trans s157
                            have s174 := (fh162 m 56 (fun q => absurd (((tm).symm.trans (congrArg ty q.1)).trans tc160) (by decide))).trans s158
                            have s175 := (fh162 m 57 (fun q => absurd (((tm).symm.trans (congrArg ty q.1)).trans tc160) (by decide))).trans ec160
                            have pr176 := gEl.set (i := n0) (z := t) uq tc160 (by decide) eh162 (by omega) (by omega)
                            refine gz_s 2 (pc' := 204) (L' := [some (.ref m), some (.int (zi a)), some (.int (zi b)), some (.int (zi t)), some (.int (zi jn6v0)), some (.int (zi z24)), some (.int (zi kb))]) (S' := [.ref m, .ref m]) rfl ?_
                            refine gs_gtk rfl (by decide) rfl sh162.1 tm rfl rfl s169 ?_
                            refine gy_s 2 (pc' := 209) (L' := [some (.ref m), some (.int (zi a)), some (.int (zi b)), some (.int (zi t)), some (.int (zi jn6v0)), some (.int (zi z24)), some (.int (zi kb))]) (S' := [.int ((zi n0) + (zi 1)), .ref m]) (L2 := [some (.ref m), some (.int (zi a)), some (.int (zi b)), some (.int (zi t)), some (.int (zi jn6v0)), some (.int (zi z24)), some (.int (zi kb))]) (S2 := [.int (zi (n0 + 1)), .ref m]) rfl (by simp only [zi_add, zi_sub, zi_mul, zi_neg, zi_and1, zi_and7, zi_and15, zi_and31, zi_and255]) (by simp only [zi_add, zi_sub, zi_mul, zi_neg, zi_and1, zi_and7, zi_and15, zi_and31, zi_and255]) ?_
                            obtain ⟨c2, rc2, hcm⟩ := pr165
                            have hts177 : gTs ty (n0 + 1) h162 := gTs.tell (by omega) pr163 pr164 rc2 tle tsm hcm (by omega) (by omega)
                            refine gs_put rfl (by decide) rfl sh162 tm rfl rfl rfl rfl (Or.inl rfl) (by decide) (by omega) (by omega) (fun h178 sh178 eh178 fh178 => ?_)
                            have pr179 := gRow.pt fh178 tm (by decide) pr163
                            have pr180 := gRow.pt fh178 tm (by decide) pr164
                            have pr181 := gEl.pt fh178 tm (by decide) pr166
                            have pr182 := gEl.pt fh178 tm (by decide) pr167
                            have pr183 := gEl.pt fh178 tm (by decide) pr168
                            have pr184 := gEl.pt fh178 tm (by decide) pr176
                            have pr185 := gTs.pt fh178 tm (by decide) hts177
                            have pr186 := gRow.pt fh178 tm (by decide) rc2
                            have s187 := (fh178 m 0 (fun q => absurd q.2 (by decide))).trans s170
                            have s188 := (fh178 m 58 (fun q => absurd q.2 (by decide))).trans s171
                            have s189 := (fh178 m 54 (fun q => absurd q.2 (by decide))).trans s172
                            have s190 := (fh178 m 55 (fun q => absurd q.2 (by decide))).trans s173
                            have s191 := (fh178 m 56 (fun q => absurd q.2 (by decide))).trans s174
                            have s192 := (fh178 m 57 (fun q => absurd q.2 (by decide))).trans s175
                            refine gz_s 1 (pc' := 213) (L' := [some (.ref m), some (.int (zi a)), some (.int (zi b)), some (.int (zi t)), some (.int (zi jn6v0)), some (.int (zi z24)), some (.int (zi kb))]) (S' := [.ref m]) rfl ?_
                            refine gs_gtk rfl (by decide) rfl sh178.1 tm rfl rfl eh178 ?_
                            have hsk193 : gSk cf n0 a b t := ⟨by omega, ⟨by omega, by omega⟩, by omega, by omega, fun j h1 h2 => lp117k5 j h1 (by omega)⟩
                            have hsz194 : gSz f n0 a b t (n0 + 1) (n0 + 1) := gSz.ys ecf hsk193 (by omega) (by omega)
                            have hsx195 : gSx ty 31 f n0 a b t h178 := gSx.ys ecf pr186 (by omega) (by omega) hcm hsk193
                            exact gz_end (I := .ireturn) (len := 1) rfl (Or.inl rfl) ⟨sh178, n0 + 1, n0 + 1, rfl, (by omega), (by omega), eh178, (by omega), (by omega), pr185, hsz194, hsx195⟩
                          · refine gy_icF rfl (by decide) (by decide) (by omega) (by omega) hc120 ?_
                            obtain ⟨c2, rc2, hcm⟩ := lp117k6
                            refine gz_s 1 (pc' := 138) (L' := [some (.ref m), some (.int (zi a)), some (.int (zi b)), some (.int (zi t)), some (.int (zi jn6v0)), some (.int (zi z24)), some (.int (zi kb))]) (S' := [.ref m]) rfl ?_
                            refine gs_gtk rfl (by decide) rfl sh119.1 tm rfl rfl lp117k2 ?_
                            refine gz_s 2 (pc' := 144) (L' := [some (.ref m), some (.int (zi a)), some (.int (zi b)), some (.int (zi t)), some (.int (zi jn6v0)), some (.int (zi z24)), some (.int (zi kb))]) (S' := [.int (zi t), .int (zi kb), .ref c5]) rfl ?_
                            have hl196 : 64 ≤ h119.2.2.2.1 c5 ∧ h119.2.2.2.1 c5 ≤ 64 := gJ.rowl (G := gGG) sh119.1 tc5 rfl
                            refine gs_ast rfl (by decide) sh119 tc5 rfl rfl rfl (by decide) (fun _ => rfl) (by omega) (by omega) (fun _ => (by decide : (31999 : Nat) ∈ ([1000, 1053, 27999, 28999, 29999, 30999, 31999] : List Nat))) (by omega) (by omega) (fun h197 sh197 eh197 fh197 => ?_)
                            have pr198 := gRow.pt fh197 tc5 (by decide) lp117k3
                            have pr199 := gRow.pt fh197 tc5 (by decide) lp117k4
                            have pr200 := gRow.put (i := kb) (z := t) uq tc5 (by decide) fh197 eh197 (by omega) (by omega) rc2
                            have s201 := (fh197 m 53 (fun q => absurd (((tm).symm.trans (congrArg ty q.1)).trans tc5) (by decide))).trans lp117k0
                            have s202 := (fh197 m 0 (fun q => absurd (((tm).symm.trans (congrArg ty q.1)).trans tc5) (by decide))).trans lp117k1
                            have s203 := (fh197 m 58 (fun q => absurd (((tm).symm.trans (congrArg ty q.1)).trans tc5) (by decide))).trans lp117k2
                            have pr204 := gEl.set (i := kb) (z := t) uq tc5 (by decide) eh197 (by omega) (by omega)
                            have e6 : cf (kb).toNat = cf a.toNat := lp117k5 kb (by omega) (by omega)
                            have e7 : t + 1 ≤ gcr (cf (kb).toNat) := by rw [e6]; unfold gcr; split <;> omega
                            have hcq205 : gCq ty cf a (kb + 1) t h197 := ⟨_, pr200, hcm.step (by omega) (by omega) e7 (by omega)⟩
                            refine gy_s 2 (pc' := 131) (L' := [some (.ref m), some (.int (zi a)), some (.int (zi b)), some (.int (zi t)), some (.int (zi jn6v0)), some (.int (zi z24)), some (.int ((zi kb) + zi 1))]) (S' := []) (L2 := [some (.ref m), some (.int (zi a)), some (.int (zi b)), some (.int (zi t)), some (.int (zi jn6v0)), some (.int (zi z24)), some (.int (zi (kb + 1)))]) (S2 := []) rfl (by simp only [zi_add, zi_sub, zi_mul, zi_neg, zi_and1, zi_and7, zi_and15, zi_and31, zi_and255]) (by simp only [zi_add, zi_sub, zi_mul, zi_neg, zi_and1, zi_and7, zi_and15, zi_and31, zi_and255]) ?_
                            exact gz_wk (ihlp117 h197 (kb + 1) (by omega) sh197 (by omega) (by omega) (by omega) s201 s202 s203 pr198 pr199 lp117k5 hcq205) (gLw.s (gLw.s (gLw.s (gLw.s (gLw.s (gLw.s (gLw.s gLw.z)))))))
                      exact gz_wk (lp117 _ h21 a (Nat.lt_succ_self _) sh21 (by omega) (by omega) (by omega) lp20k0 lp20k1 lp20k2 lp20k5 lp20k6 lp20k7 hcq118) (gLw.s (gLw.s (gLw.s (gLw.s (gLw.s (gLw.s (gLw.s gLw.z)))))))
                    · refine gy_icF rfl (by decide) (by decide) (by omega) (by omega) hc116 ?_
                      refine gz_s 1 (pc' := 127) (L' := [some (.ref m), some (.int (zi a)), some (.int (zi b)), some (.int (zi t)), some (.int (zi jn6v0)), some (.int (zi z24)), none]) (S' := [.int (zi 0)]) rfl ?_
                      have hsk206 : ¬ gSk cf n0 a b t := fun w => by obtain ⟨w1, w2, w3, w4, w5⟩ := w; omega
                      have hsz207 : gSz f n0 a b t 0 n0 := gSz.no ecf hsk206 (by omega) (by omega)
                      have hsx208 : gSx ty 31 f n0 a b t h21 := gSx.no ecf lp20k4 hsk206
                      exact gz_end (I := .ireturn) (len := 1) rfl (Or.inl rfl) ⟨sh21, 0, n0, rfl, (by omega), (by omega), lp20k0, (by omega), (by omega), lp20k3, hsz207, hsx208⟩
                · refine gy_icF rfl (by decide) (by decide) (by omega) (by omega) hc22 ?_
                  refine gz_s 1 (pc' := 81) (L' := [some (.ref m), some (.int (zi a)), some (.int (zi b)), some (.int (zi t)), some (.int (zi jn6v0)), some (.int (zi k)), none]) (S' := [.ref m]) rfl ?_
                  refine gs_gtk rfl (by decide) rfl sh21.1 tm rfl rfl lp20k2 ?_
                  refine gz_s 1 (pc' := 86) (L' := [some (.ref m), some (.int (zi a)), some (.int (zi b)), some (.int (zi t)), some (.int (zi jn6v0)), some (.int (zi k)), none]) (S' := [.int (zi k), .ref c5]) rfl ?_
                  have hl209 : 64 ≤ h21.2.2.2.1 c5 ∧ h21.2.2.2.1 c5 ≤ 64 := gJ.rowl (G := gGG) sh21.1 tc5 rfl
                  refine gs_ald rfl (by decide) sh21.1 tc5 rfl rfl rfl (by decide) (fun _ => rfl) (by omega) (by omega) (fun z210 ez210 az210 bz210 => ?_)
                  have hf211 := gRow.at (i := k) (z := z210) lp20k4 tc5 ez210 (by omega) (by omega) (by omega)
                  refine gz_s 1 (pc' := 88) (L' := [some (.ref m), some (.int (zi a)), some (.int (zi b)), some (.int (zi t)), some (.int (zi jn6v0)), some (.int (zi k)), none]) (S' := [.ref m, .int (zi z210)]) rfl ?_
                  refine gs_gtk rfl (by decide) rfl sh21.1 tm rfl rfl lp20k2 ?_
                  refine gz_s 1 (pc' := 92) (L' := [some (.ref m), some (.int (zi a)), some (.int (zi b)), some (.int (zi t)), some (.int (zi jn6v0)), some (.int (zi k)), none]) (S' := [.int (zi a), .ref c5, .int (zi z210)]) rfl ?_
                  have hl212 : 64 ≤ h21.2.2.2.1 c5 ∧ h21.2.2.2.1 c5 ≤ 64 := gJ.rowl (G := gGG) sh21.1 tc5 rfl
                  refine gs_ald rfl (by decide) sh21.1 tc5 rfl rfl rfl (by decide) (fun _ => rfl) (by omega) (by omega) (fun z213 ez213 az213 bz213 => ?_)
                  have hf214 := gRow.at (i := a) (z := z213) lp20k4 tc5 ez213 (by omega) (by omega) (by omega)
                  by_cases hc215 : (z210 : Int) = z213
                  · refine gy_icT (pc' := 98) rfl (by decide) (by decide) (by omega) (by omega) hc215 ?_
                    have hce216 : ∀ j : Int, a ≤ j → j < k + 1 → cf j.toNat = cf a.toNat := fun j h1 h2 => by
                      by_cases e : j = k
                      · subst e; omega
                      · exact lp20k7 j h1 (by omega)
                    refine gy_s 2 (pc' := 74) (L' := [some (.ref m), some (.int (zi a)), some (.int (zi b)), some (.int (zi t)), some (.int (zi jn6v0)), some (.int ((zi k) + zi 1)), none]) (S' := []) (L2 := [some (.ref m), some (.int (zi a)), some (.int (zi b)), some (.int (zi t)), some (.int (zi jn6v0)), some (.int (zi (k + 1))), none]) (S2 := []) rfl (by simp only [zi_add, zi_sub, zi_mul, zi_neg, zi_and1, zi_and7, zi_and15, zi_and31, zi_and255]) (by simp only [zi_add, zi_sub, zi_mul, zi_neg, zi_and1, zi_and7, zi_and15, zi_and31, zi_and255]) ?_
                    exact gz_wk (ihlp20 h21 (k + 1) (by omega) sh21 (by omega) (by omega) lp20k0 lp20k1 lp20k2 lp20k3 lp20k4 lp20k5 lp20k6 hce216) (gLw.s (gLw.s (gLw.s (gLw.s (gLw.s (gLw.s (gLw.n gLw.z)))))))
                  · refine gy_icF rfl (by decide) (by decide) (by omega) (by omega) hc215 ?_
                    refine gz_s 1 (pc' := 97) (L' := [some (.ref m), some (.int (zi a)), some (.int (zi b)), some (.int (zi t)), some (.int (zi jn6v0)), some (.int (zi k)), none]) (S' := [.int (zi 0)]) rfl ?_
                    have hsk217 : ¬ gSk cf n0 a b t := fun w => by have w5 := w.2.2.2.2 k (by omega) (by omega); omega
                    have hsz218 : gSz f n0 a b t 0 n0 := gSz.no ecf hsk217 (by omega) (by omega)
                    have hsx219 : gSx ty 31 f n0 a b t h21 := gSx.no ecf lp20k4 hsk217
                    exact gz_end (I := .ireturn) (len := 1) rfl (Or.inl rfl) ⟨sh21, 0, n0, rfl, (by omega), (by omega), lp20k0, (by omega), (by omega), lp20k3, hsz218, hsx219⟩
            exact gz_wk (lp20 _ h1 a (Nat.lt_succ_self _) sh1 (by omega) (by omega) s4 eh1 ec5 pr2 rc rf rt (fun j h1 h2 => absurd h2 (by omega))) (gLw.s (gLw.s (gLw.s (gLw.s (gLw.s (gLw.s (gLw.n gLw.z)))))))
          · refine gy_icF rfl (by decide) (by decide) (by omega) (by omega) hc19 ?_
            refine gz_s 1 (pc' := 70) (L' := [some (.ref m), some (.int (zi a)), some (.int (zi b)), some (.int (zi t)), some (.int (zi jn6v0)), none, none]) (S' := [.int (zi 0)]) rfl ?_
            have hsk220 : ¬ gSk cf n0 a b t := fun w => by obtain ⟨w1, w2, w3, w4, w5⟩ := w; omega
            have hsz221 : gSz f n0 a b t 0 n0 := gSz.no ecf hsk220 (by omega) (by omega)
            have hsx222 : gSx ty 31 f n0 a b t h1 := gSx.no ecf rc hsk220
            exact gz_end (I := .ireturn) (len := 1) rfl (Or.inl rfl) ⟨sh1, 0, n0, rfl, (by omega), (by omega), s4, (by omega), (by omega), pr2, hsz221, hsx222⟩
  by_cases hc223 : ¬ (a : Int) = 0
  · refine gy_ifT (pc' := 13) rfl (by decide) (by decide) (by omega) hc223 ?_
    refine gz_s 2 (pc' := 15) (L' := [some (.ref m), some (.int (zi a)), some (.int (zi b)), some (.int (zi t)), none, none, none]) (S' := [.int (zi 1), .int (zi a)]) rfl ?_
    by_cases hc224 : (a : Int) < 1
    · refine gy_icT (pc' := 43) rfl (by decide) (by decide) (by omega) (by omega) hc224 ?_
      refine gz_s 1 (pc' := 44) (L' := [some (.ref m), some (.int (zi a)), some (.int (zi b)), some (.int (zi t)), none, none, none]) (S' := [.int (zi 0)]) rfl ?_
      exact jn6 0 (by omega)
    · refine gy_icF rfl (by decide) (by decide) (by omega) (by omega) hc224 ?_
      refine gz_s 2 (pc' := 20) (L' := [some (.ref m), some (.int (zi a)), some (.int (zi b)), some (.int (zi t)), none, none, none]) (S' := [.int (zi b), .int (zi a)]) rfl ?_
      by_cases hc225 : (b : Int) < a
      · refine gy_icT (pc' := 43) rfl (by decide) (by decide) (by omega) (by omega) hc225 ?_
        refine gz_s 1 (pc' := 44) (L' := [some (.ref m), some (.int (zi a)), some (.int (zi b)), some (.int (zi t)), none, none, none]) (S' := [.int (zi 0)]) rfl ?_
        exact jn6 0 (by omega)
      · refine gy_icF rfl (by decide) (by decide) (by omega) (by omega) hc225 ?_
        refine gz_s 2 (pc' := 26) (L' := [some (.ref m), some (.int (zi a)), some (.int (zi b)), some (.int (zi t)), none, none, none]) (S' := [.int (zi 63), .int (zi b)]) rfl ?_
        by_cases hc226 : (63 : Int) < b
        · refine gy_icT (pc' := 43) rfl (by decide) (by decide) (by omega) (by omega) hc226 ?_
          refine gz_s 1 (pc' := 44) (L' := [some (.ref m), some (.int (zi a)), some (.int (zi b)), some (.int (zi t)), none, none, none]) (S' := [.int (zi 0)]) rfl ?_
          exact jn6 0 (by omega)
        · refine gy_icF rfl (by decide) (by decide) (by omega) (by omega) hc226 ?_
          refine gz_s 1 (pc' := 30) (L' := [some (.ref m), some (.int (zi a)), some (.int (zi b)), some (.int (zi t)), none, none, none]) (S' := [.ref m]) rfl ?_
          refine gs_gtk rfl (by decide) rfl sh1.1 tm rfl rfl ec5 ?_
          refine gz_s 1 (pc' := 34) (L' := [some (.ref m), some (.int (zi a)), some (.int (zi b)), some (.int (zi t)), none, none, none]) (S' := [.int (zi 0), .ref c5]) rfl ?_
          have hl227 : 64 ≤ h1.2.2.2.1 c5 ∧ h1.2.2.2.1 c5 ≤ 64 := gJ.rowl (G := gGG) sh1.1 tc5 rfl
          refine gs_ald rfl (by decide) sh1.1 tc5 rfl rfl rfl (by decide) (fun _ => rfl) (by omega) (by omega) (fun z228 ez228 az228 bz228 => ?_)
          have hf229 := gRow.at (i := 0) (z := z228) rc tc5 ez228 (by omega) (by omega) (by omega)
          refine gz_s 1 (pc' := 36) (L' := [some (.ref m), some (.int (zi a)), some (.int (zi b)), some (.int (zi t)), none, none, none]) (S' := [.int (zi (-1)), .int (zi z228)]) rfl ?_
          by_cases hc230 : (z228 : Int) = (-1)
          · refine gy_icT (pc' := 43) rfl (by decide) (by decide) (by omega) (by omega) hc230 ?_
            refine gz_s 1 (pc' := 44) (L' := [some (.ref m), some (.int (zi a)), some (.int (zi b)), some (.int (zi t)), none, none, none]) (S' := [.int (zi 0)]) rfl ?_
            exact jn6 0 (by omega)
          · refine gy_icF rfl (by decide) (by decide) (by omega) (by omega) hc230 ?_
            refine gz_s 2 (pc' := 44) (L' := [some (.ref m), some (.int (zi a)), some (.int (zi b)), some (.int (zi t)), none, none, none]) (S' := [.int (zi 1)]) rfl ?_
            exact jn6 1 (by omega)
  · refine gy_ifF rfl (by decide) (by decide) (by omega) hc223 ?_
    refine gz_s 1 (pc' := 10) (L' := [some (.ref m), some (.int (zi a)), some (.int (zi b)), some (.int (zi t)), none, none, none]) (S' := [.int (zi b)]) rfl ?_
    by_cases hc231 : (b : Int) = 0
    · refine gy_ifT (pc' := 39) rfl (by decide) (by decide) (by omega) hc231 ?_
      refine gz_s 2 (pc' := 44) (L' := [some (.ref m), some (.int (zi a)), some (.int (zi b)), some (.int (zi t)), none, none, none]) (S' := [.int (zi 1)]) rfl ?_
      exact jn6 1 (by omega)
    · refine gy_ifF rfl (by decide) (by decide) (by omega) hc231 ?_
      refine gz_s 2 (pc' := 15) (L' := [some (.ref m), some (.int (zi a)), some (.int (zi b)), some (.int (zi t)), none, none, none]) (S' := [.int (zi 1), .int (zi a)]) rfl ?_
      refine gy_icT (pc' := 43) rfl (by decide) (by decide) (by omega) (by omega) (by first | (simp [zc]; done) | (simp only [zc]; omega)) ?_
      refine gz_s 1 (pc' := 44) (L' := [some (.ref m), some (.int (zi a)), some (.int (zi b)), some (.int (zi t)), none, none, none]) (S' := [.int (zi 0)]) rfl ?_
      exact jn6 0 (by omega)
set_option maxRecDepth 20000 in
set_option maxHeartbeats 4000000 in
theorem mm_point4 (d : Nat) {ty : Nat → Nat} {h : gH} (hJ : gJ rT 1027 ty h) (m : Nat) (tm : ty m = 1) (a : Int) (ra : (-2147483648) ≤ a ∧ a ≤ 2147483647) (b : Int) (rb : (-2147483648) ≤ b ∧ b ≤ 2147483647) (v : Int) (rv : (-2147483648) ≤ v ∧ v ≤ 2147483647) (cw : Int) (ecw : h.2.2.2.2 m 50 = .int (zi cw)) (rcw : 0 ≤ cw ∧ cw ≤ 32) (ch : Int) (ech : h.2.2.2.2 m 51 = .int (zi ch)) (rch : 0 ≤ ch ∧ ch ≤ 32) (pp0 : cw = 0 ↔ ch = 0) : gz gPP gGG gcn (d + 0) gt180 0 (gent [.ref m, .int (zi a), .int (zi b), .int (zi v)] 5) [] h (fun q _ => gSs rT 1027 ty [1000, 1050, 1051, 26999] h q.2.2 ∧ ∃ z cw1 ch1 : Int, gfin gt180 q.1 q.2.1 = some (some (.int (zi z))) ∧ 0 ≤ z ∧ z ≤ 255 ∧ q.2.2.2.2.2.2 m 50 = .int (zi cw1) ∧ 0 ≤ cw1 ∧ cw1 ≤ 32 ∧ q.2.2.2.2.2.2 m 51 = .int (zi ch1) ∧ 0 ≤ ch1 ∧ ch1 ≤ 32 ∧ (cw1 = 0 ↔ ch1 = 0) ∧ ((0 ≤ a ∧ a ≤ 31 ∧ 0 ≤ b ∧ b ≤ 31 ∧ 0 ≤ v ∧ v ≤ 255) → ((a < cw → cw1 = cw) ∧ (cw ≤ a → cw1 = a + 1))) ∧ (¬ (0 ≤ a ∧ a ≤ 31 ∧ 0 ≤ b ∧ b ≤ 31 ∧ 0 ≤ v ∧ v ≤ 255) → cw1 = cw)) := by
  have hS : gSs rT 1027 ty [1000, 1050, 1051, 26999] h h := gSs.rf hJ
  refine gz_s 2 (pc' := 2) (L' := [some (.ref m), some (.int (zi a)), some (.int (zi b)), some (.int (zi v)), none]) (S' := [.int (zi a), .ref m]) rfl ?_
  by_cases hc1 : (a : Int) < 0
  · refine gy_ifT (pc' := 21) rfl (by decide) (by decide) (by omega) hc1 ?_
    refine gz_s 2 (pc' := 41) (L' := [some (.ref m), some (.int (zi a)), some (.int (zi b)), some (.int (zi v)), none]) (S' := [.int (zi 1), .ref m]) rfl ?_
    refine gs_put rfl (by decide) rfl hS tm rfl rfl rfl rfl (Or.inl rfl) (by decide) (by omega) (by omega) (fun h2 sh2 eh2 fh2 => ?_)
    have s3 := (fh2 m 50 (fun q => absurd q.2 (by decide))).trans ecw
    have s4 := (fh2 m 51 (fun q => absurd q.2 (by decide))).trans ech
    refine gz_s 1 (pc' := 45) (L' := [some (.ref m), some (.int (zi a)), some (.int (zi b)), some (.int (zi v)), none]) (S' := [.ref m]) rfl ?_
    refine gs_gtk rfl (by decide) rfl sh2.1 tm rfl rfl eh2 ?_
    refine gy_ifF rfl (by decide) (by decide) (by omega) (by first | (simp [zc]; done) | (simp only [zc]; omega)) ?_
    refine gz_s 1 (pc' := 52) (L' := [some (.ref m), some (.int (zi a)), some (.int (zi b)), some (.int (zi v)), none]) (S' := [.int (zi 0)]) rfl ?_
    exact gz_end (I := .ireturn) (len := 1) rfl (Or.inl rfl) ⟨sh2, 0, cw, ch, rfl, (by omega), (by omega), s3, (by omega), (by omega), s4, (by omega), (by omega), (by omega), (by omega), (by omega)⟩
  · refine gy_ifF rfl (by decide) (by decide) (by omega) hc1 ?_
    refine gz_s 2 (pc' := 8) (L' := [some (.ref m), some (.int (zi a)), some (.int (zi b)), some (.int (zi v)), none]) (S' := [.int (zi 31), .int (zi a), .ref m]) rfl ?_
    by_cases hc5 : (31 : Int) < a
    · refine gy_icT (pc' := 21) rfl (by decide) (by decide) (by omega) (by omega) hc5 ?_
      refine gz_s 2 (pc' := 41) (L' := [some (.ref m), some (.int (zi a)), some (.int (zi b)), some (.int (zi v)), none]) (S' := [.int (zi 1), .ref m]) rfl ?_
      refine gs_put rfl (by decide) rfl hS tm rfl rfl rfl rfl (Or.inl rfl) (by decide) (by omega) (by omega) (fun h6 sh6 eh6 fh6 => ?_)
      have s7 := (fh6 m 50 (fun q => absurd q.2 (by decide))).trans ecw
      have s8 := (fh6 m 51 (fun q => absurd q.2 (by decide))).trans ech
      refine gz_s 1 (pc' := 45) (L' := [some (.ref m), some (.int (zi a)), some (.int (zi b)), some (.int (zi v)), none]) (S' := [.ref m]) rfl ?_
      refine gs_gtk rfl (by decide) rfl sh6.1 tm rfl rfl eh6 ?_
      refine gy_ifF rfl (by decide) (by decide) (by omega) (by first | (simp [zc]; done) | (simp only [zc]; omega)) ?_
      refine gz_s 1 (pc' := 52) (L' := [some (.ref m), some (.int (zi a)), some (.int (zi b)), some (.int (zi v)), none]) (S' := [.int (zi 0)]) rfl ?_
      exact gz_end (I := .ireturn) (len := 1) rfl (Or.inl rfl) ⟨sh6, 0, cw, ch, rfl, (by omega), (by omega), s7, (by omega), (by omega), s8, (by omega), (by omega), (by omega), (by omega), (by omega)⟩
    · refine gy_icF rfl (by decide) (by decide) (by omega) (by omega) hc5 ?_
      refine gz_s 1 (pc' := 12) (L' := [some (.ref m), some (.int (zi a)), some (.int (zi b)), some (.int (zi v)), none]) (S' := [.int (zi b), .ref m]) rfl ?_
      by_cases hc9 : (b : Int) < 0
      · refine gy_ifT (pc' := 21) rfl (by decide) (by decide) (by omega) hc9 ?_
        refine gz_s 2 (pc' := 41) (L' := [some (.ref m), some (.int (zi a)), some (.int (zi b)), some (.int (zi v)), none]) (S' := [.int (zi 1), .ref m]) rfl ?_
        refine gs_put rfl (by decide) rfl hS tm rfl rfl rfl rfl (Or.inl rfl) (by decide) (by omega) (by omega) (fun h10 sh10 eh10 fh10 => ?_)
        have s11 := (fh10 m 50 (fun q => absurd q.2 (by decide))).trans ecw
        have s12 := (fh10 m 51 (fun q => absurd q.2 (by decide))).trans ech
        refine gz_s 1 (pc' := 45) (L' := [some (.ref m), some (.int (zi a)), some (.int (zi b)), some (.int (zi v)), none]) (S' := [.ref m]) rfl ?_
        refine gs_gtk rfl (by decide) rfl sh10.1 tm rfl rfl eh10 ?_
        refine gy_ifF rfl (by decide) (by decide) (by omega) (by first | (simp [zc]; done) | (simp only [zc]; omega)) ?_
        refine gz_s 1 (pc' := 52) (L' := [some (.ref m), some (.int (zi a)), some (.int (zi b)), some (.int (zi v)), none]) (S' := [.int (zi 0)]) rfl ?_
        exact gz_end (I := .ireturn) (len := 1) rfl (Or.inl rfl) ⟨sh10, 0, cw, ch, rfl, (by omega), (by omega), s11, (by omega), (by omega), s12, (by omega), (by omega), (by omega), (by omega), (by omega)⟩
      · refine gy_ifF rfl (by decide) (by decide) (by omega) hc9 ?_
        refine gz_s 2 (pc' := 18) (L' := [some (.ref m), some (.int (zi a)), some (.int (zi b)), some (.int (zi v)), none]) (S' := [.int (zi 31), .int (zi b), .ref m]) rfl ?_
        by_cases hc13 : (b : Int) ≤ 31
        · refine gy_icT (pc' := 25) rfl (by decide) (by decide) (by omega) (by omega) hc13 ?_
          refine gz_s 1 (pc' := 26) (L' := [some (.ref m), some (.int (zi a)), some (.int (zi b)), some (.int (zi v)), none]) (S' := [.int (zi v), .ref m]) rfl ?_
          by_cases hc14 : (v : Int) < 0
          · refine gy_ifT (pc' := 36) rfl (by decide) (by decide) (by omega) hc14 ?_
            refine gz_s 2 (pc' := 41) (L' := [some (.ref m), some (.int (zi a)), some (.int (zi b)), some (.int (zi v)), none]) (S' := [.int (zi 2), .ref m]) rfl ?_
            refine gs_put rfl (by decide) rfl hS tm rfl rfl rfl rfl (Or.inl rfl) (by decide) (by omega) (by omega) (fun h15 sh15 eh15 fh15 => ?_)
            have s16 := (fh15 m 50 (fun q => absurd q.2 (by decide))).trans ecw
            have s17 := (fh15 m 51 (fun q => absurd q.2 (by decide))).trans ech
            refine gz_s 1 (pc' := 45) (L' := [some (.ref m), some (.int (zi a)), some (.int (zi b)), some (.int (zi v)), none]) (S' := [.ref m]) rfl ?_
            refine gs_gtk rfl (by decide) rfl sh15.1 tm rfl rfl eh15 ?_
            refine gy_ifF rfl (by decide) (by decide) (by omega) (by first | (simp [zc]; done) | (simp only [zc]; omega)) ?_
            refine gz_s 1 (pc' := 52) (L' := [some (.ref m), some (.int (zi a)), some (.int (zi b)), some (.int (zi v)), none]) (S' := [.int (zi 0)]) rfl ?_
            exact gz_end (I := .ireturn) (len := 1) rfl (Or.inl rfl) ⟨sh15, 0, cw, ch, rfl, (by omega), (by omega), s16, (by omega), (by omega), s17, (by omega), (by omega), (by omega), (by omega), (by omega)⟩
          · refine gy_ifF rfl (by decide) (by decide) (by omega) hc14 ?_
            refine gz_s 2 (pc' := 33) (L' := [some (.ref m), some (.int (zi a)), some (.int (zi b)), some (.int (zi v)), none]) (S' := [.int (zi 255), .int (zi v), .ref m]) rfl ?_
            by_cases hc18 : (v : Int) ≤ 255
            · refine gy_icT (pc' := 40) rfl (by decide) (by decide) (by omega) (by omega) hc18 ?_
              refine gz_s 1 (pc' := 41) (L' := [some (.ref m), some (.int (zi a)), some (.int (zi b)), some (.int (zi v)), none]) (S' := [.int (zi 0), .ref m]) rfl ?_
              refine gs_put rfl (by decide) rfl hS tm rfl rfl rfl rfl (Or.inl rfl) (by decide) (by omega) (by omega) (fun h19 sh19 eh19 fh19 => ?_)
              have s20 := (fh19 m 50 (fun q => absurd q.2 (by decide))).trans ecw
              have s21 := (fh19 m 51 (fun q => absurd q.2 (by decide))).trans ech
              refine gz_s 1 (pc' := 45) (L' := [some (.ref m), some (.int (zi a)), some (.int (zi b)), some (.int (zi v)), none]) (S' := [.ref m]) rfl ?_
              refine gs_gtk rfl (by decide) rfl sh19.1 tm rfl rfl eh19 ?_
              refine gy_ifT (pc' := 53) rfl (by decide) (by decide) (by omega) (by first | (simp [zc]; done) | (simp only [zc]; omega)) ?_
              refine gz_s 1 (pc' := 54) (L' := [some (.ref m), some (.int (zi a)), some (.int (zi b)), some (.int (zi v)), none]) (S' := [.ref m]) rfl ?_
              refine gs_gtr rfl (by decide) rfl sh19.1 tm rfl rfl rfl (fun c22 ec22 tc22 => ?_)
              refine gy_s 5 (pc' := 63) (L' := [some (.ref m), some (.int (zi a)), some (.int (zi b)), some (.int (zi v)), none]) (S' := [.int (((zi 32) * (zi b)) + (zi a)), .ref c22]) (L2 := [some (.ref m), some (.int (zi a)), some (.int (zi b)), some (.int (zi v)), none]) (S2 := [.int (zi ((32 * b) + a)), .ref c22]) rfl (by simp only [zi_add, zi_sub, zi_mul, zi_neg, zi_and1, zi_and7, zi_and15, zi_and31, zi_and255]) (by simp only [zi_add, zi_sub, zi_mul, zi_neg, zi_and1, zi_and7, zi_and15, zi_and31, zi_and255]) ?_
              have hl23 : 1024 ≤ h19.2.2.2.1 c22 ∧ h19.2.2.2.1 c22 ≤ 1024 := gJ.rowl (G := gGG) sh19.1 tc22 rfl
              refine gs_ald rfl (by decide) sh19.1 tc22 rfl rfl rfl (by decide) (fun _ => rfl) (by omega) (by omega) (fun z24 ez24 az24 bz24 => ?_)
              refine gz_s 2 (pc' := 67) (L' := [some (.ref m), some (.int (zi a)), some (.int (zi b)), some (.int (zi v)), some (.int (zi z24))]) (S' := [.ref m]) rfl ?_
              refine gs_gtk rfl (by decide) rfl sh19.1 tm rfl rfl ec22 ?_
              refine gy_s 6 (pc' := 77) (L' := [some (.ref m), some (.int (zi a)), some (.int (zi b)), some (.int (zi v)), some (.int (zi z24))]) (S' := [.int (zi v), .int (((zi 32) * (zi b)) + (zi a)), .ref c22]) (L2 := [some (.ref m), some (.int (zi a)), some (.int (zi b)), some (.int (zi v)), some (.int (zi z24))]) (S2 := [.int (zi v), .int (zi ((32 * b) + a)), .ref c22]) rfl (by simp only [zi_add, zi_sub, zi_mul, zi_neg, zi_and1, zi_and7, zi_and15, zi_and31, zi_and255]) (by simp only [zi_add, zi_sub, zi_mul, zi_neg, zi_and1, zi_and7, zi_and15, zi_and31, zi_and255]) ?_
              have hl25 : 1024 ≤ h19.2.2.2.1 c22 ∧ h19.2.2.2.1 c22 ≤ 1024 := gJ.rowl (G := gGG) sh19.1 tc22 rfl
              refine gs_ast rfl (by decide) sh19 tc22 rfl rfl rfl (by decide) (fun _ => rfl) (by omega) (by omega) (fun _ => (by decide : (26999 : Nat) ∈ ([1000, 1050, 1051, 26999] : List Nat))) (by omega) (by omega) (fun h26 sh26 eh26 fh26 => ?_)
              have s27 := (fh26 m 50 (fun q => absurd (((tm).symm.trans (congrArg ty q.1)).trans tc22) (by decide))).trans s20
              have s28 := (fh26 m 51 (fun q => absurd (((tm).symm.trans (congrArg ty q.1)).trans tc22) (by decide))).trans s21
              have s29 := (fh26 m 0 (fun q => absurd (((tm).symm.trans (congrArg ty q.1)).trans tc22) (by decide))).trans eh19
              have s30 := (fh26 m 49 (fun q => absurd (((tm).symm.trans (congrArg ty q.1)).trans tc22) (by decide))).trans ec22
              refine gz_s 3 (pc' := 81) (L' := [some (.ref m), some (.int (zi a)), some (.int (zi b)), some (.int (zi v)), some (.int (zi z24))]) (S' := [.ref m, .int (zi a), .ref m]) rfl ?_
              refine gs_gtk rfl (by decide) rfl sh26.1 tm rfl rfl s27 ?_
              by_cases hc31 : (a : Int) < cw
              · refine gy_icT (pc' := 93) rfl (by decide) (by decide) (by omega) (by omega) hc31 ?_
                refine gz_s 1 (pc' := 94) (L' := [some (.ref m), some (.int (zi a)), some (.int (zi b)), some (.int (zi v)), some (.int (zi z24))]) (S' := [.ref m, .ref m]) rfl ?_
                refine gs_gtk rfl (by decide) rfl sh26.1 tm rfl rfl s27 ?_
                refine gs_put rfl (by decide) rfl sh26 tm rfl rfl rfl rfl (Or.inl rfl) (by decide) (by omega) (by omega) (fun h32 sh32 eh32 fh32 => ?_)
                have s33 := (fh32 m 51 (fun q => absurd q.2 (by decide))).trans s28
                have s34 := (fh32 m 0 (fun q => absurd q.2 (by decide))).trans s29
                have s35 := (fh32 m 49 (fun q => absurd q.2 (by decide))).trans s30
                refine gz_s 3 (pc' := 103) (L' := [some (.ref m), some (.int (zi a)), some (.int (zi b)), some (.int (zi v)), some (.int (zi z24))]) (S' := [.ref m, .int (zi b), .ref m]) rfl ?_
                refine gs_gtk rfl (by decide) rfl sh32.1 tm rfl rfl s33 ?_
                by_cases hc36 : (b : Int) < ch
                · refine gy_icT (pc' := 115) rfl (by decide) (by decide) (by omega) (by omega) hc36 ?_
                  refine gz_s 1 (pc' := 116) (L' := [some (.ref m), some (.int (zi a)), some (.int (zi b)), some (.int (zi v)), some (.int (zi z24))]) (S' := [.ref m, .ref m]) rfl ?_
                  refine gs_gtk rfl (by decide) rfl sh32.1 tm rfl rfl s33 ?_
                  refine gs_put rfl (by decide) rfl sh32 tm rfl rfl rfl rfl (Or.inl rfl) (by decide) (by omega) (by omega) (fun h37 sh37 eh37 fh37 => ?_)
                  have s38 := (fh37 m 0 (fun q => absurd q.2 (by decide))).trans s34
                  have s39 := (fh37 m 49 (fun q => absurd q.2 (by decide))).trans s35
                  have s40 := (fh37 m 50 (fun q => absurd q.2 (by decide))).trans eh32
                  refine gz_s 1 (pc' := 124) (L' := [some (.ref m), some (.int (zi a)), some (.int (zi b)), some (.int (zi v)), some (.int (zi z24))]) (S' := [.int (zi z24)]) rfl ?_
                  exact gz_end (I := .ireturn) (len := 1) rfl (Or.inl rfl) ⟨sh37, z24, cw, ch, rfl, (by omega), (by omega), s40, (by omega), (by omega), eh37, (by omega), (by omega), (by omega), (by omega), (by omega)⟩
                · refine gy_icF rfl (by decide) (by decide) (by omega) (by omega) hc36 ?_
                  refine gy_s 4 (pc' := 119) (L' := [some (.ref m), some (.int (zi a)), some (.int (zi b)), some (.int (zi v)), some (.int (zi z24))]) (S' := [.int ((zi b) + (zi 1)), .ref m]) (L2 := [some (.ref m), some (.int (zi a)), some (.int (zi b)), some (.int (zi v)), some (.int (zi z24))]) (S2 := [.int (zi (b + 1)), .ref m]) rfl (by simp only [zi_add, zi_sub, zi_mul, zi_neg, zi_and1, zi_and7, zi_and15, zi_and31, zi_and255]) (by simp only [zi_add, zi_sub, zi_mul, zi_neg, zi_and1, zi_and7, zi_and15, zi_and31, zi_and255]) ?_
                  refine gs_put rfl (by decide) rfl sh32 tm rfl rfl rfl rfl (Or.inl rfl) (by decide) (by omega) (by omega) (fun h41 sh41 eh41 fh41 => ?_)
                  have s42 := (fh41 m 0 (fun q => absurd q.2 (by decide))).trans s34
                  have s43 := (fh41 m 49 (fun q => absurd q.2 (by decide))).trans s35
                  have s44 := (fh41 m 50 (fun q => absurd q.2 (by decide))).trans eh32
                  refine gz_s 1 (pc' := 124) (L' := [some (.ref m), some (.int (zi a)), some (.int (zi b)), some (.int (zi v)), some (.int (zi z24))]) (S' := [.int (zi z24)]) rfl ?_
                  exact gz_end (I := .ireturn) (len := 1) rfl (Or.inl rfl) ⟨sh41, z24, cw, b + 1, rfl, (by omega), (by omega), s44, (by omega), (by omega), eh41, (by omega), (by omega), (by omega), (by omega), (by omega)⟩
              · refine gy_icF rfl (by decide) (by decide) (by omega) (by omega) hc31 ?_
                refine gy_s 4 (pc' := 97) (L' := [some (.ref m), some (.int (zi a)), some (.int (zi b)), some (.int (zi v)), some (.int (zi z24))]) (S' := [.int ((zi a) + (zi 1)), .ref m]) (L2 := [some (.ref m), some (.int (zi a)), some (.int (zi b)), some (.int (zi v)), some (.int (zi z24))]) (S2 := [.int (zi (a + 1)), .ref m]) rfl (by simp only [zi_add, zi_sub, zi_mul, zi_neg, zi_and1, zi_and7, zi_and15, zi_and31, zi_and255]) (by simp only [zi_add, zi_sub, zi_mul, zi_neg, zi_and1, zi_and7, zi_and15, zi_and31, zi_and255]) ?_
                refine gs_put rfl (by decide) rfl sh26 tm rfl rfl rfl rfl (Or.inl rfl) (by decide) (by omega) (by omega) (fun h45 sh45 eh45 fh45 => ?_)
                have s46 := (fh45 m 51 (fun q => absurd q.2 (by decide))).trans s28
                have s47 := (fh45 m 0 (fun q => absurd q.2 (by decide))).trans s29
                have s48 := (fh45 m 49 (fun q => absurd q.2 (by decide))).trans s30
                refine gz_s 3 (pc' := 103) (L' := [some (.ref m), some (.int (zi a)), some (.int (zi b)), some (.int (zi v)), some (.int (zi z24))]) (S' := [.ref m, .int (zi b), .ref m]) rfl ?_
                refine gs_gtk rfl (by decide) rfl sh45.1 tm rfl rfl s46 ?_
                by_cases hc49 : (b : Int) < ch
                · refine gy_icT (pc' := 115) rfl (by decide) (by decide) (by omega) (by omega) hc49 ?_
                  refine gz_s 1 (pc' := 116) (L' := [some (.ref m), some (.int (zi a)), some (.int (zi b)), some (.int (zi v)), some (.int (zi z24))]) (S' := [.ref m, .ref m]) rfl ?_
                  refine gs_gtk rfl (by decide) rfl sh45.1 tm rfl rfl s46 ?_
                  refine gs_put rfl (by decide) rfl sh45 tm rfl rfl rfl rfl (Or.inl rfl) (by decide) (by omega) (by omega) (fun h50 sh50 eh50 fh50 => ?_)
                  have s51 := (fh50 m 0 (fun q => absurd q.2 (by decide))).trans s47
                  have s52 := (fh50 m 49 (fun q => absurd q.2 (by decide))).trans s48
                  have s53 := (fh50 m 50 (fun q => absurd q.2 (by decide))).trans eh45
                  refine gz_s 1 (pc' := 124) (L' := [some (.ref m), some (.int (zi a)), some (.int (zi b)), some (.int (zi v)), some (.int (zi z24))]) (S' := [.int (zi z24)]) rfl ?_
                  exact gz_end (I := .ireturn) (len := 1) rfl (Or.inl rfl) ⟨sh50, z24, a + 1, ch, rfl, (by omega), (by omega), s53, (by omega), (by omega), eh50, (by omega), (by omega), (by omega), (by omega), (by omega)⟩
                · refine gy_icF rfl (by decide) (by decide) (by omega) (by omega) hc49 ?_
                  refine gy_s 4 (pc' := 119) (L' := [some (.ref m), some (.int (zi a)), some (.int (zi b)), some (.int (zi v)), some (.int (zi z24))]) (S' := [.int ((zi b) + (zi 1)), .ref m]) (L2 := [some (.ref m), some (.int (zi a)), some (.int (zi b)), some (.int (zi v)), some (.int (zi z24))]) (S2 := [.int (zi (b + 1)), .ref m]) rfl (by simp only [zi_add, zi_sub, zi_mul, zi_neg, zi_and1, zi_and7, zi_and15, zi_and31, zi_and255]) (by simp only [zi_add, zi_sub, zi_mul, zi_neg, zi_and1, zi_and7, zi_and15, zi_and31, zi_and255]) ?_
                  refine gs_put rfl (by decide) rfl sh45 tm rfl rfl rfl rfl (Or.inl rfl) (by decide) (by omega) (by omega) (fun h54 sh54 eh54 fh54 => ?_)
                  have s55 := (fh54 m 0 (fun q => absurd q.2 (by decide))).trans s47
                  have s56 := (fh54 m 49 (fun q => absurd q.2 (by decide))).trans s48
                  have s57 := (fh54 m 50 (fun q => absurd q.2 (by decide))).trans eh45
                  refine gz_s 1 (pc' := 124) (L' := [some (.ref m), some (.int (zi a)), some (.int (zi b)), some (.int (zi v)), some (.int (zi z24))]) (S' := [.int (zi z24)]) rfl ?_
                  exact gz_end (I := .ireturn) (len := 1) rfl (Or.inl rfl) ⟨sh54, z24, a + 1, b + 1, rfl, (by omega), (by omega), s57, (by omega), (by omega), eh54, (by omega), (by omega), (by omega), (by omega), (by omega)⟩
            · refine gy_icF rfl (by decide) (by decide) (by omega) (by omega) hc18 ?_
              refine gz_s 2 (pc' := 41) (L' := [some (.ref m), some (.int (zi a)), some (.int (zi b)), some (.int (zi v)), none]) (S' := [.int (zi 2), .ref m]) rfl ?_
              refine gs_put rfl (by decide) rfl hS tm rfl rfl rfl rfl (Or.inl rfl) (by decide) (by omega) (by omega) (fun h58 sh58 eh58 fh58 => ?_)
              have s59 := (fh58 m 50 (fun q => absurd q.2 (by decide))).trans ecw
              have s60 := (fh58 m 51 (fun q => absurd q.2 (by decide))).trans ech
              refine gz_s 1 (pc' := 45) (L' := [some (.ref m), some (.int (zi a)), some (.int (zi b)), some (.int (zi v)), none]) (S' := [.ref m]) rfl ?_
              refine gs_gtk rfl (by decide) rfl sh58.1 tm rfl rfl eh58 ?_
              refine gy_ifF rfl (by decide) (by decide) (by omega) (by first | (simp [zc]; done) | (simp only [zc]; omega)) ?_
              refine gz_s 1 (pc' := 52) (L' := [some (.ref m), some (.int (zi a)), some (.int (zi b)), some (.int (zi v)), none]) (S' := [.int (zi 0)]) rfl ?_
              exact gz_end (I := .ireturn) (len := 1) rfl (Or.inl rfl) ⟨sh58, 0, cw, ch, rfl, (by omega), (by omega), s59, (by omega), (by omega), s60, (by omega), (by omega), (by omega), (by omega), (by omega)⟩
        · refine gy_icF rfl (by decide) (by decide) (by omega) (by omega) hc13 ?_
          refine gz_s 2 (pc' := 41) (L' := [some (.ref m), some (.int (zi a)), some (.int (zi b)), some (.int (zi v)), none]) (S' := [.int (zi 1), .ref m]) rfl ?_
          refine gs_put rfl (by decide) rfl hS tm rfl rfl rfl rfl (Or.inl rfl) (by decide) (by omega) (by omega) (fun h61 sh61 eh61 fh61 => ?_)
          have s62 := (fh61 m 50 (fun q => absurd q.2 (by decide))).trans ecw
          have s63 := (fh61 m 51 (fun q => absurd q.2 (by decide))).trans ech
          refine gz_s 1 (pc' := 45) (L' := [some (.ref m), some (.int (zi a)), some (.int (zi b)), some (.int (zi v)), none]) (S' := [.ref m]) rfl ?_
          refine gs_gtk rfl (by decide) rfl sh61.1 tm rfl rfl eh61 ?_
          refine gy_ifF rfl (by decide) (by decide) (by omega) (by first | (simp [zc]; done) | (simp only [zc]; omega)) ?_
          refine gz_s 1 (pc' := 52) (L' := [some (.ref m), some (.int (zi a)), some (.int (zi b)), some (.int (zi v)), none]) (S' := [.int (zi 0)]) rfl ?_
          exact gz_end (I := .ireturn) (len := 1) rfl (Or.inl rfl) ⟨sh61, 0, cw, ch, rfl, (by omega), (by omega), s62, (by omega), (by omega), s63, (by omega), (by omega), (by omega), (by omega), (by omega)⟩
set_option maxRecDepth 20000 in
set_option maxHeartbeats 4000000 in
theorem mm_encode2 (d : Nat) {ty : Nat → Nat} {h : gH} (hJ : gJ rT 1027 ty h) (m : Nat) (tm : ty m = 1) (qu : Int) (rqu : (-2147483648) ≤ qu ∧ qu ≤ 2147483647) (n0 : Int) (en0 : h.2.2.2.2 m 53 = .int (zi n0)) (rn0 : 0 ≤ n0 ∧ n0 ≤ 10) (cw : Int) (ecw : h.2.2.2.2 m 50 = .int (zi cw)) (rcw : 0 ≤ cw ∧ cw ≤ 32) (ch : Int) (ech : h.2.2.2.2 m 51 = .int (zi ch)) (rch : 0 ≤ ch ∧ ch ≤ 32) (f : Nat → Int) (pp0 : cw = 0 ↔ ch = 0) (uq : gUq ty) (hyts : gTs ty n0 h) (hyf31 : gRow ty 31 f h) : gz gPP gGG gcn (d + 6) gt183 0 (gent [.ref m, .int (zi qu)] 5) [] h (fun q _ => gSs rT 1027 ty [1000, 1053, 1059, 1061, 1062, 1064, 1067, 1074, 1075, 31999, 32999, 33999, 34999, 36999, 37999, 38999, 39999, 40999, 41999, 42999] h q.2.2 ∧ ∃ z n1 : Int, gfin gt183 q.1 q.2.1 = some (some (.int (zi z))) ∧ 0 ≤ z ∧ z ≤ 60000 ∧ q.2.2.2.2.2.2 m 53 = .int (zi n1) ∧ 0 ≤ n1 ∧ n1 ≤ 10 ∧ ((1 ≤ qu ∧ qu ≤ 100 ∧ 1 ≤ cw) → n1 = 0) ∧ (¬ (1 ≤ qu ∧ qu ≤ 100 ∧ 1 ≤ cw) → n1 = n0) ∧ (gTs ty n1 q.2.2) ∧ (gEy ty 31 f qu cw q.2.2)) := by
  have hS : gSs rT 1027 ty [1000, 1053, 1059, 1061, 1062, 1064, 1067, 1074, 1075, 31999, 32999, 33999, 34999, 36999, 37999, 38999, 39999, 40999, 41999, 42999] h h := gSs.rf hJ
  refine gz_s 3 (pc' := 3) (L' := [some (.ref m), some (.int (zi qu)), none, none, none]) (S' := [.int (zi 1), .int (zi qu), .ref m]) rfl ?_
  have jn1 : ∀ (jn1v0 : Int), ((0 ≤ jn1v0) ∧ (jn1v0 ≤ 2) ∧ (jn1v0 = 0 ↔ (1 ≤ qu ∧ qu ≤ 100 ∧ ¬ cw = 0))) → gz gPP gGG gcn (d + 6) gt183 28 [some (.ref m), some (.int (zi qu)), none, none, none] [.int (zi jn1v0), .ref m] h (fun q _ => gSs rT 1027 ty [1000, 1053, 1059, 1061, 1062, 1064, 1067, 1074, 1075, 31999, 32999, 33999, 34999, 36999, 37999, 38999, 39999, 40999, 41999, 42999] h q.2.2 ∧ ∃ z n1 : Int, gfin gt183 q.1 q.2.1 = some (some (.int (zi z))) ∧ 0 ≤ z ∧ z ≤ 60000 ∧ q.2.2.2.2.2.2 m 53 = .int (zi n1) ∧ 0 ≤ n1 ∧ n1 ≤ 10 ∧ ((1 ≤ qu ∧ qu ≤ 100 ∧ 1 ≤ cw) → n1 = 0) ∧ (¬ (1 ≤ qu ∧ qu ≤ 100 ∧ 1 ≤ cw) → n1 = n0) ∧ (gTs ty n1 q.2.2) ∧ (gEy ty 31 f qu cw q.2.2)) := by
    intro jn1v0 jn1d
    refine gs_put rfl (by decide) rfl hS tm rfl rfl rfl rfl (Or.inl rfl) (by decide) (by omega) (by omega) (fun h2 sh2 eh2 fh2 => ?_)
    have pr3 := gTs.pt fh2 tm (by decide) hyts
    have pr4 := gRow.pt fh2 tm (by decide) hyf31
    have s5 := (fh2 m 53 (fun q => absurd q.2 (by decide))).trans en0
    have s6 := (fh2 m 50 (fun q => absurd q.2 (by decide))).trans ecw
    have s7 := (fh2 m 51 (fun q => absurd q.2 (by decide))).trans ech
    refine gz_s 1 (pc' := 32) (L' := [some (.ref m), some (.int (zi qu)), none, none, none]) (S' := [.ref m]) rfl ?_
    refine gs_gtk rfl (by decide) rfl sh2.1 tm rfl rfl eh2 ?_
    by_cases hc8 : (jn1v0 : Int) ≤ 0
    · refine gy_ifT (pc' := 40) rfl (by decide) (by decide) (by omega) hc8 ?_
      refine gz_s 2 (pc' := 43) (L' := [some (.ref m), some (.int (zi qu)), none, none, none]) (S' := [.int (zi 50), .int (zi qu)]) rfl ?_
      have jn9 : ∀ (jn9v0 : Int), ((0 ≤ jn9v0) ∧ (jn9v0 ≤ 5000)) → gz gPP gGG gcn (d + 6) gt183 61 [some (.ref m), some (.int (zi qu)), none, none, none] [.int (zi jn9v0)] h2 (fun q _ => gSs rT 1027 ty [1000, 1053, 1059, 1061, 1062, 1064, 1067, 1074, 1075, 31999, 32999, 33999, 34999, 36999, 37999, 38999, 39999, 40999, 41999, 42999] h q.2.2 ∧ ∃ z n1 : Int, gfin gt183 q.1 q.2.1 = some (some (.int (zi z))) ∧ 0 ≤ z ∧ z ≤ 60000 ∧ q.2.2.2.2.2.2 m 53 = .int (zi n1) ∧ 0 ≤ n1 ∧ n1 ≤ 10 ∧ ((1 ≤ qu ∧ qu ≤ 100 ∧ 1 ≤ cw) → n1 = 0) ∧ (¬ (1 ≤ qu ∧ qu ≤ 100 ∧ 1 ≤ cw) → n1 = n0) ∧ (gTs ty n1 q.2.2) ∧ (gEy ty 31 f qu cw q.2.2)) := by
        intro jn9v0 jn9d
        refine gz_s 3 (pc' := 64) (L' := [some (.ref m), some (.int (zi qu)), some (.int (zi jn9v0)), some (.int (zi 0)), none]) (S' := []) rfl ?_
        have lp10 : ∀ (fu : Nat) (h11 : gH) (k : Int), (65 - k).toNat < fu → gSs rT 1027 ty [1000, 1053, 1059, 1061, 1062, 1064, 1067, 1074, 1075, 31999, 32999, 33999, 34999, 36999, 37999, 38999, 39999, 40999, 41999, 42999] h h11 → (0 ≤ k ∧ k ≤ 64) → h11.2.2.2.2 m 53 = .int (zi n0) → h11.2.2.2.2 m 50 = .int (zi cw) → h11.2.2.2.2 m 51 = .int (zi ch) → h11.2.2.2.2 m 0 = .int (zi jn1v0) → gTs ty n0 h11 → gRow ty 31 f h11 → gOt ty k h11 → gz gPP gGG gcn (d + 6) gt183 64 [some (.ref m), some (.int (zi qu)), some (.int (zi jn9v0)), some (.int (zi k)), none] [] h11 (fun q _ => gSs rT 1027 ty [1000, 1053, 1059, 1061, 1062, 1064, 1067, 1074, 1075, 31999, 32999, 33999, 34999, 36999, 37999, 38999, 39999, 40999, 41999, 42999] h q.2.2 ∧ ∃ z n1 : Int, gfin gt183 q.1 q.2.1 = some (some (.int (zi z))) ∧ 0 ≤ z ∧ z ≤ 60000 ∧ q.2.2.2.2.2.2 m 53 = .int (zi n1) ∧ 0 ≤ n1 ∧ n1 ≤ 10 ∧ ((1 ≤ qu ∧ qu ≤ 100 ∧ 1 ≤ cw) → n1 = 0) ∧ (¬ (1 ≤ qu ∧ qu ≤ 100 ∧ 1 ≤ cw) → n1 = n0) ∧ (gTs ty n1 q.2.2) ∧ (gEy ty 31 f qu cw q.2.2)) := by
          intro fu
          induction fu with
          | zero => intro h11 k hm; exact absurd hm (Nat.not_lt_zero _)
          | succ fu ihlp10 =>
            intro h11 k lp10m sh11 lp10f0 lp10k0 lp10k1 lp10k2 lp10k3 lp10k4 lp10k5 lp10k6
            refine gz_s 2 (pc' := 67) (L' := [some (.ref m), some (.int (zi qu)), some (.int (zi jn9v0)), some (.int (zi k)), none]) (S' := [.int (zi 64), .int (zi k)]) rfl ?_
            by_cases hc12 : (64 : Int) ≤ k
            · refine gy_icT (pc' := 124) rfl (by decide) (by decide) (by omega) (by omega) hc12 ?_
              have hot64 : gOt ty 64 h11 := by have e9 := lp10k6; rwa [(by omega : k = 64)] at e9
              refine gz_s 1 (pc' := 125) (L' := [some (.ref m), some (.int (zi qu)), some (.int (zi jn9v0)), some (.int (zi k)), none]) (S' := [.ref m]) rfl ?_
              refine gz_call rfl (by decide) rfl (by decide) (by decide) (gcal_of rfl rfl rfl (Nat.le_of_ble_eq_true rfl) (gJ.recv (G := gGG) sh11.1 tm rfl rfl)) (mm_transform _ sh11.1 m tm cw lp10k1 (by omega) ch lp10k2 (by omega) hot64) (fun q13 _ wq13 => ?_)
              obtain ⟨pq13, oq13, hq13⟩ := q13
              obtain ⟨xq13, gq13⟩ := wq13
              refine ⟨_, gq13, ?_⟩
              show gz gPP gGG gcn _ _ 128 [some (.ref m), some (.int (zi qu)), some (.int (zi jn9v0)), some (.int (zi k)), none] [] hq13 _
              have sq13 := gSs.tr sh11 xq13 (by decide)
              have s14 := (xq13.2.2.2.2.2 m 53 (by rw [tm]; decide)).trans lp10k0
              have s15 := (xq13.2.2.2.2.2 m 50 (by rw [tm]; decide)).trans lp10k1
              have s16 := (xq13.2.2.2.2.2 m 51 (by rw [tm]; decide)).trans lp10k2
              have s17 := (xq13.2.2.2.2.2 m 0 (by rw [tm]; decide)).trans lp10k3
              have pr18 := gTs.fr xq13.2 (by decide) lp10k4
              have pr19 := gRow.fr xq13.2 (by decide) lp10k5
              have pr20 := gOt.fr xq13.2 (by decide) hot64
              refine gz_s 2 (pc' := 130) (L' := [some (.ref m), some (.int (zi qu)), some (.int (zi jn9v0)), some (.int (zi k)), none]) (S' := [.int (zi 0), .ref m]) rfl ?_
              refine gs_put rfl (by decide) rfl sq13 tm rfl rfl rfl rfl (Or.inl rfl) (by decide) (by omega) (by omega) (fun h21 sh21 eh21 fh21 => ?_)
              have pr22 := gTs.pt fh21 tm (by decide) pr18
              have pr23 := gRow.pt fh21 tm (by decide) pr19
              have pr24 := gOt.pt fh21 tm (by decide) pr20
              have s25 := (fh21 m 53 (fun q => absurd q.2 (by decide))).trans s14
              have s26 := (fh21 m 50 (fun q => absurd q.2 (by decide))).trans s15
              have s27 := (fh21 m 51 (fun q => absurd q.2 (by decide))).trans s16
              have s28 := (fh21 m 0 (fun q => absurd q.2 (by decide))).trans s17
              refine gz_s 2 (pc' := 135) (L' := [some (.ref m), some (.int (zi qu)), some (.int (zi jn9v0)), some (.int (zi k)), none]) (S' := [.int (zi 0), .ref m]) rfl ?_
              refine gs_put rfl (by decide) rfl sh21 tm rfl rfl rfl rfl (Or.inl rfl) (by decide) (by omega) (by omega) (fun h29 sh29 eh29 fh29 => ?_)
              have pr30 := gTs.pt fh29 tm (by decide) pr22
              have pr31 := gRow.pt fh29 tm (by decide) pr23
              have pr32 := gOt.pt fh29 tm (by decide) pr24
              have s33 := (fh29 m 53 (fun q => absurd q.2 (by decide))).trans s25
              have s34 := (fh29 m 50 (fun q => absurd q.2 (by decide))).trans s26
              have s35 := (fh29 m 51 (fun q => absurd q.2 (by decide))).trans s27
              have s36 := (fh29 m 0 (fun q => absurd q.2 (by decide))).trans s28
              have s37 := (fh29 m 59 (fun q => absurd q.2 (by decide))).trans eh21
              refine gz_s 2 (pc' := 140) (L' := [some (.ref m), some (.int (zi qu)), some (.int (zi jn9v0)), some (.int (zi k)), none]) (S' := [.int (zi 0), .ref m]) rfl ?_
              refine gs_put rfl (by decide) rfl sh29 tm rfl rfl rfl rfl (Or.inl rfl) (by decide) (by omega) (by omega) (fun h38 sh38 eh38 fh38 => ?_)
              have pr39 := gTs.pt fh38 tm (by decide) pr30
              have pr40 := gRow.pt fh38 tm (by decide) pr31
              have pr41 := gOt.pt fh38 tm (by decide) pr32
              have s42 := (fh38 m 53 (fun q => absurd q.2 (by decide))).trans s33
              have s43 := (fh38 m 50 (fun q => absurd q.2 (by decide))).trans s34
              have s44 := (fh38 m 51 (fun q => absurd q.2 (by decide))).trans s35
              have s45 := (fh38 m 0 (fun q => absurd q.2 (by decide))).trans s36
              have s46 := (fh38 m 59 (fun q => absurd q.2 (by decide))).trans s37
              have s47 := (fh38 m 61 (fun q => absurd q.2 (by decide))).trans eh29
              refine gz_s 2 (pc' := 147) (L' := [some (.ref m), some (.int (zi qu)), some (.int (zi jn9v0)), some (.int (zi k)), none]) (S' := [.int (zi 216), .ref m]) rfl ?_
              refine gz_call rfl (by decide) rfl (by decide) (by decide) (gcal_of rfl rfl rfl (Nat.le_of_ble_eq_true rfl) (gJ.recv (G := gGG) sh38.1 tm rfl rfl)) (mm_putMarker _ sh38.1 m tm 216 (by omega) 0 s46 (by omega)) (fun q48 _ wq48 => ?_)
              obtain ⟨pq48, oq48, hq48⟩ := q48
              obtain ⟨xq48, fq48_0, gq48, efq48_0, afq48_0, bfq48_0, uq48_0⟩ := wq48
              refine ⟨_, gq48, ?_⟩
              show gz gPP gGG gcn _ _ 150 [some (.ref m), some (.int (zi qu)), some (.int (zi jn9v0)), some (.int (zi k)), none] [] hq48 _
              have sq48 := gSs.tr sh38 xq48 (by decide)
              have s49 := (xq48.2.2.2.2.2 m 53 (by rw [tm]; decide)).trans s42
              have s50 := (xq48.2.2.2.2.2 m 50 (by rw [tm]; decide)).trans s43
              have s51 := (xq48.2.2.2.2.2 m 51 (by rw [tm]; decide)).trans s44
              have s52 := (xq48.2.2.2.2.2 m 0 (by rw [tm]; decide)).trans s45
              have s53 := (xq48.2.2.2.2.2 m 61 (by rw [tm]; decide)).trans s47
              have s54 := (xq48.2.2.2.2.2 m 62 (by rw [tm]; decide)).trans eh38
              have pr55 := gTs.fr xq48.2 (by decide) pr39
              have pr56 := gRow.fr xq48.2 (by decide) pr40
              have pr57 := gOt.fr xq48.2 (by decide) pr41
              refine gz_s 2 (pc' := 154) (L' := [some (.ref m), some (.int (zi qu)), some (.int (zi jn9v0)), some (.int (zi k)), none]) (S' := [.int (zi 219), .ref m]) rfl ?_
              refine gz_call rfl (by decide) rfl (by decide) (by decide) (gcal_of rfl rfl rfl (Nat.le_of_ble_eq_true rfl) (gJ.recv (G := gGG) sq48.1 tm rfl rfl)) (mm_putMarker _ sq48.1 m tm 219 (by omega) fq48_0 efq48_0 (by omega)) (fun q58 _ wq58 => ?_)
              obtain ⟨pq58, oq58, hq58⟩ := q58
              obtain ⟨xq58, fq58_0, gq58, efq58_0, afq58_0, bfq58_0, uq58_0⟩ := wq58
              refine ⟨_, gq58, ?_⟩
              show gz gPP gGG gcn _ _ 157 [some (.ref m), some (.int (zi qu)), some (.int (zi jn9v0)), some (.int (zi k)), none] [] hq58 _
              have sq58 := gSs.tr sq48 xq58 (by decide)
              have s59 := (xq58.2.2.2.2.2 m 53 (by rw [tm]; decide)).trans s49
              have s60 := (xq58.2.2.2.2.2 m 50 (by rw [tm]; decide)).trans s50
              have s61 := (xq58.2.2.2.2.2 m 51 (by rw [tm]; decide)).trans s51
              have s62 := (xq58.2.2.2.2.2 m 0 (by rw [tm]; decide)).trans s52
              have s63 := (xq58.2.2.2.2.2 m 61 (by rw [tm]; decide)).trans s53
              have s64 := (xq58.2.2.2.2.2 m 62 (by rw [tm]; decide)).trans s54
              have pr65 := gTs.fr xq58.2 (by decide) pr55
              have pr66 := gRow.fr xq58.2 (by decide) pr56
              have pr67 := gOt.fr xq58.2 (by decide) pr57
              refine gz_s 2 (pc' := 160) (L' := [some (.ref m), some (.int (zi qu)), some (.int (zi jn9v0)), some (.int (zi k)), none]) (S' := [.int (zi 67), .ref m]) rfl ?_
              refine gz_call rfl (by decide) rfl (by decide) (by decide) (gcal_of rfl rfl rfl (Nat.le_of_ble_eq_true rfl) (gJ.recv (G := gGG) sq58.1 tm rfl rfl)) (mm_putTwo _ sq58.1 m tm 67 (by omega) fq58_0 efq58_0 (by omega)) (fun q68 _ wq68 => ?_)
              obtain ⟨pq68, oq68, hq68⟩ := q68
              obtain ⟨xq68, fq68_0, gq68, efq68_0, afq68_0, bfq68_0, uq68_0⟩ := wq68
              refine ⟨_, gq68, ?_⟩
              show gz gPP gGG gcn _ _ 163 [some (.ref m), some (.int (zi qu)), some (.int (zi jn9v0)), some (.int (zi k)), none] [] hq68 _
              have sq68 := gSs.tr sq58 xq68 (by decide)
              have s69 := (xq68.2.2.2.2.2 m 53 (by rw [tm]; decide)).trans s59
              have s70 := (xq68.2.2.2.2.2 m 50 (by rw [tm]; decide)).trans s60
              have s71 := (xq68.2.2.2.2.2 m 51 (by rw [tm]; decide)).trans s61
              have s72 := (xq68.2.2.2.2.2 m 0 (by rw [tm]; decide)).trans s62
              have s73 := (xq68.2.2.2.2.2 m 61 (by rw [tm]; decide)).trans s63
              have s74 := (xq68.2.2.2.2.2 m 62 (by rw [tm]; decide)).trans s64
              have pr75 := gTs.fr xq68.2 (by decide) pr65
              have pr76 := gRow.fr xq68.2 (by decide) pr66
              have pr77 := gOt.fr xq68.2 (by decide) pr67
              refine gz_s 2 (pc' := 165) (L' := [some (.ref m), some (.int (zi qu)), some (.int (zi jn9v0)), some (.int (zi k)), none]) (S' := [.int (zi 0), .ref m]) rfl ?_
              refine gz_call rfl (by decide) rfl (by decide) (by decide) (gcal_of rfl rfl rfl (Nat.le_of_ble_eq_true rfl) (gJ.recv (G := gGG) sq68.1 tm rfl rfl)) (mm_putByte _ sq68.1 m tm 0 (by omega) fq68_0 efq68_0 (by omega)) (fun q78 _ wq78 => ?_)
              obtain ⟨pq78, oq78, hq78⟩ := q78
              obtain ⟨xq78, fq78_0, gq78, efq78_0, afq78_0, bfq78_0, uq78_0⟩ := wq78
              refine ⟨_, gq78, ?_⟩
              show gz gPP gGG gcn _ _ 168 [some (.ref m), some (.int (zi qu)), some (.int (zi jn9v0)), some (.int (zi k)), none] [] hq78 _
              have sq78 := gSs.tr sq68 xq78 (by decide)
              have s79 := (xq78.2.2.2.2.2 m 53 (by rw [tm]; decide)).trans s69
              have s80 := (xq78.2.2.2.2.2 m 50 (by rw [tm]; decide)).trans s70
              have s81 := (xq78.2.2.2.2.2 m 51 (by rw [tm]; decide)).trans s71
              have s82 := (xq78.2.2.2.2.2 m 0 (by rw [tm]; decide)).trans s72
              have s83 := (xq78.2.2.2.2.2 m 61 (by rw [tm]; decide)).trans s73
              have s84 := (xq78.2.2.2.2.2 m 62 (by rw [tm]; decide)).trans s74
              have pr85 := gTs.fr xq78.2 (by decide) pr75
              have pr86 := gRow.fr xq78.2 (by decide) pr76
              have pr87 := gOt.fr xq78.2 (by decide) pr77
              refine gz_s 2 (pc' := 170) (L' := [some (.ref m), some (.int (zi qu)), some (.int (zi jn9v0)), some (.int (zi 0)), none]) (S' := []) rfl ?_
              have lp88 : ∀ (fu : Nat) (h89 : gH) (k1 : Int) (wa : Int), (65 - k1).toNat < fu → gSs rT 1027 ty [1000, 1053, 1059, 1061, 1062, 1064, 1067, 1074, 1075, 31999, 32999, 33999, 34999, 36999, 37999, 38999, 39999, 40999, 41999, 42999] h h89 → (0 ≤ k1 ∧ k1 ≤ 64) → (0 ≤ wa ∧ wa ≤ 60000) → (wa = 7 + k1) → h89.2.2.2.2 m 53 = .int (zi n0) → h89.2.2.2.2 m 50 = .int (zi cw) → h89.2.2.2.2 m 51 = .int (zi ch) → h89.2.2.2.2 m 0 = .int (zi jn1v0) → h89.2.2.2.2 m 61 = .int (zi 0) → h89.2.2.2.2 m 62 = .int (zi 0) → h89.2.2.2.2 m 59 = .int (zi wa) → gTs ty n0 h89 → gRow ty 31 f h89 → gOt ty 64 h89 → gz gPP gGG gcn (d + 6) gt183 170 [some (.ref m), some (.int (zi qu)), some (.int (zi jn9v0)), some (.int (zi k1)), none] [] h89 (fun q _ => gSs rT 1027 ty [1000, 1053, 1059, 1061, 1062, 1064, 1067, 1074, 1075, 31999, 32999, 33999, 34999, 36999, 37999, 38999, 39999, 40999, 41999, 42999] h q.2.2 ∧ ∃ z n1 : Int, gfin gt183 q.1 q.2.1 = some (some (.int (zi z))) ∧ 0 ≤ z ∧ z ≤ 60000 ∧ q.2.2.2.2.2.2 m 53 = .int (zi n1) ∧ 0 ≤ n1 ∧ n1 ≤ 10 ∧ ((1 ≤ qu ∧ qu ≤ 100 ∧ 1 ≤ cw) → n1 = 0) ∧ (¬ (1 ≤ qu ∧ qu ≤ 100 ∧ 1 ≤ cw) → n1 = n0) ∧ (gTs ty n1 q.2.2) ∧ (gEy ty 31 f qu cw q.2.2)) := by
                intro fu
                induction fu with
                | zero => intro h89 k1 wa hm; exact absurd hm (Nat.not_lt_zero _)
                | succ fu ihlp88 =>
                  intro h89 k1 wa lp88m sh89 lp88f0 lp88f1 lp88f2 lp88k0 lp88k1 lp88k2 lp88k3 lp88k4 lp88k5 lp88k6 lp88k7 lp88k8 lp88k9
                  refine gz_s 2 (pc' := 173) (L' := [some (.ref m), some (.int (zi qu)), some (.int (zi jn9v0)), some (.int (zi k1)), none]) (S' := [.int (zi 64), .int (zi k1)]) rfl ?_
                  by_cases hc90 : (64 : Int) ≤ k1
                  · refine gy_icT (pc' := 192) rfl (by decide) (by decide) (by omega) (by omega) hc90 ?_
                    refine gz_s 2 (pc' := 194) (L' := [some (.ref m), some (.int (zi qu)), some (.int (zi jn9v0)), some (.int (zi k1)), none]) (S' := [.ref m, .ref m]) rfl ?_
                    refine gs_gtk rfl (by decide) rfl sh89.1 tm rfl rfl lp88k0 ?_
                    have jn91 : ∀ (jn91v0 : Int), ((0 ≤ jn91v0) ∧ (jn91v0 ≤ 255)) → gz gPP gGG gcn (d + 6) gt183 209 [some (.ref m), some (.int (zi qu)), some (.int (zi jn9v0)), some (.int (zi k1)), none] [.int (zi jn91v0), .ref m] h89 (fun q _ => gSs rT 1027 ty [1000, 1053, 1059, 1061, 1062, 1064, 1067, 1074, 1075, 31999, 32999, 33999, 34999, 36999, 37999, 38999, 39999, 40999, 41999, 42999] h q.2.2 ∧ ∃ z n1 : Int, gfin gt183 q.1 q.2.1 = some (some (.int (zi z))) ∧ 0 ≤ z ∧ z ≤ 60000 ∧ q.2.2.2.2.2.2 m 53 = .int (zi n1) ∧ 0 ≤ n1 ∧ n1 ≤ 10 ∧ ((1 ≤ qu ∧ qu ≤ 100 ∧ 1 ≤ cw) → n1 = 0) ∧ (¬ (1 ≤ qu ∧ qu ≤ 100 ∧ 1 ≤ cw) → n1 = n0) ∧ (gTs ty n1 q.2.2) ∧ (gEy ty 31 f qu cw q.2.2)) := by
                      intro jn91v0 jn91d
                      refine gz_call rfl (by decide) rfl (by decide) (by decide) (gcal_of rfl rfl rfl (Nat.le_of_ble_eq_true rfl) (gJ.recv (G := gGG) sh89.1 tm rfl rfl)) (mm_putMarker _ sh89.1 m tm jn91v0 (by omega) wa lp88k6 (by omega)) (fun q92 _ wq92 => ?_)
                      obtain ⟨pq92, oq92, hq92⟩ := q92
                      obtain ⟨xq92, fq92_0, gq92, efq92_0, afq92_0, bfq92_0, uq92_0⟩ := wq92
                      refine ⟨_, gq92, ?_⟩
                      show gz gPP gGG gcn _ _ 212 [some (.ref m), some (.int (zi qu)), some (.int (zi jn9v0)), some (.int (zi k1)), none] [] hq92 _
                      have sq92 := gSs.tr sh89 xq92 (by decide)
                      have s93 := (xq92.2.2.2.2.2 m 53 (by rw [tm]; decide)).trans lp88k0
                      have s94 := (xq92.2.2.2.2.2 m 50 (by rw [tm]; decide)).trans lp88k1
                      have s95 := (xq92.2.2.2.2.2 m 51 (by rw [tm]; decide)).trans lp88k2
                      have s96 := (xq92.2.2.2.2.2 m 0 (by rw [tm]; decide)).trans lp88k3
                      have s97 := (xq92.2.2.2.2.2 m 61 (by rw [tm]; decide)).trans lp88k4
                      have s98 := (xq92.2.2.2.2.2 m 62 (by rw [tm]; decide)).trans lp88k5
                      have pr99 := gTs.fr xq92.2 (by decide) lp88k7
                      have pr100 := gRow.fr xq92.2 (by decide) lp88k8
                      have pr101 := gOt.fr xq92.2 (by decide) lp88k9
                      refine gz_s 2 (pc' := 215) (L' := [some (.ref m), some (.int (zi qu)), some (.int (zi jn9v0)), some (.int (zi k1)), none]) (S' := [.int (zi 11), .ref m]) rfl ?_
                      refine gz_call rfl (by decide) rfl (by decide) (by decide) (gcal_of rfl rfl rfl (Nat.le_of_ble_eq_true rfl) (gJ.recv (G := gGG) sq92.1 tm rfl rfl)) (mm_putTwo _ sq92.1 m tm 11 (by omega) fq92_0 efq92_0 (by omega)) (fun q102 _ wq102 => ?_)
                      obtain ⟨pq102, oq102, hq102⟩ := q102
                      obtain ⟨xq102, fq102_0, gq102, efq102_0, afq102_0, bfq102_0, uq102_0⟩ := wq102
                      refine ⟨_, gq102, ?_⟩
                      show gz gPP gGG gcn _ _ 218 [some (.ref m), some (.int (zi qu)), some (.int (zi jn9v0)), some (.int (zi k1)), none] [] hq102 _
                      have sq102 := gSs.tr sq92 xq102 (by decide)
                      have s103 := (xq102.2.2.2.2.2 m 53 (by rw [tm]; decide)).trans s93
                      have s104 := (xq102.2.2.2.2.2 m 50 (by rw [tm]; decide)).trans s94
                      have s105 := (xq102.2.2.2.2.2 m 51 (by rw [tm]; decide)).trans s95
                      have s106 := (xq102.2.2.2.2.2 m 0 (by rw [tm]; decide)).trans s96
                      have s107 := (xq102.2.2.2.2.2 m 61 (by rw [tm]; decide)).trans s97
                      have s108 := (xq102.2.2.2.2.2 m 62 (by rw [tm]; decide)).trans s98
                      have pr109 := gTs.fr xq102.2 (by decide) pr99
                      have pr110 := gRow.fr xq102.2 (by decide) pr100
                      have pr111 := gOt.fr xq102.2 (by decide) pr101
                      refine gz_s 2 (pc' := 221) (L' := [some (.ref m), some (.int (zi qu)), some (.int (zi jn9v0)), some (.int (zi k1)), none]) (S' := [.int (zi 8), .ref m]) rfl ?_
                      refine gz_call rfl (by decide) rfl (by decide) (by decide) (gcal_of rfl rfl rfl (Nat.le_of_ble_eq_true rfl) (gJ.recv (G := gGG) sq102.1 tm rfl rfl)) (mm_putByte _ sq102.1 m tm 8 (by omega) fq102_0 efq102_0 (by omega)) (fun q112 _ wq112 => ?_)
                      obtain ⟨pq112, oq112, hq112⟩ := q112
                      obtain ⟨xq112, fq112_0, gq112, efq112_0, afq112_0, bfq112_0, uq112_0⟩ := wq112
                      refine ⟨_, gq112, ?_⟩
                      show gz gPP gGG gcn _ _ 224 [some (.ref m), some (.int (zi qu)), some (.int (zi jn9v0)), some (.int (zi k1)), none] [] hq112 _
                      have sq112 := gSs.tr sq102 xq112 (by decide)
                      have s113 := (xq112.2.2.2.2.2 m 53 (by rw [tm]; decide)).trans s103
                      have s114 := (xq112.2.2.2.2.2 m 50 (by rw [tm]; decide)).trans s104
                      have s115 := (xq112.2.2.2.2.2 m 51 (by rw [tm]; decide)).trans s105
                      have s116 := (xq112.2.2.2.2.2 m 0 (by rw [tm]; decide)).trans s106
                      have s117 := (xq112.2.2.2.2.2 m 61 (by rw [tm]; decide)).trans s107
                      have s118 := (xq112.2.2.2.2.2 m 62 (by rw [tm]; decide)).trans s108
                      have pr119 := gTs.fr xq112.2 (by decide) pr109
                      have pr120 := gRow.fr xq112.2 (by decide) pr110
                      have pr121 := gOt.fr xq112.2 (by decide) pr111
                      refine gz_s 2 (pc' := 226) (L' := [some (.ref m), some (.int (zi qu)), some (.int (zi jn9v0)), some (.int (zi k1)), none]) (S' := [.ref m, .ref m]) rfl ?_
                      refine gs_gtk rfl (by decide) rfl sq112.1 tm rfl rfl s115 ?_
                      refine gz_call rfl (by decide) rfl (by decide) (by decide) (gcal_of rfl rfl rfl (Nat.le_of_ble_eq_true rfl) (gJ.recv (G := gGG) sq112.1 tm rfl rfl)) (mm_putTwo _ sq112.1 m tm ch (by omega) fq112_0 efq112_0 (by omega)) (fun q122 _ wq122 => ?_)
                      obtain ⟨pq122, oq122, hq122⟩ := q122
                      obtain ⟨xq122, fq122_0, gq122, efq122_0, afq122_0, bfq122_0, uq122_0⟩ := wq122
                      refine ⟨_, gq122, ?_⟩
                      show gz gPP gGG gcn _ _ 232 [some (.ref m), some (.int (zi qu)), some (.int (zi jn9v0)), some (.int (zi k1)), none] [] hq122 _
                      have sq122 := gSs.tr sq112 xq122 (by decide)
                      have s123 := (xq122.2.2.2.2.2 m 53 (by rw [tm]; decide)).trans s113
                      have s124 := (xq122.2.2.2.2.2 m 50 (by rw [tm]; decide)).trans s114
                      have s125 := (xq122.2.2.2.2.2 m 51 (by rw [tm]; decide)).trans s115
                      have s126 := (xq122.2.2.2.2.2 m 0 (by rw [tm]; decide)).trans s116
                      have s127 := (xq122.2.2.2.2.2 m 61 (by rw [tm]; decide)).trans s117
                      have s128 := (xq122.2.2.2.2.2 m 62 (by rw [tm]; decide)).trans s118
                      have pr129 := gTs.fr xq122.2 (by decide) pr119
                      have pr130 := gRow.fr xq122.2 (by decide) pr120
                      have pr131 := gOt.fr xq122.2 (by decide) pr121
                      refine gz_s 2 (pc' := 234) (L' := [some (.ref m), some (.int (zi qu)), some (.int (zi jn9v0)), some (.int (zi k1)), none]) (S' := [.ref m, .ref m]) rfl ?_
                      refine gs_gtk rfl (by decide) rfl sq122.1 tm rfl rfl s124 ?_
                      refine gz_call rfl (by decide) rfl (by decide) (by decide) (gcal_of rfl rfl rfl (Nat.le_of_ble_eq_true rfl) (gJ.recv (G := gGG) sq122.1 tm rfl rfl)) (mm_putTwo _ sq122.1 m tm cw (by omega) fq122_0 efq122_0 (by omega)) (fun q132 _ wq132 => ?_)
                      obtain ⟨pq132, oq132, hq132⟩ := q132
                      obtain ⟨xq132, fq132_0, gq132, efq132_0, afq132_0, bfq132_0, uq132_0⟩ := wq132
                      refine ⟨_, gq132, ?_⟩
                      show gz gPP gGG gcn _ _ 240 [some (.ref m), some (.int (zi qu)), some (.int (zi jn9v0)), some (.int (zi k1)), none] [] hq132 _
                      have sq132 := gSs.tr sq122 xq132 (by decide)
                      have s133 := (xq132.2.2.2.2.2 m 53 (by rw [tm]; decide)).trans s123
                      have s134 := (xq132.2.2.2.2.2 m 50 (by rw [tm]; decide)).trans s124
                      have s135 := (xq132.2.2.2.2.2 m 51 (by rw [tm]; decide)).trans s125
                      have s136 := (xq132.2.2.2.2.2 m 0 (by rw [tm]; decide)).trans s126
                      have s137 := (xq132.2.2.2.2.2 m 61 (by rw [tm]; decide)).trans s127
                      have s138 := (xq132.2.2.2.2.2 m 62 (by rw [tm]; decide)).trans s128
                      have pr139 := gTs.fr xq132.2 (by decide) pr129
                      have pr140 := gRow.fr xq132.2 (by decide) pr130
                      have pr141 := gOt.fr xq132.2 (by decide) pr131
                      refine gz_s 2 (pc' := 242) (L' := [some (.ref m), some (.int (zi qu)), some (.int (zi jn9v0)), some (.int (zi k1)), none]) (S' := [.int (zi 1), .ref m]) rfl ?_
                      refine gz_call rfl (by decide) rfl (by decide) (by decide) (gcal_of rfl rfl rfl (Nat.le_of_ble_eq_true rfl) (gJ.recv (G := gGG) sq132.1 tm rfl rfl)) (mm_putByte _ sq132.1 m tm 1 (by omega) fq132_0 efq132_0 (by omega)) (fun q142 _ wq142 => ?_)
                      obtain ⟨pq142, oq142, hq142⟩ := q142
                      obtain ⟨xq142, fq142_0, gq142, efq142_0, afq142_0, bfq142_0, uq142_0⟩ := wq142
                      refine ⟨_, gq142, ?_⟩
                      show gz gPP gGG gcn _ _ 245 [some (.ref m), some (.int (zi qu)), some (.int (zi jn9v0)), some (.int (zi k1)), none] [] hq142 _
                      have sq142 := gSs.tr sq132 xq142 (by decide)
                      have s143 := (xq142.2.2.2.2.2 m 53 (by rw [tm]; decide)).trans s133
                      have s144 := (xq142.2.2.2.2.2 m 50 (by rw [tm]; decide)).trans s134
                      have s145 := (xq142.2.2.2.2.2 m 51 (by rw [tm]; decide)).trans s135
                      have s146 := (xq142.2.2.2.2.2 m 0 (by rw [tm]; decide)).trans s136
                      have s147 := (xq142.2.2.2.2.2 m 61 (by rw [tm]; decide)).trans s137
                      have s148 := (xq142.2.2.2.2.2 m 62 (by rw [tm]; decide)).trans s138
                      have pr149 := gTs.fr xq142.2 (by decide) pr139
                      have pr150 := gRow.fr xq142.2 (by decide) pr140
                      have pr151 := gOt.fr xq142.2 (by decide) pr141
                      refine gz_s 2 (pc' := 247) (L' := [some (.ref m), some (.int (zi qu)), some (.int (zi jn9v0)), some (.int (zi k1)), none]) (S' := [.int (zi 1), .ref m]) rfl ?_
                      refine gz_call rfl (by decide) rfl (by decide) (by decide) (gcal_of rfl rfl rfl (Nat.le_of_ble_eq_true rfl) (gJ.recv (G := gGG) sq142.1 tm rfl rfl)) (mm_putByte _ sq142.1 m tm 1 (by omega) fq142_0 efq142_0 (by omega)) (fun q152 _ wq152 => ?_)
                      obtain ⟨pq152, oq152, hq152⟩ := q152
                      obtain ⟨xq152, fq152_0, gq152, efq152_0, afq152_0, bfq152_0, uq152_0⟩ := wq152
                      refine ⟨_, gq152, ?_⟩
                      show gz gPP gGG gcn _ _ 250 [some (.ref m), some (.int (zi qu)), some (.int (zi jn9v0)), some (.int (zi k1)), none] [] hq152 _
                      have sq152 := gSs.tr sq142 xq152 (by decide)
                      have s153 := (xq152.2.2.2.2.2 m 53 (by rw [tm]; decide)).trans s143
                      have s154 := (xq152.2.2.2.2.2 m 50 (by rw [tm]; decide)).trans s144
                      have s155 := (xq152.2.2.2.2.2 m 51 (by rw [tm]; decide)).trans s145
                      have s156 := (xq152.2.2.2.2.2 m 0 (by rw [tm]; decide)).trans s146
                      have s157 := (xq152.2.2.2.2.2 m 61 (by rw [tm]; decide)).trans s147
                      have s158 := (xq152.2.2.2.2.2 m 62 (by rw [tm]; decide)).trans s148
                      have pr159 := gTs.fr xq152.2 (by decide) pr149
                      have pr160 := gRow.fr xq152.2 (by decide) pr150
                      have pr161 := gOt.fr xq152.2 (by decide) pr151
                      refine gz_s 2 (pc' := 253) (L' := [some (.ref m), some (.int (zi qu)), some (.int (zi jn9v0)), some (.int (zi k1)), none]) (S' := [.int (zi 17), .ref m]) rfl ?_
                      refine gz_call rfl (by decide) rfl (by decide) (by decide) (gcal_of rfl rfl rfl (Nat.le_of_ble_eq_true rfl) (gJ.recv (G := gGG) sq152.1 tm rfl rfl)) (mm_putByte _ sq152.1 m tm 17 (by omega) fq152_0 efq152_0 (by omega)) (fun q162 _ wq162 => ?_)
                      obtain ⟨pq162, oq162, hq162⟩ := q162
                      obtain ⟨xq162, fq162_0, gq162, efq162_0, afq162_0, bfq162_0, uq162_0⟩ := wq162
                      refine ⟨_, gq162, ?_⟩
                      show gz gPP gGG gcn _ _ 256 [some (.ref m), some (.int (zi qu)), some (.int (zi jn9v0)), some (.int (zi k1)), none] [] hq162 _
                      have sq162 := gSs.tr sq152 xq162 (by decide)
                      have s163 := (xq162.2.2.2.2.2 m 53 (by rw [tm]; decide)).trans s153
                      have s164 := (xq162.2.2.2.2.2 m 50 (by rw [tm]; decide)).trans s154
                      have s165 := (xq162.2.2.2.2.2 m 51 (by rw [tm]; decide)).trans s155
                      have s166 := (xq162.2.2.2.2.2 m 0 (by rw [tm]; decide)).trans s156
                      have s167 := (xq162.2.2.2.2.2 m 61 (by rw [tm]; decide)).trans s157
                      have s168 := (xq162.2.2.2.2.2 m 62 (by rw [tm]; decide)).trans s158
                      have pr169 := gTs.fr xq162.2 (by decide) pr159
                      have pr170 := gRow.fr xq162.2 (by decide) pr160
                      have pr171 := gOt.fr xq162.2 (by decide) pr161
                      refine gz_s 2 (pc' := 258) (L' := [some (.ref m), some (.int (zi qu)), some (.int (zi jn9v0)), some (.int (zi k1)), none]) (S' := [.int (zi 0), .ref m]) rfl ?_
                      refine gz_call rfl (by decide) rfl (by decide) (by decide) (gcal_of rfl rfl rfl (Nat.le_of_ble_eq_true rfl) (gJ.recv (G := gGG) sq162.1 tm rfl rfl)) (mm_putByte _ sq162.1 m tm 0 (by omega) fq162_0 efq162_0 (by omega)) (fun q172 _ wq172 => ?_)
                      obtain ⟨pq172, oq172, hq172⟩ := q172
                      obtain ⟨xq172, fq172_0, gq172, efq172_0, afq172_0, bfq172_0, uq172_0⟩ := wq172
                      refine ⟨_, gq172, ?_⟩
                      show gz gPP gGG gcn _ _ 261 [some (.ref m), some (.int (zi qu)), some (.int (zi jn9v0)), some (.int (zi k1)), none] [] hq172 _
                      have sq172 := gSs.tr sq162 xq172 (by decide)
                      have s173 := (xq172.2.2.2.2.2 m 53 (by rw [tm]; decide)).trans s163
                      have s174 := (xq172.2.2.2.2.2 m 50 (by rw [tm]; decide)).trans s164
                      have s175 := (xq172.2.2.2.2.2 m 51 (by rw [tm]; decide)).trans s165
                      have s176 := (xq172.2.2.2.2.2 m 0 (by rw [tm]; decide)).trans s166
                      have s177 := (xq172.2.2.2.2.2 m 61 (by rw [tm]; decide)).trans s167
                      have s178 := (xq172.2.2.2.2.2 m 62 (by rw [tm]; decide)).trans s168
                      have pr179 := gTs.fr xq172.2 (by decide) pr169
                      have pr180 := gRow.fr xq172.2 (by decide) pr170
                      have pr181 := gOt.fr xq172.2 (by decide) pr171
                      refine gz_s 1 (pc' := 262) (L' := [some (.ref m), some (.int (zi qu)), some (.int (zi jn9v0)), some (.int (zi k1)), none]) (S' := [.ref m]) rfl ?_
                      refine gs_get rfl (by decide) rfl sq172.1 tm rfl rfl rfl (fun z182 ez182 az182 bz182 => ?_)
                      by_cases hc183 : (z182 : Int) ≤ 0
                      · refine gy_ifT (pc' := 288) rfl (by decide) (by decide) (by omega) hc183 ?_
                        obtain ⟨tf, tt, cf, rf, rt, rc, tle, tsm⟩ := pr179
                        have tsn : 0 ≤ gsf (fun j => gcr (cf j)) 64 := gsf_nn (fun j => gcr_nn) 64
                        refine gz_s 1 (pc' := 289) (L' := [some (.ref m), some (.int (zi qu)), some (.int (zi jn9v0)), some (.int (zi k1)), none]) (S' := [.ref m]) rfl ?_
                        refine gs_gtk rfl (by decide) rfl sq172.1 tm rfl rfl s173 ?_
                        by_cases hc184 : ¬ (n0 : Int) = 0
                        · refine gy_ifT (pc' := 304) rfl (by decide) (by decide) (by omega) hc184 ?_
                          refine gz_s 2 (pc' := 306) (L' := [some (.ref m), some (.int (zi qu)), some (.int (zi jn9v0)), some (.int (zi 0)), none]) (S' := []) rfl ?_
                          have lp185 : ∀ (fu : Nat) (h186 : gH) (k3 : Int) (wv : Int) (bv : Int), (11 - k3).toNat < fu → gSs rT 1027 ty [1000, 1053, 1059, 1061, 1062, 1064, 1067, 1074, 1075, 31999, 32999, 33999, 34999, 36999, 37999, 38999, 39999, 40999, 41999, 42999] h h186 → (0 ≤ k3 ∧ k3 ≤ 10) → (0 ≤ wv ∧ wv ≤ 60000) → (0 ≤ bv ∧ bv ≤ 0) → (n0 = 0 ∨ (4 * wv ≤ 1000 + 560 * gTl tf tt k3 + 3468 * k3)) → (n0 = 0 → (k3 = 0 ∧ wv ≤ 45000)) → (k3 ≤ n0) → h186.2.2.2.2 m 53 = .int (zi n0) → h186.2.2.2.2 m 50 = .int (zi cw) → h186.2.2.2.2 m 51 = .int (zi ch) → h186.2.2.2.2 m 0 = .int (zi jn1v0) → h186.2.2.2.2 m 52 = .int (zi z182) → h186.2.2.2.2 m 59 = .int (zi wv) → h186.2.2.2.2 m 62 = .int (zi bv) → gRow ty 31 f h186 → gOt ty 64 h186 → gRow ty 27 tf h186 → gRow ty 28 tt h186 → gz gPP gGG gcn (d + 6) gt183 306 [some (.ref m), some (.int (zi qu)), some (.int (zi jn9v0)), some (.int (zi k3)), none] [] h186 (fun q _ => gSs rT 1027 ty [1000, 1053, 1059, 1061, 1062, 1064, 1067, 1074, 1075, 31999, 32999, 33999, 34999, 36999, 37999, 38999, 39999, 40999, 41999, 42999] h q.2.2 ∧ ∃ z n1 : Int, gfin gt183 q.1 q.2.1 = some (some (.int (zi z))) ∧ 0 ≤ z ∧ z ≤ 60000 ∧ q.2.2.2.2.2.2 m 53 = .int (zi n1) ∧ 0 ≤ n1 ∧ n1 ≤ 10 ∧ ((1 ≤ qu ∧ qu ≤ 100 ∧ 1 ≤ cw) → n1 = 0) ∧ (¬ (1 ≤ qu ∧ qu ≤ 100 ∧ 1 ≤ cw) → n1 = n0) ∧ (gTs ty n1 q.2.2) ∧ (gEy ty 31 f qu cw q.2.2)) := by
                            intro fu
                            induction fu with
                            | zero => intro h186 k3 wv bv hm; exact absurd hm (Nat.not_lt_zero _)
                            | succ fu ihlp185 =>
                              intro h186 k3 wv bv lp185m sh186 lp185f0 lp185f1 lp185f2 lp185f3 lp185f4 lp185f5 lp185k0 lp185k1 lp185k2 lp185k3 lp185k4 lp185k5 lp185k6 lp185k7 lp185k8 lp185k9 lp185k10
                              have hl0 := gTl_le (f := tf) (t := tt) (k := k3) (n := n0) tle
                              refine gz_s 2 (pc' := 308) (L' := [some (.ref m), some (.int (zi qu)), some (.int (zi jn9v0)), some (.int (zi k3)), none]) (S' := [.ref m, .int (zi k3)]) rfl ?_
                              refine gs_gtk rfl (by decide) rfl sh186.1 tm rfl rfl lp185k0 ?_
                              by_cases hc187 : (n0 : Int) ≤ k3
                              · refine gy_icT (pc' := 348) rfl (by decide) (by decide) (by omega) (by omega) hc187 ?_
                                refine gz_s 2 (pc' := 352) (L' := [some (.ref m), some (.int (zi qu)), some (.int (zi jn9v0)), some (.int (zi k3)), none]) (S' := [.int (zi 217), .ref m]) rfl ?_
                                refine gz_call rfl (by decide) rfl (by decide) (by decide) (gcal_of rfl rfl rfl (Nat.le_of_ble_eq_true rfl) (gJ.recv (G := gGG) sh186.1 tm rfl rfl)) (mm_putMarker _ sh186.1 m tm 217 (by omega) wv lp185k5 (by omega)) (fun q188 _ wq188 => ?_)
                                obtain ⟨pq188, oq188, hq188⟩ := q188
                                obtain ⟨xq188, fq188_0, gq188, efq188_0, afq188_0, bfq188_0, uq188_0⟩ := wq188
                                refine ⟨_, gq188, ?_⟩
                                show gz gPP gGG gcn _ _ 355 [some (.ref m), some (.int (zi qu)), some (.int (zi jn9v0)), some (.int (zi k3)), none] [] hq188 _
                                have sq188 := gSs.tr sh186 xq188 (by decide)
                                have s189 := (xq188.2.2.2.2.2 m 53 (by rw [tm]; decide)).trans lp185k0
                                have s190 := (xq188.2.2.2.2.2 m 50 (by rw [tm]; decide)).trans lp185k1
                                have s191 := (xq188.2.2.2.2.2 m 51 (by rw [tm]; decide)).trans lp185k2
                                have s192 := (xq188.2.2.2.2.2 m 0 (by rw [tm]; decide)).trans lp185k3
                                have s193 := (xq188.2.2.2.2.2 m 52 (by rw [tm]; decide)).trans lp185k4
                                have s194 := (xq188.2.2.2.2.2 m 62 (by rw [tm]; decide)).trans lp185k6
                                have pr195 := gRow.fr xq188.2 (by decide) lp185k7
                                have pr196 := gOt.fr xq188.2 (by decide) lp185k8
                                have pr197 := gRow.fr xq188.2 (by decide) lp185k9
                                have pr198 := gRow.fr xq188.2 (by decide) lp185k10
                                refine gz_s 2 (pc' := 357) (L' := [some (.ref m), some (.int (zi qu)), some (.int (zi jn9v0)), some (.int (zi k3)), none]) (S' := [.int (zi 0), .ref m]) rfl ?_
                                refine gs_put rfl (by decide) rfl sq188 tm rfl rfl rfl rfl (Or.inl rfl) (by decide) (by omega) (by omega) (fun h199 sh199 eh199 fh199 => ?_)
                                have pr200 := gRow.pt fh199 tm (by decide) pr195
                                have pr201 := gOt.pt fh199 tm (by decide) pr196
                                have pr202 := gRow.pt fh199 tm (by decide) pr197
                                have pr203 := gRow.pt fh199 tm (by decide) pr198
                                have s204 := (fh199 m 50 (fun q => absurd q.2 (by decide))).trans s190
                                have s205 := (fh199 m 51 (fun q => absurd q.2 (by decide))).trans s191
                                have s206 := (fh199 m 0 (fun q => absurd q.2 (by decide))).trans s192
                                have s207 := (fh199 m 52 (fun q => absurd q.2 (by decide))).trans s193
                                have s208 := (fh199 m 62 (fun q => absurd q.2 (by decide))).trans s194
                                have s209 := (fh199 m 59 (fun q => absurd q.2 (by decide))).trans efq188_0
                                refine gz_s 2 (pc' := 362) (L' := [some (.ref m), some (.int (zi qu)), some (.int (zi jn9v0)), some (.int (zi 0)), none]) (S' := []) rfl ?_
                                obtain ⟨c211, ec211, tc211⟩ := gJ.ref (k := 58) (G := gGG) sh199.1 tm rfl rfl rfl
                                have hoz212 : gOz ty 31 (-1) 0 h199 := ⟨_, gRow.mk uq tc211 (by decide) (fun _ => rfl), fun j hj => absurd hj (by omega)⟩
                                have lp210 : ∀ (fu : Nat) (h213 : gH) (kz : Int), (65 - kz).toNat < fu → gSs rT 1027 ty [1000, 1053, 1059, 1061, 1062, 1064, 1067, 1074, 1075, 31999, 32999, 33999, 34999, 36999, 37999, 38999, 39999, 40999, 41999, 42999] h h213 → (0 ≤ kz ∧ kz ≤ 64) → h213.2.2.2.2 m 50 = .int (zi cw) → h213.2.2.2.2 m 51 = .int (zi ch) → h213.2.2.2.2 m 0 = .int (zi jn1v0) → h213.2.2.2.2 m 52 = .int (zi z182) → h213.2.2.2.2 m 62 = .int (zi bv) → h213.2.2.2.2 m 59 = .int (zi fq188_0) → h213.2.2.2.2 m 53 = .int (zi 0) → gOt ty 64 h213 → gRow ty 27 tf h213 → gRow ty 28 tt h213 → gOz ty 31 (-1) kz h213 → gz gPP gGG gcn (d + 6) gt183 362 [some (.ref m), some (.int (zi qu)), some (.int (zi jn9v0)), some (.int (zi kz)), none] [] h213 (fun q _ => gSs rT 1027 ty [1000, 1053, 1059, 1061, 1062, 1064, 1067, 1074, 1075, 31999, 32999, 33999, 34999, 36999, 37999, 38999, 39999, 40999, 41999, 42999] h q.2.2 ∧ ∃ z n1 : Int, gfin gt183 q.1 q.2.1 = some (some (.int (zi z))) ∧ 0 ≤ z ∧ z ≤ 60000 ∧ q.2.2.2.2.2.2 m 53 = .int (zi n1) ∧ 0 ≤ n1 ∧ n1 ≤ 10 ∧ ((1 ≤ qu ∧ qu ≤ 100 ∧ 1 ≤ cw) → n1 = 0) ∧ (¬ (1 ≤ qu ∧ qu ≤ 100 ∧ 1 ≤ cw) → n1 = n0) ∧ (gTs ty n1 q.2.2) ∧ (gEy ty 31 f qu cw q.2.2)) := by
                                  intro fu
                                  induction fu with
                                  | zero => intro h213 kz hm; exact absurd hm (Nat.not_lt_zero _)
                                  | succ fu ihlp210 =>
                                    intro h213 kz lp210m sh213 lp210f0 lp210k0 lp210k1 lp210k2 lp210k3 lp210k4 lp210k5 lp210k6 lp210k7 lp210k8 lp210k9 lp210k10
                                    refine gz_s 2 (pc' := 365) (L' := [some (.ref m), some (.int (zi qu)), some (.int (zi jn9v0)), some (.int (zi kz)), none]) (S' := [.int (zi 64), .int (zi kz)]) rfl ?_
                                    by_cases hc214 : (64 : Int) ≤ kz
                                    · refine gy_icT (pc' := 381) rfl (by decide) (by decide) (by omega) (by omega) hc214 ?_
                                      have hts : gTs ty 0 h213 := by
                                        have e9 := lp210k10
                                        rw [(by omega : kz = 64)] at e9
                                        exact gTs.anew lp210k8 lp210k9 e9
                                      have hoz215 : gOy ty 31 (-1) 64 h213 := by
                                        have e9 := lp210k10
                                        rw [(by omega : kz = 64)] at e9
                                        exact e9
                                      refine gz_s 1 (pc' := 382) (L' := [some (.ref m), some (.int (zi qu)), some (.int (zi jn9v0)), some (.int (zi kz)), none]) (S' := [.ref m]) rfl ?_
                                      refine gs_gtk rfl (by decide) rfl sh213.1 tm rfl rfl lp210k5 ?_
                                      have hey216 : gEy ty 31 f qu cw h213 := gEy.oy hoz215 ⟨by omega, by omega, by omega⟩
                                      exact gz_end (I := .ireturn) (len := 1) rfl (Or.inl rfl) ⟨sh213, fq188_0, 0, rfl, (by omega), (by omega), lp210k6, (by omega), (by omega), (by omega), (by omega), hts, hey216⟩
                                    · refine gy_icF rfl (by decide) (by decide) (by omega) (by omega) hc214 ?_
                                      obtain ⟨f9, rf9, z9⟩ := lp210k10
                                      refine gz_s 1 (pc' := 369) (L' := [some (.ref m), some (.int (zi qu)), some (.int (zi jn9v0)), some (.int (zi kz)), none]) (S' := [.ref m]) rfl ?_
                                      refine gs_gtr rfl (by decide) rfl sh213.1 tm rfl rfl rfl (fun c217 ec217 tc217 => ?_)
                                      refine gz_s 2 (pc' := 374) (L' := [some (.ref m), some (.int (zi qu)), some (.int (zi jn9v0)), some (.int (zi kz)), none]) (S' := [.int (zi (-1)), .int (zi kz), .ref c217]) rfl ?_
                                      have hl218 : 64 ≤ h213.2.2.2.1 c217 ∧ h213.2.2.2.1 c217 ≤ 64 := gJ.rowl (G := gGG) sh213.1 tc217 rfl
                                      refine gs_ast rfl (by decide) sh213 tc217 rfl rfl rfl (by decide) (fun _ => rfl) (by omega) (by omega) (fun _ => (by decide : (31999 : Nat) ∈ ([1000, 1053, 1059, 1061, 1062, 1064, 1067, 1074, 1075, 31999, 32999, 33999, 34999, 36999, 37999, 38999, 39999, 40999, 41999, 42999] : List Nat))) (by omega) (by omega) (fun h219 sh219 eh219 fh219 => ?_)
                                      have pr220 := gOt.pt fh219 tc217 (by decide) lp210k7
                                      have pr221 := gRow.pt fh219 tc217 (by decide) lp210k8
                                      have pr222 := gRow.pt fh219 tc217 (by decide) lp210k9
                                      have pr223 := gRow.put (i := kz) (z := (-1)) uq tc217 (by decide) fh219 eh219 (by omega) (by omega) rf9
                                      have s224 := (fh219 m 50 (fun q => absurd (((tm).symm.trans (congrArg ty q.1)).trans tc217) (by decide))).trans lp210k0
                                      have s225 := (fh219 m 51 (fun q => absurd (((tm).symm.trans (congrArg ty q.1)).trans tc217) (by decide))).trans lp210k1
                                      have s226 := (fh219 m 0 (fun q => absurd (((tm).symm.trans (congrArg ty q.1)).trans tc217) (by decide))).trans lp210k2
                                      have s227 := (fh219 m 52 (fun q => absurd (((tm).symm.trans (congrArg ty q.1)).trans tc217) (by decide))).trans lp210k3
                                      have s228 := (fh219 m 62 (fun q => absurd (((tm).symm.trans (congrArg ty q.1)).trans tc217) (by decide))).trans lp210k4
                                      have s229 := (fh219 m 59 (fun q => absurd (((tm).symm.trans (congrArg ty q.1)).trans tc217) (by decide))).trans lp210k5
                                      have s230 := (fh219 m 53 (fun q => absurd (((tm).symm.trans (congrArg ty q.1)).trans tc217) (by decide))).trans lp210k6
                                      have s231 := (fh219 m 58 (fun q => absurd (((tm).symm.trans (congrArg ty q.1)).trans tc217) (by decide))).trans ec217
                                      have pr232 := gEl.set (i := kz) (z := (-1)) uq tc217 (by decide) eh219 (by omega) (by omega)
                                      have hoz233 : gOz ty 31 (-1) (kz + 1) h219 := gOz.step (by omega) pr223 z9
                                      refine gy_s 2 (pc' := 362) (L' := [some (.ref m), some (.int (zi qu)), some (.int (zi jn9v0)), some (.int ((zi kz) + zi 1)), none]) (S' := []) (L2 := [some (.ref m), some (.int (zi qu)), some (.int (zi jn9v0)), some (.int (zi (kz + 1))), none]) (S2 := []) rfl (by simp only [zi_add, zi_sub, zi_mul, zi_neg, zi_and1, zi_and7, zi_and15, zi_and31, zi_and255]) (by simp only [zi_add, zi_sub, zi_mul, zi_neg, zi_and1, zi_and7, zi_and15, zi_and31, zi_and255]) ?_
                                      exact gz_wk (ihlp210 h219 (kz + 1) (by omega) sh219 (by omega) s224 s225 s226 s227 s228 s229 s230 pr220 pr221 pr222 hoz233) (gLw.s (gLw.s (gLw.s (gLw.s (gLw.n gLw.z)))))
                                exact gz_wk (lp210 _ h199 0 (Nat.lt_succ_self _) sh199 (by omega) s204 s205 s206 s207 s208 s209 eh199 pr201 pr202 pr203 hoz212) (gLw.s (gLw.s (gLw.s (gLw.s (gLw.n gLw.z)))))
                              · refine gy_icF rfl (by decide) (by decide) (by omega) (by omega) hc187 ?_
                                refine gz_s 2 (pc' := 316) (L' := [some (.ref m), some (.int (zi qu)), some (.int (zi jn9v0)), some (.int (zi k3)), none]) (S' := [.ref m, .ref m]) rfl ?_
                                refine gs_gtr rfl (by decide) rfl sh186.1 tm rfl rfl rfl (fun c234 ec234 tc234 => ?_)
                                refine gz_s 1 (pc' := 320) (L' := [some (.ref m), some (.int (zi qu)), some (.int (zi jn9v0)), some (.int (zi k3)), none]) (S' := [.int (zi k3), .ref c234, .ref m]) rfl ?_
                                have hl235 : 10 ≤ h186.2.2.2.1 c234 ∧ h186.2.2.2.1 c234 ≤ 10 := gJ.rowl (G := gGG) sh186.1 tc234 rfl
                                refine gs_ald rfl (by decide) sh186.1 tc234 rfl rfl rfl (by decide) (fun _ => rfl) (by omega) (by omega) (fun z236 ez236 az236 bz236 => ?_)
                                have hf237 := gRow.at (i := k3) (z := z236) lp185k9 tc234 ez236 (by omega) (by omega) (by omega)
                                refine gz_s 1 (pc' := 322) (L' := [some (.ref m), some (.int (zi qu)), some (.int (zi jn9v0)), some (.int (zi k3)), none]) (S' := [.ref m, .int (zi z236), .ref m]) rfl ?_
                                refine gs_gtr rfl (by decide) rfl sh186.1 tm rfl rfl rfl (fun c238 ec238 tc238 => ?_)
                                refine gz_s 1 (pc' := 326) (L' := [some (.ref m), some (.int (zi qu)), some (.int (zi jn9v0)), some (.int (zi k3)), none]) (S' := [.int (zi k3), .ref c238, .int (zi z236), .ref m]) rfl ?_
                                have hl239 : 10 ≤ h186.2.2.2.1 c238 ∧ h186.2.2.2.1 c238 ≤ 10 := gJ.rowl (G := gGG) sh186.1 tc238 rfl
                                refine gs_ald rfl (by decide) sh186.1 tc238 rfl rfl rfl (by decide) (fun _ => rfl) (by omega) (by omega) (fun z240 ez240 az240 bz240 => ?_)
                                have hf241 := gRow.at (i := k3) (z := z240) lp185k10 tc238 ez240 (by omega) (by omega) (by omega)
                                have hl1 := gTl_st (f := tf) (t := tt) (k := k3) (a := z236) (b := z240) (by omega) (by omega) (by omega)
                                have hl2 := gTl_le (f := tf) (t := tt) (k := k3 + 1) (n := n0) tle (by omega)
                                have hl3 := tle (k3).toNat (by omega)
                                refine gz_s 1 (pc' := 328) (L' := [some (.ref m), some (.int (zi qu)), some (.int (zi jn9v0)), some (.int (zi k3)), none]) (S' := [.ref m, .int (zi z240), .int (zi z236), .ref m]) rfl ?_
                                refine gs_gtr rfl (by decide) rfl sh186.1 tm rfl rfl rfl (fun c242 ec242 tc242 => ?_)
                                refine gz_s 1 (pc' := 332) (L' := [some (.ref m), some (.int (zi qu)), some (.int (zi jn9v0)), some (.int (zi k3)), none]) (S' := [.int (zi k3), .ref c242, .int (zi z240), .int (zi z236), .ref m]) rfl ?_
                                have hl243 : 10 ≤ h186.2.2.2.1 c242 ∧ h186.2.2.2.1 c242 ≤ 10 := gJ.rowl (G := gGG) sh186.1 tc242 rfl
                                refine gs_ald rfl (by decide) sh186.1 tc242 rfl rfl rfl (by decide) (fun _ => rfl) (by omega) (by omega) (fun z244 ez244 az244 bz244 => ?_)
                                refine gz_s 1 (pc' := 334) (L' := [some (.ref m), some (.int (zi qu)), some (.int (zi jn9v0)), some (.int (zi k3)), none]) (S' := [.ref m, .int (zi z244), .int (zi z240), .int (zi z236), .ref m]) rfl ?_
                                refine gs_gtr rfl (by decide) rfl sh186.1 tm rfl rfl rfl (fun c245 ec245 tc245 => ?_)
                                refine gz_s 1 (pc' := 338) (L' := [some (.ref m), some (.int (zi qu)), some (.int (zi jn9v0)), some (.int (zi k3)), none]) (S' := [.int (zi k3), .ref c245, .int (zi z244), .int (zi z240), .int (zi z236), .ref m]) rfl ?_
                                have hl246 : 10 ≤ h186.2.2.2.1 c245 ∧ h186.2.2.2.1 c245 ≤ 10 := gJ.rowl (G := gGG) sh186.1 tc245 rfl
                                refine gs_ald rfl (by decide) sh186.1 tc245 rfl rfl rfl (by decide) (fun _ => rfl) (by omega) (by omega) (fun z247 ez247 az247 bz247 => ?_)
                                refine gz_call rfl (by decide) rfl (by decide) (by decide) (gcal_of rfl rfl rfl (Nat.le_of_ble_eq_true rfl) (gJ.recv (G := gGG) sh186.1 tm rfl rfl)) (mm_putScan _ sh186.1 m tm z236 (by omega) z240 (by omega) z244 (by omega) z247 (by omega) wv lp185k5 (by omega) bv lp185k6 (by omega) (by omega) uq) (fun q248 _ wq248 => ?_)
                                obtain ⟨pq248, oq248, hq248⟩ := q248
                                obtain ⟨xq248, fq248_0, fq248_1, gq248, efq248_0, afq248_0, bfq248_0, efq248_1, afq248_1, bfq248_1, uq248_0, uq248_1⟩ := wq248
                                refine ⟨_, gq248, ?_⟩
                                show gz gPP gGG gcn _ _ 342 [some (.ref m), some (.int (zi qu)), some (.int (zi jn9v0)), some (.int (zi k3)), none] [] hq248 _
                                have sq248 := gSs.tr sh186 xq248 (by decide)
                                have s249 := (xq248.2.2.2.2.2 m 53 (by rw [tm]; decide)).trans lp185k0
                                have s250 := (xq248.2.2.2.2.2 m 50 (by rw [tm]; decide)).trans lp185k1
                                have s251 := (xq248.2.2.2.2.2 m 51 (by rw [tm]; decide)).trans lp185k2
                                have s252 := (xq248.2.2.2.2.2 m 0 (by rw [tm]; decide)).trans lp185k3
                                have s253 := (xq248.2.2.2.2.2 m 52 (by rw [tm]; decide)).trans lp185k4
                                have s254 := (xq248.2.2.2.2.2 m 54 (by rw [tm]; decide)).trans ec234
                                have s255 := (xq248.2.2.2.2.2 m 55 (by rw [tm]; decide)).trans ec238
                                have s256 := (xq248.2.2.2.2.2 m 56 (by rw [tm]; decide)).trans ec242
                                have s257 := (xq248.2.2.2.2.2 m 57 (by rw [tm]; decide)).trans ec245
                                have pr258 := gRow.fr xq248.2 (by decide) lp185k7
                                have pr259 := gOt.fr xq248.2 (by decide) lp185k8
                                have pr260 := gRow.fr xq248.2 (by decide) lp185k9
                                have pr261 := gRow.fr xq248.2 (by decide) lp185k10
                                refine gy_s 2 (pc' := 306) (L' := [some (.ref m), some (.int (zi qu)), some (.int (zi jn9v0)), some (.int ((zi k3) + zi 1)), none]) (S' := []) (L2 := [some (.ref m), some (.int (zi qu)), some (.int (zi jn9v0)), some (.int (zi (k3 + 1))), none]) (S2 := []) rfl (by simp only [zi_add, zi_sub, zi_mul, zi_neg, zi_and1, zi_and7, zi_and15, zi_and31, zi_and255]) (by simp only [zi_add, zi_sub, zi_mul, zi_neg, zi_and1, zi_and7, zi_and15, zi_and31, zi_and255]) ?_
                                exact gz_wk (ihlp185 hq248 (k3 + 1) fq248_0 fq248_1 (by omega) sq248 (by omega) (by omega) (by omega) (by omega) (by omega) (by omega) s249 s250 s251 s252 s253 efq248_0 efq248_1 pr258 pr259 pr260 pr261) (gLw.s (gLw.s (gLw.s (gLw.s (gLw.n gLw.z)))))
                          have hl9 : gTl tf tt 0 = 0 := rfl
                          exact gz_wk (lp185 _ hq172 0 fq172_0 0 (Nat.lt_succ_self _) sq172 (by omega) (by omega) (by omega) (by omega) (by omega) (by omega) s173 s174 s175 s176 ez182 efq172_0 s178 pr180 pr181 rf rt) (gLw.s (gLw.s (gLw.s (gLw.s (gLw.n gLw.z)))))
                        · refine gy_ifF rfl (by decide) (by decide) (by omega) hc184 ?_
                          refine gz_s 5 (pc' := 301) (L' := [some (.ref m), some (.int (zi qu)), some (.int (zi jn9v0)), some (.int (zi k1)), none]) (S' := [.int (zi 0), .int (zi 0), .int (zi 63), .int (zi 0), .ref m]) rfl ?_
                          refine gz_call rfl (by decide) rfl (by decide) (by decide) (gcal_of rfl rfl rfl (Nat.le_of_ble_eq_true rfl) (gJ.recv (G := gGG) sq172.1 tm rfl rfl)) (mm_putScan _ sq172.1 m tm 0 (by omega) 63 (by omega) 0 (by omega) 0 (by omega) fq172_0 efq172_0 (by omega) 0 s178 (by omega) (by omega) uq) (fun q262 _ wq262 => ?_)
                          obtain ⟨pq262, oq262, hq262⟩ := q262
                          obtain ⟨xq262, fq262_0, fq262_1, gq262, efq262_0, afq262_0, bfq262_0, efq262_1, afq262_1, bfq262_1, uq262_0, uq262_1⟩ := wq262
                          refine ⟨_, gq262, ?_⟩
                          show gz gPP gGG gcn _ _ 304 [some (.ref m), some (.int (zi qu)), some (.int (zi jn9v0)), some (.int (zi k1)), none] [] hq262 _
                          have sq262 := gSs.tr sq172 xq262 (by decide)
                          have s263 := (xq262.2.2.2.2.2 m 53 (by rw [tm]; decide)).trans s173
                          have s264 := (xq262.2.2.2.2.2 m 50 (by rw [tm]; decide)).trans s174
                          have s265 := (xq262.2.2.2.2.2 m 51 (by rw [tm]; decide)).trans s175
                          have s266 := (xq262.2.2.2.2.2 m 0 (by rw [tm]; decide)).trans s176
                          have s267 := (xq262.2.2.2.2.2 m 52 (by rw [tm]; decide)).trans ez182
                          have pr268 := gRow.fr xq262.2 (by decide) pr180
                          have pr269 := gOt.fr xq262.2 (by decide) pr181
                          have pr270 := gRow.fr xq262.2 (by decide) rf
                          have pr271 := gRow.fr xq262.2 (by decide) rt
                          refine gz_s 2 (pc' := 306) (L' := [some (.ref m), some (.int (zi qu)), some (.int (zi jn9v0)), some (.int (zi 0)), none]) (S' := []) rfl ?_
                          have lp272 : ∀ (fu : Nat) (h273 : gH) (k3 : Int) (wv : Int) (bv : Int), (11 - k3).toNat < fu → gSs rT 1027 ty [1000, 1053, 1059, 1061, 1062, 1064, 1067, 1074, 1075, 31999, 32999, 33999, 34999, 36999, 37999, 38999, 39999, 40999, 41999, 42999] h h273 → (0 ≤ k3 ∧ k3 ≤ 10) → (0 ≤ wv ∧ wv ≤ 60000) → (0 ≤ bv ∧ bv ≤ 0) → (n0 = 0 ∨ (4 * wv ≤ 1000 + 560 * gTl tf tt k3 + 3468 * k3)) → (n0 = 0 → (k3 = 0 ∧ wv ≤ 45000)) → (k3 ≤ n0) → h273.2.2.2.2 m 53 = .int (zi n0) → h273.2.2.2.2 m 50 = .int (zi cw) → h273.2.2.2.2 m 51 = .int (zi ch) → h273.2.2.2.2 m 0 = .int (zi jn1v0) → h273.2.2.2.2 m 52 = .int (zi z182) → h273.2.2.2.2 m 59 = .int (zi wv) → h273.2.2.2.2 m 62 = .int (zi bv) → gRow ty 31 f h273 → gOt ty 64 h273 → gRow ty 27 tf h273 → gRow ty 28 tt h273 → gz gPP gGG gcn (d + 6) gt183 306 [some (.ref m), some (.int (zi qu)), some (.int (zi jn9v0)), some (.int (zi k3)), none] [] h273 (fun q _ => gSs rT 1027 ty [1000, 1053, 1059, 1061, 1062, 1064, 1067, 1074, 1075, 31999, 32999, 33999, 34999, 36999, 37999, 38999, 39999, 40999, 41999, 42999] h q.2.2 ∧ ∃ z n1 : Int, gfin gt183 q.1 q.2.1 = some (some (.int (zi z))) ∧ 0 ≤ z ∧ z ≤ 60000 ∧ q.2.2.2.2.2.2 m 53 = .int (zi n1) ∧ 0 ≤ n1 ∧ n1 ≤ 10 ∧ ((1 ≤ qu ∧ qu ≤ 100 ∧ 1 ≤ cw) → n1 = 0) ∧ (¬ (1 ≤ qu ∧ qu ≤ 100 ∧ 1 ≤ cw) → n1 = n0) ∧ (gTs ty n1 q.2.2) ∧ (gEy ty 31 f qu cw q.2.2)) := by
                            intro fu
                            induction fu with
                            | zero => intro h273 k3 wv bv hm; exact absurd hm (Nat.not_lt_zero _)
                            | succ fu ihlp272 =>
                              intro h273 k3 wv bv lp272m sh273 lp272f0 lp272f1 lp272f2 lp272f3 lp272f4 lp272f5 lp272k0 lp272k1 lp272k2 lp272k3 lp272k4 lp272k5 lp272k6 lp272k7 lp272k8 lp272k9 lp272k10
                              have hl0 := gTl_le (f := tf) (t := tt) (k := k3) (n := n0) tle
                              refine gz_s 2 (pc' := 308) (L' := [some (.ref m), some (.int (zi qu)), some (.int (zi jn9v0)), some (.int (zi k3)), none]) (S' := [.ref m, .int (zi k3)]) rfl ?_
                              refine gs_gtk rfl (by decide) rfl sh273.1 tm rfl rfl lp272k0 ?_
                              refine gy_icT (pc' := 348) rfl (by decide) (by decide) (by omega) (by omega) (by first | (simp [zc]; done) | (simp only [zc]; omega)) ?_
                              refine gz_s 2 (pc' := 352) (L' := [some (.ref m), some (.int (zi qu)), some (.int (zi jn9v0)), some (.int (zi k3)), none]) (S' := [.int (zi 217), .ref m]) rfl ?_
                              refine gz_call rfl (by decide) rfl (by decide) (by decide) (gcal_of rfl rfl rfl (Nat.le_of_ble_eq_true rfl) (gJ.recv (G := gGG) sh273.1 tm rfl rfl)) (mm_putMarker _ sh273.1 m tm 217 (by omega) wv lp272k5 (by omega)) (fun q274 _ wq274 => ?_)
                              obtain ⟨pq274, oq274, hq274⟩ := q274
                              obtain ⟨xq274, fq274_0, gq274, efq274_0, afq274_0, bfq274_0, uq274_0⟩ := wq274
                              refine ⟨_, gq274, ?_⟩
                              show gz gPP gGG gcn _ _ 355 [some (.ref m), some (.int (zi qu)), some (.int (zi jn9v0)), some (.int (zi k3)), none] [] hq274 _
                              have sq274 := gSs.tr sh273 xq274 (by decide)
                              have s275 := (xq274.2.2.2.2.2 m 53 (by rw [tm]; decide)).trans lp272k0
                              have s276 := (xq274.2.2.2.2.2 m 50 (by rw [tm]; decide)).trans lp272k1
                              have s277 := (xq274.2.2.2.2.2 m 51 (by rw [tm]; decide)).trans lp272k2
                              have s278 := (xq274.2.2.2.2.2 m 0 (by rw [tm]; decide)).trans lp272k3
                              have s279 := (xq274.2.2.2.2.2 m 52 (by rw [tm]; decide)).trans lp272k4
                              have s280 := (xq274.2.2.2.2.2 m 62 (by rw [tm]; decide)).trans lp272k6
                              have pr281 := gRow.fr xq274.2 (by decide) lp272k7
                              have pr282 := gOt.fr xq274.2 (by decide) lp272k8
                              have pr283 := gRow.fr xq274.2 (by decide) lp272k9
                              have pr284 := gRow.fr xq274.2 (by decide) lp272k10
                              refine gz_s 2 (pc' := 357) (L' := [some (.ref m), some (.int (zi qu)), some (.int (zi jn9v0)), some (.int (zi k3)), none]) (S' := [.int (zi 0), .ref m]) rfl ?_
                              refine gs_put rfl (by decide) rfl sq274 tm rfl rfl rfl rfl (Or.inl rfl) (by decide) (by omega) (by omega) (fun h285 sh285 eh285 fh285 => ?_)
                              have pr286 := gRow.pt fh285 tm (by decide) pr281
                              have pr287 := gOt.pt fh285 tm (by decide) pr282
                              have pr288 := gRow.pt fh285 tm (by decide) pr283
                              have pr289 := gRow.pt fh285 tm (by decide) pr284
                              have s290 := (fh285 m 50 (fun q => absurd q.2 (by decide))).trans s276
                              have s291 := (fh285 m 51 (fun q => absurd q.2 (by decide))).trans s277
                              have s292 := (fh285 m 0 (fun q => absurd q.2 (by decide))).trans s278
                              have s293 := (fh285 m 52 (fun q => absurd q.2 (by decide))).trans s279
                              have s294 := (fh285 m 62 (fun q => absurd q.2 (by decide))).trans s280
                              have s295 := (fh285 m 59 (fun q => absurd q.2 (by decide))).trans efq274_0
                              refine gz_s 2 (pc' := 362) (L' := [some (.ref m), some (.int (zi qu)), some (.int (zi jn9v0)), some (.int (zi 0)), none]) (S' := []) rfl ?_
                              obtain ⟨c297, ec297, tc297⟩ := gJ.ref (k := 58) (G := gGG) sh285.1 tm rfl rfl rfl
                              have hoz298 : gOz ty 31 (-1) 0 h285 := ⟨_, gRow.mk uq tc297 (by decide) (fun _ => rfl), fun j hj => absurd hj (by omega)⟩
                              have lp296 : ∀ (fu : Nat) (h299 : gH) (kz : Int), (65 - kz).toNat < fu → gSs rT 1027 ty [1000, 1053, 1059, 1061, 1062, 1064, 1067, 1074, 1075, 31999, 32999, 33999, 34999, 36999, 37999, 38999, 39999, 40999, 41999, 42999] h h299 → (0 ≤ kz ∧ kz ≤ 64) → h299.2.2.2.2 m 50 = .int (zi cw) → h299.2.2.2.2 m 51 = .int (zi ch) → h299.2.2.2.2 m 0 = .int (zi jn1v0) → h299.2.2.2.2 m 52 = .int (zi z182) → h299.2.2.2.2 m 62 = .int (zi bv) → h299.2.2.2.2 m 59 = .int (zi fq274_0) → h299.2.2.2.2 m 53 = .int (zi 0) → gOt ty 64 h299 → gRow ty 27 tf h299 → gRow ty 28 tt h299 → gOz ty 31 (-1) kz h299 → gz gPP gGG gcn (d + 6) gt183 362 [some (.ref m), some (.int (zi qu)), some (.int (zi jn9v0)), some (.int (zi kz)), none] [] h299 (fun q _ => gSs rT 1027 ty [1000, 1053, 1059, 1061, 1062, 1064, 1067, 1074, 1075, 31999, 32999, 33999, 34999, 36999, 37999, 38999, 39999, 40999, 41999, 42999] h q.2.2 ∧ ∃ z n1 : Int, gfin gt183 q.1 q.2.1 = some (some (.int (zi z))) ∧ 0 ≤ z ∧ z ≤ 60000 ∧ q.2.2.2.2.2.2 m 53 = .int (zi n1) ∧ 0 ≤ n1 ∧ n1 ≤ 10 ∧ ((1 ≤ qu ∧ qu ≤ 100 ∧ 1 ≤ cw) → n1 = 0) ∧ (¬ (1 ≤ qu ∧ qu ≤ 100 ∧ 1 ≤ cw) → n1 = n0) ∧ (gTs ty n1 q.2.2) ∧ (gEy ty 31 f qu cw q.2.2)) := by
                                intro fu
                                induction fu with
                                | zero => intro h299 kz hm; exact absurd hm (Nat.not_lt_zero _)
                                | succ fu ihlp296 =>
                                  intro h299 kz lp296m sh299 lp296f0 lp296k0 lp296k1 lp296k2 lp296k3 lp296k4 lp296k5 lp296k6 lp296k7 lp296k8 lp296k9 lp296k10
                                  refine gz_s 2 (pc' := 365) (L' := [some (.ref m), some (.int (zi qu)), some (.int (zi jn9v0)), some (.int (zi kz)), none]) (S' := [.int (zi 64), .int (zi kz)]) rfl ?_
                                  by_cases hc300 : (64 : Int) ≤ kz
                                  · refine gy_icT (pc' := 381) rfl (by decide) (by decide) (by omega) (by omega) hc300 ?_
                                    have hts : gTs ty 0 h299 := by
                                      have e9 := lp296k10
                                      rw [(by omega : kz = 64)] at e9
                                      exact gTs.anew lp296k8 lp296k9 e9
                                    have hoz301 : gOy ty 31 (-1) 64 h299 := by
                                      have e9 := lp296k10
                                      rw [(by omega : kz = 64)] at e9
                                      exact e9
                                    refine gz_s 1 (pc' := 382) (L' := [some (.ref m), some (.int (zi qu)), some (.int (zi jn9v0)), some (.int (zi kz)), none]) (S' := [.ref m]) rfl ?_
                                    refine gs_gtk rfl (by decide) rfl sh299.1 tm rfl rfl lp296k5 ?_
                                    have hey302 : gEy ty 31 f qu cw h299 := gEy.oy hoz301 ⟨by omega, by omega, by omega⟩
                                    exact gz_end (I := .ireturn) (len := 1) rfl (Or.inl rfl) ⟨sh299, fq274_0, 0, rfl, (by omega), (by omega), lp296k6, (by omega), (by omega), (by omega), (by omega), hts, hey302⟩
                                  · refine gy_icF rfl (by decide) (by decide) (by omega) (by omega) hc300 ?_
                                    obtain ⟨f9, rf9, z9⟩ := lp296k10
                                    refine gz_s 1 (pc' := 369) (L' := [some (.ref m), some (.int (zi qu)), some (.int (zi jn9v0)), some (.int (zi kz)), none]) (S' := [.ref m]) rfl ?_
                                    refine gs_gtr rfl (by decide) rfl sh299.1 tm rfl rfl rfl (fun c303 ec303 tc303 => ?_)
                                    refine gz_s 2 (pc' := 374) (L' := [some (.ref m), some (.int (zi qu)), some (.int (zi jn9v0)), some (.int (zi kz)), none]) (S' := [.int (zi (-1)), .int (zi kz), .ref c303]) rfl ?_
                                    have hl304 : 64 ≤ h299.2.2.2.1 c303 ∧ h299.2.2.2.1 c303 ≤ 64 := gJ.rowl (G := gGG) sh299.1 tc303 rfl
                                    refine gs_ast rfl (by decide) sh299 tc303 rfl rfl rfl (by decide) (fun _ => rfl) (by omega) (by omega) (fun _ => (by decide : (31999 : Nat) ∈ ([1000, 1053, 1059, 1061, 1062, 1064, 1067, 1074, 1075, 31999, 32999, 33999, 34999, 36999, 37999, 38999, 39999, 40999, 41999, 42999] : List Nat))) (by omega) (by omega) (fun h305 sh305 eh305 fh305 => ?_)
                                    have pr306 := gOt.pt fh305 tc303 (by decide) lp296k7
                                    have pr307 := gRow.pt fh305 tc303 (by decide) lp296k8
                                    have pr308 := gRow.pt fh305 tc303 (by decide) lp296k9
                                    have pr309 := gRow.put (i := kz) (z := (-1)) uq tc303 (by decide) fh305 eh305 (by omega) (by omega) rf9
                                    have s310 := (fh305 m 50 (fun q => absurd (((tm).symm.trans (congrArg ty q.1)).trans tc303) (by decide))).trans lp296k0
                                    have s311 := (fh305 m 51 (fun q => absurd (((tm).symm.trans (congrArg ty q.1)).trans tc303) (by decide))).trans lp296k1
                                    have s312 := (fh305 m 0 (fun q => absurd (((tm).symm.trans (congrArg ty q.1)).trans tc303) (by decide))).trans lp296k2
                                    have s313 := (fh305 m 52 (fun q => absurd (((tm).symm.trans (congrArg ty q.1)).trans tc303) (by decide))).trans lp296k3
                                    have s314 := (fh305 m 62 (fun q => absurd (((tm).symm.trans (congrArg ty q.1)).trans tc303) (by decide))).trans lp296k4
                                    have s315 := (fh305 m 59 (fun q => absurd (((tm).symm.trans (congrArg ty q.1)).trans tc303) (by decide))).trans lp296k5
                                    have s316 := (fh305 m 53 (fun q => absurd (((tm).symm.trans (congrArg ty q.1)).trans tc303) (by decide))).trans lp296k6
                                    have s317 := (fh305 m 58 (fun q => absurd (((tm).symm.trans (congrArg ty q.1)).trans tc303) (by decide))).trans ec303
                                    have pr318 := gEl.set (i := kz) (z := (-1)) uq tc303 (by decide) eh305 (by omega) (by omega)
                                    have hoz319 : gOz ty 31 (-1) (kz + 1) h305 := gOz.step (by omega) pr309 z9
                                    refine gy_s 2 (pc' := 362) (L' := [some (.ref m), some (.int (zi qu)), some (.int (zi jn9v0)), some (.int ((zi kz) + zi 1)), none]) (S' := []) (L2 := [some (.ref m), some (.int (zi qu)), some (.int (zi jn9v0)), some (.int (zi (kz + 1))), none]) (S2 := []) rfl (by simp only [zi_add, zi_sub, zi_mul, zi_neg, zi_and1, zi_and7, zi_and15, zi_and31, zi_and255]) (by simp only [zi_add, zi_sub, zi_mul, zi_neg, zi_and1, zi_and7, zi_and15, zi_and31, zi_and255]) ?_
                                    exact gz_wk (ihlp296 h305 (kz + 1) (by omega) sh305 (by omega) s310 s311 s312 s313 s314 s315 s316 pr306 pr307 pr308 hoz319) (gLw.s (gLw.s (gLw.s (gLw.s (gLw.n gLw.z)))))
                              exact gz_wk (lp296 _ h285 0 (Nat.lt_succ_self _) sh285 (by omega) s290 s291 s292 s293 s294 s295 eh285 pr287 pr288 pr289 hoz298) (gLw.s (gLw.s (gLw.s (gLw.s (gLw.n gLw.z)))))
                          have hl9 : gTl tf tt 0 = 0 := rfl
                          exact gz_wk (lp272 _ hq262 0 fq262_0 fq262_1 (Nat.lt_succ_self _) sq262 (by omega) (by omega) (by omega) (by omega) (by omega) (by omega) s263 s264 s265 s266 s267 efq262_0 efq262_1 pr268 pr269 pr270 pr271) (gLw.s (gLw.s (gLw.s (gLw.s (gLw.n gLw.z)))))
                      · refine gy_ifF rfl (by decide) (by decide) (by omega) hc183 ?_
                        refine gz_s 2 (pc' := 272) (L' := [some (.ref m), some (.int (zi qu)), some (.int (zi jn9v0)), some (.int (zi k1)), none]) (S' := [.int (zi 221), .ref m]) rfl ?_
                        refine gz_call rfl (by decide) rfl (by decide) (by decide) (gcal_of rfl rfl rfl (Nat.le_of_ble_eq_true rfl) (gJ.recv (G := gGG) sq172.1 tm rfl rfl)) (mm_putMarker _ sq172.1 m tm 221 (by omega) fq172_0 efq172_0 (by omega)) (fun q320 _ wq320 => ?_)
                        obtain ⟨pq320, oq320, hq320⟩ := q320
                        obtain ⟨xq320, fq320_0, gq320, efq320_0, afq320_0, bfq320_0, uq320_0⟩ := wq320
                        refine ⟨_, gq320, ?_⟩
                        show gz gPP gGG gcn _ _ 275 [some (.ref m), some (.int (zi qu)), some (.int (zi jn9v0)), some (.int (zi k1)), none] [] hq320 _
                        have sq320 := gSs.tr sq172 xq320 (by decide)
                        have s321 := (xq320.2.2.2.2.2 m 53 (by rw [tm]; decide)).trans s173
                        have s322 := (xq320.2.2.2.2.2 m 50 (by rw [tm]; decide)).trans s174
                        have s323 := (xq320.2.2.2.2.2 m 51 (by rw [tm]; decide)).trans s175
                        have s324 := (xq320.2.2.2.2.2 m 0 (by rw [tm]; decide)).trans s176
                        have s325 := (xq320.2.2.2.2.2 m 61 (by rw [tm]; decide)).trans s177
                        have s326 := (xq320.2.2.2.2.2 m 62 (by rw [tm]; decide)).trans s178
                        have s327 := (xq320.2.2.2.2.2 m 52 (by rw [tm]; decide)).trans ez182
                        have pr328 := gTs.fr xq320.2 (by decide) pr179
                        have pr329 := gRow.fr xq320.2 (by decide) pr180
                        have pr330 := gOt.fr xq320.2 (by decide) pr181
                        refine gz_s 2 (pc' := 277) (L' := [some (.ref m), some (.int (zi qu)), some (.int (zi jn9v0)), some (.int (zi k1)), none]) (S' := [.int (zi 4), .ref m]) rfl ?_
                        refine gz_call rfl (by decide) rfl (by decide) (by decide) (gcal_of rfl rfl rfl (Nat.le_of_ble_eq_true rfl) (gJ.recv (G := gGG) sq320.1 tm rfl rfl)) (mm_putTwo _ sq320.1 m tm 4 (by omega) fq320_0 efq320_0 (by omega)) (fun q331 _ wq331 => ?_)
                        obtain ⟨pq331, oq331, hq331⟩ := q331
                        obtain ⟨xq331, fq331_0, gq331, efq331_0, afq331_0, bfq331_0, uq331_0⟩ := wq331
                        refine ⟨_, gq331, ?_⟩
                        show gz gPP gGG gcn _ _ 280 [some (.ref m), some (.int (zi qu)), some (.int (zi jn9v0)), some (.int (zi k1)), none] [] hq331 _
                        have sq331 := gSs.tr sq320 xq331 (by decide)
                        have s332 := (xq331.2.2.2.2.2 m 53 (by rw [tm]; decide)).trans s321
                        have s333 := (xq331.2.2.2.2.2 m 50 (by rw [tm]; decide)).trans s322
                        have s334 := (xq331.2.2.2.2.2 m 51 (by rw [tm]; decide)).trans s323
                        have s335 := (xq331.2.2.2.2.2 m 0 (by rw [tm]; decide)).trans s324
                        have s336 := (xq331.2.2.2.2.2 m 61 (by rw [tm]; decide)).trans s325
                        have s337 := (xq331.2.2.2.2.2 m 62 (by rw [tm]; decide)).trans s326
                        have s338 := (xq331.2.2.2.2.2 m 52 (by rw [tm]; decide)).trans s327
                        have pr339 := gTs.fr xq331.2 (by decide) pr328
                        have pr340 := gRow.fr xq331.2 (by decide) pr329
                        have pr341 := gOt.fr xq331.2 (by decide) pr330
                        refine gz_s 2 (pc' := 282) (L' := [some (.ref m), some (.int (zi qu)), some (.int (zi jn9v0)), some (.int (zi k1)), none]) (S' := [.ref m, .ref m]) rfl ?_
                        refine gs_gtk rfl (by decide) rfl sq331.1 tm rfl rfl s338 ?_
                        refine gz_call rfl (by decide) rfl (by decide) (by decide) (gcal_of rfl rfl rfl (Nat.le_of_ble_eq_true rfl) (gJ.recv (G := gGG) sq331.1 tm rfl rfl)) (mm_putTwo _ sq331.1 m tm z182 (by omega) fq331_0 efq331_0 (by omega)) (fun q342 _ wq342 => ?_)
                        obtain ⟨pq342, oq342, hq342⟩ := q342
                        obtain ⟨xq342, fq342_0, gq342, efq342_0, afq342_0, bfq342_0, uq342_0⟩ := wq342
                        refine ⟨_, gq342, ?_⟩
                        show gz gPP gGG gcn _ _ 288 [some (.ref m), some (.int (zi qu)), some (.int (zi jn9v0)), some (.int (zi k1)), none] [] hq342 _
                        have sq342 := gSs.tr sq331 xq342 (by decide)
                        have s343 := (xq342.2.2.2.2.2 m 53 (by rw [tm]; decide)).trans s332
                        have s344 := (xq342.2.2.2.2.2 m 50 (by rw [tm]; decide)).trans s333
                        have s345 := (xq342.2.2.2.2.2 m 51 (by rw [tm]; decide)).trans s334
                        have s346 := (xq342.2.2.2.2.2 m 0 (by rw [tm]; decide)).trans s335
                        have s347 := (xq342.2.2.2.2.2 m 61 (by rw [tm]; decide)).trans s336
                        have s348 := (xq342.2.2.2.2.2 m 62 (by rw [tm]; decide)).trans s337
                        have s349 := (xq342.2.2.2.2.2 m 52 (by rw [tm]; decide)).trans s338
                        have pr350 := gTs.fr xq342.2 (by decide) pr339
                        have pr351 := gRow.fr xq342.2 (by decide) pr340
                        have pr352 := gOt.fr xq342.2 (by decide) pr341
                        obtain ⟨tf, tt, cf, rf, rt, rc, tle, tsm⟩ := pr350
                        have tsn : 0 ≤ gsf (fun j => gcr (cf j)) 64 := gsf_nn (fun j => gcr_nn) 64
                        refine gz_s 1 (pc' := 289) (L' := [some (.ref m), some (.int (zi qu)), some (.int (zi jn9v0)), some (.int (zi k1)), none]) (S' := [.ref m]) rfl ?_
                        refine gs_gtk rfl (by decide) rfl sq342.1 tm rfl rfl s343 ?_
                        by_cases hc353 : ¬ (n0 : Int) = 0
                        · refine gy_ifT (pc' := 304) rfl (by decide) (by decide) (by omega) hc353 ?_
                          refine gz_s 2 (pc' := 306) (L' := [some (.ref m), some (.int (zi qu)), some (.int (zi jn9v0)), some (.int (zi 0)), none]) (S' := []) rfl ?_
                          have lp354 : ∀ (fu : Nat) (h355 : gH) (k3 : Int) (wv : Int) (bv : Int), (11 - k3).toNat < fu → gSs rT 1027 ty [1000, 1053, 1059, 1061, 1062, 1064, 1067, 1074, 1075, 31999, 32999, 33999, 34999, 36999, 37999, 38999, 39999, 40999, 41999, 42999] h h355 → (0 ≤ k3 ∧ k3 ≤ 10) → (0 ≤ wv ∧ wv ≤ 60000) → (0 ≤ bv ∧ bv ≤ 0) → (n0 = 0 ∨ (4 * wv ≤ 1000 + 560 * gTl tf tt k3 + 3468 * k3)) → (n0 = 0 → (k3 = 0 ∧ wv ≤ 45000)) → (k3 ≤ n0) → h355.2.2.2.2 m 53 = .int (zi n0) → h355.2.2.2.2 m 50 = .int (zi cw) → h355.2.2.2.2 m 51 = .int (zi ch) → h355.2.2.2.2 m 0 = .int (zi jn1v0) → h355.2.2.2.2 m 52 = .int (zi z182) → h355.2.2.2.2 m 59 = .int (zi wv) → h355.2.2.2.2 m 62 = .int (zi bv) → gRow ty 31 f h355 → gOt ty 64 h355 → gRow ty 27 tf h355 → gRow ty 28 tt h355 → gz gPP gGG gcn (d + 6) gt183 306 [some (.ref m), some (.int (zi qu)), some (.int (zi jn9v0)), some (.int (zi k3)), none] [] h355 (fun q _ => gSs rT 1027 ty [1000, 1053, 1059, 1061, 1062, 1064, 1067, 1074, 1075, 31999, 32999, 33999, 34999, 36999, 37999, 38999, 39999, 40999, 41999, 42999] h q.2.2 ∧ ∃ z n1 : Int, gfin gt183 q.1 q.2.1 = some (some (.int (zi z))) ∧ 0 ≤ z ∧ z ≤ 60000 ∧ q.2.2.2.2.2.2 m 53 = .int (zi n1) ∧ 0 ≤ n1 ∧ n1 ≤ 10 ∧ ((1 ≤ qu ∧ qu ≤ 100 ∧ 1 ≤ cw) → n1 = 0) ∧ (¬ (1 ≤ qu ∧ qu ≤ 100 ∧ 1 ≤ cw) → n1 = n0) ∧ (gTs ty n1 q.2.2) ∧ (gEy ty 31 f qu cw q.2.2)) := by
                            intro fu
                            induction fu with
                            | zero => intro h355 k3 wv bv hm; exact absurd hm (Nat.not_lt_zero _)
                            | succ fu ihlp354 =>
                              intro h355 k3 wv bv lp354m sh355 lp354f0 lp354f1 lp354f2 lp354f3 lp354f4 lp354f5 lp354k0 lp354k1 lp354k2 lp354k3 lp354k4 lp354k5 lp354k6 lp354k7 lp354k8 lp354k9 lp354k10
                              have hl0 := gTl_le (f := tf) (t := tt) (k := k3) (n := n0) tle
                              refine gz_s 2 (pc' := 308) (L' := [some (.ref m), some (.int (zi qu)), some (.int (zi jn9v0)), some (.int (zi k3)), none]) (S' := [.ref m, .int (zi k3)]) rfl ?_
                              refine gs_gtk rfl (by decide) rfl sh355.1 tm rfl rfl lp354k0 ?_
                              by_cases hc356 : (n0 : Int) ≤ k3
                              · refine gy_icT (pc' := 348) rfl (by decide) (by decide) (by omega) (by omega) hc356 ?_
                                refine gz_s 2 (pc' := 352) (L' := [some (.ref m), some (.int (zi qu)), some (.int (zi jn9v0)), some (.int (zi k3)), none]) (S' := [.int (zi 217), .ref m]) rfl ?_
                                refine gz_call rfl (by decide) rfl (by decide) (by decide) (gcal_of rfl rfl rfl (Nat.le_of_ble_eq_true rfl) (gJ.recv (G := gGG) sh355.1 tm rfl rfl)) (mm_putMarker _ sh355.1 m tm 217 (by omega) wv lp354k5 (by omega)) (fun q357 _ wq357 => ?_)
                                obtain ⟨pq357, oq357, hq357⟩ := q357
                                obtain ⟨xq357, fq357_0, gq357, efq357_0, afq357_0, bfq357_0, uq357_0⟩ := wq357
                                refine ⟨_, gq357, ?_⟩
                                show gz gPP gGG gcn _ _ 355 [some (.ref m), some (.int (zi qu)), some (.int (zi jn9v0)), some (.int (zi k3)), none] [] hq357 _
                                have sq357 := gSs.tr sh355 xq357 (by decide)
                                have s358 := (xq357.2.2.2.2.2 m 53 (by rw [tm]; decide)).trans lp354k0
                                have s359 := (xq357.2.2.2.2.2 m 50 (by rw [tm]; decide)).trans lp354k1
                                have s360 := (xq357.2.2.2.2.2 m 51 (by rw [tm]; decide)).trans lp354k2
                                have s361 := (xq357.2.2.2.2.2 m 0 (by rw [tm]; decide)).trans lp354k3
                                have s362 := (xq357.2.2.2.2.2 m 52 (by rw [tm]; decide)).trans lp354k4
                                have s363 := (xq357.2.2.2.2.2 m 62 (by rw [tm]; decide)).trans lp354k6
                                have pr364 := gRow.fr xq357.2 (by decide) lp354k7
                                have pr365 := gOt.fr xq357.2 (by decide) lp354k8
                                have pr366 := gRow.fr xq357.2 (by decide) lp354k9
                                have pr367 := gRow.fr xq357.2 (by decide) lp354k10
                                refine gz_s 2 (pc' := 357) (L' := [some (.ref m), some (.int (zi qu)), some (.int (zi jn9v0)), some (.int (zi k3)), none]) (S' := [.int (zi 0), .ref m]) rfl ?_
                                refine gs_put rfl (by decide) rfl sq357 tm rfl rfl rfl rfl (Or.inl rfl) (by decide) (by omega) (by omega) (fun h368 sh368 eh368 fh368 => ?_)
                                have pr369 := gRow.pt fh368 tm (by decide) pr364
                                have pr370 := gOt.pt fh368 tm (by decide) pr365
                                have pr371 := gRow.pt fh368 tm (by decide) pr366
                                have pr372 := gRow.pt fh368 tm (by decide) pr367
                                have s373 := (fh368 m 50 (fun q => absurd q.2 (by decide))).trans s359
                                have s374 := (fh368 m 51 (fun q => absurd q.2 (by decide))).trans s360
                                have s375 := (fh368 m 0 (fun q => absurd q.2 (by decide))).trans s361
                                have s376 := (fh368 m 52 (fun q => absurd q.2 (by decide))).trans s362
                                have s377 := (fh368 m 62 (fun q => absurd q.2 (by decide))).trans s363
                                have s378 := (fh368 m 59 (fun q => absurd q.2 (by decide))).trans efq357_0
                                refine gz_s 2 (pc' := 362) (L' := [some (.ref m), some (.int (zi qu)), some (.int (zi jn9v0)), some (.int (zi 0)), none]) (S' := []) rfl ?_
                                obtain ⟨c380, ec380, tc380⟩ := gJ.ref (k := 58) (G := gGG) sh368.1 tm rfl rfl rfl
                                have hoz381 : gOz ty 31 (-1) 0 h368 := ⟨_, gRow.mk uq tc380 (by decide) (fun _ => rfl), fun j hj => absurd hj (by omega)⟩
                                have lp379 : ∀ (fu : Nat) (h382 : gH) (kz : Int), (65 - kz).toNat < fu → gSs rT 1027 ty [1000, 1053, 1059, 1061, 1062, 1064, 1067, 1074, 1075, 31999, 32999, 33999, 34999, 36999, 37999, 38999, 39999, 40999, 41999, 42999] h h382 → (0 ≤ kz ∧ kz ≤ 64) → h382.2.2.2.2 m 50 = .int (zi cw) → h382.2.2.2.2 m 51 = .int (zi ch) → h382.2.2.2.2 m 0 = .int (zi jn1v0) → h382.2.2.2.2 m 52 = .int (zi z182) → h382.2.2.2.2 m 62 = .int (zi bv) → h382.2.2.2.2 m 59 = .int (zi fq357_0) → h382.2.2.2.2 m 53 = .int (zi 0) → gOt ty 64 h382 → gRow ty 27 tf h382 → gRow ty 28 tt h382 → gOz ty 31 (-1) kz h382 → gz gPP gGG gcn (d + 6) gt183 362 [some (.ref m), some (.int (zi qu)), some (.int (zi jn9v0)), some (.int (zi kz)), none] [] h382 (fun q _ => gSs rT 1027 ty [1000, 1053, 1059, 1061, 1062, 1064, 1067, 1074, 1075, 31999, 32999, 33999, 34999, 36999, 37999, 38999, 39999, 40999, 41999, 42999] h q.2.2 ∧ ∃ z n1 : Int, gfin gt183 q.1 q.2.1 = some (some (.int (zi z))) ∧ 0 ≤ z ∧ z ≤ 60000 ∧ q.2.2.2.2.2.2 m 53 = .int (zi n1) ∧ 0 ≤ n1 ∧ n1 ≤ 10 ∧ ((1 ≤ qu ∧ qu ≤ 100 ∧ 1 ≤ cw) → n1 = 0) ∧ (¬ (1 ≤ qu ∧ qu ≤ 100 ∧ 1 ≤ cw) → n1 = n0) ∧ (gTs ty n1 q.2.2) ∧ (gEy ty 31 f qu cw q.2.2)) := by
                                  intro fu
                                  induction fu with
                                  | zero => intro h382 kz hm; exact absurd hm (Nat.not_lt_zero _)
                                  | succ fu ihlp379 =>
                                    intro h382 kz lp379m sh382 lp379f0 lp379k0 lp379k1 lp379k2 lp379k3 lp379k4 lp379k5 lp379k6 lp379k7 lp379k8 lp379k9 lp379k10
                                    refine gz_s 2 (pc' := 365) (L' := [some (.ref m), some (.int (zi qu)), some (.int (zi jn9v0)), some (.int (zi kz)), none]) (S' := [.int (zi 64), .int (zi kz)]) rfl ?_
                                    by_cases hc383 : (64 : Int) ≤ kz
                                    · refine gy_icT (pc' := 381) rfl (by decide) (by decide) (by omega) (by omega) hc383 ?_
                                      have hts : gTs ty 0 h382 := by
                                        have e9 := lp379k10
                                        rw [(by omega : kz = 64)] at e9
                                        exact gTs.anew lp379k8 lp379k9 e9
                                      have hoz384 : gOy ty 31 (-1) 64 h382 := by
                                        have e9 := lp379k10
                                        rw [(by omega : kz = 64)] at e9
                                        exact e9
                                      refine gz_s 1 (pc' := 382) (L' := [some (.ref m), some (.int (zi qu)), some (.int (zi jn9v0)), some (.int (zi kz)), none]) (S' := [.ref m]) rfl ?_
                                      refine gs_gtk rfl (by decide) rfl sh382.1 tm rfl rfl lp379k5 ?_
                                      have hey385 : gEy ty 31 f qu cw h382 := gEy.oy hoz384 ⟨by omega, by omega, by omega⟩
                                      exact gz_end (I := .ireturn) (len := 1) rfl (Or.inl rfl) ⟨sh382, fq357_0, 0, rfl, (by omega), (by omega), lp379k6, (by omega), (by omega), (by omega), (by omega), hts, hey385⟩
                                    · refine gy_icF rfl (by decide) (by decide) (by omega) (by omega) hc383 ?_
                                      obtain ⟨f9, rf9, z9⟩ := lp379k10
                                      refine gz_s 1 (pc' := 369) (L' := [some (.ref m), some (.int (zi qu)), some (.int (zi jn9v0)), some (.int (zi kz)), none]) (S' := [.ref m]) rfl ?_
                                      refine gs_gtr rfl (by decide) rfl sh382.1 tm rfl rfl rfl (fun c386 ec386 tc386 => ?_)
                                      refine gz_s 2 (pc' := 374) (L' := [some (.ref m), some (.int (zi qu)), some (.int (zi jn9v0)), some (.int (zi kz)), none]) (S' := [.int (zi (-1)), .int (zi kz), .ref c386]) rfl ?_
                                      have hl387 : 64 ≤ h382.2.2.2.1 c386 ∧ h382.2.2.2.1 c386 ≤ 64 := gJ.rowl (G := gGG) sh382.1 tc386 rfl
                                      refine gs_ast rfl (by decide) sh382 tc386 rfl rfl rfl (by decide) (fun _ => rfl) (by omega) (by omega) (fun _ => (by decide : (31999 : Nat) ∈ ([1000, 1053, 1059, 1061, 1062, 1064, 1067, 1074, 1075, 31999, 32999, 33999, 34999, 36999, 37999, 38999, 39999, 40999, 41999, 42999] : List Nat))) (by omega) (by omega) (fun h388 sh388 eh388 fh388 => ?_)
                                      have pr389 := gOt.pt fh388 tc386 (by decide) lp379k7
                                      have pr390 := gRow.pt fh388 tc386 (by decide) lp379k8
                                      have pr391 := gRow.pt fh388 tc386 (by decide) lp379k9
                                      have pr392 := gRow.put (i := kz) (z := (-1)) uq tc386 (by decide) fh388 eh388 (by omega) (by omega) rf9
                                      have s393 := (fh388 m 50 (fun q => absurd (((tm).symm.trans (congrArg ty q.1)).trans tc386) (by decide))).trans lp379k0
                                      have s394 := (fh388 m 51 (fun q => absurd (((tm).symm.trans (congrArg ty q.1)).trans tc386) (by decide))).trans lp379k1
                                      have s395 := (fh388 m 0 (fun q => absurd (((tm).symm.trans (congrArg ty q.1)).trans tc386) (by decide))).trans lp379k2
                                      have s396 := (fh388 m 52 (fun q => absurd (((tm).symm.trans (congrArg ty q.1)).trans tc386) (by decide))).trans lp379k3
                                      have s397 := (fh388 m 62 (fun q => absurd (((tm).symm.trans (congrArg ty q.1)).trans tc386) (by decide))).trans lp379k4
                                      have s398 := (fh388 m 59 (fun q => absurd (((tm).symm.trans (congrArg ty q.1)).trans tc386) (by decide))).trans lp379k5
                                      have s399 := (fh388 m 53 (fun q => absurd (((tm).symm.trans (congrArg ty q.1)).trans tc386) (by decide))).trans lp379k6
                                      have s400 := (fh388 m 58 (fun q => absurd (((tm).symm.trans (congrArg ty q.1)).trans tc386) (by decide))).trans ec386
                                      have pr401 := gEl.set (i := kz) (z := (-1)) uq tc386 (by decide) eh388 (by omega) (by omega)
                                      have hoz402 : gOz ty 31 (-1) (kz + 1) h388 := gOz.step (by omega) pr392 z9
                                      refine gy_s 2 (pc' := 362) (L' := [some (.ref m), some (.int (zi qu)), some (.int (zi jn9v0)), some (.int ((zi kz) + zi 1)), none]) (S' := []) (L2 := [some (.ref m), some (.int (zi qu)), some (.int (zi jn9v0)), some (.int (zi (kz + 1))), none]) (S2 := []) rfl (by simp only [zi_add, zi_sub, zi_mul, zi_neg, zi_and1, zi_and7, zi_and15, zi_and31, zi_and255]) (by simp only [zi_add, zi_sub, zi_mul, zi_neg, zi_and1, zi_and7, zi_and15, zi_and31, zi_and255]) ?_
                                      exact gz_wk (ihlp379 h388 (kz + 1) (by omega) sh388 (by omega) s393 s394 s395 s396 s397 s398 s399 pr389 pr390 pr391 hoz402) (gLw.s (gLw.s (gLw.s (gLw.s (gLw.n gLw.z)))))
                                exact gz_wk (lp379 _ h368 0 (Nat.lt_succ_self _) sh368 (by omega) s373 s374 s375 s376 s377 s378 eh368 pr370 pr371 pr372 hoz381) (gLw.s (gLw.s (gLw.s (gLw.s (gLw.n gLw.z)))))
                              · refine gy_icF rfl (by decide) (by decide) (by omega) (by omega) hc356 ?_
                                refine gz_s 2 (pc' := 316) (L' := [some (.ref m), some (.int (zi qu)), some (.int (zi jn9v0)), some (.int (zi k3)), none]) (S' := [.ref m, .ref m]) rfl ?_
                                refine gs_gtr rfl (by decide) rfl sh355.1 tm rfl rfl rfl (fun c403 ec403 tc403 => ?_)
                                refine gz_s 1 (pc' := 320) (L' := [some (.ref m), some (.int (zi qu)), some (.int (zi jn9v0)), some (.int (zi k3)), none]) (S' := [.int (zi k3), .ref c403, .ref m]) rfl ?_
                                have hl404 : 10 ≤ h355.2.2.2.1 c403 ∧ h355.2.2.2.1 c403 ≤ 10 := gJ.rowl (G := gGG) sh355.1 tc403 rfl
                                refine gs_ald rfl (by decide) sh355.1 tc403 rfl rfl rfl (by decide) (fun _ => rfl) (by omega) (by omega) (fun z405 ez405 az405 bz405 => ?_)
                                have hf406 := gRow.at (i := k3) (z := z405) lp354k9 tc403 ez405 (by omega) (by omega) (by omega)
                                refine gz_s 1 (pc' := 322) (L' := [some (.ref m), some (.int (zi qu)), some (.int (zi jn9v0)), some (.int (zi k3)), none]) (S' := [.ref m, .int (zi z405), .ref m]) rfl ?_
                                refine gs_gtr rfl (by decide) rfl sh355.1 tm rfl rfl rfl (fun c407 ec407 tc407 => ?_)
                                refine gz_s 1 (pc' := 326) (L' := [some (.ref m), some (.int (zi qu)), some (.int (zi jn9v0)), some (.int (zi k3)), none]) (S' := [.int (zi k3), .ref c407, .int (zi z405), .ref m]) rfl ?_
                                have hl408 : 10 ≤ h355.2.2.2.1 c407 ∧ h355.2.2.2.1 c407 ≤ 10 := gJ.rowl (G := gGG) sh355.1 tc407 rfl
                                refine gs_ald rfl (by decide) sh355.1 tc407 rfl rfl rfl (by decide) (fun _ => rfl) (by omega) (by omega) (fun z409 ez409 az409 bz409 => ?_)
                                have hf410 := gRow.at (i := k3) (z := z409) lp354k10 tc407 ez409 (by omega) (by omega) (by omega)
                                have hl1 := gTl_st (f := tf) (t := tt) (k := k3) (a := z405) (b := z409) (by omega) (by omega) (by omega)
                                have hl2 := gTl_le (f := tf) (t := tt) (k := k3 + 1) (n := n0) tle (by omega)
                                have hl3 := tle (k3).toNat (by omega)
                                refine gz_s 1 (pc' := 328) (L' := [some (.ref m), some (.int (zi qu)), some (.int (zi jn9v0)), some (.int (zi k3)), none]) (S' := [.ref m, .int (zi z409), .int (zi z405), .ref m]) rfl ?_
                                refine gs_gtr rfl (by decide) rfl sh355.1 tm rfl rfl rfl (fun c411 ec411 tc411 => ?_)
                                refine gz_s 1 (pc' := 332) (L' := [some (.ref m), some (.int (zi qu)), some (.int (zi jn9v0)), some (.int (zi k3)), none]) (S' := [.int (zi k3), .ref c411, .int (zi z409), .int (zi z405), .ref m]) rfl ?_
                                have hl412 : 10 ≤ h355.2.2.2.1 c411 ∧ h355.2.2.2.1 c411 ≤ 10 := gJ.rowl (G := gGG) sh355.1 tc411 rfl
                                refine gs_ald rfl (by decide) sh355.1 tc411 rfl rfl rfl (by decide) (fun _ => rfl) (by omega) (by omega) (fun z413 ez413 az413 bz413 => ?_)
                                refine gz_s 1 (pc' := 334) (L' := [some (.ref m), some (.int (zi qu)), some (.int (zi jn9v0)), some (.int (zi k3)), none]) (S' := [.ref m, .int (zi z413), .int (zi z409), .int (zi z405), .ref m]) rfl ?_
                                refine gs_gtr rfl (by decide) rfl sh355.1 tm rfl rfl rfl (fun c414 ec414 tc414 => ?_)
                                refine gz_s 1 (pc' := 338) (L' := [some (.ref m), some (.int (zi qu)), some (.int (zi jn9v0)), some (.int (zi k3)), none]) (S' := [.int (zi k3), .ref c414, .int (zi z413), .int (zi z409), .int (zi z405), .ref m]) rfl ?_
                                have hl415 : 10 ≤ h355.2.2.2.1 c414 ∧ h355.2.2.2.1 c414 ≤ 10 := gJ.rowl (G := gGG) sh355.1 tc414 rfl
                                refine gs_ald rfl (by decide) sh355.1 tc414 rfl rfl rfl (by decide) (fun _ => rfl) (by omega) (by omega) (fun z416 ez416 az416 bz416 => ?_)
                                refine gz_call rfl (by decide) rfl (by decide) (by decide) (gcal_of rfl rfl rfl (Nat.le_of_ble_eq_true rfl) (gJ.recv (G := gGG) sh355.1 tm rfl rfl)) (mm_putScan _ sh355.1 m tm z405 (by omega) z409 (by omega) z413 (by omega) z416 (by omega) wv lp354k5 (by omega) bv lp354k6 (by omega) (by omega) uq) (fun q417 _ wq417 => ?_)
                                obtain ⟨pq417, oq417, hq417⟩ := q417
                                obtain ⟨xq417, fq417_0, fq417_1, gq417, efq417_0, afq417_0, bfq417_0, efq417_1, afq417_1, bfq417_1, uq417_0, uq417_1⟩ := wq417
                                refine ⟨_, gq417, ?_⟩
                                show gz gPP gGG gcn _ _ 342 [some (.ref m), some (.int (zi qu)), some (.int (zi jn9v0)), some (.int (zi k3)), none] [] hq417 _
                                have sq417 := gSs.tr sh355 xq417 (by decide)
                                have s418 := (xq417.2.2.2.2.2 m 53 (by rw [tm]; decide)).trans lp354k0
                                have s419 := (xq417.2.2.2.2.2 m 50 (by rw [tm]; decide)).trans lp354k1
                                have s420 := (xq417.2.2.2.2.2 m 51 (by rw [tm]; decide)).trans lp354k2
                                have s421 := (xq417.2.2.2.2.2 m 0 (by rw [tm]; decide)).trans lp354k3
                                have s422 := (xq417.2.2.2.2.2 m 52 (by rw [tm]; decide)).trans lp354k4
                                have s423 := (xq417.2.2.2.2.2 m 54 (by rw [tm]; decide)).trans ec403
                                have s424 := (xq417.2.2.2.2.2 m 55 (by rw [tm]; decide)).trans ec407
                                have s425 := (xq417.2.2.2.2.2 m 56 (by rw [tm]; decide)).trans ec411
                                have s426 := (xq417.2.2.2.2.2 m 57 (by rw [tm]; decide)).trans ec414
                                have pr427 := gRow.fr xq417.2 (by decide) lp354k7
                                have pr428 := gOt.fr xq417.2 (by decide) lp354k8
                                have pr429 := gRow.fr xq417.2 (by decide) lp354k9
                                have pr430 := gRow.fr xq417.2 (by decide) lp354k10
                                refine gy_s 2 (pc' := 306) (L' := [some (.ref m), some (.int (zi qu)), some (.int (zi jn9v0)), some (.int ((zi k3) + zi 1)), none]) (S' := []) (L2 := [some (.ref m), some (.int (zi qu)), some (.int (zi jn9v0)), some (.int (zi (k3 + 1))), none]) (S2 := []) rfl (by simp only [zi_add, zi_sub, zi_mul, zi_neg, zi_and1, zi_and7, zi_and15, zi_and31, zi_and255]) (by simp only [zi_add, zi_sub, zi_mul, zi_neg, zi_and1, zi_and7, zi_and15, zi_and31, zi_and255]) ?_
                                exact gz_wk (ihlp354 hq417 (k3 + 1) fq417_0 fq417_1 (by omega) sq417 (by omega) (by omega) (by omega) (by omega) (by omega) (by omega) s418 s419 s420 s421 s422 efq417_0 efq417_1 pr427 pr428 pr429 pr430) (gLw.s (gLw.s (gLw.s (gLw.s (gLw.n gLw.z)))))
                          have hl9 : gTl tf tt 0 = 0 := rfl
                          exact gz_wk (lp354 _ hq342 0 fq342_0 0 (Nat.lt_succ_self _) sq342 (by omega) (by omega) (by omega) (by omega) (by omega) (by omega) s343 s344 s345 s346 s349 efq342_0 s348 pr351 pr352 rf rt) (gLw.s (gLw.s (gLw.s (gLw.s (gLw.n gLw.z)))))
                        · refine gy_ifF rfl (by decide) (by decide) (by omega) hc353 ?_
                          refine gz_s 5 (pc' := 301) (L' := [some (.ref m), some (.int (zi qu)), some (.int (zi jn9v0)), some (.int (zi k1)), none]) (S' := [.int (zi 0), .int (zi 0), .int (zi 63), .int (zi 0), .ref m]) rfl ?_
                          refine gz_call rfl (by decide) rfl (by decide) (by decide) (gcal_of rfl rfl rfl (Nat.le_of_ble_eq_true rfl) (gJ.recv (G := gGG) sq342.1 tm rfl rfl)) (mm_putScan _ sq342.1 m tm 0 (by omega) 63 (by omega) 0 (by omega) 0 (by omega) fq342_0 efq342_0 (by omega) 0 s348 (by omega) (by omega) uq) (fun q431 _ wq431 => ?_)
                          obtain ⟨pq431, oq431, hq431⟩ := q431
                          obtain ⟨xq431, fq431_0, fq431_1, gq431, efq431_0, afq431_0, bfq431_0, efq431_1, afq431_1, bfq431_1, uq431_0, uq431_1⟩ := wq431
                          refine ⟨_, gq431, ?_⟩
                          show gz gPP gGG gcn _ _ 304 [some (.ref m), some (.int (zi qu)), some (.int (zi jn9v0)), some (.int (zi k1)), none] [] hq431 _
                          have sq431 := gSs.tr sq342 xq431 (by decide)
                          have s432 := (xq431.2.2.2.2.2 m 53 (by rw [tm]; decide)).trans s343
                          have s433 := (xq431.2.2.2.2.2 m 50 (by rw [tm]; decide)).trans s344
                          have s434 := (xq431.2.2.2.2.2 m 51 (by rw [tm]; decide)).trans s345
                          have s435 := (xq431.2.2.2.2.2 m 0 (by rw [tm]; decide)).trans s346
                          have s436 := (xq431.2.2.2.2.2 m 52 (by rw [tm]; decide)).trans s349
                          have pr437 := gRow.fr xq431.2 (by decide) pr351
                          have pr438 := gOt.fr xq431.2 (by decide) pr352
                          have pr439 := gRow.fr xq431.2 (by decide) rf
                          have pr440 := gRow.fr xq431.2 (by decide) rt
                          refine gz_s 2 (pc' := 306) (L' := [some (.ref m), some (.int (zi qu)), some (.int (zi jn9v0)), some (.int (zi 0)), none]) (S' := []) rfl ?_
                          have lp441 : ∀ (fu : Nat) (h442 : gH) (k3 : Int) (wv : Int) (bv : Int), (11 - k3).toNat < fu → gSs rT 1027 ty [1000, 1053, 1059, 1061, 1062, 1064, 1067, 1074, 1075, 31999, 32999, 33999, 34999, 36999, 37999, 38999, 39999, 40999, 41999, 42999] h h442 → (0 ≤ k3 ∧ k3 ≤ 10) → (0 ≤ wv ∧ wv ≤ 60000) → (0 ≤ bv ∧ bv ≤ 0) → (n0 = 0 ∨ (4 * wv ≤ 1000 + 560 * gTl tf tt k3 + 3468 * k3)) → (n0 = 0 → (k3 = 0 ∧ wv ≤ 45000)) → (k3 ≤ n0) → h442.2.2.2.2 m 53 = .int (zi n0) → h442.2.2.2.2 m 50 = .int (zi cw) → h442.2.2.2.2 m 51 = .int (zi ch) → h442.2.2.2.2 m 0 = .int (zi jn1v0) → h442.2.2.2.2 m 52 = .int (zi z182) → h442.2.2.2.2 m 59 = .int (zi wv) → h442.2.2.2.2 m 62 = .int (zi bv) → gRow ty 31 f h442 → gOt ty 64 h442 → gRow ty 27 tf h442 → gRow ty 28 tt h442 → gz gPP gGG gcn (d + 6) gt183 306 [some (.ref m), some (.int (zi qu)), some (.int (zi jn9v0)), some (.int (zi k3)), none] [] h442 (fun q _ => gSs rT 1027 ty [1000, 1053, 1059, 1061, 1062, 1064, 1067, 1074, 1075, 31999, 32999, 33999, 34999, 36999, 37999, 38999, 39999, 40999, 41999, 42999] h q.2.2 ∧ ∃ z n1 : Int, gfin gt183 q.1 q.2.1 = some (some (.int (zi z))) ∧ 0 ≤ z ∧ z ≤ 60000 ∧ q.2.2.2.2.2.2 m 53 = .int (zi n1) ∧ 0 ≤ n1 ∧ n1 ≤ 10 ∧ ((1 ≤ qu ∧ qu ≤ 100 ∧ 1 ≤ cw) → n1 = 0) ∧ (¬ (1 ≤ qu ∧ qu ≤ 100 ∧ 1 ≤ cw) → n1 = n0) ∧ (gTs ty n1 q.2.2) ∧ (gEy ty 31 f qu cw q.2.2)) := by
                            intro fu
                            induction fu with
                            | zero => intro h442 k3 wv bv hm; exact absurd hm (Nat.not_lt_zero _)
                            | succ fu ihlp441 =>
                              intro h442 k3 wv bv lp441m sh442 lp441f0 lp441f1 lp441f2 lp441f3 lp441f4 lp441f5 lp441k0 lp441k1 lp441k2 lp441k3 lp441k4 lp441k5 lp441k6 lp441k7 lp441k8 lp441k9 lp441k10
                              have hl0 := gTl_le (f := tf) (t := tt) (k := k3) (n := n0) tle
                              refine gz_s 2 (pc' := 308) (L' := [some (.ref m), some (.int (zi qu)), some (.int (zi jn9v0)), some (.int (zi k3)), none]) (S' := [.ref m, .int (zi k3)]) rfl ?_
                              refine gs_gtk rfl (by decide) rfl sh442.1 tm rfl rfl lp441k0 ?_
                              refine gy_icT (pc' := 348) rfl (by decide) (by decide) (by omega) (by omega) (by first | (simp [zc]; done) | (simp only [zc]; omega)) ?_
                              refine gz_s 2 (pc' := 352) (L' := [some (.ref m), some (.int (zi qu)), some (.int (zi jn9v0)), some (.int (zi k3)), none]) (S' := [.int (zi 217), .ref m]) rfl ?_
                              refine gz_call rfl (by decide) rfl (by decide) (by decide) (gcal_of rfl rfl rfl (Nat.le_of_ble_eq_true rfl) (gJ.recv (G := gGG) sh442.1 tm rfl rfl)) (mm_putMarker _ sh442.1 m tm 217 (by omega) wv lp441k5 (by omega)) (fun q443 _ wq443 => ?_)
                              obtain ⟨pq443, oq443, hq443⟩ := q443
                              obtain ⟨xq443, fq443_0, gq443, efq443_0, afq443_0, bfq443_0, uq443_0⟩ := wq443
                              refine ⟨_, gq443, ?_⟩
                              show gz gPP gGG gcn _ _ 355 [some (.ref m), some (.int (zi qu)), some (.int (zi jn9v0)), some (.int (zi k3)), none] [] hq443 _
                              have sq443 := gSs.tr sh442 xq443 (by decide)
                              have s444 := (xq443.2.2.2.2.2 m 53 (by rw [tm]; decide)).trans lp441k0
                              have s445 := (xq443.2.2.2.2.2 m 50 (by rw [tm]; decide)).trans lp441k1
                              have s446 := (xq443.2.2.2.2.2 m 51 (by rw [tm]; decide)).trans lp441k2
                              have s447 := (xq443.2.2.2.2.2 m 0 (by rw [tm]; decide)).trans lp441k3
                              have s448 := (xq443.2.2.2.2.2 m 52 (by rw [tm]; decide)).trans lp441k4
                              have s449 := (xq443.2.2.2.2.2 m 62 (by rw [tm]; decide)).trans lp441k6
                              have pr450 := gRow.fr xq443.2 (by decide) lp441k7
                              have pr451 := gOt.fr xq443.2 (by decide) lp441k8
                              have pr452 := gRow.fr xq443.2 (by decide) lp441k9
                              have pr453 := gRow.fr xq443.2 (by decide) lp441k10
                              refine gz_s 2 (pc' := 357) (L' := [some (.ref m), some (.int (zi qu)), some (.int (zi jn9v0)), some (.int (zi k3)), none]) (S' := [.int (zi 0), .ref m]) rfl ?_
                              refine gs_put rfl (by decide) rfl sq443 tm rfl rfl rfl rfl (Or.inl rfl) (by decide) (by omega) (by omega) (fun h454 sh454 eh454 fh454 => ?_)
                              have pr455 := gRow.pt fh454 tm (by decide) pr450
                              have pr456 := gOt.pt fh454 tm (by decide) pr451
                              have pr457 := gRow.pt fh454 tm (by decide) pr452
                              have pr458 := gRow.pt fh454 tm (by decide) pr453
                              have s459 := (fh454 m 50 (fun q => absurd q.2 (by decide))).trans s445
                              have s460 := (fh454 m 51 (fun q => absurd q.2 (by decide))).trans s446
                              have s461 := (fh454 m 0 (fun q => absurd q.2 (by decide))).trans s447
                              have s462 := (fh454 m 52 (fun q => absurd q.2 (by decide))).trans s448
                              have s463 := (fh454 m 62 (fun q => absurd q.2 (by decide))).trans s449
                              have s464 := (fh454 m 59 (fun q => absurd q.2 (by decide))).trans efq443_0
                              refine gz_s 2 (pc' := 362) (L' := [some (.ref m), some (.int (zi qu)), some (.int (zi jn9v0)), some (.int (zi 0)), none]) (S' := []) rfl ?_
                              obtain ⟨c466, ec466, tc466⟩ := gJ.ref (k := 58) (G := gGG) sh454.1 tm rfl rfl rfl
                              have hoz467 : gOz ty 31 (-1) 0 h454 := ⟨_, gRow.mk uq tc466 (by decide) (fun _ => rfl), fun j hj => absurd hj (by omega)⟩
                              have lp465 : ∀ (fu : Nat) (h468 : gH) (kz : Int), (65 - kz).toNat < fu → gSs rT 1027 ty [1000, 1053, 1059, 1061, 1062, 1064, 1067, 1074, 1075, 31999, 32999, 33999, 34999, 36999, 37999, 38999, 39999, 40999, 41999, 42999] h h468 → (0 ≤ kz ∧ kz ≤ 64) → h468.2.2.2.2 m 50 = .int (zi cw) → h468.2.2.2.2 m 51 = .int (zi ch) → h468.2.2.2.2 m 0 = .int (zi jn1v0) → h468.2.2.2.2 m 52 = .int (zi z182) → h468.2.2.2.2 m 62 = .int (zi bv) → h468.2.2.2.2 m 59 = .int (zi fq443_0) → h468.2.2.2.2 m 53 = .int (zi 0) → gOt ty 64 h468 → gRow ty 27 tf h468 → gRow ty 28 tt h468 → gOz ty 31 (-1) kz h468 → gz gPP gGG gcn (d + 6) gt183 362 [some (.ref m), some (.int (zi qu)), some (.int (zi jn9v0)), some (.int (zi kz)), none] [] h468 (fun q _ => gSs rT 1027 ty [1000, 1053, 1059, 1061, 1062, 1064, 1067, 1074, 1075, 31999, 32999, 33999, 34999, 36999, 37999, 38999, 39999, 40999, 41999, 42999] h q.2.2 ∧ ∃ z n1 : Int, gfin gt183 q.1 q.2.1 = some (some (.int (zi z))) ∧ 0 ≤ z ∧ z ≤ 60000 ∧ q.2.2.2.2.2.2 m 53 = .int (zi n1) ∧ 0 ≤ n1 ∧ n1 ≤ 10 ∧ ((1 ≤ qu ∧ qu ≤ 100 ∧ 1 ≤ cw) → n1 = 0) ∧ (¬ (1 ≤ qu ∧ qu ≤ 100 ∧ 1 ≤ cw) → n1 = n0) ∧ (gTs ty n1 q.2.2) ∧ (gEy ty 31 f qu cw q.2.2)) := by
                                intro fu
                                induction fu with
                                | zero => intro h468 kz hm; exact absurd hm (Nat.not_lt_zero _)
                                | succ fu ihlp465 =>
                                  intro h468 kz lp465m sh468 lp465f0 lp465k0 lp465k1 lp465k2 lp465k3 lp465k4 lp465k5 lp465k6 lp465k7 lp465k8 lp465k9 lp465k10
                                  refine gz_s 2 (pc' := 365) (L' := [some (.ref m), some (.int (zi qu)), some (.int (zi jn9v0)), some (.int (zi kz)), none]) (S' := [.int (zi 64), .int (zi kz)]) rfl ?_
                                  by_cases hc469 : (64 : Int) ≤ kz
                                  · refine gy_icT (pc' := 381) rfl (by decide) (by decide) (by omega) (by omega) hc469 ?_
                                    have hts : gTs ty 0 h468 := by
                                      have e9 := lp465k10
                                      rw [(by omega : kz = 64)] at e9
                                      exact gTs.anew lp465k8 lp465k9 e9
                                    have hoz470 : gOy ty 31 (-1) 64 h468 := by
                                      have e9 := lp465k10
                                      rw [(by omega : kz = 64)] at e9
                                      exact e9
                                    refine gz_s 1 (pc' := 382) (L' := [some (.ref m), some (.int (zi qu)), some (.int (zi jn9v0)), some (.int (zi kz)), none]) (S' := [.ref m]) rfl ?_
                                    refine gs_gtk rfl (by decide) rfl sh468.1 tm rfl rfl lp465k5 ?_
                                    have hey471 : gEy ty 31 f qu cw h468 := gEy.oy hoz470 ⟨by omega, by omega, by omega⟩
                                    exact gz_end (I := .ireturn) (len := 1) rfl (Or.inl rfl) ⟨sh468, fq443_0, 0, rfl, (by omega), (by omega), lp465k6, (by omega), (by omega), (by omega), (by omega), hts, hey471⟩
                                  · refine gy_icF rfl (by decide) (by decide) (by omega) (by omega) hc469 ?_
                                    obtain ⟨f9, rf9, z9⟩ := lp465k10
                                    refine gz_s 1 (pc' := 369) (L' := [some (.ref m), some (.int (zi qu)), some (.int (zi jn9v0)), some (.int (zi kz)), none]) (S' := [.ref m]) rfl ?_
                                    refine gs_gtr rfl (by decide) rfl sh468.1 tm rfl rfl rfl (fun c472 ec472 tc472 => ?_)
                                    refine gz_s 2 (pc' := 374) (L' := [some (.ref m), some (.int (zi qu)), some (.int (zi jn9v0)), some (.int (zi kz)), none]) (S' := [.int (zi (-1)), .int (zi kz), .ref c472]) rfl ?_
                                    have hl473 : 64 ≤ h468.2.2.2.1 c472 ∧ h468.2.2.2.1 c472 ≤ 64 := gJ.rowl (G := gGG) sh468.1 tc472 rfl
                                    refine gs_ast rfl (by decide) sh468 tc472 rfl rfl rfl (by decide) (fun _ => rfl) (by omega) (by omega) (fun _ => (by decide : (31999 : Nat) ∈ ([1000, 1053, 1059, 1061, 1062, 1064, 1067, 1074, 1075, 31999, 32999, 33999, 34999, 36999, 37999, 38999, 39999, 40999, 41999, 42999] : List Nat))) (by omega) (by omega) (fun h474 sh474 eh474 fh474 => ?_)
                                    have pr475 := gOt.pt fh474 tc472 (by decide) lp465k7
                                    have pr476 := gRow.pt fh474 tc472 (by decide) lp465k8
                                    have pr477 := gRow.pt fh474 tc472 (by decide) lp465k9
                                    have pr478 := gRow.put (i := kz) (z := (-1)) uq tc472 (by decide) fh474 eh474 (by omega) (by omega) rf9
                                    have s479 := (fh474 m 50 (fun q => absurd (((tm).symm.trans (congrArg ty q.1)).trans tc472) (by decide))).trans lp465k0
                                    have s480 := (fh474 m 51 (fun q => absurd (((tm).symm.trans (congrArg ty q.1)).trans tc472) (by decide))).trans lp465k1
                                    have s481 := (fh474 m 0 (fun q => absurd (((tm).symm.trans (congrArg ty q.1)).trans tc472) (by decide))).trans lp465k2
                                    have s482 := (fh474 m 52 (fun q => absurd (((tm).symm.trans (congrArg ty q.1)).trans tc472) (by decide))).trans lp465k3
                                    have s483 := (fh474 m 62 (fun q => absurd (((tm).symm.trans (congrArg ty q.1)).trans tc472) (by decide))).trans lp465k4
                                    have s484 := (fh474 m 59 (fun q => absurd (((tm).symm.trans (congrArg ty q.1)).trans tc472) (by decide))).trans lp465k5
                                    have s485 := (fh474 m 53 (fun q => absurd (((tm).symm.trans (congrArg ty q.1)).trans tc472) (by decide))).trans lp465k6
                                    have s486 := (fh474 m 58 (fun q => absurd (((tm).symm.trans (congrArg ty q.1)).trans tc472) (by decide))).trans ec472
                                    have pr487 := gEl.set (i := kz) (z := (-1)) uq tc472 (by decide) eh474 (by omega) (by omega)
                                    have hoz488 : gOz ty 31 (-1) (kz + 1) h474 := gOz.step (by omega) pr478 z9
                                    refine gy_s 2 (pc' := 362) (L' := [some (.ref m), some (.int (zi qu)), some (.int (zi jn9v0)), some (.int ((zi kz) + zi 1)), none]) (S' := []) (L2 := [some (.ref m), some (.int (zi qu)), some (.int (zi jn9v0)), some (.int (zi (kz + 1))), none]) (S2 := []) rfl (by simp only [zi_add, zi_sub, zi_mul, zi_neg, zi_and1, zi_and7, zi_and15, zi_and31, zi_and255]) (by simp only [zi_add, zi_sub, zi_mul, zi_neg, zi_and1, zi_and7, zi_and15, zi_and31, zi_and255]) ?_
                                    exact gz_wk (ihlp465 h474 (kz + 1) (by omega) sh474 (by omega) s479 s480 s481 s482 s483 s484 s485 pr475 pr476 pr477 hoz488) (gLw.s (gLw.s (gLw.s (gLw.s (gLw.n gLw.z)))))
                              exact gz_wk (lp465 _ h454 0 (Nat.lt_succ_self _) sh454 (by omega) s459 s460 s461 s462 s463 s464 eh454 pr456 pr457 pr458 hoz467) (gLw.s (gLw.s (gLw.s (gLw.s (gLw.n gLw.z)))))
                          have hl9 : gTl tf tt 0 = 0 := rfl
                          exact gz_wk (lp441 _ hq431 0 fq431_0 fq431_1 (Nat.lt_succ_self _) sq431 (by omega) (by omega) (by omega) (by omega) (by omega) (by omega) s432 s433 s434 s435 s436 efq431_0 efq431_1 pr437 pr438 pr439 pr440) (gLw.s (gLw.s (gLw.s (gLw.s (gLw.n gLw.z)))))
                    by_cases hc489 : (n0 : Int) ≤ 0
                    · refine gy_ifT (pc' := 206) rfl (by decide) (by decide) (by omega) hc489 ?_
                      refine gz_s 1 (pc' := 209) (L' := [some (.ref m), some (.int (zi qu)), some (.int (zi jn9v0)), some (.int (zi k1)), none]) (S' := [.int (zi 192), .ref m]) rfl ?_
                      exact jn91 192 (by omega)
                    · refine gy_ifF rfl (by decide) (by decide) (by omega) hc489 ?_
                      refine gz_s 2 (pc' := 209) (L' := [some (.ref m), some (.int (zi qu)), some (.int (zi jn9v0)), some (.int (zi k1)), none]) (S' := [.int (zi 194), .ref m]) rfl ?_
                      exact jn91 194 (by omega)
                  · refine gy_icF rfl (by decide) (by decide) (by omega) (by omega) hc90 ?_
                    refine gz_s 2 (pc' := 178) (L' := [some (.ref m), some (.int (zi qu)), some (.int (zi jn9v0)), some (.int (zi k1)), none]) (S' := [.ref m, .ref m]) rfl ?_
                    refine gs_gtr rfl (by decide) rfl sh89.1 tm rfl rfl rfl (fun c490 ec490 tc490 => ?_)
                    refine gz_s 1 (pc' := 182) (L' := [some (.ref m), some (.int (zi qu)), some (.int (zi jn9v0)), some (.int (zi k1)), none]) (S' := [.int (zi k1), .ref c490, .ref m]) rfl ?_
                    have hl491 : 64 ≤ h89.2.2.2.1 c490 ∧ h89.2.2.2.1 c490 ≤ 64 := gJ.rowl (G := gGG) sh89.1 tc490 rfl
                    refine gs_ald rfl (by decide) sh89.1 tc490 rfl rfl rfl (by decide) (fun _ => rfl) (by omega) (by omega) (fun z492 ez492 az492 bz492 => ?_)
                    refine gz_call rfl (by decide) rfl (by decide) (by decide) (gcal_of rfl rfl rfl (Nat.le_of_ble_eq_true rfl) (gJ.recv (G := gGG) sh89.1 tm rfl rfl)) (mm_putByte _ sh89.1 m tm z492 (by omega) wa lp88k6 (by omega)) (fun q493 _ wq493 => ?_)
                    obtain ⟨pq493, oq493, hq493⟩ := q493
                    obtain ⟨xq493, fq493_0, gq493, efq493_0, afq493_0, bfq493_0, uq493_0⟩ := wq493
                    refine ⟨_, gq493, ?_⟩
                    show gz gPP gGG gcn _ _ 186 [some (.ref m), some (.int (zi qu)), some (.int (zi jn9v0)), some (.int (zi k1)), none] [] hq493 _
                    have sq493 := gSs.tr sh89 xq493 (by decide)
                    have s494 := (xq493.2.2.2.2.2 m 53 (by rw [tm]; decide)).trans lp88k0
                    have s495 := (xq493.2.2.2.2.2 m 50 (by rw [tm]; decide)).trans lp88k1
                    have s496 := (xq493.2.2.2.2.2 m 51 (by rw [tm]; decide)).trans lp88k2
                    have s497 := (xq493.2.2.2.2.2 m 0 (by rw [tm]; decide)).trans lp88k3
                    have s498 := (xq493.2.2.2.2.2 m 61 (by rw [tm]; decide)).trans lp88k4
                    have s499 := (xq493.2.2.2.2.2 m 62 (by rw [tm]; decide)).trans lp88k5
                    have s500 := (xq493.2.2.2.2.2 m 65 (by rw [tm]; decide)).trans ec490
                    have pr501 := gTs.fr xq493.2 (by decide) lp88k7
                    have pr502 := gRow.fr xq493.2 (by decide) lp88k8
                    have pr503 := gOt.fr xq493.2 (by decide) lp88k9
                    refine gy_s 2 (pc' := 170) (L' := [some (.ref m), some (.int (zi qu)), some (.int (zi jn9v0)), some (.int ((zi k1) + zi 1)), none]) (S' := []) (L2 := [some (.ref m), some (.int (zi qu)), some (.int (zi jn9v0)), some (.int (zi (k1 + 1))), none]) (S2 := []) rfl (by simp only [zi_add, zi_sub, zi_mul, zi_neg, zi_and1, zi_and7, zi_and15, zi_and31, zi_and255]) (by simp only [zi_add, zi_sub, zi_mul, zi_neg, zi_and1, zi_and7, zi_and15, zi_and31, zi_and255]) ?_
                    exact gz_wk (ihlp88 hq493 (k1 + 1) fq493_0 (by omega) sq493 (by omega) (by omega) (by omega) s494 s495 s496 s497 s498 s499 efq493_0 pr501 pr502 pr503) (gLw.s (gLw.s (gLw.s (gLw.s (gLw.n gLw.z)))))
              exact gz_wk (lp88 _ hq78 0 fq78_0 (Nat.lt_succ_self _) sq78 (by omega) (by omega) (by omega) s79 s80 s81 s82 s83 s84 efq78_0 pr85 pr86 pr87) (gLw.s (gLw.s (gLw.s (gLw.s (gLw.n gLw.z)))))
            · refine gy_icF rfl (by decide) (by decide) (by omega) (by omega) hc12 ?_
              refine gz_s 1 (pc' := 71) (L' := [some (.ref m), some (.int (zi qu)), some (.int (zi jn9v0)), some (.int (zi k)), none]) (S' := [.ref m]) rfl ?_
              refine gs_gtr rfl (by decide) rfl sh11.1 tm rfl rfl rfl (fun c504 ec504 tc504 => ?_)
              refine gz_s 1 (pc' := 75) (L' := [some (.ref m), some (.int (zi qu)), some (.int (zi jn9v0)), some (.int (zi k)), none]) (S' := [.int (zi k), .ref c504]) rfl ?_
              have hl505 : 256 ≤ h11.2.2.2.1 c504 ∧ h11.2.2.2.1 c504 ≤ 256 := gJ.rowl (G := gGG) sh11.1 tc504 rfl
              refine gs_ald rfl (by decide) sh11.1 tc504 rfl rfl rfl (by decide) (fun _ => rfl) (by omega) (by omega) (fun z506 ez506 az506 bz506 => ?_)
              have hx507 := zx_f (a := z506) (b := jn9v0) (A := 255) (B := 5000) (by omega) (by omega) (by omega) (by omega)
              refine gy_s 5 (pc' := 83) (L' := [some (.ref m), some (.int (zi qu)), some (.int (zi jn9v0)), some (.int (zi k)), none]) (S' := [.int (zi 100), .int (((zi z506) * (zi jn9v0)) + (zi 50))]) (L2 := [some (.ref m), some (.int (zi qu)), some (.int (zi jn9v0)), some (.int (zi k)), none]) (S2 := [.int (zi 100), .int (zi ((z506 * jn9v0) + 50))]) rfl (by simp only [zi_add, zi_sub, zi_mul, zi_neg, zi_and1, zi_and7, zi_and15, zi_and31, zi_and255]) (by simp only [zi_add, zi_sub, zi_mul, zi_neg, zi_and1, zi_and7, zi_and15, zi_and31, zi_and255]) ?_
              refine gy_div rfl (by decide) (by omega) (by omega) ?_
              refine gz_s 2 (pc' := 87) (L' := [some (.ref m), some (.int (zi qu)), some (.int (zi jn9v0)), some (.int (zi k)), some (.int (zi (((z506 * jn9v0) + 50) / 100)))]) (S' := [.ref m]) rfl ?_
              refine gs_gtr rfl (by decide) rfl sh11.1 tm rfl rfl rfl (fun c508 ec508 tc508 => ?_)
              refine gz_s 3 (pc' := 94) (L' := [some (.ref m), some (.int (zi qu)), some (.int (zi jn9v0)), some (.int (zi k)), some (.int (zi (((z506 * jn9v0) + 50) / 100)))]) (S' := [.int (zi 1), .int (zi (((z506 * jn9v0) + 50) / 100)), .int (zi k), .ref c508]) rfl ?_
              have jn509 : ∀ (jn509v0 : Int), ((1 ≤ jn509v0) ∧ (jn509v0 ≤ 255)) → gz gPP gGG gcn (d + 6) gt183 117 [some (.ref m), some (.int (zi qu)), some (.int (zi jn9v0)), some (.int (zi k)), some (.int (zi (((z506 * jn9v0) + 50) / 100)))] [.int (zi jn509v0), .int (zi k), .ref c508] h11 (fun q _ => gSs rT 1027 ty [1000, 1053, 1059, 1061, 1062, 1064, 1067, 1074, 1075, 31999, 32999, 33999, 34999, 36999, 37999, 38999, 39999, 40999, 41999, 42999] h q.2.2 ∧ ∃ z n1 : Int, gfin gt183 q.1 q.2.1 = some (some (.int (zi z))) ∧ 0 ≤ z ∧ z ≤ 60000 ∧ q.2.2.2.2.2.2 m 53 = .int (zi n1) ∧ 0 ≤ n1 ∧ n1 ≤ 10 ∧ ((1 ≤ qu ∧ qu ≤ 100 ∧ 1 ≤ cw) → n1 = 0) ∧ (¬ (1 ≤ qu ∧ qu ≤ 100 ∧ 1 ≤ cw) → n1 = n0) ∧ (gTs ty n1 q.2.2) ∧ (gEy ty 31 f qu cw q.2.2)) := by
                intro jn509v0 jn509d
                have hl510 : 64 ≤ h11.2.2.2.1 c508 ∧ h11.2.2.2.1 c508 ≤ 64 := gJ.rowl (G := gGG) sh11.1 tc508 rfl
                refine gs_ast rfl (by decide) sh11 tc508 rfl rfl rfl (by decide) (fun _ => rfl) (by omega) (by omega) (fun _ => (by decide : (34999 : Nat) ∈ ([1000, 1053, 1059, 1061, 1062, 1064, 1067, 1074, 1075, 31999, 32999, 33999, 34999, 36999, 37999, 38999, 39999, 40999, 41999, 42999] : List Nat))) (by omega) (by omega) (fun h511 sh511 eh511 fh511 => ?_)
                have pr512 := gTs.pt fh511 tc508 (by decide) lp10k4
                have pr513 := gRow.pt fh511 tc508 (by decide) lp10k5
                have s514 := (fh511 m 53 (fun q => absurd (((tm).symm.trans (congrArg ty q.1)).trans tc508) (by decide))).trans lp10k0
                have s515 := (fh511 m 50 (fun q => absurd (((tm).symm.trans (congrArg ty q.1)).trans tc508) (by decide))).trans lp10k1
                have s516 := (fh511 m 51 (fun q => absurd (((tm).symm.trans (congrArg ty q.1)).trans tc508) (by decide))).trans lp10k2
                have s517 := (fh511 m 0 (fun q => absurd (((tm).symm.trans (congrArg ty q.1)).trans tc508) (by decide))).trans lp10k3
                have s518 := (fh511 m 13 (fun q => absurd (((tm).symm.trans (congrArg ty q.1)).trans tc508) (by decide))).trans ec504
                have s519 := (fh511 m 65 (fun q => absurd (((tm).symm.trans (congrArg ty q.1)).trans tc508) (by decide))).trans ec508
                have pr520 := gEl.set (i := k) (z := jn509v0) uq tc508 (by decide) eh511 (by omega) (by omega)
                have hot521 : gOt ty (k + 1) h511 := fun i h0 h1 => by
                  by_cases e : i = k
                  · subst e; exact (gEl.set uq tc508 (by decide) eh511 (by omega) (by omega)).wd (by omega) (by omega)
                  · exact gEl.ot fh511 (lp10k6 i h0 (by omega)) (by omega)
                refine gy_s 2 (pc' := 64) (L' := [some (.ref m), some (.int (zi qu)), some (.int (zi jn9v0)), some (.int ((zi k) + zi 1)), some (.int (zi (((z506 * jn9v0) + 50) / 100)))]) (S' := []) (L2 := [some (.ref m), some (.int (zi qu)), some (.int (zi jn9v0)), some (.int (zi (k + 1))), some (.int (zi (((z506 * jn9v0) + 50) / 100)))]) (S2 := []) rfl (by simp only [zi_add, zi_sub, zi_mul, zi_neg, zi_and1, zi_and7, zi_and15, zi_and31, zi_and255]) (by simp only [zi_add, zi_sub, zi_mul, zi_neg, zi_and1, zi_and7, zi_and15, zi_and31, zi_and255]) ?_
                exact gz_wk (ihlp10 h511 (k + 1) (by omega) sh511 (by omega) s514 s515 s516 s517 pr512 pr513 hot521) (gLw.s (gLw.s (gLw.s (gLw.s (gLw.n gLw.z)))))
              by_cases hc522 : (1 : Int) ≤ ((z506 * jn9v0) + 50) / 100
              · refine gy_icT (pc' := 101) rfl (by decide) (by decide) (by omega) (by omega) hc522 ?_
                refine gz_s 2 (pc' := 106) (L' := [some (.ref m), some (.int (zi qu)), some (.int (zi jn9v0)), some (.int (zi k)), some (.int (zi (((z506 * jn9v0) + 50) / 100)))]) (S' := [.int (zi 255), .int (zi (((z506 * jn9v0) + 50) / 100)), .int (zi k), .ref c508]) rfl ?_
                by_cases hc523 : (((z506 * jn9v0) + 50) / 100 : Int) ≤ 255
                · refine gy_icT (pc' := 115) rfl (by decide) (by decide) (by omega) (by omega) hc523 ?_
                  refine gz_s 1 (pc' := 117) (L' := [some (.ref m), some (.int (zi qu)), some (.int (zi jn9v0)), some (.int (zi k)), some (.int (zi (((z506 * jn9v0) + 50) / 100)))]) (S' := [.int (zi (((z506 * jn9v0) + 50) / 100)), .int (zi k), .ref c508]) rfl ?_
                  exact jn509 (((z506 * jn9v0) + 50) / 100) (by omega)
                · refine gy_icF rfl (by decide) (by decide) (by omega) (by omega) hc523 ?_
                  refine gz_s 2 (pc' := 117) (L' := [some (.ref m), some (.int (zi qu)), some (.int (zi jn9v0)), some (.int (zi k)), some (.int (zi (((z506 * jn9v0) + 50) / 100)))]) (S' := [.int (zi 255), .int (zi k), .ref c508]) rfl ?_
                  exact jn509 255 (by omega)
              · refine gy_icF rfl (by decide) (by decide) (by omega) (by omega) hc522 ?_
                refine gz_s 2 (pc' := 117) (L' := [some (.ref m), some (.int (zi qu)), some (.int (zi jn9v0)), some (.int (zi k)), some (.int (zi (((z506 * jn9v0) + 50) / 100)))]) (S' := [.int (zi 1), .int (zi k), .ref c508]) rfl ?_
                exact jn509 1 (by omega)
        exact gz_wk (lp10 _ h2 0 (Nat.lt_succ_self _) sh2 (by omega) s5 s6 s7 eh2 pr3 pr4 (fun i h0 h1 => absurd h1 (by omega))) (gLw.s (gLw.s (gLw.s (gLw.s (gLw.n gLw.z)))))
      by_cases hc524 : (50 : Int) ≤ qu
      · refine gy_icT (pc' := 54) rfl (by decide) (by decide) (by omega) (by omega) hc524 ?_
        refine gy_s 5 (pc' := 61) (L' := [some (.ref m), some (.int (zi qu)), none, none, none]) (S' := [.int ((zi 200) - ((zi 2) * (zi qu)))]) (L2 := [some (.ref m), some (.int (zi qu)), none, none, none]) (S2 := [.int (zi (200 - (2 * qu)))]) rfl (by simp only [zi_add, zi_sub, zi_mul, zi_neg, zi_and1, zi_and7, zi_and15, zi_and31, zi_and255]) (by simp only [zi_add, zi_sub, zi_mul, zi_neg, zi_and1, zi_and7, zi_and15, zi_and31, zi_and255]) ?_
        exact jn9 (200 - (2 * qu)) (by omega)
      · refine gy_icF rfl (by decide) (by decide) (by omega) (by omega) hc524 ?_
        refine gz_s 2 (pc' := 50) (L' := [some (.ref m), some (.int (zi qu)), none, none, none]) (S' := [.int (zi qu), .int (zi 5000)]) rfl ?_
        refine gy_div rfl (by decide) (by omega) (by omega) ?_
        have hd525 := zd_f (x := 5000) (y := qu) (by omega) (by omega)
        refine gz_s 1 (pc' := 61) (L' := [some (.ref m), some (.int (zi qu)), none, none, none]) (S' := [.int (zi (5000 / qu))]) rfl ?_
        exact jn9 (5000 / qu) (by omega)
    · refine gy_ifF rfl (by decide) (by decide) (by omega) hc8 ?_
      refine gz_s 1 (pc' := 39) (L' := [some (.ref m), some (.int (zi qu)), none, none, none]) (S' := [.int (zi 0)]) rfl ?_
      have hey526 : gEy ty 31 f qu cw h2 := gEy.no pr4 (by omega)
      exact gz_end (I := .ireturn) (len := 1) rfl (Or.inl rfl) ⟨sh2, 0, n0, rfl, (by omega), (by omega), s5, (by omega), (by omega), (by omega), (by omega), pr3, hey526⟩
  by_cases hc527 : (qu : Int) < 1
  · refine gy_icT (pc' := 12) rfl (by decide) (by decide) (by omega) (by omega) hc527 ?_
    refine gz_s 2 (pc' := 28) (L' := [some (.ref m), some (.int (zi qu)), none, none, none]) (S' := [.int (zi 1), .ref m]) rfl ?_
    exact jn1 1 (by omega)
  · refine gy_icF rfl (by decide) (by decide) (by omega) (by omega) hc527 ?_
    refine gz_s 2 (pc' := 9) (L' := [some (.ref m), some (.int (zi qu)), none, none, none]) (S' := [.int (zi 100), .int (zi qu), .ref m]) rfl ?_
    by_cases hc528 : (qu : Int) ≤ 100
    · refine gy_icT (pc' := 16) rfl (by decide) (by decide) (by omega) (by omega) hc528 ?_
      refine gz_s 1 (pc' := 17) (L' := [some (.ref m), some (.int (zi qu)), none, none, none]) (S' := [.ref m, .ref m]) rfl ?_
      refine gs_gtk rfl (by decide) rfl hS.1 tm rfl rfl ecw ?_
      by_cases hc529 : ¬ (cw : Int) = 0
      · refine gy_ifT (pc' := 27) rfl (by decide) (by decide) (by omega) hc529 ?_
        refine gz_s 1 (pc' := 28) (L' := [some (.ref m), some (.int (zi qu)), none, none, none]) (S' := [.int (zi 0), .ref m]) rfl ?_
        exact jn1 0 (by omega)
      · refine gy_ifF rfl (by decide) (by decide) (by omega) hc529 ?_
        refine gz_s 2 (pc' := 28) (L' := [some (.ref m), some (.int (zi qu)), none, none, none]) (S' := [.int (zi 2), .ref m]) rfl ?_
        exact jn1 2 (by omega)
    · refine gy_icF rfl (by decide) (by decide) (by omega) (by omega) hc528 ?_
      refine gz_s 2 (pc' := 28) (L' := [some (.ref m), some (.int (zi qu)), none, none, none]) (S' := [.int (zi 1), .ref m]) rfl ?_
      exact jn1 1 (by omega)
