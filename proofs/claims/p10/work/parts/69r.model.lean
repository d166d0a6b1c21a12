/-! ===== the model: methods (by program) ===== -/
set_option maxRecDepth 20000 in
set_option maxHeartbeats 4000000 in
theorem mm_leastNode2 (d : Nat) {ty : Nat → Nat} {h : gH} (hJ : gJ rT 1027 ty h) (m : Nat) (tm : ty m = 1) (nd : Int) (rnd : 0 ≤ nd ∧ nd ≤ 513) (wf pf : Nat → Int) (hyf39 : gRow ty 39 wf h) (hyf41 : gRow ty 41 pf h) : gz gPP gGG gcn (d + 0) gt202 0 (gent [.ref m, .int (zi nd)] 5) [] h (fun q _ => gSs rT 1027 ty [] h q.2.2 ∧ ∃ z : Int, gfin gt202 q.1 q.2.1 = some (some (.int (zi z))) ∧ (-1) ≤ z ∧ z ≤ 512 ∧ (z < nd) ∧ (gLst wf pf nd z)) := by
  have hS : gSs rT 1027 ty [] h h := gSs.rf hJ
  refine gz_s 4 (pc' := 4) (L' := [some (.ref m), some (.int (zi nd)), some (.int (zi (-1))), some (.int (zi 0)), none]) (S' := []) rfl ?_
  have lp1 : ∀ (fu : Nat) (h2 : gH) (bt : Int) (k : Int), (514 - k).toNat < fu → gSs rT 1027 ty [] h h2 → ((-1) ≤ bt ∧ bt ≤ 512) → (0 ≤ k ∧ k ≤ 513) → (bt < k) → (k ≤ nd) → gRow ty 39 wf h2 → gRow ty 41 pf h2 → gLst wf pf k bt → gz gPP gGG gcn (d + 0) gt202 4 [some (.ref m), some (.int (zi nd)), some (.int (zi bt)), some (.int (zi k)), none] [] h2 (fun q _ => gSs rT 1027 ty [] h q.2.2 ∧ ∃ z : Int, gfin gt202 q.1 q.2.1 = some (some (.int (zi z))) ∧ (-1) ≤ z ∧ z ≤ 512 ∧ (z < nd) ∧ (gLst wf pf nd z)) := by
    intro fu
    induction fu with
    | zero => intro h2 bt k hm; exact absurd hm (Nat.not_lt_zero _)
    | succ fu ihlp1 =>
      intro h2 bt k lp1m sh2 lp1f0 lp1f1 lp1f2 lp1f3 lp1k0 lp1k1 lp1k2
      refine gz_s 2 (pc' := 6) (L' := [some (.ref m), some (.int (zi nd)), some (.int (zi bt)), some (.int (zi k)), none]) (S' := [.int (zi nd), .int (zi k)]) rfl ?_
      by_cases hc3 : (nd : Int) ≤ k
      · refine gy_icT (pc' := 98) rfl (by decide) (by decide) (by omega) (by omega) hc3 ?_
        refine gz_s 1 (pc' := 99) (L' := [some (.ref m), some (.int (zi nd)), some (.int (zi bt)), some (.int (zi k)), none]) (S' := [.int (zi bt)]) rfl ?_
        have hls4 : gLst wf pf nd bt := by rw [(by omega : nd = k)]; exact lp1k2
        exact gz_end (I := .ireturn) (len := 1) rfl (Or.inl rfl) ⟨sh2, bt, rfl, (by omega), (by omega), (by omega), hls4⟩
      · refine gy_icF rfl (by decide) (by decide) (by omega) (by omega) hc3 ?_
        refine gz_s 1 (pc' := 10) (L' := [some (.ref m), some (.int (zi nd)), some (.int (zi bt)), some (.int (zi k)), none]) (S' := [.ref m]) rfl ?_
        refine gs_gtr rfl (by decide) rfl sh2.1 tm rfl rfl rfl (fun c5 ec5 tc5 => ?_)
        refine gz_s 1 (pc' := 14) (L' := [some (.ref m), some (.int (zi nd)), some (.int (zi bt)), some (.int (zi k)), none]) (S' := [.int (zi k), .ref c5]) rfl ?_
        have hl6 : 514 ≤ h2.2.2.2.1 c5 ∧ h2.2.2.2.1 c5 ≤ 514 := gJ.rowl (G := gGG) sh2.1 tc5 rfl
        refine gs_ald rfl (by decide) sh2.1 tc5 rfl rfl rfl (by decide) (fun _ => rfl) (by omega) (by omega) (fun z7 ez7 az7 bz7 => ?_)
        have hf8 := gRow.at (i := k) (z := z7) lp1k0 tc5 ez7 (by omega) (by omega) (by omega)
        by_cases hc9 : (z7 : Int) ≤ 0
        · refine gy_ifT (pc' := 32) rfl (by decide) (by decide) (by omega) hc9 ?_
          refine gz_s 3 (pc' := 37) (L' := [some (.ref m), some (.int (zi nd)), some (.int (zi bt)), some (.int (zi k)), some (.int (zi 0))]) (S' := [.int (zi 0)]) rfl ?_
          refine gy_ifT (pc' := 92) rfl (by decide) (by decide) (by omega) (by first | (simp [zc]; done) | (simp only [zc]; omega)) ?_
          have hls10 : gLst wf pf (k + 1) bt := gLst.pass (by omega) lp1k2 (by omega)
          refine gy_s 2 (pc' := 4) (L' := [some (.ref m), some (.int (zi nd)), some (.int (zi bt)), some (.int ((zi k) + zi 1)), some (.int (zi 0))]) (S' := []) (L2 := [some (.ref m), some (.int (zi nd)), some (.int (zi bt)), some (.int (zi (k + 1))), some (.int (zi 0))]) (S2 := []) rfl (by simp only [zi_add, zi_sub, zi_mul, zi_neg, zi_and1, zi_and7, zi_and15, zi_and31, zi_and255]) (by simp only [zi_add, zi_sub, zi_mul, zi_neg, zi_and1, zi_and7, zi_and15, zi_and31, zi_and255]) ?_
          exact gz_wk (ihlp1 h2 bt (k + 1) (by omega) sh2 (by omega) (by omega) (by omega) (by omega) lp1k0 lp1k1 hls10) (gLw.s (gLw.s (gLw.s (gLw.s (gLw.n gLw.z)))))
        · refine gy_ifF rfl (by decide) (by decide) (by omega) hc9 ?_
          refine gz_s 1 (pc' := 19) (L' := [some (.ref m), some (.int (zi nd)), some (.int (zi bt)), some (.int (zi k)), none]) (S' := [.ref m]) rfl ?_
          refine gs_gtr rfl (by decide) rfl sh2.1 tm rfl rfl rfl (fun c11 ec11 tc11 => ?_)
          refine gz_s 1 (pc' := 23) (L' := [some (.ref m), some (.int (zi nd)), some (.int (zi bt)), some (.int (zi k)), none]) (S' := [.int (zi k), .ref c11]) rfl ?_
          have hl12 : 514 ≤ h2.2.2.2.1 c11 ∧ h2.2.2.2.1 c11 ≤ 514 := gJ.rowl (G := gGG) sh2.1 tc11 rfl
          refine gs_ald rfl (by decide) sh2.1 tc11 rfl rfl rfl (by decide) (fun _ => rfl) (by omega) (by omega) (fun z13 ez13 az13 bz13 => ?_)
          have hf14 := gRow.at (i := k) (z := z13) lp1k1 tc11 ez13 (by omega) (by omega) (by omega)
          refine gz_s 1 (pc' := 25) (L' := [some (.ref m), some (.int (zi nd)), some (.int (zi bt)), some (.int (zi k)), none]) (S' := [.int (zi (-1)), .int (zi z13)]) rfl ?_
          by_cases hc15 : ¬ (z13 : Int) = (-1)
          · refine gy_icT (pc' := 32) rfl (by decide) (by decide) (by omega) (by omega) hc15 ?_
            refine gz_s 3 (pc' := 37) (L' := [some (.ref m), some (.int (zi nd)), some (.int (zi bt)), some (.int (zi k)), some (.int (zi 0))]) (S' := [.int (zi 0)]) rfl ?_
            refine gy_ifT (pc' := 92) rfl (by decide) (by decide) (by omega) (by first | (simp [zc]; done) | (simp only [zc]; omega)) ?_
            have hls16 : gLst wf pf (k + 1) bt := gLst.pass (by omega) lp1k2 (by omega)
            refine gy_s 2 (pc' := 4) (L' := [some (.ref m), some (.int (zi nd)), some (.int (zi bt)), some (.int ((zi k) + zi 1)), some (.int (zi 0))]) (S' := []) (L2 := [some (.ref m), some (.int (zi nd)), some (.int (zi bt)), some (.int (zi (k + 1))), some (.int (zi 0))]) (S2 := []) rfl (by simp only [zi_add, zi_sub, zi_mul, zi_neg, zi_and1, zi_and7, zi_and15, zi_and31, zi_and255]) (by simp only [zi_add, zi_sub, zi_mul, zi_neg, zi_and1, zi_and7, zi_and15, zi_and31, zi_and255]) ?_
            exact gz_wk (ihlp1 h2 bt (k + 1) (by omega) sh2 (by omega) (by omega) (by omega) (by omega) lp1k0 lp1k1 hls16) (gLw.s (gLw.s (gLw.s (gLw.s (gLw.n gLw.z)))))
          · refine gy_icF rfl (by decide) (by decide) (by omega) (by omega) hc15 ?_
            refine gz_s 4 (pc' := 37) (L' := [some (.ref m), some (.int (zi nd)), some (.int (zi bt)), some (.int (zi k)), some (.int (zi 1))]) (S' := [.int (zi 1)]) rfl ?_
            refine gy_ifF rfl (by decide) (by decide) (by omega) (by first | (simp [zc]; done) | (simp only [zc]; omega)) ?_
            refine gz_s 2 (pc' := 42) (L' := [some (.ref m), some (.int (zi nd)), some (.int (zi bt)), some (.int (zi k)), some (.int (zi 1))]) (S' := [.int (zi (-1)), .int (zi bt)]) rfl ?_
            by_cases hc17 : (bt : Int) = (-1)
            · refine gy_icT (pc' := 90) rfl (by decide) (by decide) (by omega) (by omega) hc17 ?_
              refine gz_s 2 (pc' := 92) (L' := [some (.ref m), some (.int (zi nd)), some (.int (zi k)), some (.int (zi k)), some (.int (zi 1))]) (S' := []) rfl ?_
              have hls18 : gLst wf pf (k + 1) k := gLst.take (by omega) lp1k2 (by omega) (by omega) (by omega)
              refine gy_s 2 (pc' := 4) (L' := [some (.ref m), some (.int (zi nd)), some (.int (zi k)), some (.int ((zi k) + zi 1)), some (.int (zi 1))]) (S' := []) (L2 := [some (.ref m), some (.int (zi nd)), some (.int (zi k)), some (.int (zi (k + 1))), some (.int (zi 1))]) (S2 := []) rfl (by simp only [zi_add, zi_sub, zi_mul, zi_neg, zi_and1, zi_and7, zi_and15, zi_and31, zi_and255]) (by simp only [zi_add, zi_sub, zi_mul, zi_neg, zi_and1, zi_and7, zi_and15, zi_and31, zi_and255]) ?_
              exact gz_wk (ihlp1 h2 k (k + 1) (by omega) sh2 (by omega) (by omega) (by omega) (by omega) lp1k0 lp1k1 hls18) (gLw.s (gLw.s (gLw.s (gLw.s (gLw.n gLw.z)))))
            · refine gy_icF rfl (by decide) (by decide) (by omega) (by omega) hc17 ?_
              refine gz_s 1 (pc' := 46) (L' := [some (.ref m), some (.int (zi nd)), some (.int (zi bt)), some (.int (zi k)), some (.int (zi 1))]) (S' := [.ref m]) rfl ?_
              refine gs_gtk rfl (by decide) rfl sh2.1 tm rfl rfl ec5 ?_
              refine gz_s 1 (pc' := 50) (L' := [some (.ref m), some (.int (zi nd)), some (.int (zi bt)), some (.int (zi k)), some (.int (zi 1))]) (S' := [.int (zi k), .ref c5]) rfl ?_
              have hl19 : 514 ≤ h2.2.2.2.1 c5 ∧ h2.2.2.2.1 c5 ≤ 514 := gJ.rowl (G := gGG) sh2.1 tc5 rfl
              refine gs_ald rfl (by decide) sh2.1 tc5 rfl rfl rfl (by decide) (fun _ => rfl) (by omega) (by omega) (fun z20 ez20 az20 bz20 => ?_)
              have hf21 := gRow.at (i := k) (z := z20) lp1k0 tc5 ez20 (by omega) (by omega) (by omega)
              refine gz_s 1 (pc' := 52) (L' := [some (.ref m), some (.int (zi nd)), some (.int (zi bt)), some (.int (zi k)), some (.int (zi 1))]) (S' := [.ref m, .int (zi z20)]) rfl ?_
              refine gs_gtk rfl (by decide) rfl sh2.1 tm rfl rfl ec5 ?_
              refine gz_s 1 (pc' := 56) (L' := [some (.ref m), some (.int (zi nd)), some (.int (zi bt)), some (.int (zi k)), some (.int (zi 1))]) (S' := [.int (zi bt), .ref c5, .int (zi z20)]) rfl ?_
              have hl22 : 514 ≤ h2.2.2.2.1 c5 ∧ h2.2.2.2.1 c5 ≤ 514 := gJ.rowl (G := gGG) sh2.1 tc5 rfl
              refine gs_ald rfl (by decide) sh2.1 tc5 rfl rfl rfl (by decide) (fun _ => rfl) (by omega) (by omega) (fun z23 ez23 az23 bz23 => ?_)
              have hf24 := gRow.at (i := bt) (z := z23) lp1k0 tc5 ez23 (by omega) (by omega) (by omega)
              by_cases hc25 : (z20 : Int) < z23
              · refine gy_icT (pc' := 90) rfl (by decide) (by decide) (by omega) (by omega) hc25 ?_
                refine gz_s 2 (pc' := 92) (L' := [some (.ref m), some (.int (zi nd)), some (.int (zi k)), some (.int (zi k)), some (.int (zi 1))]) (S' := []) rfl ?_
                have hls26 : gLst wf pf (k + 1) k := gLst.take (by omega) lp1k2 (by omega) (by omega) (by omega)
                refine gy_s 2 (pc' := 4) (L' := [some (.ref m), some (.int (zi nd)), some (.int (zi k)), some (.int ((zi k) + zi 1)), some (.int (zi 1))]) (S' := []) (L2 := [some (.ref m), some (.int (zi nd)), some (.int (zi k)), some (.int (zi (k + 1))), some (.int (zi 1))]) (S2 := []) rfl (by simp only [zi_add, zi_sub, zi_mul, zi_neg, zi_and1, zi_and7, zi_and15, zi_and31, zi_and255]) (by simp only [zi_add, zi_sub, zi_mul, zi_neg, zi_and1, zi_and7, zi_and15, zi_and31, zi_and255]) ?_
                exact gz_wk (ihlp1 h2 k (k + 1) (by omega) sh2 (by omega) (by omega) (by omega) (by omega) lp1k0 lp1k1 hls26) (gLw.s (gLw.s (gLw.s (gLw.s (gLw.n gLw.z)))))
              · refine gy_icF rfl (by decide) (by decide) (by omega) (by omega) hc25 ?_
                refine gz_s 1 (pc' := 61) (L' := [some (.ref m), some (.int (zi nd)), some (.int (zi bt)), some (.int (zi k)), some (.int (zi 1))]) (S' := [.ref m]) rfl ?_
                refine gs_gtk rfl (by decide) rfl sh2.1 tm rfl rfl ec5 ?_
                refine gz_s 1 (pc' := 65) (L' := [some (.ref m), some (.int (zi nd)), some (.int (zi bt)), some (.int (zi k)), some (.int (zi 1))]) (S' := [.int (zi k), .ref c5]) rfl ?_
                have hl27 : 514 ≤ h2.2.2.2.1 c5 ∧ h2.2.2.2.1 c5 ≤ 514 := gJ.rowl (G := gGG) sh2.1 tc5 rfl
                refine gs_ald rfl (by decide) sh2.1 tc5 rfl rfl rfl (by decide) (fun _ => rfl) (by omega) (by omega) (fun z28 ez28 az28 bz28 => ?_)
                have hf29 := gRow.at (i := k) (z := z28) lp1k0 tc5 ez28 (by omega) (by omega) (by omega)
                refine gz_s 1 (pc' := 67) (L' := [some (.ref m), some (.int (zi nd)), some (.int (zi bt)), some (.int (zi k)), some (.int (zi 1))]) (S' := [.ref m, .int (zi z28)]) rfl ?_
                refine gs_gtk rfl (by decide) rfl sh2.1 tm rfl rfl ec5 ?_
                refine gz_s 1 (pc' := 71) (L' := [some (.ref m), some (.int (zi nd)), some (.int (zi bt)), some (.int (zi k)), some (.int (zi 1))]) (S' := [.int (zi bt), .ref c5, .int (zi z28)]) rfl ?_
                have hl30 : 514 ≤ h2.2.2.2.1 c5 ∧ h2.2.2.2.1 c5 ≤ 514 := gJ.rowl (G := gGG) sh2.1 tc5 rfl
                refine gs_ald rfl (by decide) sh2.1 tc5 rfl rfl rfl (by decide) (fun _ => rfl) (by omega) (by omega) (fun z31 ez31 az31 bz31 => ?_)
                have hf32 := gRow.at (i := bt) (z := z31) lp1k0 tc5 ez31 (by omega) (by omega) (by omega)
                by_cases hc33 : ¬ (z28 : Int) = z31
                · refine gy_icT (pc' := 92) rfl (by decide) (by decide) (by omega) (by omega) hc33 ?_
                  have hls34 : gLst wf pf (k + 1) bt := gLst.pass (by omega) lp1k2 (by omega)
                  refine gy_s 2 (pc' := 4) (L' := [some (.ref m), some (.int (zi nd)), some (.int (zi bt)), some (.int ((zi k) + zi 1)), some (.int (zi 1))]) (S' := []) (L2 := [some (.ref m), some (.int (zi nd)), some (.int (zi bt)), some (.int (zi (k + 1))), some (.int (zi 1))]) (S2 := []) rfl (by simp only [zi_add, zi_sub, zi_mul, zi_neg, zi_and1, zi_and7, zi_and15, zi_and31, zi_and255]) (by simp only [zi_add, zi_sub, zi_mul, zi_neg, zi_and1, zi_and7, zi_and15, zi_and31, zi_and255]) ?_
                  exact gz_wk (ihlp1 h2 bt (k + 1) (by omega) sh2 (by omega) (by omega) (by omega) (by omega) lp1k0 lp1k1 hls34) (gLw.s (gLw.s (gLw.s (gLw.s (gLw.n gLw.z)))))
                · refine gy_icF rfl (by decide) (by decide) (by omega) (by omega) hc33 ?_
                  refine gz_s 1 (pc' := 76) (L' := [some (.ref m), some (.int (zi nd)), some (.int (zi bt)), some (.int (zi k)), some (.int (zi 1))]) (S' := [.ref m]) rfl ?_
                  refine gs_gtr rfl (by decide) rfl sh2.1 tm rfl rfl rfl (fun c35 ec35 tc35 => ?_)
                  refine gz_s 1 (pc' := 80) (L' := [some (.ref m), some (.int (zi nd)), some (.int (zi bt)), some (.int (zi k)), some (.int (zi 1))]) (S' := [.int (zi k), .ref c35]) rfl ?_
                  have hl36 : 514 ≤ h2.2.2.2.1 c35 ∧ h2.2.2.2.1 c35 ≤ 514 := gJ.rowl (G := gGG) sh2.1 tc35 rfl
                  refine gs_ald rfl (by decide) sh2.1 tc35 rfl rfl rfl (by decide) (fun _ => rfl) (by omega) (by omega) (fun z37 ez37 az37 bz37 => ?_)
                  refine gz_s 1 (pc' := 82) (L' := [some (.ref m), some (.int (zi nd)), some (.int (zi bt)), some (.int (zi k)), some (.int (zi 1))]) (S' := [.ref m, .int (zi z37)]) rfl ?_
                  refine gs_gtk rfl (by decide) rfl sh2.1 tm rfl rfl ec35 ?_
                  refine gz_s 1 (pc' := 86) (L' := [some (.ref m), some (.int (zi nd)), some (.int (zi bt)), some (.int (zi k)), some (.int (zi 1))]) (S' := [.int (zi bt), .ref c35, .int (zi z37)]) rfl ?_
                  have hl38 : 514 ≤ h2.2.2.2.1 c35 ∧ h2.2.2.2.1 c35 ≤ 514 := gJ.rowl (G := gGG) sh2.1 tc35 rfl
                  refine gs_ald rfl (by decide) sh2.1 tc35 rfl rfl rfl (by decide) (fun _ => rfl) (by omega) (by omega) (fun z39 ez39 az39 bz39 => ?_)
                  by_cases hc40 : (z37 : Int) ≤ z39
                  · refine gy_icT (pc' := 92) rfl (by decide) (by decide) (by omega) (by omega) hc40 ?_
                    have hls41 : gLst wf pf (k + 1) bt := gLst.pass (by omega) lp1k2 (by omega)
                    refine gy_s 2 (pc' := 4) (L' := [some (.ref m), some (.int (zi nd)), some (.int (zi bt)), some (.int ((zi k) + zi 1)), some (.int (zi 1))]) (S' := []) (L2 := [some (.ref m), some (.int (zi nd)), some (.int (zi bt)), some (.int (zi (k + 1))), some (.int (zi 1))]) (S2 := []) rfl (by simp only [zi_add, zi_sub, zi_mul, zi_neg, zi_and1, zi_and7, zi_and15, zi_and31, zi_and255]) (by simp only [zi_add, zi_sub, zi_mul, zi_neg, zi_and1, zi_and7, zi_and15, zi_and31, zi_and255]) ?_
                    exact gz_wk (ihlp1 h2 bt (k + 1) (by omega) sh2 (by omega) (by omega) (by omega) (by omega) lp1k0 lp1k1 hls41) (gLw.s (gLw.s (gLw.s (gLw.s (gLw.n gLw.z)))))
                  · refine gy_icF rfl (by decide) (by decide) (by omega) (by omega) hc40 ?_
                    refine gz_s 2 (pc' := 92) (L' := [some (.ref m), some (.int (zi nd)), some (.int (zi k)), some (.int (zi k)), some (.int (zi 1))]) (S' := []) rfl ?_
                    have hls42 : gLst wf pf (k + 1) k := gLst.take (by omega) lp1k2 (by omega) (by omega) (by omega)
                    refine gy_s 2 (pc' := 4) (L' := [some (.ref m), some (.int (zi nd)), some (.int (zi k)), some (.int ((zi k) + zi 1)), some (.int (zi 1))]) (S' := []) (L2 := [some (.ref m), some (.int (zi nd)), some (.int (zi k)), some (.int (zi (k + 1))), some (.int (zi 1))]) (S2 := []) rfl (by simp only [zi_add, zi_sub, zi_mul, zi_neg, zi_and1, zi_and7, zi_and15, zi_and31, zi_and255]) (by simp only [zi_add, zi_sub, zi_mul, zi_neg, zi_and1, zi_and7, zi_and15, zi_and31, zi_and255]) ?_
                    exact gz_wk (ihlp1 h2 k (k + 1) (by omega) sh2 (by omega) (by omega) (by omega) (by omega) lp1k0 lp1k1 hls42) (gLw.s (gLw.s (gLw.s (gLw.s (gLw.n gLw.z)))))
  exact gz_wk (lp1 _ h (-1) 0 (Nat.lt_succ_self _) hS (by omega) (by omega) (by omega) (by omega) hyf39 hyf41 gLst.zero) (gLw.s (gLw.s (gLw.s (gLw.s (gLw.n gLw.z)))))
set_option maxRecDepth 20000 in
set_option maxHeartbeats 4000000 in
theorem mm_suit (d : Nat) {ty : Nat → Nat} {h : gH} (hJ : gJ rT 1027 ty h) (m : Nat) (tm : ty m = 1) (wh : Int) (rwh : 0 ≤ wh ∧ wh ≤ 1) (so0 : Int) (rso0 : 0 ≤ so0 ∧ so0 ≤ 1999) (uq : gUq ty) (hyof : gOf ty so0 h) (hyo1 : gO1 ty wh h) : gz gPP gGG gcn (d + 1) gt201 0 (gent [.ref m, .int (zi wh)] 8) [] h (fun q _ => gSs rT 1027 ty [37999, 38999, 39999, 40999, 41999] h q.2.2 ∧ gfin gt201 q.1 q.2.1 = some none) := by
  have hS : gSs rT 1027 ty [37999, 38999, 39999, 40999, 41999] h h := gSs.rf hJ
  obtain ⟨fo, ro, nno, sfo⟩ := hyof
  obtain ⟨c1, ec1, tc1⟩ := gJ.ref (k := 68) (G := gGG) hS.1 tm rfl rfl rfl
  obtain ⟨c2, ec2, tc2⟩ := gJ.ref (k := 71) (G := gGG) hS.1 tm rfl rfl rfl
  obtain ⟨c3, ec3, tc3⟩ := gJ.ref (k := 73) (G := gGG) hS.1 tm rfl rfl rfl
  have o256 := gEl.row hS.1 tc1 rfl rfl (fun _ => rfl) (by decide) (by decide) ro (i := 257 * wh + 256) (by omega) (by omega) hyo1
  refine gz_s 4 (pc' := 6) (L' := [some (.ref m), some (.int (zi wh)), some (.int (zi 257)), some (.int (zi 0)), none, none, none, none]) (S' := []) rfl ?_
  have hti5 : gTi ty fo (257 * wh) 0 h := ⟨_, _, gRow.mk uq tc2 (by decide) (fun _ => rfl), gRow.mk uq tc3 (by decide) (fun _ => rfl), fun j hj => absurd hj (by omega)⟩
  have lp4 : ∀ (fu : Nat) (h6 : gH) (s : Int), (515 - s).toNat < fu → gSs rT 1027 ty [37999, 38999, 39999, 40999, 41999] h h6 → (0 ≤ s ∧ s ≤ 514) → h6.2.2.2.2 m 68 = .ref c1 → h6.2.2.2.2 m 71 = .ref c2 → h6.2.2.2.2 m 73 = .ref c3 → gO1 ty wh h6 → gRow ty 36 fo h6 → gTi ty fo (257 * wh) s h6 → gz gPP gGG gcn (d + 1) gt201 6 [some (.ref m), some (.int (zi wh)), some (.int (zi 257)), some (.int (zi s)), none, none, none, none] [] h6 (fun q _ => gSs rT 1027 ty [37999, 38999, 39999, 40999, 41999] h q.2.2 ∧ gfin gt201 q.1 q.2.1 = some none) := by
    intro fu
    induction fu with
    | zero => intro h6 s hm; exact absurd hm (Nat.not_lt_zero _)
    | succ fu ihlp4 =>
      intro h6 s lp4m sh6 lp4f0 lp4k0 lp4k1 lp4k2 lp4k3 lp4k4 lp4k5
      refine gz_s 2 (pc' := 10) (L' := [some (.ref m), some (.int (zi wh)), some (.int (zi 257)), some (.int (zi s)), none, none, none, none]) (S' := [.int (zi 514), .int (zi s)]) rfl ?_
      by_cases hc7 : (514 : Int) ≤ s
      · refine gy_icT (pc' := 62) rfl (by decide) (by decide) (by omega) (by omega) hc7 ?_
        refine gz_s 2 (pc' := 64) (L' := [some (.ref m), some (.int (zi wh)), some (.int (zi 257)), some (.int (zi 1)), none, none, none, none]) (S' := []) rfl ?_
        have htr9 : gTree ty 257 h6 := by
          have e514 := lp4k5
          rw [(by omega : s = 514)] at e514
          obtain ⟨g1, g2⟩ := e514.out
          refine ⟨_, _, g1, g2, gTr.init nno sfo (by omega) (by omega) ?_⟩
          have e256 : (257 * wh + 256).toNat = (257 * wh).toNat + 256 := by omega
          rw [e256] at o256
          omega
        have lp8 : ∀ (fu : Nat) (h10 : gH) (nd : Int) (mo : Int), (2 * (514 - nd) + mo).toNat < fu → gSs rT 1027 ty [37999, 38999, 39999, 40999, 41999] h h10 → (257 ≤ nd ∧ nd ≤ 513) → (0 ≤ mo ∧ mo ≤ 1) → h10.2.2.2.2 m 68 = .ref c1 → h10.2.2.2.2 m 71 = .ref c2 → h10.2.2.2.2 m 73 = .ref c3 → gO1 ty wh h10 → gRow ty 36 fo h10 → gTree ty nd h10 → gz gPP gGG gcn (d + 1) gt201 64 [some (.ref m), some (.int (zi wh)), some (.int (zi nd)), some (.int (zi mo)), none, none, none, none] [] h10 (fun q _ => gSs rT 1027 ty [37999, 38999, 39999, 40999, 41999] h q.2.2 ∧ gfin gt201 q.1 q.2.1 = some none) := by
          intro fu
          induction fu with
          | zero => intro h10 nd mo hm; exact absurd hm (Nat.not_lt_zero _)
          | succ fu ihlp8 =>
            intro h10 nd mo lp8m sh10 lp8f0 lp8f1 lp8k0 lp8k1 lp8k2 lp8k3 lp8k4 lp8k5
            refine gz_s 1 (pc' := 65) (L' := [some (.ref m), some (.int (zi wh)), some (.int (zi nd)), some (.int (zi mo)), none, none, none, none]) (S' := [.int (zi mo)]) rfl ?_
            by_cases hc11 : (mo : Int) = 0
            · refine gy_ifT (pc' := 192) rfl (by decide) (by decide) (by omega) hc11 ?_
              obtain ⟨wf, pf, rwf, rpf, htr9⟩ := lp8k5
              have hsz := htr9.sz
              have hwr := gRow.rng sh10.1 tc2 rfl rfl (fun _ => rfl) (by decide) (by decide) rwf
              refine gz_s 4 (pc' := 198) (L' := [some (.ref m), some (.int (zi wh)), some (.int (zi nd)), some (.int (zi mo)), some (.int (zi 0)), some (.int (zi 0)), none, none]) (S' := []) rfl ?_
              have lp12 : ∀ (fu : Nat) (h13 : gH) (s2 : Int), (258 - s2).toNat < fu → gSs rT 1027 ty [37999, 38999, 39999, 40999, 41999] h h13 → (0 ≤ s2 ∧ s2 ≤ 257) → h13.2.2.2.2 m 68 = .ref c1 → h13.2.2.2.2 m 71 = .ref c2 → h13.2.2.2.2 m 73 = .ref c3 → gO1 ty wh h13 → gRow ty 36 fo h13 → gRow ty 39 wf h13 → gRow ty 41 pf h13 → gz gPP gGG gcn (d + 1) gt201 198 [some (.ref m), some (.int (zi wh)), some (.int (zi nd)), some (.int (zi mo)), some (.int (zi 0)), some (.int (zi s2)), none, none] [] h13 (fun q _ => gSs rT 1027 ty [37999, 38999, 39999, 40999, 41999] h q.2.2 ∧ gfin gt201 q.1 q.2.1 = some none) := by
                intro fu
                induction fu with
                | zero => intro h13 s2 hm; exact absurd hm (Nat.not_lt_zero _)
                | succ fu ihlp12 =>
                  intro h13 s2 lp12m sh13 lp12f0 lp12k0 lp12k1 lp12k2 lp12k3 lp12k4 lp12k5 lp12k6
                  refine gz_s 2 (pc' := 203) (L' := [some (.ref m), some (.int (zi wh)), some (.int (zi nd)), some (.int (zi mo)), some (.int (zi 0)), some (.int (zi s2)), none, none]) (S' := [.int (zi 257), .int (zi s2)]) rfl ?_
                  by_cases hc14 : (257 : Int) ≤ s2
                  · refine gy_icT (pc' := 270) rfl (by decide) (by decide) (by omega) (by omega) hc14 ?_
                    refine gz_s 2 (pc' := 273) (L' := [some (.ref m), some (.int (zi wh)), some (.int (zi nd)), some (.int (zi mo)), some (.int (zi 0)), some (.int (zi 1)), none, none]) (S' := []) rfl ?_
                    have lp15 : ∀ (fu : Nat) (h16 : gH) (cd : Int) (b1 : Int), (18 - b1).toNat < fu → gSs rT 1027 ty [37999, 38999, 39999, 40999, 41999] h h16 → ((-2147483648) ≤ cd ∧ cd ≤ 2147483647) → (1 ≤ b1 ∧ b1 ≤ 17) → h16.2.2.2.2 m 68 = .ref c1 → h16.2.2.2.2 m 71 = .ref c2 → h16.2.2.2.2 m 73 = .ref c3 → gO1 ty wh h16 → gRow ty 36 fo h16 → gRow ty 39 wf h16 → gRow ty 41 pf h16 → gz gPP gGG gcn (d + 1) gt201 273 [some (.ref m), some (.int (zi wh)), some (.int (zi nd)), some (.int (zi mo)), some (.int (zi cd)), some (.int (zi b1)), none, none] [] h16 (fun q _ => gSs rT 1027 ty [37999, 38999, 39999, 40999, 41999] h q.2.2 ∧ gfin gt201 q.1 q.2.1 = some none) := by
                      intro fu
                      induction fu with
                      | zero => intro h16 cd b1 hm; exact absurd hm (Nat.not_lt_zero _)
                      | succ fu ihlp15 =>
                        intro h16 cd b1 lp15m sh16 lp15f0 lp15f1 lp15k0 lp15k1 lp15k2 lp15k3 lp15k4 lp15k5 lp15k6
                        refine gz_s 2 (pc' := 277) (L' := [some (.ref m), some (.int (zi wh)), some (.int (zi nd)), some (.int (zi mo)), some (.int (zi cd)), some (.int (zi b1)), none, none]) (S' := [.int (zi 16), .int (zi b1)]) rfl ?_
                        by_cases hc17 : (16 : Int) < b1
                        · refine gy_icT (pc' := 345) rfl (by decide) (by decide) (by omega) (by omega) hc17 ?_
                          exact gz_end (I := .return_) (len := 1) rfl (Or.inl rfl) ⟨sh16, rfl⟩
                        · refine gy_icF rfl (by decide) (by decide) (by omega) (by omega) hc17 ?_
                          refine gy_s 3 (pc' := 284) (L' := [some (.ref m), some (.int (zi wh)), some (.int (zi nd)), some (.int (zi mo)), some (.int (zi cd)), some (.int (zi b1)), none, none]) (S' := [.int ((zi 2) * (zi cd))]) (L2 := [some (.ref m), some (.int (zi wh)), some (.int (zi nd)), some (.int (zi mo)), some (.int (zi cd)), some (.int (zi b1)), none, none]) (S2 := [.int (zi (2 * cd))]) rfl (by simp only [zi_add, zi_sub, zi_mul, zi_neg, zi_and1, zi_and7, zi_and15, zi_and31, zi_and255]) (by simp only [zi_add, zi_sub, zi_mul, zi_neg, zi_and1, zi_and7, zi_and15, zi_and31, zi_and255]) ?_
                          refine gy_any (fun z18 ez18 az18 bz18 => ?_)
                          refine gz_s 3 (pc' := 289) (L' := [some (.ref m), some (.int (zi wh)), some (.int (zi nd)), some (.int (zi mo)), some (.int (zi z18)), some (.int (zi b1)), some (.int (zi 0)), none]) (S' := []) rfl ?_
                          have lp19 : ∀ (fu : Nat) (h20 : gH) (cd2 : Int) (s3 : Int), (257 - s3).toNat < fu → gSs rT 1027 ty [37999, 38999, 39999, 40999, 41999] h h20 → ((-2147483648) ≤ cd2 ∧ cd2 ≤ 2147483647) → (0 ≤ s3 ∧ s3 ≤ 256) → h20.2.2.2.2 m 68 = .ref c1 → h20.2.2.2.2 m 71 = .ref c2 → h20.2.2.2.2 m 73 = .ref c3 → gO1 ty wh h20 → gRow ty 36 fo h20 → gRow ty 39 wf h20 → gRow ty 41 pf h20 → gz gPP gGG gcn (d + 1) gt201 289 [some (.ref m), some (.int (zi wh)), some (.int (zi nd)), some (.int (zi mo)), some (.int (zi cd2)), some (.int (zi b1)), some (.int (zi s3)), none] [] h20 (fun q _ => gSs rT 1027 ty [37999, 38999, 39999, 40999, 41999] h q.2.2 ∧ gfin gt201 q.1 q.2.1 = some none) := by
                            intro fu
                            induction fu with
                            | zero => intro h20 cd2 s3 hm; exact absurd hm (Nat.not_lt_zero _)
                            | succ fu ihlp19 =>
                              intro h20 cd2 s3 lp19m sh20 lp19f0 lp19f1 lp19k0 lp19k1 lp19k2 lp19k3 lp19k4 lp19k5 lp19k6
                              refine gz_s 2 (pc' := 294) (L' := [some (.ref m), some (.int (zi wh)), some (.int (zi nd)), some (.int (zi mo)), some (.int (zi cd2)), some (.int (zi b1)), some (.int (zi s3)), none]) (S' := [.int (zi 256), .int (zi s3)]) rfl ?_
                              by_cases hc21 : (256 : Int) ≤ s3
                              · refine gy_icT (pc' := 339) rfl (by decide) (by decide) (by omega) (by omega) hc21 ?_
                                refine gy_s 2 (pc' := 273) (L' := [some (.ref m), some (.int (zi wh)), some (.int (zi nd)), some (.int (zi mo)), some (.int (zi cd2)), some (.int ((zi b1) + zi 1)), some (.int (zi s3)), none]) (S' := []) (L2 := [some (.ref m), some (.int (zi wh)), some (.int (zi nd)), some (.int (zi mo)), some (.int (zi cd2)), some (.int (zi (b1 + 1))), some (.int (zi s3)), none]) (S2 := []) rfl (by simp only [zi_add, zi_sub, zi_mul, zi_neg, zi_and1, zi_and7, zi_and15, zi_and31, zi_and255]) (by simp only [zi_add, zi_sub, zi_mul, zi_neg, zi_and1, zi_and7, zi_and15, zi_and31, zi_and255]) ?_
                                exact gz_wk (ihlp15 h20 cd2 (b1 + 1) (by omega) sh20 (by omega) (by omega) lp19k0 lp19k1 lp19k2 lp19k3 lp19k4 lp19k5 lp19k6) (gLw.s (gLw.s (gLw.s (gLw.s (gLw.s (gLw.s (gLw.n (gLw.n gLw.z))))))))
                              · refine gy_icF rfl (by decide) (by decide) (by omega) (by omega) hc21 ?_
                                refine gz_s 1 (pc' := 298) (L' := [some (.ref m), some (.int (zi wh)), some (.int (zi nd)), some (.int (zi mo)), some (.int (zi cd2)), some (.int (zi b1)), some (.int (zi s3)), none]) (S' := [.ref m]) rfl ?_
                                refine gs_gtr rfl (by decide) rfl sh20.1 tm rfl rfl rfl (fun c22 ec22 tc22 => ?_)
                                refine gy_s 5 (pc' := 309) (L' := [some (.ref m), some (.int (zi wh)), some (.int (zi nd)), some (.int (zi mo)), some (.int (zi cd2)), some (.int (zi b1)), some (.int (zi s3)), none]) (S' := [.int (((zi 257) * (zi wh)) + (zi s3)), .ref c22]) (L2 := [some (.ref m), some (.int (zi wh)), some (.int (zi nd)), some (.int (zi mo)), some (.int (zi cd2)), some (.int (zi b1)), some (.int (zi s3)), none]) (S2 := [.int (zi ((257 * wh) + s3)), .ref c22]) rfl (by simp only [zi_add, zi_sub, zi_mul, zi_neg, zi_and1, zi_and7, zi_and15, zi_and31, zi_and255]) (by simp only [zi_add, zi_sub, zi_mul, zi_neg, zi_and1, zi_and7, zi_and15, zi_and31, zi_and255]) ?_
                                have hl23 : 514 ≤ h20.2.2.2.1 c22 ∧ h20.2.2.2.1 c22 ≤ 514 := gJ.rowl (G := gGG) sh20.1 tc22 rfl
                                refine gs_ald rfl (by decide) sh20.1 tc22 rfl rfl rfl (by decide) (fun _ => rfl) (by omega) (by omega) (fun z24 ez24 az24 bz24 => ?_)
                                refine gz_s 1 (pc' := 312) (L' := [some (.ref m), some (.int (zi wh)), some (.int (zi nd)), some (.int (zi mo)), some (.int (zi cd2)), some (.int (zi b1)), some (.int (zi s3)), none]) (S' := [.int (zi b1), .int (zi z24)]) rfl ?_
                                by_cases hc25 : ¬ (z24 : Int) = b1
                                · refine gy_icT (pc' := 333) rfl (by decide) (by decide) (by omega) (by omega) hc25 ?_
                                  refine gy_s 2 (pc' := 289) (L' := [some (.ref m), some (.int (zi wh)), some (.int (zi nd)), some (.int (zi mo)), some (.int (zi cd2)), some (.int (zi b1)), some (.int ((zi s3) + zi 1)), none]) (S' := []) (L2 := [some (.ref m), some (.int (zi wh)), some (.int (zi nd)), some (.int (zi mo)), some (.int (zi cd2)), some (.int (zi b1)), some (.int (zi (s3 + 1))), none]) (S2 := []) rfl (by simp only [zi_add, zi_sub, zi_mul, zi_neg, zi_and1, zi_and7, zi_and15, zi_and31, zi_and255]) (by simp only [zi_add, zi_sub, zi_mul, zi_neg, zi_and1, zi_and7, zi_and15, zi_and31, zi_and255]) ?_
                                  exact gz_wk (ihlp19 h20 cd2 (s3 + 1) (by omega) sh20 (by omega) (by omega) lp19k0 lp19k1 lp19k2 lp19k3 lp19k4 lp19k5 lp19k6) (gLw.s (gLw.s (gLw.s (gLw.s (gLw.s (gLw.s (gLw.s (gLw.n gLw.z))))))))
                                · refine gy_icF rfl (by decide) (by decide) (by omega) (by omega) hc25 ?_
                                  refine gz_s 1 (pc' := 316) (L' := [some (.ref m), some (.int (zi wh)), some (.int (zi nd)), some (.int (zi mo)), some (.int (zi cd2)), some (.int (zi b1)), some (.int (zi s3)), none]) (S' := [.ref m]) rfl ?_
                                  refine gs_gtr rfl (by decide) rfl sh20.1 tm rfl rfl rfl (fun c26 ec26 tc26 => ?_)
                                  refine gy_s 6 (pc' := 329) (L' := [some (.ref m), some (.int (zi wh)), some (.int (zi nd)), some (.int (zi mo)), some (.int (zi cd2)), some (.int (zi b1)), some (.int (zi s3)), none]) (S' := [.int (zi cd2), .int (((zi 257) * (zi wh)) + (zi s3)), .ref c26]) (L2 := [some (.ref m), some (.int (zi wh)), some (.int (zi nd)), some (.int (zi mo)), some (.int (zi cd2)), some (.int (zi b1)), some (.int (zi s3)), none]) (S2 := [.int (zi cd2), .int (zi ((257 * wh) + s3)), .ref c26]) rfl (by simp only [zi_add, zi_sub, zi_mul, zi_neg, zi_and1, zi_and7, zi_and15, zi_and31, zi_and255]) (by simp only [zi_add, zi_sub, zi_mul, zi_neg, zi_and1, zi_and7, zi_and15, zi_and31, zi_and255]) ?_
                                  have hl27 : 514 ≤ h20.2.2.2.1 c26 ∧ h20.2.2.2.1 c26 ≤ 514 := gJ.rowl (G := gGG) sh20.1 tc26 rfl
                                  refine gs_ast rfl (by decide) sh20 tc26 rfl rfl rfl (by decide) (fun _ => rfl) (by omega) (by omega) (fun _ => (by decide : (38999 : Nat) ∈ ([37999, 38999, 39999, 40999, 41999] : List Nat))) (by omega) (by omega) (fun h28 sh28 eh28 fh28 => ?_)
                                  have pr29 := gO1.pt fh28 tc26 (by decide) lp19k3
                                  have pr30 := gRow.pt fh28 tc26 (by decide) lp19k4
                                  have pr31 := gRow.pt fh28 tc26 (by decide) lp19k5
                                  have pr32 := gRow.pt fh28 tc26 (by decide) lp19k6
                                  have s33 := (fh28 m 68 (fun q => absurd (((tm).symm.trans (congrArg ty q.1)).trans tc26) (by decide))).trans lp19k0
                                  have s34 := (fh28 m 71 (fun q => absurd (((tm).symm.trans (congrArg ty q.1)).trans tc26) (by decide))).trans lp19k1
                                  have s35 := (fh28 m 73 (fun q => absurd (((tm).symm.trans (congrArg ty q.1)).trans tc26) (by decide))).trans lp19k2
                                  have s36 := (fh28 m 69 (fun q => absurd (((tm).symm.trans (congrArg ty q.1)).trans tc26) (by decide))).trans ec22
                                  have s37 := (fh28 m 70 (fun q => absurd (((tm).symm.trans (congrArg ty q.1)).trans tc26) (by decide))).trans ec26
                                  have pr38 := gEl.set (i := (257 * wh) + s3) (z := cd2) uq tc26 (by decide) eh28 (by omega) (by omega)
                                  refine gy_s 1 (pc' := 333) (L' := [some (.ref m), some (.int (zi wh)), some (.int (zi nd)), some (.int (zi mo)), some (.int ((zi cd2) + zi 1)), some (.int (zi b1)), some (.int (zi s3)), none]) (S' := []) (L2 := [some (.ref m), some (.int (zi wh)), some (.int (zi nd)), some (.int (zi mo)), some (.int (zi (cd2 + 1))), some (.int (zi b1)), some (.int (zi s3)), none]) (S2 := []) rfl (by simp only [zi_add, zi_sub, zi_mul, zi_neg, zi_and1, zi_and7, zi_and15, zi_and31, zi_and255]) (by simp only [zi_add, zi_sub, zi_mul, zi_neg, zi_and1, zi_and7, zi_and15, zi_and31, zi_and255]) ?_
                                  refine gy_loc (i := 4) (x := zi (cd2 + 1)) rfl (fun z39 ez39 az39 bz39 => ?_)
                                  show gz gPP gGG gcn _ _ 333 [some (.ref m), some (.int (zi wh)), some (.int (zi nd)), some (.int (zi mo)), some (.int (zi z39)), some (.int (zi b1)), some (.int (zi s3)), none] [] h28 _
                                  refine gy_s 2 (pc' := 289) (L' := [some (.ref m), some (.int (zi wh)), some (.int (zi nd)), some (.int (zi mo)), some (.int (zi z39)), some (.int (zi b1)), some (.int ((zi s3) + zi 1)), none]) (S' := []) (L2 := [some (.ref m), some (.int (zi wh)), some (.int (zi nd)), some (.int (zi mo)), some (.int (zi z39)), some (.int (zi b1)), some (.int (zi (s3 + 1))), none]) (S2 := []) rfl (by simp only [zi_add, zi_sub, zi_mul, zi_neg, zi_and1, zi_and7, zi_and15, zi_and31, zi_and255]) (by simp only [zi_add, zi_sub, zi_mul, zi_neg, zi_and1, zi_and7, zi_and15, zi_and31, zi_and255]) ?_
                                  exact gz_wk (ihlp19 h28 z39 (s3 + 1) (by omega) sh28 (by omega) (by omega) s33 s34 s35 pr29 pr30 pr31 pr32) (gLw.s (gLw.s (gLw.s (gLw.s (gLw.s (gLw.s (gLw.s (gLw.n gLw.z))))))))
                          exact gz_wk (lp19 _ h16 z18 0 (Nat.lt_succ_self _) sh16 (by omega) (by omega) lp15k0 lp15k1 lp15k2 lp15k3 lp15k4 lp15k5 lp15k6) (gLw.s (gLw.s (gLw.s (gLw.s (gLw.s (gLw.s (gLw.s (gLw.n gLw.z))))))))
                    exact gz_wk (lp15 _ h13 0 1 (Nat.lt_succ_self _) sh13 (by omega) (by omega) lp12k0 lp12k1 lp12k2 lp12k3 lp12k4 lp12k5 lp12k6) (gLw.s (gLw.s (gLw.s (gLw.s (gLw.s (gLw.s (gLw.n (gLw.n gLw.z))))))))
                  · refine gy_icF rfl (by decide) (by decide) (by omega) (by omega) hc14 ?_
                    refine gz_s 4 (pc' := 213) (L' := [some (.ref m), some (.int (zi wh)), some (.int (zi nd)), some (.int (zi mo)), some (.int (zi 0)), some (.int (zi s2)), some (.int (zi 0)), some (.int (zi s2))]) (S' := []) rfl ?_
                    have lp40 : ∀ (fu : Nat) (h41 : gH) (bits : Int) (kk : Int), (514 - kk).toNat < fu → gSs rT 1027 ty [37999, 38999, 39999, 40999, 41999] h h41 → (0 ≤ bits ∧ bits ≤ 21) → (0 ≤ kk ∧ kk ≤ 512) → (kk < nd) → h41.2.2.2.2 m 68 = .ref c1 → h41.2.2.2.2 m 71 = .ref c2 → h41.2.2.2.2 m 73 = .ref c3 → gO1 ty wh h41 → gRow ty 36 fo h41 → gRow ty 39 wf h41 → gRow ty 41 pf h41 → gDp wf pf (s2).toNat (kk).toNat (bits).toNat → gz gPP gGG gcn (d + 1) gt201 213 [some (.ref m), some (.int (zi wh)), some (.int (zi nd)), some (.int (zi mo)), some (.int (zi 0)), some (.int (zi s2)), some (.int (zi bits)), some (.int (zi kk))] [] h41 (fun q _ => gSs rT 1027 ty [37999, 38999, 39999, 40999, 41999] h q.2.2 ∧ gfin gt201 q.1 q.2.1 = some none) := by
                      intro fu
                      induction fu with
                      | zero => intro h41 bits kk hm; exact absurd hm (Nat.not_lt_zero _)
                      | succ fu ihlp40 =>
                        intro h41 bits kk lp40m sh41 lp40f0 lp40f1 lp40f2 lp40k0 lp40k1 lp40k2 lp40k3 lp40k4 lp40k5 lp40k6 lp40k7
                        refine gz_s 1 (pc' := 214) (L' := [some (.ref m), some (.int (zi wh)), some (.int (zi nd)), some (.int (zi mo)), some (.int (zi 0)), some (.int (zi s2)), some (.int (zi bits)), some (.int (zi kk))]) (S' := [.ref m]) rfl ?_
                        refine gs_gtk rfl (by decide) rfl sh41.1 tm rfl rfl lp40k1 ?_
                        refine gz_s 1 (pc' := 219) (L' := [some (.ref m), some (.int (zi wh)), some (.int (zi nd)), some (.int (zi mo)), some (.int (zi 0)), some (.int (zi s2)), some (.int (zi bits)), some (.int (zi kk))]) (S' := [.int (zi s2), .ref c2]) rfl ?_
                        have hl42 : 514 ≤ h41.2.2.2.1 c2 ∧ h41.2.2.2.1 c2 ≤ 514 := gJ.rowl (G := gGG) sh41.1 tc2 rfl
                        refine gs_ald rfl (by decide) sh41.1 tc2 rfl rfl rfl (by decide) (fun _ => rfl) (by omega) (by omega) (fun z43 ez43 az43 bz43 => ?_)
                        have hf44 := gRow.at (i := s2) (z := z43) lp40k5 tc2 ez43 (by omega) (by omega) (by omega)
                        by_cases hc45 : (z43 : Int) ≤ 0
                        · refine gy_ifT (pc' := 249) rfl (by decide) (by decide) (by omega) hc45 ?_
                          refine gz_s 1 (pc' := 250) (L' := [some (.ref m), some (.int (zi wh)), some (.int (zi nd)), some (.int (zi mo)), some (.int (zi 0)), some (.int (zi s2)), some (.int (zi bits)), some (.int (zi kk))]) (S' := [.ref m]) rfl ?_
                          refine gs_gtr rfl (by decide) rfl sh41.1 tm rfl rfl rfl (fun c46 ec46 tc46 => ?_)
                          refine gy_s 6 (pc' := 263) (L' := [some (.ref m), some (.int (zi wh)), some (.int (zi nd)), some (.int (zi mo)), some (.int (zi 0)), some (.int (zi s2)), some (.int (zi bits)), some (.int (zi kk))]) (S' := [.int (zi bits), .int (((zi 257) * (zi wh)) + (zi s2)), .ref c46]) (L2 := [some (.ref m), some (.int (zi wh)), some (.int (zi nd)), some (.int (zi mo)), some (.int (zi 0)), some (.int (zi s2)), some (.int (zi bits)), some (.int (zi kk))]) (S2 := [.int (zi bits), .int (zi ((257 * wh) + s2)), .ref c46]) rfl (by simp only [zi_add, zi_sub, zi_mul, zi_neg, zi_and1, zi_and7, zi_and15, zi_and31, zi_and255]) (by simp only [zi_add, zi_sub, zi_mul, zi_neg, zi_and1, zi_and7, zi_and15, zi_and31, zi_and255]) ?_
                          have hl47 : 514 ≤ h41.2.2.2.1 c46 ∧ h41.2.2.2.1 c46 ≤ 514 := gJ.rowl (G := gGG) sh41.1 tc46 rfl
                          refine gs_ast rfl (by decide) sh41 tc46 rfl rfl rfl (by decide) (fun _ => rfl) (by omega) (by omega) (fun _ => (by decide : (37999 : Nat) ∈ ([37999, 38999, 39999, 40999, 41999] : List Nat))) (by omega) (by omega) (fun h48 sh48 eh48 fh48 => ?_)
                          have pr49 := gO1.pt fh48 tc46 (by decide) lp40k3
                          have pr50 := gRow.pt fh48 tc46 (by decide) lp40k4
                          have pr51 := gRow.pt fh48 tc46 (by decide) lp40k5
                          have pr52 := gRow.pt fh48 tc46 (by decide) lp40k6
                          have s53 := (fh48 m 68 (fun q => absurd (((tm).symm.trans (congrArg ty q.1)).trans tc46) (by decide))).trans lp40k0
                          have s54 := (fh48 m 71 (fun q => absurd (((tm).symm.trans (congrArg ty q.1)).trans tc46) (by decide))).trans lp40k1
                          have s55 := (fh48 m 73 (fun q => absurd (((tm).symm.trans (congrArg ty q.1)).trans tc46) (by decide))).trans lp40k2
                          have s56 := (fh48 m 69 (fun q => absurd (((tm).symm.trans (congrArg ty q.1)).trans tc46) (by decide))).trans ec46
                          have pr57 := gEl.set (i := (257 * wh) + s2) (z := bits) uq tc46 (by decide) eh48 (by omega) (by omega)
                          refine gy_s 2 (pc' := 198) (L' := [some (.ref m), some (.int (zi wh)), some (.int (zi nd)), some (.int (zi mo)), some (.int (zi 0)), some (.int ((zi s2) + zi 1)), some (.int (zi bits)), some (.int (zi kk))]) (S' := []) (L2 := [some (.ref m), some (.int (zi wh)), some (.int (zi nd)), some (.int (zi mo)), some (.int (zi 0)), some (.int (zi (s2 + 1))), some (.int (zi bits)), some (.int (zi kk))]) (S2 := []) rfl (by simp only [zi_add, zi_sub, zi_mul, zi_neg, zi_and1, zi_and7, zi_and15, zi_and31, zi_and255]) (by simp only [zi_add, zi_sub, zi_mul, zi_neg, zi_and1, zi_and7, zi_and15, zi_and31, zi_and255]) ?_
                          exact gz_wk (ihlp12 h48 (s2 + 1) (by omega) sh48 (by omega) s53 s54 s55 pr49 pr50 pr51 pr52) (gLw.s (gLw.s (gLw.s (gLw.s (gLw.s (gLw.s (gLw.n (gLw.n gLw.z))))))))
                        · refine gy_ifF rfl (by decide) (by decide) (by omega) hc45 ?_
                          refine gz_s 1 (pc' := 224) (L' := [some (.ref m), some (.int (zi wh)), some (.int (zi nd)), some (.int (zi mo)), some (.int (zi 0)), some (.int (zi s2)), some (.int (zi bits)), some (.int (zi kk))]) (S' := [.ref m]) rfl ?_
                          refine gs_gtk rfl (by decide) rfl sh41.1 tm rfl rfl lp40k2 ?_
                          refine gz_s 1 (pc' := 229) (L' := [some (.ref m), some (.int (zi wh)), some (.int (zi nd)), some (.int (zi mo)), some (.int (zi 0)), some (.int (zi s2)), some (.int (zi bits)), some (.int (zi kk))]) (S' := [.int (zi kk), .ref c3]) rfl ?_
                          have hl58 : 514 ≤ h41.2.2.2.1 c3 ∧ h41.2.2.2.1 c3 ≤ 514 := gJ.rowl (G := gGG) sh41.1 tc3 rfl
                          refine gs_ald rfl (by decide) sh41.1 tc3 rfl rfl rfl (by decide) (fun _ => rfl) (by omega) (by omega) (fun z59 ez59 az59 bz59 => ?_)
                          have hf60 := gRow.at (i := kk) (z := z59) lp40k6 tc3 ez59 (by omega) (by omega) (by omega)
                          refine gz_s 1 (pc' := 231) (L' := [some (.ref m), some (.int (zi wh)), some (.int (zi nd)), some (.int (zi mo)), some (.int (zi 0)), some (.int (zi s2)), some (.int (zi bits)), some (.int (zi kk))]) (S' := [.int (zi (-1)), .int (zi z59)]) rfl ?_
                          by_cases hc61 : (z59 : Int) = (-1)
                          · refine gy_icT (pc' := 249) rfl (by decide) (by decide) (by omega) (by omega) hc61 ?_
                            refine gz_s 1 (pc' := 250) (L' := [some (.ref m), some (.int (zi wh)), some (.int (zi nd)), some (.int (zi mo)), some (.int (zi 0)), some (.int (zi s2)), some (.int (zi bits)), some (.int (zi kk))]) (S' := [.ref m]) rfl ?_
                            refine gs_gtr rfl (by decide) rfl sh41.1 tm rfl rfl rfl (fun c62 ec62 tc62 => ?_)
                            refine gy_s 6 (pc' := 263) (L' := [some (.ref m), some (.int (zi wh)), some (.int (zi nd)), some (.int (zi mo)), some (.int (zi 0)), some (.int (zi s2)), some (.int (zi bits)), some (.int (zi kk))]) (S' := [.int (zi bits), .int (((zi 257) * (zi wh)) + (zi s2)), .ref c62]) (L2 := [some (.ref m), some (.int (zi wh)), some (.int (zi nd)), some (.int (zi mo)), some (.int (zi 0)), some (.int (zi s2)), some (.int (zi bits)), some (.int (zi kk))]) (S2 := [.int (zi bits), .int (zi ((257 * wh) + s2)), .ref c62]) rfl (by simp only [zi_add, zi_sub, zi_mul, zi_neg, zi_and1, zi_and7, zi_and15, zi_and31, zi_and255]) (by simp only [zi_add, zi_sub, zi_mul, zi_neg, zi_and1, zi_and7, zi_and15, zi_and31, zi_and255]) ?_
                            have hl63 : 514 ≤ h41.2.2.2.1 c62 ∧ h41.2.2.2.1 c62 ≤ 514 := gJ.rowl (G := gGG) sh41.1 tc62 rfl
                            refine gs_ast rfl (by decide) sh41 tc62 rfl rfl rfl (by decide) (fun _ => rfl) (by omega) (by omega) (fun _ => (by decide : (37999 : Nat) ∈ ([37999, 38999, 39999, 40999, 41999] : List Nat))) (by omega) (by omega) (fun h64 sh64 eh64 fh64 => ?_)
                            have pr65 := gO1.pt fh64 tc62 (by decide) lp40k3
                            have pr66 := gRow.pt fh64 tc62 (by decide) lp40k4
                            have pr67 := gRow.pt fh64 tc62 (by decide) lp40k5
                            have pr68 := gRow.pt fh64 tc62 (by decide) lp40k6
                            have s69 := (fh64 m 68 (fun q => absurd (((tm).symm.trans (congrArg ty q.1)).trans tc62) (by decide))).trans lp40k0
                            have s70 := (fh64 m 71 (fun q => absurd (((tm).symm.trans (congrArg ty q.1)).trans tc62) (by decide))).trans lp40k1
                            have s71 := (fh64 m 73 (fun q => absurd (((tm).symm.trans (congrArg ty q.1)).trans tc62) (by decide))).trans lp40k2
                            have s72 := (fh64 m 69 (fun q => absurd (((tm).symm.trans (congrArg ty q.1)).trans tc62) (by decide))).trans ec62
                            have pr73 := gEl.set (i := (257 * wh) + s2) (z := bits) uq tc62 (by decide) eh64 (by omega) (by omega)
                            refine gy_s 2 (pc' := 198) (L' := [some (.ref m), some (.int (zi wh)), some (.int (zi nd)), some (.int (zi mo)), some (.int (zi 0)), some (.int ((zi s2) + zi 1)), some (.int (zi bits)), some (.int (zi kk))]) (S' := []) (L2 := [some (.ref m), some (.int (zi wh)), some (.int (zi nd)), some (.int (zi mo)), some (.int (zi 0)), some (.int (zi (s2 + 1))), some (.int (zi bits)), some (.int (zi kk))]) (S2 := []) rfl (by simp only [zi_add, zi_sub, zi_mul, zi_neg, zi_and1, zi_and7, zi_and15, zi_and31, zi_and255]) (by simp only [zi_add, zi_sub, zi_mul, zi_neg, zi_and1, zi_and7, zi_and15, zi_and31, zi_and255]) ?_
                            exact gz_wk (ihlp12 h64 (s2 + 1) (by omega) sh64 (by omega) s69 s70 s71 pr65 pr66 pr67 pr68) (gLw.s (gLw.s (gLw.s (gLw.s (gLw.s (gLw.s (gLw.n (gLw.n gLw.z))))))))
                          · refine gy_icF rfl (by decide) (by decide) (by omega) (by omega) hc61 ?_
                            refine gy_s 2 (pc' := 238) (L' := [some (.ref m), some (.int (zi wh)), some (.int (zi nd)), some (.int (zi mo)), some (.int (zi 0)), some (.int (zi s2)), some (.int ((zi bits) + zi 1)), some (.int (zi kk))]) (S' := [.ref m]) (L2 := [some (.ref m), some (.int (zi wh)), some (.int (zi nd)), some (.int (zi mo)), some (.int (zi 0)), some (.int (zi s2)), some (.int (zi (bits + 1))), some (.int (zi kk))]) (S2 := [.ref m]) rfl (by simp only [zi_add, zi_sub, zi_mul, zi_neg, zi_and1, zi_and7, zi_and15, zi_and31, zi_and255]) (by simp only [zi_add, zi_sub, zi_mul, zi_neg, zi_and1, zi_and7, zi_and15, zi_and31, zi_and255]) ?_
                            refine gs_gtk rfl (by decide) rfl sh41.1 tm rfl rfl lp40k2 ?_
                            refine gz_s 1 (pc' := 243) (L' := [some (.ref m), some (.int (zi wh)), some (.int (zi nd)), some (.int (zi mo)), some (.int (zi 0)), some (.int (zi s2)), some (.int (zi (bits + 1))), some (.int (zi kk))]) (S' := [.int (zi kk), .ref c3]) rfl ?_
                            have hl74 : 514 ≤ h41.2.2.2.1 c3 ∧ h41.2.2.2.1 c3 ≤ 514 := gJ.rowl (G := gGG) sh41.1 tc3 rfl
                            refine gs_ald rfl (by decide) sh41.1 tc3 rfl rfl rfl (by decide) (fun _ => rfl) (by omega) (by omega) (fun z75 ez75 az75 bz75 => ?_)
                            have hf76 := gRow.at (i := kk) (z := z75) lp40k6 tc3 ez75 (by omega) (by omega) (by omega)
                            refine gz_s 1 (pc' := 246) (L' := [some (.ref m), some (.int (zi wh)), some (.int (zi nd)), some (.int (zi mo)), some (.int (zi 0)), some (.int (zi s2)), some (.int (zi (bits + 1))), some (.int (zi z75))]) (S' := []) rfl ?_
                            obtain ⟨m9, hm9, hm1, hm2⟩ : ∃ m9 : Nat, pf (kk).toNat = (m9 : Int) ∧ (kk).toNat < m9 ∧ m9 < nd.toNat := (htr9.up (kk).toNat (by omega)).resolve_left (by omega)
                            have hdq := gDp.step (m := m9) htr9 (by omega) hm9 hm2 lp40k7
                            have hdl := hdq.le (by omega) (hwr m9 (by omega)).2
                            have hdp77 : gDp wf pf (s2).toNat (z75).toNat (bits + 1).toNat := by rw [(by omega : (z75).toNat = m9), (by omega : (bits + 1).toNat = (bits).toNat + 1)]; exact hdq
                            refine gz_s 1 (pc' := 213) (L' := [some (.ref m), some (.int (zi wh)), some (.int (zi nd)), some (.int (zi mo)), some (.int (zi 0)), some (.int (zi s2)), some (.int (zi (bits + 1))), some (.int (zi z75))]) (S' := []) rfl ?_
                            exact gz_wk (ihlp40 h41 (bits + 1) z75 (by omega) sh41 (by omega) (by omega) (by omega) lp40k0 lp40k1 lp40k2 lp40k3 lp40k4 lp40k5 lp40k6 hdp77) (gLw.s (gLw.s (gLw.s (gLw.s (gLw.s (gLw.s (gLw.s (gLw.s gLw.z))))))))
                    exact gz_wk (lp40 _ h13 0 s2 (Nat.lt_succ_self _) sh13 (by omega) (by omega) (by omega) lp12k0 lp12k1 lp12k2 lp12k3 lp12k4 lp12k5 lp12k6 (gDp.zero htr9 (by omega))) (gLw.s (gLw.s (gLw.s (gLw.s (gLw.s (gLw.s (gLw.s (gLw.s gLw.z))))))))
              exact gz_wk (lp12 _ h10 0 (Nat.lt_succ_self _) sh10 (by omega) lp8k0 lp8k1 lp8k2 lp8k3 lp8k4 rwf rpf) (gLw.s (gLw.s (gLw.s (gLw.s (gLw.s (gLw.s (gLw.n (gLw.n gLw.z))))))))
            · refine gy_ifF rfl (by decide) (by decide) (by omega) hc11 ?_
              obtain ⟨wf, pf, rwf, rpf, htr9⟩ := lp8k5
              have hsz := htr9.sz
              refine gz_s 2 (pc' := 70) (L' := [some (.ref m), some (.int (zi wh)), some (.int (zi nd)), some (.int (zi mo)), none, none, none, none]) (S' := [.int (zi nd), .ref m]) rfl ?_
              refine gz_call rfl (by decide) rfl (by decide) (by decide) (gcal_of rfl rfl rfl (Nat.le_of_ble_eq_true rfl) (gJ.recv (G := gGG) sh10.1 tm rfl rfl)) (mm_leastNode2 _ sh10.1 m tm nd (by omega) wf pf rwf rpf) (fun q78 _ wq78 => ?_)
              obtain ⟨pq78, oq78, hq78⟩ := q78
              obtain ⟨xq78, zq78, gq78, aq78, bq78, uq78_0, yq78_0⟩ := wq78
              refine ⟨_, gq78, ?_⟩
              show gz gPP gGG gcn _ _ 73 [some (.ref m), some (.int (zi wh)), some (.int (zi nd)), some (.int (zi mo)), none, none, none, none] [.int (zi zq78)] hq78 _
              have sq78 := gSs.tr sh10 xq78 (by decide)
              have s79 := (xq78.2.2.2.2.2 m 68 (by rw [tm]; decide)).trans lp8k0
              have s80 := (xq78.2.2.2.2.2 m 71 (by rw [tm]; decide)).trans lp8k1
              have s81 := (xq78.2.2.2.2.2 m 73 (by rw [tm]; decide)).trans lp8k2
              have pr82 := gO1.fr xq78.2 (by decide) lp8k3
              have pr83 := gRow.fr xq78.2 (by decide) lp8k4
              have pr84 := gRow.fr xq78.2 (by decide) rwf
              have pr85 := gRow.fr xq78.2 (by decide) rpf
              refine gz_s 1 (pc' := 75) (L' := [some (.ref m), some (.int (zi wh)), some (.int (zi nd)), some (.int (zi mo)), some (.int (zi zq78)), none, none, none]) (S' := []) rfl ?_
              have hla := yq78_0
              have hna : zq78 ≠ -1 := htr9.some (by rw [(by omega : ((nd.toNat : Nat) : Int) = nd)]; exact hla)
              have hla2 := hla.2 hna
              refine gz_s 1 (pc' := 76) (L' := [some (.ref m), some (.int (zi wh)), some (.int (zi nd)), some (.int (zi mo)), some (.int (zi zq78)), none, none, none]) (S' := [.ref m]) rfl ?_
              refine gs_gtk rfl (by decide) rfl sq78.1 tm rfl rfl s81 ?_
              refine gz_s 2 (pc' := 82) (L' := [some (.ref m), some (.int (zi wh)), some (.int (zi nd)), some (.int (zi mo)), some (.int (zi zq78)), none, none, none]) (S' := [.int (zi nd), .int (zi zq78), .ref c3]) rfl ?_
              have hl86 : 514 ≤ hq78.2.2.2.1 c3 ∧ hq78.2.2.2.1 c3 ≤ 514 := gJ.rowl (G := gGG) sq78.1 tc3 rfl
              refine gs_ast rfl (by decide) sq78 tc3 rfl rfl rfl (by decide) (fun _ => rfl) (by omega) (by omega) (fun _ => (by decide : (41999 : Nat) ∈ ([37999, 38999, 39999, 40999, 41999] : List Nat))) (by omega) (by omega) (fun h87 sh87 eh87 fh87 => ?_)
              have pr88 := gO1.pt fh87 tc3 (by decide) pr82
              have pr89 := gRow.pt fh87 tc3 (by decide) pr83
              have pr90 := gRow.pt fh87 tc3 (by decide) pr84
              have pr91 := gRow.put (i := zq78) (z := nd) uq tc3 (by decide) fh87 eh87 (by omega) (by omega) pr85
              have s92 := (fh87 m 68 (fun q => absurd (((tm).symm.trans (congrArg ty q.1)).trans tc3) (by decide))).trans s79
              have s93 := (fh87 m 71 (fun q => absurd (((tm).symm.trans (congrArg ty q.1)).trans tc3) (by decide))).trans s80
              have s94 := (fh87 m 73 (fun q => absurd (((tm).symm.trans (congrArg ty q.1)).trans tc3) (by decide))).trans s81
              have pr95 := gEl.set (i := zq78) (z := nd) uq tc3 (by decide) eh87 (by omega) (by omega)
              refine gz_s 2 (pc' := 85) (L' := [some (.ref m), some (.int (zi wh)), some (.int (zi nd)), some (.int (zi mo)), some (.int (zi zq78)), none, none, none]) (S' := [.int (zi nd), .ref m]) rfl ?_
              refine gz_call rfl (by decide) rfl (by decide) (by decide) (gcal_of rfl rfl rfl (Nat.le_of_ble_eq_true rfl) (gJ.recv (G := gGG) sh87.1 tm rfl rfl)) (mm_leastNode2 _ sh87.1 m tm nd (by omega) wf (gfu pf (zq78).toNat nd) pr90 pr91) (fun q96 _ wq96 => ?_)
              obtain ⟨pq96, oq96, hq96⟩ := q96
              obtain ⟨xq96, zq96, gq96, aq96, bq96, uq96_0, yq96_0⟩ := wq96
              refine ⟨_, gq96, ?_⟩
              show gz gPP gGG gcn _ _ 88 [some (.ref m), some (.int (zi wh)), some (.int (zi nd)), some (.int (zi mo)), some (.int (zi zq78)), none, none, none] [.int (zi zq96)] hq96 _
              have sq96 := gSs.tr sh87 xq96 (by decide)
              have s97 := (xq96.2.2.2.2.2 m 68 (by rw [tm]; decide)).trans s92
              have s98 := (xq96.2.2.2.2.2 m 71 (by rw [tm]; decide)).trans s93
              have s99 := (xq96.2.2.2.2.2 m 73 (by rw [tm]; decide)).trans s94
              have pr100 := gO1.fr xq96.2 (by decide) pr88
              have pr101 := gRow.fr xq96.2 (by decide) pr89
              have pr102 := gRow.fr xq96.2 (by decide) pr90
              have pr103 := gRow.fr xq96.2 (by decide) pr91
              have pr104 := gEl.fr xq96.2 (by decide) (fun _ => rfl) pr95
              refine gz_s 1 (pc' := 90) (L' := [some (.ref m), some (.int (zi wh)), some (.int (zi nd)), some (.int (zi mo)), some (.int (zi zq78)), some (.int (zi zq96)), none, none]) (S' := []) rfl ?_
              have hlb := yq96_0
              refine gz_s 2 (pc' := 93) (L' := [some (.ref m), some (.int (zi wh)), some (.int (zi nd)), some (.int (zi mo)), some (.int (zi zq78)), some (.int (zi zq96)), none, none]) (S' := [.int (zi (-1)), .int (zi zq96)]) rfl ?_
              by_cases hc105 : (zq96 : Int) = (-1)
              · refine gy_icT (pc' := 100) rfl (by decide) (by decide) (by omega) (by omega) hc105 ?_
                refine gz_s 3 (pc' := 103) (L' := [some (.ref m), some (.int (zi wh)), some (.int (zi nd)), some (.int (zi 0)), some (.int (zi zq78)), some (.int (zi zq96)), none, none]) (S' := [.int (zi 0)]) rfl ?_
                refine gy_ifT (pc' := 181) rfl (by decide) (by decide) (by omega) (by first | (simp [zc]; done) | (simp only [zc]; omega)) ?_
                refine gz_s 1 (pc' := 182) (L' := [some (.ref m), some (.int (zi wh)), some (.int (zi nd)), some (.int (zi 0)), some (.int (zi zq78)), some (.int (zi zq96)), none, none]) (S' := [.ref m]) rfl ?_
                refine gs_gtk rfl (by decide) rfl sq96.1 tm rfl rfl s99 ?_
                refine gz_s 2 (pc' := 188) (L' := [some (.ref m), some (.int (zi wh)), some (.int (zi nd)), some (.int (zi 0)), some (.int (zi zq78)), some (.int (zi zq96)), none, none]) (S' := [.int (zi (-1)), .int (zi zq78), .ref c3]) rfl ?_
                have hl106 : 514 ≤ hq96.2.2.2.1 c3 ∧ hq96.2.2.2.1 c3 ≤ 514 := gJ.rowl (G := gGG) sq96.1 tc3 rfl
                refine gs_ast rfl (by decide) sq96 tc3 rfl rfl rfl (by decide) (fun _ => rfl) (by omega) (by omega) (fun _ => (by decide : (41999 : Nat) ∈ ([37999, 38999, 39999, 40999, 41999] : List Nat))) (by omega) (by omega) (fun h107 sh107 eh107 fh107 => ?_)
                have pr108 := gO1.pt fh107 tc3 (by decide) pr100
                have pr109 := gRow.pt fh107 tc3 (by decide) pr101
                have pr110 := gRow.pt fh107 tc3 (by decide) pr102
                have pr111 := gRow.put (i := zq78) (z := (-1)) uq tc3 (by decide) fh107 eh107 (by omega) (by omega) pr103
                have s112 := (fh107 m 68 (fun q => absurd (((tm).symm.trans (congrArg ty q.1)).trans tc3) (by decide))).trans s97
                have s113 := (fh107 m 71 (fun q => absurd (((tm).symm.trans (congrArg ty q.1)).trans tc3) (by decide))).trans s98
                have s114 := (fh107 m 73 (fun q => absurd (((tm).symm.trans (congrArg ty q.1)).trans tc3) (by decide))).trans s99
                have pr115 := gEl.set (i := zq78) (z := (-1)) uq tc3 (by decide) eh107 (by omega) (by omega)
                have htr116 : gTree ty nd h107 := ⟨_, _, pr110, pr111, by rw [gfu_back hla2.2.2.2.1]; exact htr9⟩
                refine gz_s 1 (pc' := 64) (L' := [some (.ref m), some (.int (zi wh)), some (.int (zi nd)), some (.int (zi 0)), some (.int (zi zq78)), some (.int (zi zq96)), none, none]) (S' := []) rfl ?_
                exact gz_wk (ihlp8 h107 nd 0 (by omega) sh107 (by omega) (by omega) s112 s113 s114 pr108 pr109 htr116) (gLw.s (gLw.s (gLw.s (gLw.s (gLw.n (gLw.n (gLw.n (gLw.n gLw.z))))))))
              · refine gy_icF rfl (by decide) (by decide) (by omega) (by omega) hc105 ?_
                refine gz_s 4 (pc' := 103) (L' := [some (.ref m), some (.int (zi wh)), some (.int (zi nd)), some (.int (zi 1)), some (.int (zi zq78)), some (.int (zi zq96)), none, none]) (S' := [.int (zi 1)]) rfl ?_
                refine gy_ifF rfl (by decide) (by decide) (by omega) (by first | (simp [zc]; done) | (simp only [zc]; omega)) ?_
                have hlb2 := hlb.2 (by omega)
                refine gz_s 1 (pc' := 107) (L' := [some (.ref m), some (.int (zi wh)), some (.int (zi nd)), some (.int (zi 1)), some (.int (zi zq78)), some (.int (zi zq96)), none, none]) (S' := [.ref m]) rfl ?_
                refine gs_gtk rfl (by decide) rfl sq96.1 tm rfl rfl s99 ?_
                refine gz_s 2 (pc' := 113) (L' := [some (.ref m), some (.int (zi wh)), some (.int (zi nd)), some (.int (zi 1)), some (.int (zi zq78)), some (.int (zi zq96)), none, none]) (S' := [.int (zi nd), .int (zi zq96), .ref c3]) rfl ?_
                have hl117 : 514 ≤ hq96.2.2.2.1 c3 ∧ hq96.2.2.2.1 c3 ≤ 514 := gJ.rowl (G := gGG) sq96.1 tc3 rfl
                refine gs_ast rfl (by decide) sq96 tc3 rfl rfl rfl (by decide) (fun _ => rfl) (by omega) (by omega) (fun _ => (by decide : (41999 : Nat) ∈ ([37999, 38999, 39999, 40999, 41999] : List Nat))) (by omega) (by omega) (fun h118 sh118 eh118 fh118 => ?_)
                have pr119 := gO1.pt fh118 tc3 (by decide) pr100
                have pr120 := gRow.pt fh118 tc3 (by decide) pr101
                have pr121 := gRow.pt fh118 tc3 (by decide) pr102
                have pr122 := gRow.put (i := zq96) (z := nd) uq tc3 (by decide) fh118 eh118 (by omega) (by omega) pr103
                have s123 := (fh118 m 68 (fun q => absurd (((tm).symm.trans (congrArg ty q.1)).trans tc3) (by decide))).trans s97
                have s124 := (fh118 m 71 (fun q => absurd (((tm).symm.trans (congrArg ty q.1)).trans tc3) (by decide))).trans s98
                have s125 := (fh118 m 73 (fun q => absurd (((tm).symm.trans (congrArg ty q.1)).trans tc3) (by decide))).trans s99
                have pr126 := gEl.set (i := zq96) (z := nd) uq tc3 (by decide) eh118 (by omega) (by omega)
                refine gz_s 1 (pc' := 115) (L' := [some (.ref m), some (.int (zi wh)), some (.int (zi nd)), some (.int (zi 1)), some (.int (zi zq78)), some (.int (zi zq96)), none, none]) (S' := [.ref m]) rfl ?_
                refine gs_gtk rfl (by decide) rfl sh118.1 tm rfl rfl s124 ?_
                refine gz_s 2 (pc' := 120) (L' := [some (.ref m), some (.int (zi wh)), some (.int (zi nd)), some (.int (zi 1)), some (.int (zi zq78)), some (.int (zi zq96)), none, none]) (S' := [.ref m, .int (zi nd), .ref c2]) rfl ?_
                refine gs_gtk rfl (by decide) rfl sh118.1 tm rfl rfl s124 ?_
                refine gz_s 1 (pc' := 125) (L' := [some (.ref m), some (.int (zi wh)), some (.int (zi nd)), some (.int (zi 1)), some (.int (zi zq78)), some (.int (zi zq96)), none, none]) (S' := [.int (zi zq78), .ref c2, .int (zi nd), .ref c2]) rfl ?_
                have hl127 : 514 ≤ h118.2.2.2.1 c2 ∧ h118.2.2.2.1 c2 ≤ 514 := gJ.rowl (G := gGG) sh118.1 tc2 rfl
                refine gs_ald rfl (by decide) sh118.1 tc2 rfl rfl rfl (by decide) (fun _ => rfl) (by omega) (by omega) (fun z128 ez128 az128 bz128 => ?_)
                have hf129 := gRow.at (i := zq78) (z := z128) pr121 tc2 ez128 (by omega) (by omega) (by omega)
                refine gz_s 1 (pc' := 127) (L' := [some (.ref m), some (.int (zi wh)), some (.int (zi nd)), some (.int (zi 1)), some (.int (zi zq78)), some (.int (zi zq96)), none, none]) (S' := [.ref m, .int (zi z128), .int (zi nd), .ref c2]) rfl ?_
                refine gs_gtk rfl (by decide) rfl sh118.1 tm rfl rfl s124 ?_
                refine gz_s 1 (pc' := 132) (L' := [some (.ref m), some (.int (zi wh)), some (.int (zi nd)), some (.int (zi 1)), some (.int (zi zq78)), some (.int (zi zq96)), none, none]) (S' := [.int (zi zq96), .ref c2, .int (zi z128), .int (zi nd), .ref c2]) rfl ?_
                have hl130 : 514 ≤ h118.2.2.2.1 c2 ∧ h118.2.2.2.1 c2 ≤ 514 := gJ.rowl (G := gGG) sh118.1 tc2 rfl
                refine gs_ald rfl (by decide) sh118.1 tc2 rfl rfl rfl (by decide) (fun _ => rfl) (by omega) (by omega) (fun z131 ez131 az131 bz131 => ?_)
                have hf132 := gRow.at (i := zq96) (z := z131) pr121 tc2 ez131 (by omega) (by omega) (by omega)
                have hj := htr9.join (a := zq78) (b := zq96) (za := z128) (zb := z131) (by omega) hla hna hlb (by omega) (by omega) (by omega)
                have hj2 := hj.2.1
                have hj3 := hj.2.2.sz
                refine gy_s 1 (pc' := 134) (L' := [some (.ref m), some (.int (zi wh)), some (.int (zi nd)), some (.int (zi 1)), some (.int (zi zq78)), some (.int (zi zq96)), none, none]) (S' := [.int ((zi z128) + (zi z131)), .int (zi nd), .ref c2]) (L2 := [some (.ref m), some (.int (zi wh)), some (.int (zi nd)), some (.int (zi 1)), some (.int (zi zq78)), some (.int (zi zq96)), none, none]) (S2 := [.int (zi (z128 + z131)), .int (zi nd), .ref c2]) rfl (by simp only [zi_add, zi_sub, zi_mul, zi_neg, zi_and1, zi_and7, zi_and15, zi_and31, zi_and255]) (by simp only [zi_add, zi_sub, zi_mul, zi_neg, zi_and1, zi_and7, zi_and15, zi_and31, zi_and255]) ?_
                have hl133 : 514 ≤ h118.2.2.2.1 c2 ∧ h118.2.2.2.1 c2 ≤ 514 := gJ.rowl (G := gGG) sh118.1 tc2 rfl
                refine gs_ast rfl (by decide) sh118 tc2 rfl rfl rfl (by decide) (fun _ => rfl) (by omega) (by omega) (fun _ => (by decide : (39999 : Nat) ∈ ([37999, 38999, 39999, 40999, 41999] : List Nat))) (by omega) (by omega) (fun h134 sh134 eh134 fh134 => ?_)
                have pr135 := gO1.pt fh134 tc2 (by decide) pr119
                have pr136 := gRow.pt fh134 tc2 (by decide) pr120
                have pr137 := gRow.put (i := nd) (z := z128 + z131) uq tc2 (by decide) fh134 eh134 (by omega) (by omega) pr121
                have pr138 := gRow.pt fh134 tc2 (by decide) pr122
                have pr139 := gEl.pt fh134 tc2 (by decide) pr126
                have s140 := (fh134 m 68 (fun q => absurd (((tm).symm.trans (congrArg ty q.1)).trans tc2) (by decide))).trans s123
                have s141 := (fh134 m 71 (fun q => absurd (((tm).symm.trans (congrArg ty q.1)).trans tc2) (by decide))).trans s124
                have s142 := (fh134 m 73 (fun q => absurd (((tm).symm.trans (congrArg ty q.1)).trans tc2) (by decide))).trans s125
                have pr143 := gEl.set (i := nd) (z := z128 + z131) uq tc2 (by decide) eh134 (by omega) (by omega)
                refine gz_s 1 (pc' := 136) (L' := [some (.ref m), some (.int (zi wh)), some (.int (zi nd)), some (.int (zi 1)), some (.int (zi zq78)), some (.int (zi zq96)), none, none]) (S' := [.ref m]) rfl ?_
                refine gs_gtr rfl (by decide) rfl sh134.1 tm rfl rfl rfl (fun c144 ec144 tc144 => ?_)
                refine gz_s 2 (pc' := 141) (L' := [some (.ref m), some (.int (zi wh)), some (.int (zi nd)), some (.int (zi 1)), some (.int (zi zq78)), some (.int (zi zq96)), none, none]) (S' := [.ref m, .int (zi nd), .ref c144]) rfl ?_
                refine gs_gtk rfl (by decide) rfl sh134.1 tm rfl rfl ec144 ?_
                refine gz_s 1 (pc' := 146) (L' := [some (.ref m), some (.int (zi wh)), some (.int (zi nd)), some (.int (zi 1)), some (.int (zi zq78)), some (.int (zi zq96)), none, none]) (S' := [.int (zi zq78), .ref c144, .int (zi nd), .ref c144]) rfl ?_
                have hl145 : 514 ≤ h134.2.2.2.1 c144 ∧ h134.2.2.2.1 c144 ≤ 514 := gJ.rowl (G := gGG) sh134.1 tc144 rfl
                refine gs_ald rfl (by decide) sh134.1 tc144 rfl rfl rfl (by decide) (fun _ => rfl) (by omega) (by omega) (fun z146 ez146 az146 bz146 => ?_)
                refine gz_s 1 (pc' := 148) (L' := [some (.ref m), some (.int (zi wh)), some (.int (zi nd)), some (.int (zi 1)), some (.int (zi zq78)), some (.int (zi zq96)), none, none]) (S' := [.ref m, .int (zi z146), .int (zi nd), .ref c144]) rfl ?_
                refine gs_gtk rfl (by decide) rfl sh134.1 tm rfl rfl ec144 ?_
                refine gz_s 1 (pc' := 153) (L' := [some (.ref m), some (.int (zi wh)), some (.int (zi nd)), some (.int (zi 1)), some (.int (zi zq78)), some (.int (zi zq96)), none, none]) (S' := [.int (zi zq96), .ref c144, .int (zi z146), .int (zi nd), .ref c144]) rfl ?_
                have hl147 : 514 ≤ h134.2.2.2.1 c144 ∧ h134.2.2.2.1 c144 ≤ 514 := gJ.rowl (G := gGG) sh134.1 tc144 rfl
                refine gs_ald rfl (by decide) sh134.1 tc144 rfl rfl rfl (by decide) (fun _ => rfl) (by omega) (by omega) (fun z148 ez148 az148 bz148 => ?_)
                by_cases hc149 : (z146 : Int) ≤ z148
                · refine gy_icT (pc' := 167) rfl (by decide) (by decide) (by omega) (by omega) hc149 ?_
                  refine gz_s 1 (pc' := 168) (L' := [some (.ref m), some (.int (zi wh)), some (.int (zi nd)), some (.int (zi 1)), some (.int (zi zq78)), some (.int (zi zq96)), none, none]) (S' := [.ref m, .int (zi nd), .ref c144]) rfl ?_
                  refine gs_gtk rfl (by decide) rfl sh134.1 tm rfl rfl ec144 ?_
                  refine gz_s 1 (pc' := 173) (L' := [some (.ref m), some (.int (zi wh)), some (.int (zi nd)), some (.int (zi 1)), some (.int (zi zq78)), some (.int (zi zq96)), none, none]) (S' := [.int (zi zq96), .ref c144, .int (zi nd), .ref c144]) rfl ?_
                  have hl150 : 514 ≤ h134.2.2.2.1 c144 ∧ h134.2.2.2.1 c144 ≤ 514 := gJ.rowl (G := gGG) sh134.1 tc144 rfl
                  refine gs_ald rfl (by decide) sh134.1 tc144 rfl rfl rfl (by decide) (fun _ => rfl) (by omega) (by omega) (fun z151 ez151 az151 bz151 => ?_)
                  have hl152 : 514 ≤ h134.2.2.2.1 c144 ∧ h134.2.2.2.1 c144 ≤ 514 := gJ.rowl (G := gGG) sh134.1 tc144 rfl
                  refine gs_ast rfl (by decide) sh134 tc144 rfl rfl rfl (by decide) (fun _ => rfl) (by omega) (by omega) (fun _ => (by decide : (40999 : Nat) ∈ ([37999, 38999, 39999, 40999, 41999] : List Nat))) (by omega) (by omega) (fun h153 sh153 eh153 fh153 => ?_)
                  have pr154 := gO1.pt fh153 tc144 (by decide) pr135
                  have pr155 := gRow.pt fh153 tc144 (by decide) pr136
                  have pr156 := gRow.pt fh153 tc144 (by decide) pr137
                  have pr157 := gRow.pt fh153 tc144 (by decide) pr138
                  have pr158 := gEl.pt fh153 tc144 (by decide) pr139
                  have pr159 := gEl.pt fh153 tc144 (by decide) pr143
                  have s160 := (fh153 m 68 (fun q => absurd (((tm).symm.trans (congrArg ty q.1)).trans tc144) (by decide))).trans s140
                  have s161 := (fh153 m 71 (fun q => absurd (((tm).symm.trans (congrArg ty q.1)).trans tc144) (by decide))).trans s141
                  have s162 := (fh153 m 73 (fun q => absurd (((tm).symm.trans (congrArg ty q.1)).trans tc144) (by decide))).trans s142
                  have s163 := (fh153 m 72 (fun q => absurd (((tm).symm.trans (congrArg ty q.1)).trans tc144) (by decide))).trans ec144
                  have pr164 := gEl.set (i := nd) (z := z151) uq tc144 (by decide) eh153 (by omega) (by omega)
                  have htr165 : gTree ty (nd + 1) h153 := ⟨_, _, pr156, pr157, hj.2.2⟩
                  refine gy_s 2 (pc' := 189) (L' := [some (.ref m), some (.int (zi wh)), some (.int ((zi nd) + zi 1)), some (.int (zi 1)), some (.int (zi zq78)), some (.int (zi zq96)), none, none]) (S' := []) (L2 := [some (.ref m), some (.int (zi wh)), some (.int (zi (nd + 1))), some (.int (zi 1)), some (.int (zi zq78)), some (.int (zi zq96)), none, none]) (S2 := []) rfl (by simp only [zi_add, zi_sub, zi_mul, zi_neg, zi_and1, zi_and7, zi_and15, zi_and31, zi_and255]) (by simp only [zi_add, zi_sub, zi_mul, zi_neg, zi_and1, zi_and7, zi_and15, zi_and31, zi_and255]) ?_
                  refine gz_s 1 (pc' := 64) (L' := [some (.ref m), some (.int (zi wh)), some (.int (zi (nd + 1))), some (.int (zi 1)), some (.int (zi zq78)), some (.int (zi zq96)), none, none]) (S' := []) rfl ?_
                  exact gz_wk (ihlp8 h153 (nd + 1) 1 (by omega) sh153 (by omega) (by omega) s160 s161 s162 pr154 pr155 htr165) (gLw.s (gLw.s (gLw.s (gLw.s (gLw.n (gLw.n (gLw.n (gLw.n gLw.z))))))))
                · refine gy_icF rfl (by decide) (by decide) (by omega) (by omega) hc149 ?_
                  refine gz_s 1 (pc' := 158) (L' := [some (.ref m), some (.int (zi wh)), some (.int (zi nd)), some (.int (zi 1)), some (.int (zi zq78)), some (.int (zi zq96)), none, none]) (S' := [.ref m, .int (zi nd), .ref c144]) rfl ?_
                  refine gs_gtk rfl (by decide) rfl sh134.1 tm rfl rfl ec144 ?_
                  refine gz_s 1 (pc' := 163) (L' := [some (.ref m), some (.int (zi wh)), some (.int (zi nd)), some (.int (zi 1)), some (.int (zi zq78)), some (.int (zi zq96)), none, none]) (S' := [.int (zi zq78), .ref c144, .int (zi nd), .ref c144]) rfl ?_
                  have hl166 : 514 ≤ h134.2.2.2.1 c144 ∧ h134.2.2.2.1 c144 ≤ 514 := gJ.rowl (G := gGG) sh134.1 tc144 rfl
                  refine gs_ald rfl (by decide) sh134.1 tc144 rfl rfl rfl (by decide) (fun _ => rfl) (by omega) (by omega) (fun z167 ez167 az167 bz167 => ?_)
                  refine gz_s 1 (pc' := 174) (L' := [some (.ref m), some (.int (zi wh)), some (.int (zi nd)), some (.int (zi 1)), some (.int (zi zq78)), some (.int (zi zq96)), none, none]) (S' := [.int (zi z167), .int (zi nd), .ref c144]) rfl ?_
                  have hl168 : 514 ≤ h134.2.2.2.1 c144 ∧ h134.2.2.2.1 c144 ≤ 514 := gJ.rowl (G := gGG) sh134.1 tc144 rfl
                  refine gs_ast rfl (by decide) sh134 tc144 rfl rfl rfl (by decide) (fun _ => rfl) (by omega) (by omega) (fun _ => (by decide : (40999 : Nat) ∈ ([37999, 38999, 39999, 40999, 41999] : List Nat))) (by omega) (by omega) (fun h169 sh169 eh169 fh169 => ?_)
                  have pr170 := gO1.pt fh169 tc144 (by decide) pr135
                  have pr171 := gRow.pt fh169 tc144 (by decide) pr136
                  have pr172 := gRow.pt fh169 tc144 (by decide) pr137
                  have pr173 := gRow.pt fh169 tc144 (by decide) pr138
                  have pr174 := gEl.pt fh169 tc144 (by decide) pr139
                  have pr175 := gEl.pt fh169 tc144 (by decide) pr143
                  have s176 := (fh169 m 68 (fun q => absurd (((tm).symm.trans (congrArg ty q.1)).trans tc144) (by decide))).trans s140
                  have s177 := (fh169 m 71 (fun q => absurd (((tm).symm.trans (congrArg ty q.1)).trans tc144) (by decide))).trans s141
                  have s178 := (fh169 m 73 (fun q => absurd (((tm).symm.trans (congrArg ty q.1)).trans tc144) (by decide))).trans s142
                  have s179 := (fh169 m 72 (fun q => absurd (((tm).symm.trans (congrArg ty q.1)).trans tc144) (by decide))).trans ec144
                  have pr180 := gEl.set (i := nd) (z := z167) uq tc144 (by decide) eh169 (by omega) (by omega)
                  have htr181 : gTree ty (nd + 1) h169 := ⟨_, _, pr172, pr173, hj.2.2⟩
                  refine gy_s 2 (pc' := 189) (L' := [some (.ref m), some (.int (zi wh)), some (.int ((zi nd) + zi 1)), some (.int (zi 1)), some (.int (zi zq78)), some (.int (zi zq96)), none, none]) (S' := []) (L2 := [some (.ref m), some (.int (zi wh)), some (.int (zi (nd + 1))), some (.int (zi 1)), some (.int (zi zq78)), some (.int (zi zq96)), none, none]) (S2 := []) rfl (by simp only [zi_add, zi_sub, zi_mul, zi_neg, zi_and1, zi_and7, zi_and15, zi_and31, zi_and255]) (by simp only [zi_add, zi_sub, zi_mul, zi_neg, zi_and1, zi_and7, zi_and15, zi_and31, zi_and255]) ?_
                  refine gz_s 1 (pc' := 64) (L' := [some (.ref m), some (.int (zi wh)), some (.int (zi (nd + 1))), some (.int (zi 1)), some (.int (zi zq78)), some (.int (zi zq96)), none, none]) (S' := []) rfl ?_
                  exact gz_wk (ihlp8 h169 (nd + 1) 1 (by omega) sh169 (by omega) (by omega) s176 s177 s178 pr170 pr171 htr181) (gLw.s (gLw.s (gLw.s (gLw.s (gLw.n (gLw.n (gLw.n (gLw.n gLw.z))))))))
        exact gz_wk (lp8 _ h6 257 1 (Nat.lt_succ_self _) sh6 (by omega) (by omega) lp4k0 lp4k1 lp4k2 lp4k3 lp4k4 htr9) (gLw.s (gLw.s (gLw.s (gLw.s (gLw.n (gLw.n (gLw.n (gLw.n gLw.z))))))))
      · refine gy_icF rfl (by decide) (by decide) (by omega) (by omega) hc7 ?_
        obtain ⟨w9, p9, rw9, rp9, c9⟩ := lp4k5
        refine gz_s 1 (pc' := 14) (L' := [some (.ref m), some (.int (zi wh)), some (.int (zi 257)), some (.int (zi s)), none, none, none, none]) (S' := [.ref m]) rfl ?_
        refine gs_gtk rfl (by decide) rfl sh6.1 tm rfl rfl lp4k1 ?_
        refine gz_s 3 (pc' := 22) (L' := [some (.ref m), some (.int (zi wh)), some (.int (zi 257)), some (.int (zi s)), none, none, none, none]) (S' := [.int (zi 257), .int (zi s), .int (zi s), .ref c2]) rfl ?_
        by_cases hc182 : (257 : Int) ≤ s
        · refine gy_icT (pc' := 40) rfl (by decide) (by decide) (by omega) (by omega) hc182 ?_
          refine gz_s 1 (pc' := 41) (L' := [some (.ref m), some (.int (zi wh)), some (.int (zi 257)), some (.int (zi s)), none, none, none, none]) (S' := [.int (zi 0), .int (zi s), .ref c2]) rfl ?_
          have hl183 : 514 ≤ h6.2.2.2.1 c2 ∧ h6.2.2.2.1 c2 ≤ 514 := gJ.rowl (G := gGG) sh6.1 tc2 rfl
          refine gs_ast rfl (by decide) sh6 tc2 rfl rfl rfl (by decide) (fun _ => rfl) (by omega) (by omega) (fun _ => (by decide : (39999 : Nat) ∈ ([37999, 38999, 39999, 40999, 41999] : List Nat))) (by omega) (by omega) (fun h184 sh184 eh184 fh184 => ?_)
          have pr185 := gO1.pt fh184 tc2 (by decide) lp4k3
          have pr186 := gRow.pt fh184 tc2 (by decide) lp4k4
          have pr187 := gRow.put (i := s) (z := 0) uq tc2 (by decide) fh184 eh184 (by omega) (by omega) rw9
          have pr188 := gRow.pt fh184 tc2 (by decide) rp9
          have s189 := (fh184 m 68 (fun q => absurd (((tm).symm.trans (congrArg ty q.1)).trans tc2) (by decide))).trans lp4k0
          have s190 := (fh184 m 71 (fun q => absurd (((tm).symm.trans (congrArg ty q.1)).trans tc2) (by decide))).trans lp4k1
          have s191 := (fh184 m 73 (fun q => absurd (((tm).symm.trans (congrArg ty q.1)).trans tc2) (by decide))).trans lp4k2
          have pr192 := gEl.set (i := s) (z := 0) uq tc2 (by decide) eh184 (by omega) (by omega)
          refine gz_s 1 (pc' := 43) (L' := [some (.ref m), some (.int (zi wh)), some (.int (zi 257)), some (.int (zi s)), none, none, none, none]) (S' := [.ref m]) rfl ?_
          refine gs_gtr rfl (by decide) rfl sh184.1 tm rfl rfl rfl (fun c193 ec193 tc193 => ?_)
          refine gz_s 2 (pc' := 48) (L' := [some (.ref m), some (.int (zi wh)), some (.int (zi 257)), some (.int (zi s)), none, none, none, none]) (S' := [.int (zi s), .int (zi s), .ref c193]) rfl ?_
          have hl194 : 514 ≤ h184.2.2.2.1 c193 ∧ h184.2.2.2.1 c193 ≤ 514 := gJ.rowl (G := gGG) sh184.1 tc193 rfl
          refine gs_ast rfl (by decide) sh184 tc193 rfl rfl rfl (by decide) (fun _ => rfl) (by omega) (by omega) (fun _ => (by decide : (40999 : Nat) ∈ ([37999, 38999, 39999, 40999, 41999] : List Nat))) (by omega) (by omega) (fun h195 sh195 eh195 fh195 => ?_)
          have pr196 := gO1.pt fh195 tc193 (by decide) pr185
          have pr197 := gRow.pt fh195 tc193 (by decide) pr186
          have pr198 := gRow.pt fh195 tc193 (by decide) pr187
          have pr199 := gRow.pt fh195 tc193 (by decide) pr188
          have pr200 := gEl.pt fh195 tc193 (by decide) pr192
          have s201 := (fh195 m 68 (fun q => absurd (((tm).symm.trans (congrArg ty q.1)).trans tc193) (by decide))).trans s189
          have s202 := (fh195 m 71 (fun q => absurd (((tm).symm.trans (congrArg ty q.1)).trans tc193) (by decide))).trans s190
          have s203 := (fh195 m 73 (fun q => absurd (((tm).symm.trans (congrArg ty q.1)).trans tc193) (by decide))).trans s191
          have s204 := (fh195 m 72 (fun q => absurd (((tm).symm.trans (congrArg ty q.1)).trans tc193) (by decide))).trans ec193
          have pr205 := gEl.set (i := s) (z := s) uq tc193 (by decide) eh195 (by omega) (by omega)
          refine gz_s 1 (pc' := 50) (L' := [some (.ref m), some (.int (zi wh)), some (.int (zi 257)), some (.int (zi s)), none, none, none, none]) (S' := [.ref m]) rfl ?_
          refine gs_gtk rfl (by decide) rfl sh195.1 tm rfl rfl s203 ?_
          refine gz_s 2 (pc' := 55) (L' := [some (.ref m), some (.int (zi wh)), some (.int (zi 257)), some (.int (zi s)), none, none, none, none]) (S' := [.int (zi (-1)), .int (zi s), .ref c3]) rfl ?_
          have hl206 : 514 ≤ h195.2.2.2.1 c3 ∧ h195.2.2.2.1 c3 ≤ 514 := gJ.rowl (G := gGG) sh195.1 tc3 rfl
          refine gs_ast rfl (by decide) sh195 tc3 rfl rfl rfl (by decide) (fun _ => rfl) (by omega) (by omega) (fun _ => (by decide : (41999 : Nat) ∈ ([37999, 38999, 39999, 40999, 41999] : List Nat))) (by omega) (by omega) (fun h207 sh207 eh207 fh207 => ?_)
          have pr208 := gO1.pt fh207 tc3 (by decide) pr196
          have pr209 := gRow.pt fh207 tc3 (by decide) pr197
          have pr210 := gRow.pt fh207 tc3 (by decide) pr198
          have pr211 := gRow.put (i := s) (z := (-1)) uq tc3 (by decide) fh207 eh207 (by omega) (by omega) pr199
          have pr212 := gEl.pt fh207 tc3 (by decide) pr200
          have pr213 := gEl.pt fh207 tc3 (by decide) pr205
          have s214 := (fh207 m 68 (fun q => absurd (((tm).symm.trans (congrArg ty q.1)).trans tc3) (by decide))).trans s201
          have s215 := (fh207 m 71 (fun q => absurd (((tm).symm.trans (congrArg ty q.1)).trans tc3) (by decide))).trans s202
          have s216 := (fh207 m 73 (fun q => absurd (((tm).symm.trans (congrArg ty q.1)).trans tc3) (by decide))).trans s203
          have s217 := (fh207 m 72 (fun q => absurd (((tm).symm.trans (congrArg ty q.1)).trans tc3) (by decide))).trans s204
          have pr218 := gEl.set (i := s) (z := (-1)) uq tc3 (by decide) eh207 (by omega) (by omega)
          have hti219 : gTi ty fo (257 * wh) (s + 1) h207 := gTi.step (w := w9) (p := p9) (v := 0) (by omega) pr210 pr211 c9 (by
            exact (if_neg (by omega)).symm)
          refine gy_s 2 (pc' := 6) (L' := [some (.ref m), some (.int (zi wh)), some (.int (zi 257)), some (.int ((zi s) + zi 1)), none, none, none, none]) (S' := []) (L2 := [some (.ref m), some (.int (zi wh)), some (.int (zi 257)), some (.int (zi (s + 1))), none, none, none, none]) (S2 := []) rfl (by simp only [zi_add, zi_sub, zi_mul, zi_neg, zi_and1, zi_and7, zi_and15, zi_and31, zi_and255]) (by simp only [zi_add, zi_sub, zi_mul, zi_neg, zi_and1, zi_and7, zi_and15, zi_and31, zi_and255]) ?_
          exact gz_wk (ihlp4 h207 (s + 1) (by omega) sh207 (by omega) s214 s215 s216 pr208 pr209 hti219) (gLw.s (gLw.s (gLw.s (gLw.s (gLw.n (gLw.n (gLw.n (gLw.n gLw.z))))))))
        · refine gy_icF rfl (by decide) (by decide) (by omega) (by omega) hc182 ?_
          refine gz_s 1 (pc' := 26) (L' := [some (.ref m), some (.int (zi wh)), some (.int (zi 257)), some (.int (zi s)), none, none, none, none]) (S' := [.ref m, .int (zi s), .ref c2]) rfl ?_
          refine gs_gtk rfl (by decide) rfl sh6.1 tm rfl rfl lp4k0 ?_
          refine gy_s 5 (pc' := 36) (L' := [some (.ref m), some (.int (zi wh)), some (.int (zi 257)), some (.int (zi s)), none, none, none, none]) (S' := [.int (((zi 257) * (zi wh)) + (zi s)), .ref c1, .int (zi s), .ref c2]) (L2 := [some (.ref m), some (.int (zi wh)), some (.int (zi 257)), some (.int (zi s)), none, none, none, none]) (S2 := [.int (zi ((257 * wh) + s)), .ref c1, .int (zi s), .ref c2]) rfl (by simp only [zi_add, zi_sub, zi_mul, zi_neg, zi_and1, zi_and7, zi_and15, zi_and31, zi_and255]) (by simp only [zi_add, zi_sub, zi_mul, zi_neg, zi_and1, zi_and7, zi_and15, zi_and31, zi_and255]) ?_
          have hl220 : 514 ≤ h6.2.2.2.1 c1 ∧ h6.2.2.2.1 c1 ≤ 514 := gJ.rowl (G := gGG) sh6.1 tc1 rfl
          refine gs_ald rfl (by decide) sh6.1 tc1 rfl rfl rfl (by decide) (fun _ => rfl) (by omega) (by omega) (fun z221 ez221 az221 bz221 => ?_)
          have hf222 := gRow.at (i := (257 * wh) + s) (z := z221) lp4k4 tc1 ez221 (by omega) (by omega) (by omega)
          have hfl := gsf_le nno (i := (257 * wh + s).toNat) (n := 514) (by omega)
          refine gz_s 1 (pc' := 41) (L' := [some (.ref m), some (.int (zi wh)), some (.int (zi 257)), some (.int (zi s)), none, none, none, none]) (S' := [.int (zi z221), .int (zi s), .ref c2]) rfl ?_
          have hl223 : 514 ≤ h6.2.2.2.1 c2 ∧ h6.2.2.2.1 c2 ≤ 514 := gJ.rowl (G := gGG) sh6.1 tc2 rfl
          refine gs_ast rfl (by decide) sh6 tc2 rfl rfl rfl (by decide) (fun _ => rfl) (by omega) (by omega) (fun _ => (by decide : (39999 : Nat) ∈ ([37999, 38999, 39999, 40999, 41999] : List Nat))) (by omega) (by omega) (fun h224 sh224 eh224 fh224 => ?_)
          have pr225 := gO1.pt fh224 tc2 (by decide) lp4k3
          have pr226 := gRow.pt fh224 tc2 (by decide) lp4k4
          have pr227 := gRow.put (i := s) (z := z221) uq tc2 (by decide) fh224 eh224 (by omega) (by omega) rw9
          have pr228 := gRow.pt fh224 tc2 (by decide) rp9
          have s229 := (fh224 m 68 (fun q => absurd (((tm).symm.trans (congrArg ty q.1)).trans tc2) (by decide))).trans lp4k0
          have s230 := (fh224 m 71 (fun q => absurd (((tm).symm.trans (congrArg ty q.1)).trans tc2) (by decide))).trans lp4k1
          have s231 := (fh224 m 73 (fun q => absurd (((tm).symm.trans (congrArg ty q.1)).trans tc2) (by decide))).trans lp4k2
          have pr232 := gEl.set (i := s) (z := z221) uq tc2 (by decide) eh224 (by omega) (by omega)
          refine gz_s 1 (pc' := 43) (L' := [some (.ref m), some (.int (zi wh)), some (.int (zi 257)), some (.int (zi s)), none, none, none, none]) (S' := [.ref m]) rfl ?_
          refine gs_gtr rfl (by decide) rfl sh224.1 tm rfl rfl rfl (fun c233 ec233 tc233 => ?_)
          refine gz_s 2 (pc' := 48) (L' := [some (.ref m), some (.int (zi wh)), some (.int (zi 257)), some (.int (zi s)), none, none, none, none]) (S' := [.int (zi s), .int (zi s), .ref c233]) rfl ?_
          have hl234 : 514 ≤ h224.2.2.2.1 c233 ∧ h224.2.2.2.1 c233 ≤ 514 := gJ.rowl (G := gGG) sh224.1 tc233 rfl
          refine gs_ast rfl (by decide) sh224 tc233 rfl rfl rfl (by decide) (fun _ => rfl) (by omega) (by omega) (fun _ => (by decide : (40999 : Nat) ∈ ([37999, 38999, 39999, 40999, 41999] : List Nat))) (by omega) (by omega) (fun h235 sh235 eh235 fh235 => ?_)
          have pr236 := gO1.pt fh235 tc233 (by decide) pr225
          have pr237 := gRow.pt fh235 tc233 (by decide) pr226
          have pr238 := gRow.pt fh235 tc233 (by decide) pr227
          have pr239 := gRow.pt fh235 tc233 (by decide) pr228
          have pr240 := gEl.pt fh235 tc233 (by decide) pr232
          have s241 := (fh235 m 68 (fun q => absurd (((tm).symm.trans (congrArg ty q.1)).trans tc233) (by decide))).trans s229
          have s242 := (fh235 m 71 (fun q => absurd (((tm).symm.trans (congrArg ty q.1)).trans tc233) (by decide))).trans s230
          have s243 := (fh235 m 73 (fun q => absurd (((tm).symm.trans (congrArg ty q.1)).trans tc233) (by decide))).trans s231
          have s244 := (fh235 m 72 (fun q => absurd (((tm).symm.trans (congrArg ty q.1)).trans tc233) (by decide))).trans ec233
          have pr245 := gEl.set (i := s) (z := s) uq tc233 (by decide) eh235 (by omega) (by omega)
          refine gz_s 1 (pc' := 50) (L' := [some (.ref m), some (.int (zi wh)), some (.int (zi 257)), some (.int (zi s)), none, none, none, none]) (S' := [.ref m]) rfl ?_
          refine gs_gtk rfl (by decide) rfl sh235.1 tm rfl rfl s243 ?_
          refine gz_s 2 (pc' := 55) (L' := [some (.ref m), some (.int (zi wh)), some (.int (zi 257)), some (.int (zi s)), none, none, none, none]) (S' := [.int (zi (-1)), .int (zi s), .ref c3]) rfl ?_
          have hl246 : 514 ≤ h235.2.2.2.1 c3 ∧ h235.2.2.2.1 c3 ≤ 514 := gJ.rowl (G := gGG) sh235.1 tc3 rfl
          refine gs_ast rfl (by decide) sh235 tc3 rfl rfl rfl (by decide) (fun _ => rfl) (by omega) (by omega) (fun _ => (by decide : (41999 : Nat) ∈ ([37999, 38999, 39999, 40999, 41999] : List Nat))) (by omega) (by omega) (fun h247 sh247 eh247 fh247 => ?_)
          have pr248 := gO1.pt fh247 tc3 (by decide) pr236
          have pr249 := gRow.pt fh247 tc3 (by decide) pr237
          have pr250 := gRow.pt fh247 tc3 (by decide) pr238
          have pr251 := gRow.put (i := s) (z := (-1)) uq tc3 (by decide) fh247 eh247 (by omega) (by omega) pr239
          have pr252 := gEl.pt fh247 tc3 (by decide) pr240
          have pr253 := gEl.pt fh247 tc3 (by decide) pr245
          have s254 := (fh247 m 68 (fun q => absurd (((tm).symm.trans (congrArg ty q.1)).trans tc3) (by decide))).trans s241
          have s255 := (fh247 m 71 (fun q => absurd (((tm).symm.trans (congrArg ty q.1)).trans tc3) (by decide))).trans s242
          have s256 := (fh247 m 73 (fun q => absurd (((tm).symm.trans (congrArg ty q.1)).trans tc3) (by decide))).trans s243
          have s257 := (fh247 m 72 (fun q => absurd (((tm).symm.trans (congrArg ty q.1)).trans tc3) (by decide))).trans s244
          have pr258 := gEl.set (i := s) (z := (-1)) uq tc3 (by decide) eh247 (by omega) (by omega)
          have hti259 : gTi ty fo (257 * wh) (s + 1) h247 := gTi.step (w := w9) (p := p9) (v := z221) (by omega) pr250 pr251 c9 (by
            rw [← hf222]
            show _ = (if _ then _ else _)
            rw [if_pos (by omega)]
            congr 1
            omega)
          refine gy_s 2 (pc' := 6) (L' := [some (.ref m), some (.int (zi wh)), some (.int (zi 257)), some (.int ((zi s) + zi 1)), none, none, none, none]) (S' := []) (L2 := [some (.ref m), some (.int (zi wh)), some (.int (zi 257)), some (.int (zi (s + 1))), none, none, none, none]) (S2 := []) rfl (by simp only [zi_add, zi_sub, zi_mul, zi_neg, zi_and1, zi_and7, zi_and15, zi_and31, zi_and255]) (by simp only [zi_add, zi_sub, zi_mul, zi_neg, zi_and1, zi_and7, zi_and15, zi_and31, zi_and255]) ?_
          exact gz_wk (ihlp4 h247 (s + 1) (by omega) sh247 (by omega) s254 s255 s256 pr248 pr249 hti259) (gLw.s (gLw.s (gLw.s (gLw.s (gLw.n (gLw.n (gLw.n (gLw.n gLw.z))))))))
  exact gz_wk (lp4 _ h 0 (Nat.lt_succ_self _) hS (by omega) ec1 ec2 ec3 hyo1 ro hti5) (gLw.s (gLw.s (gLw.s (gLw.s (gLw.n (gLw.n (gLw.n (gLw.n gLw.z))))))))
