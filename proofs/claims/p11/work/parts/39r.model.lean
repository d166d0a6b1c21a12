/-! ===== the model: methods (by program) ===== -/
set_option maxRecDepth 20000 in
set_option maxHeartbeats 4000000 in
theorem mm_leastNode2 (d : Nat) {ty : Nat → Nat} {h : gH} (hJ : gJ rT 1027 ty h) (m : Nat) (tm : ty m = 1) (nd : Int) (rnd : 0 ≤ nd ∧ nd ≤ 513) (wf pf : Nat → Int) (hyf39 : gRow ty 39 wf h) (hyf41 : gRow ty 41 pf h) : gz gPP gGG gcn (d + 0) gt203 0 (gent [.ref m, .int (zi nd)] 5) [] h (fun q _ => gSs rT 1027 ty [] h q.2.2 ∧ ∃ z : Int, gfin gt203 q.1 q.2.1 = some (some (.int (zi z))) ∧ (-1) ≤ z ∧ z ≤ 512 ∧ (z < nd) ∧ (gLst wf pf nd z)) := by
  have hS : gSs rT 1027 ty [] h h := gSs.rf hJ
  refine gz_s 4 (pc' := 4) (L' := [some (.ref m), some (.int (zi nd)), some (.int (zi (-1))), some (.int (zi 0)), none]) (S' := []) rfl ?_
  have lp1 : ∀ (fu : Nat) (h2 : gH) (bt : Int) (k : Int), (514 - k).toNat < fu → gSs rT 1027 ty [] h h2 → ((-1) ≤ bt ∧ bt ≤ 512) → (0 ≤ k ∧ k ≤ 513) → (bt < k) → (k ≤ nd) → gRow ty 39 wf h2 → gRow ty 41 pf h2 → gLst wf pf k bt → gz gPP gGG gcn (d + 0) gt203 4 [some (.ref m), some (.int (zi nd)), some (.int (zi bt)), some (.int (zi k)), none] [] h2 (fun q _ => gSs rT 1027 ty [] h q.2.2 ∧ ∃ z : Int, gfin gt203 q.1 q.2.1 = some (some (.int (zi z))) ∧ (-1) ≤ z ∧ z ≤ 512 ∧ (z < nd) ∧ (gLst wf pf nd z)) := by
    intro fu
    induction fu with
    | zero => intro h2 bt k hm; exact absurd hm (Nat.not_lt_zero _)
    | succ fu ihlp1 =>
      intro h2 bt k lp1m sh2 lp1f0 lp1f1 lp1f2 lp1f3 lp1k0 lp1k1 lp1k2
      refine gz_s 2 (pc' := 6) (L' := [some (.ref m), some (.int (zi nd)), some (.int (zi bt)), some (.int (zi k)), none]) (S' := [.int (zi nd), .int (zi k)]) rfl ?_
      by_cases hc3 : (nd : Int) ≤ k
      · refine gy_icT (pc' := 98) rfl (by decide) (by decide) (by omega) (by omega) hc3 ?_
        refine gz_s 1 (pc' := 99) (L' := [some (.ref m), some (.int (zi nd)), some (.int (zi bt)), some (.int (zi k)), none]) (S' := [.int (zi bt)]) rfl ?_
        have hls4 : gLst wf pf nd bt := by rw [(by omega : nd = k)]; exact lp1k2
        exact gz_end (I := .ireturn) (len := 1) rfl (Or.inl rfl) ⟨sh2, bt, rfl, (by omega), (by omega), (by omega), hls4⟩
      · refine gy_icF rfl (by decide) (by decide) (by omega) (by omega) hc3 ?_
        refine gz_s 1 (pc' := 10) (L' := [some (.ref m), some (.int (zi nd)), some (.int (zi bt)), some (.int (zi k)), none]) (S' := [.ref m]) rfl ?_
        refine gs_gtr rfl (by decide) rfl sh2.1 tm rfl rfl rfl (fun c5 ec5 tc5 => ?_)
        refine gz_s 1 (pc' := 14) (L' := [some (.ref m), some (.int (zi nd)), some (.int (zi bt)), some (.int (zi k)), none]) (S' := [.int (zi k), .ref c5]) rfl ?_
        have hl6 : 514 ≤ h2.2.2.2.1 c5 ∧ h2.2.2.2.1 c5 ≤ 514 := gJ.rowl (G := gGG) sh2.1 tc5 rfl
        refine gs_ald rfl (by decide) sh2.1 tc5 rfl rfl rfl (by decide) (fun _ => rfl) (by omega) (by omega) (fun z7 ez7 az7 bz7 => ?_)
        have hf8 := gRow.at (i := k) (z := z7) lp1k0 tc5 ez7 (by omega) (by omega) (by omega)
        by_cases hc9 : (z7 : Int) ≤ 0
        · refine gy_ifT (pc' := 32) rfl (by decide) (by decide) (by omega) hc9 ?_
          refine gz_s 3 (pc' := 37) (L' := [some (.ref m), some (.int (zi nd)), some (.int (zi bt)), some (.int (zi k)), some (.int (zi 0))]) (S' := [.int (zi 0)]) rfl ?_
          refine gy_ifT (pc' := 92) rfl (by decide) (by decide) (by omega) (by first | (simp [zc]; done) | (simp only [zc]; omega)) ?_
          have hls10 : gLst wf pf (k + 1) bt := gLst.pass (by omega) lp1k2 (by omega)
          refine gy_s 2 (pc' := 4) (L' := [some (.ref m), some (.int (zi nd)), some (.int (zi bt)), some (.int ((zi k) + zi 1)), some (.int (zi 0))]) (S' := []) (L2 := [some (.ref m), some (.int (zi nd)), some (.int (zi bt)), some (.int (zi (k + 1))), some (.int (zi 0))]) (S2 := []) rfl (by simp only [zi_add, zi_sub, zi_mul, zi_neg, zi_and1, zi_and7, zi_and15, zi_and31, zi_and255]) (by simp only [zi_add, zi_sub, zi_mul, zi_neg, zi_and1, zi_and7, zi_and15, zi_and31, zi_and255]) ?_
          exact gz_wk (ihlp1 h2 bt (k + 1) (by omega) sh2 (by omega) (by omega) (by omega) (by omega) lp1k0 lp1k1 hls10) (gLw.s (gLw.s (gLw.s (gLw.s (gLw.n gLw.z)))))
        · refine gy_ifF rfl (by decide) (by decide) (by omega) hc9 ?_
          refine gz_s 1 (pc' := 19) (L' := [some (.ref m), some (.int (zi nd)), some (.int (zi bt)), some (.int (zi k)), none]) (S' := [.ref m]) rfl ?_
          refine gs_gtr rfl (by decide) rfl sh2.1 tm rfl rfl rfl (fun c11 ec11 tc11 => ?_)
          refine gz_s 1 (pc' := 23) (L' := [some (.ref m), some (.int (zi nd)), some (.int (zi bt)), some (.int (zi k)), none]) (S' := [.int (zi k), .ref c11]) rfl ?_
          have hl12 : 514 ≤ h2.2.2.2.1 c11 ∧ h2.2.2.2.1 c11 ≤ 514 := gJ.rowl (G := gGG) sh2.1 tc11 rfl
          refine gs_ald rfl (by decide) sh2.1 tc11 rfl rfl rfl (by decide) (fun _ => rfl) (by omega) (by omega) (fun z13 ez13 az13 bz13 => ?_)
          have hf14 := gRow.at (i := k) (z := z13) lp1k1 tc11 ez13 (by omega) (by omega) (by omega)
          refine gz_s 1 (pc' := 25) (L' := [some (.ref m), some (.int (zi nd)), some (.int (zi bt)), some (.int (zi k)), none]) (S' := [.int (zi (-1)), .int (zi z13)]) rfl ?_
          by_cases hc15 : ¬ (z13 : Int) = (-1)
          · refine gy_icT (pc' := 32) rfl (by decide) (by decide) (by omega) (by omega) hc15 ?_
            refine gz_s 3 (pc' := 37) (L' := [some (.ref m), some (.int (zi nd)), some (.int (zi bt)), some (.int (zi k)), some (.int (zi 0))]) (S' := [.int (zi 0)]) rfl ?_
            refine gy_ifT (pc' := 92) rfl (by decide) (by decide) (by omega) (by first | (simp [zc]; done) | (simp only [zc]; omega)) ?_
            have hls16 : gLst wf pf (k + 1) bt := gLst.pass (by omega) lp1k2 (by omega)
            refine gy_s 2 (pc' := 4) (L' := [some (.ref m), some (.int (zi nd)), some (.int (zi bt)), some (.int ((zi k) + zi 1)), some (.int (zi 0))]) (S' := []) (L2 := [some (.ref m), some (.int (zi nd)), some (.int (zi bt)), some (.int (zi (k + 1))), some (.int (zi 0))]) (S2 := []) rfl (by simp only [zi_add, zi_sub, zi_mul, zi_neg, zi_and1, zi_and7, zi_and15, zi_and31, zi_and255]) (by simp only [zi_add, zi_sub, zi_mul, zi_neg, zi_and1, zi_and7, zi_and15, zi_and31, zi_and255]) ?_
            exact gz_wk (ihlp1 h2 bt (k + 1) (by omega) sh2 (by omega) (by omega) (by omega) (by omega) lp1k0 lp1k1 hls16) (gLw.s (gLw.s (gLw.s (gLw.s (gLw.n gLw.z)))))
          · refine gy_icF rfl (by decide) (by decide) (by omega) (by omega) hc15 ?_
            refine gz_s 4 (pc' := 37) (L' := [some (.ref m), some (.int (zi nd)), some (.int (zi bt)), some (.int (zi k)), some (.int (zi 1))]) (S' := [.int (zi 1)]) rfl ?_
            refine gy_ifF rfl (by decide) (by decide) (by omega) (by first | (simp [zc]; done) | (simp only [zc]; omega)) ?_
            refine gz_s 2 (pc' := 42) (L' := [some (.ref m), some (.int (zi nd)), some (.int (zi bt)), some (.int (zi k)), some (.int (zi 1))]) (S' := [.int (zi (-1)), .int (zi bt)]) rfl ?_
            by_cases hc17 : (bt : Int) = (-1)
            · refine gy_icT (pc' := 90) rfl (by decide) (by decide) (by omega) (by omega) hc17 ?_
              refine gz_s 2 (pc' := 92) (L' := [some (.ref m), some (.int (zi nd)), some (.int (zi k)), some (.int (zi k)), some (.int (zi 1))]) (S' := []) rfl ?_
              have hls18 : gLst wf pf (k + 1) k := gLst.take (by omega) lp1k2 (by omega) (by omega) (by omega)
              refine gy_s 2 (pc' := 4) (L' := [some (.ref m), some (.int (zi nd)), some (.int (zi k)), some (.int ((zi k) + zi 1)), some (.int (zi 1))]) (S' := []) (L2 := [some (.ref m), some (.int (zi nd)), some (.int (zi k)), some (.int (zi (k + 1))), some (.int (zi 1))]) (S2 := []) rfl (by simp only [zi_add, zi_sub, zi_mul, zi_neg, zi_and1, zi_and7, zi_and15, zi_and31, zi_and255]) (by simp only [zi_add, zi_sub, zi_mul, zi_neg, zi_and1, zi_and7, zi_and15, zi_and31, zi_and255]) ?_
              exact gz_wk (ihlp1 h2 k (k + 1) (by omega) sh2 (by omega) (by omega) (by omega) (by omega) lp1k0 lp1k1 hls18) (gLw.s (gLw.s (gLw.s (gLw.s (gLw.n gLw.z)))))
            · refine gy_icF rfl (by decide) (by decide) (by omega) (by omega) hc17 ?_
              refine gz_s 1 (pc' := 46) (L' := [some (.ref m), some (.int (zi nd)), some (.int (zi bt)), some (.int (zi k)), some (.int (zi 1))]) (S' := [.ref m]) rfl ?_
              refine gs_gtk rfl (by decide) rfl sh2.1 tm rfl rfl ec5 ?_
              refine gz_s 1 (pc' := 50) (L' := [some (.ref m), some (.int (zi nd)), some (.int (zi bt)), some (.int (zi k)), some (.int (zi 1))]) (S' := [.int (zi k), .ref c5]) rfl ?_
              have hl19 : 514 ≤ h2.2.2.2.1 c5 ∧ h2.2.2.2.1 c5 ≤ 514 := gJ.rowl (G := gGG) sh2.1 tc5 rfl
              refine gs_ald rfl (by decide) sh2.1 tc5 rfl rfl rfl (by decide) (fun _ => rfl) (by omega) (by omega) (fun z20 ez20 az20 bz20 => ?_)
              have hf21 := gRow.at (i := k) (z := z20) lp1k0 tc5 ez20 (by omega) (by omega) (by omega)
              refine gz_s 1 (pc' := 52) (L' := [some (.ref m), some (.int (zi nd)), some (.int (zi bt)), some (.int (zi k)), some (.int (zi 1))]) (S' := [.ref m, .int (zi z20)]) rfl ?_
              refine gs_gtk rfl (by decide) rfl sh2.1 tm rfl rfl ec5 ?_
              refine gz_s 1 (pc' := 56) (L' := [some (.ref m), some (.int (zi nd)), some (.int (zi bt)), some (.int (zi k)), some (.int (zi 1))]) (S' := [.int (zi bt), .ref c5, .int (zi z20)]) rfl ?_
              have hl22 : 514 ≤ h2.2.2.2.1 c5 ∧ h2.2.2.2.1 c5 ≤ 514 := gJ.rowl (G := gGG) sh2.1 tc5 rfl
              refine gs_ald rfl (by decide) sh2.1 tc5 rfl rfl rfl (by decide) (fun _ => rfl) (by omega) (by omega) (fun z23 ez23 az23 bz23 => ?_)
              have hf24 := gRow.at (i := bt) (z := z23) lp1k0 tc5 ez23 (by omega) (by omega) (by omega)
              by_cases hc25 : (z20 : Int) < z23
              · refine gy_icT (pc' := 90) rfl (by decide) (by decide) (by omega) (by omega) hc25 ?_
                refine gz_s 2 (pc' := 92) (L' := [some (.ref m), some (.int (zi nd)), some (.int (zi k)), some (.int (zi k)), some (.int (zi 1))]) (S' := []) rfl ?_
                have hls26 : gLst wf pf (k + 1) k := gLst.take (by omega) lp1k2 (by omega) (by omega) (by omega)
                refine gy_s 2 (pc' := 4) (L' := [some (.ref m), some (.int (zi nd)), some (.int (zi k)), some (.int ((zi k) + zi 1)), some (.int (zi 1))]) (S' := []) (L2 := [some (.ref m), some (.int (zi nd)), some (.int (zi k)), some (.int (zi (k + 1))), some (.int (zi 1))]) (S2 := []) rfl (by simp only [zi_add, zi_sub, zi_mul, zi_neg, zi_and1, zi_and7, zi_and15, zi_and31, zi_and255]) (by simp only [zi_add, zi_sub, zi_mul, zi_neg, zi_and1, zi_and7, zi_and15, zi_and31, zi_and255]) ?_
                exact gz_wk (ihlp1 h2 k (k + 1) (by omega) sh2 (by omega) (by omega) (by omega) (by omega) lp1k0 lp1k1 hls26) (gLw.s (gLw.s (gLw.s (gLw.s (gLw.n gLw.z)))))
              · refine gy_icF rfl (by decide) (by decide) (by omega) (by omega) hc25 ?_
                refine gz_s 1 (pc' := 61) (L' := [some (.ref m), some (.int (zi nd)), some (.int (zi bt)), some (.int (zi k)), some (.int (zi 1))]) (S' := [.ref m]) rfl ?_
                refine gs_gtk rfl (by decide) rfl sh2.1 tm rfl rfl ec5 ?_
                refine gz_s 1 (pc' := 65) (L' := [some (.ref m), some (.int (zi nd)), some (.int (zi bt)), some (.int (zi k)), some (.int (zi 1))]) (S' := [.int (zi k), .ref c5]) rfl ?_
                have hl27 : 514 ≤ h2.2.2.2.1 c5 ∧ h2.2.2.2.1 c5 ≤ 514 := gJ.rowl (G := gGG) sh2.1 tc5 rfl
                refine gs_ald rfl (by decide) sh2.1 tc5 rfl rfl rfl (by decide) (fun _ => rfl) (by omega) (by omega) (fun z28 ez28 az28 bz28 => ?_)
                have hf29 := gRow.at (i := k) (z := z28) lp1k0 tc5 ez28 (by omega) (by omega) (by omega)
                refine gz_s 1 (pc' := 67) (L' := [some (.ref m), some (.int (zi nd)), some (.int (zi bt)), some (.int (zi k)), some (.int (zi 1))]) (S' := [.ref m, .int (zi z28)]) rfl ?_
                refine gs_gtk rfl (by decide) rfl sh2.1 tm rfl rfl ec5 ?_
                refine gz_s 1 (pc' := 71) (L' := [some (.ref m), some (.int (zi nd)), some (.int (zi bt)), some (.int (zi k)), some (.int (zi 1))]) (S' := [.int (zi bt), .ref c5, .int (zi z28)]) rfl ?_
                have hl30 : 514 ≤ h2.2.2.2.1 c5 ∧ h2.2.2.2.1 c5 ≤ 514 := gJ.rowl (G := gGG) sh2.1 tc5 rfl
                refine gs_ald rfl (by decide) sh2.1 tc5 rfl rfl rfl (by decide) (fun _ => rfl) (by omega) (by omega) (fun z31 ez31 az31 bz31 => ?_)
                have hf32 := gRow.at (i := bt) (z := z31) lp1k0 tc5 ez31 (by omega) (by omega) (by omega)
                by_cases hc33 : ¬ (z28 : Int) = z31
                · refine gy_icT (pc' := 92) rfl (by decide) (by decide) (by omega) (by omega) hc33 ?_
                  have hls34 : gLst wf pf (k + 1) bt := gLst.pass (by omega) lp1k2 (by omega)
                  refine gy_s 2 (pc' := 4) (L' := [some (.ref m), some (.int (zi nd)), some (.int (zi bt)), some (.int ((zi k) + zi 1)), some (.int (zi 1))]) (S' := []) (L2 := [some (.ref m), some (.int (zi nd)), some (.int (zi bt)), some (.int (zi (k + 1))), some (.int (zi 1))]) (S2 := []) rfl (by simp only [zi_add, zi_sub, zi_mul, zi_neg, zi_and1, zi_and7, zi_and15, zi_and31, zi_and255]) (by simp only [zi_add, zi_sub, zi_mul, zi_neg, zi_and1, zi_and7, zi_and15, zi_and31, zi_and255]) ?_
                  exact gz_wk (ihlp1 h2 bt (k + 1) (by omega) sh2 (by omega) (by omega) (by omega) (by omega) lp1k0 lp1k1 hls34) (gLw.s (gLw.s (gLw.s (gLw.s (gLw.n gLw.z)))))
                · refine gy_icF rfl (by decide) (by decide) (by omega) (by omega) hc33 ?_
                  refine gz_s 1 (pc' := 76) (L' := [some (.ref m), some (.int (zi nd)), some (.int (zi bt)), some (.int (zi k)), some (.int (zi 1))]) (S' := [.ref m]) rfl ?_
                  refine gs_gtr rfl (by decide) rfl sh2.1 tm rfl rfl rfl (fun c35 ec35 tc35 => ?_)
                  refine gz_s 1 (pc' := 80) (L' := [some (.ref m), some (.int (zi nd)), some (.int (zi bt)), some (.int (zi k)), some (.int (zi 1))]) (S' := [.int (zi k), .ref c35]) rfl ?_
                  have hl36 : 514 ≤ h2.2.2.2.1 c35 ∧ h2.2.2.2.1 c35 ≤ 514 := gJ.rowl (G := gGG) sh2.1 tc35 rfl
                  refine gs_ald rfl (by decide) sh2.1 tc35 rfl rfl rfl (by decide) (fun _ => rfl) (by omega) (by omega) (fun z37 ez37 az37 bz37 => ?_)
                  refine gz_s 1 (pc' := 82) (L' := [some (.ref m), some (.int (zi nd)), some (.int (zi bt)), some (.int (zi k)), some (.int (zi 1))]) (S' := [.ref m, .int (zi z37)]) rfl ?_
                  refine gs_gtk rfl (by decide) rfl sh2.1 tm rfl rfl ec35 ?_
                  refine gz_s 1 (pc' := 86) (L' := [some (.ref m), some (.int (zi nd)), some (.int (zi bt)), some (.int (zi k)), some (.int (zi 1))]) (S' := [.int (zi bt), .ref c35, .int (zi z37)]) rfl ?_
                  have hl38 : 514 ≤ h2.2.2.2.1 c35 ∧ h2.2.2.2.1 c35 ≤ 514 := gJ.rowl (G := gGG) sh2.1 tc35 rfl
                  refine gs_ald rfl (by decide) sh2.1 tc35 rfl rfl rfl (by decide) (fun _ => rfl) (by omega) (by omega) (fun z39 ez39 az39 bz39 => ?_)
                  by_cases hc40 : (z37 : Int) ≤ z39
                  · refine gy_icT (pc' := 92) rfl (by decide) (by decide) (by omega) (by omega) hc40 ?_
                    have hls41 : gLst wf pf (k + 1) bt := gLst.pass (by omega) lp1k2 (by omega)
                    refine gy_s 2 (pc' := 4) (L' := [some (.ref m), some (.int (zi nd)), some (.int (zi bt)), some (.int ((zi k) + zi 1)), some (.int (zi 1))]) (S' := []) (L2 := [some (.ref m), some (.int (zi nd)), some (.int (zi bt)), some (.int (zi (k + 1))), some (.int (zi 1))]) (S2 := []) rfl (by simp only [zi_add, zi_sub, zi_mul, zi_neg, zi_and1, zi_and7, zi_and15, zi_and31, zi_and255]) (by simp only [zi_add, zi_sub, zi_mul, zi_neg, zi_and1, zi_and7, zi_and15, zi_and31, zi_and255]) ?_
                    exact gz_wk (ihlp1 h2 bt (k + 1) (by omega) sh2 (by omega) (by omega) (by omega) (by omega) lp1k0 lp1k1 hls41) (gLw.s (gLw.s (gLw.s (gLw.s (gLw.n gLw.z)))))
                  · refine gy_icF rfl (by decide) (by decide) (by omega) (by omega) hc40 ?_
                    refine gz_s 2 (pc' := 92) (L' := [some (.ref m), some (.int (zi nd)), some (.int (zi k)), some (.int (zi k)), some (.int (zi 1))]) (S' := []) rfl ?_
                    have hls42 : gLst wf pf (k + 1) k := gLst.take (by omega) lp1k2 (by omega) (by omega) (by omega)
                    refine gy_s 2 (pc' := 4) (L' := [some (.ref m), some (.int (zi nd)), some (.int (zi k)), some (.int ((zi k) + zi 1)), some (.int (zi 1))]) (S' := []) (L2 := [some (.ref m), some (.int (zi nd)), some (.int (zi k)), some (.int (zi (k + 1))), some (.int (zi 1))]) (S2 := []) rfl (by simp only [zi_add, zi_sub, zi_mul, zi_neg, zi_and1, zi_and7, zi_and15, zi_and31, zi_and255]) (by simp only [zi_add, zi_sub, zi_mul, zi_neg, zi_and1, zi_and7, zi_and15, zi_and31, zi_and255]) ?_
                    exact gz_wk (ihlp1 h2 k (k + 1) (by omega) sh2 (by omega) (by omega) (by omega) (by omega) lp1k0 lp1k1 hls42) (gLw.s (gLw.s (gLw.s (gLw.s (gLw.n gLw.z)))))
  exact gz_wk (lp1 _ h (-1) 0 (Nat.lt_succ_self _) hS (by omega) (by omega) (by omega) (by omega) hyf39 hyf41 gLst.zero) (gLw.s (gLw.s (gLw.s (gLw.s (gLw.n gLw.z)))))
set_option maxRecDepth 20000 in
set_option maxHeartbeats 4000000 in
theorem mm_suit (d : Nat) {ty : Nat → Nat} {h : gH} (hJ : gJ rT 1027 ty h) (m : Nat) (tm : ty m = 1) (wh : Int) (rwh : 0 ≤ wh ∧ wh ≤ 1) (so0 : Int) (rso0 : 0 ≤ so0 ∧ so0 ≤ 1999) (uq : gUq ty) (hyof : gOf ty so0 h) (hyo1 : gO1 ty wh h) : gz gPP gGG gcn (d + 1) gt202 0 (gent [.ref m, .int (zi wh)] 8) [] h (fun q _ => gSs rT 1027 ty [37999, 38999, 39999, 40999, 41999] h q.2.2 ∧ gfin gt202 q.1 q.2.1 = some none) := by
  have hS : gSs rT 1027 ty [37999, 38999, 39999, 40999, 41999] h h := gSs.rf hJ
  obtain ⟨fo, ro, nno, sfo⟩ := hyof
  obtain ⟨c1, ec1, tc1⟩ := gJ.ref (k := 68) (G := gGG) hS.1 tm rfl rfl rfl
  obtain ⟨c2, ec2, tc2⟩ := gJ.ref (k := 71) (G := gGG) hS.1 tm rfl rfl rfl
  obtain ⟨c3, ec3, tc3⟩ := gJ.ref (k := 73) (G := gGG) hS.1 tm rfl rfl rfl
  have o256 := gEl.row hS.1 tc1 rfl rfl (fun _ => rfl) (by decide) (by decide) ro (i := 257 * wh + 256) (by omega) (by omega) hyo1
  refine gz_s 4 (pc' := 6) (L' := [some (.ref m), some (.int (zi wh)), some (.int (zi 257)), some (.int (zi 0)), none, none, none, none]) (S' := []) rfl ?_
  have hti5 : gTi ty fo (257 * wh) 0 h := ⟨_, _, gRow.mk uq tc2 (by decide) (fun _ => rfl), gRow.mk uq tc3 (by decide) (fun _ => rfl), fun j hj => absurd hj (by omega)⟩
  have lp4 : ∀ (fu : Nat) (h6 : gH) (s : Int), (515 - s).toNat < fu → gSs rT 1027 ty [37999, 38999, 39999, 40999, 41999] h h6 → (0 ≤ s ∧ s ≤ 514) → h6.2.2.2.2 m 68 = .ref c1 → h6.2.2.2.2 m 71 = .ref c2 → h6.2.2.2.2 m 73 = .ref c3 → gOf ty so0 h6 → gO1 ty wh h6 → gRow ty 36 fo h6 → gTi ty fo (257 * wh) s h6 → gz gPP gGG gcn (d + 1) gt202 6 [some (.ref m), some (.int (zi wh)), some (.int (zi 257)), some (.int (zi s)), none, none, none, none] [] h6 (fun q _ => gSs rT 1027 ty [37999, 38999, 39999, 40999, 41999] h q.2.2 ∧ gfin gt202 q.1 q.2.1 = some none) := by
    intro fu
    induction fu with
    | zero => intro h6 s hm; exact absurd hm (Nat.not_lt_zero _)
    | succ fu ihlp4 =>
      intro h6 s lp4m sh6 lp4f0 lp4k0 lp4k1 lp4k2 lp4k3 lp4k4 lp4k5 lp4k6
      refine gz_s 2 (pc' := 10) (L' := [some (.ref m), some (.int (zi wh)), some (.int (zi 257)), some (.int (zi s)), none, none, none, none]) (S' := [.int (zi 514), .int (zi s)]) rfl ?_
      by_cases hc7 : (514 : Int) ≤ s
      · refine gy_icT (pc' := 62) rfl (by decide) (by decide) (by omega) (by omega) hc7 ?_
        refine gz_s 2 (pc' := 64) (L' := [some (.ref m), some (.int (zi wh)), some (.int (zi 257)), some (.int (zi 1)), none, none, none, none]) (S' := []) rfl ?_
        have htr9 : gTree ty 257 h6 := by
          have e514 := lp4k6
          rw [(by omega : s = 514)] at e514
          obtain ⟨g1, g2⟩ := e514.out
          refine ⟨_, _, g1, g2, gTr.init nno sfo (by omega) (by omega) ?_⟩
          have e256 : (257 * wh + 256).toNat = (257 * wh).toNat + 256 := by omega
          rw [e256] at o256
          omega
        have lp8 : ∀ (fu : Nat) (h10 : gH) (nd : Int) (mo : Int), (2 * (514 - nd) + mo).toNat < fu → gSs rT 1027 ty [37999, 38999, 39999, 40999, 41999] h h10 → (257 ≤ nd ∧ nd ≤ 513) → (0 ≤ mo ∧ mo ≤ 1) → h10.2.2.2.2 m 68 = .ref c1 → h10.2.2.2.2 m 71 = .ref c2 → h10.2.2.2.2 m 73 = .ref c3 → gOf ty so0 h10 → gO1 ty wh h10 → gRow ty 36 fo h10 → gTree ty nd h10 → gz gPP gGG gcn (d + 1) gt202 64 [some (.ref m), some (.int (zi wh)), some (.int (zi nd)), some (.int (zi mo)), none, none, none, none] [] h10 (fun q _ => gSs rT 1027 ty [37999, 38999, 39999, 40999, 41999] h q.2.2 ∧ gfin gt202 q.1 q.2.1 = some none) := by
          intro fu
          induction fu with
          | zero => intro h10 nd mo hm; exact absurd hm (Nat.not_lt_zero _)
          | succ fu ihlp8 =>
            intro h10 nd mo lp8m sh10 lp8f0 lp8f1 lp8k0 lp8k1 lp8k2 lp8k3 lp8k4 lp8k5 lp8k6
            refine gz_s 1 (pc' := 65) (L' := [some (.ref m), some (.int (zi wh)), some (.int (zi nd)), some (.int (zi mo)), none, none, none, none]) (S' := [.int (zi mo)]) rfl ?_
            by_cases hc11 : (mo : Int) = 0
            · refine gy_ifT (pc' := 192) rfl (by decide) (by decide) (by omega) hc11 ?_
              obtain ⟨wf, pf, rwf, rpf, htr9⟩ := lp8k6
              have hsz := htr9.sz
              have hwr := gRow.rng sh10.1 tc2 rfl rfl (fun _ => rfl) (by decide) (by decide) rwf
              refine gz_s 4 (pc' := 198) (L' := [some (.ref m), some (.int (zi wh)), some (.int (zi nd)), some (.int (zi mo)), some (.int (zi 0)), some (.int (zi 0)), none, none]) (S' := []) rfl ?_
              have lp12 : ∀ (fu : Nat) (h13 : gH) (s2 : Int), (258 - s2).toNat < fu → gSs rT 1027 ty [37999, 38999, 39999, 40999, 41999] h h13 → (0 ≤ s2 ∧ s2 ≤ 257) → h13.2.2.2.2 m 68 = .ref c1 → h13.2.2.2.2 m 71 = .ref c2 → h13.2.2.2.2 m 73 = .ref c3 → gOf ty so0 h13 → gO1 ty wh h13 → gRow ty 36 fo h13 → gRow ty 39 wf h13 → gRow ty 41 pf h13 → gz gPP gGG gcn (d + 1) gt202 198 [some (.ref m), some (.int (zi wh)), some (.int (zi nd)), some (.int (zi mo)), some (.int (zi 0)), some (.int (zi s2)), none, none] [] h13 (fun q _ => gSs rT 1027 ty [37999, 38999, 39999, 40999, 41999] h q.2.2 ∧ gfin gt202 q.1 q.2.1 = some none) := by
                intro fu
                induction fu with
                | zero => intro h13 s2 hm; exact absurd hm (Nat.not_lt_zero _)
                | succ fu ihlp12 =>
                  intro h13 s2 lp12m sh13 lp12f0 lp12k0 lp12k1 lp12k2 lp12k3 lp12k4 lp12k5 lp12k6 lp12k7
                  refine gz_s 2 (pc' := 203) (L' := [some (.ref m), some (.int (zi wh)), some (.int (zi nd)), some (.int (zi mo)), some (.int (zi 0)), some (.int (zi s2)), none, none]) (S' := [.int (zi 257), .int (zi s2)]) rfl ?_
                  by_cases hc14 : (257 : Int) ≤ s2
                  · refine gy_icT (pc' := 270) rfl (by decide) (by decide) (by omega) (by omega) hc14 ?_
                    refine gz_s 2 (pc' := 273) (L' := [some (.ref m), some (.int (zi wh)), some (.int (zi nd)), some (.int (zi mo)), some (.int (zi 0)), some (.int (zi 1)), none, none]) (S' := []) rfl ?_
                    have lp15 : ∀ (fu : Nat) (h16 : gH) (cd : Int) (b1 : Int), (18 - b1).toNat < fu → gSs rT 1027 ty [37999, 38999, 39999, 40999, 41999] h h16 → ((-2147483648) ≤ cd ∧ cd ≤ 2147483647) → (1 ≤ b1 ∧ b1 ≤ 17) → h16.2.2.2.2 m 68 = .ref c1 → h16.2.2.2.2 m 71 = .ref c2 → h16.2.2.2.2 m 73 = .ref c3 → gOf ty so0 h16 → gO1 ty wh h16 → gRow ty 36 fo h16 → gRow ty 39 wf h16 → gRow ty 41 pf h16 → gz gPP gGG gcn (d + 1) gt202 273 [some (.ref m), some (.int (zi wh)), some (.int (zi nd)), some (.int (zi mo)), some (.int (zi cd)), some (.int (zi b1)), none, none] [] h16 (fun q _ => gSs rT 1027 ty [37999, 38999, 39999, 40999, 41999] h q.2.2 ∧ gfin gt202 q.1 q.2.1 = some none) := by
                      intro fu
                      induction fu with
                      | zero => intro h16 cd b1 hm; exact absurd hm (Nat.not_lt_zero _)
                      | succ fu ihlp15 =>
                        intro h16 cd b1 lp15m sh16 lp15f0 lp15f1 lp15k0 lp15k1 lp15k2 lp15k3 lp15k4 lp15k5 lp15k6 lp15k7
                        refine gz_s 2 (pc' := 277) (L' := [some (.ref m), some (.int (zi wh)), some (.int (zi nd)), some (.int (zi mo)), some (.int (zi cd)), some (.int (zi b1)), none, none]) (S' := [.int (zi 16), .int (zi b1)]) rfl ?_
                        by_cases hc17 : (16 : Int) < b1
                        · refine gy_icT (pc' := 345) rfl (by decide) (by decide) (by omega) (by omega) hc17 ?_
                          exact gz_end (I := .return_) (len := 1) rfl (Or.inl rfl) ⟨sh16, rfl⟩
                        · refine gy_icF rfl (by decide) (by decide) (by omega) (by omega) hc17 ?_
                          refine gy_s 3 (pc' := 284) (L' := [some (.ref m), some (.int (zi wh)), some (.int (zi nd)), some (.int (zi mo)), some (.int (zi cd)), some (.int (zi b1)), none, none]) (S' := [.int ((zi 2) * (zi cd))]) (L2 := [some (.ref m), some (.int (zi wh)), some (.int (zi nd)), some (.int (zi mo)), some (.int (zi cd)), some (.int (zi b1)), none, none]) (S2 := [.int (zi (2 * cd))]) rfl (by simp only [zi_add, zi_sub, zi_mul, zi_neg, zi_and1, zi_and7, zi_and15, zi_and31, zi_and255]) (by simp only [zi_add, zi_sub, zi_mul, zi_neg, zi_and1, zi_and7, zi_and15, zi_and31, zi_and255]) ?_
                          refine gy_any (fun z18 ez18 az18 bz18 => ?_)
                          refine gz_s 3 (pc' := 289) (L' := [some (.ref m), some (.int (zi wh)), some (.int (zi nd)), some (.int (zi mo)), some (.int (zi z18)), some (.int (zi b1)), some (.int (zi 0)), none]) (S' := []) rfl ?_
                          have lp19 : ∀ (fu : Nat) (h20 : gH) (cd2 : Int) (s3 : Int), (257 - s3).toNat < fu → gSs rT 1027 ty [37999, 38999, 39999, 40999, 41999] h h20 → ((-2147483648) ≤ cd2 ∧ cd2 ≤ 2147483647) → (0 ≤ s3 ∧ s3 ≤ 256) → h20.2.2.2.2 m 68 = .ref c1 → h20.2.2.2.2 m 71 = .ref c2 → h20.2.2.2.2 m 73 = .ref c3 → gOf ty so0 h20 → gO1 ty wh h20 → gRow ty 36 fo h20 → gRow ty 39 wf h20 → gRow ty 41 pf h20 → gz gPP gGG gcn (d + 1) gt202 289 [some (.ref m), some (.int (zi wh)), some (.int (zi nd)), some (.int (zi mo)), some (.int (zi cd2)), some (.int (zi b1)), some (.int (zi s3)), none] [] h20 (fun q _ => gSs rT 1027 ty [37999, 38999, 39999, 40999, 41999] h q.2.2 ∧ gfin gt202 q.1 q.2.1 = some none) := by
                            intro fu
                            induction fu with
                            | zero => intro h20 cd2 s3 hm; exact absurd hm (Nat.not_lt_zero _)
                            | succ fu ihlp19 =>
                              intro h20 cd2 s3 lp19m sh20 lp19f0 lp19f1 lp19k0 lp19k1 lp19k2 lp19k3 lp19k4 lp19k5 lp19k6 lp19k7
                              refine gz_s 2 (pc' := 294) (L' := [some (.ref m), some (.int (zi wh)), some (.int (zi nd)), some (.int (zi mo)), some (.int (zi cd2)), some (.int (zi b1)), some (.int (zi s3)), none]) (S' := [.int (zi 256), .int (zi s3)]) rfl ?_
                              by_cases hc21 : (256 : Int) ≤ s3
                              · refine gy_icT (pc' := 339) rfl (by decide) (by decide) (by omega) (by omega) hc21 ?_
                                refine gy_s 2 (pc' := 273) (L' := [some (.ref m), some (.int (zi wh)), some (.int (zi nd)), some (.int (zi mo)), some (.int (zi cd2)), some (.int ((zi b1) + zi 1)), some (.int (zi s3)), none]) (S' := []) (L2 := [some (.ref m), some (.int (zi wh)), some (.int (zi nd)), some (.int (zi mo)), some (.int (zi cd2)), some (.int (zi (b1 + 1))), some (.int (zi s3)), none]) (S2 := []) rfl (by simp only [zi_add, zi_sub, zi_mul, zi_neg, zi_and1, zi_and7, zi_and15, zi_and31, zi_and255]) (by simp only [zi_add, zi_sub, zi_mul, zi_neg, zi_and1, zi_and7, zi_and15, zi_and31, zi_and255]) ?_
                                exact gz_wk (ihlp15 h20 cd2 (b1 + 1) (by omega) sh20 (by omega) (by omega) lp19k0 lp19k1 lp19k2 lp19k3 lp19k4 lp19k5 lp19k6 lp19k7) (gLw.s (gLw.s (gLw.s (gLw.s (gLw.s (gLw.s (gLw.n (gLw.n gLw.z))))))))
                              · refine gy_icF rfl (by decide) (by decide) (by omega) (by omega) hc21 ?_
                                refine gz_s 1 (pc' := 298) (L' := [some (.ref m), some (.int (zi wh)), some (.int (zi nd)), some (.int (zi mo)), some (.int (zi cd2)), some (.int (zi b1)), some (.int (zi s3)), none]) (S' := [.ref m]) rfl ?_
                                refine gs_gtr rfl (by decide) rfl sh20.1 tm rfl rfl rfl (fun c22 ec22 tc22 => ?_)
                                refine gy_s 5 (pc' := 309) (L' := [some (.ref m), some (.int (zi wh)), some (.int (zi nd)), some (.int (zi mo)), some (.int (zi cd2)), some (.int (zi b1)), some (.int (zi s3)), none]) (S' := [.int (((zi 257) * (zi wh)) + (zi s3)), .ref c22]) (L2 := [some (.ref m), some (.int (zi wh)), some (.int (zi nd)), some (.int (zi mo)), some (.int (zi cd2)), some (.int (zi b1)), some (.int (zi s3)), none]) (S2 := [.int (zi ((257 * wh) + s3)), .ref c22]) rfl (by simp only [zi_add, zi_sub, zi_mul, zi_neg, zi_and1, zi_and7, zi_and15, zi_and31, zi_and255]) (by simp only [zi_add, zi_sub, zi_mul, zi_neg, zi_and1, zi_and7, zi_and15, zi_and31, zi_and255]) ?_
                                have hl23 : 514 ≤ h20.2.2.2.1 c22 ∧ h20.2.2.2.1 c22 ≤ 514 := gJ.rowl (G := gGG) sh20.1 tc22 rfl
                                refine gs_ald rfl (by decide) sh20.1 tc22 rfl rfl rfl (by decide) (fun _ => rfl) (by omega) (by omega) (fun z24 ez24 az24 bz24 => ?_)
                                refine gz_s 1 (pc' := 312) (L' := [some (.ref m), some (.int (zi wh)), some (.int (zi nd)), some (.int (zi mo)), some (.int (zi cd2)), some (.int (zi b1)), some (.int (zi s3)), none]) (S' := [.int (zi b1), .int (zi z24)]) rfl ?_
                                by_cases hc25 : ¬ (z24 : Int) = b1
                                · refine gy_icT (pc' := 333) rfl (by decide) (by decide) (by omega) (by omega) hc25 ?_
                                  refine gy_s 2 (pc' := 289) (L' := [some (.ref m), some (.int (zi wh)), some (.int (zi nd)), some (.int (zi mo)), some (.int (zi cd2)), some (.int (zi b1)), some (.int ((zi s3) + zi 1)), none]) (S' := []) (L2 := [some (.ref m), some (.int (zi wh)), some (.int (zi nd)), some (.int (zi mo)), some (.int (zi cd2)), some (.int (zi b1)), some (.int (zi (s3 + 1))), none]) (S2 := []) rfl (by simp only [zi_add, zi_sub, zi_mul, zi_neg, zi_and1, zi_and7, zi_and15, zi_and31, zi_and255]) (by simp only [zi_add, zi_sub, zi_mul, zi_neg, zi_and1, zi_and7, zi_and15, zi_and31, zi_and255]) ?_
                                  exact gz_wk (ihlp19 h20 cd2 (s3 + 1) (by omega) sh20 (by omega) (by omega) lp19k0 lp19k1 lp19k2 lp19k3 lp19k4 lp19k5 lp19k6 lp19k7) (gLw.s (gLw.s (gLw.s (gLw.s (gLw.s (gLw.s (gLw.s (gLw.n gLw.z))))))))
                                · refine gy_icF rfl (by decide) (by decide) (by omega) (by omega) hc25 ?_
                                  refine gz_s 1 (pc' := 316) (L' := [some (.ref m), some (.int (zi wh)), some (.int (zi nd)), some (.int (zi mo)), some (.int (zi cd2)), some (.int (zi b1)), some (.int (zi s3)), none]) (S' := [.ref m]) rfl ?_
                                  refine gs_gtr rfl (by decide) rfl sh20.1 tm rfl rfl rfl (fun c26 ec26 tc26 => ?_)
                                  refine gy_s 6 (pc' := 329) (L' := [some (.ref m), some (.int (zi wh)), some (.int (zi nd)), some (.int (zi mo)), some (.int (zi cd2)), some (.int (zi b1)), some (.int (zi s3)), none]) (S' := [.int (zi cd2), .int (((zi 257) * (zi wh)) + (zi s3)), .ref c26]) (L2 := [some (.ref m), some (.int (zi wh)), some (.int (zi nd)), some (.int (zi mo)), some (.int (zi cd2)), some (.int (zi b1)), some (.int (zi s3)), none]) (S2 := [.int (zi cd2), .int (zi ((257 * wh) + s3)), .ref c26]) rfl (by simp only [zi_add, zi_sub, zi_mul, zi_neg, zi_and1, zi_and7, zi_and15, zi_and31, zi_and255]) (by simp only [zi_add, zi_sub, zi_mul, zi_neg, zi_and1, zi_and7, zi_and15, zi_and31, zi_and255]) ?_
                                  have hl27 : 514 ≤ h20.2.2.2.1 c26 ∧ h20.2.2.2.1 c26 ≤ 514 := gJ.rowl (G := gGG) sh20.1 tc26 rfl
                                  refine gs_ast rfl (by decide) sh20 tc26 rfl rfl rfl (by decide) (fun _ => rfl) (by omega) (by omega) (fun _ => (by decide : (38999 : Nat) ∈ ([37999, 38999, 39999, 40999, 41999] : List Nat))) (by omega) (by omega) (fun h28 sh28 eh28 fh28 => ?_)
                                  have pr29 := gOf.pt fh28 tc26 (by decide) lp19k3
                                  have pr30 := gO1.pt fh28 tc26 (by decide) lp19k4
                                  have pr31 := gRow.pt fh28 tc26 (by decide) lp19k5
                                  have pr32 := gRow.pt fh28 tc26 (by decide) lp19k6
                                  have pr33 := gRow.pt fh28 tc26 (by decide) lp19k7
                                  have s34 := (fh28 m 68 (fun q => absurd (((tm).symm.trans (congrArg ty q.1)).trans tc26) (by decide))).trans lp19k0
                                  have s35 := (fh28 m 71 (fun q => absurd (((tm).symm.trans (congrArg ty q.1)).trans tc26) (by decide))).trans lp19k1
                                  have s36 := (fh28 m 73 (fun q => absurd (((tm).symm.trans (congrArg ty q.1)).trans tc26) (by decide))).trans lp19k2
                                  have s37 := (fh28 m 69 (fun q => absurd (((tm).symm.trans (congrArg ty q.1)).trans tc26) (by decide))).trans ec22
                                  have s38 := (fh28 m 70 (fun q => absurd (((tm).symm.trans (congrArg ty q.1)).trans tc26) (by decide))).trans ec26
                                  have pr39 := gEl.set (i := (257 * wh) + s3) (z := cd2) uq tc26 (by decide) eh28 (by omega) (by omega)
                                  refine gy_s 1 (pc' := 333) (L' := [some (.ref m), some (.int (zi wh)), some (.int (zi nd)), some (.int (zi mo)), some (.int ((zi cd2) + zi 1)), some (.int (zi b1)), some (.int (zi s3)), none]) (S' := []) (L2 := [some (.ref m), some (.int (zi wh)), some (.int (zi nd)), some (.int (zi mo)), some (.int (zi (cd2 + 1))), some (.int (zi b1)), some (.int (zi s3)), none]) (S2 := []) rfl (by simp only [zi_add, zi_sub, zi_mul, zi_neg, zi_and1, zi_and7, zi_and15, zi_and31, zi_and255]) (by simp only [zi_add, zi_sub, zi_mul, zi_neg, zi_and1, zi_and7, zi_and15, zi_and31, zi_and255]) ?_
                                  refine gy_loc (i := 4) (x := zi (cd2 + 1)) rfl (fun z40 ez40 az40 bz40 => ?_)
                                  show gz gPP gGG gcn _ _ 333 [some (.ref m), some (.int (zi wh)), some (.int (zi nd)), some (.int (zi mo)), some (.int (zi z40)), some (.int (zi b1)), some (.int (zi s3)), none] [] h28 _
                                  refine gy_s 2 (pc' := 289) (L' := [some (.ref m), some (.int (zi wh)), some (.int (zi nd)), some (.int (zi mo)), some (.int (zi z40)), some (.int (zi b1)), some (.int ((zi s3) + zi 1)), none]) (S' := []) (L2 := [some (.ref m), some (.int (zi wh)), some (.int (zi nd)), some (.int (zi mo)), some (.int (zi z40)), some (.int (zi b1)), some (.int (zi (s3 + 1))), none]) (S2 := []) rfl (by simp only [zi_add, zi_sub, zi_mul, zi_neg, zi_and1, zi_and7, zi_and15, zi_and31, zi_and255]) (by simp only [zi_add, zi_sub, zi_mul, zi_neg, zi_and1, zi_and7, zi_and15, zi_and31, zi_and255]) ?_
                                  exact gz_wk (ihlp19 h28 z40 (s3 + 1) (by omega) sh28 (by omega) (by omega) s34 s35 s36 pr29 pr30 pr31 pr32 pr33) (gLw.s (gLw.s (gLw.s (gLw.s (gLw.s (gLw.s (gLw.s (gLw.n gLw.z))))))))
                          exact gz_wk (lp19 _ h16 z18 0 (Nat.lt_succ_self _) sh16 (by omega) (by omega) lp15k0 lp15k1 lp15k2 lp15k3 lp15k4 lp15k5 lp15k6 lp15k7) (gLw.s (gLw.s (gLw.s (gLw.s (gLw.s (gLw.s (gLw.s (gLw.n gLw.z))))))))
                    exact gz_wk (lp15 _ h13 0 1 (Nat.lt_succ_self _) sh13 (by omega) (by omega) lp12k0 lp12k1 lp12k2 lp12k3 lp12k4 lp12k5 lp12k6 lp12k7) (gLw.s (gLw.s (gLw.s (gLw.s (gLw.s (gLw.s (gLw.n (gLw.n gLw.z))))))))
                  · refine gy_icF rfl (by decide) (by decide) (by omega) (by omega) hc14 ?_
                    refine gz_s 4 (pc' := 213) (L' := [some (.ref m), some (.int (zi wh)), some (.int (zi nd)), some (.int (zi mo)), some (.int (zi 0)), some (.int (zi s2)), some (.int (zi 0)), some (.int (zi s2))]) (S' := []) rfl ?_
                    have lp41 : ∀ (fu : Nat) (h42 : gH) (bits : Int) (kk : Int), (514 - kk).toNat < fu → gSs rT 1027 ty [37999, 38999, 39999, 40999, 41999] h h42 → (0 ≤ bits ∧ bits ≤ 21) → (0 ≤ kk ∧ kk ≤ 512) → (kk < nd) → h42.2.2.2.2 m 68 = .ref c1 → h42.2.2.2.2 m 71 = .ref c2 → h42.2.2.2.2 m 73 = .ref c3 → gOf ty so0 h42 → gO1 ty wh h42 → gRow ty 36 fo h42 → gRow ty 39 wf h42 → gRow ty 41 pf h42 → gDp wf pf (s2).toNat (kk).toNat (bits).toNat → gz gPP gGG gcn (d + 1) gt202 213 [some (.ref m), some (.int (zi wh)), some (.int (zi nd)), some (.int (zi mo)), some (.int (zi 0)), some (.int (zi s2)), some (.int (zi bits)), some (.int (zi kk))] [] h42 (fun q _ => gSs rT 1027 ty [37999, 38999, 39999, 40999, 41999] h q.2.2 ∧ gfin gt202 q.1 q.2.1 = some none) := by
                      intro fu
                      induction fu with
                      | zero => intro h42 bits kk hm; exact absurd hm (Nat.not_lt_zero _)
                      | succ fu ihlp41 =>
                        intro h42 bits kk lp41m sh42 lp41f0 lp41f1 lp41f2 lp41k0 lp41k1 lp41k2 lp41k3 lp41k4 lp41k5 lp41k6 lp41k7 lp41k8
                        refine gz_s 1 (pc' := 214) (L' := [some (.ref m), some (.int (zi wh)), some (.int (zi nd)), some (.int (zi mo)), some (.int (zi 0)), some (.int (zi s2)), some (.int (zi bits)), some (.int (zi kk))]) (S' := [.ref m]) rfl ?_
                        refine gs_gtk rfl (by decide) rfl sh42.1 tm rfl rfl lp41k1 ?_
                        refine gz_s 1 (pc' := 219) (L' := [some (.ref m), some (.int (zi wh)), some (.int (zi nd)), some (.int (zi mo)), some (.int (zi 0)), some (.int (zi s2)), some (.int (zi bits)), some (.int (zi kk))]) (S' := [.int (zi s2), .ref c2]) rfl ?_
                        have hl43 : 514 ≤ h42.2.2.2.1 c2 ∧ h42.2.2.2.1 c2 ≤ 514 := gJ.rowl (G := gGG) sh42.1 tc2 rfl
                        refine gs_ald rfl (by decide) sh42.1 tc2 rfl rfl rfl (by decide) (fun _ => rfl) (by omega) (by omega) (fun z44 ez44 az44 bz44 => ?_)
                        have hf45 := gRow.at (i := s2) (z := z44) lp41k6 tc2 ez44 (by omega) (by omega) (by omega)
                        by_cases hc46 : (z44 : Int) ≤ 0
                        · refine gy_ifT (pc' := 249) rfl (by decide) (by decide) (by omega) hc46 ?_
                          refine gz_s 1 (pc' := 250) (L' := [some (.ref m), some (.int (zi wh)), some (.int (zi nd)), some (.int (zi mo)), some (.int (zi 0)), some (.int (zi s2)), some (.int (zi bits)), some (.int (zi kk))]) (S' := [.ref m]) rfl ?_
                          refine gs_gtr rfl (by decide) rfl sh42.1 tm rfl rfl rfl (fun c47 ec47 tc47 => ?_)
                          refine gy_s 6 (pc' := 263) (L' := [some (.ref m), some (.int (zi wh)), some (.int (zi nd)), some (.int (zi mo)), some (.int (zi 0)), some (.int (zi s2)), some (.int (zi bits)), some (.int (zi kk))]) (S' := [.int (zi bits), .int (((zi 257) * (zi wh)) + (zi s2)), .ref c47]) (L2 := [some (.ref m), some (.int (zi wh)), some (.int (zi nd)), some (.int (zi mo)), some (.int (zi 0)), some (.int (zi s2)), some (.int (zi bits)), some (.int (zi kk))]) (S2 := [.int (zi bits), .int (zi ((257 * wh) + s2)), .ref c47]) rfl (by simp only [zi_add, zi_sub, zi_mul, zi_neg, zi_and1, zi_and7, zi_and15, zi_and31, zi_and255]) (by simp only [zi_add, zi_sub, zi_mul, zi_neg, zi_and1, zi_and7, zi_and15, zi_and31, zi_and255]) ?_
                          have hl48 : 514 ≤ h42.2.2.2.1 c47 ∧ h42.2.2.2.1 c47 ≤ 514 := gJ.rowl (G := gGG) sh42.1 tc47 rfl
                          refine gs_ast rfl (by decide) sh42 tc47 rfl rfl rfl (by decide) (fun _ => rfl) (by omega) (by omega) (fun _ => (by decide : (37999 : Nat) ∈ ([37999, 38999, 39999, 40999, 41999] : List Nat))) (by omega) (by omega) (fun h49 sh49 eh49 fh49 => ?_)
                          have pr50 := gOf.pt fh49 tc47 (by decide) lp41k3
                          have pr51 := gO1.pt fh49 tc47 (by decide) lp41k4
                          have pr52 := gRow.pt fh49 tc47 (by decide) lp41k5
                          have pr53 := gRow.pt fh49 tc47 (by decide) lp41k6
                          have pr54 := gRow.pt fh49 tc47 (by decide) lp41k7
                          have s55 := (fh49 m 68 (fun q => absurd (((tm).symm.trans (congrArg ty q.1)).trans tc47) (by decide))).trans lp41k0
                          have s56 := (fh49 m 71 (fun q => absurd (((tm).symm.trans (congrArg ty q.1)).trans tc47) (by decide))).trans lp41k1
                          have s57 := (fh49 m 73 (fun q => absurd (((tm).symm.trans (congrArg ty q.1)).trans tc47) (by decide))).trans lp41k2
                          have s58 := (fh49 m 69 (fun q => absurd (((tm).symm.trans (congrArg ty q.1)).trans tc47) (by decide))).trans ec47
                          have pr59 := gEl.set (i := (257 * wh) + s2) (z := bits) uq tc47 (by decide) eh49 (by omega) (by omega)
                          refine gy_s 2 (pc' := 198) (L' := [some (.ref m), some (.int (zi wh)), some (.int (zi nd)), some (.int (zi mo)), some (.int (zi 0)), some (.int ((zi s2) + zi 1)), some (.int (zi bits)), some (.int (zi kk))]) (S' := []) (L2 := [some (.ref m), some (.int (zi wh)), some (.int (zi nd)), some (.int (zi mo)), some (.int (zi 0)), some (.int (zi (s2 + 1))), some (.int (zi bits)), some (.int (zi kk))]) (S2 := []) rfl (by simp only [zi_add, zi_sub, zi_mul, zi_neg, zi_and1, zi_and7, zi_and15, zi_and31, zi_and255]) (by simp only [zi_add, zi_sub, zi_mul, zi_neg, zi_and1, zi_and7, zi_and15, zi_and31, zi_and255]) ?_
                          exact gz_wk (ihlp12 h49 (s2 + 1) (by omega) sh49 (by omega) s55 s56 s57 pr50 pr51 pr52 pr53 pr54) (gLw.s (gLw.s (gLw.s (gLw.s (gLw.s (gLw.s (gLw.n (gLw.n gLw.z))))))))
                        · refine gy_ifF rfl (by decide) (by decide) (by omega) hc46 ?_
                          refine gz_s 1 (pc' := 224) (L' := [some (.ref m), some (.int (zi wh)), some (.int (zi nd)), some (.int (zi mo)), some (.int (zi 0)), some (.int (zi s2)), some (.int (zi bits)), some (.int (zi kk))]) (S' := [.ref m]) rfl ?_
                          refine gs_gtk rfl (by decide) rfl sh42.1 tm rfl rfl lp41k2 ?_
                          refine gz_s 1 (pc' := 229) (L' := [some (.ref m), some (.int (zi wh)), some (.int (zi nd)), some (.int (zi mo)), some (.int (zi 0)), some (.int (zi s2)), some (.int (zi bits)), some (.int (zi kk))]) (S' := [.int (zi kk), .ref c3]) rfl ?_
                          have hl60 : 514 ≤ h42.2.2.2.1 c3 ∧ h42.2.2.2.1 c3 ≤ 514 := gJ.rowl (G := gGG) sh42.1 tc3 rfl
                          refine gs_ald rfl (by decide) sh42.1 tc3 rfl rfl rfl (by decide) (fun _ => rfl) (by omega) (by omega) (fun z61 ez61 az61 bz61 => ?_)
                          have hf62 := gRow.at (i := kk) (z := z61) lp41k7 tc3 ez61 (by omega) (by omega) (by omega)
                          refine gz_s 1 (pc' := 231) (L' := [some (.ref m), some (.int (zi wh)), some (.int (zi nd)), some (.int (zi mo)), some (.int (zi 0)), some (.int (zi s2)), some (.int (zi bits)), some (.int (zi kk))]) (S' := [.int (zi (-1)), .int (zi z61)]) rfl ?_
                          by_cases hc63 : (z61 : Int) = (-1)
                          · refine gy_icT (pc' := 249) rfl (by decide) (by decide) (by omega) (by omega) hc63 ?_
                            refine gz_s 1 (pc' := 250) (L' := [some (.ref m), some (.int (zi wh)), some (.int (zi nd)), some (.int (zi mo)), some (.int (zi 0)), some (.int (zi s2)), some (.int (zi bits)), some (.int (zi kk))]) (S' := [.ref m]) rfl ?_
                            refine gs_gtr rfl (by decide) rfl sh42.1 tm rfl rfl rfl (fun c64 ec64 tc64 => ?_)
                            refine gy_s 6 (pc' := 263) (L' := [some (.ref m), some (.int (zi wh)), some (.int (zi nd)), some (.int (zi mo)), some (.int (zi 0)), some (.int (zi s2)), some (.int (zi bits)), some (.int (zi kk))]) (S' := [.int (zi bits), .int (((zi 257) * (zi wh)) + (zi s2)), .ref c64]) (L2 := [some (.ref m), some (.int (zi wh)), some (.int (zi nd)), some (.int (zi mo)), some (.int (zi 0)), some (.int (zi s2)), some (.int (zi bits)), some (.int (zi kk))]) (S2 := [.int (zi bits), .int (zi ((257 * wh) + s2)), .ref c64]) rfl (by simp only [zi_add, zi_sub, zi_mul, zi_neg, zi_and1, zi_and7, zi_and15, zi_and31, zi_and255]) (by simp only [zi_add, zi_sub, zi_mul, zi_neg, zi_and1, zi_and7, zi_and15, zi_and31, zi_and255]) ?_
                            have hl65 : 514 ≤ h42.2.2.2.1 c64 ∧ h42.2.2.2.1 c64 ≤ 514 := gJ.rowl (G := gGG) sh42.1 tc64 rfl
                            refine gs_ast rfl (by decide) sh42 tc64 rfl rfl rfl (by decide) (fun _ => rfl) (by omega) (by omega) (fun _ => (by decide : (37999 : Nat) ∈ ([37999, 38999, 39999, 40999, 41999] : List Nat))) (by omega) (by omega) (fun h66 sh66 eh66 fh66 => ?_)
                            have pr67 := gOf.pt fh66 tc64 (by decide) lp41k3
                            have pr68 := gO1.pt fh66 tc64 (by decide) lp41k4
                            have pr69 := gRow.pt fh66 tc64 (by decide) lp41k5
                            have pr70 := gRow.pt fh66 tc64 (by decide) lp41k6
                            have pr71 := gRow.pt fh66 tc64 (by decide) lp41k7
                            have s72 := (fh66 m 68 (fun q => absurd (((tm).symm.trans (congrArg ty q.1)).trans tc64) (by decide))).trans lp41k0
                            have s73 := (fh66 m 71 (fun q => absurd (((tm).symm.trans (congrArg ty q.1)).trans tc64) (by decide))).trans lp41k1
                            have s74 := (fh66 m 73 (fun q => absurd (((tm).symm.trans (congrArg ty q.1)).trans tc64) (by decide))).trans lp41k2
                            have s75 := (fh66 m 69 (fun q => absurd (((tm).symm.trans (congrArg ty q.1)).trans tc64) (by decide))).trans ec64
                            have pr76 := gEl.set (i := (257 * wh) + s2) (z := bits) uq tc64 (by decide) eh66 (by omega) (by omega)
                            refine gy_s 2 (pc' := 198) (L' := [some (.ref m), some (.int (zi wh)), some (.int (zi nd)), some (.int (zi mo)), some (.int (zi 0)), some (.int ((zi s2) + zi 1)), some (.int (zi bits)), some (.int (zi kk))]) (S' := []) (L2 := [some (.ref m), some (.int (zi wh)), some (.int (zi nd)), some (.int (zi mo)), some (.int (zi 0)), some (.int (zi (s2 + 1))), some (.int (zi bits)), some (.int (zi kk))]) (S2 := []) rfl (by simp only [zi_add, zi_sub, zi_mul, zi_neg, zi_and1, zi_and7, zi_and15, zi_and31, zi_and255]) (by simp only [zi_add, zi_sub, zi_mul, zi_neg, zi_and1, zi_and7, zi_and15, zi_and31, zi_and255]) ?_
                            exact gz_wk (ihlp12 h66 (s2 + 1) (by omega) sh66 (by omega) s72 s73 s74 pr67 pr68 pr69 pr70 pr71) (gLw.s (gLw.s (gLw.s (gLw.s (gLw.s (gLw.s (gLw.n (gLw.n gLw.z))))))))
                          · refine gy_icF rfl (by decide) (by decide) (by omega) (by omega) hc63 ?_
                            have hup := htr9.up (kk).toNat (by omega)
                            refine gy_s 2 (pc' := 238) (L' := [some (.ref m), some (.int (zi wh)), some (.int (zi nd)), some (.int (zi mo)), some (.int (zi 0)), some (.int (zi s2)), some (.int ((zi bits) + zi 1)), some (.int (zi kk))]) (S' := [.ref m]) (L2 := [some (.ref m), some (.int (zi wh)), some (.int (zi nd)), some (.int (zi mo)), some (.int (zi 0)), some (.int (zi s2)), some (.int (zi (bits + 1))), some (.int (zi kk))]) (S2 := [.ref m]) rfl (by simp only [zi_add, zi_sub, zi_mul, zi_neg, zi_and1, zi_and7, zi_and15, zi_and31, zi_and255]) (by simp only [zi_add, zi_sub, zi_mul, zi_neg, zi_and1, zi_and7, zi_and15, zi_and31, zi_and255]) ?_
                            refine gs_gtk rfl (by decide) rfl sh42.1 tm rfl rfl lp41k2 ?_
                            refine gz_s 1 (pc' := 243) (L' := [some (.ref m), some (.int (zi wh)), some (.int (zi nd)), some (.int (zi mo)), some (.int (zi 0)), some (.int (zi s2)), some (.int (zi (bits + 1))), some (.int (zi kk))]) (S' := [.int (zi kk), .ref c3]) rfl ?_
                            have hl77 : 514 ≤ h42.2.2.2.1 c3 ∧ h42.2.2.2.1 c3 ≤ 514 := gJ.rowl (G := gGG) sh42.1 tc3 rfl
                            refine gs_ald rfl (by decide) sh42.1 tc3 rfl rfl rfl (by decide) (fun _ => rfl) (by omega) (by omega) (fun z78 ez78 az78 bz78 => ?_)
                            have hf79 := gRow.at (i := kk) (z := z78) lp41k7 tc3 ez78 (by omega) (by omega) (by omega)
                            refine gz_s 1 (pc' := 246) (L' := [some (.ref m), some (.int (zi wh)), some (.int (zi nd)), some (.int (zi mo)), some (.int (zi 0)), some (.int (zi s2)), some (.int (zi (bits + 1))), some (.int (zi z78))]) (S' := []) rfl ?_
                            obtain ⟨m9, hm9, hm1, hm2⟩ : ∃ m9 : Nat, pf (kk).toNat = (m9 : Int) ∧ (kk).toNat < m9 ∧ m9 < nd.toNat := hup.resolve_left (by omega)
                            have hdq := gDp.step (m := m9) htr9 (by omega) hm9 hm2 lp41k8
                            have hdl := hdq.le (by omega) (hwr m9 (by omega)).2
                            have hdp80 : gDp wf pf (s2).toNat (z78).toNat (bits + 1).toNat := by rw [(by omega : (z78).toNat = m9), (by omega : (bits + 1).toNat = (bits).toNat + 1)]; exact hdq
                            refine gz_s 1 (pc' := 213) (L' := [some (.ref m), some (.int (zi wh)), some (.int (zi nd)), some (.int (zi mo)), some (.int (zi 0)), some (.int (zi s2)), some (.int (zi (bits + 1))), some (.int (zi z78))]) (S' := []) rfl ?_
                            exact gz_wk (ihlp41 h42 (bits + 1) z78 (by omega) sh42 (by omega) (by omega) (by omega) lp41k0 lp41k1 lp41k2 lp41k3 lp41k4 lp41k5 lp41k6 lp41k7 hdp80) (gLw.s (gLw.s (gLw.s (gLw.s (gLw.s (gLw.s (gLw.s (gLw.s gLw.z))))))))
                    exact gz_wk (lp41 _ h13 0 s2 (Nat.lt_succ_self _) sh13 (by omega) (by omega) (by omega) lp12k0 lp12k1 lp12k2 lp12k3 lp12k4 lp12k5 lp12k6 lp12k7 gDp.zero htr9 (by omega)) (gLw.s (gLw.s (gLw.s (gLw.s (gLw.s (gLw.s (gLw.s (gLw.s gLw.z))))))))
              exact gz_wk (lp12 _ h10 0 (Nat.lt_succ_self _) sh10 (by omega) lp8k0 lp8k1 lp8k2 lp8k3 lp8k4 lp8k5 rwf rpf) (gLw.s (gLw.s (gLw.s (gLw.s (gLw.s (gLw.s (gLw.n (gLw.n gLw.z))))))))
            · refine gy_ifF rfl (by decide) (by decide) (by omega) hc11 ?_
              obtain ⟨wf, pf, rwf, rpf, htr9⟩ := lp8k6
              have hsz := htr9.sz
              refine gz_s 2 (pc' := 70) (L' := [some (.ref m), some (.int (zi wh)), some (.int (zi nd)), some (.int (zi mo)), none, none, none, none]) (S' := [.int (zi nd), .ref m]) rfl ?_
              refine gz_call rfl (by decide) rfl (by decide) (by decide) (gcal_of rfl rfl rfl (Nat.le_of_ble_eq_true rfl) (gJ.recv (G := gGG) sh10.1 tm rfl rfl)) (mm_leastNode2 _ sh10.1 m tm nd (by omega) wf pf rwf rpf) (fun q81 _ wq81 => ?_)
              obtain ⟨pq81, oq81, hq81⟩ := q81
              obtain ⟨xq81, zq81, gq81, aq81, bq81, uq81_0, yq81_0⟩ := wq81
              refine ⟨_, gq81, ?_⟩
              show gz gPP gGG gcn _ _ 73 [some (.ref m), some (.int (zi wh)), some (.int (zi nd)), some (.int (zi mo)), none, none, none, none] [.int (zi zq81)] hq81 _
              have sq81 := gSs.tr sh10 xq81 (by decide)
              have s82 := (xq81.2.2.2.2.2 m 68 (by rw [tm]; decide)).trans lp8k0
              have s83 := (xq81.2.2.2.2.2 m 71 (by rw [tm]; decide)).trans lp8k1
              have s84 := (xq81.2.2.2.2.2 m 73 (by rw [tm]; decide)).trans lp8k2
              have pr85 := gOf.fr xq81.2 (by decide) lp8k3
              have pr86 := gO1.fr xq81.2 (by decide) lp8k4
              have pr87 := gRow.fr xq81.2 (by decide) lp8k5
              have pr88 := gRow.fr xq81.2 (by decide) rwf
              have pr89 := gRow.fr xq81.2 (by decide) rpf
              refine gy_any (fun z90 ez90 az90 bz90 => ?_)
              refine gz_s 1 (pc' := 75) (L' := [some (.ref m), some (.int (zi wh)), some (.int (zi nd)), some (.int (zi mo)), some (.int (zi z90)), none, none, none]) (S' := []) rfl ?_
              have hla := yq81_0
              have hna : z90 ≠ -1 := htr9.some (by rw [(by omega : ((nd.toNat : Nat) : Int) = nd)]; exact hla)
              have hla2 := hla.2 hna
              refine gz_s 1 (pc' := 76) (L' := [some (.ref m), some (.int (zi wh)), some (.int (zi nd)), some (.int (zi mo)), some (.int (zi z90)), none, none, none]) (S' := [.ref m]) rfl ?_
              refine gs_gtk rfl (by decide) rfl sq81.1 tm rfl rfl s84 ?_
              refine gz_s 2 (pc' := 82) (L' := [some (.ref m), some (.int (zi wh)), some (.int (zi nd)), some (.int (zi mo)), some (.int (zi z90)), none, none, none]) (S' := [.int (zi nd), .int (zi z90), .ref c3]) rfl ?_
              have hl91 : 514 ≤ hq81.2.2.2.1 c3 ∧ hq81.2.2.2.1 c3 ≤ 514 := gJ.rowl (G := gGG) sq81.1 tc3 rfl
              refine gs_ast rfl (by decide) sq81 tc3 rfl rfl rfl (by decide) (fun _ => rfl) (by omega) (by omega) (fun _ => (by decide : (41999 : Nat) ∈ ([37999, 38999, 39999, 40999, 41999] : List Nat))) (by omega) (by omega) (fun h92 sh92 eh92 fh92 => ?_)
              have pr93 := gOf.pt fh92 tc3 (by decide) pr85
              have pr94 := gO1.pt fh92 tc3 (by decide) pr86
              have pr95 := gRow.pt fh92 tc3 (by decide) pr87
              have pr96 := gRow.pt fh92 tc3 (by decide) pr88
              have pr97 := gRow.put (i := z90) (z := nd) uq tc3 (by decide) fh92 eh92 (by omega) (by omega) pr89
              have s98 := (fh92 m 68 (fun q => absurd (((tm).symm.trans (congrArg ty q.1)).trans tc3) (by decide))).trans s82
              have s99 := (fh92 m 71 (fun q => absurd (((tm).symm.trans (congrArg ty q.1)).trans tc3) (by decide))).trans s83
              have s100 := (fh92 m 73 (fun q => absurd (((tm).symm.trans (congrArg ty q.1)).trans tc3) (by decide))).trans s84
              have pr101 := gEl.set (i := z90) (z := nd) uq tc3 (by decide) eh92 (by omega) (by omega)
              refine gz_s 2 (pc' := 85) (L' := [some (.ref m), some (.int (zi wh)), some (.int (zi nd)), some (.int (zi mo)), some (.int (zi z90)), none, none, none]) (S' := [.int (zi nd), .ref m]) rfl ?_
              refine gz_call rfl (by decide) rfl (by decide) (by decide) (gcal_of rfl rfl rfl (Nat.le_of_ble_eq_true rfl) (gJ.recv (G := gGG) sh92.1 tm rfl rfl)) (mm_leastNode2 _ sh92.1 m tm nd (by omega) wf (gfu pf (z90).toNat nd) pr96 pr97) (fun q102 _ wq102 => ?_)
              obtain ⟨pq102, oq102, hq102⟩ := q102
              obtain ⟨xq102, zq102, gq102, aq102, bq102, uq102_0, yq102_0⟩ := wq102
              refine ⟨_, gq102, ?_⟩
              show gz gPP gGG gcn _ _ 88 [some (.ref m), some (.int (zi wh)), some (.int (zi nd)), some (.int (zi mo)), some (.int (zi z90)), none, none, none] [.int (zi zq102)] hq102 _
              have sq102 := gSs.tr sh92 xq102 (by decide)
              have s103 := (xq102.2.2.2.2.2 m 68 (by rw [tm]; decide)).trans s98
              have s104 := (xq102.2.2.2.2.2 m 71 (by rw [tm]; decide)).trans s99
              have s105 := (xq102.2.2.2.2.2 m 73 (by rw [tm]; decide)).trans s100
              have pr106 := gOf.fr xq102.2 (by decide) pr93
              have pr107 := gO1.fr xq102.2 (by decide) pr94
              have pr108 := gRow.fr xq102.2 (by decide) pr95
              have pr109 := gRow.fr xq102.2 (by decide) pr96
              have pr110 := gRow.fr xq102.2 (by decide) pr97
              have pr111 := gEl.fr xq102.2 (by decide) (fun _ => rfl) pr101
              refine gz_s 1 (pc' := 90) (L' := [some (.ref m), some (.int (zi wh)), some (.int (zi nd)), some (.int (zi mo)), some (.int (zi z90)), some (.int (zi zq102)), none, none]) (S' := []) rfl ?_
              have hlb := yq102_0
              refine gz_s 2 (pc' := 93) (L' := [some (.ref m), some (.int (zi wh)), some (.int (zi nd)), some (.int (zi mo)), some (.int (zi z90)), some (.int (zi zq102)), none, none]) (S' := [.int (zi (-1)), .int (zi zq102)]) rfl ?_
              by_cases hc112 : (zq102 : Int) = (-1)
              · refine gy_icT (pc' := 100) rfl (by decide) (by decide) (by omega) (by omega) hc112 ?_
                refine gz_s 3 (pc' := 103) (L' := [some (.ref m), some (.int (zi wh)), some (.int (zi nd)), some (.int (zi 0)), some (.int (zi z90)), some (.int (zi zq102)), none, none]) (S' := [.int (zi 0)]) rfl ?_
                refine gy_ifT (pc' := 181) rfl (by decide) (by decide) (by omega) (by first | (simp [zc]; done) | (simp only [zc]; omega)) ?_
                refine gz_s 1 (pc' := 182) (L' := [some (.ref m), some (.int (zi wh)), some (.int (zi nd)), some (.int (zi 0)), some (.int (zi z90)), some (.int (zi zq102)), none, none]) (S' := [.ref m]) rfl ?_
                refine gs_gtk rfl (by decide) rfl sq102.1 tm rfl rfl s105 ?_
                refine gz_s 2 (pc' := 188) (L' := [some (.ref m), some (.int (zi wh)), some (.int (zi nd)), some (.int (zi 0)), some (.int (zi z90)), some (.int (zi zq102)), none, none]) (S' := [.int (zi (-1)), .int (zi z90), .ref c3]) rfl ?_
                have hl113 : 514 ≤ hq102.2.2.2.1 c3 ∧ hq102.2.2.2.1 c3 ≤ 514 := gJ.rowl (G := gGG) sq102.1 tc3 rfl
                refine gs_ast rfl (by decide) sq102 tc3 rfl rfl rfl (by decide) (fun _ => rfl) (by omega) (by omega) (fun _ => (by decide : (41999 : Nat) ∈ ([37999, 38999, 39999, 40999, 41999] : List Nat))) (by omega) (by omega) (fun h114 sh114 eh114 fh114 => ?_)
                have pr115 := gOf.pt fh114 tc3 (by decide) pr106
                have pr116 := gO1.pt fh114 tc3 (by decide) pr107
                have pr117 := gRow.pt fh114 tc3 (by decide) pr108
                have pr118 := gRow.pt fh114 tc3 (by decide) pr109
                have pr119 := gRow.put (i := z90) (z := (-1)) uq tc3 (by decide) fh114 eh114 (by omega) (by omega) pr110
                have s120 := (fh114 m 68 (fun q => absurd (((tm).symm.trans (congrArg ty q.1)).trans tc3) (by decide))).trans s103
                have s121 := (fh114 m 71 (fun q => absurd (((tm).symm.trans (congrArg ty q.1)).trans tc3) (by decide))).trans s104
                have s122 := (fh114 m 73 (fun q => absurd (((tm).symm.trans (congrArg ty q.1)).trans tc3) (by decide))).trans s105
                have pr123 := gEl.set (i := z90) (z := (-1)) uq tc3 (by decide) eh114 (by omega) (by omega)
                have htr124 : gTree ty nd h114 := ⟨_, _, pr118, pr119, by rw [gfu_back hla2.2.2.2.1]; exact htr9⟩
                refine gz_s 1 (pc' := 64) (L' := [some (.ref m), some (.int (zi wh)), some (.int (zi nd)), some (.int (zi 0)), some (.int (zi z90)), some (.int (zi zq102)), none, none]) (S' := []) rfl ?_
                exact gz_wk (ihlp8 h114 nd 0 (by omega) sh114 (by omega) (by omega) s120 s121 s122 pr115 pr116 pr117 htr124) (gLw.s (gLw.s (gLw.s (gLw.s (gLw.n (gLw.n (gLw.n (gLw.n gLw.z))))))))
              · refine gy_icF rfl (by decide) (by decide) (by omega) (by omega) hc112 ?_
                refine gz_s 4 (pc' := 103) (L' := [some (.ref m), some (.int (zi wh)), some (.int (zi nd)), some (.int (zi 1)), some (.int (zi z90)), some (.int (zi zq102)), none, none]) (S' := [.int (zi 1)]) rfl ?_
                refine gy_ifF rfl (by decide) (by decide) (by omega) (by first | (simp [zc]; done) | (simp only [zc]; omega)) ?_
                have hlb2 := hlb.2 (by omega)
                refine gz_s 1 (pc' := 107) (L' := [some (.ref m), some (.int (zi wh)), some (.int (zi nd)), some (.int (zi 1)), some (.int (zi z90)), some (.int (zi zq102)), none, none]) (S' := [.ref m]) rfl ?_
                refine gs_gtk rfl (by decide) rfl sq102.1 tm rfl rfl s105 ?_
                refine gz_s 2 (pc' := 113) (L' := [some (.ref m), some (.int (zi wh)), some (.int (zi nd)), some (.int (zi 1)), some (.int (zi z90)), some (.int (zi zq102)), none, none]) (S' := [.int (zi nd), .int (zi zq102), .ref c3]) rfl ?_
                have hl125 : 514 ≤ hq102.2.2.2.1 c3 ∧ hq102.2.2.2.1 c3 ≤ 514 := gJ.rowl (G := gGG) sq102.1 tc3 rfl
                refine gs_ast rfl (by decide) sq102 tc3 rfl rfl rfl (by decide) (fun _ => rfl) (by omega) (by omega) (fun _ => (by decide : (41999 : Nat) ∈ ([37999, 38999, 39999, 40999, 41999] : List Nat))) (by omega) (by omega) (fun h126 sh126 eh126 fh126 => ?_)
                have pr127 := gOf.pt fh126 tc3 (by decide) pr106
                have pr128 := gO1.pt fh126 tc3 (by decide) pr107
                have pr129 := gRow.pt fh126 tc3 (by decide) pr108
                have pr130 := gRow.pt fh126 tc3 (by decide) pr109
                have pr131 := gRow.put (i := zq102) (z := nd) uq tc3 (by decide) fh126 eh126 (by omega) (by omega) pr110
                have s132 := (fh126 m 68 (fun q => absurd (((tm).symm.trans (congrArg ty q.1)).trans tc3) (by decide))).trans s103
                have s133 := (fh126 m 71 (fun q => absurd (((tm).symm.trans (congrArg ty q.1)).trans tc3) (by decide))).trans s104
                have s134 := (fh126 m 73 (fun q => absurd (((tm).symm.trans (congrArg ty q.1)).trans tc3) (by decide))).trans s105
                have pr135 := gEl.set (i := zq102) (z := nd) uq tc3 (by decide) eh126 (by omega) (by omega)
                refine gz_s 1 (pc' := 115) (L' := [some (.ref m), some (.int (zi wh)), some (.int (zi nd)), some (.int (zi 1)), some (.int (zi z90)), some (.int (zi zq102)), none, none]) (S' := [.ref m]) rfl ?_
                refine gs_gtk rfl (by decide) rfl sh126.1 tm rfl rfl s133 ?_
                refine gz_s 2 (pc' := 120) (L' := [some (.ref m), some (.int (zi wh)), some (.int (zi nd)), some (.int (zi 1)), some (.int (zi z90)), some (.int (zi zq102)), none, none]) (S' := [.ref m, .int (zi nd), .ref c2]) rfl ?_
                refine gs_gtk rfl (by decide) rfl sh126.1 tm rfl rfl s133 ?_
                refine gz_s 1 (pc' := 125) (L' := [some (.ref m), some (.int (zi wh)), some (.int (zi nd)), some (.int (zi 1)), some (.int (zi z90)), some (.int (zi zq102)), none, none]) (S' := [.int (zi z90), .ref c2, .int (zi nd), .ref c2]) rfl ?_
                have hl136 : 514 ≤ h126.2.2.2.1 c2 ∧ h126.2.2.2.1 c2 ≤ 514 := gJ.rowl (G := gGG) sh126.1 tc2 rfl
                refine gs_ald rfl (by decide) sh126.1 tc2 rfl rfl rfl (by decide) (fun _ => rfl) (by omega) (by omega) (fun z137 ez137 az137 bz137 => ?_)
                have hf138 := gRow.at (i := z90) (z := z137) pr130 tc2 ez137 (by omega) (by omega) (by omega)
                refine gz_s 1 (pc' := 127) (L' := [some (.ref m), some (.int (zi wh)), some (.int (zi nd)), some (.int (zi 1)), some (.int (zi z90)), some (.int (zi zq102)), none, none]) (S' := [.ref m, .int (zi z137), .int (zi nd), .ref c2]) rfl ?_
                refine gs_gtk rfl (by decide) rfl sh126.1 tm rfl rfl s133 ?_
                refine gz_s 1 (pc' := 132) (L' := [some (.ref m), some (.int (zi wh)), some (.int (zi nd)), some (.int (zi 1)), some (.int (zi z90)), some (.int (zi zq102)), none, none]) (S' := [.int (zi zq102), .ref c2, .int (zi z137), .int (zi nd), .ref c2]) rfl ?_
                have hl139 : 514 ≤ h126.2.2.2.1 c2 ∧ h126.2.2.2.1 c2 ≤ 514 := gJ.rowl (G := gGG) sh126.1 tc2 rfl
                refine gs_ald rfl (by decide) sh126.1 tc2 rfl rfl rfl (by decide) (fun _ => rfl) (by omega) (by omega) (fun z140 ez140 az140 bz140 => ?_)
                have hf141 := gRow.at (i := zq102) (z := z140) pr130 tc2 ez140 (by omega) (by omega) (by omega)
                have hj := htr9.join (a := z90) (b := zq102) (za := z137) (zb := z140) (by omega) hla hna hlb (by omega) (by omega) (by omega)
                have hj2 := hj.2.1
                have hj3 := hj.2.2.sz
                refine gy_s 1 (pc' := 134) (L' := [some (.ref m), some (.int (zi wh)), some (.int (zi nd)), some (.int (zi 1)), some (.int (zi z90)), some (.int (zi zq102)), none, none]) (S' := [.int ((zi z137) + (zi z140)), .int (zi nd), .ref c2]) (L2 := [some (.ref m), some (.int (zi wh)), some (.int (zi nd)), some (.int (zi 1)), some (.int (zi z90)), some (.int (zi zq102)), none, none]) (S2 := [.int (zi (z137 + z140)), .int (zi nd), .ref c2]) rfl (by simp only [zi_add, zi_sub, zi_mul, zi_neg, zi_and1, zi_and7, zi_and15, zi_and31, zi_and255]) (by simp only [zi_add, zi_sub, zi_mul, zi_neg, zi_and1, zi_and7, zi_and15, zi_and31, zi_and255]) ?_
                have hl142 : 514 ≤ h126.2.2.2.1 c2 ∧ h126.2.2.2.1 c2 ≤ 514 := gJ.rowl (G := gGG) sh126.1 tc2 rfl
                refine gs_ast rfl (by decide) sh126 tc2 rfl rfl rfl (by decide) (fun _ => rfl) (by omega) (by omega) (fun _ => (by decide : (39999 : Nat) ∈ ([37999, 38999, 39999, 40999, 41999] : List Nat))) (by omega) (by omega) (fun h143 sh143 eh143 fh143 => ?_)
                have pr144 := gOf.pt fh143 tc2 (by decide) pr127
                have pr145 := gO1.pt fh143 tc2 (by decide) pr128
                have pr146 := gRow.pt fh143 tc2 (by decide) pr129
                have pr147 := gRow.put (i := nd) (z := z137 + z140) uq tc2 (by decide) fh143 eh143 (by omega) (by omega) pr130
                have pr148 := gRow.pt fh143 tc2 (by decide) pr131
                have pr149 := gEl.pt fh143 tc2 (by decide) pr135
                have s150 := (fh143 m 68 (fun q => absurd (((tm).symm.trans (congrArg ty q.1)).trans tc2) (by decide))).trans s132
                have s151 := (fh143 m 71 (fun q => absurd (((tm).symm.trans (congrArg ty q.1)).trans tc2) (by decide))).trans s133
                have s152 := (fh143 m 73 (fun q => absurd (((tm).symm.trans (congrArg ty q.1)).trans tc2) (by decide))).trans s134
                have pr153 := gEl.set (i := nd) (z := z137 + z140) uq tc2 (by decide) eh143 (by omega) (by omega)
                refine gz_s 1 (pc' := 136) (L' := [some (.ref m), some (.int (zi wh)), some (.int (zi nd)), some (.int (zi 1)), some (.int (zi z90)), some (.int (zi zq102)), none, none]) (S' := [.ref m]) rfl ?_
                refine gs_gtr rfl (by decide) rfl sh143.1 tm rfl rfl rfl (fun c154 ec154 tc154 => ?_)
                refine gz_s 2 (pc' := 141) (L' := [some (.ref m), some (.int (zi wh)), some (.int (zi nd)), some (.int (zi 1)), some (.int (zi z90)), some (.int (zi zq102)), none, none]) (S' := [.ref m, .int (zi nd), .ref c154]) rfl ?_
                refine gs_gtk rfl (by decide) rfl sh143.1 tm rfl rfl ec154 ?_
                refine gz_s 1 (pc' := 146) (L' := [some (.ref m), some (.int (zi wh)), some (.int (zi nd)), some (.int (zi 1)), some (.int (zi z90)), some (.int (zi zq102)), none, none]) (S' := [.int (zi z90), .ref c154, .int (zi nd), .ref c154]) rfl ?_
                have hl155 : 514 ≤ h143.2.2.2.1 c154 ∧ h143.2.2.2.1 c154 ≤ 514 := gJ.rowl (G := gGG) sh143.1 tc154 rfl
                refine gs_ald rfl (by decide) sh143.1 tc154 rfl rfl rfl (by decide) (fun _ => rfl) (by omega) (by omega) (fun z156 ez156 az156 bz156 => ?_)
                refine gz_s 1 (pc' := 148) (L' := [some (.ref m), some (.int (zi wh)), some (.int (zi nd)), some (.int (zi 1)), some (.int (zi z90)), some (.int (zi zq102)), none, none]) (S' := [.ref m, .int (zi z156), .int (zi nd), .ref c154]) rfl ?_
                refine gs_gtk rfl (by decide) rfl sh143.1 tm rfl rfl ec154 ?_
                refine gz_s 1 (pc' := 153) (L' := [some (.ref m), some (.int (zi wh)), some (.int (zi nd)), some (.int (zi 1)), some (.int (zi z90)), some (.int (zi zq102)), none, none]) (S' := [.int (zi zq102), .ref c154, .int (zi z156), .int (zi nd), .ref c154]) rfl ?_
                have hl157 : 514 ≤ h143.2.2.2.1 c154 ∧ h143.2.2.2.1 c154 ≤ 514 := gJ.rowl (G := gGG) sh143.1 tc154 rfl
                refine gs_ald rfl (by decide) sh143.1 tc154 rfl rfl rfl (by decide) (fun _ => rfl) (by omega) (by omega) (fun z158 ez158 az158 bz158 => ?_)
                by_cases hc159 : (z156 : Int) ≤ z158
                · refine gy_icT (pc' := 167) rfl (by decide) (by decide) (by omega) (by omega) hc159 ?_
                  refine gz_s 1 (pc' := 168) (L' := [some (.ref m), some (.int (zi wh)), some (.int (zi nd)), some (.int (zi 1)), some (.int (zi z90)), some (.int (zi zq102)), none, none]) (S' := [.ref m, .int (zi nd), .ref c154]) rfl ?_
                  refine gs_gtk rfl (by decide) rfl sh143.1 tm rfl rfl ec154 ?_
                  refine gz_s 1 (pc' := 173) (L' := [some (.ref m), some (.int (zi wh)), some (.int (zi nd)), some (.int (zi 1)), some (.int (zi z90)), some (.int (zi zq102)), none, none]) (S' := [.int (zi zq102), .ref c154, .int (zi nd), .ref c154]) rfl ?_
                  have hl160 : 514 ≤ h143.2.2.2.1 c154 ∧ h143.2.2.2.1 c154 ≤ 514 := gJ.rowl (G := gGG) sh143.1 tc154 rfl
                  refine gs_ald rfl (by decide) sh143.1 tc154 rfl rfl rfl (by decide) (fun _ => rfl) (by omega) (by omega) (fun z161 ez161 az161 bz161 => ?_)
                  have hl162 : 514 ≤ h143.2.2.2.1 c154 ∧ h143.2.2.2.1 c154 ≤ 514 := gJ.rowl (G := gGG) sh143.1 tc154 rfl
                  refine gs_ast rfl (by decide) sh143 tc154 rfl rfl rfl (by decide) (fun _ => rfl) (by omega) (by omega) (fun _ => (by decide : (40999 : Nat) ∈ ([37999, 38999, 39999, 40999, 41999] : List Nat))) (by omega) (by omega) (fun h163 sh163 eh163 fh163 => ?_)
                  have pr164 := gOf.pt fh163 tc154 (by decide) pr144
                  have pr165 := gO1.pt fh163 tc154 (by decide) pr145
                  have pr166 := gRow.pt fh163 tc154 (by decide) pr146
                  have pr167 := gRow.pt fh163 tc154 (by decide) pr147
                  have pr168 := gRow.pt fh163 tc154 (by decide) pr148
                  have pr169 := gEl.pt fh163 tc154 (by decide) pr149
                  have pr170 := gEl.pt fh163 tc154 (by decide) pr153
                  have s171 := (fh163 m 68 (fun q => absurd (((tm).symm.trans (congrArg ty q.1)).trans tc154) (by decide))).trans s150
                  have s172 := (fh163 m 71 (fun q => absurd (((tm).symm.trans (congrArg ty q.1)).trans tc154) (by decide))).trans s151
                  have s173 := (fh163 m 73 (fun q => absurd (((tm).symm.trans (congrArg ty q.1)).trans tc154) (by decide))).trans s152
                  have s174 := (fh163 m 72 (fun q => absurd (((tm).symm.trans (congrArg ty q.1)).trans tc154) (by decide))).trans ec154
                  have pr175 := gEl.set (i := nd) (z := z161) uq tc154 (by decide) eh163 (by omega) (by omega)
                  have htr176 : gTree ty (nd + 1) h163 := ⟨_, _, pr167, pr168, hj.2.2⟩
                  refine gy_s 2 (pc' := 189) (L' := [some (.ref m), some (.int (zi wh)), some (.int ((zi nd) + zi 1)), some (.int (zi 1)), some (.int (zi z90)), some (.int (zi zq102)), none, none]) (S' := []) (L2 := [some (.ref m), some (.int (zi wh)), some (.int (zi (nd + 1))), some (.int (zi 1)), some (.int (zi z90)), some (.int (zi zq102)), none, none]) (S2 := []) rfl (by simp only [zi_add, zi_sub, zi_mul, zi_neg, zi_and1, zi_and7, zi_and15, zi_and31, zi_and255]) (by simp only [zi_add, zi_sub, zi_mul, zi_neg, zi_and1, zi_and7, zi_and15, zi_and31, zi_and255]) ?_
                  refine gz_s 1 (pc' := 64) (L' := [some (.ref m), some (.int (zi wh)), some (.int (zi (nd + 1))), some (.int (zi 1)), some (.int (zi z90)), some (.int (zi zq102)), none, none]) (S' := []) rfl ?_
                  exact gz_wk (ihlp8 h163 (nd + 1) 1 (by omega) sh163 (by omega) (by omega) s171 s172 s173 pr164 pr165 pr166 htr176) (gLw.s (gLw.s (gLw.s (gLw.s (gLw.n (gLw.n (gLw.n (gLw.n gLw.z))))))))
                · refine gy_icF rfl (by decide) (by decide) (by omega) (by omega) hc159 ?_
                  refine gz_s 1 (pc' := 158) (L' := [some (.ref m), some (.int (zi wh)), some (.int (zi nd)), some (.int (zi 1)), some (.int (zi z90)), some (.int (zi zq102)), none, none]) (S' := [.ref m, .int (zi nd), .ref c154]) rfl ?_
                  refine gs_gtk rfl (by decide) rfl sh143.1 tm rfl rfl ec154 ?_
                  refine gz_s 1 (pc' := 163) (L' := [some (.ref m), some (.int (zi wh)), some (.int (zi nd)), some (.int (zi 1)), some (.int (zi z90)), some (.int (zi zq102)), none, none]) (S' := [.int (zi z90), .ref c154, .int (zi nd), .ref c154]) rfl ?_
                  have hl177 : 514 ≤ h143.2.2.2.1 c154 ∧ h143.2.2.2.1 c154 ≤ 514 := gJ.rowl (G := gGG) sh143.1 tc154 rfl
                  refine gs_ald rfl (by decide) sh143.1 tc154 rfl rfl rfl (by decide) (fun _ => rfl) (by omega) (by omega) (fun z178 ez178 az178 bz178 => ?_)
                  refine gz_s 1 (pc' := 174) (L' := [some (.ref m), some (.int (zi wh)), some (.int (zi nd)), some (.int (zi 1)), some (.int (zi z90)), some (.int (zi zq102)), none, none]) (S' := [.int (zi z178), .int (zi nd), .ref c154]) rfl ?_
                  have hl179 : 514 ≤ h143.2.2.2.1 c154 ∧ h143.2.2.2.1 c154 ≤ 514 := gJ.rowl (G := gGG) sh143.1 tc154 rfl
                  refine gs_ast rfl (by decide) sh143 tc154 rfl rfl rfl (by decide) (fun _ => rfl) (by omega) (by omega) (fun _ => (by decide : (40999 : Nat) ∈ ([37999, 38999, 39999, 40999, 41999] : List Nat))) (by omega) (by omega) (fun h180 sh180 eh180 fh180 => ?_)
                  have pr181 := gOf.pt fh180 tc154 (by decide) pr144
                  have pr182 := gO1.pt fh180 tc154 (by decide) pr145
                  have pr183 := gRow.pt fh180 tc154 (by decide) pr146
                  have pr184 := gRow.pt fh180 tc154 (by decide) pr147
                  have pr185 := gRow.pt fh180 tc154 (by decide) pr148
                  have pr186 := gEl.pt fh180 tc154 (by decide) pr149
                  have pr187 := gEl.pt fh180 tc154 (by decide) pr153
                  have s188 := (fh180 m 68 (fun q => absurd (((tm).symm.trans (congrArg ty q.1)).trans tc154) (by decide))).trans s150
                  have s189 := (fh180 m 71 (fun q => absurd (((tm).symm.trans (congrArg ty q.1)).trans tc154) (by decide))).trans s151
                  have s190 := (fh180 m 73 (fun q => absurd (((tm).symm.trans (congrArg ty q.1)).trans tc154) (by decide))).trans s152
                  have s191 := (fh180 m 72 (fun q => absurd (((tm).symm.trans (congrArg ty q.1)).trans tc154) (by decide))).trans ec154
                  have pr192 := gEl.set (i := nd) (z := z178) uq tc154 (by decide) eh180 (by omega) (by omega)
                  have htr193 : gTree ty (nd + 1) h180 := ⟨_, _, pr184, pr185, hj.2.2⟩
                  refine gy_s 2 (pc' := 189) (L' := [some (.ref m), some (.int (zi wh)), some (.int ((zi nd) + zi 1)), some (.int (zi 1)), some (.int (zi z90)), some (.int (zi zq102)), none, none]) (S' := []) (L2 := [some (.ref m), some (.int (zi wh)), some (.int (zi (nd + 1))), some (.int (zi 1)), some (.int (zi z90)), some (.int (zi zq102)), none, none]) (S2 := []) rfl (by simp only [zi_add, zi_sub, zi_mul, zi_neg, zi_and1, zi_and7, zi_and15, zi_and31, zi_and255]) (by simp only [zi_add, zi_sub, zi_mul, zi_neg, zi_and1, zi_and7, zi_and15, zi_and31, zi_and255]) ?_
                  refine gz_s 1 (pc' := 64) (L' := [some (.ref m), some (.int (zi wh)), some (.int (zi (nd + 1))), some (.int (zi 1)), some (.int (zi z90)), some (.int (zi zq102)), none, none]) (S' := []) rfl ?_
                  exact gz_wk (ihlp8 h180 (nd + 1) 1 (by omega) sh180 (by omega) (by omega) s188 s189 s190 pr181 pr182 pr183 htr193) (gLw.s (gLw.s (gLw.s (gLw.s (gLw.n (gLw.n (gLw.n (gLw.n gLw.z))))))))
        exact gz_wk (lp8 _ h6 257 1 (Nat.lt_succ_self _) sh6 (by omega) (by omega) lp4k0 lp4k1 lp4k2 lp4k3 lp4k4 lp4k5 htr9) (gLw.s (gLw.s (gLw.s (gLw.s (gLw.n (gLw.n (gLw.n (gLw.n gLw.z))))))))
      · refine gy_icF rfl (by decide) (by decide) (by omega) (by omega) hc7 ?_
        obtain ⟨w9, p9, rw9, rp9, c9⟩ := lp4k6
        refine gz_s 1 (pc' := 14) (L' := [some (.ref m), some (.int (zi wh)), some (.int (zi 257)), some (.int (zi s)), none, none, none, none]) (S' := [.ref m]) rfl ?_
        refine gs_gtk rfl (by decide) rfl sh6.1 tm rfl rfl lp4k1 ?_
        refine gz_s 3 (pc' := 22) (L' := [some (.ref m), some (.int (zi wh)), some (.int (zi 257)), some (.int (zi s)), none, none, none, none]) (S' := [.int (zi 257), .int (zi s), .int (zi s), .ref c2]) rfl ?_
        by_cases hc194 : (257 : Int) ≤ s
        · refine gy_icT (pc' := 40) rfl (by decide) (by decide) (by omega) (by omega) hc194 ?_
          refine gz_s 1 (pc' := 41) (L' := [some (.ref m), some (.int (zi wh)), some (.int (zi 257)), some (.int (zi s)), none, none, none, none]) (S' := [.int (zi 0), .int (zi s), .ref c2]) rfl ?_
          have hl195 : 514 ≤ h6.2.2.2.1 c2 ∧ h6.2.2.2.1 c2 ≤ 514 := gJ.rowl (G := gGG) sh6.1 tc2 rfl
          refine gs_ast rfl (by decide) sh6 tc2 rfl rfl rfl (by decide) (fun _ => rfl) (by omega) (by omega) (fun _ => (by decide : (39999 : Nat) ∈ ([37999, 38999, 39999, 40999, 41999] : List Nat))) (by omega) (by omega) (fun h196 sh196 eh196 fh196 => ?_)
          have pr197 := gOf.pt fh196 tc2 (by decide) lp4k3
          have pr198 := gO1.pt fh196 tc2 (by decide) lp4k4
          have pr199 := gRow.pt fh196 tc2 (by decide) lp4k5
          have pr200 := gRow.put (i := s) (z := 0) uq tc2 (by decide) fh196 eh196 (by omega) (by omega) rw9
          have pr201 := gRow.pt fh196 tc2 (by decide) rp9
          have s202 := (fh196 m 68 (fun q => absurd (((tm).symm.trans (congrArg ty q.1)).trans tc2) (by decide))).trans lp4k0
          have s203 := (fh196 m 71 (fun q => absurd (((tm).symm.trans (congrArg ty q.1)).trans tc2) (by decide))).trans lp4k1
          have s204 := (fh196 m 73 (fun q => absurd (((tm).symm.trans (congrArg ty q.1)).trans tc2) (by decide))).trans lp4k2
          have pr205 := gEl.set (i := s) (z := 0) uq tc2 (by decide) eh196 (by omega) (by omega)
          refine gz_s 1 (pc' := 43) (L' := [some (.ref m), some (.int (zi wh)), some (.int (zi 257)), some (.int (zi s)), none, none, none, none]) (S' := [.ref m]) rfl ?_
          refine gs_gtr rfl (by decide) rfl sh196.1 tm rfl rfl rfl (fun c206 ec206 tc206 => ?_)
          refine gz_s 2 (pc' := 48) (L' := [some (.ref m), some (.int (zi wh)), some (.int (zi 257)), some (.int (zi s)), none, none, none, none]) (S' := [.int (zi s), .int (zi s), .ref c206]) rfl ?_
          have hl207 : 514 ≤ h196.2.2.2.1 c206 ∧ h196.2.2.2.1 c206 ≤ 514 := gJ.rowl (G := gGG) sh196.1 tc206 rfl
          refine gs_ast rfl (by decide) sh196 tc206 rfl rfl rfl (by decide) (fun _ => rfl) (by omega) (by omega) (fun _ => (by decide : (40999 : Nat) ∈ ([37999, 38999, 39999, 40999, 41999] : List Nat))) (by omega) (by omega) (fun h208 sh208 eh208 fh208 => ?_)
          have pr209 := gOf.pt fh208 tc206 (by decide) pr197
          have pr210 := gO1.pt fh208 tc206 (by decide) pr198
          have pr211 := gRow.pt fh208 tc206 (by decide) pr199
          have pr212 := gRow.pt fh208 tc206 (by decide) pr200
          have pr213 := gRow.pt fh208 tc206 (by decide) pr201
          have pr214 := gEl.pt fh208 tc206 (by decide) pr205
          have s215 := (fh208 m 68 (fun q => absurd (((tm).symm.trans (congrArg ty q.1)).trans tc206) (by decide))).trans s202
          have s216 := (fh208 m 71 (fun q => absurd (((tm).symm.trans (congrArg ty q.1)).trans tc206) (by decide))).trans s203
          have s217 := (fh208 m 73 (fun q => absurd (((tm).symm.trans (congrArg ty q.1)).trans tc206) (by decide))).trans s204
          have s218 := (fh208 m 72 (fun q => absurd (((tm).symm.trans (congrArg ty q.1)).trans tc206) (by decide))).trans ec206
          have pr219 := gEl.set (i := s) (z := s) uq tc206 (by decide) eh208 (by omega) (by omega)
          refine gz_s 1 (pc' := 50) (L' := [some (.ref m), some (.int (zi wh)), some (.int (zi 257)), some (.int (zi s)), none, none, none, none]) (S' := [.ref m]) rfl ?_
          refine gs_gtk rfl (by decide) rfl sh208.1 tm rfl rfl s217 ?_
          refine gz_s 2 (pc' := 55) (L' := [some (.ref m), some (.int (zi wh)), some (.int (zi 257)), some (.int (zi s)), none, none, none, none]) (S' := [.int (zi (-1)), .int (zi s), .ref c3]) rfl ?_
          have hl220 : 514 ≤ h208.2.2.2.1 c3 ∧ h208.2.2.2.1 c3 ≤ 514 := gJ.rowl (G := gGG) sh208.1 tc3 rfl
          refine gs_ast rfl (by decide) sh208 tc3 rfl rfl rfl (by decide) (fun _ => rfl) (by omega) (by omega) (fun _ => (by decide : (41999 : Nat) ∈ ([37999, 38999, 39999, 40999, 41999] : List Nat))) (by omega) (by omega) (fun h221 sh221 eh221 fh221 => ?_)
          have pr222 := gOf.pt fh221 tc3 (by decide) pr209
          have pr223 := gO1.pt fh221 tc3 (by decide) pr210
          have pr224 := gRow.pt fh221 tc3 (by decide) pr211
          have pr225 := gRow.pt fh221 tc3 (by decide) pr212
          have pr226 := gRow.put (i := s) (z := (-1)) uq tc3 (by decide) fh221 eh221 (by omega) (by omega) pr213
          have pr227 := gEl.pt fh221 tc3 (by decide) pr214
          have pr228 := gEl.pt fh221 tc3 (by decide) pr219
          have s229 := (fh221 m 68 (fun q => absurd (((tm).symm.trans (congrArg ty q.1)).trans tc3) (by decide))).trans s215
          have s230 := (fh221 m 71 (fun q => absurd (((tm).symm.trans (congrArg ty q.1)).trans tc3) (by decide))).trans s216
          have s231 := (fh221 m 73 (fun q => absurd (((tm).symm.trans (congrArg ty q.1)).trans tc3) (by decide))).trans s217
          have s232 := (fh221 m 72 (fun q => absurd (((tm).symm.trans (congrArg ty q.1)).trans tc3) (by decide))).trans s218
          have pr233 := gEl.set (i := s) (z := (-1)) uq tc3 (by decide) eh221 (by omega) (by omega)
          have hti234 : gTi ty fo (257 * wh) (s + 1) h221 := gTi.step (w := w9) (p := p9) (v := 0) (by omega) pr225 pr226 c9 (by
            exact (if_neg (by omega)).symm)
          refine gy_s 2 (pc' := 6) (L' := [some (.ref m), some (.int (zi wh)), some (.int (zi 257)), some (.int ((zi s) + zi 1)), none, none, none, none]) (S' := []) (L2 := [some (.ref m), some (.int (zi wh)), some (.int (zi 257)), some (.int (zi (s + 1))), none, none, none, none]) (S2 := []) rfl (by simp only [zi_add, zi_sub, zi_mul, zi_neg, zi_and1, zi_and7, zi_and15, zi_and31, zi_and255]) (by simp only [zi_add, zi_sub, zi_mul, zi_neg, zi_and1, zi_and7, zi_and15, zi_and31, zi_and255]) ?_
          exact gz_wk (ihlp4 h221 (s + 1) (by omega) sh221 (by omega) s229 s230 s231 pr222 pr223 pr224 hti234) (gLw.s (gLw.s (gLw.s (gLw.s (gLw.n (gLw.n (gLw.n (gLw.n gLw.z))))))))
        · refine gy_icF rfl (by decide) (by decide) (by omega) (by omega) hc194 ?_
          refine gz_s 1 (pc' := 26) (L' := [some (.ref m), some (.int (zi wh)), some (.int (zi 257)), some (.int (zi s)), none, none, none, none]) (S' := [.ref m, .int (zi s), .ref c2]) rfl ?_
          refine gs_gtk rfl (by decide) rfl sh6.1 tm rfl rfl lp4k0 ?_
          refine gy_s 5 (pc' := 36) (L' := [some (.ref m), some (.int (zi wh)), some (.int (zi 257)), some (.int (zi s)), none, none, none, none]) (S' := [.int (((zi 257) * (zi wh)) + (zi s)), .ref c1, .int (zi s), .ref c2]) (L2 := [some (.ref m), some (.int (zi wh)), some (.int (zi 257)), some (.int (zi s)), none, none, none, none]) (S2 := [.int (zi ((257 * wh) + s)), .ref c1, .int (zi s), .ref c2]) rfl (by simp only [zi_add, zi_sub, zi_mul, zi_neg, zi_and1, zi_and7, zi_and15, zi_and31, zi_and255]) (by simp only [zi_add, zi_sub, zi_mul, zi_neg, zi_and1, zi_and7, zi_and15, zi_and31, zi_and255]) ?_
          have hl235 : 514 ≤ h6.2.2.2.1 c1 ∧ h6.2.2.2.1 c1 ≤ 514 := gJ.rowl (G := gGG) sh6.1 tc1 rfl
          refine gs_ald rfl (by decide) sh6.1 tc1 rfl rfl rfl (by decide) (fun _ => rfl) (by omega) (by omega) (fun z236 ez236 az236 bz236 => ?_)
          have hf237 := gRow.at (i := (257 * wh) + s) (z := z236) lp4k5 tc1 ez236 (by omega) (by omega) (by omega)
          refine gz_s 1 (pc' := 41) (L' := [some (.ref m), some (.int (zi wh)), some (.int (zi 257)), some (.int (zi s)), none, none, none, none]) (S' := [.int (zi z236), .int (zi s), .ref c2]) rfl ?_
          have hl238 : 514 ≤ h6.2.2.2.1 c2 ∧ h6.2.2.2.1 c2 ≤ 514 := gJ.rowl (G := gGG) sh6.1 tc2 rfl
          refine gs_ast rfl (by decide) sh6 tc2 rfl rfl rfl (by decide) (fun _ => rfl) (by omega) (by omega) (fun _ => (by decide : (39999 : Nat) ∈ ([37999, 38999, 39999, 40999, 41999] : List Nat))) (by omega) (by omega) (fun h239 sh239 eh239 fh239 => ?_)
          have pr240 := gOf.pt fh239 tc2 (by decide) lp4k3
          have pr241 := gO1.pt fh239 tc2 (by decide) lp4k4
          have pr242 := gRow.pt fh239 tc2 (by decide) lp4k5
          have pr243 := gRow.put (i := s) (z := z236) uq tc2 (by decide) fh239 eh239 (by omega) (by omega) rw9
          have pr244 := gRow.pt fh239 tc2 (by decide) rp9
          have s245 := (fh239 m 68 (fun q => absurd (((tm).symm.trans (congrArg ty q.1)).trans tc2) (by decide))).trans lp4k0
          have s246 := (fh239 m 71 (fun q => absurd (((tm).symm.trans (congrArg ty q.1)).trans tc2) (by decide))).trans lp4k1
          have s247 := (fh239 m 73 (fun q => absurd (((tm).symm.trans (congrArg ty q.1)).trans tc2) (by decide))).trans lp4k2
          have pr248 := gEl.set (i := s) (z := z236) uq tc2 (by decide) eh239 (by omega) (by omega)
          refine gz_s 1 (pc' := 43) (L' := [some (.ref m), some (.int (zi wh)), some (.int (zi 257)), some (.int (zi s)), none, none, none, none]) (S' := [.ref m]) rfl ?_
          refine gs_gtr rfl (by decide) rfl sh239.1 tm rfl rfl rfl (fun c249 ec249 tc249 => ?_)
          refine gz_s 2 (pc' := 48) (L' := [some (.ref m), some (.int (zi wh)), some (.int (zi 257)), some (.int (zi s)), none, none, none, none]) (S' := [.int (zi s), .int (zi s), .ref c249]) rfl ?_
          have hl250 : 514 ≤ h239.2.2.2.1 c249 ∧ h239.2.2.2.1 c249 ≤ 514 := gJ.rowl (G := gGG) sh239.1 tc249 rfl
          refine gs_ast rfl (by decide) sh239 tc249 rfl rfl rfl (by decide) (fun _ => rfl) (by omega) (by omega) (fun _ => (by decide : (40999 : Nat) ∈ ([37999, 38999, 39999, 40999, 41999] : List Nat))) (by omega) (by omega) (fun h251 sh251 eh251 fh251 => ?_)
          have pr252 := gOf.pt fh251 tc249 (by decide) pr240
          have pr253 := gO1.pt fh251 tc249 (by decide) pr241
          have pr254 := gRow.pt fh251 tc249 (by decide) pr242
          have pr255 := gRow.pt fh251 tc249 (by decide) pr243
          have pr256 := gRow.pt fh251 tc249 (by decide) pr244
          have pr257 := gEl.pt fh251 tc249 (by decide) pr248
          have s258 := (fh251 m 68 (fun q => absurd (((tm).symm.trans (congrArg ty q.1)).trans tc249) (by decide))).trans s245
          have s259 := (fh251 m 71 (fun q => absurd (((tm).symm.trans (congrArg ty q.1)).trans tc249) (by decide))).trans s246
          have s260 := (fh251 m 73 (fun q => absurd (((tm).symm.trans (congrArg ty q.1)).trans tc249) (by decide))).trans s247
          have s261 := (fh251 m 72 (fun q => absurd (((tm).symm.trans (congrArg ty q.1)).trans tc249) (by decide))).trans ec249
          have pr262 := gEl.set (i := s) (z := s) uq tc249 (by decide) eh251 (by omega) (by omega)
          refine gz_s 1 (pc' := 50) (L' := [some (.ref m), some (.int (zi wh)), some (.int (zi 257)), some (.int (zi s)), none, none, none, none]) (S' := [.ref m]) rfl ?_
          refine gs_gtk rfl (by decide) rfl sh251.1 tm rfl rfl s260 ?_
          refine gz_s 2 (pc' := 55) (L' := [some (.ref m), some (.int (zi wh)), some (.int (zi 257)), some (.int (zi s)), none, none, none, none]) (S' := [.int (zi (-1)), .int (zi s), .ref c3]) rfl ?_
          have hl263 : 514 ≤ h251.2.2.2.1 c3 ∧ h251.2.2.2.1 c3 ≤ 514 := gJ.rowl (G := gGG) sh251.1 tc3 rfl
          refine gs_ast rfl (by decide) sh251 tc3 rfl rfl rfl (by decide) (fun _ => rfl) (by omega) (by omega) (fun _ => (by decide : (41999 : Nat) ∈ ([37999, 38999, 39999, 40999, 41999] : List Nat))) (by omega) (by omega) (fun h264 sh264 eh264 fh264 => ?_)
          have pr265 := gOf.pt fh264 tc3 (by decide) pr252
          have pr266 := gO1.pt fh264 tc3 (by decide) pr253
          have pr267 := gRow.pt fh264 tc3 (by decide) pr254
          have pr268 := gRow.pt fh264 tc3 (by decide) pr255
          have pr269 := gRow.put (i := s) (z := (-1)) uq tc3 (by decide) fh264 eh264 (by omega) (by omega) pr256
          have pr270 := gEl.pt fh264 tc3 (by decide) pr257
          have pr271 := gEl.pt fh264 tc3 (by decide) pr262
          have s272 := (fh264 m 68 (fun q => absurd (((tm).symm.trans (congrArg ty q.1)).trans tc3) (by decide))).trans s258
          have s273 := (fh264 m 71 (fun q => absurd (((tm).symm.trans (congrArg ty q.1)).trans tc3) (by decide))).trans s259
          have s274 := (fh264 m 73 (fun q => absurd (((tm).symm.trans (congrArg ty q.1)).trans tc3) (by decide))).trans s260
          have s275 := (fh264 m 72 (fun q => absurd (((tm).symm.trans (congrArg ty q.1)).trans tc3) (by decide))).trans s261
          have pr276 := gEl.set (i := s) (z := (-1)) uq tc3 (by decide) eh264 (by omega) (by omega)
          have hti277 : gTi ty fo (257 * wh) (s + 1) h264 := gTi.step (w := w9) (p := p9) (v := z236) (by omega) pr268 pr269 c9 (by
            rw [← hf237]
            show _ = (if _ then _ else _)
            rw [if_pos (by omega)]
            congr 1
            omega)
          refine gy_s 2 (pc' := 6) (L' := [some (.ref m), some (.int (zi wh)), some (.int (zi 257)), some (.int ((zi s) + zi 1)), none, none, none, none]) (S' := []) (L2 := [some (.ref m), some (.int (zi wh)), some (.int (zi 257)), some (.int (zi (s + 1))), none, none, none, none]) (S2 := []) rfl (by simp only [zi_add, zi_sub, zi_mul, zi_neg, zi_and1, zi_and7, zi_and15, zi_and31, zi_and255]) (by simp only [zi_add, zi_sub, zi_mul, zi_neg, zi_and1, zi_and7, zi_and15, zi_and31, zi_and255]) ?_
          exact gz_wk (ihlp4 h264 (s + 1) (by omega) sh264 (by omega) s272 s273 s274 pr265 pr266 pr267 hti277) (gLw.s (gLw.s (gLw.s (gLw.s (gLw.n (gLw.n (gLw.n (gLw.n gLw.z))))))))
  exact gz_wk (lp4 _ h 0 (Nat.lt_succ_self _) hS (by omega) ec1 ec2 ec3 hyof hyo1 ro hti5) (gLw.s (gLw.s (gLw.s (gLw.s (gLw.n (gLw.n (gLw.n (gLw.n gLw.z))))))))
