/-! ===== the model: methods (by program) ===== -/
set_option maxRecDepth 20000 in
set_option maxHeartbeats 4000000 in
theorem mm_leastNode2 (d : Nat) {ty : Nat → Nat} {h : gH} (hJ : gJ rT 1027 ty h) (m : Nat) (tm : ty m = 1) (nd : Int) (rnd : 0 ≤ nd ∧ nd ≤ 513) (wf pf : Nat → Int) (hyf39 : gRow ty 39 wf h) (hyf41 : gRow ty 41 pf h) : gz gPP gGG gcn (d + 0) gt203 0 (gent [.ref m, .int (zi nd)] 5) [] h (fun q _ => gSs rT 1027 ty [] h q.2.2 ∧ ∃ z : Int, gfin gt203 q.1 q.2.1 = some (some (.int (zi z))) ∧ (-1) ≤ z ∧ z ≤ 512 ∧ (z < nd) ∧ (gLs wf pf nd z)) := by
  have hS : gSs rT 1027 ty [] h h := gSs.rf hJ
  refine gz_s 4 (pc' := 4) (L' := [some (.ref m), some (.int (zi nd)), some (.int (zi (-1))), some (.int (zi 0)), none]) (S' := []) rfl ?_
  have lp1 : ∀ (fu : Nat) (h2 : gH) (bt : Int) (k : Int), (514 - k).toNat < fu → gSs rT 1027 ty [] h h2 → ((-1) ≤ bt ∧ bt ≤ 512) → (0 ≤ k ∧ k ≤ 513) → (bt < k) → (k ≤ nd) → gRow ty 39 wf h2 → gRow ty 41 pf h2 → gLs wf pf k bt → gz gPP gGG gcn (d + 0) gt203 4 [some (.ref m), some (.int (zi nd)), some (.int (zi bt)), some (.int (zi k)), none] [] h2 (fun q _ => gSs rT 1027 ty [] h q.2.2 ∧ ∃ z : Int, gfin gt203 q.1 q.2.1 = some (some (.int (zi z))) ∧ (-1) ≤ z ∧ z ≤ 512 ∧ (z < nd) ∧ (gLs wf pf nd z)) := by
    intro fu
    induction fu with
    | zero => intro h2 bt k hm; exact absurd hm (Nat.not_lt_zero _)
    | succ fu ihlp1 =>
      intro h2 bt k lp1m sh2 lp1f0 lp1f1 lp1f2 lp1f3 lp1k0 lp1k1 lp1k2
      refine gz_s 2 (pc' := 6) (L' := [some (.ref m), some (.int (zi nd)), some (.int (zi bt)), some (.int (zi k)), none]) (S' := [.int (zi nd), .int (zi k)]) rfl ?_
      by_cases hc3 : (nd : Int) ≤ k
      · refine gy_icT (pc' := 98) rfl (by decide) (by decide) (by omega) (by omega) hc3 ?_
        refine gz_s 1 (pc' := 99) (L' := [some (.ref m), some (.int (zi nd)), some (.int (zi bt)), some (.int (zi k)), none]) (S' := [.int (zi bt)]) rfl ?_
        have hls4 : gLs wf pf nd bt := by rw [(by omega : nd = k)]; exact lp1k2
        exact gz_end (I := .ireturn) (len := 1) rfl (Or.inl rfl) ⟨sh2, bt, rfl, (by omega), (by omega), (by omega), hls4⟩
      · refine gy_icF rfl (by decide) (by decide) (by omega) (by omega) hc3 ?_
        refine gz_s 1 (pc' := 10) (L' := [some (.ref m), some (.int (zi nd)), some (.int (zi bt)), some (.int (zi k)), none]) (S' := [.ref m]) rfl ?_
        refine gs_gtr rfl (by decide) rfl sh2.1 tm rfl rfl rfl (fun c5 ec5 tc5 => ?_)
        refine gz_s 1 (pc' := 14) (L' := [some (.ref m), some (.int (zi nd)), some (.int (zi bt)), some (.int (zi k)), none]) (S' := [.int (zi k), .ref c5]) rfl ?_
        have hl6 : 514 ≤ h2.2.2.2.1 c5 ∧ h2.2.2.2.1 c5 ≤ 514 := gJ.rowl (G := gGG) sh2.1 tc5 rfl
        refine gs_ald rfl (by decide) sh2.1 tc5 rfl rfl rfl (by decide) (fun _ => rfl) (by omega) (by omega) (fun z7 ez7 az7 bz7 => ?_)
        have hf8 := gRow.at (i := k) (z := z7) lp1k0 tc5 ez7 (by omega) (by omega) (by omega)
        by_cases hc9 : (z7 : Int) ≤ 0
        · refine gy_ifT (pc' := 32) rfl (by decide) (by decide) (by omega) hc9 ?_
          refine gz_s 3 (pc' := 37) (L' := [some (.ref m), some (.int (zi nd)), some (.int (zi bt)), some (.int (zi k)), some (.int (zi 0))]) (S' := [.int (zi 0)]) rfl ?_
          refine gy_ifT (pc' := 92) rfl (by decide) (by decide) (by omega) (by first | (simp [zc]; done) | (simp only [zc]; omega)) ?_
          have hls10 : gLs wf pf (k + 1) bt := gLs.pass (by omega) lp1k2 (by omega)
          refine gy_s 2 (pc' := 4) (L' := [some (.ref m), some (.int (zi nd)), some (.int (zi bt)), some (.int ((zi k) + zi 1)), some (.int (zi 0))]) (S' := []) (L2 := [some (.ref m), some (.int (zi nd)), some (.int (zi bt)), some (.int (zi (k + 1))), some (.int (zi 0))]) (S2 := []) rfl (by simp only [zi_add, zi_sub, zi_mul, zi_neg, zi_and1, zi_and7, zi_and15, zi_and31, zi_and255]) (by simp only [zi_add, zi_sub, zi_mul, zi_neg, zi_and1, zi_and7, zi_and15, zi_and31, zi_and255]) ?_
          exact gz_wk (ihlp1 h2 bt (k + 1) (by omega) sh2 (by omega) (by omega) (by omega) (by omega) lp1k0 lp1k1 hls10) (gLw.s (gLw.s (gLw.s (gLw.s (gLw.n gLw.z)))))
        · refine gy_ifF rfl (by decide) (by decide) (by omega) hc9 ?_
          refine gz_s 1 (pc' := 19) (L' := [some (.ref m), some (.int (zi nd)), some (.int (zi bt)), some (.int (zi k)), none]) (S' := [.ref m]) rfl ?_
          refine gs_gtr rfl (by decide) rfl sh2.1 tm rfl rfl rfl (fun c11 ec11 tc11 => ?_)
          refine gz_s 1 (pc' := 23) (L' := [some (.ref m), some (.int (zi nd)), some (.int (zi bt)), some (.int (zi k)), none]) (S' := [.int (zi k), .ref c11]) rfl ?_
          have hl12 : 514 ≤ h2.2.2.2.1 c11 ∧ h2.2.2.2.1 c11 ≤ 514 := gJ.rowl (G := gGG) sh2.1 tc11 rfl
          refine gs_ald rfl (by decide) sh2.1 tc11 rfl rfl rfl (by decide) (fun _ => rfl) (by omega) (by omega) (fun z13 ez13 az13 bz13 => ?_)
          have hf14 := gRow.at (i := k) (z := z13) lp1k1 tc11 ez13 (by omega) (by omega) (by omega)
          refine gz_s 1 (pc' := 25) (L' := [some (.ref m), some (.int (zi nd)), some (.int (zi bt)), some (.int (zi k)), none]) (S' := [.int (zi (-1)), .int (zi z13)]) rfl ?_
          by_cases hc15 : ¬ (z13 : Int) = (-1)
          · refine gy_icT (pc' := 32) rfl (by decide) (by decide) (by omega) (by omega) hc15 ?_
            refine gz_s 3 (pc' := 37) (L' := [some (.ref m), some (.int (zi nd)), some (.int (zi bt)), some (.int (zi k)), some (.int (zi 0))]) (S' := [.int (zi 0)]) rfl ?_
            refine gy_ifT (pc' := 92) rfl (by decide) (by decide) (by omega) (by first | (simp [zc]; done) | (simp only [zc]; omega)) ?_
            have hls16 : gLs wf pf (k + 1) bt := gLs.pass (by omega) lp1k2 (by omega)
            refine gy_s 2 (pc' := 4) (L' := [some (.ref m), some (.int (zi nd)), some (.int (zi bt)), some (.int ((zi k) + zi 1)), some (.int (zi 0))]) (S' := []) (L2 := [some (.ref m), some (.int (zi nd)), some (.int (zi bt)), some (.int (zi (k + 1))), some (.int (zi 0))]) (S2 := []) rfl (by simp only [zi_add, zi_sub, zi_mul, zi_neg, zi_and1, zi_and7, zi_and15, zi_and31, zi_and255]) (by simp only [zi_add, zi_sub, zi_mul, zi_neg, zi_and1, zi_and7, zi_and15, zi_and31, zi_and255]) ?_
            exact gz_wk (ihlp1 h2 bt (k + 1) (by omega) sh2 (by omega) (by omega) (by omega) (by omega) lp1k0 lp1k1 hls16) (gLw.s (gLw.s (gLw.s (gLw.s (gLw.n gLw.z)))))
          · refine gy_icF rfl (by decide) (by decide) (by omega) (by omega) hc15 ?_
            refine gz_s 4 (pc' := 37) (L' := [some (.ref m), some (.int (zi nd)), some (.int (zi bt)), some (.int (zi k)), some (.int (zi 1))]) (S' := [.int (zi 1)]) rfl ?_
            refine gy_ifF rfl (by decide) (by decide) (by omega) (by first | (simp [zc]; done) | (simp only [zc]; omega)) ?_
            refine gz_s 2 (pc' := 42) (L' := [some (.ref m), some (.int (zi nd)), some (.int (zi bt)), some (.int (zi k)), some (.int (zi 1))]) (S' := [.int (zi (-1)), .int (zi bt)]) rfl ?_
            by_cases hc17 : (bt : Int) = (-1)
            · refine gy_icT (pc' := 90) rfl (by decide) (by decide) (by omega) (by omega) hc17 ?_
              refine gz_s 2 (pc' := 92) (L' := [some (.ref m), some (.int (zi nd)), some (.int (zi k)), some (.int (zi k)), some (.int (zi 1))]) (S' := []) rfl ?_
              have hls18 : gLs wf pf (k + 1) k := gLs.take (by omega) lp1k2 (by omega) (by omega) (by omega)
              refine gy_s 2 (pc' := 4) (L' := [some (.ref m), some (.int (zi nd)), some (.int (zi k)), some (.int ((zi k) + zi 1)), some (.int (zi 1))]) (S' := []) (L2 := [some (.ref m), some (.int (zi nd)), some (.int (zi k)), some (.int (zi (k + 1))), some (.int (zi 1))]) (S2 := []) rfl (by simp only [zi_add, zi_sub, zi_mul, zi_neg, zi_and1, zi_and7, zi_and15, zi_and31, zi_and255]) (by simp only [zi_add, zi_sub, zi_mul, zi_neg, zi_and1, zi_and7, zi_and15, zi_and31, zi_and255]) ?_
              exact gz_wk (ihlp1 h2 k (k + 1) (by omega) sh2 (by omega) (by omega) (by omega) (by omega) lp1k0 lp1k1 hls18) (gLw.s (gLw.s (gLw.s (gLw.s (gLw.n gLw.z)))))
            · refine gy_icF rfl (by decide) (by decide) (by omega) (by omega) hc17 ?_
              refine gz_s 1 (pc' := 46) (L' := [some (.ref m), some (.int (zi nd)), some (.int (zi bt)), some (.int (zi k)), some (.int (zi 1))]) (S' := [.ref m]) rfl ?_
              refine gs_gtk rfl (by decide) rfl sh2.1 tm rfl rfl ec5 ?_
              refine gz_s 1 (pc' := 50) (L' := [some (.ref m), some (.int (zi nd)), some (.int (zi bt)), some (.int (zi k)), some (.int (zi 1))]) (S' := [.int (zi k), .ref c5]) rfl ?_
              have hl19 : 514 ≤ h2.2.2.2.1 c5 ∧ h2.2.2.2.1 c5 ≤ 514 := gJ.rowl (G := gGG) sh2.1 tc5 rfl
              refine gs_ald rfl (by decide) sh2.1 tc5 rfl rfl rfl (by decide) (fun _ => rfl) (by omega) (by omega) (fun z20 ez20 az20 bz20 => ?_)
              have hf21 := gRow.at (i := k) (z := z20) lp1k0 tc5 ez20 (by omega) (by omega) (by omega)
              refine gz_s 1 (pc' := 52) (L' := [some (.ref m), some (.int (zi nd)), some (.int (zi bt)), some (.int (zi k)), some (.int (zi 1))]) (S' := [.ref m, .int (zi z20)]) rfl ?_
              refine gs_gtk rfl (by decide) rfl sh2.1 tm rfl rfl ec5 ?_
              refine gz_s 1 (pc' := 56) (L' := [some (.ref m), some (.int (zi nd)), some (.int (zi bt)), some (.int (zi k)), some (.int (zi 1))]) (S' := [.int (zi bt), .ref c5, .int (zi z20)]) rfl ?_
              have hl22 : 514 ≤ h2.2.2.2.1 c5 ∧ h2.2.2.2.1 c5 ≤ 514 := gJ.rowl (G := gGG) sh2.1 tc5 rfl
              refine gs_ald rfl (by decide) sh2.1 tc5 rfl rfl rfl (by decide) (fun _ => rfl) (by omega) (by omega) (fun z23 ez23 az23 bz23 => ?_)
              have hf24 := gRow.at (i := bt) (z := z23) lp1k0 tc5 ez23 (by omega) (by omega) (by omega)
              by_cases hc25 : (z20 : Int) < z23
              · refine gy_icT (pc' := 90) rfl (by decide) (by decide) (by omega) (by omega) hc25 ?_
                refine gz_s 2 (pc' := 92) (L' := [some (.ref m), some (.int (zi nd)), some (.int (zi k)), some (.int (zi k)), some (.int (zi 1))]) (S' := []) rfl ?_
                have hls26 : gLs wf pf (k + 1) k := gLs.take (by omega) lp1k2 (by omega) (by omega) (by omega)
                refine gy_s 2 (pc' := 4) (L' := [some (.ref m), some (.int (zi nd)), some (.int (zi k)), some (.int ((zi k) + zi 1)), some (.int (zi 1))]) (S' := []) (L2 := [some (.ref m), some (.int (zi nd)), some (.int (zi k)), some (.int (zi (k + 1))), some (.int (zi 1))]) (S2 := []) rfl (by simp only [zi_add, zi_sub, zi_mul, zi_neg, zi_and1, zi_and7, zi_and15, zi_and31, zi_and255]) (by simp only [zi_add, zi_sub, zi_mul, zi_neg, zi_and1, zi_and7, zi_and15, zi_and31, zi_and255]) ?_
                exact gz_wk (ihlp1 h2 k (k + 1) (by omega) sh2 (by omega) (by omega) (by omega) (by omega) lp1k0 lp1k1 hls26) (gLw.s (gLw.s (gLw.s (gLw.s (gLw.n gLw.z)))))
              · refine gy_icF rfl (by decide) (by decide) (by omega) (by omega) hc25 ?_
                refine gz_s 1 (pc' := 61) (L' := [some (.ref m), some (.int (zi nd)), some (.int (zi bt)), some (.int (zi k)), some (.int (zi 1))]) (S' := [.ref m]) rfl ?_
                refine gs_gtk rfl (by decide) rfl sh2.1 tm rfl rfl ec5 ?_
                refine gz_s 1 (pc' := 65) (L' := [some (.ref m), some (.int (zi nd)), some (.int (zi bt)), some (.int (zi k)), some (.int (zi 1))]) (S' := [.int (zi k), .ref c5]) rfl ?_
                have hl27 : 514 ≤ h2.2.2.2.1 c5 ∧ h2.2.2.2.1 c5 ≤ 514 := gJ.rowl (G := gGG) sh2.1 tc5 rfl
                refine gs_ald rfl (by decide) sh2.1 tc5 rfl rfl rfl (by decide) (fun _ => rfl) (by omega) (by omega) (fun z28 ez28 az28 bz28 => ?_)
                have hf29 := gRow.at (i := k) (z := z28) lp1k0 tc5 ez28 (by omega) (by omega) (by omega)
                refine gz_s 1 (pc' := 67) (L' := [some (.ref m), some (.int (zi nd)), some (.int (zi bt)), some (.int (zi k)), some (.int (zi 1))]) (S' := [.ref m, .int (zi z28)]) rfl ?_
                refine gs_gtk rfl (by decide) rfl sh2.1 tm rfl rfl ec5 ?_
                refine gz_s 1 (pc' := 71) (L' := [some (.ref m), some (.int (zi nd)), some (.int (zi bt)), some (.int (zi k)), some (.int (zi 1))]) (S' := [.int (zi bt), .ref c5, .int (zi z28)]) rfl ?_
                have hl30 : 514 ≤ h2.2.2.2.1 c5 ∧ h2.2.2.2.1 c5 ≤ 514 := gJ.rowl (G := gGG) sh2.1 tc5 rfl
                refine gs_ald rfl (by decide) sh2.1 tc5 rfl rfl rfl (by decide) (fun _ => rfl) (by omega) (by omega) (fun z31 ez31 az31 bz31 => ?_)
                have hf32 := gRow.at (i := bt) (z := z31) lp1k0 tc5 ez31 (by omega) (by omega) (by omega)
                by_cases hc33 : ¬ (z28 : Int) = z31
                · refine gy_icT (pc' := 92) rfl (by decide) (by decide) (by omega) (by omega) hc33 ?_
                  have hls34 : gLs wf pf (k + 1) bt := gLs.pass (by omega) lp1k2 (by omega)
                  refine gy_s 2 (pc' := 4) (L' := [some (.ref m), some (.int (zi nd)), some (.int (zi bt)), some (.int ((zi k) + zi 1)), some (.int (zi 1))]) (S' := []) (L2 := [some (.ref m), some (.int (zi nd)), some (.int (zi bt)), some (.int (zi (k + 1))), some (.int (zi 1))]) (S2 := []) rfl (by simp only [zi_add, zi_sub, zi_mul, zi_neg, zi_and1, zi_and7, zi_and15, zi_and31, zi_and255]) (by simp only [zi_add, zi_sub, zi_mul, zi_neg, zi_and1, zi_and7, zi_and15, zi_and31, zi_and255]) ?_
                  exact gz_wk (ihlp1 h2 bt (k + 1) (by omega) sh2 (by omega) (by omega) (by omega) (by omega) lp1k0 lp1k1 hls34) (gLw.s (gLw.s (gLw.s (gLw.s (gLw.n gLw.z)))))
                · refine gy_icF rfl (by decide) (by decide) (by omega) (by omega) hc33 ?_
                  refine gz_s 1 (pc' := 76) (L' := [some (.ref m), some (.int (zi nd)), some (.int (zi bt)), some (.int (zi k)), some (.int (zi 1))]) (S' := [.ref m]) rfl ?_
                  refine gs_gtr rfl (by decide) rfl sh2.1 tm rfl rfl rfl (fun c35 ec35 tc35 => ?_)
                  refine gz_s 1 (pc' := 80) (L' := [some (.ref m), some (.int (zi nd)), some (.int (zi bt)), some (.int (zi k)), some (.int (zi 1))]) (S' := [.int (zi k), .ref c35]) rfl ?_
                  have hl36 : 514 ≤ h2.2.2.2.1 c35 ∧ h2.2.2.2.1 c35 ≤ 514 := gJ.rowl (G := gGG) sh2.1 tc35 rfl
                  refine gs_ald rfl (by decide) sh2.1 tc35 rfl rfl rfl (by decide) (fun _ => rfl) (by omega) (by omega) (fun z37 ez37 az37 bz37 => ?_)
                  refine gz_s 1 (pc' := 82) (L' := [some (.ref m), some (.int (zi nd)), some (.int (zi bt)), some (.int (zi k)), some (.int (zi 1))]) (S' := [.ref m, .int (zi z37)]) rfl ?_
                  refine gs_gtk rfl (by decide) rfl sh2.1 tm rfl rfl ec35 ?_
                  refine gz_s 1 (pc' := 86) (L' := [some (.ref m), some (.int (zi nd)), some (.int (zi bt)), some (.int (zi k)), some (.int (zi 1))]) (S' := [.int (zi bt), .ref c35, .int (zi z37)]) rfl ?_
                  have hl38 : 514 ≤ h2.2.2.2.1 c35 ∧ h2.2.2.2.1 c35 ≤ 514 := gJ.rowl (G := gGG) sh2.1 tc35 rfl
                  refine gs_ald rfl (by decide) sh2.1 tc35 rfl rfl rfl (by decide) (fun _ => rfl) (by omega) (by omega) (fun z39 ez39 az39 bz39 => ?_)
                  by_cases hc40 : (z37 : Int) ≤ z39
                  · refine gy_icT (pc' := 92) rfl (by decide) (by decide) (by omega) (by omega) hc40 ?_
                    have hls41 : gLs wf pf (k + 1) bt := gLs.pass (by omega) lp1k2 (by omega)
                    refine gy_s 2 (pc' := 4) (L' := [some (.ref m), some (.int (zi nd)), some (.int (zi bt)), some (.int ((zi k) + zi 1)), some (.int (zi 1))]) (S' := []) (L2 := [some (.ref m), some (.int (zi nd)), some (.int (zi bt)), some (.int (zi (k + 1))), some (.int (zi 1))]) (S2 := []) rfl (by simp only [zi_add, zi_sub, zi_mul, zi_neg, zi_and1, zi_and7, zi_and15, zi_and31, zi_and255]) (by simp only [zi_add, zi_sub, zi_mul, zi_neg, zi_and1, zi_and7, zi_and15, zi_and31, zi_and255]) ?_
                    exact gz_wk (ihlp1 h2 bt (k + 1) (by omega) sh2 (by omega) (by omega) (by omega) (by omega) lp1k0 lp1k1 hls41) (gLw.s (gLw.s (gLw.s (gLw.s (gLw.n gLw.z)))))
                  · refine gy_icF rfl (by decide) (by decide) (by omega) (by omega) hc40 ?_
                    refine gz_s 2 (pc' := 92) (L' := [some (.ref m), some (.int (zi nd)), some (.int (zi k)), some (.int (zi k)), some (.int (zi 1))]) (S' := []) rfl ?_
                    have hls42 : gLs wf pf (k + 1) k := gLs.take (by omega) lp1k2 (by omega) (by omega) (by omega)
                    refine gy_s 2 (pc' := 4) (L' := [some (.ref m), some (.int (zi nd)), some (.int (zi k)), some (.int ((zi k) + zi 1)), some (.int (zi 1))]) (S' := []) (L2 := [some (.ref m), some (.int (zi nd)), some (.int (zi k)), some (.int (zi (k + 1))), some (.int (zi 1))]) (S2 := []) rfl (by simp only [zi_add, zi_sub, zi_mul, zi_neg, zi_and1, zi_and7, zi_and15, zi_and31, zi_and255]) (by simp only [zi_add, zi_sub, zi_mul, zi_neg, zi_and1, zi_and7, zi_and15, zi_and31, zi_and255]) ?_
                    exact gz_wk (ihlp1 h2 k (k + 1) (by omega) sh2 (by omega) (by omega) (by omega) (by omega) lp1k0 lp1k1 hls42) (gLw.s (gLw.s (gLw.s (gLw.s (gLw.n gLw.z)))))
  exact gz_wk (lp1 _ h (-1) 0 (Nat.lt_succ_self _) hS (by omega) (by omega) (by omega) (by omega) hyf39 hyf41 gLs.zero) (gLw.s (gLw.s (gLw.s (gLw.s (gLw.n gLw.z)))))
set_option maxRecDepth 20000 in
set_option maxHeartbeats 4000000 in
theorem mm_suit (d : Nat) {ty : Nat → Nat} {h : gH} (hJ : gJ rT 1027 ty h) (m : Nat) (tm : ty m = 1) (wh : Int) (rwh : 0 ≤ wh ∧ wh ≤ 1) (so0 : Int) (rso0 : 0 ≤ so0 ∧ so0 ≤ 1999) (uq : gUq ty) (hyof : gOf ty so0 h) (hyo1 : gO1 ty wh h) : gz gPP gGG gcn (d + 1) gt202 0 (gent [.ref m, .int (zi wh)] 8) [] h (fun q _ => gSs rT 1027 ty [37999, 38999, 39999, 40999, 41999] h q.2.2 ∧ gfin gt202 q.1 q.2.1 = some none) := by
  have hS : gSs rT 1027 ty [37999, 38999, 39999, 40999, 41999] h h := gSs.rf hJ
  obtain ⟨fo, ro, nno, sfo⟩ := hyof
  obtain ⟨c1, ec1, tc1⟩ := gJ.ref (k := 68) (G := gGG) hS.1 tm rfl rfl rfl
  obtain ⟨c2, ec2, tc2⟩ := gJ.ref (k := 71) (G := gGG) hS.1 tm rfl rfl rfl
  obtain ⟨c3, ec3, tc3⟩ := gJ.ref (k := 73) (G := gGG) hS.1 tm rfl rfl rfl
  have o256 := gEl.row hS.1 tc1 rfl rfl (fun _ => rfl) (by decide) (by decide) ro (i := 257 * wh + 256) (by omega) (by omega) hyo1
  refine gz_s 4 (pc' := 6) (L' := [some (.ref m), some (.int (zi wh)), some (.int (zi 257)), some (.int (zi 0)), none, none, none, none]) (S' := []) rfl ?_
  have hti5 : gTi ty fo (257 * wh) 0 h := ⟨_, _, gRow.mk uq tc2 (by decide) (fun _ => rfl), gRow.mk uq tc3 (by decide) (fun _ => rfl), fun j hj => absurd hj (by omega)⟩
  have lp4 : ∀ (fu : Nat) (h6 : gH) (s : Int), (515 - s).toNat < fu → gSs rT 1027 ty [37999, 38999, 39999, 40999, 41999] h h6 → (0 ≤ s ∧ s ≤ 514) → h6.2.2.2.2 m 68 = .ref c1 → h6.2.2.2.2 m 71 = .ref c2 → h6.2.2.2.2 m 73 = .ref c3 → gOf ty so0 h6 → gO1 ty wh h6 → gRow ty 36 fo h6 → gTi ty fo (257 * wh) s h6 → gz gPP gGG gcn (d + 1) gt202 6 [some (.ref m), some (.int (zi wh)), some (.int (zi 257)), some (.int (zi s)), none, none, none, none] [] h6 (fun q _ => gSs rT 1027 ty [37999, 38999, 39999, 40999, 41999] h q.2.2 ∧ gfin gt202 q.1 q.2.1 = some none) := by
    intro fu
    induction fu with
    | zero => intro h6 s hm; exact absurd hm (Nat.not_lt_zero _)
    | succ fu ihlp4 =>
      intro h6 s lp4m sh6 lp4f0 lp4k0 lp4k1 lp4k2 lp4k3 lp4k4 lp4k5 lp4k6
      refine gz_s 2 (pc' := 10) (L' := [some (.ref m), some (.int (zi wh)), some (.int (zi 257)), some (.int (zi s)), none, none, none, none]) (S' := [.int (zi 514), .int (zi s)]) rfl ?_
      by_cases hc7 : (514 : Int) ≤ s
      · refine gy_icT (pc' := 62) rfl (by decide) (by decide) (by omega) (by omega) hc7 ?_
        refine gz_s 2 (pc' := 64) (L' := [some (.ref m), some (.int (zi wh)), some (.int (zi 257)), some (.int (zi 1)), none, none, none, none]) (S' := []) rfl ?_
        have htr9 : gTree ty 257 h6 := by
          have e514 := lp4k6
          rw [(by omega : s = 514)] at e514
          obtain ⟨g1, g2⟩ := e514.out
          refine ⟨_, _, g1, g2, gTr.init nno sfo (by omega) (by omega) ?_⟩
          have e256 : (257 * wh + 256).toNat = (257 * wh).toNat + 256 := by omega
          rw [e256] at o256
          omega
        have lp8 : ∀ (fu : Nat) (h10 : gH) (nd : Int) (mo : Int), (2 * (514 - nd) + mo).toNat < fu → gSs rT 1027 ty [37999, 38999, 39999, 40999, 41999] h h10 → (257 ≤ nd ∧ nd ≤ 513) → (0 ≤ mo ∧ mo ≤ 1) → h10.2.2.2.2 m 68 = .ref c1 → h10.2.2.2.2 m 71 = .ref c2 → h10.2.2.2.2 m 73 = .ref c3 → gOf ty so0 h10 → gO1 ty wh h10 → gRow ty 36 fo h10 → gTree ty nd h10 → gz gPP gGG gcn (d + 1) gt202 64 [some (.ref m), some (.int (zi wh)), some (.int (zi nd)), some (.int (zi mo)), none, none, none, none] [] h10 (fun q _ => gSs rT 1027 ty [37999, 38999, 39999, 40999, 41999] h q.2.2 ∧ gfin gt202 q.1 q.2.1 = some none) := by
          intro fu
          induction fu with
          | zero => intro h10 nd mo hm; exact absurd hm (Nat.not_lt_zero _)
          | succ fu ihlp8 =>
            intro h10 nd mo lp8m sh10 lp8f0 lp8f1 lp8k0 lp8k1 lp8k2 lp8k3 lp8k4 lp8k5 lp8k6
            refine gz_s 1 (pc' := 65) (L' := [some (.ref m), some (.int (zi wh)), some (.int (zi nd)), some (.int (zi mo)), none, none, none, none]) (S' := [.int (zi mo)]) rfl ?_
            by_cases hc11 : (mo : Int) = 0
            · refine gy_ifT (pc' := 192) rfl (by decide) (by decide) (by omega) hc11 ?_
              obtain ⟨wf, pf, rwf, rpf, htr9⟩ := lp8k6
              have hsz := htr9.sz
              have hwr := gRow.rng sh10.1 tc2 rfl rfl (fun _ => rfl) (by decide) (by decide) rwf
              refine gz_s 4 (pc' := 198) (L' := [some (.ref m), some (.int (zi wh)), some (.int (zi nd)), some (.int (zi mo)), some (.int (zi 0)), some (.int (zi 0)), none, none]) (S' := []) rfl ?_
              have lp12 : ∀ (fu : Nat) (h13 : gH) (s2 : Int), (258 - s2).toNat < fu → gSs rT 1027 ty [37999, 38999, 39999, 40999, 41999] h h13 → (0 ≤ s2 ∧ s2 ≤ 257) → h13.2.2.2.2 m 68 = .ref c1 → h13.2.2.2.2 m 71 = .ref c2 → h13.2.2.2.2 m 73 = .ref c3 → gOf ty so0 h13 → gO1 ty wh h13 → gRow ty 36 fo h13 → gRow ty 39 wf h13 → gRow ty 41 pf h13 → gz gPP gGG gcn (d + 1) gt202 198 [some (.ref m), some (.int (zi wh)), some (.int (zi nd)), some (.int (zi mo)), some (.int (zi 0)), some (.int (zi s2)), none, none] [] h13 (fun q _ => gSs rT 1027 ty [37999, 38999, 39999, 40999, 41999] h q.2.2 ∧ gfin gt202 q.1 q.2.1 = some none) := by
                intro fu
                induction fu with
                | zero => intro h13 s2 hm; exact absurd hm (Nat.not_lt_zero _)
                | succ fu ihlp12 =>
                  intro h13 s2 lp12m sh13 lp12f0 lp12k0 lp12k1 lp12k2 lp12k3 lp12k4 lp12k5 lp12k6 lp12k7
                  refine gz_s 2 (pc' := 203) (L' := [some (.ref m), some (.int (zi wh)), some (.int (zi nd)), some (.int (zi mo)), some (.int (zi 0)), some (.int (zi s2)), none, none]) (S' := [.int (zi 257), .int (zi s2)]) rfl ?_
                  by_cases hc14 : (257 : Int) ≤ s2
                  · refine gy_icT (pc' := 270) rfl (by decide) (by decide) (by omega) (by omega) hc14 ?_
                    refine gz_s 2 (pc' := 273) (L' := [some (.ref m), some (.int (zi wh)), some (.int (zi nd)), some (.int (zi mo)), some (.int (zi 0)), some (.int (zi 1)), none, none]) (S' := []) rfl ?_
                    have lp15 : ∀ (fu : Nat) (h16 : gH) (cd : Int) (b1 : Int), (18 - b1).toNat < fu → gSs rT 1027 ty [37999, 38999, 39999, 40999, 41999] h h16 → ((-2147483648) ≤ cd ∧ cd ≤ 2147483647) → (1 ≤ b1 ∧ b1 ≤ 17) → h16.2.2.2.2 m 68 = .ref c1 → h16.2.2.2.2 m 71 = .ref c2 → h16.2.2.2.2 m 73 = .ref c3 → gOf ty so0 h16 → gO1 ty wh h16 → gRow ty 36 fo h16 → gRow ty 39 wf h16 → gRow ty 41 pf h16 → gz gPP gGG gcn (d + 1) gt202 273 [some (.ref m), some (.int (zi wh)), some (.int (zi nd)), some (.int (zi mo)), some (.int (zi cd)), some (.int (zi b1)), none, none] [] h16 (fun q _ => gSs rT 1027 ty [37999, 38999, 39999, 40999, 41999] h q.2.2 ∧ gfin gt202 q.1 q.2.1 = some none) := by
                      intro fu
                      induction fu with
                      | zero => intro h16 cd b1 hm; exact absurd hm (Nat.not_lt_zero _)
                      | succ fu ihlp15 =>
                        intro h16 cd b1 lp15m sh16 lp15f0 lp15f1 lp15k0 lp15k1 lp15k2 lp15k3 lp15k4 lp15k5 lp15k6 lp15k7
                        refine gz_s 2 (pc' := 277) (L' := [some (.ref m), some (.int (zi wh)), some (.int (zi nd)), some (.int (zi mo)), some (.int (zi cd)), some (.int (zi b1)), none, none]) (S' := [.int (zi 16), .int (zi b1)]) rfl ?_
                        by_cases hc17 : (16 : Int) < b1
                        · refine gy_icT (pc' := 345) rfl (by decide) (by decide) (by omega) (by omega) hc17 ?_
                          exact gz_end (I := .return_) (len := 1) rfl (Or.inl rfl) ⟨sh16, rfl⟩
                        · refine gy_icF rfl (by decide) (by decide) (by omega) (by omega) hc17 ?_
                          refine gy_s 3 (pc' := 284) (L' := [some (.ref m), some (.int (zi wh)), some (.int (zi nd)), some (.int (zi mo)), some (.int (zi cd)), some (.int (zi b1)), none, none]) (S' := [.int ((zi 2) * (zi cd))]) (L2 := [some (.ref m), some (.int (zi wh)), some (.int (zi nd)), some (.int (zi mo)), some (.int (zi cd)), some (.int (zi b1)), none, none]) (S2 := [.int (zi (2 * cd))]) rfl (by simp only [zi_add, zi_sub, zi_mul, zi_neg, zi_and1, zi_and7, zi_and15, zi_and31, zi_and255]) (by simp only [zi_add, zi_sub, zi_mul, zi_neg, zi_and1, zi_and7, zi_and15, zi_and31, zi_and255]) ?_
                          refine gy_any (fun z18 ez18 az18 bz18 => ?_)
                          refine gz_s 3 (pc' := 289) (L' := [some (.ref m), some (.int (zi wh)), some (.int (zi nd)), some (.int (zi mo)), some (.int (zi z18)), some (.int (zi b1)), some (.int (zi 0)), none]) (S' := []) rfl ?_
                          have lp19 : ∀ (fu : Nat) (h20 : gH) (cd2 : Int) (s3 : Int), (257 - s3).toNat < fu → gSs rT 1027 ty [37999, 38999, 39999, 40999, 41999] h h20 → ((-2147483648) ≤ cd2 ∧ cd2 ≤ 2147483647) → (0 ≤ s3 ∧ s3 ≤ 256) → h20.2.2.2.2 m 68 = .ref c1 → h20.2.2.2.2 m 71 = .ref c2 → h20.2.2.2.2 m 73 = .ref c3 → gOf ty so0 h20 → gO1 ty wh h20 → gRow ty 36 fo h20 → gRow ty 39 wf h20 → gRow ty 41 pf h20 → gz gPP gGG gcn (d + 1) gt202 289 [some (.ref m), some (.int (zi wh)), some (.int (zi nd)), some (.int (zi mo)), some (.int (zi cd2)), some (.int (zi b1)), some (.int (zi s3)), none] [] h20 (fun q _ => gSs rT 1027 ty [37999, 38999, 39999, 40999, 41999] h q.2.2 ∧ gfin gt202 q.1 q.2.1 = some none) := by
                            intro fu
                            induction fu with
                            | zero => intro h20 cd2 s3 hm; exact absurd hm (Nat.not_lt_zero _)
                            | succ fu ihlp19 =>
                              intro h20 cd2 s3 lp19m sh20 lp19f0 lp19f1 lp19k0 lp19k1 lp19k2 lp19k3 lp19k4 lp19k5 lp19k6 lp19k7
                              refine gz_s 2 (pc' := 294) (L' := [some (.ref m), some (.int (zi wh)), some (.int (zi nd)), some (.int (zi mo)), some (.int (zi cd2)), some (.int (zi b1)), some (.int (zi s3)), none]) (S' := [.int (zi 256), .int (zi s3)]) rfl ?_
                              by_cases hc21 : (256 : Int) ≤ s3
                              · refine gy_icT (pc' := 339) rfl (by decide) (by decide) (by omega) (by omega) hc21 ?_
                                refine gy_s 2 (pc' := 273) (L' := [some (.ref m), some (.int (zi wh)), some (.int (zi nd)), some (.int (zi mo)), some (.int (zi cd2)), some (.int ((zi b1) + zi 1)), some (.int (zi s3)), none]) (S' := []) (L2 := [some (.ref m), some (.int (zi wh)), some (.int (zi nd)), some (.int (zi mo)), some (.int (zi cd2)), some (.int (zi (b1 + 1))), some (.int (zi s3)), none]) (S2 := []) rfl (by simp only [zi_add, zi_sub, zi_mul, zi_neg, zi_and1, zi_and7, zi_and15, zi_and31, zi_and255]) (by simp only [zi_add, zi_sub, zi_mul, zi_neg, zi_and1, zi_and7, zi_and15, zi_and31, zi_and255]) ?_
                                exact gz_wk (ihlp15 h20 cd2 (b1 + 1) (by omega) sh20 (by omega) (by omega) lp19k0 lp19k1 lp19k2 lp19k3 lp19k4 lp19k5 lp19k6 lp19k7) (gLw.s (gLw.s (gLw.s (gLw.s (gLw.s (gLw.s (gLw.n (gLw.n gLw.z))))))))
                              · refine gy_icF rfl (by decide) (by decide) (by omega) (by omega) hc21 ?_
                                refine gz_s 1 (pc' := 298) (L' := [some (.ref m), some (.int (zi wh)), some (.int (zi nd)), some (.int (zi mo)), some (.int (zi cd2)), some (.int (zi b1)), some (.int (zi s3)), none]) (S' := [.ref m]) rfl ?_
                                refine gs_gtr rfl (by decide) rfl sh20.1 tm rfl rfl rfl (fun c22 ec22 tc22 => ?_)
                                refine gy_s 5 (pc' := 309) (L' := [some (.ref m), some (.int (zi wh)), some (.int (zi nd)), some (.int (zi mo)), some (.int (zi cd2)), some (.int (zi b1)), some (.int (zi s3)), none]) (S' := [.int (((zi 257) * (zi wh)) + (zi s3)), .ref c22]) (L2 := [some (.ref m), some (.int (zi wh)), some (.int (zi nd)), some (.int (zi mo)), some (.int (zi cd2)), some (.int (zi b1)), some (.int (zi s3)), none]) (S2 := [.int (zi ((257 * wh) + s3)), .ref c22]) rfl (by simp only [zi_add, zi_sub, zi_mul, zi_neg, zi_and1, zi_and7, zi_and15, zi_and31, zi_and255]) (by simp only [zi_add, zi_sub, zi_mul, zi_neg, zi_and1, zi_and7, zi_and15, zi_and31, zi_and255]) ?_
                                have hl23 : 514 ≤ h20.2.2.2.1 c22 ∧ h20.2.2.2.1 c22 ≤ 514 := gJ.rowl (G := gGG) sh20.1 tc22 rfl
                                refine gs_ald rfl (by decide) sh20.1 tc22 rfl rfl rfl (by decide) (fun _ => rfl) (by omega) (by omega) (fun z24 ez24 az24 bz24 => ?_)
                                refine gz_s 1 (pc' := 312) (L' := [some (.ref m), some (.int (zi wh)), some (.int (zi nd)), some (.int (zi mo)), some (.int (zi cd2)), some (.int (zi b1)), some (.int (zi s3)), none]) (S' := [.int (zi b1), .int (zi z24)]) rfl ?_
                                by_cases hc25 : ¬ (z24 : Int) = b1
                                · refine gy_icT (pc' := 333) rfl (by decide) (by decide) (by omega) (by omega) hc25 ?_
                                  refine gy_s 2 (pc' := 289) (L' := [some (.ref m), some (.int (zi wh)), some (.int (zi nd)), some (.int (zi mo)), some (.int (zi cd2)), some (.int (zi b1)), some (.int ((zi s3) + zi 1)), none]) (S' := []) (L2 := [some (.ref m), some (.int (zi wh)), some (.int (zi nd)), some (.int (zi mo)), some (.int (zi cd2)), some (.int (zi b1)), some (.int (zi (s3 + 1))), none]) (S2 := []) rfl (by simp only [zi_add, zi_sub, zi_mul, zi_neg, zi_and1, zi_and7, zi_and15, zi_and31, zi_and255]) (by simp only [zi_add, zi_sub, zi_mul, zi_neg, zi_and1, zi_and7, zi_and15, zi_and31, zi_and255]) ?_
                                  exact gz_wk (ihlp19 h20 cd2 (s3 + 1) (by omega) sh20 (by omega) (by omega) lp19k0 lp19k1 lp19k2 lp19k3 lp19k4 lp19k5 lp19k6 lp19k7) (gLw.s (gLw.s (gLw.s (gLw.s (gLw.s (gLw.s (gLw.s (gLw.n gLw.z))))))))
                                · refine gy_icF rfl (by decide) (by decide) (by omega) (by omega) hc25 ?_
                                  refine gz_s 1 (pc' := 316) (L' := [some (.ref m), some (.int (zi wh)), some (.int (zi nd)), some (.int (zi mo)), some (.int (zi cd2)), some (.int (zi b1)), some (.int (zi s3)), none]) (S' := [.ref m]) rfl ?_
                                  refine gs_gtr rfl (by decide) rfl sh20.1 tm rfl rfl rfl (fun c26 ec26 tc26 => ?_)
                                  refine gy_s 6 (pc' := 329) (L' := [some (.ref m), some (.int (zi wh)), some (.int (zi nd)), some (.int (zi mo)), some (.int (zi cd2)), some (.int (zi b1)), some (.int (zi s3)), none]) (S' := [.int (zi cd2), .int (((zi 257) * (zi wh)) + (zi s3)), .ref c26]) (L2 := [some (.ref m), some (.int (zi wh)), some (.int (zi nd)), some (.int (zi mo)), some (.int (zi cd2)), some (.int (zi b1)), some (.int (zi s3)), none]) (S2 := [.int (zi cd2), .int (zi ((257 * wh) + s3)), .ref c26]) rfl (by simp only [zi_add, zi_sub, zi_mul, zi_neg, zi_and1, zi_and7, zi_and15, zi_and31, zi_and255]) (by simp only [zi_add, zi_sub, zi_mul, zi_neg, zi_and1, zi_and7, zi_and15, zi_and31, zi_and255]) ?_
                                  have hl27 : 514 ≤ h20.2.2.2.1 c26 ∧ h20.2.2.2.1 c26 ≤ 514 := gJ.rowl (G := gGG) sh20.1 tc26 rfl
                                  refine gs_ast rfl (by decide) sh20 tc26 rfl rfl rfl (by decide) (fun _ => rfl) (by omega) (by omega) (fun _ => (by decide : (38999 : Nat) ∈ ([37999, 38999, 39999, 40999, 41999] : List Nat))) (by omega) (by omega) (fun h28 sh28 eh28 fh28 => ?_)
                                  have pr29 := gOf.pt fh28 tc26 (by decide) lp19k3
                                  have pr30 := gO1.pt fh28 tc26 (by decide) lp19k4
                                  have pr31 := gRow.pt fh28 tc26 (by decide) lp19k5
                                  have pr32 := gRow.pt fh28 tc26 (by decide) lp19k6
                                  have pr33 := gRow.pt fh28 tc26 (by decide) lp19k7
                                  have s34 := (fh28 m 68 (fun q => absurd (((tm).symm.trans (congrArg ty q.1)).trans tc26) (by decide))).trans lp19k0
                                  have s35 := (fh28 m 71 (fun q => absurd (((tm).symm.trans (congrArg ty q.1)).trans tc26) (by decide))).trans lp19k1
                                  have s36 := (fh28 m 73 (fun q => absurd (((tm).symm.trans (congrArg ty q.1)).trans tc26) (by decide))).trans lp19k2
                                  have s37 := (fh28 m 69 (fun q => absurd (((tm).symm.trans (congrArg ty q.1)).trans tc26) (by decide))).trans ec22
                                  have s38 := (fh28 m 70 (fun q => absurd (((tm).symm.trans (congrArg ty q.1)).trans tc26) (by decide))).trans ec26
                                  have pr39 := gEl.set (i := (257 * wh) + s3) (z := cd2) uq tc26 (by decide) eh28 (by omega) (by omega)
                                  refine gy_s 3 (pc' := 289) (L' := [some (.ref m), some (.int (zi wh)), some (.int (zi nd)), some (.int (zi mo)), some (.int ((zi cd2) + zi 1)), some (.int (zi b1)), some (.int ((zi s3) + zi 1)), none]) (S' := []) (L2 := [some (.ref m), some (.int (zi wh)), some (.int (zi nd)), some (.int (zi mo)), some (.int (zi (cd2 + 1))), some (.int (zi b1)), some (.int (zi (s3 + 1))), none]) (S2 := []) rfl (by simp only [zi_add, zi_sub, zi_mul, zi_neg, zi_and1, zi_and7, zi_and15, zi_and31, zi_and255]) (by simp only [zi_add, zi_sub, zi_mul, zi_neg, zi_and1, zi_and7, zi_and15, zi_and31, zi_and255]) ?_
                                  exact gz_wk (ihlp19 h28 (cd2 + 1) (s3 + 1) (by omega) sh28 (by omega) (by omega) s34 s35 s36 pr29 pr30 pr31 pr32 pr33) (gLw.s (gLw.s (gLw.s (gLw.s (gLw.s (gLw.s (gLw.s (gLw.n gLw.z))))))))
                          exact gz_wk (lp19 _ h16 z18 0 (Nat.lt_succ_self _) sh16 (by omega) (by omega) lp15k0 lp15k1 lp15k2 lp15k3 lp15k4 lp15k5 lp15k6 lp15k7) (gLw.s (gLw.s (gLw.s (gLw.s (gLw.s (gLw.s (gLw.s (gLw.n gLw.z))))))))
                    exact gz_wk (lp15 _ h13 0 1 (Nat.lt_succ_self _) sh13 (by omega) (by omega) lp12k0 lp12k1 lp12k2 lp12k3 lp12k4 lp12k5 lp12k6 lp12k7) (gLw.s (gLw.s (gLw.s (gLw.s (gLw.s (gLw.s (gLw.n (gLw.n gLw.z))))))))
                  · refine gy_icF rfl (by decide) (by decide) (by omega) (by omega) hc14 ?_
                    refine gz_s 4 (pc' := 213) (L' := [some (.ref m), some (.int (zi wh)), some (.int (zi nd)), some (.int (zi mo)), some (.int (zi 0)), some (.int (zi s2)), some (.int (zi 0)), some (.int (zi s2))]) (S' := []) rfl ?_
                    have lp40 : ∀ (fu : Nat) (h41 : gH) (bits : Int) (kk : Int), (514 - kk).toNat < fu → gSs rT 1027 ty [37999, 38999, 39999, 40999, 41999] h h41 → (0 ≤ bits ∧ bits ≤ 21) → (0 ≤ kk ∧ kk ≤ 512) → (kk < nd) → h41.2.2.2.2 m 68 = .ref c1 → h41.2.2.2.2 m 71 = .ref c2 → h41.2.2.2.2 m 73 = .ref c3 → gOf ty so0 h41 → gO1 ty wh h41 → gRow ty 36 fo h41 → gRow ty 39 wf h41 → gRow ty 41 pf h41 → gDp wf pf (s2).toNat (kk).toNat (bits).toNat → gz gPP gGG gcn (d + 1) gt202 213 [some (.ref m), some (.int (zi wh)), some (.int (zi nd)), some (.int (zi mo)), some (.int (zi 0)), some (.int (zi s2)), some (.int (zi bits)), some (.int (zi kk))] [] h41 (fun q _ => gSs rT 1027 ty [37999, 38999, 39999, 40999, 41999] h q.2.2 ∧ gfin gt202 q.1 q.2.1 = some none) := by
                      intro fu
                      induction fu with
                      | zero => intro h41 bits kk hm; exact absurd hm (Nat.not_lt_zero _)
                      | succ fu ihlp40 =>
                        intro h41 bits kk lp40m sh41 lp40f0 lp40f1 lp40f2 lp40k0 lp40k1 lp40k2 lp40k3 lp40k4 lp40k5 lp40k6 lp40k7 lp40k8
                        refine gz_s 1 (pc' := 214) (L' := [some (.ref m), some (.int (zi wh)), some (.int (zi nd)), some (.int (zi mo)), some (.int (zi 0)), some (.int (zi s2)), some (.int (zi bits)), some (.int (zi kk))]) (S' := [.ref m]) rfl ?_
                        refine gs_gtk rfl (by decide) rfl sh41.1 tm rfl rfl lp40k1 ?_
                        refine gz_s 1 (pc' := 219) (L' := [some (.ref m), some (.int (zi wh)), some (.int (zi nd)), some (.int (zi mo)), some (.int (zi 0)), some (.int (zi s2)), some (.int (zi bits)), some (.int (zi kk))]) (S' := [.int (zi s2), .ref c2]) rfl ?_
                        have hl42 : 514 ≤ h41.2.2.2.1 c2 ∧ h41.2.2.2.1 c2 ≤ 514 := gJ.rowl (G := gGG) sh41.1 tc2 rfl
                        refine gs_ald rfl (by decide) sh41.1 tc2 rfl rfl rfl (by decide) (fun _ => rfl) (by omega) (by omega) (fun z43 ez43 az43 bz43 => ?_)
                        have hf44 := gRow.at (i := s2) (z := z43) lp40k6 tc2 ez43 (by omega) (by omega) (by omega)
                        by_cases hc45 : (z43 : Int) ≤ 0
                        · refine gy_ifT (pc' := 249) rfl (by decide) (by decide) (by omega) hc45 ?_
                          refine gz_s 1 (pc' := 250) (L' := [some (.ref m), some (.int (zi wh)), some (.int (zi nd)), some (.int (zi mo)), some (.int (zi 0)), some (.int (zi s2)), some (.int (zi bits)), some (.int (zi kk))]) (S' := [.ref m]) rfl ?_
                          refine gs_gtr rfl (by decide) rfl sh41.1 tm rfl rfl rfl (fun c46 ec46 tc46 => ?_)
                          refine gy_s 6 (pc' := 263) (L' := [some (.ref m), some (.int (zi wh)), some (.int (zi nd)), some (.int (zi mo)), some (.int (zi 0)), some (.int (zi s2)), some (.int (zi bits)), some (.int (zi kk))]) (S' := [.int (zi bits), .int (((zi 257) * (zi wh)) + (zi s2)), .ref c46]) (L2 := [some (.ref m), some (.int (zi wh)), some (.int (zi nd)), some (.int (zi mo)), some (.int (zi 0)), some (.int (zi s2)), some (.int (zi bits)), some (.int (zi kk))]) (S2 := [.int (zi bits), .int (zi ((257 * wh) + s2)), .ref c46]) rfl (by simp only [zi_add, zi_sub, zi_mul, zi_neg, zi_and1, zi_and7, zi_and15, zi_and31, zi_and255]) (by simp only [zi_add, zi_sub, zi_mul, zi_neg, zi_and1, zi_and7, zi_and15, zi_and31, zi_and255]) ?_
                          have hl47 : 514 ≤ h41.2.2.2.1 c46 ∧ h41.2.2.2.1 c46 ≤ 514 := gJ.rowl (G := gGG) sh41.1 tc46 rfl
                          refine gs_ast rfl (by decide) sh41 tc46 rfl rfl rfl (by decide) (fun _ => rfl) (by omega) (by omega) (fun _ => (by decide : (37999 : Nat) ∈ ([37999, 38999, 39999, 40999, 41999] : List Nat))) (by omega) (by omega) (fun h48 sh48 eh48 fh48 => ?_)
                          have pr49 := gOf.pt fh48 tc46 (by decide) lp40k3
                          have pr50 := gO1.pt fh48 tc46 (by decide) lp40k4
                          have pr51 := gRow.pt fh48 tc46 (by decide) lp40k5
                          have pr52 := gRow.pt fh48 tc46 (by decide) lp40k6
                          have pr53 := gRow.pt fh48 tc46 (by decide) lp40k7
                          have s54 := (fh48 m 68 (fun q => absurd (((tm).symm.trans (congrArg ty q.1)).trans tc46) (by decide))).trans lp40k0
                          have s55 := (fh48 m 71 (fun q => absurd (((tm).symm.trans (congrArg ty q.1)).trans tc46) (by decide))).trans lp40k1
                          have s56 := (fh48 m 73 (fun q => absurd (((tm).symm.trans (congrArg ty q.1)).trans tc46) (by decide))).trans lp40k2
                          have s57 := (fh48 m 69 (fun q => absurd (((tm).symm.trans (congrArg ty q.1)).trans tc46) (by decide))).trans ec46
                          have pr58 := gEl.set (i := (257 * wh) + s2) (z := bits) uq tc46 (by decide) eh48 (by omega) (by omega)
                          refine gy_s 2 (pc' := 198) (L' := [some (.ref m), some (.int (zi wh)), some (.int (zi nd)), some (.int (zi mo)), some (.int (zi 0)), some (.int ((zi s2) + zi 1)), some (.int (zi bits)), some (.int (zi kk))]) (S' := []) (L2 := [some (.ref m), some (.int (zi wh)), some (.int (zi nd)), some (.int (zi mo)), some (.int (zi 0)), some (.int (zi (s2 + 1))), some (.int (zi bits)), some (.int (zi kk))]) (S2 := []) rfl (by simp only [zi_add, zi_sub, zi_mul, zi_neg, zi_and1, zi_and7, zi_and15, zi_and31, zi_and255]) (by simp only [zi_add, zi_sub, zi_mul, zi_neg, zi_and1, zi_and7, zi_and15, zi_and31, zi_and255]) ?_
                          exact gz_wk (ihlp12 h48 (s2 + 1) (by omega) sh48 (by omega) s54 s55 s56 pr49 pr50 pr51 pr52 pr53) (gLw.s (gLw.s (gLw.s (gLw.s (gLw.s (gLw.s (gLw.n (gLw.n gLw.z))))))))
                        · refine gy_ifF rfl (by decide) (by decide) (by omega) hc45 ?_
                          refine gz_s 1 (pc' := 224) (L' := [some (.ref m), some (.int (zi wh)), some (.int (zi nd)), some (.int (zi mo)), some (.int (zi 0)), some (.int (zi s2)), some (.int (zi bits)), some (.int (zi kk))]) (S' := [.ref m]) rfl ?_
                          refine gs_gtk rfl (by decide) rfl sh41.1 tm rfl rfl lp40k2 ?_
                          refine gz_s 1 (pc' := 229) (L' := [some (.ref m), some (.int (zi wh)), some (.int (zi nd)), some (.int (zi mo)), some (.int (zi 0)), some (.int (zi s2)), some (.int (zi bits)), some (.int (zi kk))]) (S' := [.int (zi kk), .ref c3]) rfl ?_
                          have hl59 : 514 ≤ h41.2.2.2.1 c3 ∧ h41.2.2.2.1 c3 ≤ 514 := gJ.rowl (G := gGG) sh41.1 tc3 rfl
                          refine gs_ald rfl (by decide) sh41.1 tc3 rfl rfl rfl (by decide) (fun _ => rfl) (by omega) (by omega) (fun z60 ez60 az60 bz60 => ?_)
                          have hf61 := gRow.at (i := kk) (z := z60) lp40k7 tc3 ez60 (by omega) (by omega) (by omega)
                          refine gz_s 1 (pc' := 231) (L' := [some (.ref m), some (.int (zi wh)), some (.int (zi nd)), some (.int (zi mo)), some (.int (zi 0)), some (.int (zi s2)), some (.int (zi bits)), some (.int (zi kk))]) (S' := [.int (zi (-1)), .int (zi z60)]) rfl ?_
                          by_cases hc62 : (z60 : Int) = (-1)
                          · refine gy_icT (pc' := 249) rfl (by decide) (by decide) (by omega) (by omega) hc62 ?_
                            refine gz_s 1 (pc' := 250) (L' := [some (.ref m), some (.int (zi wh)), some (.int (zi nd)), some (.int (zi mo)), some (.int (zi 0)), some (.int (zi s2)), some (.int (zi bits)), some (.int (zi kk))]) (S' := [.ref m]) rfl ?_
                            refine gs_gtr rfl (by decide) rfl sh41.1 tm rfl rfl rfl (fun c63 ec63 tc63 => ?_)
                            refine gy_s 6 (pc' := 263) (L' := [some (.ref m), some (.int (zi wh)), some (.int (zi nd)), some (.int (zi mo)), some (.int (zi 0)), some (.int (zi s2)), some (.int (zi bits)), some (.int (zi kk))]) (S' := [.int (zi bits), .int (((zi 257) * (zi wh)) + (zi s2)), .ref c63]) (L2 := [some (.ref m), some (.int (zi wh)), some (.int (zi nd)), some (.int (zi mo)), some (.int (zi 0)), some (.int (zi s2)), some (.int (zi bits)), some (.int (zi kk))]) (S2 := [.int (zi bits), .int (zi ((257 * wh) + s2)), .ref c63]) rfl (by simp only [zi_add, zi_sub, zi_mul, zi_neg, zi_and1, zi_and7, zi_and15, zi_and31, zi_and255]) (by simp only [zi_add, zi_sub, zi_mul, zi_neg, zi_and1, zi_and7, zi_and15, zi_and31, zi_and255]) ?_
                            have hl64 : 514 ≤ h41.2.2.2.1 c63 ∧ h41.2.2.2.1 c63 ≤ 514 := gJ.rowl (G := gGG) sh41.1 tc63 rfl
                            refine gs_ast rfl (by decide) sh41 tc63 rfl rfl rfl (by decide) (fun _ => rfl) (by omega) (by omega) (fun _ => (by decide : (37999 : Nat) ∈ ([37999, 38999, 39999, 40999, 41999] : List Nat))) (by omega) (by omega) (fun h65 sh65 eh65 fh65 => ?_)
                            have pr66 := gOf.pt fh65 tc63 (by decide) lp40k3
                            have pr67 := gO1.pt fh65 tc63 (by decide) lp40k4
                            have pr68 := gRow.pt fh65 tc63 (by decide) lp40k5
                            have pr69 := gRow.pt fh65 tc63 (by decide) lp40k6
                            have pr70 := gRow.pt fh65 tc63 (by decide) lp40k7
                            have s71 := (fh65 m 68 (fun q => absurd (((tm).symm.trans (congrArg ty q.1)).trans tc63) (by decide))).trans lp40k0
                            have s72 := (fh65 m 71 (fun q => absurd (((tm).symm.trans (congrArg ty q.1)).trans tc63) (by decide))).trans lp40k1
                            have s73 := (fh65 m 73 (fun q => absurd (((tm).symm.trans (congrArg ty q.1)).trans tc63) (by decide))).trans lp40k2
                            have s74 := (fh65 m 69 (fun q => absurd (((tm).symm.trans (congrArg ty q.1)).trans tc63) (by decide))).trans ec63
                            have pr75 := gEl.set (i := (257 * wh) + s2) (z := bits) uq tc63 (by decide) eh65 (by omega) (by omega)
                            refine gy_s 2 (pc' := 198) (L' := [some (.ref m), some (.int (zi wh)), some (.int (zi nd)), some (.int (zi mo)), some (.int (zi 0)), some (.int ((zi s2) + zi 1)), some (.int (zi bits)), some (.int (zi kk))]) (S' := []) (L2 := [some (.ref m), some (.int (zi wh)), some (.int (zi nd)), some (.int (zi mo)), some (.int (zi 0)), some (.int (zi (s2 + 1))), some (.int (zi bits)), some (.int (zi kk))]) (S2 := []) rfl (by simp only [zi_add, zi_sub, zi_mul, zi_neg, zi_and1, zi_and7, zi_and15, zi_and31, zi_and255]) (by simp only [zi_add, zi_sub, zi_mul, zi_neg, zi_and1, zi_and7, zi_and15, zi_and31, zi_and255]) ?_
                            exact gz_wk (ihlp12 h65 (s2 + 1) (by omega) sh65 (by omega) s71 s72 s73 pr66 pr67 pr68 pr69 pr70) (gLw.s (gLw.s (gLw.s (gLw.s (gLw.s (gLw.s (gLw.n (gLw.n gLw.z))))))))
                          · refine gy_icF rfl (by decide) (by decide) (by omega) (by omega) hc62 ?_
                            have hup := htr9.up (kk).toNat (by omega)
                            refine gy_s 2 (pc' := 238) (L' := [some (.ref m), some (.int (zi wh)), some (.int (zi nd)), some (.int (zi mo)), some (.int (zi 0)), some (.int (zi s2)), some (.int ((zi bits) + zi 1)), some (.int (zi kk))]) (S' := [.ref m]) (L2 := [some (.ref m), some (.int (zi wh)), some (.int (zi nd)), some (.int (zi mo)), some (.int (zi 0)), some (.int (zi s2)), some (.int (zi (bits + 1))), some (.int (zi kk))]) (S2 := [.ref m]) rfl (by simp only [zi_add, zi_sub, zi_mul, zi_neg, zi_and1, zi_and7, zi_and15, zi_and31, zi_and255]) (by simp only [zi_add, zi_sub, zi_mul, zi_neg, zi_and1, zi_and7, zi_and15, zi_and31, zi_and255]) ?_
                            refine gs_gtk rfl (by decide) rfl sh41.1 tm rfl rfl lp40k2 ?_
                            refine gz_s 1 (pc' := 243) (L' := [some (.ref m), some (.int (zi wh)), some (.int (zi nd)), some (.int (zi mo)), some (.int (zi 0)), some (.int (zi s2)), some (.int (zi (bits + 1))), some (.int (zi kk))]) (S' := [.int (zi kk), .ref c3]) rfl ?_
                            have hl76 : 514 ≤ h41.2.2.2.1 c3 ∧ h41.2.2.2.1 c3 ≤ 514 := gJ.rowl (G := gGG) sh41.1 tc3 rfl
                            refine gs_ald rfl (by decide) sh41.1 tc3 rfl rfl rfl (by decide) (fun _ => rfl) (by omega) (by omega) (fun z77 ez77 az77 bz77 => ?_)
                            have hf78 := gRow.at (i := kk) (z := z77) lp40k7 tc3 ez77 (by omega) (by omega) (by omega)
                            refine gz_s 1 (pc' := 246) (L' := [some (.ref m), some (.int (zi wh)), some (.int (zi nd)), some (.int (zi mo)), some (.int (zi 0)), some (.int (zi s2)), some (.int (zi (bits + 1))), some (.int (zi z77))]) (S' := []) rfl ?_
                            obtain ⟨m9, hm9, hm1, hm2⟩ : ∃ m9 : Nat, pf (kk).toNat = (m9 : Int) ∧ (kk).toNat < m9 ∧ m9 < nd.toNat := hup.resolve_left (by omega)
                            have hdq := gDp.step (m := m9) htr9 (by omega) hm9 hm2 lp40k8
                            have hdl := hdq.le (by omega) (hwr m9 (by omega)).2
                            have hdp79 : gDp wf pf (s2).toNat (z77).toNat (bits + 1).toNat := by rw [(by omega : (z77).toNat = m9), (by omega : (bits + 1).toNat = (bits).toNat + 1)]; exact hdq
                            refine gz_s 1 (pc' := 213) (L' := [some (.ref m), some (.int (zi wh)), some (.int (zi nd)), some (.int (zi mo)), some (.int (zi 0)), some (.int (zi s2)), some (.int (zi (bits + 1))), some (.int (zi z77))]) (S' := []) rfl ?_
                            exact gz_wk (ihlp40 h41 (bits + 1) z77 (by omega) sh41 (by omega) (by omega) (by omega) lp40k0 lp40k1 lp40k2 lp40k3 lp40k4 lp40k5 lp40k6 lp40k7 hdp79) (gLw.s (gLw.s (gLw.s (gLw.s (gLw.s (gLw.s (gLw.s (gLw.s gLw.z))))))))
                    exact gz_wk (lp40 _ h13 0 s2 (Nat.lt_succ_self _) sh13 (by omega) (by omega) (by omega) lp12k0 lp12k1 lp12k2 lp12k3 lp12k4 lp12k5 lp12k6 lp12k7 gDp.zero htr9 (by omega)) (gLw.s (gLw.s (gLw.s (gLw.s (gLw.s (gLw.s (gLw.s (gLw.s gLw.z))))))))
              exact gz_wk (lp12 _ h10 0 (Nat.lt_succ_self _) sh10 (by omega) lp8k0 lp8k1 lp8k2 lp8k3 lp8k4 lp8k5 rwf rpf) (gLw.s (gLw.s (gLw.s (gLw.s (gLw.s (gLw.s (gLw.n (gLw.n gLw.z))))))))
            · refine gy_ifF rfl (by decide) (by decide) (by omega) hc11 ?_
              obtain ⟨wf, pf, rwf, rpf, htr9⟩ := lp8k6
              have hsz := htr9.sz
              refine gz_s 2 (pc' := 70) (L' := [some (.ref m), some (.int (zi wh)), some (.int (zi nd)), some (.int (zi mo)), none, none, none, none]) (S' := [.int (zi nd), .ref m]) rfl ?_
              refine gz_call rfl (by decide) rfl (by decide) (by decide) (gcal_of rfl rfl rfl (Nat.le_of_ble_eq_true rfl) (gJ.recv (G := gGG) sh10.1 tm rfl rfl)) (mm_leastNode2 _ sh10.1 m tm nd (by omega) wf pf rwf rpf) (fun q80 _ wq80 => ?_)
              obtain ⟨pq80, oq80, hq80⟩ := q80
              obtain ⟨xq80, zq80, gq80, aq80, bq80, uq80_0, yq80_0⟩ := wq80
              refine ⟨_, gq80, ?_⟩
              show gz gPP gGG gcn _ _ 73 [some (.ref m), some (.int (zi wh)), some (.int (zi nd)), some (.int (zi mo)), none, none, none, none] [.int (zi zq80)] hq80 _
              have sq80 := gSs.tr sh10 xq80 (by decide)
              have s81 := (xq80.2.2.2.2.2 m 68 (by rw [tm]; decide)).trans lp8k0
              have s82 := (xq80.2.2.2.2.2 m 71 (by rw [tm]; decide)).trans lp8k1
              have s83 := (xq80.2.2.2.2.2 m 73 (by rw [tm]; decide)).trans lp8k2
              have pr84 := gOf.fr xq80.2 (by decide) lp8k3
              have pr85 := gO1.fr xq80.2 (by decide) lp8k4
              have pr86 := gRow.fr xq80.2 (by decide) lp8k5
              have pr87 := gRow.fr xq80.2 (by decide) rwf
              have pr88 := gRow.fr xq80.2 (by decide) rpf
              refine gy_any (fun z89 ez89 az89 bz89 => ?_)
              refine gz_s 1 (pc' := 75) (L' := [some (.ref m), some (.int (zi wh)), some (.int (zi nd)), some (.int (zi mo)), some (.int (zi z89)), none, none, none]) (S' := []) rfl ?_
              have hla := yq80_0
              have hna : z89 ≠ -1 := htr9.some (by rw [(by omega : ((nd.toNat : Nat) : Int) = nd)]; exact hla)
              have hla2 := hla.2 hna
              refine gz_s 1 (pc' := 76) (L' := [some (.ref m), some (.int (zi wh)), some (.int (zi nd)), some (.int (zi mo)), some (.int (zi z89)), none, none, none]) (S' := [.ref m]) rfl ?_
              refine gs_gtk rfl (by decide) rfl sq80.1 tm rfl rfl s83 ?_
              refine gz_s 2 (pc' := 82) (L' := [some (.ref m), some (.int (zi wh)), some (.int (zi nd)), some (.int (zi mo)), some (.int (zi z89)), none, none, none]) (S' := [.int (zi nd), .int (zi z89), .ref c3]) rfl ?_
              have hl90 : 514 ≤ hq80.2.2.2.1 c3 ∧ hq80.2.2.2.1 c3 ≤ 514 := gJ.rowl (G := gGG) sq80.1 tc3 rfl
              refine gs_ast rfl (by decide) sq80 tc3 rfl rfl rfl (by decide) (fun _ => rfl) (by omega) (by omega) (fun _ => (by decide : (41999 : Nat) ∈ ([37999, 38999, 39999, 40999, 41999] : List Nat))) (by omega) (by omega) (fun h91 sh91 eh91 fh91 => ?_)
              have pr92 := gOf.pt fh91 tc3 (by decide) pr84
              have pr93 := gO1.pt fh91 tc3 (by decide) pr85
              have pr94 := gRow.pt fh91 tc3 (by decide) pr86
              have pr95 := gRow.pt fh91 tc3 (by decide) pr87
              have pr96 := gRow.put (i := z89) (z := nd) uq tc3 (by decide) fh91 eh91 (by omega) (by omega) pr88
              have s97 := (fh91 m 68 (fun q => absurd (((tm).symm.trans (congrArg ty q.1)).trans tc3) (by decide))).trans s81
              have s98 := (fh91 m 71 (fun q => absurd (((tm).symm.trans (congrArg ty q.1)).trans tc3) (by decide))).trans s82
              have s99 := (fh91 m 73 (fun q => absurd (((tm).symm.trans (congrArg ty q.1)).trans tc3) (by decide))).trans s83
              have pr100 := gEl.set (i := z89) (z := nd) uq tc3 (by decide) eh91 (by omega) (by omega)
              refine gz_s 2 (pc' := 85) (L' := [some (.ref m), some (.int (zi wh)), some (.int (zi nd)), some (.int (zi mo)), some (.int (zi z89)), none, none, none]) (S' := [.int (zi nd), .ref m]) rfl ?_
              refine gz_call rfl (by decide) rfl (by decide) (by decide) (gcal_of rfl rfl rfl (Nat.le_of_ble_eq_true rfl) (gJ.recv (G := gGG) sh91.1 tm rfl rfl)) (mm_leastNode2 _ sh91.1 m tm nd (by omega) wf (gfu pf (z89).toNat nd) pr95 pr96) (fun q101 _ wq101 => ?_)
              obtain ⟨pq101, oq101, hq101⟩ := q101
              obtain ⟨xq101, zq101, gq101, aq101, bq101, uq101_0, yq101_0⟩ := wq101
              refine ⟨_, gq101, ?_⟩
              show gz gPP gGG gcn _ _ 88 [some (.ref m), some (.int (zi wh)), some (.int (zi nd)), some (.int (zi mo)), some (.int (zi z89)), none, none, none] [.int (zi zq101)] hq101 _
              have sq101 := gSs.tr sh91 xq101 (by decide)
              have s102 := (xq101.2.2.2.2.2 m 68 (by rw [tm]; decide)).trans s97
              have s103 := (xq101.2.2.2.2.2 m 71 (by rw [tm]; decide)).trans s98
              have s104 := (xq101.2.2.2.2.2 m 73 (by rw [tm]; decide)).trans s99
              have pr105 := gOf.fr xq101.2 (by decide) pr92
              have pr106 := gO1.fr xq101.2 (by decide) pr93
              have pr107 := gRow.fr xq101.2 (by decide) pr94
              have pr108 := gRow.fr xq101.2 (by decide) pr95
              have pr109 := gRow.fr xq101.2 (by decide) pr96
              have pr110 := gEl.fr xq101.2 (by decide) (fun _ => rfl) pr100
              refine gz_s 1 (pc' := 90) (L' := [some (.ref m), some (.int (zi wh)), some (.int (zi nd)), some (.int (zi mo)), some (.int (zi z89)), some (.int (zi zq101)), none, none]) (S' := []) rfl ?_
              have hlb := yq101_0
              refine gz_s 2 (pc' := 93) (L' := [some (.ref m), some (.int (zi wh)), some (.int (zi nd)), some (.int (zi mo)), some (.int (zi z89)), some (.int (zi zq101)), none, none]) (S' := [.int (zi (-1)), .int (zi zq101)]) rfl ?_
              by_cases hc111 : (zq101 : Int) = (-1)
              · refine gy_icT (pc' := 100) rfl (by decide) (by decide) (by omega) (by omega) hc111 ?_
                refine gz_s 3 (pc' := 103) (L' := [some (.ref m), some (.int (zi wh)), some (.int (zi nd)), some (.int (zi 0)), some (.int (zi z89)), some (.int (zi zq101)), none, none]) (S' := [.int (zi 0)]) rfl ?_
                refine gy_ifT (pc' := 181) rfl (by decide) (by decide) (by omega) (by first | (simp [zc]; done) | (simp only [zc]; omega)) ?_
                refine gz_s 1 (pc' := 182) (L' := [some (.ref m), some (.int (zi wh)), some (.int (zi nd)), some (.int (zi 0)), some (.int (zi z89)), some (.int (zi zq101)), none, none]) (S' := [.ref m]) rfl ?_
                refine gs_gtk rfl (by decide) rfl sq101.1 tm rfl rfl s104 ?_
                refine gz_s 2 (pc' := 188) (L' := [some (.ref m), some (.int (zi wh)), some (.int (zi nd)), some (.int (zi 0)), some (.int (zi z89)), some (.int (zi zq101)), none, none]) (S' := [.int (zi (-1)), .int (zi z89), .ref c3]) rfl ?_
                have hl112 : 514 ≤ hq101.2.2.2.1 c3 ∧ hq101.2.2.2.1 c3 ≤ 514 := gJ.rowl (G := gGG) sq101.1 tc3 rfl
                refine gs_ast rfl (by decide) sq101 tc3 rfl rfl rfl (by decide) (fun _ => rfl) (by omega) (by omega) (fun _ => (by decide : (41999 : Nat) ∈ ([37999, 38999, 39999, 40999, 41999] : List Nat))) (by omega) (by omega) (fun h113 sh113 eh113 fh113 => ?_)
                have pr114 := gOf.pt fh113 tc3 (by decide) pr105
                have pr115 := gO1.pt fh113 tc3 (by decide) pr106
                have pr116 := gRow.pt fh113 tc3 (by decide) pr107
                have pr117 := gRow.pt fh113 tc3 (by decide) pr108
                have pr118 := gRow.put (i := z89) (z := (-1)) uq tc3 (by decide) fh113 eh113 (by omega) (by omega) pr109
                have s119 := (fh113 m 68 (fun q => absurd (((tm).symm.trans (congrArg ty q.1)).trans tc3) (by decide))).trans s102
                have s120 := (fh113 m 71 (fun q => absurd (((tm).symm.trans (congrArg ty q.1)).trans tc3) (by decide))).trans s103
                have s121 := (fh113 m 73 (fun q => absurd (((tm).symm.trans (congrArg ty q.1)).trans tc3) (by decide))).trans s104
                have pr122 := gEl.set (i := z89) (z := (-1)) uq tc3 (by decide) eh113 (by omega) (by omega)
                have htr123 : gTree ty nd h113 := ⟨_, _, pr117, pr118, by rw [gfu_back hla2.2.2.2.1]; exact htr9⟩
                refine gz_s 1 (pc' := 64) (L' := [some (.ref m), some (.int (zi wh)), some (.int (zi nd)), some (.int (zi 0)), some (.int (zi z89)), some (.int (zi zq101)), none, none]) (S' := []) rfl ?_
                exact gz_wk (ihlp8 h113 nd 0 (by omega) sh113 (by omega) (by omega) s119 s120 s121 pr114 pr115 pr116 htr123) (gLw.s (gLw.s (gLw.s (gLw.s (gLw.n (gLw.n (gLw.n (gLw.n gLw.z))))))))
              · refine gy_icF rfl (by decide) (by decide) (by omega) (by omega) hc111 ?_
                refine gz_s 4 (pc' := 103) (L' := [some (.ref m), some (.int (zi wh)), some (.int (zi nd)), some (.int (zi 1)), some (.int (zi z89)), some (.int (zi zq101)), none, none]) (S' := [.int (zi 1)]) rfl ?_
                refine gy_ifF rfl (by decide) (by decide) (by omega) (by first | (simp [zc]; done) | (simp only [zc]; omega)) ?_
                have hlb2 := hlb.2 (by omega)
                refine gz_s 1 (pc' := 107) (L' := [some (.ref m), some (.int (zi wh)), some (.int (zi nd)), some (.int (zi 1)), some (.int (zi z89)), some (.int (zi zq101)), none, none]) (S' := [.ref m]) rfl ?_
                refine gs_gtk rfl (by decide) rfl sq101.1 tm rfl rfl s104 ?_
                refine gz_s 2 (pc' := 113) (L' := [some (.ref m), some (.int (zi wh)), some (.int (zi nd)), some (.int (zi 1)), some (.int (zi z89)), some (.int (zi zq101)), none, none]) (S' := [.int (zi nd), .int (zi zq101), .ref c3]) rfl ?_
                have hl124 : 514 ≤ hq101.2.2.2.1 c3 ∧ hq101.2.2.2.1 c3 ≤ 514 := gJ.rowl (G := gGG) sq101.1 tc3 rfl
                refine gs_ast rfl (by decide) sq101 tc3 rfl rfl rfl (by decide) (fun _ => rfl) (by omega) (by omega) (fun _ => (by decide : (41999 : Nat) ∈ ([37999, 38999, 39999, 40999, 41999] : List Nat))) (by omega) (by omega) (fun h125 sh125 eh125 fh125 => ?_)
                have pr126 := gOf.pt fh125 tc3 (by decide) pr105
                have pr127 := gO1.pt fh125 tc3 (by decide) pr106
                have pr128 := gRow.pt fh125 tc3 (by decide) pr107
                have pr129 := gRow.pt fh125 tc3 (by decide) pr108
                have pr130 := gRow.put (i := zq101) (z := nd) uq tc3 (by decide) fh125 eh125 (by omega) (by omega) pr109
                have s131 := (fh125 m 68 (fun q => absurd (((tm).symm.trans (congrArg ty q.1)).trans tc3) (by decide))).trans s102
                have s132 := (fh125 m 71 (fun q => absurd (((tm).symm.trans (congrArg ty q.1)).trans tc3) (by decide))).trans s103
                have s133 := (fh125 m 73 (fun q => absurd (((tm).symm.trans (congrArg ty q.1)).trans tc3) (by decide))).trans s104
                have pr134 := gEl.set (i := zq101) (z := nd) uq tc3 (by decide) eh125 (by omega) (by omega)
                refine gz_s 1 (pc' := 115) (L' := [some (.ref m), some (.int (zi wh)), some (.int (zi nd)), some (.int (zi 1)), some (.int (zi z89)), some (.int (zi zq101)), none, none]) (S' := [.ref m]) rfl ?_
                refine gs_gtk rfl (by decide) rfl sh125.1 tm rfl rfl s132 ?_
                refine gz_s 2 (pc' := 120) (L' := [some (.ref m), some (.int (zi wh)), some (.int (zi nd)), some (.int (zi 1)), some (.int (zi z89)), some (.int (zi zq101)), none, none]) (S' := [.ref m, .int (zi nd), .ref c2]) rfl ?_
                refine gs_gtk rfl (by decide) rfl sh125.1 tm rfl rfl s132 ?_
                refine gz_s 1 (pc' := 125) (L' := [some (.ref m), some (.int (zi wh)), some (.int (zi nd)), some (.int (zi 1)), some (.int (zi z89)), some (.int (zi zq101)), none, none]) (S' := [.int (zi z89), .ref c2, .int (zi nd), .ref c2]) rfl ?_
                have hl135 : 514 ≤ h125.2.2.2.1 c2 ∧ h125.2.2.2.1 c2 ≤ 514 := gJ.rowl (G := gGG) sh125.1 tc2 rfl
                refine gs_ald rfl (by decide) sh125.1 tc2 rfl rfl rfl (by decide) (fun _ => rfl) (by omega) (by omega) (fun z136 ez136 az136 bz136 => ?_)
                have hf137 := gRow.at (i := z89) (z := z136) pr129 tc2 ez136 (by omega) (by omega) (by omega)
                refine gz_s 1 (pc' := 127) (L' := [some (.ref m), some (.int (zi wh)), some (.int (zi nd)), some (.int (zi 1)), some (.int (zi z89)), some (.int (zi zq101)), none, none]) (S' := [.ref m, .int (zi z136), .int (zi nd), .ref c2]) rfl ?_
                refine gs_gtk rfl (by decide) rfl sh125.1 tm rfl rfl s132 ?_
                refine gz_s 1 (pc' := 132) (L' := [some (.ref m), some (.int (zi wh)), some (.int (zi nd)), some (.int (zi 1)), some (.int (zi z89)), some (.int (zi zq101)), none, none]) (S' := [.int (zi zq101), .ref c2, .int (zi z136), .int (zi nd), .ref c2]) rfl ?_
                have hl138 : 514 ≤ h125.2.2.2.1 c2 ∧ h125.2.2.2.1 c2 ≤ 514 := gJ.rowl (G := gGG) sh125.1 tc2 rfl
                refine gs_ald rfl (by decide) sh125.1 tc2 rfl rfl rfl (by decide) (fun _ => rfl) (by omega) (by omega) (fun z139 ez139 az139 bz139 => ?_)
                have hf140 := gRow.at (i := zq101) (z := z139) pr129 tc2 ez139 (by omega) (by omega) (by omega)
                have hj := htr9.join (a := z89) (b := zq101) (za := z136) (zb := z139) (by omega) hla hna hlb (by omega) (by omega) (by omega)
                have hj2 := hj.2.1
                have hj3 := hj.2.2.sz
                refine gy_s 1 (pc' := 134) (L' := [some (.ref m), some (.int (zi wh)), some (.int (zi nd)), some (.int (zi 1)), some (.int (zi z89)), some (.int (zi zq101)), none, none]) (S' := [.int ((zi z136) + (zi z139)), .int (zi nd), .ref c2]) (L2 := [some (.ref m), some (.int (zi wh)), some (.int (zi nd)), some (.int (zi 1)), some (.int (zi z89)), some (.int (zi zq101)), none, none]) (S2 := [.int (zi (z136 + z139)), .int (zi nd), .ref c2]) rfl (by simp only [zi_add, zi_sub, zi_mul, zi_neg, zi_and1, zi_and7, zi_and15, zi_and31, zi_and255]) (by simp only [zi_add, zi_sub, zi_mul, zi_neg, zi_and1, zi_and7, zi_and15, zi_and31, zi_and255]) ?_
                have hl141 : 514 ≤ h125.2.2.2.1 c2 ∧ h125.2.2.2.1 c2 ≤ 514 := gJ.rowl (G := gGG) sh125.1 tc2 rfl
                refine gs_ast rfl (by decide) sh125 tc2 rfl rfl rfl (by decide) (fun _ => rfl) (by omega) (by omega) (fun _ => (by decide : (39999 : Nat) ∈ ([37999, 38999, 39999, 40999, 41999] : List Nat))) (by omega) (by omega) (fun h142 sh142 eh142 fh142 => ?_)
                have pr143 := gOf.pt fh142 tc2 (by decide) pr126
                have pr144 := gO1.pt fh142 tc2 (by decide) pr127
                have pr145 := gRow.pt fh142 tc2 (by decide) pr128
                have pr146 := gRow.put (i := nd) (z := z136 + z139) uq tc2 (by decide) fh142 eh142 (by omega) (by omega) pr129
                have pr147 := gRow.pt fh142 tc2 (by decide) pr130
                have pr148 := gEl.pt fh142 tc2 (by decide) pr134
                have s149 := (fh142 m 68 (fun q => absurd (((tm).symm.trans (congrArg ty q.1)).trans tc2) (by decide))).trans s131
                have s150 := (fh142 m 71 (fun q => absurd (((tm).symm.trans (congrArg ty q.1)).trans tc2) (by decide))).trans s132
                have s151 := (fh142 m 73 (fun q => absurd (((tm).symm.trans (congrArg ty q.1)).trans tc2) (by decide))).trans s133
                have pr152 := gEl.set (i := nd) (z := z136 + z139) uq tc2 (by decide) eh142 (by omega) (by omega)
                refine gz_s 1 (pc' := 136) (L' := [some (.ref m), some (.int (zi wh)), some (.int (zi nd)), some (.int (zi 1)), some (.int (zi z89)), some (.int (zi zq101)), none, none]) (S' := [.ref m]) rfl ?_
                refine gs_gtr rfl (by decide) rfl sh142.1 tm rfl rfl rfl (fun c153 ec153 tc153 => ?_)
                refine gz_s 2 (pc' := 141) (L' := [some (.ref m), some (.int (zi wh)), some (.int (zi nd)), some (.int (zi 1)), some (.int (zi z89)), some (.int (zi zq101)), none, none]) (S' := [.ref m, .int (zi nd), .ref c153]) rfl ?_
                refine gs_gtk rfl (by decide) rfl sh142.1 tm rfl rfl ec153 ?_
                refine gz_s 1 (pc' := 146) (L' := [some (.ref m), some (.int (zi wh)), some (.int (zi nd)), some (.int (zi 1)), some (.int (zi z89)), some (.int (zi zq101)), none, none]) (S' := [.int (zi z89), .ref c153, .int (zi nd), .ref c153]) rfl ?_
                have hl154 : 514 ≤ h142.2.2.2.1 c153 ∧ h142.2.2.2.1 c153 ≤ 514 := gJ.rowl (G := gGG) sh142.1 tc153 rfl
                refine gs_ald rfl (by decide) sh142.1 tc153 rfl rfl rfl (by decide) (fun _ => rfl) (by omega) (by omega) (fun z155 ez155 az155 bz155 => ?_)
                refine gz_s 1 (pc' := 148) (L' := [some (.ref m), some (.int (zi wh)), some (.int (zi nd)), some (.int (zi 1)), some (.int (zi z89)), some (.int (zi zq101)), none, none]) (S' := [.ref m, .int (zi z155), .int (zi nd), .ref c153]) rfl ?_
                refine gs_gtk rfl (by decide) rfl sh142.1 tm rfl rfl ec153 ?_
                refine gz_s 1 (pc' := 153) (L' := [some (.ref m), some (.int (zi wh)), some (.int (zi nd)), some (.int (zi 1)), some (.int (zi z89)), some (.int (zi zq101)), none, none]) (S' := [.int (zi zq101), .ref c153, .int (zi z155), .int (zi nd), .ref c153]) rfl ?_
                have hl156 : 514 ≤ h142.2.2.2.1 c153 ∧ h142.2.2.2.1 c153 ≤ 514 := gJ.rowl (G := gGG) sh142.1 tc153 rfl
                refine gs_ald rfl (by decide) sh142.1 tc153 rfl rfl rfl (by decide) (fun _ => rfl) (by omega) (by omega) (fun z157 ez157 az157 bz157 => ?_)
                by_cases hc158 : (z155 : Int) ≤ z157
                · refine gy_icT (pc' := 167) rfl (by decide) (by decide) (by omega) (by omega) hc158 ?_
                  refine gz_s 1 (pc' := 168) (L' := [some (.ref m), some (.int (zi wh)), some (.int (zi nd)), some (.int (zi 1)), some (.int (zi z89)), some (.int (zi zq101)), none, none]) (S' := [.ref m, .int (zi nd), .ref c153]) rfl ?_
                  refine gs_gtk rfl (by decide) rfl sh142.1 tm rfl rfl ec153 ?_
                  refine gz_s 1 (pc' := 173) (L' := [some (.ref m), some (.int (zi wh)), some (.int (zi nd)), some (.int (zi 1)), some (.int (zi z89)), some (.int (zi zq101)), none, none]) (S' := [.int (zi zq101), .ref c153, .int (zi nd), .ref c153]) rfl ?_
                  have hl159 : 514 ≤ h142.2.2.2.1 c153 ∧ h142.2.2.2.1 c153 ≤ 514 := gJ.rowl (G := gGG) sh142.1 tc153 rfl
                  refine gs_ald rfl (by decide) sh142.1 tc153 rfl rfl rfl (by decide) (fun _ => rfl) (by omega) (by omega) (fun z160 ez160 az160 bz160 => ?_)
                  have hl161 : 514 ≤ h142.2.2.2.1 c153 ∧ h142.2.2.2.1 c153 ≤ 514 := gJ.rowl (G := gGG) sh142.1 tc153 rfl
                  refine gs_ast rfl (by decide) sh142 tc153 rfl rfl rfl (by decide) (fun _ => rfl) (by omega) (by omega) (fun _ => (by decide : (40999 : Nat) ∈ ([37999, 38999, 39999, 40999, 41999] : List Nat))) (by omega) (by omega) (fun h162 sh162 eh162 fh162 => ?_)
                  have pr163 := gOf.pt fh162 tc153 (by decide) pr143
                  have pr164 := gO1.pt fh162 tc153 (by decide) pr144
                  have pr165 := gRow.pt fh162 tc153 (by decide) pr145
                  have pr166 := gRow.pt fh162 tc153 (by decide) pr146
                  have pr167 := gRow.pt fh162 tc153 (by decide) pr147
                  have pr168 := gEl.pt fh162 tc153 (by decide) pr148
                  have pr169 := gEl.pt fh162 tc153 (by decide) pr152
                  have s170 := (fh162 m 68 (fun q => absurd (((tm).symm.trans (congrArg ty q.1)).trans tc153) (by decide))).trans s149
                  have s171 := (fh162 m 71 (fun q => absurd (((tm).symm.trans (congrArg ty q.1)).trans tc153) (by decide))).trans s150
                  have s172 := (fh162 m 73 (fun q => absurd (((tm).symm.trans (congrArg ty q.1)).trans tc153) (by decide))).trans s151
                  have s173 := (fh162 m 72 (fun q => absurd (((tm).symm.trans (congrArg ty q.1)).trans tc153) (by decide))).trans ec153
                  have pr174 := gEl.set (i := nd) (z := z160) uq tc153 (by decide) eh162 (by omega) (by omega)
                  have htr175 : gTree ty (nd + 1) h162 := ⟨_, _, pr166, pr167, hj.2.2⟩
                  refine gy_s 2 (pc' := 189) (L' := [some (.ref m), some (.int (zi wh)), some (.int ((zi nd) + zi 1)), some (.int (zi 1)), some (.int (zi z89)), some (.int (zi zq101)), none, none]) (S' := []) (L2 := [some (.ref m), some (.int (zi wh)), some (.int (zi (nd + 1))), some (.int (zi 1)), some (.int (zi z89)), some (.int (zi zq101)), none, none]) (S2 := []) rfl (by simp only [zi_add, zi_sub, zi_mul, zi_neg, zi_and1, zi_and7, zi_and15, zi_and31, zi_and255]) (by simp only [zi_add, zi_sub, zi_mul, zi_neg, zi_and1, zi_and7, zi_and15, zi_and31, zi_and255]) ?_
                  refine gz_s 1 (pc' := 64) (L' := [some (.ref m), some (.int (zi wh)), some (.int (zi (nd + 1))), some (.int (zi 1)), some (.int (zi z89)), some (.int (zi zq101)), none, none]) (S' := []) rfl ?_
                  exact gz_wk (ihlp8 h162 (nd + 1) 1 (by omega) sh162 (by omega) (by omega) s170 s171 s172 pr163 pr164 pr165 htr175) (gLw.s (gLw.s (gLw.s (gLw.s (gLw.n (gLw.n (gLw.n (gLw.n gLw.z))))))))
                · refine gy_icF rfl (by decide) (by decide) (by omega) (by omega) hc158 ?_
                  refine gz_s 1 (pc' := 158) (L' := [some (.ref m), some (.int (zi wh)), some (.int (zi nd)), some (.int (zi 1)), some (.int (zi z89)), some (.int (zi zq101)), none, none]) (S' := [.ref m, .int (zi nd), .ref c153]) rfl ?_
                  refine gs_gtk rfl (by decide) rfl sh142.1 tm rfl rfl ec153 ?_
                  refine gz_s 1 (pc' := 163) (L' := [some (.ref m), some (.int (zi wh)), some (.int (zi nd)), some (.int (zi 1)), some (.int (zi z89)), some (.int (zi zq101)), none, none]) (S' := [.int (zi z89), .ref c153, .int (zi nd), .ref c153]) rfl ?_
                  have hl176 : 514 ≤ h142.2.2.2.1 c153 ∧ h142.2.2.2.1 c153 ≤ 514 := gJ.rowl (G := gGG) sh142.1 tc153 rfl
                  refine gs_ald rfl (by decide) sh142.1 tc153 rfl rfl rfl (by decide) (fun _ => rfl) (by omega) (by omega) (fun z177 ez177 az177 bz177 => ?_)
                  refine gz_s 1 (pc' := 174) (L' := [some (.ref m), some (.int (zi wh)), some (.int (zi nd)), some (.int (zi 1)), some (.int (zi z89)), some (.int (zi zq101)), none, none]) (S' := [.int (zi z177), .int (zi nd), .ref c153]) rfl ?_
                  have hl178 : 514 ≤ h142.2.2.2.1 c153 ∧ h142.2.2.2.1 c153 ≤ 514 := gJ.rowl (G := gGG) sh142.1 tc153 rfl
                  refine gs_ast rfl (by decide) sh142 tc153 rfl rfl rfl (by decide) (fun _ => rfl) (by omega) (by omega) (fun _ => (by decide : (40999 : Nat) ∈ ([37999, 38999, 39999, 40999, 41999] : List Nat))) (by omega) (by omega) (fun h179 sh179 eh179 fh179 => ?_)
                  have pr180 := gOf.pt fh179 tc153 (by decide) pr143
                  have pr181 := gO1.pt fh179 tc153 (by decide) pr144
                  have pr182 := gRow.pt fh179 tc153 (by decide) pr145
                  have pr183 := gRow.pt fh179 tc153 (by decide) pr146
                  have pr184 := gRow.pt fh179 tc153 (by decide) pr147
                  have pr185 := gEl.pt fh179 tc153 (by decide) pr148
                  have pr186 := gEl.pt fh179 tc153 (by decide) pr152
                  have s187 := (fh179 m 68 (fun q => absurd (((tm).symm.trans (congrArg ty q.1)).trans tc153) (by decide))).trans s149
                  have s188 := (fh179 m 71 (fun q => absurd (((tm).symm.trans (congrArg ty q.1)).trans tc153) (by decide))).trans s150
                  have s189 := (fh179 m 73 (fun q => absurd (((tm).symm.trans (congrArg ty q.1)).trans tc153) (by decide))).trans s151
                  have s190 := (fh179 m 72 (fun q => absurd (((tm).symm.trans (congrArg ty q.1)).trans tc153) (by decide))).trans ec153
                  have pr191 := gEl.set (i := nd) (z := z177) uq tc153 (by decide) eh179 (by omega) (by omega)
                  have htr192 : gTree ty (nd + 1) h179 := ⟨_, _, pr183, pr184, hj.2.2⟩
                  refine gy_s 2 (pc' := 189) (L' := [some (.ref m), some (.int (zi wh)), some (.int ((zi nd) + zi 1)), some (.int (zi 1)), some (.int (zi z89)), some (.int (zi zq101)), none, none]) (S' := []) (L2 := [some (.ref m), some (.int (zi wh)), some (.int (zi (nd + 1))), some (.int (zi 1)), some (.int (zi z89)), some (.int (zi zq101)), none, none]) (S2 := []) rfl (by simp only [zi_add, zi_sub, zi_mul, zi_neg, zi_and1, zi_and7, zi_and15, zi_and31, zi_and255]) (by simp only [zi_add, zi_sub, zi_mul, zi_neg, zi_and1, zi_and7, zi_and15, zi_and31, zi_and255]) ?_
                  refine gz_s 1 (pc' := 64) (L' := [some (.ref m), some (.int (zi wh)), some (.int (zi (nd + 1))), some (.int (zi 1)), some (.int (zi z89)), some (.int (zi zq101)), none, none]) (S' := []) rfl ?_
                  exact gz_wk (ihlp8 h179 (nd + 1) 1 (by omega) sh179 (by omega) (by omega) s187 s188 s189 pr180 pr181 pr182 htr192) (gLw.s (gLw.s (gLw.s (gLw.s (gLw.n (gLw.n (gLw.n (gLw.n gLw.z))))))))
        exact gz_wk (lp8 _ h6 257 1 (Nat.lt_succ_self _) sh6 (by omega) (by omega) lp4k0 lp4k1 lp4k2 lp4k3 lp4k4 lp4k5 htr9) (gLw.s (gLw.s (gLw.s (gLw.s (gLw.n (gLw.n (gLw.n (gLw.n gLw.z))))))))
      · refine gy_icF rfl (by decide) (by decide) (by omega) (by omega) hc7 ?_
        obtain ⟨w9, p9, rw9, rp9, c9⟩ := lp4k6
        refine gz_s 1 (pc' := 14) (L' := [some (.ref m), some (.int (zi wh)), some (.int (zi 257)), some (.int (zi s)), none, none, none, none]) (S' := [.ref m]) rfl ?_
        refine gs_gtk rfl (by decide) rfl sh6.1 tm rfl rfl lp4k1 ?_
        refine gz_s 3 (pc' := 22) (L' := [some (.ref m), some (.int (zi wh)), some (.int (zi 257)), some (.int (zi s)), none, none, none, none]) (S' := [.int (zi 257), .int (zi s), .int (zi s), .ref c2]) rfl ?_
        by_cases hc193 : (257 : Int) ≤ s
        · refine gy_icT (pc' := 40) rfl (by decide) (by decide) (by omega) (by omega) hc193 ?_
          refine gz_s 1 (pc' := 41) (L' := [some (.ref m), some (.int (zi wh)), some (.int (zi 257)), some (.int (zi s)), none, none, none, none]) (S' := [.int (zi 0), .int (zi s), .ref c2]) rfl ?_
          have hl194 : 514 ≤ h6.2.2.2.1 c2 ∧ h6.2.2.2.1 c2 ≤ 514 := gJ.rowl (G := gGG) sh6.1 tc2 rfl
          refine gs_ast rfl (by decide) sh6 tc2 rfl rfl rfl (by decide) (fun _ => rfl) (by omega) (by omega) (fun _ => (by decide : (39999 : Nat) ∈ ([37999, 38999, 39999, 40999, 41999] : List Nat))) (by omega) (by omega) (fun h195 sh195 eh195 fh195 => ?_)
          have pr196 := gOf.pt fh195 tc2 (by decide) lp4k3
          have pr197 := gO1.pt fh195 tc2 (by decide) lp4k4
          have pr198 := gRow.pt fh195 tc2 (by decide) lp4k5
          have pr199 := gRow.put (i := s) (z := 0) uq tc2 (by decide) fh195 eh195 (by omega) (by omega) rw9
          have pr200 := gRow.pt fh195 tc2 (by decide) rp9
          have s201 := (fh195 m 68 (fun q => absurd (((tm).symm.trans (congrArg ty q.1)).trans tc2) (by decide))).trans lp4k0
          have s202 := (fh195 m 71 (fun q => absurd (((tm).symm.trans (congrArg ty q.1)).trans tc2) (by decide))).trans lp4k1
          have s203 := (fh195 m 73 (fun q => absurd (((tm).symm.trans (congrArg ty q.1)).trans tc2) (by decide))).trans lp4k2
          have pr204 := gEl.set (i := s) (z := 0) uq tc2 (by decide) eh195 (by omega) (by omega)
          refine gz_s 1 (pc' := 43) (L' := [some (.ref m), some (.int (zi wh)), some (.int (zi 257)), some (.int (zi s)), none, none, none, none]) (S' := [.ref m]) rfl ?_
          refine gs_gtr rfl (by decide) rfl sh195.1 tm rfl rfl rfl (fun c205 ec205 tc205 => ?_)
          refine gz_s 2 (pc' := 48) (L' := [some (.ref m), some (.int (zi wh)), some (.int (zi 257)), some (.int (zi s)), none, none, none, none]) (S' := [.int (zi s), .int (zi s), .ref c205]) rfl ?_
          have hl206 : 514 ≤ h195.2.2.2.1 c205 ∧ h195.2.2.2.1 c205 ≤ 514 := gJ.rowl (G := gGG) sh195.1 tc205 rfl
          refine gs_ast rfl (by decide) sh195 tc205 rfl rfl rfl (by decide) (fun _ => rfl) (by omega) (by omega) (fun _ => (by decide : (40999 : Nat) ∈ ([37999, 38999, 39999, 40999, 41999] : List Nat))) (by omega) (by omega) (fun h207 sh207 eh207 fh207 => ?_)
          have pr208 := gOf.pt fh207 tc205 (by decide) pr196
          have pr209 := gO1.pt fh207 tc205 (by decide) pr197
          have pr210 := gRow.pt fh207 tc205 (by decide) pr198
          have pr211 := gRow.pt fh207 tc205 (by decide) pr199
          have pr212 := gRow.pt fh207 tc205 (by decide) pr200
          have pr213 := gEl.pt fh207 tc205 (by decide) pr204
          have s214 := (fh207 m 68 (fun q => absurd (((tm).symm.trans (congrArg ty q.1)).trans tc205) (by decide))).trans s201
          have s215 := (fh207 m 71 (fun q => absurd (((tm).symm.trans (congrArg ty q.1)).trans tc205) (by decide))).trans s202
          have s216 := (fh207 m 73 (fun q => absurd (((tm).symm.trans (congrArg ty q.1)).trans tc205) (by decide))).trans s203
          have s217 := (fh207 m 72 (fun q => absurd (((tm).symm.trans (congrArg ty q.1)).trans tc205) (by decide))).trans ec205
          have pr218 := gEl.set (i := s) (z := s) uq tc205 (by decide) eh207 (by omega) (by omega)
          refine gz_s 1 (pc' := 50) (L' := [some (.ref m), some (.int (zi wh)), some (.int (zi 257)), some (.int (zi s)), none, none, none, none]) (S' := [.ref m]) rfl ?_
          refine gs_gtk rfl (by decide) rfl sh207.1 tm rfl rfl s216 ?_
          refine gz_s 2 (pc' := 55) (L' := [some (.ref m), some (.int (zi wh)), some (.int (zi 257)), some (.int (zi s)), none, none, none, none]) (S' := [.int (zi (-1)), .int (zi s), .ref c3]) rfl ?_
          have hl219 : 514 ≤ h207.2.2.2.1 c3 ∧ h207.2.2.2.1 c3 ≤ 514 := gJ.rowl (G := gGG) sh207.1 tc3 rfl
          refine gs_ast rfl (by decide) sh207 tc3 rfl rfl rfl (by decide) (fun _ => rfl) (by omega) (by omega) (fun _ => (by decide : (41999 : Nat) ∈ ([37999, 38999, 39999, 40999, 41999] : List Nat))) (by omega) (by omega) (fun h220 sh220 eh220 fh220 => ?_)
          have pr221 := gOf.pt fh220 tc3 (by decide) pr208
          have pr222 := gO1.pt fh220 tc3 (by decide) pr209
          have pr223 := gRow.pt fh220 tc3 (by decide) pr210
          have pr224 := gRow.pt fh220 tc3 (by decide) pr211
          have pr225 := gRow.put (i := s) (z := (-1)) uq tc3 (by decide) fh220 eh220 (by omega) (by omega) pr212
          have pr226 := gEl.pt fh220 tc3 (by decide) pr213
          have pr227 := gEl.pt fh220 tc3 (by decide) pr218
          have s228 := (fh220 m 68 (fun q => absurd (((tm).symm.trans (congrArg ty q.1)).trans tc3) (by decide))).trans s214
          have s229 := (fh220 m 71 (fun q => absurd (((tm).symm.trans (congrArg ty q.1)).trans tc3) (by decide))).trans s215
          have s230 := (fh220 m 73 (fun q => absurd (((tm).symm.trans (congrArg ty q.1)).trans tc3) (by decide))).trans s216
          have s231 := (fh220 m 72 (fun q => absurd (((tm).symm.trans (congrArg ty q.1)).trans tc3) (by decide))).trans s217
          have pr232 := gEl.set (i := s) (z := (-1)) uq tc3 (by decide) eh220 (by omega) (by omega)
          have hti233 : gTi ty fo (257 * wh) (s + 1) h220 := gTi.step (w := w9) (p := p9) (v := 0) (by omega) pr224 pr225 c9 (by
            exact (if_neg (by omega)).symm)
          refine gy_s 2 (pc' := 6) (L' := [some (.ref m), some (.int (zi wh)), some (.int (zi 257)), some (.int ((zi s) + zi 1)), none, none, none, none]) (S' := []) (L2 := [some (.ref m), some (.int (zi wh)), some (.int (zi 257)), some (.int (zi (s + 1))), none, none, none, none]) (S2 := []) rfl (by simp only [zi_add, zi_sub, zi_mul, zi_neg, zi_and1, zi_and7, zi_and15, zi_and31, zi_and255]) (by simp only [zi_add, zi_sub, zi_mul, zi_neg, zi_and1, zi_and7, zi_and15, zi_and31, zi_and255]) ?_
          exact gz_wk (ihlp4 h220 (s + 1) (by omega) sh220 (by omega) s228 s229 s230 pr221 pr222 pr223 hti233) (gLw.s (gLw.s (gLw.s (gLw.s (gLw.n (gLw.n (gLw.n (gLw.n gLw.z))))))))
        · refine gy_icF rfl (by decide) (by decide) (by omega) (by omega) hc193 ?_
          refine gz_s 1 (pc' := 26) (L' := [some (.ref m), some (.int (zi wh)), some (.int (zi 257)), some (.int (zi s)), none, none, none, none]) (S' := [.ref m, .int (zi s), .ref c2]) rfl ?_
          refine gs_gtk rfl (by decide) rfl sh6.1 tm rfl rfl lp4k0 ?_
          refine gy_s 5 (pc' := 36) (L' := [some (.ref m), some (.int (zi wh)), some (.int (zi 257)), some (.int (zi s)), none, none, none, none]) (S' := [.int (((zi 257) * (zi wh)) + (zi s)), .ref c1, .int (zi s), .ref c2]) (L2 := [some (.ref m), some (.int (zi wh)), some (.int (zi 257)), some (.int (zi s)), none, none, none, none]) (S2 := [.int (zi ((257 * wh) + s)), .ref c1, .int (zi s), .ref c2]) rfl (by simp only [zi_add, zi_sub, zi_mul, zi_neg, zi_and1, zi_and7, zi_and15, zi_and31, zi_and255]) (by simp only [zi_add, zi_sub, zi_mul, zi_neg, zi_and1, zi_and7, zi_and15, zi_and31, zi_and255]) ?_
          have hl234 : 514 ≤ h6.2.2.2.1 c1 ∧ h6.2.2.2.1 c1 ≤ 514 := gJ.rowl (G := gGG) sh6.1 tc1 rfl
          refine gs_ald rfl (by decide) sh6.1 tc1 rfl rfl rfl (by decide) (fun _ => rfl) (by omega) (by omega) (fun z235 ez235 az235 bz235 => ?_)
          have hf236 := gRow.at (i := (257 * wh) + s) (z := z235) lp4k5 tc1 ez235 (by omega) (by omega) (by omega)
          refine gz_s 1 (pc' := 41) (L' := [some (.ref m), some (.int (zi wh)), some (.int (zi 257)), some (.int (zi s)), none, none, none, none]) (S' := [.int (zi z235), .int (zi s), .ref c2]) rfl ?_
          have hl237 : 514 ≤ h6.2.2.2.1 c2 ∧ h6.2.2.2.1 c2 ≤ 514 := gJ.rowl (G := gGG) sh6.1 tc2 rfl
          refine gs_ast rfl (by decide) sh6 tc2 rfl rfl rfl (by decide) (fun _ => rfl) (by omega) (by omega) (fun _ => (by decide : (39999 : Nat) ∈ ([37999, 38999, 39999, 40999, 41999] : List Nat))) (by omega) (by omega) (fun h238 sh238 eh238 fh238 => ?_)
          have pr239 := gOf.pt fh238 tc2 (by decide) lp4k3
          have pr240 := gO1.pt fh238 tc2 (by decide) lp4k4
          have pr241 := gRow.pt fh238 tc2 (by decide) lp4k5
          have pr242 := gRow.put (i := s) (z := z235) uq tc2 (by decide) fh238 eh238 (by omega) (by omega) rw9
          have pr243 := gRow.pt fh238 tc2 (by decide) rp9
          have s244 := (fh238 m 68 (fun q => absurd (((tm).symm.trans (congrArg ty q.1)).trans tc2) (by decide))).trans lp4k0
          have s245 := (fh238 m 71 (fun q => absurd (((tm).symm.trans (congrArg ty q.1)).trans tc2) (by decide))).trans lp4k1
          have s246 := (fh238 m 73 (fun q => absurd (((tm).symm.trans (congrArg ty q.1)).trans tc2) (by decide))).trans lp4k2
          have pr247 := gEl.set (i := s) (z := z235) uq tc2 (by decide) eh238 (by omega) (by omega)
          refine gz_s 1 (pc' := 43) (L' := [some (.ref m), some (.int (zi wh)), some (.int (zi 257)), some (.int (zi s)), none, none, none, none]) (S' := [.ref m]) rfl ?_
          refine gs_gtr rfl (by decide) rfl sh238.1 tm rfl rfl rfl (fun c248 ec248 tc248 => ?_)
          refine gz_s 2 (pc' := 48) (L' := [some (.ref m), some (.int (zi wh)), some (.int (zi 257)), some (.int (zi s)), none, none, none, none]) (S' := [.int (zi s), .int (zi s), .ref c248]) rfl ?_
          have hl249 : 514 ≤ h238.2.2.2.1 c248 ∧ h238.2.2.2.1 c248 ≤ 514 := gJ.rowl (G := gGG) sh238.1 tc248 rfl
          refine gs_ast rfl (by decide) sh238 tc248 rfl rfl rfl (by decide) (fun _ => rfl) (by omega) (by omega) (fun _ => (by decide : (40999 : Nat) ∈ ([37999, 38999, 39999, 40999, 41999] : List Nat))) (by omega) (by omega) (fun h250 sh250 eh250 fh250 => ?_)
          have pr251 := gOf.pt fh250 tc248 (by decide) pr239
          have pr252 := gO1.pt fh250 tc248 (by decide) pr240
          have pr253 := gRow.pt fh250 tc248 (by decide) pr241
          have pr254 := gRow.pt fh250 tc248 (by decide) pr242
          have pr255 := gRow.pt fh250 tc248 (by decide) pr243
          have pr256 := gEl.pt fh250 tc248 (by decide) pr247
          have s257 := (fh250 m 68 (fun q => absurd (((tm).symm.trans (congrArg ty q.1)).trans tc248) (by decide))).trans s244
          have s258 := (fh250 m 71 (fun q => absurd (((tm).symm.trans (congrArg ty q.1)).trans tc248) (by decide))).trans s245
          have s259 := (fh250 m 73 (fun q => absurd (((tm).symm.trans (congrArg ty q.1)).trans tc248) (by decide))).trans s246
          have s260 := (fh250 m 72 (fun q => absurd (((tm).symm.trans (congrArg ty q.1)).trans tc248) (by decide))).trans ec248
          have pr261 := gEl.set (i := s) (z := s) uq tc248 (by decide) eh250 (by omega) (by omega)
          refine gz_s 1 (pc' := 50) (L' := [some (.ref m), some (.int (zi wh)), some (.int (zi 257)), some (.int (zi s)), none, none, none, none]) (S' := [.ref m]) rfl ?_
          refine gs_gtk rfl (by decide) rfl sh250.1 tm rfl rfl s259 ?_
          refine gz_s 2 (pc' := 55) (L' := [some (.ref m), some (.int (zi wh)), some (.int (zi 257)), some (.int (zi s)), none, none, none, none]) (S' := [.int (zi (-1)), .int (zi s), .ref c3]) rfl ?_
          have hl262 : 514 ≤ h250.2.2.2.1 c3 ∧ h250.2.2.2.1 c3 ≤ 514 := gJ.rowl (G := gGG) sh250.1 tc3 rfl
          refine gs_ast rfl (by decide) sh250 tc3 rfl rfl rfl (by decide) (fun _ => rfl) (by omega) (by omega) (fun _ => (by decide : (41999 : Nat) ∈ ([37999, 38999, 39999, 40999, 41999] : List Nat))) (by omega) (by omega) (fun h263 sh263 eh263 fh263 => ?_)
          have pr264 := gOf.pt fh263 tc3 (by decide) pr251
          have pr265 := gO1.pt fh263 tc3 (by decide) pr252
          have pr266 := gRow.pt fh263 tc3 (by decide) pr253
          have pr267 := gRow.pt fh263 tc3 (by decide) pr254
          have pr268 := gRow.put (i := s) (z := (-1)) uq tc3 (by decide) fh263 eh263 (by omega) (by omega) pr255
          have pr269 := gEl.pt fh263 tc3 (by decide) pr256
          have pr270 := gEl.pt fh263 tc3 (by decide) pr261
          have s271 := (fh263 m 68 (fun q => absurd (((tm).symm.trans (congrArg ty q.1)).trans tc3) (by decide))).trans s257
          have s272 := (fh263 m 71 (fun q => absurd (((tm).symm.trans (congrArg ty q.1)).trans tc3) (by decide))).trans s258
          have s273 := (fh263 m 73 (fun q => absurd (((tm).symm.trans (congrArg ty q.1)).trans tc3) (by decide))).trans s259
          have s274 := (fh263 m 72 (fun q => absurd (((tm).symm.trans (congrArg ty q.1)).trans tc3) (by decide))).trans s260
          have pr275 := gEl.set (i := s) (z := (-1)) uq tc3 (by decide) eh263 (by omega) (by omega)
          have hti276 : gTi ty fo (257 * wh) (s + 1) h263 := gTi.step (w := w9) (p := p9) (v := z235) (by omega) pr267 pr268 c9 (by
            rw [← hf236]
            show _ = (if _ then _ else _)
            rw [if_pos (by omega)]
            congr 1
            omega)
          refine gy_s 2 (pc' := 6) (L' := [some (.ref m), some (.int (zi wh)), some (.int (zi 257)), some (.int ((zi s) + zi 1)), none, none, none, none]) (S' := []) (L2 := [some (.ref m), some (.int (zi wh)), some (.int (zi 257)), some (.int (zi (s + 1))), none, none, none, none]) (S2 := []) rfl (by simp only [zi_add, zi_sub, zi_mul, zi_neg, zi_and1, zi_and7, zi_and15, zi_and31, zi_and255]) (by simp only [zi_add, zi_sub, zi_mul, zi_neg, zi_and1, zi_and7, zi_and15, zi_and31, zi_and255]) ?_
          exact gz_wk (ihlp4 h263 (s + 1) (by omega) sh263 (by omega) s271 s272 s273 pr264 pr265 pr266 hti276) (gLw.s (gLw.s (gLw.s (gLw.s (gLw.n (gLw.n (gLw.n (gLw.n gLw.z))))))))
  exact gz_wk (lp4 _ h 0 (Nat.lt_succ_self _) hS (by omega) ec1 ec2 ec3 hyof hyo1 ro hti5) (gLw.s (gLw.s (gLw.s (gLw.s (gLw.n (gLw.n (gLw.n (gLw.n gLw.z))))))))
