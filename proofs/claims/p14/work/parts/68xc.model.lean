/-! ===== the encoder of the reference (by program) ===== -/
set_option maxRecDepth 20000 in
set_option maxHeartbeats 4000000 in
theorem mw_leastNode (d : Nat) {ty : Nat → Nat} {h : gH} (hJ : gJ rT 1027 ty h) (m : Nat) (tm : ty m = 1) (nd : Int) (rnd : 0 ≤ nd ∧ nd ≤ 513) (wt gr pa : Nat → Int) (uq : gUq ty) (hyf39 : gRn 514 ty 39 wt h) (hyf40 : gRn 514 ty 40 gr h) (hyf41 : gRn 514 ty 41 pa h) : gz gPP gGG gcn (d + 0) gt202 0 (gent [.ref m, .int (zi nd)] 5) [] h (fun q _ => gSs rT 1027 ty [] h q.2.2 ∧ ∃ z : Int, gfin gt202 q.1 q.2.1 = some (some (.int (zi z))) ∧ (-1) ≤ z ∧ z ≤ 512 ∧ (z < nd) ∧ (z = emL wt gr pa nd.toNat)) := by
  have hS : gSs rT 1027 ty [] h h := gSs.rf hJ
  refine gz_s 4 (pc' := 4) (L' := [some (.ref m), some (.int (zi nd)), some (.int (zi (-1))), some (.int (zi 0)), none]) (S' := []) rfl ?_
  have lp1 : ∀ (fu : Nat) (h2 : gH) (bt : Int) (k : Int), (514 - k).toNat < fu → gSs rT 1027 ty [] h h2 → ((-1) ≤ bt ∧ bt ≤ 512) → (0 ≤ k ∧ k ≤ 513) → (bt < k) → (k ≤ nd) → (bt = emL wt gr pa (k).toNat) → gRn 514 ty 39 wt h2 → gRn 514 ty 40 gr h2 → gRn 514 ty 41 pa h2 → gz gPP gGG gcn (d + 0) gt202 4 [some (.ref m), some (.int (zi nd)), some (.int (zi bt)), some (.int (zi k)), none] [] h2 (fun q _ => gSs rT 1027 ty [] h q.2.2 ∧ ∃ z : Int, gfin gt202 q.1 q.2.1 = some (some (.int (zi z))) ∧ (-1) ≤ z ∧ z ≤ 512 ∧ (z < nd) ∧ (z = emL wt gr pa nd.toNat)) := by
    intro fu
    induction fu with
    | zero => intro h2 bt k hm; exact absurd hm (Nat.not_lt_zero _)
    | succ fu ihlp1 =>
      intro h2 bt k lp1m sh2 lp1f0 lp1f1 lp1f2 lp1f3 lp1f4 lp1k0 lp1k1 lp1k2
      refine gz_s 2 (pc' := 6) (L' := [some (.ref m), some (.int (zi nd)), some (.int (zi bt)), some (.int (zi k)), none]) (S' := [.int (zi nd), .int (zi k)]) rfl ?_
      by_cases hc3 : (nd : Int) ≤ k
      · refine gy_icT (pc' := 98) rfl (by decide) (by decide) (by omega) (by omega) hc3 ?_
        have hend : emL wt gr pa (k).toNat = emL wt gr pa nd.toNat := by rw [show k = nd by omega]
        refine gz_s 1 (pc' := 99) (L' := [some (.ref m), some (.int (zi nd)), some (.int (zi bt)), some (.int (zi k)), none]) (S' := [.int (zi bt)]) rfl ?_
        exact gz_end (I := .ireturn) (len := 1) rfl (Or.inl rfl) ⟨sh2, bt, rfl, (by omega), (by omega), (by omega), (by omega)⟩
      · refine gy_icF rfl (by decide) (by decide) (by omega) (by omega) hc3 ?_
        refine gz_s 1 (pc' := 10) (L' := [some (.ref m), some (.int (zi nd)), some (.int (zi bt)), some (.int (zi k)), none]) (S' := [.ref m]) rfl ?_
        refine gs_gtr rfl (by decide) rfl sh2.1 tm rfl rfl rfl (fun c4 ec4 tc4 => ?_)
        refine gz_s 1 (pc' := 14) (L' := [some (.ref m), some (.int (zi nd)), some (.int (zi bt)), some (.int (zi k)), none]) (S' := [.int (zi k), .ref c4]) rfl ?_
        have hl5 : 514 ≤ h2.2.2.2.1 c4 ∧ h2.2.2.2.1 c4 ≤ 514 := gJ.rowl (G := gGG) sh2.1 tc4 rfl
        refine gs_ald rfl (by decide) sh2.1 tc4 rfl rfl rfl (by decide) (fun _ => rfl) (by omega) (by omega) (fun z6 ez6 az6 bz6 => ?_)
        have hf7 := gRn.at (i := k) (z := z6) lp1k0 tc4 ez6 (by omega) (by omega) (by omega)
        have jn8 : ∀ (jn8v0 : Int), ((0 ≤ jn8v0) ∧ (jn8v0 ≤ 1) ∧ (jn8v0 = 1 → (0 < wt (k).toNat ∧ pa (k).toNat = -1)) ∧ (jn8v0 = 0 → (wt (k).toNat ≤ 0 ∨ ¬ pa (k).toNat = -1))) → gz gPP gGG gcn (d + 0) gt202 33 [some (.ref m), some (.int (zi nd)), some (.int (zi bt)), some (.int (zi k)), none] [.int (zi jn8v0)] h2 (fun q _ => gSs rT 1027 ty [] h q.2.2 ∧ ∃ z : Int, gfin gt202 q.1 q.2.1 = some (some (.int (zi z))) ∧ (-1) ≤ z ∧ z ≤ 512 ∧ (z < nd) ∧ (z = emL wt gr pa nd.toNat)) := by
          intro jn8v0 jn8d
          refine gz_s 2 (pc' := 37) (L' := [some (.ref m), some (.int (zi nd)), some (.int (zi bt)), some (.int (zi k)), some (.int (zi jn8v0))]) (S' := [.int (zi jn8v0)]) rfl ?_
          by_cases hc9 : (jn8v0 : Int) = 0
          · refine gy_ifT (pc' := 92) rfl (by decide) (by decide) (by omega) hc9 ?_
            have hst := emL_st (wt := wt) (gr := gr) (pa := pa) (k := k) (bt := bt) (by omega) (by omega)
            rw [if_neg (by omega)] at hst
            refine gy_s 2 (pc' := 4) (L' := [some (.ref m), some (.int (zi nd)), some (.int (zi bt)), some (.int ((zi k) + zi 1)), some (.int (zi jn8v0))]) (S' := []) (L2 := [some (.ref m), some (.int (zi nd)), some (.int (zi bt)), some (.int (zi (k + 1))), some (.int (zi jn8v0))]) (S2 := []) rfl (by simp only [zi_add, zi_sub, zi_mul, zi_neg, zi_and1, zi_and7, zi_and15, zi_and31, zi_and255]) (by simp only [zi_add, zi_sub, zi_mul, zi_neg, zi_and1, zi_and7, zi_and15, zi_and31, zi_and255]) ?_
            exact gz_wk (ihlp1 h2 bt (k + 1) (by omega) sh2 (by omega) (by omega) (by omega) (by omega) (by omega) lp1k0 lp1k1 lp1k2) (gLw.s (gLw.s (gLw.s (gLw.s (gLw.n gLw.z)))))
          · refine gy_ifF rfl (by decide) (by decide) (by omega) hc9 ?_
            refine gz_s 2 (pc' := 42) (L' := [some (.ref m), some (.int (zi nd)), some (.int (zi bt)), some (.int (zi k)), some (.int (zi jn8v0))]) (S' := [.int (zi (-1)), .int (zi bt)]) rfl ?_
            by_cases hc10 : (bt : Int) = (-1)
            · refine gy_icT (pc' := 90) rfl (by decide) (by decide) (by omega) (by omega) hc10 ?_
              refine gz_s 2 (pc' := 92) (L' := [some (.ref m), some (.int (zi nd)), some (.int (zi k)), some (.int (zi k)), some (.int (zi jn8v0))]) (S' := []) rfl ?_
              have hst := emL_st (wt := wt) (gr := gr) (pa := pa) (k := k) (bt := bt) (by omega) (by omega)
              rw [if_pos ⟨⟨by omega, by omega⟩, by omega⟩] at hst
              refine gy_s 2 (pc' := 4) (L' := [some (.ref m), some (.int (zi nd)), some (.int (zi k)), some (.int ((zi k) + zi 1)), some (.int (zi jn8v0))]) (S' := []) (L2 := [some (.ref m), some (.int (zi nd)), some (.int (zi k)), some (.int (zi (k + 1))), some (.int (zi jn8v0))]) (S2 := []) rfl (by simp only [zi_add, zi_sub, zi_mul, zi_neg, zi_and1, zi_and7, zi_and15, zi_and31, zi_and255]) (by simp only [zi_add, zi_sub, zi_mul, zi_neg, zi_and1, zi_and7, zi_and15, zi_and31, zi_and255]) ?_
              exact gz_wk (ihlp1 h2 k (k + 1) (by omega) sh2 (by omega) (by omega) (by omega) (by omega) (by omega) lp1k0 lp1k1 lp1k2) (gLw.s (gLw.s (gLw.s (gLw.s (gLw.n gLw.z)))))
            · refine gy_icF rfl (by decide) (by decide) (by omega) (by omega) hc10 ?_
              refine gz_s 1 (pc' := 46) (L' := [some (.ref m), some (.int (zi nd)), some (.int (zi bt)), some (.int (zi k)), some (.int (zi jn8v0))]) (S' := [.ref m]) rfl ?_
              refine gs_gtk rfl (by decide) rfl sh2.1 tm rfl rfl ec4 ?_
              refine gz_s 1 (pc' := 50) (L' := [some (.ref m), some (.int (zi nd)), some (.int (zi bt)), some (.int (zi k)), some (.int (zi jn8v0))]) (S' := [.int (zi k), .ref c4]) rfl ?_
              have hl11 : 514 ≤ h2.2.2.2.1 c4 ∧ h2.2.2.2.1 c4 ≤ 514 := gJ.rowl (G := gGG) sh2.1 tc4 rfl
              refine gs_ald rfl (by decide) sh2.1 tc4 rfl rfl rfl (by decide) (fun _ => rfl) (by omega) (by omega) (fun z12 ez12 az12 bz12 => ?_)
              have hf13 := gRn.at (i := k) (z := z12) lp1k0 tc4 ez12 (by omega) (by omega) (by omega)
              refine gz_s 1 (pc' := 52) (L' := [some (.ref m), some (.int (zi nd)), some (.int (zi bt)), some (.int (zi k)), some (.int (zi jn8v0))]) (S' := [.ref m, .int (zi z12)]) rfl ?_
              refine gs_gtk rfl (by decide) rfl sh2.1 tm rfl rfl ec4 ?_
              refine gz_s 1 (pc' := 56) (L' := [some (.ref m), some (.int (zi nd)), some (.int (zi bt)), some (.int (zi k)), some (.int (zi jn8v0))]) (S' := [.int (zi bt), .ref c4, .int (zi z12)]) rfl ?_
              have hl14 : 514 ≤ h2.2.2.2.1 c4 ∧ h2.2.2.2.1 c4 ≤ 514 := gJ.rowl (G := gGG) sh2.1 tc4 rfl
              refine gs_ald rfl (by decide) sh2.1 tc4 rfl rfl rfl (by decide) (fun _ => rfl) (by omega) (by omega) (fun z15 ez15 az15 bz15 => ?_)
              have hf16 := gRn.at (i := bt) (z := z15) lp1k0 tc4 ez15 (by omega) (by omega) (by omega)
              by_cases hc17 : (z12 : Int) < z15
              · refine gy_icT (pc' := 90) rfl (by decide) (by decide) (by omega) (by omega) hc17 ?_
                refine gz_s 2 (pc' := 92) (L' := [some (.ref m), some (.int (zi nd)), some (.int (zi k)), some (.int (zi k)), some (.int (zi jn8v0))]) (S' := []) rfl ?_
                have hst := emL_st (wt := wt) (gr := gr) (pa := pa) (k := k) (bt := bt) (by omega) (by omega)
                rw [if_pos ⟨⟨by omega, by omega⟩, by omega⟩] at hst
                refine gy_s 2 (pc' := 4) (L' := [some (.ref m), some (.int (zi nd)), some (.int (zi k)), some (.int ((zi k) + zi 1)), some (.int (zi jn8v0))]) (S' := []) (L2 := [some (.ref m), some (.int (zi nd)), some (.int (zi k)), some (.int (zi (k + 1))), some (.int (zi jn8v0))]) (S2 := []) rfl (by simp only [zi_add, zi_sub, zi_mul, zi_neg, zi_and1, zi_and7, zi_and15, zi_and31, zi_and255]) (by simp only [zi_add, zi_sub, zi_mul, zi_neg, zi_and1, zi_and7, zi_and15, zi_and31, zi_and255]) ?_
                exact gz_wk (ihlp1 h2 k (k + 1) (by omega) sh2 (by omega) (by omega) (by omega) (by omega) (by omega) lp1k0 lp1k1 lp1k2) (gLw.s (gLw.s (gLw.s (gLw.s (gLw.n gLw.z)))))
              · refine gy_icF rfl (by decide) (by decide) (by omega) (by omega) hc17 ?_
                refine gz_s 1 (pc' := 61) (L' := [some (.ref m), some (.int (zi nd)), some (.int (zi bt)), some (.int (zi k)), some (.int (zi jn8v0))]) (S' := [.ref m]) rfl ?_
                refine gs_gtk rfl (by decide) rfl sh2.1 tm rfl rfl ec4 ?_
                refine gz_s 1 (pc' := 65) (L' := [some (.ref m), some (.int (zi nd)), some (.int (zi bt)), some (.int (zi k)), some (.int (zi jn8v0))]) (S' := [.int (zi k), .ref c4]) rfl ?_
                have hl18 : 514 ≤ h2.2.2.2.1 c4 ∧ h2.2.2.2.1 c4 ≤ 514 := gJ.rowl (G := gGG) sh2.1 tc4 rfl
                refine gs_ald rfl (by decide) sh2.1 tc4 rfl rfl rfl (by decide) (fun _ => rfl) (by omega) (by omega) (fun z19 ez19 az19 bz19 => ?_)
                have hf20 := gRn.at (i := k) (z := z19) lp1k0 tc4 ez19 (by omega) (by omega) (by omega)
                refine gz_s 1 (pc' := 67) (L' := [some (.ref m), some (.int (zi nd)), some (.int (zi bt)), some (.int (zi k)), some (.int (zi jn8v0))]) (S' := [.ref m, .int (zi z19)]) rfl ?_
                refine gs_gtk rfl (by decide) rfl sh2.1 tm rfl rfl ec4 ?_
                refine gz_s 1 (pc' := 71) (L' := [some (.ref m), some (.int (zi nd)), some (.int (zi bt)), some (.int (zi k)), some (.int (zi jn8v0))]) (S' := [.int (zi bt), .ref c4, .int (zi z19)]) rfl ?_
                have hl21 : 514 ≤ h2.2.2.2.1 c4 ∧ h2.2.2.2.1 c4 ≤ 514 := gJ.rowl (G := gGG) sh2.1 tc4 rfl
                refine gs_ald rfl (by decide) sh2.1 tc4 rfl rfl rfl (by decide) (fun _ => rfl) (by omega) (by omega) (fun z22 ez22 az22 bz22 => ?_)
                have hf23 := gRn.at (i := bt) (z := z22) lp1k0 tc4 ez22 (by omega) (by omega) (by omega)
                by_cases hc24 : ¬ (z19 : Int) = z22
                · refine gy_icT (pc' := 92) rfl (by decide) (by decide) (by omega) (by omega) hc24 ?_
                  have hst := emL_st (wt := wt) (gr := gr) (pa := pa) (k := k) (bt := bt) (by omega) (by omega)
                  rw [if_neg (by omega)] at hst
                  refine gy_s 2 (pc' := 4) (L' := [some (.ref m), some (.int (zi nd)), some (.int (zi bt)), some (.int ((zi k) + zi 1)), some (.int (zi jn8v0))]) (S' := []) (L2 := [some (.ref m), some (.int (zi nd)), some (.int (zi bt)), some (.int (zi (k + 1))), some (.int (zi jn8v0))]) (S2 := []) rfl (by simp only [zi_add, zi_sub, zi_mul, zi_neg, zi_and1, zi_and7, zi_and15, zi_and31, zi_and255]) (by simp only [zi_add, zi_sub, zi_mul, zi_neg, zi_and1, zi_and7, zi_and15, zi_and31, zi_and255]) ?_
                  exact gz_wk (ihlp1 h2 bt (k + 1) (by omega) sh2 (by omega) (by omega) (by omega) (by omega) (by omega) lp1k0 lp1k1 lp1k2) (gLw.s (gLw.s (gLw.s (gLw.s (gLw.n gLw.z)))))
                · refine gy_icF rfl (by decide) (by decide) (by omega) (by omega) hc24 ?_
                  refine gz_s 1 (pc' := 76) (L' := [some (.ref m), some (.int (zi nd)), some (.int (zi bt)), some (.int (zi k)), some (.int (zi jn8v0))]) (S' := [.ref m]) rfl ?_
                  refine gs_gtr rfl (by decide) rfl sh2.1 tm rfl rfl rfl (fun c25 ec25 tc25 => ?_)
                  refine gz_s 1 (pc' := 80) (L' := [some (.ref m), some (.int (zi nd)), some (.int (zi bt)), some (.int (zi k)), some (.int (zi jn8v0))]) (S' := [.int (zi k), .ref c25]) rfl ?_
                  have hl26 : 514 ≤ h2.2.2.2.1 c25 ∧ h2.2.2.2.1 c25 ≤ 514 := gJ.rowl (G := gGG) sh2.1 tc25 rfl
                  refine gs_ald rfl (by decide) sh2.1 tc25 rfl rfl rfl (by decide) (fun _ => rfl) (by omega) (by omega) (fun z27 ez27 az27 bz27 => ?_)
                  have hf28 := gRn.at (i := k) (z := z27) lp1k1 tc25 ez27 (by omega) (by omega) (by omega)
                  refine gz_s 1 (pc' := 82) (L' := [some (.ref m), some (.int (zi nd)), some (.int (zi bt)), some (.int (zi k)), some (.int (zi jn8v0))]) (S' := [.ref m, .int (zi z27)]) rfl ?_
                  refine gs_gtk rfl (by decide) rfl sh2.1 tm rfl rfl ec25 ?_
                  refine gz_s 1 (pc' := 86) (L' := [some (.ref m), some (.int (zi nd)), some (.int (zi bt)), some (.int (zi k)), some (.int (zi jn8v0))]) (S' := [.int (zi bt), .ref c25, .int (zi z27)]) rfl ?_
                  have hl29 : 514 ≤ h2.2.2.2.1 c25 ∧ h2.2.2.2.1 c25 ≤ 514 := gJ.rowl (G := gGG) sh2.1 tc25 rfl
                  refine gs_ald rfl (by decide) sh2.1 tc25 rfl rfl rfl (by decide) (fun _ => rfl) (by omega) (by omega) (fun z30 ez30 az30 bz30 => ?_)
                  have hf31 := gRn.at (i := bt) (z := z30) lp1k1 tc25 ez30 (by omega) (by omega) (by omega)
                  by_cases hc32 : (z27 : Int) ≤ z30
                  · refine gy_icT (pc' := 92) rfl (by decide) (by decide) (by omega) (by omega) hc32 ?_
                    have hst := emL_st (wt := wt) (gr := gr) (pa := pa) (k := k) (bt := bt) (by omega) (by omega)
                    rw [if_neg (by omega)] at hst
                    refine gy_s 2 (pc' := 4) (L' := [some (.ref m), some (.int (zi nd)), some (.int (zi bt)), some (.int ((zi k) + zi 1)), some (.int (zi jn8v0))]) (S' := []) (L2 := [some (.ref m), some (.int (zi nd)), some (.int (zi bt)), some (.int (zi (k + 1))), some (.int (zi jn8v0))]) (S2 := []) rfl (by simp only [zi_add, zi_sub, zi_mul, zi_neg, zi_and1, zi_and7, zi_and15, zi_and31, zi_and255]) (by simp only [zi_add, zi_sub, zi_mul, zi_neg, zi_and1, zi_and7, zi_and15, zi_and31, zi_and255]) ?_
                    exact gz_wk (ihlp1 h2 bt (k + 1) (by omega) sh2 (by omega) (by omega) (by omega) (by omega) (by omega) lp1k0 lp1k1 lp1k2) (gLw.s (gLw.s (gLw.s (gLw.s (gLw.n gLw.z)))))
                  · refine gy_icF rfl (by decide) (by decide) (by omega) (by omega) hc32 ?_
                    refine gz_s 2 (pc' := 92) (L' := [some (.ref m), some (.int (zi nd)), some (.int (zi k)), some (.int (zi k)), some (.int (zi jn8v0))]) (S' := []) rfl ?_
                    have hst := emL_st (wt := wt) (gr := gr) (pa := pa) (k := k) (bt := bt) (by omega) (by omega)
                    rw [if_pos ⟨⟨by omega, by omega⟩, by omega⟩] at hst
                    refine gy_s 2 (pc' := 4) (L' := [some (.ref m), some (.int (zi nd)), some (.int (zi k)), some (.int ((zi k) + zi 1)), some (.int (zi jn8v0))]) (S' := []) (L2 := [some (.ref m), some (.int (zi nd)), some (.int (zi k)), some (.int (zi (k + 1))), some (.int (zi jn8v0))]) (S2 := []) rfl (by simp only [zi_add, zi_sub, zi_mul, zi_neg, zi_and1, zi_and7, zi_and15, zi_and31, zi_and255]) (by simp only [zi_add, zi_sub, zi_mul, zi_neg, zi_and1, zi_and7, zi_and15, zi_and31, zi_and255]) ?_
                    exact gz_wk (ihlp1 h2 k (k + 1) (by omega) sh2 (by omega) (by omega) (by omega) (by omega) (by omega) lp1k0 lp1k1 lp1k2) (gLw.s (gLw.s (gLw.s (gLw.s (gLw.n gLw.z)))))
        by_cases hc33 : (z6 : Int) ≤ 0
        · refine gy_ifT (pc' := 32) rfl (by decide) (by decide) (by omega) hc33 ?_
          refine gz_s 1 (pc' := 33) (L' := [some (.ref m), some (.int (zi nd)), some (.int (zi bt)), some (.int (zi k)), none]) (S' := [.int (zi 0)]) rfl ?_
          exact jn8 0 (by omega)
        · refine gy_ifF rfl (by decide) (by decide) (by omega) hc33 ?_
          refine gz_s 1 (pc' := 19) (L' := [some (.ref m), some (.int (zi nd)), some (.int (zi bt)), some (.int (zi k)), none]) (S' := [.ref m]) rfl ?_
          refine gs_gtr rfl (by decide) rfl sh2.1 tm rfl rfl rfl (fun c34 ec34 tc34 => ?_)
          refine gz_s 1 (pc' := 23) (L' := [some (.ref m), some (.int (zi nd)), some (.int (zi bt)), some (.int (zi k)), none]) (S' := [.int (zi k), .ref c34]) rfl ?_
          have hl35 : 514 ≤ h2.2.2.2.1 c34 ∧ h2.2.2.2.1 c34 ≤ 514 := gJ.rowl (G := gGG) sh2.1 tc34 rfl
          refine gs_ald rfl (by decide) sh2.1 tc34 rfl rfl rfl (by decide) (fun _ => rfl) (by omega) (by omega) (fun z36 ez36 az36 bz36 => ?_)
          have hf37 := gRn.at (i := k) (z := z36) lp1k2 tc34 ez36 (by omega) (by omega) (by omega)
          refine gz_s 1 (pc' := 25) (L' := [some (.ref m), some (.int (zi nd)), some (.int (zi bt)), some (.int (zi k)), none]) (S' := [.int (zi (-1)), .int (zi z36)]) rfl ?_
          by_cases hc38 : ¬ (z36 : Int) = (-1)
          · refine gy_icT (pc' := 32) rfl (by decide) (by decide) (by omega) (by omega) hc38 ?_
            refine gz_s 1 (pc' := 33) (L' := [some (.ref m), some (.int (zi nd)), some (.int (zi bt)), some (.int (zi k)), none]) (S' := [.int (zi 0)]) rfl ?_
            exact jn8 0 (by omega)
          · refine gy_icF rfl (by decide) (by decide) (by omega) (by omega) hc38 ?_
            refine gz_s 2 (pc' := 33) (L' := [some (.ref m), some (.int (zi nd)), some (.int (zi bt)), some (.int (zi k)), none]) (S' := [.int (zi 1)]) rfl ?_
            exact jn8 1 (by omega)
  have hl0 : emL wt gr pa (0 : Int).toNat = -1 := rfl
  exact gz_wk (lp1 _ h (-1) 0 (Nat.lt_succ_self _) hS (by omega) (by omega) (by omega) (by omega) (by omega) hyf39 hyf40 hyf41) (gLw.s (gLw.s (gLw.s (gLw.s (gLw.n gLw.z)))))
set_option maxRecDepth 20000 in
set_option maxHeartbeats 4000000 in
theorem mw_suit0 (d : Nat) {ty : Nat → Nat} {h : gH} (hJ : gJ rT 1027 ty h) (m : Nat) (tm : ty m = 1) (wh : Int) (rwh : 0 ≤ wh ∧ wh ≤ 0) (w0 w1 z0 z1 c0 c1 : Nat → Int) (uq : gUq ty) (hyf36 : gRn 514 ty 36 (eeJ w0 w1) h) (hyf37 : gRn 514 ty 37 (eeJ z0 z1) h) (hyf38 : gRn 514 ty 38 (eeJ c0 c1) h) (hywb : ewB w0 1999) (hyw6 : 0 < w0 256) : gz gPP gGG gcn (d + 1) gt201 0 (gent [.ref m, .int (zi wh)] 8) [] h (fun q _ => gSs rT 1027 ty [37999, 38999, 39999, 40999, 41999] h q.2.2 ∧ gfin gt201 q.1 q.2.1 = some none ∧ (gRn 514 ty 37 (eeJ (ehN w0) z1) q.2.2) ∧ (gRn 514 ty 38 (eeJ (eCd (ehN w0) c0 17 0) c1) q.2.2)) := by
  have hS : gSs rT 1027 ty [37999, 38999, 39999, 40999, 41999] h h := gSs.rf hJ
  have hw5 : ∀ x : Nat, x < 257 → 0 ≤ w0 x := fun x _ => hywb.1 x
  have hw4 := hywb.2
  have hw6 := hyw6
  refine gz_s 4 (pc' := 6) (L' := [some (.ref m), some (.int (zi wh)), some (.int (zi 257)), some (.int (zi 0)), none, none, none, none]) (S' := []) rfl ?_
  have lp1 : ∀ (fu : Nat) (h2 : gH) (s : Int), (515 - s).toNat < fu → gSs rT 1027 ty [37999, 38999, 39999, 40999, 41999] h h2 → (0 ≤ s ∧ s ≤ 514) → gRn 514 ty 36 (eeJ w0 w1) h2 → gRn 514 ty 37 (eeJ z0 z1) h2 → gRn 514 ty 38 (eeJ c0 c1) h2 → ewB w0 1999 → 0 < w0 256 → gRn (s).toNat ty 39 (ewz w0) h2 → gRn (s).toNat ty 40 (fun j9 => (j9 : Int)) h2 → gRn (s).toNat ty 41 (fun _ => -1) h2 → gz gPP gGG gcn (d + 1) gt201 6 [some (.ref m), some (.int (zi wh)), some (.int (zi 257)), some (.int (zi s)), none, none, none, none] [] h2 (fun q _ => gSs rT 1027 ty [37999, 38999, 39999, 40999, 41999] h q.2.2 ∧ gfin gt201 q.1 q.2.1 = some none ∧ (gRn 514 ty 37 (eeJ (ehN w0) z1) q.2.2) ∧ (gRn 514 ty 38 (eeJ (eCd (ehN w0) c0 17 0) c1) q.2.2)) := by
    intro fu
    induction fu with
    | zero => intro h2 s hm; exact absurd hm (Nat.not_lt_zero _)
    | succ fu ihlp1 =>
      intro h2 s lp1m sh2 lp1f0 lp1k0 lp1k1 lp1k2 lp1k3 lp1k4 lp1k5 lp1k6 lp1k7
      refine gz_s 2 (pc' := 10) (L' := [some (.ref m), some (.int (zi wh)), some (.int (zi 257)), some (.int (zi s)), none, none, none, none]) (S' := [.int (zi 514), .int (zi s)]) rfl ?_
      by_cases hc3 : (514 : Int) ≤ s
      · refine gy_icT (pc' := 62) rfl (by decide) (by decide) (by omega) (by omega) hc3 ?_
        refine gz_s 2 (pc' := 64) (L' := [some (.ref m), some (.int (zi wh)), some (.int (zi 257)), some (.int (zi 1)), none, none, none, none]) (S' := []) rfl ?_
        have hem5 : gEm ty w0 257 1 h2 := by
          have e1 := lp1k5
          have e2 := lp1k6
          have e3 := lp1k7
          rw [(by omega : (s).toNat = 514)] at e1 e2 e3
          exact ⟨_, _, _, e1, e2, e3, emW.zero hw6 (fun _ _ => rfl) (fun _ _ => rfl) (fun _ _ => rfl)⟩
        have lp4 : ∀ (fu : Nat) (h6 : gH) (nd : Int) (mo : Int), (2 * (514 - nd) + mo).toNat < fu → gSs rT 1027 ty [37999, 38999, 39999, 40999, 41999] h h6 → (257 ≤ nd ∧ nd ≤ 513) → (0 ≤ mo ∧ mo ≤ 1) → gRn 514 ty 36 (eeJ w0 w1) h6 → gRn 514 ty 37 (eeJ z0 z1) h6 → gRn 514 ty 38 (eeJ c0 c1) h6 → ewB w0 1999 → 0 < w0 256 → gEm ty w0 nd mo h6 → gz gPP gGG gcn (d + 1) gt201 64 [some (.ref m), some (.int (zi wh)), some (.int (zi nd)), some (.int (zi mo)), none, none, none, none] [] h6 (fun q _ => gSs rT 1027 ty [37999, 38999, 39999, 40999, 41999] h q.2.2 ∧ gfin gt201 q.1 q.2.1 = some none ∧ (gRn 514 ty 37 (eeJ (ehN w0) z1) q.2.2) ∧ (gRn 514 ty 38 (eeJ (eCd (ehN w0) c0 17 0) c1) q.2.2)) := by
          intro fu
          induction fu with
          | zero => intro h6 nd mo hm; exact absurd hm (Nat.not_lt_zero _)
          | succ fu ihlp4 =>
            intro h6 nd mo lp4m sh6 lp4f0 lp4f1 lp4k0 lp4k1 lp4k2 lp4k3 lp4k4 lp4k5
            refine gz_s 1 (pc' := 65) (L' := [some (.ref m), some (.int (zi wh)), some (.int (zi nd)), some (.int (zi mo)), none, none, none, none]) (S' := [.int (zi mo)]) rfl ?_
            by_cases hc7 : (mo : Int) = 0
            · refine gy_ifT (pc' := 192) rfl (by decide) (by decide) (by omega) hc7 ?_
              have emo : mo = 0 := by omega
              obtain ⟨wt, gr, pa, r1, r2, r3, emw⟩ := lp4k5
              rw [emo] at emw
              have l16 : ∀ j9 : Nat, j9 < 257 → 0 ≤ (ehN w0) j9 ∧ (ehN w0) j9 ≤ 16 := fun j9 hj9 => eh16 hw5 (by omega) 257 j9 hj9
              refine gz_s 4 (pc' := 198) (L' := [some (.ref m), some (.int (zi wh)), some (.int (zi nd)), some (.int (zi mo)), some (.int (zi 0)), some (.int (zi 0)), none, none]) (S' := []) rfl ?_
              have lp8 : ∀ (fu : Nat) (h9 : gH) (s2 : Int), (258 - s2).toNat < fu → gSs rT 1027 ty [37999, 38999, 39999, 40999, 41999] h h9 → (0 ≤ s2 ∧ s2 ≤ 257) → gRn 514 ty 36 (eeJ w0 w1) h9 → gRn 514 ty 38 (eeJ c0 c1) h9 → ewB w0 1999 → 0 < w0 256 → gRn 514 ty 39 wt h9 → gRn 514 ty 40 gr h9 → gRn 514 ty 41 pa h9 → gRn 514 ty 37 (eeJ (eSz (ehN w0) z0 s2) z1) h9 → gz gPP gGG gcn (d + 1) gt201 198 [some (.ref m), some (.int (zi wh)), some (.int (zi nd)), some (.int (zi mo)), some (.int (zi 0)), some (.int (zi s2)), none, none] [] h9 (fun q _ => gSs rT 1027 ty [37999, 38999, 39999, 40999, 41999] h q.2.2 ∧ gfin gt201 q.1 q.2.1 = some none ∧ (gRn 514 ty 37 (eeJ (ehN w0) z1) q.2.2) ∧ (gRn 514 ty 38 (eeJ (eCd (ehN w0) c0 17 0) c1) q.2.2)) := by
                intro fu
                induction fu with
                | zero => intro h9 s2 hm; exact absurd hm (Nat.not_lt_zero _)
                | succ fu ihlp8 =>
                  intro h9 s2 lp8m sh9 lp8f0 lp8k0 lp8k1 lp8k2 lp8k3 lp8k4 lp8k5 lp8k6 lp8k7
                  refine gz_s 2 (pc' := 203) (L' := [some (.ref m), some (.int (zi wh)), some (.int (zi nd)), some (.int (zi mo)), some (.int (zi 0)), some (.int (zi s2)), none, none]) (S' := [.int (zi 257), .int (zi s2)]) rfl ?_
                  by_cases hc10 : (257 : Int) ≤ s2
                  · refine gy_icT (pc' := 270) rfl (by decide) (by decide) (by omega) (by omega) hc10 ?_
                    have hrw11 : gRn 514 ty 37 (eeJ (ehN w0) z1) h9 := by
                      have e9 := lp8k7
                      rw [(by omega : s2 = 257)] at e9
                      exact gRn.cg (eeJ_cg eSz_f (fun _ _ => rfl)) e9
                    refine gz_s 2 (pc' := 273) (L' := [some (.ref m), some (.int (zi wh)), some (.int (zi nd)), some (.int (zi mo)), some (.int (zi 0)), some (.int (zi 1)), none, none]) (S' := []) rfl ?_
                    have lp12 : ∀ (fu : Nat) (h13 : gH) (cd : Int) (b1 : Int), (18 - b1).toNat < fu → gSs rT 1027 ty [37999, 38999, 39999, 40999, 41999] h h13 → (0 ≤ cd ∧ cd ≤ 33554432) → (1 ≤ b1 ∧ b1 ≤ 17) → (2 * cd = ekF (ehN w0) (b1).toNat) → gRn 514 ty 36 (eeJ w0 w1) h13 → ewB w0 1999 → 0 < w0 256 → gRn 514 ty 39 wt h13 → gRn 514 ty 40 gr h13 → gRn 514 ty 41 pa h13 → gRn 514 ty 37 (eeJ (ehN w0) z1) h13 → gRn 514 ty 38 (eeJ (eCd (ehN w0) c0 b1 0) c1) h13 → gz gPP gGG gcn (d + 1) gt201 273 [some (.ref m), some (.int (zi wh)), some (.int (zi nd)), some (.int (zi mo)), some (.int (zi cd)), some (.int (zi b1)), none, none] [] h13 (fun q _ => gSs rT 1027 ty [37999, 38999, 39999, 40999, 41999] h q.2.2 ∧ gfin gt201 q.1 q.2.1 = some none ∧ (gRn 514 ty 37 (eeJ (ehN w0) z1) q.2.2) ∧ (gRn 514 ty 38 (eeJ (eCd (ehN w0) c0 17 0) c1) q.2.2)) := by
                      intro fu
                      induction fu with
                      | zero => intro h13 cd b1 hm; exact absurd hm (Nat.not_lt_zero _)
                      | succ fu ihlp12 =>
                        intro h13 cd b1 lp12m sh13 lp12f0 lp12f1 lp12f2 lp12k0 lp12k1 lp12k2 lp12k3 lp12k4 lp12k5 lp12k6 lp12k7
                        refine gz_s 2 (pc' := 277) (L' := [some (.ref m), some (.int (zi wh)), some (.int (zi nd)), some (.int (zi mo)), some (.int (zi cd)), some (.int (zi b1)), none, none]) (S' := [.int (zi 16), .int (zi b1)]) rfl ?_
                        by_cases hc14 : (16 : Int) < b1
                        · refine gy_icT (pc' := 345) rfl (by decide) (by decide) (by omega) (by omega) hc14 ?_
                          have hrw15 : gRn 514 ty 38 (eeJ (eCd (ehN w0) c0 17 0) c1) h13 := by have e9 := lp12k7; rw [(by omega : b1 = 17)] at e9; exact e9
                          exact gz_end (I := .return_) (len := 1) rfl (Or.inl rfl) ⟨sh13, rfl, lp12k6, hrw15⟩
                        · refine gy_icF rfl (by decide) (by decide) (by omega) (by omega) hc14 ?_
                          refine gy_s 4 (pc' := 286) (L' := [some (.ref m), some (.int (zi wh)), some (.int (zi nd)), some (.int (zi mo)), some (.int ((zi 2) * (zi cd))), some (.int (zi b1)), none, none]) (S' := []) (L2 := [some (.ref m), some (.int (zi wh)), some (.int (zi nd)), some (.int (zi mo)), some (.int (zi (2 * cd))), some (.int (zi b1)), none, none]) (S2 := []) rfl (by simp only [zi_add, zi_sub, zi_mul, zi_neg, zi_and1, zi_and7, zi_and15, zi_and31, zi_and255]) (by simp only [zi_add, zi_sub, zi_mul, zi_neg, zi_and1, zi_and7, zi_and15, zi_and31, zi_and255]) ?_
                          have hkf := ekF_b (ehN w0) (l := (b1).toNat) (by omega)
                          refine gz_s 2 (pc' := 289) (L' := [some (.ref m), some (.int (zi wh)), some (.int (zi nd)), some (.int (zi mo)), some (.int (zi (2 * cd))), some (.int (zi b1)), some (.int (zi 0)), none]) (S' := []) rfl ?_
                          have lp16 : ∀ (fu : Nat) (h17 : gH) (cd2 : Int) (s3 : Int), (257 - s3).toNat < fu → gSs rT 1027 ty [37999, 38999, 39999, 40999, 41999] h h17 → (0 ≤ cd2 ∧ cd2 ≤ 67109376) → (0 ≤ s3 ∧ s3 ≤ 256) → (cd2 = ekF (ehN w0) (b1).toNat + ekN (ehN w0) b1 (s3).toNat) → gRn 514 ty 36 (eeJ w0 w1) h17 → ewB w0 1999 → 0 < w0 256 → gRn 514 ty 39 wt h17 → gRn 514 ty 40 gr h17 → gRn 514 ty 41 pa h17 → gRn 514 ty 37 (eeJ (ehN w0) z1) h17 → gRn 514 ty 38 (eeJ (eCd (ehN w0) c0 b1 s3) c1) h17 → gz gPP gGG gcn (d + 1) gt201 289 [some (.ref m), some (.int (zi wh)), some (.int (zi nd)), some (.int (zi mo)), some (.int (zi cd2)), some (.int (zi b1)), some (.int (zi s3)), none] [] h17 (fun q _ => gSs rT 1027 ty [37999, 38999, 39999, 40999, 41999] h q.2.2 ∧ gfin gt201 q.1 q.2.1 = some none ∧ (gRn 514 ty 37 (eeJ (ehN w0) z1) q.2.2) ∧ (gRn 514 ty 38 (eeJ (eCd (ehN w0) c0 17 0) c1) q.2.2)) := by
                            intro fu
                            induction fu with
                            | zero => intro h17 cd2 s3 hm; exact absurd hm (Nat.not_lt_zero _)
                            | succ fu ihlp16 =>
                              intro h17 cd2 s3 lp16m sh17 lp16f0 lp16f1 lp16f2 lp16k0 lp16k1 lp16k2 lp16k3 lp16k4 lp16k5 lp16k6 lp16k7
                              refine gz_s 2 (pc' := 294) (L' := [some (.ref m), some (.int (zi wh)), some (.int (zi nd)), some (.int (zi mo)), some (.int (zi cd2)), some (.int (zi b1)), some (.int (zi s3)), none]) (S' := [.int (zi 256), .int (zi s3)]) rfl ?_
                              by_cases hc18 : (256 : Int) ≤ s3
                              · refine gy_icT (pc' := 339) rfl (by decide) (by decide) (by omega) (by omega) hc18 ?_
                                have hrw19 : gRn 514 ty 38 (eeJ (eCd (ehN w0) c0 (b1 + 1) 0) c1) h17 := by
                                  have e9 := lp16k7
                                  rw [(by omega : s3 = 256), eCd_w] at e9
                                  exact e9
                                have hfn : ekF (ehN w0) (b1 + 1).toNat = 2 * (ekF (ehN w0) (b1).toNat + ekN (ehN w0) b1 256) := by
                                  obtain ⟨n9, hn9⟩ : ∃ n9 : Nat, (b1).toNat = n9 + 1 := ⟨(b1).toNat - 1, by omega⟩
                                  rw [(by omega : (b1 + 1).toNat = n9 + 2), hn9]
                                  show 2 * (ekF (ehN w0) (n9 + 1) + ekN (ehN w0) ((n9 + 1 : Nat) : Int) 256) = _
                                  rw [(by omega : ((n9 + 1 : Nat) : Int) = b1)]
                                have hkg := ekF_b (ehN w0) (l := (b1 + 1).toNat) (by omega)
                                have hn256 : ekN (ehN w0) b1 (s3).toNat = ekN (ehN w0) b1 256 := by rw [(by omega : (s3).toNat = 256)]
                                refine gy_s 2 (pc' := 273) (L' := [some (.ref m), some (.int (zi wh)), some (.int (zi nd)), some (.int (zi mo)), some (.int (zi cd2)), some (.int ((zi b1) + zi 1)), some (.int (zi s3)), none]) (S' := []) (L2 := [some (.ref m), some (.int (zi wh)), some (.int (zi nd)), some (.int (zi mo)), some (.int (zi cd2)), some (.int (zi (b1 + 1))), some (.int (zi s3)), none]) (S2 := []) rfl (by simp only [zi_add, zi_sub, zi_mul, zi_neg, zi_and1, zi_and7, zi_and15, zi_and31, zi_and255]) (by simp only [zi_add, zi_sub, zi_mul, zi_neg, zi_and1, zi_and7, zi_and15, zi_and31, zi_and255]) ?_
                                exact gz_wk (ihlp12 h17 cd2 (b1 + 1) (by omega) sh17 (by omega) (by omega) (by omega) lp16k0 lp16k1 lp16k2 lp16k3 lp16k4 lp16k5 lp16k6 hrw19) (gLw.s (gLw.s (gLw.s (gLw.s (gLw.s (gLw.s (gLw.n (gLw.n gLw.z))))))))
                              · refine gy_icF rfl (by decide) (by decide) (by omega) (by omega) hc18 ?_
                                refine gz_s 1 (pc' := 298) (L' := [some (.ref m), some (.int (zi wh)), some (.int (zi nd)), some (.int (zi mo)), some (.int (zi cd2)), some (.int (zi b1)), some (.int (zi s3)), none]) (S' := [.ref m]) rfl ?_
                                refine gs_gtr rfl (by decide) rfl sh17.1 tm rfl rfl rfl (fun c20 ec20 tc20 => ?_)
                                refine gy_s 5 (pc' := 309) (L' := [some (.ref m), some (.int (zi wh)), some (.int (zi nd)), some (.int (zi mo)), some (.int (zi cd2)), some (.int (zi b1)), some (.int (zi s3)), none]) (S' := [.int (((zi 257) * (zi wh)) + (zi s3)), .ref c20]) (L2 := [some (.ref m), some (.int (zi wh)), some (.int (zi nd)), some (.int (zi mo)), some (.int (zi cd2)), some (.int (zi b1)), some (.int (zi s3)), none]) (S2 := [.int (zi ((257 * wh) + s3)), .ref c20]) rfl (by simp only [zi_add, zi_sub, zi_mul, zi_neg, zi_and1, zi_and7, zi_and15, zi_and31, zi_and255]) (by simp only [zi_add, zi_sub, zi_mul, zi_neg, zi_and1, zi_and7, zi_and15, zi_and31, zi_and255]) ?_
                                have hl21 : 514 ≤ h17.2.2.2.1 c20 ∧ h17.2.2.2.1 c20 ≤ 514 := gJ.rowl (G := gGG) sh17.1 tc20 rfl
                                refine gs_ald rfl (by decide) sh17.1 tc20 rfl rfl rfl (by decide) (fun _ => rfl) (by omega) (by omega) (fun z22 ez22 az22 bz22 => ?_)
                                have hf23 := gRn.at (i := (257 * wh) + s3) (z := z22) lp16k6 tc20 ez22 (by omega) (by omega) (by omega)
                                have hls : (ehN w0) (s3).toNat = z22 := by have h9 := hf23; rw [show wh = 0 by omega, eeJ_a0 (by omega) (by omega)] at h9; exact h9
                                have hkb := ekN_b (ehN w0) b1 (s3).toNat
                                have hks : ekN (ehN w0) b1 (s3 + 1).toNat = ekN (ehN w0) b1 (s3).toNat + (if (ehN w0) (s3).toNat = b1 then 1 else 0) := by rw [(by omega : (s3 + 1).toNat = (s3).toNat + 1)]; rfl
                                refine gz_s 1 (pc' := 312) (L' := [some (.ref m), some (.int (zi wh)), some (.int (zi nd)), some (.int (zi mo)), some (.int (zi cd2)), some (.int (zi b1)), some (.int (zi s3)), none]) (S' := [.int (zi b1), .int (zi z22)]) rfl ?_
                                by_cases hc24 : ¬ (z22 : Int) = b1
                                · refine gy_icT (pc' := 333) rfl (by decide) (by decide) (by omega) (by omega) hc24 ?_
                                  have hrw25 : gRn 514 ty 38 (eeJ (eCd (ehN w0) c0 b1 (s3 + 1)) c1) h17 := by rw [← eCd_n (by omega) (by omega)]; exact lp16k7
                                  rw [if_neg (by omega)] at hks
                                  refine gy_s 2 (pc' := 289) (L' := [some (.ref m), some (.int (zi wh)), some (.int (zi nd)), some (.int (zi mo)), some (.int (zi cd2)), some (.int (zi b1)), some (.int ((zi s3) + zi 1)), none]) (S' := []) (L2 := [some (.ref m), some (.int (zi wh)), some (.int (zi nd)), some (.int (zi mo)), some (.int (zi cd2)), some (.int (zi b1)), some (.int (zi (s3 + 1))), none]) (S2 := []) rfl (by simp only [zi_add, zi_sub, zi_mul, zi_neg, zi_and1, zi_and7, zi_and15, zi_and31, zi_and255]) (by simp only [zi_add, zi_sub, zi_mul, zi_neg, zi_and1, zi_and7, zi_and15, zi_and31, zi_and255]) ?_
                                  exact gz_wk (ihlp16 h17 cd2 (s3 + 1) (by omega) sh17 (by omega) (by omega) (by omega) lp16k0 lp16k1 lp16k2 lp16k3 lp16k4 lp16k5 lp16k6 hrw25) (gLw.s (gLw.s (gLw.s (gLw.s (gLw.s (gLw.s (gLw.s (gLw.n gLw.z))))))))
                                · refine gy_icF rfl (by decide) (by decide) (by omega) (by omega) hc24 ?_
                                  refine gz_s 1 (pc' := 316) (L' := [some (.ref m), some (.int (zi wh)), some (.int (zi nd)), some (.int (zi mo)), some (.int (zi cd2)), some (.int (zi b1)), some (.int (zi s3)), none]) (S' := [.ref m]) rfl ?_
                                  refine gs_gtr rfl (by decide) rfl sh17.1 tm rfl rfl rfl (fun c26 ec26 tc26 => ?_)
                                  refine gy_s 6 (pc' := 329) (L' := [some (.ref m), some (.int (zi wh)), some (.int (zi nd)), some (.int (zi mo)), some (.int (zi cd2)), some (.int (zi b1)), some (.int (zi s3)), none]) (S' := [.int (zi cd2), .int (((zi 257) * (zi wh)) + (zi s3)), .ref c26]) (L2 := [some (.ref m), some (.int (zi wh)), some (.int (zi nd)), some (.int (zi mo)), some (.int (zi cd2)), some (.int (zi b1)), some (.int (zi s3)), none]) (S2 := [.int (zi cd2), .int (zi ((257 * wh) + s3)), .ref c26]) rfl (by simp only [zi_add, zi_sub, zi_mul, zi_neg, zi_and1, zi_and7, zi_and15, zi_and31, zi_and255]) (by simp only [zi_add, zi_sub, zi_mul, zi_neg, zi_and1, zi_and7, zi_and15, zi_and31, zi_and255]) ?_
                                  have hl27 : 514 ≤ h17.2.2.2.1 c26 ∧ h17.2.2.2.1 c26 ≤ 514 := gJ.rowl (G := gGG) sh17.1 tc26 rfl
                                  refine gs_ast rfl (by decide) sh17 tc26 rfl rfl rfl (by decide) (fun _ => rfl) (by omega) (by omega) (fun _ => (by decide : (38999 : Nat) ∈ ([37999, 38999, 39999, 40999, 41999] : List Nat))) (by omega) (by omega) (fun h28 sh28 eh28 fh28 => ?_)
                                  have pr29 := gRn.pt fh28 tc26 (by decide) lp16k0
                                  have pr30 := gRn.pt fh28 tc26 (by decide) lp16k3
                                  have pr31 := gRn.pt fh28 tc26 (by decide) lp16k4
                                  have pr32 := gRn.pt fh28 tc26 (by decide) lp16k5
                                  have pr33 := gRn.pt fh28 tc26 (by decide) lp16k6
                                  have pr34 := gRn.put (i := (257 * wh) + s3) (z := cd2) uq tc26 (by decide) fh28 eh28 (by omega) (by omega) lp16k7
                                  have s35 := (fh28 m 69 (fun q => absurd (((tm).symm.trans (congrArg ty q.1)).trans tc26) (by decide))).trans ec20
                                  have s36 := (fh28 m 70 (fun q => absurd (((tm).symm.trans (congrArg ty q.1)).trans tc26) (by decide))).trans ec26
                                  have pr37 := gEl.set (i := (257 * wh) + s3) (z := cd2) uq tc26 (by decide) eh28 (by omega) (by omega)
                                  refine gy_s 1 (pc' := 333) (L' := [some (.ref m), some (.int (zi wh)), some (.int (zi nd)), some (.int (zi mo)), some (.int ((zi cd2) + zi 1)), some (.int (zi b1)), some (.int (zi s3)), none]) (S' := []) (L2 := [some (.ref m), some (.int (zi wh)), some (.int (zi nd)), some (.int (zi mo)), some (.int (zi (cd2 + 1))), some (.int (zi b1)), some (.int (zi s3)), none]) (S2 := []) rfl (by simp only [zi_add, zi_sub, zi_mul, zi_neg, zi_and1, zi_and7, zi_and15, zi_and31, zi_and255]) (by simp only [zi_add, zi_sub, zi_mul, zi_neg, zi_and1, zi_and7, zi_and15, zi_and31, zi_and255]) ?_
                                  have hrw38 : gRn 514 ty 38 (eeJ (eCd (ehN w0) c0 b1 (s3 + 1)) c1) h28 := by
                                    have e9 := pr34
                                    rw [show wh = 0 by omega, eeJ_p0 (by omega) (by omega), eCd_y (by omega) (by omega) (by omega) (by omega) (by omega)] at e9
                                    exact e9
                                  rw [if_pos (by omega)] at hks
                                  refine gy_s 2 (pc' := 289) (L' := [some (.ref m), some (.int (zi wh)), some (.int (zi nd)), some (.int (zi mo)), some (.int (zi (cd2 + 1))), some (.int (zi b1)), some (.int ((zi s3) + zi 1)), none]) (S' := []) (L2 := [some (.ref m), some (.int (zi wh)), some (.int (zi nd)), some (.int (zi mo)), some (.int (zi (cd2 + 1))), some (.int (zi b1)), some (.int (zi (s3 + 1))), none]) (S2 := []) rfl (by simp only [zi_add, zi_sub, zi_mul, zi_neg, zi_and1, zi_and7, zi_and15, zi_and31, zi_and255]) (by simp only [zi_add, zi_sub, zi_mul, zi_neg, zi_and1, zi_and7, zi_and15, zi_and31, zi_and255]) ?_
                                  exact gz_wk (ihlp16 h28 (cd2 + 1) (s3 + 1) (by omega) sh28 (by omega) (by omega) (by omega) pr29 lp16k1 lp16k2 pr30 pr31 pr32 pr33 hrw38) (gLw.s (gLw.s (gLw.s (gLw.s (gLw.s (gLw.s (gLw.s (gLw.n gLw.z))))))))
                          have hn0 : ekN (ehN w0) b1 (0 : Int).toNat = 0 := rfl
                          exact gz_wk (lp16 _ h13 (2 * cd) 0 (Nat.lt_succ_self _) sh13 (by omega) (by omega) (by omega) lp12k0 lp12k1 lp12k2 lp12k3 lp12k4 lp12k5 lp12k6 lp12k7) (gLw.s (gLw.s (gLw.s (gLw.s (gLw.s (gLw.s (gLw.s (gLw.n gLw.z))))))))
                    have hf0 : ekF (ehN w0) (1 : Int).toNat = 0 := rfl
                    exact gz_wk (lp12 _ h9 0 1 (Nat.lt_succ_self _) sh9 (by omega) (by omega) (by omega) lp8k0 lp8k2 lp8k3 lp8k4 lp8k5 lp8k6 hrw11 (show gRn 514 ty 38 (eeJ (eCd (ehN w0) c0 1 0) c1) h9 by rw [eCd_0]; exact lp8k1)) (gLw.s (gLw.s (gLw.s (gLw.s (gLw.s (gLw.s (gLw.n (gLw.n gLw.z))))))))
                  · refine gy_icF rfl (by decide) (by decide) (by omega) (by omega) hc10 ?_
                    refine gz_s 4 (pc' := 213) (L' := [some (.ref m), some (.int (zi wh)), some (.int (zi nd)), some (.int (zi mo)), some (.int (zi 0)), some (.int (zi s2)), some (.int (zi 0)), some (.int (zi s2))]) (S' := []) rfl ?_
                    have lp39 : ∀ (fu : Nat) (h40 : gH) (bits : Int) (kk : Int), (17 - bits).toNat < fu → gSs rT 1027 ty [37999, 38999, 39999, 40999, 41999] h h40 → (0 ≤ bits ∧ bits ≤ 16) → (0 ≤ kk ∧ kk ≤ 512) → (bits ≤ (ehN w0) (s2).toNat) → ((kk).toNat = pit pa (s2).toNat (bits).toNat) → gRn 514 ty 36 (eeJ w0 w1) h40 → gRn 514 ty 38 (eeJ c0 c1) h40 → ewB w0 1999 → 0 < w0 256 → gRn 514 ty 39 wt h40 → gRn 514 ty 40 gr h40 → gRn 514 ty 41 pa h40 → gRn 514 ty 37 (eeJ (eSz (ehN w0) z0 s2) z1) h40 → gz gPP gGG gcn (d + 1) gt201 213 [some (.ref m), some (.int (zi wh)), some (.int (zi nd)), some (.int (zi mo)), some (.int (zi 0)), some (.int (zi s2)), some (.int (zi bits)), some (.int (zi kk))] [] h40 (fun q _ => gSs rT 1027 ty [37999, 38999, 39999, 40999, 41999] h q.2.2 ∧ gfin gt201 q.1 q.2.1 = some none ∧ (gRn 514 ty 37 (eeJ (ehN w0) z1) q.2.2) ∧ (gRn 514 ty 38 (eeJ (eCd (ehN w0) c0 17 0) c1) q.2.2)) := by
                      intro fu
                      induction fu with
                      | zero => intro h40 bits kk hm; exact absurd hm (Nat.not_lt_zero _)
                      | succ fu ihlp39 =>
                        intro h40 bits kk lp39m sh40 lp39f0 lp39f1 lp39f2 lp39f3 lp39k0 lp39k1 lp39k2 lp39k3 lp39k4 lp39k5 lp39k6 lp39k7
                        have hl1 := l16 (s2).toNat (by omega)
                        refine gz_s 1 (pc' := 214) (L' := [some (.ref m), some (.int (zi wh)), some (.int (zi nd)), some (.int (zi mo)), some (.int (zi 0)), some (.int (zi s2)), some (.int (zi bits)), some (.int (zi kk))]) (S' := [.ref m]) rfl ?_
                        refine gs_gtr rfl (by decide) rfl sh40.1 tm rfl rfl rfl (fun c41 ec41 tc41 => ?_)
                        refine gz_s 1 (pc' := 219) (L' := [some (.ref m), some (.int (zi wh)), some (.int (zi nd)), some (.int (zi mo)), some (.int (zi 0)), some (.int (zi s2)), some (.int (zi bits)), some (.int (zi kk))]) (S' := [.int (zi s2), .ref c41]) rfl ?_
                        have hl42 : 514 ≤ h40.2.2.2.1 c41 ∧ h40.2.2.2.1 c41 ≤ 514 := gJ.rowl (G := gGG) sh40.1 tc41 rfl
                        refine gs_ald rfl (by decide) sh40.1 tc41 rfl rfl rfl (by decide) (fun _ => rfl) (by omega) (by omega) (fun z43 ez43 az43 bz43 => ?_)
                        have hf44 := gRn.at (i := s2) (z := z43) lp39k4 tc41 ez43 (by omega) (by omega) (by omega)
                        by_cases hc45 : (z43 : Int) ≤ 0
                        · refine gy_ifT (pc' := 249) rfl (by decide) (by decide) (by omega) hc45 ?_
                          refine gz_s 1 (pc' := 250) (L' := [some (.ref m), some (.int (zi wh)), some (.int (zi nd)), some (.int (zi mo)), some (.int (zi 0)), some (.int (zi s2)), some (.int (zi bits)), some (.int (zi kk))]) (S' := [.ref m]) rfl ?_
                          refine gs_gtr rfl (by decide) rfl sh40.1 tm rfl rfl rfl (fun c46 ec46 tc46 => ?_)
                          refine gy_s 6 (pc' := 263) (L' := [some (.ref m), some (.int (zi wh)), some (.int (zi nd)), some (.int (zi mo)), some (.int (zi 0)), some (.int (zi s2)), some (.int (zi bits)), some (.int (zi kk))]) (S' := [.int (zi bits), .int (((zi 257) * (zi wh)) + (zi s2)), .ref c46]) (L2 := [some (.ref m), some (.int (zi wh)), some (.int (zi nd)), some (.int (zi mo)), some (.int (zi 0)), some (.int (zi s2)), some (.int (zi bits)), some (.int (zi kk))]) (S2 := [.int (zi bits), .int (zi ((257 * wh) + s2)), .ref c46]) rfl (by simp only [zi_add, zi_sub, zi_mul, zi_neg, zi_and1, zi_and7, zi_and15, zi_and31, zi_and255]) (by simp only [zi_add, zi_sub, zi_mul, zi_neg, zi_and1, zi_and7, zi_and15, zi_and31, zi_and255]) ?_
                          have hl47 : 514 ≤ h40.2.2.2.1 c46 ∧ h40.2.2.2.1 c46 ≤ 514 := gJ.rowl (G := gGG) sh40.1 tc46 rfl
                          refine gs_ast rfl (by decide) sh40 tc46 rfl rfl rfl (by decide) (fun _ => rfl) (by omega) (by omega) (fun _ => (by decide : (37999 : Nat) ∈ ([37999, 38999, 39999, 40999, 41999] : List Nat))) (by omega) (by omega) (fun h48 sh48 eh48 fh48 => ?_)
                          have pr49 := gRn.pt fh48 tc46 (by decide) lp39k0
                          have pr50 := gRn.pt fh48 tc46 (by decide) lp39k1
                          have pr51 := gRn.pt fh48 tc46 (by decide) lp39k4
                          have pr52 := gRn.pt fh48 tc46 (by decide) lp39k5
                          have pr53 := gRn.pt fh48 tc46 (by decide) lp39k6
                          have pr54 := gRn.put (i := (257 * wh) + s2) (z := bits) uq tc46 (by decide) fh48 eh48 (by omega) (by omega) lp39k7
                          have s55 := (fh48 m 71 (fun q => absurd (((tm).symm.trans (congrArg ty q.1)).trans tc46) (by decide))).trans ec41
                          have s56 := (fh48 m 69 (fun q => absurd (((tm).symm.trans (congrArg ty q.1)).trans tc46) (by decide))).trans ec46
                          have pr57 := gEl.set (i := (257 * wh) + s2) (z := bits) uq tc46 (by decide) eh48 (by omega) (by omega)
                          have hsz : bits = (ehN w0) (s2).toNat := by
                            by_cases c9 : 0 < wt (s2).toNat
                            · first | omega | (have h8 := hdp.2.1 (by omega); omega)
                            · have h8 := emw.n0 (s := s2) hw5 ⟨by omega, by omega⟩ c9; omega
                          have hrw58 : gRn 514 ty 37 (eeJ (eSz (ehN w0) z0 (s2 + 1)) z1) h48 := by
                            have e9 := pr54
                            rw [show wh = 0 by omega, eeJ_p0 (by omega) (by omega), eSz_p (by omega) hsz] at e9
                            exact e9
                          refine gy_s 2 (pc' := 198) (L' := [some (.ref m), some (.int (zi wh)), some (.int (zi nd)), some (.int (zi mo)), some (.int (zi 0)), some (.int ((zi s2) + zi 1)), some (.int (zi bits)), some (.int (zi kk))]) (S' := []) (L2 := [some (.ref m), some (.int (zi wh)), some (.int (zi nd)), some (.int (zi mo)), some (.int (zi 0)), some (.int (zi (s2 + 1))), some (.int (zi bits)), some (.int (zi kk))]) (S2 := []) rfl (by simp only [zi_add, zi_sub, zi_mul, zi_neg, zi_and1, zi_and7, zi_and15, zi_and31, zi_and255]) (by simp only [zi_add, zi_sub, zi_mul, zi_neg, zi_and1, zi_and7, zi_and15, zi_and31, zi_and255]) ?_
                          exact gz_wk (ihlp8 h48 (s2 + 1) (by omega) sh48 (by omega) pr49 pr50 lp39k2 lp39k3 pr51 pr52 pr53 hrw58) (gLw.s (gLw.s (gLw.s (gLw.s (gLw.s (gLw.s (gLw.n (gLw.n gLw.z))))))))
                        · refine gy_ifF rfl (by decide) (by decide) (by omega) hc45 ?_
                          refine gz_s 1 (pc' := 224) (L' := [some (.ref m), some (.int (zi wh)), some (.int (zi nd)), some (.int (zi mo)), some (.int (zi 0)), some (.int (zi s2)), some (.int (zi bits)), some (.int (zi kk))]) (S' := [.ref m]) rfl ?_
                          refine gs_gtr rfl (by decide) rfl sh40.1 tm rfl rfl rfl (fun c59 ec59 tc59 => ?_)
                          refine gz_s 1 (pc' := 229) (L' := [some (.ref m), some (.int (zi wh)), some (.int (zi nd)), some (.int (zi mo)), some (.int (zi 0)), some (.int (zi s2)), some (.int (zi bits)), some (.int (zi kk))]) (S' := [.int (zi kk), .ref c59]) rfl ?_
                          have hl60 : 514 ≤ h40.2.2.2.1 c59 ∧ h40.2.2.2.1 c59 ≤ 514 := gJ.rowl (G := gGG) sh40.1 tc59 rfl
                          refine gs_ald rfl (by decide) sh40.1 tc59 rfl rfl rfl (by decide) (fun _ => rfl) (by omega) (by omega) (fun z61 ez61 az61 bz61 => ?_)
                          have hf62 := gRn.at (i := kk) (z := z61) lp39k6 tc59 ez61 (by omega) (by omega) (by omega)
                          have hdp := emw.dp (s := s2) (k := kk) (i := (bits).toNat) ⟨by omega, by omega⟩ hw5 ⟨by omega, by omega⟩ (by have h9 := hf44; omega) (by omega) (by omega)
                          rw [hf62] at hdp
                          refine gz_s 1 (pc' := 231) (L' := [some (.ref m), some (.int (zi wh)), some (.int (zi nd)), some (.int (zi mo)), some (.int (zi 0)), some (.int (zi s2)), some (.int (zi bits)), some (.int (zi kk))]) (S' := [.int (zi (-1)), .int (zi z61)]) rfl ?_
                          by_cases hc63 : (z61 : Int) = (-1)
                          · refine gy_icT (pc' := 249) rfl (by decide) (by decide) (by omega) (by omega) hc63 ?_
                            refine gz_s 1 (pc' := 250) (L' := [some (.ref m), some (.int (zi wh)), some (.int (zi nd)), some (.int (zi mo)), some (.int (zi 0)), some (.int (zi s2)), some (.int (zi bits)), some (.int (zi kk))]) (S' := [.ref m]) rfl ?_
                            refine gs_gtr rfl (by decide) rfl sh40.1 tm rfl rfl rfl (fun c64 ec64 tc64 => ?_)
                            refine gy_s 6 (pc' := 263) (L' := [some (.ref m), some (.int (zi wh)), some (.int (zi nd)), some (.int (zi mo)), some (.int (zi 0)), some (.int (zi s2)), some (.int (zi bits)), some (.int (zi kk))]) (S' := [.int (zi bits), .int (((zi 257) * (zi wh)) + (zi s2)), .ref c64]) (L2 := [some (.ref m), some (.int (zi wh)), some (.int (zi nd)), some (.int (zi mo)), some (.int (zi 0)), some (.int (zi s2)), some (.int (zi bits)), some (.int (zi kk))]) (S2 := [.int (zi bits), .int (zi ((257 * wh) + s2)), .ref c64]) rfl (by simp only [zi_add, zi_sub, zi_mul, zi_neg, zi_and1, zi_and7, zi_and15, zi_and31, zi_and255]) (by simp only [zi_add, zi_sub, zi_mul, zi_neg, zi_and1, zi_and7, zi_and15, zi_and31, zi_and255]) ?_
                            have hl65 : 514 ≤ h40.2.2.2.1 c64 ∧ h40.2.2.2.1 c64 ≤ 514 := gJ.rowl (G := gGG) sh40.1 tc64 rfl
                            refine gs_ast rfl (by decide) sh40 tc64 rfl rfl rfl (by decide) (fun _ => rfl) (by omega) (by omega) (fun _ => (by decide : (37999 : Nat) ∈ ([37999, 38999, 39999, 40999, 41999] : List Nat))) (by omega) (by omega) (fun h66 sh66 eh66 fh66 => ?_)
                            have pr67 := gRn.pt fh66 tc64 (by decide) lp39k0
                            have pr68 := gRn.pt fh66 tc64 (by decide) lp39k1
                            have pr69 := gRn.pt fh66 tc64 (by decide) lp39k4
                            have pr70 := gRn.pt fh66 tc64 (by decide) lp39k5
                            have pr71 := gRn.pt fh66 tc64 (by decide) lp39k6
                            have pr72 := gRn.put (i := (257 * wh) + s2) (z := bits) uq tc64 (by decide) fh66 eh66 (by omega) (by omega) lp39k7
                            have s73 := (fh66 m 71 (fun q => absurd (((tm).symm.trans (congrArg ty q.1)).trans tc64) (by decide))).trans ec41
                            have s74 := (fh66 m 73 (fun q => absurd (((tm).symm.trans (congrArg ty q.1)).trans tc64) (by decide))).trans ec59
                            have s75 := (fh66 m 69 (fun q => absurd (((tm).symm.trans (congrArg ty q.1)).trans tc64) (by decide))).trans ec64
                            have pr76 := gEl.set (i := (257 * wh) + s2) (z := bits) uq tc64 (by decide) eh66 (by omega) (by omega)
                            have hsz : bits = (ehN w0) (s2).toNat := by
                              by_cases c9 : 0 < wt (s2).toNat
                              · first | omega | (have h8 := hdp.2.1 (by omega); omega)
                              · have h8 := emw.n0 (s := s2) hw5 ⟨by omega, by omega⟩ c9; omega
                            have hrw77 : gRn 514 ty 37 (eeJ (eSz (ehN w0) z0 (s2 + 1)) z1) h66 := by
                              have e9 := pr72
                              rw [show wh = 0 by omega, eeJ_p0 (by omega) (by omega), eSz_p (by omega) hsz] at e9
                              exact e9
                            refine gy_s 2 (pc' := 198) (L' := [some (.ref m), some (.int (zi wh)), some (.int (zi nd)), some (.int (zi mo)), some (.int (zi 0)), some (.int ((zi s2) + zi 1)), some (.int (zi bits)), some (.int (zi kk))]) (S' := []) (L2 := [some (.ref m), some (.int (zi wh)), some (.int (zi nd)), some (.int (zi mo)), some (.int (zi 0)), some (.int (zi (s2 + 1))), some (.int (zi bits)), some (.int (zi kk))]) (S2 := []) rfl (by simp only [zi_add, zi_sub, zi_mul, zi_neg, zi_and1, zi_and7, zi_and15, zi_and31, zi_and255]) (by simp only [zi_add, zi_sub, zi_mul, zi_neg, zi_and1, zi_and7, zi_and15, zi_and31, zi_and255]) ?_
                            exact gz_wk (ihlp8 h66 (s2 + 1) (by omega) sh66 (by omega) pr67 pr68 lp39k2 lp39k3 pr69 pr70 pr71 hrw77) (gLw.s (gLw.s (gLw.s (gLw.s (gLw.s (gLw.s (gLw.n (gLw.n gLw.z))))))))
                          · refine gy_icF rfl (by decide) (by decide) (by omega) (by omega) hc63 ?_
                            refine gy_s 2 (pc' := 238) (L' := [some (.ref m), some (.int (zi wh)), some (.int (zi nd)), some (.int (zi mo)), some (.int (zi 0)), some (.int (zi s2)), some (.int ((zi bits) + zi 1)), some (.int (zi kk))]) (S' := [.ref m]) (L2 := [some (.ref m), some (.int (zi wh)), some (.int (zi nd)), some (.int (zi mo)), some (.int (zi 0)), some (.int (zi s2)), some (.int (zi (bits + 1))), some (.int (zi kk))]) (S2 := [.ref m]) rfl (by simp only [zi_add, zi_sub, zi_mul, zi_neg, zi_and1, zi_and7, zi_and15, zi_and31, zi_and255]) (by simp only [zi_add, zi_sub, zi_mul, zi_neg, zi_and1, zi_and7, zi_and15, zi_and31, zi_and255]) ?_
                            refine gs_gtk rfl (by decide) rfl sh40.1 tm rfl rfl ec59 ?_
                            refine gz_s 1 (pc' := 243) (L' := [some (.ref m), some (.int (zi wh)), some (.int (zi nd)), some (.int (zi mo)), some (.int (zi 0)), some (.int (zi s2)), some (.int (zi (bits + 1))), some (.int (zi kk))]) (S' := [.int (zi kk), .ref c59]) rfl ?_
                            have hl78 : 514 ≤ h40.2.2.2.1 c59 ∧ h40.2.2.2.1 c59 ≤ 514 := gJ.rowl (G := gGG) sh40.1 tc59 rfl
                            refine gs_ald rfl (by decide) sh40.1 tc59 rfl rfl rfl (by decide) (fun _ => rfl) (by omega) (by omega) (fun z79 ez79 az79 bz79 => ?_)
                            have hf80 := gRn.at (i := kk) (z := z79) lp39k6 tc59 ez79 (by omega) (by omega) (by omega)
                            refine gz_s 1 (pc' := 246) (L' := [some (.ref m), some (.int (zi wh)), some (.int (zi nd)), some (.int (zi mo)), some (.int (zi 0)), some (.int (zi s2)), some (.int (zi (bits + 1))), some (.int (zi z79))]) (S' := []) rfl ?_
                            have hdq := hdp.2.2 (by omega)
                            have hpp : (z79).toNat = pit pa (s2).toNat (bits + 1).toNat := by rw [(by omega : (bits + 1).toNat = (bits).toNat + 1), ← hdq.2.1]; congr 1; have h9 := hf80; omega
                            have hdn := (emw.dp (s := s2) (k := z79) (i := (bits + 1).toNat) ⟨by omega, by omega⟩ hw5 ⟨by omega, by omega⟩ (by have h9 := hf44; omega) (by omega) hpp).1
                            refine gz_s 1 (pc' := 213) (L' := [some (.ref m), some (.int (zi wh)), some (.int (zi nd)), some (.int (zi mo)), some (.int (zi 0)), some (.int (zi s2)), some (.int (zi (bits + 1))), some (.int (zi z79))]) (S' := []) rfl ?_
                            exact gz_wk (ihlp39 h40 (bits + 1) z79 (by omega) sh40 (by omega) (by omega) (by omega) (by omega) lp39k0 lp39k1 lp39k2 lp39k3 lp39k4 lp39k5 lp39k6 lp39k7) (gLw.s (gLw.s (gLw.s (gLw.s (gLw.s (gLw.s (gLw.s (gLw.s gLw.z))))))))
                    have hp0 : pit pa (s2).toNat (0 : Int).toNat = (s2).toNat := rfl
                    have hl0 := l16 (s2).toNat (by omega)
                    exact gz_wk (lp39 _ h9 0 s2 (Nat.lt_succ_self _) sh9 (by omega) (by omega) (by omega) (by omega) lp8k0 lp8k1 lp8k2 lp8k3 lp8k4 lp8k5 lp8k6 lp8k7) (gLw.s (gLw.s (gLw.s (gLw.s (gLw.s (gLw.s (gLw.s (gLw.s gLw.z))))))))
              exact gz_wk (lp8 _ h6 0 (Nat.lt_succ_self _) sh6 (by omega) lp4k0 lp4k2 lp4k3 lp4k4 r1 r2 r3 (show gRn 514 ty 37 (eeJ (eSz (ehN w0) z0 0) z1) h6 from gRn.cg (eeJ_cg (fun x _ => (if_neg (by omega)).symm) (fun _ _ => rfl)) lp4k1)) (gLw.s (gLw.s (gLw.s (gLw.s (gLw.s (gLw.s (gLw.n (gLw.n gLw.z))))))))
            · refine gy_ifF rfl (by decide) (by decide) (by omega) hc7 ?_
              obtain ⟨wt, gr, pa, r1, r2, r3, emw⟩ := lp4k5
              refine gz_s 2 (pc' := 70) (L' := [some (.ref m), some (.int (zi wh)), some (.int (zi nd)), some (.int (zi mo)), none, none, none, none]) (S' := [.int (zi nd), .ref m]) rfl ?_
              refine gz_call rfl (by decide) rfl (by decide) (by decide) (gcal_of rfl rfl rfl (Nat.le_of_ble_eq_true rfl) (gJ.recv (G := gGG) sh6.1 tm rfl rfl)) (mw_leastNode _ sh6.1 m tm nd (by omega) wt gr pa uq r1 r2 r3) (fun q81 _ wq81 => ?_)
              obtain ⟨pq81, oq81, hq81⟩ := q81
              obtain ⟨xq81, zq81, gq81, aq81, bq81, uq81_0, uq81_1⟩ := wq81
              refine ⟨_, gq81, ?_⟩
              show gz gPP gGG gcn _ _ 73 [some (.ref m), some (.int (zi wh)), some (.int (zi nd)), some (.int (zi mo)), none, none, none, none] [.int (zi zq81)] hq81 _
              have sq81 := gSs.tr sh6 xq81 (by decide)
              have pr82 := gRn.fr xq81.2 (by decide) lp4k0
              have pr83 := gRn.fr xq81.2 (by decide) lp4k1
              have pr84 := gRn.fr xq81.2 (by decide) lp4k2
              have pr85 := gRn.fr xq81.2 (by decide) r1
              have pr86 := gRn.fr xq81.2 (by decide) r2
              have pr87 := gRn.fr xq81.2 (by decide) r3
              refine gz_s 1 (pc' := 75) (L' := [some (.ref m), some (.int (zi wh)), some (.int (zi nd)), some (.int (zi mo)), some (.int (zi zq81)), none, none, none]) (S' := []) rfl ?_
              obtain ⟨ha0, ha1, ha2, ha3⟩ := emw.a (a := zq81) (by omega) hw5 hw6 (by omega)
              refine gz_s 1 (pc' := 76) (L' := [some (.ref m), some (.int (zi wh)), some (.int (zi nd)), some (.int (zi mo)), some (.int (zi zq81)), none, none, none]) (S' := [.ref m]) rfl ?_
              refine gs_gtr rfl (by decide) rfl sq81.1 tm rfl rfl rfl (fun c88 ec88 tc88 => ?_)
              refine gz_s 2 (pc' := 82) (L' := [some (.ref m), some (.int (zi wh)), some (.int (zi nd)), some (.int (zi mo)), some (.int (zi zq81)), none, none, none]) (S' := [.int (zi nd), .int (zi zq81), .ref c88]) rfl ?_
              have hl89 : 514 ≤ hq81.2.2.2.1 c88 ∧ hq81.2.2.2.1 c88 ≤ 514 := gJ.rowl (G := gGG) sq81.1 tc88 rfl
              refine gs_ast rfl (by decide) sq81 tc88 rfl rfl rfl (by decide) (fun _ => rfl) (by omega) (by omega) (fun _ => (by decide : (41999 : Nat) ∈ ([37999, 38999, 39999, 40999, 41999] : List Nat))) (by omega) (by omega) (fun h90 sh90 eh90 fh90 => ?_)
              have pr91 := gRn.pt fh90 tc88 (by decide) pr82
              have pr92 := gRn.pt fh90 tc88 (by decide) pr83
              have pr93 := gRn.pt fh90 tc88 (by decide) pr84
              have pr94 := gRn.pt fh90 tc88 (by decide) pr85
              have pr95 := gRn.pt fh90 tc88 (by decide) pr86
              have pr96 := gRn.put (i := zq81) (z := nd) uq tc88 (by decide) fh90 eh90 (by omega) (by omega) pr87
              have s97 := (fh90 m 73 (fun q => absurd (((tm).symm.trans (congrArg ty q.1)).trans tc88) (by decide))).trans ec88
              have pr98 := gEl.set (i := zq81) (z := nd) uq tc88 (by decide) eh90 (by omega) (by omega)
              refine gz_s 2 (pc' := 85) (L' := [some (.ref m), some (.int (zi wh)), some (.int (zi nd)), some (.int (zi mo)), some (.int (zi zq81)), none, none, none]) (S' := [.int (zi nd), .ref m]) rfl ?_
              refine gz_call rfl (by decide) rfl (by decide) (by decide) (gcal_of rfl rfl rfl (Nat.le_of_ble_eq_true rfl) (gJ.recv (G := gGG) sh90.1 tm rfl rfl)) (mw_leastNode _ sh90.1 m tm nd (by omega) wt gr (gfu pa (zq81).toNat nd) uq pr94 pr95 pr96) (fun q99 _ wq99 => ?_)
              obtain ⟨pq99, oq99, hq99⟩ := q99
              obtain ⟨xq99, zq99, gq99, aq99, bq99, uq99_0, uq99_1⟩ := wq99
              refine ⟨_, gq99, ?_⟩
              show gz gPP gGG gcn _ _ 88 [some (.ref m), some (.int (zi wh)), some (.int (zi nd)), some (.int (zi mo)), some (.int (zi zq81)), none, none, none] [.int (zi zq99)] hq99 _
              have sq99 := gSs.tr sh90 xq99 (by decide)
              have s100 := (xq99.2.2.2.2.2 m 73 (by rw [tm]; decide)).trans s97
              have pr101 := gRn.fr xq99.2 (by decide) pr91
              have pr102 := gRn.fr xq99.2 (by decide) pr92
              have pr103 := gRn.fr xq99.2 (by decide) pr93
              have pr104 := gRn.fr xq99.2 (by decide) pr94
              have pr105 := gRn.fr xq99.2 (by decide) pr95
              have pr106 := gRn.fr xq99.2 (by decide) pr96
              have pr107 := gEl.fr xq99.2 (by decide) (fun _ => rfl) pr98
              refine gz_s 3 (pc' := 93) (L' := [some (.ref m), some (.int (zi wh)), some (.int (zi nd)), some (.int (zi mo)), some (.int (zi zq81)), some (.int (zi zq99)), none, none]) (S' := [.int (zi (-1)), .int (zi zq99)]) rfl ?_
              by_cases hc108 : (zq99 : Int) = (-1)
              · refine gy_icT (pc' := 100) rfl (by decide) (by decide) (by omega) (by omega) hc108 ?_
                refine gz_s 3 (pc' := 103) (L' := [some (.ref m), some (.int (zi wh)), some (.int (zi nd)), some (.int (zi 0)), some (.int (zi zq81)), some (.int (zi zq99)), none, none]) (S' := [.int (zi 0)]) rfl ?_
                refine gy_ifT (pc' := 181) rfl (by decide) (by decide) (by omega) (by first | (simp [zc]; done) | (simp only [zc]; omega)) ?_
                refine gz_s 1 (pc' := 182) (L' := [some (.ref m), some (.int (zi wh)), some (.int (zi nd)), some (.int (zi 0)), some (.int (zi zq81)), some (.int (zi zq99)), none, none]) (S' := [.ref m]) rfl ?_
                refine gs_gtk rfl (by decide) rfl sq99.1 tm rfl rfl s100 ?_
                refine gz_s 2 (pc' := 188) (L' := [some (.ref m), some (.int (zi wh)), some (.int (zi nd)), some (.int (zi 0)), some (.int (zi zq81)), some (.int (zi zq99)), none, none]) (S' := [.int (zi (-1)), .int (zi zq81), .ref c88]) rfl ?_
                have hl109 : 514 ≤ hq99.2.2.2.1 c88 ∧ hq99.2.2.2.1 c88 ≤ 514 := gJ.rowl (G := gGG) sq99.1 tc88 rfl
                refine gs_ast rfl (by decide) sq99 tc88 rfl rfl rfl (by decide) (fun _ => rfl) (by omega) (by omega) (fun _ => (by decide : (41999 : Nat) ∈ ([37999, 38999, 39999, 40999, 41999] : List Nat))) (by omega) (by omega) (fun h110 sh110 eh110 fh110 => ?_)
                have pr111 := gRn.pt fh110 tc88 (by decide) pr101
                have pr112 := gRn.pt fh110 tc88 (by decide) pr102
                have pr113 := gRn.pt fh110 tc88 (by decide) pr103
                have pr114 := gRn.pt fh110 tc88 (by decide) pr104
                have pr115 := gRn.pt fh110 tc88 (by decide) pr105
                have pr116 := gRn.put (i := zq81) (z := (-1)) uq tc88 (by decide) fh110 eh110 (by omega) (by omega) pr106
                have s117 := (fh110 m 73 (fun q => absurd (((tm).symm.trans (congrArg ty q.1)).trans tc88) (by decide))).trans s100
                have pr118 := gEl.set (i := zq81) (z := (-1)) uq tc88 (by decide) eh110 (by omega) (by omega)
                have hem119 : gEm ty w0 nd 0 h110 := ⟨wt, gr, pa, pr114, pr115, by have e9 := pr116; rw [gfu_back ha2.2] at e9; exact e9, emw.stop (a := zq81) (b := zq99) (by omega) ha0 ha1 ha2 ha3 (by omega) (by omega)⟩
                refine gz_s 1 (pc' := 64) (L' := [some (.ref m), some (.int (zi wh)), some (.int (zi nd)), some (.int (zi 0)), some (.int (zi zq81)), some (.int (zi zq99)), none, none]) (S' := []) rfl ?_
                exact gz_wk (ihlp4 h110 nd 0 (by omega) sh110 (by omega) (by omega) pr111 pr112 pr113 lp4k3 lp4k4 hem119) (gLw.s (gLw.s (gLw.s (gLw.s (gLw.n (gLw.n (gLw.n (gLw.n gLw.z))))))))
              · refine gy_icF rfl (by decide) (by decide) (by omega) (by omega) hc108 ?_
                refine gz_s 4 (pc' := 103) (L' := [some (.ref m), some (.int (zi wh)), some (.int (zi nd)), some (.int (zi 1)), some (.int (zi zq81)), some (.int (zi zq99)), none, none]) (S' := [.int (zi 1)]) rfl ?_
                refine gy_ifF rfl (by decide) (by decide) (by omega) (by first | (simp [zc]; done) | (simp only [zc]; omega)) ?_
                obtain ⟨⟨hb0, hb1, hb2, hb3⟩, hbj⟩ := emw.join (a := zq81) (b := zq99) (wa := 0) (wb := 0) (ga := 0) (gb := 0) (gm := 0) (by omega) hw5 hw4 hw6 ha0 ha1 ha2 ha3 (by omega) (by omega)
                refine gz_s 1 (pc' := 107) (L' := [some (.ref m), some (.int (zi wh)), some (.int (zi nd)), some (.int (zi 1)), some (.int (zi zq81)), some (.int (zi zq99)), none, none]) (S' := [.ref m]) rfl ?_
                refine gs_gtk rfl (by decide) rfl sq99.1 tm rfl rfl s100 ?_
                refine gz_s 2 (pc' := 113) (L' := [some (.ref m), some (.int (zi wh)), some (.int (zi nd)), some (.int (zi 1)), some (.int (zi zq81)), some (.int (zi zq99)), none, none]) (S' := [.int (zi nd), .int (zi zq99), .ref c88]) rfl ?_
                have hl120 : 514 ≤ hq99.2.2.2.1 c88 ∧ hq99.2.2.2.1 c88 ≤ 514 := gJ.rowl (G := gGG) sq99.1 tc88 rfl
                refine gs_ast rfl (by decide) sq99 tc88 rfl rfl rfl (by decide) (fun _ => rfl) (by omega) (by omega) (fun _ => (by decide : (41999 : Nat) ∈ ([37999, 38999, 39999, 40999, 41999] : List Nat))) (by omega) (by omega) (fun h121 sh121 eh121 fh121 => ?_)
                have pr122 := gRn.pt fh121 tc88 (by decide) pr101
                have pr123 := gRn.pt fh121 tc88 (by decide) pr102
                have pr124 := gRn.pt fh121 tc88 (by decide) pr103
                have pr125 := gRn.pt fh121 tc88 (by decide) pr104
                have pr126 := gRn.pt fh121 tc88 (by decide) pr105
                have pr127 := gRn.put (i := zq99) (z := nd) uq tc88 (by decide) fh121 eh121 (by omega) (by omega) pr106
                have s128 := (fh121 m 73 (fun q => absurd (((tm).symm.trans (congrArg ty q.1)).trans tc88) (by decide))).trans s100
                have pr129 := gEl.set (i := zq99) (z := nd) uq tc88 (by decide) eh121 (by omega) (by omega)
                refine gz_s 1 (pc' := 115) (L' := [some (.ref m), some (.int (zi wh)), some (.int (zi nd)), some (.int (zi 1)), some (.int (zi zq81)), some (.int (zi zq99)), none, none]) (S' := [.ref m]) rfl ?_
                refine gs_gtr rfl (by decide) rfl sh121.1 tm rfl rfl rfl (fun c130 ec130 tc130 => ?_)
                refine gz_s 2 (pc' := 120) (L' := [some (.ref m), some (.int (zi wh)), some (.int (zi nd)), some (.int (zi 1)), some (.int (zi zq81)), some (.int (zi zq99)), none, none]) (S' := [.ref m, .int (zi nd), .ref c130]) rfl ?_
                refine gs_gtk rfl (by decide) rfl sh121.1 tm rfl rfl ec130 ?_
                refine gz_s 1 (pc' := 125) (L' := [some (.ref m), some (.int (zi wh)), some (.int (zi nd)), some (.int (zi 1)), some (.int (zi zq81)), some (.int (zi zq99)), none, none]) (S' := [.int (zi zq81), .ref c130, .int (zi nd), .ref c130]) rfl ?_
                have hl131 : 514 ≤ h121.2.2.2.1 c130 ∧ h121.2.2.2.1 c130 ≤ 514 := gJ.rowl (G := gGG) sh121.1 tc130 rfl
                refine gs_ald rfl (by decide) sh121.1 tc130 rfl rfl rfl (by decide) (fun _ => rfl) (by omega) (by omega) (fun z132 ez132 az132 bz132 => ?_)
                have hf133 := gRn.at (i := zq81) (z := z132) pr125 tc130 ez132 (by omega) (by omega) (by omega)
                refine gz_s 1 (pc' := 127) (L' := [some (.ref m), some (.int (zi wh)), some (.int (zi nd)), some (.int (zi 1)), some (.int (zi zq81)), some (.int (zi zq99)), none, none]) (S' := [.ref m, .int (zi z132), .int (zi nd), .ref c130]) rfl ?_
                refine gs_gtk rfl (by decide) rfl sh121.1 tm rfl rfl ec130 ?_
                refine gz_s 1 (pc' := 132) (L' := [some (.ref m), some (.int (zi wh)), some (.int (zi nd)), some (.int (zi 1)), some (.int (zi zq81)), some (.int (zi zq99)), none, none]) (S' := [.int (zi zq99), .ref c130, .int (zi z132), .int (zi nd), .ref c130]) rfl ?_
                have hl134 : 514 ≤ h121.2.2.2.1 c130 ∧ h121.2.2.2.1 c130 ≤ 514 := gJ.rowl (G := gGG) sh121.1 tc130 rfl
                refine gs_ald rfl (by decide) sh121.1 tc130 rfl rfl rfl (by decide) (fun _ => rfl) (by omega) (by omega) (fun z135 ez135 az135 bz135 => ?_)
                have hf136 := gRn.at (i := zq99) (z := z135) pr125 tc130 ez135 (by omega) (by omega) (by omega)
                refine gy_s 1 (pc' := 134) (L' := [some (.ref m), some (.int (zi wh)), some (.int (zi nd)), some (.int (zi 1)), some (.int (zi zq81)), some (.int (zi zq99)), none, none]) (S' := [.int ((zi z132) + (zi z135)), .int (zi nd), .ref c130]) (L2 := [some (.ref m), some (.int (zi wh)), some (.int (zi nd)), some (.int (zi 1)), some (.int (zi zq81)), some (.int (zi zq99)), none, none]) (S2 := [.int (zi (z132 + z135)), .int (zi nd), .ref c130]) rfl (by simp only [zi_add, zi_sub, zi_mul, zi_neg, zi_and1, zi_and7, zi_and15, zi_and31, zi_and255]) (by simp only [zi_add, zi_sub, zi_mul, zi_neg, zi_and1, zi_and7, zi_and15, zi_and31, zi_and255]) ?_
                have hl137 : 514 ≤ h121.2.2.2.1 c130 ∧ h121.2.2.2.1 c130 ≤ 514 := gJ.rowl (G := gGG) sh121.1 tc130 rfl
                refine gs_ast rfl (by decide) sh121 tc130 rfl rfl rfl (by decide) (fun _ => rfl) (by omega) (by omega) (fun _ => (by decide : (39999 : Nat) ∈ ([37999, 38999, 39999, 40999, 41999] : List Nat))) (by omega) (by omega) (fun h138 sh138 eh138 fh138 => ?_)
                have pr139 := gRn.pt fh138 tc130 (by decide) pr122
                have pr140 := gRn.pt fh138 tc130 (by decide) pr123
                have pr141 := gRn.pt fh138 tc130 (by decide) pr124
                have pr142 := gRn.put (i := nd) (z := z132 + z135) uq tc130 (by decide) fh138 eh138 (by omega) (by omega) pr125
                have pr143 := gRn.pt fh138 tc130 (by decide) pr126
                have pr144 := gRn.pt fh138 tc130 (by decide) pr127
                have pr145 := gEl.pt fh138 tc130 (by decide) pr129
                have s146 := (fh138 m 73 (fun q => absurd (((tm).symm.trans (congrArg ty q.1)).trans tc130) (by decide))).trans s128
                have s147 := (fh138 m 71 (fun q => absurd (((tm).symm.trans (congrArg ty q.1)).trans tc130) (by decide))).trans ec130
                have pr148 := gEl.set (i := nd) (z := z132 + z135) uq tc130 (by decide) eh138 (by omega) (by omega)
                refine gz_s 1 (pc' := 136) (L' := [some (.ref m), some (.int (zi wh)), some (.int (zi nd)), some (.int (zi 1)), some (.int (zi zq81)), some (.int (zi zq99)), none, none]) (S' := [.ref m]) rfl ?_
                refine gs_gtr rfl (by decide) rfl sh138.1 tm rfl rfl rfl (fun c149 ec149 tc149 => ?_)
                refine gz_s 2 (pc' := 141) (L' := [some (.ref m), some (.int (zi wh)), some (.int (zi nd)), some (.int (zi 1)), some (.int (zi zq81)), some (.int (zi zq99)), none, none]) (S' := [.ref m, .int (zi nd), .ref c149]) rfl ?_
                refine gs_gtk rfl (by decide) rfl sh138.1 tm rfl rfl ec149 ?_
                refine gz_s 1 (pc' := 146) (L' := [some (.ref m), some (.int (zi wh)), some (.int (zi nd)), some (.int (zi 1)), some (.int (zi zq81)), some (.int (zi zq99)), none, none]) (S' := [.int (zi zq81), .ref c149, .int (zi nd), .ref c149]) rfl ?_
                have hl150 : 514 ≤ h138.2.2.2.1 c149 ∧ h138.2.2.2.1 c149 ≤ 514 := gJ.rowl (G := gGG) sh138.1 tc149 rfl
                refine gs_ald rfl (by decide) sh138.1 tc149 rfl rfl rfl (by decide) (fun _ => rfl) (by omega) (by omega) (fun z151 ez151 az151 bz151 => ?_)
                have hf152 := gRn.at (i := zq81) (z := z151) pr143 tc149 ez151 (by omega) (by omega) (by omega)
                refine gz_s 1 (pc' := 148) (L' := [some (.ref m), some (.int (zi wh)), some (.int (zi nd)), some (.int (zi 1)), some (.int (zi zq81)), some (.int (zi zq99)), none, none]) (S' := [.ref m, .int (zi z151), .int (zi nd), .ref c149]) rfl ?_
                refine gs_gtk rfl (by decide) rfl sh138.1 tm rfl rfl ec149 ?_
                refine gz_s 1 (pc' := 153) (L' := [some (.ref m), some (.int (zi wh)), some (.int (zi nd)), some (.int (zi 1)), some (.int (zi zq81)), some (.int (zi zq99)), none, none]) (S' := [.int (zi zq99), .ref c149, .int (zi z151), .int (zi nd), .ref c149]) rfl ?_
                have hl153 : 514 ≤ h138.2.2.2.1 c149 ∧ h138.2.2.2.1 c149 ≤ 514 := gJ.rowl (G := gGG) sh138.1 tc149 rfl
                refine gs_ald rfl (by decide) sh138.1 tc149 rfl rfl rfl (by decide) (fun _ => rfl) (by omega) (by omega) (fun z154 ez154 az154 bz154 => ?_)
                have hf155 := gRn.at (i := zq99) (z := z154) pr143 tc149 ez154 (by omega) (by omega) (by omega)
                by_cases hc156 : (z151 : Int) ≤ z154
                · refine gy_icT (pc' := 167) rfl (by decide) (by decide) (by omega) (by omega) hc156 ?_
                  refine gz_s 1 (pc' := 168) (L' := [some (.ref m), some (.int (zi wh)), some (.int (zi nd)), some (.int (zi 1)), some (.int (zi zq81)), some (.int (zi zq99)), none, none]) (S' := [.ref m, .int (zi nd), .ref c149]) rfl ?_
                  refine gs_gtk rfl (by decide) rfl sh138.1 tm rfl rfl ec149 ?_
                  refine gz_s 1 (pc' := 173) (L' := [some (.ref m), some (.int (zi wh)), some (.int (zi nd)), some (.int (zi 1)), some (.int (zi zq81)), some (.int (zi zq99)), none, none]) (S' := [.int (zi zq99), .ref c149, .int (zi nd), .ref c149]) rfl ?_
                  have hl157 : 514 ≤ h138.2.2.2.1 c149 ∧ h138.2.2.2.1 c149 ≤ 514 := gJ.rowl (G := gGG) sh138.1 tc149 rfl
                  refine gs_ald rfl (by decide) sh138.1 tc149 rfl rfl rfl (by decide) (fun _ => rfl) (by omega) (by omega) (fun z158 ez158 az158 bz158 => ?_)
                  have hf159 := gRn.at (i := zq99) (z := z158) pr143 tc149 ez158 (by omega) (by omega) (by omega)
                  have hl160 : 514 ≤ h138.2.2.2.1 c149 ∧ h138.2.2.2.1 c149 ≤ 514 := gJ.rowl (G := gGG) sh138.1 tc149 rfl
                  refine gs_ast rfl (by decide) sh138 tc149 rfl rfl rfl (by decide) (fun _ => rfl) (by omega) (by omega) (fun _ => (by decide : (40999 : Nat) ∈ ([37999, 38999, 39999, 40999, 41999] : List Nat))) (by omega) (by omega) (fun h161 sh161 eh161 fh161 => ?_)
                  have pr162 := gRn.pt fh161 tc149 (by decide) pr139
                  have pr163 := gRn.pt fh161 tc149 (by decide) pr140
                  have pr164 := gRn.pt fh161 tc149 (by decide) pr141
                  have pr165 := gRn.pt fh161 tc149 (by decide) pr142
                  have pr166 := gRn.put (i := nd) (z := z158) uq tc149 (by decide) fh161 eh161 (by omega) (by omega) pr143
                  have pr167 := gRn.pt fh161 tc149 (by decide) pr144
                  have pr168 := gEl.pt fh161 tc149 (by decide) pr145
                  have pr169 := gEl.pt fh161 tc149 (by decide) pr148
                  have s170 := (fh161 m 73 (fun q => absurd (((tm).symm.trans (congrArg ty q.1)).trans tc149) (by decide))).trans s146
                  have s171 := (fh161 m 71 (fun q => absurd (((tm).symm.trans (congrArg ty q.1)).trans tc149) (by decide))).trans s147
                  have s172 := (fh161 m 72 (fun q => absurd (((tm).symm.trans (congrArg ty q.1)).trans tc149) (by decide))).trans ec149
                  have pr173 := gEl.set (i := nd) (z := z158) uq tc149 (by decide) eh161 (by omega) (by omega)
                  have hem174 : gEm ty w0 (nd + 1) 1 h161 := ⟨_, _, _, pr165, pr166, pr167, hbj _ _ _ _ _ hf133 hf136 hf152 hf155 (by omega)⟩
                  refine gy_s 2 (pc' := 189) (L' := [some (.ref m), some (.int (zi wh)), some (.int ((zi nd) + zi 1)), some (.int (zi 1)), some (.int (zi zq81)), some (.int (zi zq99)), none, none]) (S' := []) (L2 := [some (.ref m), some (.int (zi wh)), some (.int (zi (nd + 1))), some (.int (zi 1)), some (.int (zi zq81)), some (.int (zi zq99)), none, none]) (S2 := []) rfl (by simp only [zi_add, zi_sub, zi_mul, zi_neg, zi_and1, zi_and7, zi_and15, zi_and31, zi_and255]) (by simp only [zi_add, zi_sub, zi_mul, zi_neg, zi_and1, zi_and7, zi_and15, zi_and31, zi_and255]) ?_
                  refine gz_s 1 (pc' := 64) (L' := [some (.ref m), some (.int (zi wh)), some (.int (zi (nd + 1))), some (.int (zi 1)), some (.int (zi zq81)), some (.int (zi zq99)), none, none]) (S' := []) rfl ?_
                  exact gz_wk (ihlp4 h161 (nd + 1) 1 (by omega) sh161 (by omega) (by omega) pr162 pr163 pr164 lp4k3 lp4k4 hem174) (gLw.s (gLw.s (gLw.s (gLw.s (gLw.n (gLw.n (gLw.n (gLw.n gLw.z))))))))
                · refine gy_icF rfl (by decide) (by decide) (by omega) (by omega) hc156 ?_
                  refine gz_s 1 (pc' := 158) (L' := [some (.ref m), some (.int (zi wh)), some (.int (zi nd)), some (.int (zi 1)), some (.int (zi zq81)), some (.int (zi zq99)), none, none]) (S' := [.ref m, .int (zi nd), .ref c149]) rfl ?_
                  refine gs_gtk rfl (by decide) rfl sh138.1 tm rfl rfl ec149 ?_
                  refine gz_s 1 (pc' := 163) (L' := [some (.ref m), some (.int (zi wh)), some (.int (zi nd)), some (.int (zi 1)), some (.int (zi zq81)), some (.int (zi zq99)), none, none]) (S' := [.int (zi zq81), .ref c149, .int (zi nd), .ref c149]) rfl ?_
                  have hl175 : 514 ≤ h138.2.2.2.1 c149 ∧ h138.2.2.2.1 c149 ≤ 514 := gJ.rowl (G := gGG) sh138.1 tc149 rfl
                  refine gs_ald rfl (by decide) sh138.1 tc149 rfl rfl rfl (by decide) (fun _ => rfl) (by omega) (by omega) (fun z176 ez176 az176 bz176 => ?_)
                  have hf177 := gRn.at (i := zq81) (z := z176) pr143 tc149 ez176 (by omega) (by omega) (by omega)
                  refine gz_s 1 (pc' := 174) (L' := [some (.ref m), some (.int (zi wh)), some (.int (zi nd)), some (.int (zi 1)), some (.int (zi zq81)), some (.int (zi zq99)), none, none]) (S' := [.int (zi z176), .int (zi nd), .ref c149]) rfl ?_
                  have hl178 : 514 ≤ h138.2.2.2.1 c149 ∧ h138.2.2.2.1 c149 ≤ 514 := gJ.rowl (G := gGG) sh138.1 tc149 rfl
                  refine gs_ast rfl (by decide) sh138 tc149 rfl rfl rfl (by decide) (fun _ => rfl) (by omega) (by omega) (fun _ => (by decide : (40999 : Nat) ∈ ([37999, 38999, 39999, 40999, 41999] : List Nat))) (by omega) (by omega) (fun h179 sh179 eh179 fh179 => ?_)
                  have pr180 := gRn.pt fh179 tc149 (by decide) pr139
                  have pr181 := gRn.pt fh179 tc149 (by decide) pr140
                  have pr182 := gRn.pt fh179 tc149 (by decide) pr141
                  have pr183 := gRn.pt fh179 tc149 (by decide) pr142
                  have pr184 := gRn.put (i := nd) (z := z176) uq tc149 (by decide) fh179 eh179 (by omega) (by omega) pr143
                  have pr185 := gRn.pt fh179 tc149 (by decide) pr144
                  have pr186 := gEl.pt fh179 tc149 (by decide) pr145
                  have pr187 := gEl.pt fh179 tc149 (by decide) pr148
                  have s188 := (fh179 m 73 (fun q => absurd (((tm).symm.trans (congrArg ty q.1)).trans tc149) (by decide))).trans s146
                  have s189 := (fh179 m 71 (fun q => absurd (((tm).symm.trans (congrArg ty q.1)).trans tc149) (by decide))).trans s147
                  have s190 := (fh179 m 72 (fun q => absurd (((tm).symm.trans (congrArg ty q.1)).trans tc149) (by decide))).trans ec149
                  have pr191 := gEl.set (i := nd) (z := z176) uq tc149 (by decide) eh179 (by omega) (by omega)
                  have hem192 : gEm ty w0 (nd + 1) 1 h179 := ⟨_, _, _, pr183, pr184, pr185, hbj _ _ _ _ _ hf133 hf136 hf152 hf155 (by omega)⟩
                  refine gy_s 2 (pc' := 189) (L' := [some (.ref m), some (.int (zi wh)), some (.int ((zi nd) + zi 1)), some (.int (zi 1)), some (.int (zi zq81)), some (.int (zi zq99)), none, none]) (S' := []) (L2 := [some (.ref m), some (.int (zi wh)), some (.int (zi (nd + 1))), some (.int (zi 1)), some (.int (zi zq81)), some (.int (zi zq99)), none, none]) (S2 := []) rfl (by simp only [zi_add, zi_sub, zi_mul, zi_neg, zi_and1, zi_and7, zi_and15, zi_and31, zi_and255]) (by simp only [zi_add, zi_sub, zi_mul, zi_neg, zi_and1, zi_and7, zi_and15, zi_and31, zi_and255]) ?_
                  refine gz_s 1 (pc' := 64) (L' := [some (.ref m), some (.int (zi wh)), some (.int (zi (nd + 1))), some (.int (zi 1)), some (.int (zi zq81)), some (.int (zi zq99)), none, none]) (S' := []) rfl ?_
                  exact gz_wk (ihlp4 h179 (nd + 1) 1 (by omega) sh179 (by omega) (by omega) pr180 pr181 pr182 lp4k3 lp4k4 hem192) (gLw.s (gLw.s (gLw.s (gLw.s (gLw.n (gLw.n (gLw.n (gLw.n gLw.z))))))))
        exact gz_wk (lp4 _ h2 257 1 (Nat.lt_succ_self _) sh2 (by omega) (by omega) lp1k0 lp1k1 lp1k2 lp1k3 lp1k4 hem5) (gLw.s (gLw.s (gLw.s (gLw.s (gLw.n (gLw.n (gLw.n (gLw.n gLw.z))))))))
      · refine gy_icF rfl (by decide) (by decide) (by omega) (by omega) hc3 ?_
        refine gz_s 1 (pc' := 14) (L' := [some (.ref m), some (.int (zi wh)), some (.int (zi 257)), some (.int (zi s)), none, none, none, none]) (S' := [.ref m]) rfl ?_
        refine gs_gtr rfl (by decide) rfl sh2.1 tm rfl rfl rfl (fun c193 ec193 tc193 => ?_)
        refine gz_s 3 (pc' := 22) (L' := [some (.ref m), some (.int (zi wh)), some (.int (zi 257)), some (.int (zi s)), none, none, none, none]) (S' := [.int (zi 257), .int (zi s), .int (zi s), .ref c193]) rfl ?_
        by_cases hc194 : (257 : Int) ≤ s
        · refine gy_icT (pc' := 40) rfl (by decide) (by decide) (by omega) (by omega) hc194 ?_
          refine gz_s 1 (pc' := 41) (L' := [some (.ref m), some (.int (zi wh)), some (.int (zi 257)), some (.int (zi s)), none, none, none, none]) (S' := [.int (zi 0), .int (zi s), .ref c193]) rfl ?_
          have hl195 : 514 ≤ h2.2.2.2.1 c193 ∧ h2.2.2.2.1 c193 ≤ 514 := gJ.rowl (G := gGG) sh2.1 tc193 rfl
          refine gs_ast rfl (by decide) sh2 tc193 rfl rfl rfl (by decide) (fun _ => rfl) (by omega) (by omega) (fun _ => (by decide : (39999 : Nat) ∈ ([37999, 38999, 39999, 40999, 41999] : List Nat))) (by omega) (by omega) (fun h196 sh196 eh196 fh196 => ?_)
          have pr197 := gRn.pt fh196 tc193 (by decide) lp1k0
          have pr198 := gRn.pt fh196 tc193 (by decide) lp1k1
          have pr199 := gRn.pt fh196 tc193 (by decide) lp1k2
          have pr200 := gRn.pt fh196 tc193 (by decide) lp1k6
          have pr201 := gRn.pt fh196 tc193 (by decide) lp1k7
          have s202 := (fh196 m 71 (fun q => absurd (((tm).symm.trans (congrArg ty q.1)).trans tc193) (by decide))).trans ec193
          have pr203 := gEl.set (i := s) (z := 0) uq tc193 (by decide) eh196 (by omega) (by omega)
          have hrw204 : gRn (s + 1).toNat ty 39 (ewz w0) h196 := gRn.ext (z := 0) uq tc193 (by decide) fh196 eh196 (by omega) (by omega) (by omega) (by show _ = if (s).toNat < 257 then _ else (0 : Int); rw [if_neg (by omega)]) lp1k5
          refine gz_s 1 (pc' := 43) (L' := [some (.ref m), some (.int (zi wh)), some (.int (zi 257)), some (.int (zi s)), none, none, none, none]) (S' := [.ref m]) rfl ?_
          refine gs_gtr rfl (by decide) rfl sh196.1 tm rfl rfl rfl (fun c205 ec205 tc205 => ?_)
          refine gz_s 2 (pc' := 48) (L' := [some (.ref m), some (.int (zi wh)), some (.int (zi 257)), some (.int (zi s)), none, none, none, none]) (S' := [.int (zi s), .int (zi s), .ref c205]) rfl ?_
          have hl206 : 514 ≤ h196.2.2.2.1 c205 ∧ h196.2.2.2.1 c205 ≤ 514 := gJ.rowl (G := gGG) sh196.1 tc205 rfl
          refine gs_ast rfl (by decide) sh196 tc205 rfl rfl rfl (by decide) (fun _ => rfl) (by omega) (by omega) (fun _ => (by decide : (40999 : Nat) ∈ ([37999, 38999, 39999, 40999, 41999] : List Nat))) (by omega) (by omega) (fun h207 sh207 eh207 fh207 => ?_)
          have pr208 := gRn.pt fh207 tc205 (by decide) pr197
          have pr209 := gRn.pt fh207 tc205 (by decide) pr198
          have pr210 := gRn.pt fh207 tc205 (by decide) pr199
          have pr211 := gRn.pt fh207 tc205 (by decide) pr201
          have pr212 := gEl.pt fh207 tc205 (by decide) pr203
          have pr213 := gRn.pt fh207 tc205 (by decide) hrw204
          have s214 := (fh207 m 71 (fun q => absurd (((tm).symm.trans (congrArg ty q.1)).trans tc205) (by decide))).trans s202
          have s215 := (fh207 m 72 (fun q => absurd (((tm).symm.trans (congrArg ty q.1)).trans tc205) (by decide))).trans ec205
          have pr216 := gEl.set (i := s) (z := s) uq tc205 (by decide) eh207 (by omega) (by omega)
          have hrw217 : gRn (s + 1).toNat ty 40 (fun j9 => (j9 : Int)) h207 := gRn.ext (z := s) uq tc205 (by decide) fh207 eh207 (by omega) (by omega) (by omega) (by show s = (((s).toNat : Nat) : Int); omega) pr200
          refine gz_s 1 (pc' := 50) (L' := [some (.ref m), some (.int (zi wh)), some (.int (zi 257)), some (.int (zi s)), none, none, none, none]) (S' := [.ref m]) rfl ?_
          refine gs_gtr rfl (by decide) rfl sh207.1 tm rfl rfl rfl (fun c218 ec218 tc218 => ?_)
          refine gz_s 2 (pc' := 55) (L' := [some (.ref m), some (.int (zi wh)), some (.int (zi 257)), some (.int (zi s)), none, none, none, none]) (S' := [.int (zi (-1)), .int (zi s), .ref c218]) rfl ?_
          have hl219 : 514 ≤ h207.2.2.2.1 c218 ∧ h207.2.2.2.1 c218 ≤ 514 := gJ.rowl (G := gGG) sh207.1 tc218 rfl
          refine gs_ast rfl (by decide) sh207 tc218 rfl rfl rfl (by decide) (fun _ => rfl) (by omega) (by omega) (fun _ => (by decide : (41999 : Nat) ∈ ([37999, 38999, 39999, 40999, 41999] : List Nat))) (by omega) (by omega) (fun h220 sh220 eh220 fh220 => ?_)
          have pr221 := gRn.pt fh220 tc218 (by decide) pr208
          have pr222 := gRn.pt fh220 tc218 (by decide) pr209
          have pr223 := gRn.pt fh220 tc218 (by decide) pr210
          have pr224 := gEl.pt fh220 tc218 (by decide) pr212
          have pr225 := gRn.pt fh220 tc218 (by decide) pr213
          have pr226 := gEl.pt fh220 tc218 (by decide) pr216
          have pr227 := gRn.pt fh220 tc218 (by decide) hrw217
          have s228 := (fh220 m 71 (fun q => absurd (((tm).symm.trans (congrArg ty q.1)).trans tc218) (by decide))).trans s214
          have s229 := (fh220 m 72 (fun q => absurd (((tm).symm.trans (congrArg ty q.1)).trans tc218) (by decide))).trans s215
          have s230 := (fh220 m 73 (fun q => absurd (((tm).symm.trans (congrArg ty q.1)).trans tc218) (by decide))).trans ec218
          have pr231 := gEl.set (i := s) (z := (-1)) uq tc218 (by decide) eh220 (by omega) (by omega)
          have hrw232 : gRn (s + 1).toNat ty 41 (fun _ => -1) h220 := gRn.ext (z := (-1)) uq tc218 (by decide) fh220 eh220 (by omega) (by omega) (by omega) rfl pr211
          refine gy_s 2 (pc' := 6) (L' := [some (.ref m), some (.int (zi wh)), some (.int (zi 257)), some (.int ((zi s) + zi 1)), none, none, none, none]) (S' := []) (L2 := [some (.ref m), some (.int (zi wh)), some (.int (zi 257)), some (.int (zi (s + 1))), none, none, none, none]) (S2 := []) rfl (by simp only [zi_add, zi_sub, zi_mul, zi_neg, zi_and1, zi_and7, zi_and15, zi_and31, zi_and255]) (by simp only [zi_add, zi_sub, zi_mul, zi_neg, zi_and1, zi_and7, zi_and15, zi_and31, zi_and255]) ?_
          exact gz_wk (ihlp1 h220 (s + 1) (by omega) sh220 (by omega) pr221 pr222 pr223 lp1k3 lp1k4 pr225 pr227 hrw232) (gLw.s (gLw.s (gLw.s (gLw.s (gLw.n (gLw.n (gLw.n (gLw.n gLw.z))))))))
        · refine gy_icF rfl (by decide) (by decide) (by omega) (by omega) hc194 ?_
          refine gz_s 1 (pc' := 26) (L' := [some (.ref m), some (.int (zi wh)), some (.int (zi 257)), some (.int (zi s)), none, none, none, none]) (S' := [.ref m, .int (zi s), .ref c193]) rfl ?_
          refine gs_gtr rfl (by decide) rfl sh2.1 tm rfl rfl rfl (fun c233 ec233 tc233 => ?_)
          refine gy_s 5 (pc' := 36) (L' := [some (.ref m), some (.int (zi wh)), some (.int (zi 257)), some (.int (zi s)), none, none, none, none]) (S' := [.int (((zi 257) * (zi wh)) + (zi s)), .ref c233, .int (zi s), .ref c193]) (L2 := [some (.ref m), some (.int (zi wh)), some (.int (zi 257)), some (.int (zi s)), none, none, none, none]) (S2 := [.int (zi ((257 * wh) + s)), .ref c233, .int (zi s), .ref c193]) rfl (by simp only [zi_add, zi_sub, zi_mul, zi_neg, zi_and1, zi_and7, zi_and15, zi_and31, zi_and255]) (by simp only [zi_add, zi_sub, zi_mul, zi_neg, zi_and1, zi_and7, zi_and15, zi_and31, zi_and255]) ?_
          have hl234 : 514 ≤ h2.2.2.2.1 c233 ∧ h2.2.2.2.1 c233 ≤ 514 := gJ.rowl (G := gGG) sh2.1 tc233 rfl
          refine gs_ald rfl (by decide) sh2.1 tc233 rfl rfl rfl (by decide) (fun _ => rfl) (by omega) (by omega) (fun z235 ez235 az235 bz235 => ?_)
          have hf236 := gRn.at (i := (257 * wh) + s) (z := z235) lp1k0 tc233 ez235 (by omega) (by omega) (by omega)
          have hwz : w0 (s).toNat = z235 := by have h9 := hf236; rw [show wh = 0 by omega, eeJ_a0 (by omega) (by omega)] at h9; exact h9
          have hwb9 := hywb.at (j := (s).toNat) (by omega)
          rw [hwz] at hwb9
          refine gz_s 1 (pc' := 41) (L' := [some (.ref m), some (.int (zi wh)), some (.int (zi 257)), some (.int (zi s)), none, none, none, none]) (S' := [.int (zi z235), .int (zi s), .ref c193]) rfl ?_
          have hl237 : 514 ≤ h2.2.2.2.1 c193 ∧ h2.2.2.2.1 c193 ≤ 514 := gJ.rowl (G := gGG) sh2.1 tc193 rfl
          refine gs_ast rfl (by decide) sh2 tc193 rfl rfl rfl (by decide) (fun _ => rfl) (by omega) (by omega) (fun _ => (by decide : (39999 : Nat) ∈ ([37999, 38999, 39999, 40999, 41999] : List Nat))) (by omega) (by omega) (fun h238 sh238 eh238 fh238 => ?_)
          have pr239 := gRn.pt fh238 tc193 (by decide) lp1k0
          have pr240 := gRn.pt fh238 tc193 (by decide) lp1k1
          have pr241 := gRn.pt fh238 tc193 (by decide) lp1k2
          have pr242 := gRn.pt fh238 tc193 (by decide) lp1k6
          have pr243 := gRn.pt fh238 tc193 (by decide) lp1k7
          have s244 := (fh238 m 71 (fun q => absurd (((tm).symm.trans (congrArg ty q.1)).trans tc193) (by decide))).trans ec193
          have s245 := (fh238 m 68 (fun q => absurd (((tm).symm.trans (congrArg ty q.1)).trans tc193) (by decide))).trans ec233
          have pr246 := gEl.set (i := s) (z := z235) uq tc193 (by decide) eh238 (by omega) (by omega)
          have hrw247 : gRn (s + 1).toNat ty 39 (ewz w0) h238 := gRn.ext (z := z235) uq tc193 (by decide) fh238 eh238 (by omega) (by omega) (by omega) (by show _ = if (s).toNat < 257 then w0 (s).toNat else (0 : Int); rw [if_pos (by omega)]; have h9 := hf236; rw [show wh = 0 by omega, eeJ_a0 (by omega) (by omega)] at h9; omega) lp1k5
          refine gz_s 1 (pc' := 43) (L' := [some (.ref m), some (.int (zi wh)), some (.int (zi 257)), some (.int (zi s)), none, none, none, none]) (S' := [.ref m]) rfl ?_
          refine gs_gtr rfl (by decide) rfl sh238.1 tm rfl rfl rfl (fun c248 ec248 tc248 => ?_)
          refine gz_s 2 (pc' := 48) (L' := [some (.ref m), some (.int (zi wh)), some (.int (zi 257)), some (.int (zi s)), none, none, none, none]) (S' := [.int (zi s), .int (zi s), .ref c248]) rfl ?_
          have hl249 : 514 ≤ h238.2.2.2.1 c248 ∧ h238.2.2.2.1 c248 ≤ 514 := gJ.rowl (G := gGG) sh238.1 tc248 rfl
          refine gs_ast rfl (by decide) sh238 tc248 rfl rfl rfl (by decide) (fun _ => rfl) (by omega) (by omega) (fun _ => (by decide : (40999 : Nat) ∈ ([37999, 38999, 39999, 40999, 41999] : List Nat))) (by omega) (by omega) (fun h250 sh250 eh250 fh250 => ?_)
          have pr251 := gRn.pt fh250 tc248 (by decide) pr239
          have pr252 := gRn.pt fh250 tc248 (by decide) pr240
          have pr253 := gRn.pt fh250 tc248 (by decide) pr241
          have pr254 := gRn.pt fh250 tc248 (by decide) pr243
          have pr255 := gEl.pt fh250 tc248 (by decide) pr246
          have pr256 := gRn.pt fh250 tc248 (by decide) hrw247
          have s257 := (fh250 m 71 (fun q => absurd (((tm).symm.trans (congrArg ty q.1)).trans tc248) (by decide))).trans s244
          have s258 := (fh250 m 68 (fun q => absurd (((tm).symm.trans (congrArg ty q.1)).trans tc248) (by decide))).trans s245
          have s259 := (fh250 m 72 (fun q => absurd (((tm).symm.trans (congrArg ty q.1)).trans tc248) (by decide))).trans ec248
          have pr260 := gEl.set (i := s) (z := s) uq tc248 (by decide) eh250 (by omega) (by omega)
          have hrw261 : gRn (s + 1).toNat ty 40 (fun j9 => (j9 : Int)) h250 := gRn.ext (z := s) uq tc248 (by decide) fh250 eh250 (by omega) (by omega) (by omega) (by show s = (((s).toNat : Nat) : Int); omega) pr242
          refine gz_s 1 (pc' := 50) (L' := [some (.ref m), some (.int (zi wh)), some (.int (zi 257)), some (.int (zi s)), none, none, none, none]) (S' := [.ref m]) rfl ?_
          refine gs_gtr rfl (by decide) rfl sh250.1 tm rfl rfl rfl (fun c262 ec262 tc262 => ?_)
          refine gz_s 2 (pc' := 55) (L' := [some (.ref m), some (.int (zi wh)), some (.int (zi 257)), some (.int (zi s)), none, none, none, none]) (S' := [.int (zi (-1)), .int (zi s), .ref c262]) rfl ?_
          have hl263 : 514 ≤ h250.2.2.2.1 c262 ∧ h250.2.2.2.1 c262 ≤ 514 := gJ.rowl (G := gGG) sh250.1 tc262 rfl
          refine gs_ast rfl (by decide) sh250 tc262 rfl rfl rfl (by decide) (fun _ => rfl) (by omega) (by omega) (fun _ => (by decide : (41999 : Nat) ∈ ([37999, 38999, 39999, 40999, 41999] : List Nat))) (by omega) (by omega) (fun h264 sh264 eh264 fh264 => ?_)
          have pr265 := gRn.pt fh264 tc262 (by decide) pr251
          have pr266 := gRn.pt fh264 tc262 (by decide) pr252
          have pr267 := gRn.pt fh264 tc262 (by decide) pr253
          have pr268 := gEl.pt fh264 tc262 (by decide) pr255
          have pr269 := gRn.pt fh264 tc262 (by decide) pr256
          have pr270 := gEl.pt fh264 tc262 (by decide) pr260
          have pr271 := gRn.pt fh264 tc262 (by decide) hrw261
          have s272 := (fh264 m 71 (fun q => absurd (((tm).symm.trans (congrArg ty q.1)).trans tc262) (by decide))).trans s257
          have s273 := (fh264 m 68 (fun q => absurd (((tm).symm.trans (congrArg ty q.1)).trans tc262) (by decide))).trans s258
          have s274 := (fh264 m 72 (fun q => absurd (((tm).symm.trans (congrArg ty q.1)).trans tc262) (by decide))).trans s259
          have s275 := (fh264 m 73 (fun q => absurd (((tm).symm.trans (congrArg ty q.1)).trans tc262) (by decide))).trans ec262
          have pr276 := gEl.set (i := s) (z := (-1)) uq tc262 (by decide) eh264 (by omega) (by omega)
          have hrw277 : gRn (s + 1).toNat ty 41 (fun _ => -1) h264 := gRn.ext (z := (-1)) uq tc262 (by decide) fh264 eh264 (by omega) (by omega) (by omega) rfl pr254
          refine gy_s 2 (pc' := 6) (L' := [some (.ref m), some (.int (zi wh)), some (.int (zi 257)), some (.int ((zi s) + zi 1)), none, none, none, none]) (S' := []) (L2 := [some (.ref m), some (.int (zi wh)), some (.int (zi 257)), some (.int (zi (s + 1))), none, none, none, none]) (S2 := []) rfl (by simp only [zi_add, zi_sub, zi_mul, zi_neg, zi_and1, zi_and7, zi_and15, zi_and31, zi_and255]) (by simp only [zi_add, zi_sub, zi_mul, zi_neg, zi_and1, zi_and7, zi_and15, zi_and31, zi_and255]) ?_
          exact gz_wk (ihlp1 h264 (s + 1) (by omega) sh264 (by omega) pr265 pr266 pr267 lp1k3 lp1k4 pr269 pr271 hrw277) (gLw.s (gLw.s (gLw.s (gLw.s (gLw.n (gLw.n (gLw.n (gLw.n gLw.z))))))))
  exact gz_wk (lp1 _ h 0 (Nat.lt_succ_self _) hS (by omega) hyf36 hyf37 hyf38 hywb hyw6 (gRn.nil (fun _ => rfl)) (gRn.nil (fun _ => rfl)) (gRn.nil (fun _ => rfl))) (gLw.s (gLw.s (gLw.s (gLw.s (gLw.n (gLw.n (gLw.n (gLw.n gLw.z))))))))
set_option maxRecDepth 20000 in
set_option maxHeartbeats 4000000 in
theorem mw_suit1 (d : Nat) {ty : Nat → Nat} {h : gH} (hJ : gJ rT 1027 ty h) (m : Nat) (tm : ty m = 1) (wh : Int) (rwh : 1 ≤ wh ∧ wh ≤ 1) (w0 w1 z0 z1 c0 c1 : Nat → Int) (uq : gUq ty) (hyf36 : gRn 514 ty 36 (eeJ w0 w1) h) (hyf37 : gRn 514 ty 37 (eeJ z0 z1) h) (hyf38 : gRn 514 ty 38 (eeJ c0 c1) h) (hywb : ewB w1 1999) (hyw6 : 0 < w1 256) : gz gPP gGG gcn (d + 1) gt201 0 (gent [.ref m, .int (zi wh)] 8) [] h (fun q _ => gSs rT 1027 ty [37999, 38999, 39999, 40999, 41999] h q.2.2 ∧ gfin gt201 q.1 q.2.1 = some none ∧ (gRn 514 ty 37 (eeJ z0 (ehN w1)) q.2.2) ∧ (gRn 514 ty 38 (eeJ c0 (eCd (ehN w1) c1 17 0)) q.2.2)) := by
  have hS : gSs rT 1027 ty [37999, 38999, 39999, 40999, 41999] h h := gSs.rf hJ
  have hw5 : ∀ x : Nat, x < 257 → 0 ≤ w1 x := fun x _ => hywb.1 x
  have hw4 := hywb.2
  have hw6 := hyw6
  refine gz_s 4 (pc' := 6) (L' := [some (.ref m), some (.int (zi wh)), some (.int (zi 257)), some (.int (zi 0)), none, none, none, none]) (S' := []) rfl ?_
  have lp1 : ∀ (fu : Nat) (h2 : gH) (s : Int), (515 - s).toNat < fu → gSs rT 1027 ty [37999, 38999, 39999, 40999, 41999] h h2 → (0 ≤ s ∧ s ≤ 514) → gRn 514 ty 36 (eeJ w0 w1) h2 → gRn 514 ty 37 (eeJ z0 z1) h2 → gRn 514 ty 38 (eeJ c0 c1) h2 → ewB w1 1999 → 0 < w1 256 → gRn (s).toNat ty 39 (ewz w1) h2 → gRn (s).toNat ty 40 (fun j9 => (j9 : Int)) h2 → gRn (s).toNat ty 41 (fun _ => -1) h2 → gz gPP gGG gcn (d + 1) gt201 6 [some (.ref m), some (.int (zi wh)), some (.int (zi 257)), some (.int (zi s)), none, none, none, none] [] h2 (fun q _ => gSs rT 1027 ty [37999, 38999, 39999, 40999, 41999] h q.2.2 ∧ gfin gt201 q.1 q.2.1 = some none ∧ (gRn 514 ty 37 (eeJ z0 (ehN w1)) q.2.2) ∧ (gRn 514 ty 38 (eeJ c0 (eCd (ehN w1) c1 17 0)) q.2.2)) := by
    intro fu
    induction fu with
    | zero => intro h2 s hm; exact absurd hm (Nat.not_lt_zero _)
    | succ fu ihlp1 =>
      intro h2 s lp1m sh2 lp1f0 lp1k0 lp1k1 lp1k2 lp1k3 lp1k4 lp1k5 lp1k6 lp1k7
      refine gz_s 2 (pc' := 10) (L' := [some (.ref m), some (.int (zi wh)), some (.int (zi 257)), some (.int (zi s)), none, none, none, none]) (S' := [.int (zi 514), .int (zi s)]) rfl ?_
      by_cases hc3 : (514 : Int) ≤ s
      · refine gy_icT (pc' := 62) rfl (by decide) (by decide) (by omega) (by omega) hc3 ?_
        refine gz_s 2 (pc' := 64) (L' := [some (.ref m), some (.int (zi wh)), some (.int (zi 257)), some (.int (zi 1)), none, none, none, none]) (S' := []) rfl ?_
        have hem5 : gEm ty w1 257 1 h2 := by
          have e1 := lp1k5
          have e2 := lp1k6
          have e3 := lp1k7
          rw [(by omega : (s).toNat = 514)] at e1 e2 e3
          exact ⟨_, _, _, e1, e2, e3, emW.zero hw6 (fun _ _ => rfl) (fun _ _ => rfl) (fun _ _ => rfl)⟩
        have lp4 : ∀ (fu : Nat) (h6 : gH) (nd : Int) (mo : Int), (2 * (514 - nd) + mo).toNat < fu → gSs rT 1027 ty [37999, 38999, 39999, 40999, 41999] h h6 → (257 ≤ nd ∧ nd ≤ 513) → (0 ≤ mo ∧ mo ≤ 1) → gRn 514 ty 36 (eeJ w0 w1) h6 → gRn 514 ty 37 (eeJ z0 z1) h6 → gRn 514 ty 38 (eeJ c0 c1) h6 → ewB w1 1999 → 0 < w1 256 → gEm ty w1 nd mo h6 → gz gPP gGG gcn (d + 1) gt201 64 [some (.ref m), some (.int (zi wh)), some (.int (zi nd)), some (.int (zi mo)), none, none, none, none] [] h6 (fun q _ => gSs rT 1027 ty [37999, 38999, 39999, 40999, 41999] h q.2.2 ∧ gfin gt201 q.1 q.2.1 = some none ∧ (gRn 514 ty 37 (eeJ z0 (ehN w1)) q.2.2) ∧ (gRn 514 ty 38 (eeJ c0 (eCd (ehN w1) c1 17 0)) q.2.2)) := by
          intro fu
          induction fu with
          | zero => intro h6 nd mo hm; exact absurd hm (Nat.not_lt_zero _)
          | succ fu ihlp4 =>
            intro h6 nd mo lp4m sh6 lp4f0 lp4f1 lp4k0 lp4k1 lp4k2 lp4k3 lp4k4 lp4k5
            refine gz_s 1 (pc' := 65) (L' := [some (.ref m), some (.int (zi wh)), some (.int (zi nd)), some (.int (zi mo)), none, none, none, none]) (S' := [.int (zi mo)]) rfl ?_
            by_cases hc7 : (mo : Int) = 0
            · refine gy_ifT (pc' := 192) rfl (by decide) (by decide) (by omega) hc7 ?_
              have emo : mo = 0 := by omega
              obtain ⟨wt, gr, pa, r1, r2, r3, emw⟩ := lp4k5
              rw [emo] at emw
              have l16 : ∀ j9 : Nat, j9 < 257 → 0 ≤ (ehN w1) j9 ∧ (ehN w1) j9 ≤ 16 := fun j9 hj9 => eh16 hw5 (by omega) 257 j9 hj9
              refine gz_s 4 (pc' := 198) (L' := [some (.ref m), some (.int (zi wh)), some (.int (zi nd)), some (.int (zi mo)), some (.int (zi 0)), some (.int (zi 0)), none, none]) (S' := []) rfl ?_
              have lp8 : ∀ (fu : Nat) (h9 : gH) (s2 : Int), (258 - s2).toNat < fu → gSs rT 1027 ty [37999, 38999, 39999, 40999, 41999] h h9 → (0 ≤ s2 ∧ s2 ≤ 257) → gRn 514 ty 36 (eeJ w0 w1) h9 → gRn 514 ty 38 (eeJ c0 c1) h9 → ewB w1 1999 → 0 < w1 256 → gRn 514 ty 39 wt h9 → gRn 514 ty 40 gr h9 → gRn 514 ty 41 pa h9 → gRn 514 ty 37 (eeJ z0 (eSz (ehN w1) z1 s2)) h9 → gz gPP gGG gcn (d + 1) gt201 198 [some (.ref m), some (.int (zi wh)), some (.int (zi nd)), some (.int (zi mo)), some (.int (zi 0)), some (.int (zi s2)), none, none] [] h9 (fun q _ => gSs rT 1027 ty [37999, 38999, 39999, 40999, 41999] h q.2.2 ∧ gfin gt201 q.1 q.2.1 = some none ∧ (gRn 514 ty 37 (eeJ z0 (ehN w1)) q.2.2) ∧ (gRn 514 ty 38 (eeJ c0 (eCd (ehN w1) c1 17 0)) q.2.2)) := by
                intro fu
                induction fu with
                | zero => intro h9 s2 hm; exact absurd hm (Nat.not_lt_zero _)
                | succ fu ihlp8 =>
                  intro h9 s2 lp8m sh9 lp8f0 lp8k0 lp8k1 lp8k2 lp8k3 lp8k4 lp8k5 lp8k6 lp8k7
                  refine gz_s 2 (pc' := 203) (L' := [some (.ref m), some (.int (zi wh)), some (.int (zi nd)), some (.int (zi mo)), some (.int (zi 0)), some (.int (zi s2)), none, none]) (S' := [.int (zi 257), .int (zi s2)]) rfl ?_
                  by_cases hc10 : (257 : Int) ≤ s2
                  · refine gy_icT (pc' := 270) rfl (by decide) (by decide) (by omega) (by omega) hc10 ?_
                    have hrw11 : gRn 514 ty 37 (eeJ z0 (ehN w1)) h9 := by
                      have e9 := lp8k7
                      rw [(by omega : s2 = 257)] at e9
                      exact gRn.cg (eeJ_cg (fun _ _ => rfl) eSz_f) e9
                    refine gz_s 2 (pc' := 273) (L' := [some (.ref m), some (.int (zi wh)), some (.int (zi nd)), some (.int (zi mo)), some (.int (zi 0)), some (.int (zi 1)), none, none]) (S' := []) rfl ?_
                    have lp12 : ∀ (fu : Nat) (h13 : gH) (cd : Int) (b1 : Int), (18 - b1).toNat < fu → gSs rT 1027 ty [37999, 38999, 39999, 40999, 41999] h h13 → (0 ≤ cd ∧ cd ≤ 33554432) → (1 ≤ b1 ∧ b1 ≤ 17) → (2 * cd = ekF (ehN w1) (b1).toNat) → gRn 514 ty 36 (eeJ w0 w1) h13 → ewB w1 1999 → 0 < w1 256 → gRn 514 ty 39 wt h13 → gRn 514 ty 40 gr h13 → gRn 514 ty 41 pa h13 → gRn 514 ty 37 (eeJ z0 (ehN w1)) h13 → gRn 514 ty 38 (eeJ c0 (eCd (ehN w1) c1 b1 0)) h13 → gz gPP gGG gcn (d + 1) gt201 273 [some (.ref m), some (.int (zi wh)), some (.int (zi nd)), some (.int (zi mo)), some (.int (zi cd)), some (.int (zi b1)), none, none] [] h13 (fun q _ => gSs rT 1027 ty [37999, 38999, 39999, 40999, 41999] h q.2.2 ∧ gfin gt201 q.1 q.2.1 = some none ∧ (gRn 514 ty 37 (eeJ z0 (ehN w1)) q.2.2) ∧ (gRn 514 ty 38 (eeJ c0 (eCd (ehN w1) c1 17 0)) q.2.2)) := by
                      intro fu
                      induction fu with
                      | zero => intro h13 cd b1 hm; exact absurd hm (Nat.not_lt_zero _)
                      | succ fu ihlp12 =>
                        intro h13 cd b1 lp12m sh13 lp12f0 lp12f1 lp12f2 lp12k0 lp12k1 lp12k2 lp12k3 lp12k4 lp12k5 lp12k6 lp12k7
                        refine gz_s 2 (pc' := 277) (L' := [some (.ref m), some (.int (zi wh)), some (.int (zi nd)), some (.int (zi mo)), some (.int (zi cd)), some (.int (zi b1)), none, none]) (S' := [.int (zi 16), .int (zi b1)]) rfl ?_
                        by_cases hc14 : (16 : Int) < b1
                        · refine gy_icT (pc' := 345) rfl (by decide) (by decide) (by omega) (by omega) hc14 ?_
                          have hrw15 : gRn 514 ty 38 (eeJ c0 (eCd (ehN w1) c1 17 0)) h13 := by have e9 := lp12k7; rw [(by omega : b1 = 17)] at e9; exact e9
                          exact gz_end (I := .return_) (len := 1) rfl (Or.inl rfl) ⟨sh13, rfl, lp12k6, hrw15⟩
                        · refine gy_icF rfl (by decide) (by decide) (by omega) (by omega) hc14 ?_
                          refine gy_s 4 (pc' := 286) (L' := [some (.ref m), some (.int (zi wh)), some (.int (zi nd)), some (.int (zi mo)), some (.int ((zi 2) * (zi cd))), some (.int (zi b1)), none, none]) (S' := []) (L2 := [some (.ref m), some (.int (zi wh)), some (.int (zi nd)), some (.int (zi mo)), some (.int (zi (2 * cd))), some (.int (zi b1)), none, none]) (S2 := []) rfl (by simp only [zi_add, zi_sub, zi_mul, zi_neg, zi_and1, zi_and7, zi_and15, zi_and31, zi_and255]) (by simp only [zi_add, zi_sub, zi_mul, zi_neg, zi_and1, zi_and7, zi_and15, zi_and31, zi_and255]) ?_
                          have hkf := ekF_b (ehN w1) (l := (b1).toNat) (by omega)
                          refine gz_s 2 (pc' := 289) (L' := [some (.ref m), some (.int (zi wh)), some (.int (zi nd)), some (.int (zi mo)), some (.int (zi (2 * cd))), some (.int (zi b1)), some (.int (zi 0)), none]) (S' := []) rfl ?_
                          have lp16 : ∀ (fu : Nat) (h17 : gH) (cd2 : Int) (s3 : Int), (257 - s3).toNat < fu → gSs rT 1027 ty [37999, 38999, 39999, 40999, 41999] h h17 → (0 ≤ cd2 ∧ cd2 ≤ 67109376) → (0 ≤ s3 ∧ s3 ≤ 256) → (cd2 = ekF (ehN w1) (b1).toNat + ekN (ehN w1) b1 (s3).toNat) → gRn 514 ty 36 (eeJ w0 w1) h17 → ewB w1 1999 → 0 < w1 256 → gRn 514 ty 39 wt h17 → gRn 514 ty 40 gr h17 → gRn 514 ty 41 pa h17 → gRn 514 ty 37 (eeJ z0 (ehN w1)) h17 → gRn 514 ty 38 (eeJ c0 (eCd (ehN w1) c1 b1 s3)) h17 → gz gPP gGG gcn (d + 1) gt201 289 [some (.ref m), some (.int (zi wh)), some (.int (zi nd)), some (.int (zi mo)), some (.int (zi cd2)), some (.int (zi b1)), some (.int (zi s3)), none] [] h17 (fun q _ => gSs rT 1027 ty [37999, 38999, 39999, 40999, 41999] h q.2.2 ∧ gfin gt201 q.1 q.2.1 = some none ∧ (gRn 514 ty 37 (eeJ z0 (ehN w1)) q.2.2) ∧ (gRn 514 ty 38 (eeJ c0 (eCd (ehN w1) c1 17 0)) q.2.2)) := by
                            intro fu
                            induction fu with
                            | zero => intro h17 cd2 s3 hm; exact absurd hm (Nat.not_lt_zero _)
                            | succ fu ihlp16 =>
                              intro h17 cd2 s3 lp16m sh17 lp16f0 lp16f1 lp16f2 lp16k0 lp16k1 lp16k2 lp16k3 lp16k4 lp16k5 lp16k6 lp16k7
                              refine gz_s 2 (pc' := 294) (L' := [some (.ref m), some (.int (zi wh)), some (.int (zi nd)), some (.int (zi mo)), some (.int (zi cd2)), some (.int (zi b1)), some (.int (zi s3)), none]) (S' := [.int (zi 256), .int (zi s3)]) rfl ?_
                              by_cases hc18 : (256 : Int) ≤ s3
                              · refine gy_icT (pc' := 339) rfl (by decide) (by decide) (by omega) (by omega) hc18 ?_
                                have hrw19 : gRn 514 ty 38 (eeJ c0 (eCd (ehN w1) c1 (b1 + 1) 0)) h17 := by
                                  have e9 := lp16k7
                                  rw [(by omega : s3 = 256), eCd_w] at e9
                                  exact e9
                                have hfn : ekF (ehN w1) (b1 + 1).toNat = 2 * (ekF (ehN w1) (b1).toNat + ekN (ehN w1) b1 256) := by
                                  obtain ⟨n9, hn9⟩ : ∃ n9 : Nat, (b1).toNat = n9 + 1 := ⟨(b1).toNat - 1, by omega⟩
                                  rw [(by omega : (b1 + 1).toNat = n9 + 2), hn9]
                                  show 2 * (ekF (ehN w1) (n9 + 1) + ekN (ehN w1) ((n9 + 1 : Nat) : Int) 256) = _
                                  rw [(by omega : ((n9 + 1 : Nat) : Int) = b1)]
                                have hkg := ekF_b (ehN w1) (l := (b1 + 1).toNat) (by omega)
                                have hn256 : ekN (ehN w1) b1 (s3).toNat = ekN (ehN w1) b1 256 := by rw [(by omega : (s3).toNat = 256)]
                                refine gy_s 2 (pc' := 273) (L' := [some (.ref m), some (.int (zi wh)), some (.int (zi nd)), some (.int (zi mo)), some (.int (zi cd2)), some (.int ((zi b1) + zi 1)), some (.int (zi s3)), none]) (S' := []) (L2 := [some (.ref m), some (.int (zi wh)), some (.int (zi nd)), some (.int (zi mo)), some (.int (zi cd2)), some (.int (zi (b1 + 1))), some (.int (zi s3)), none]) (S2 := []) rfl (by simp only [zi_add, zi_sub, zi_mul, zi_neg, zi_and1, zi_and7, zi_and15, zi_and31, zi_and255]) (by simp only [zi_add, zi_sub, zi_mul, zi_neg, zi_and1, zi_and7, zi_and15, zi_and31, zi_and255]) ?_
                                exact gz_wk (ihlp12 h17 cd2 (b1 + 1) (by omega) sh17 (by omega) (by omega) (by omega) lp16k0 lp16k1 lp16k2 lp16k3 lp16k4 lp16k5 lp16k6 hrw19) (gLw.s (gLw.s (gLw.s (gLw.s (gLw.s (gLw.s (gLw.n (gLw.n gLw.z))))))))
                              · refine gy_icF rfl (by decide) (by decide) (by omega) (by omega) hc18 ?_
                                refine gz_s 1 (pc' := 298) (L' := [some (.ref m), some (.int (zi wh)), some (.int (zi nd)), some (.int (zi mo)), some (.int (zi cd2)), some (.int (zi b1)), some (.int (zi s3)), none]) (S' := [.ref m]) rfl ?_
                                refine gs_gtr rfl (by decide) rfl sh17.1 tm rfl rfl rfl (fun c20 ec20 tc20 => ?_)
                                refine gy_s 5 (pc' := 309) (L' := [some (.ref m), some (.int (zi wh)), some (.int (zi nd)), some (.int (zi mo)), some (.int (zi cd2)), some (.int (zi b1)), some (.int (zi s3)), none]) (S' := [.int (((zi 257) * (zi wh)) + (zi s3)), .ref c20]) (L2 := [some (.ref m), some (.int (zi wh)), some (.int (zi nd)), some (.int (zi mo)), some (.int (zi cd2)), some (.int (zi b1)), some (.int (zi s3)), none]) (S2 := [.int (zi ((257 * wh) + s3)), .ref c20]) rfl (by simp only [zi_add, zi_sub, zi_mul, zi_neg, zi_and1, zi_and7, zi_and15, zi_and31, zi_and255]) (by simp only [zi_add, zi_sub, zi_mul, zi_neg, zi_and1, zi_and7, zi_and15, zi_and31, zi_and255]) ?_
                                have hl21 : 514 ≤ h17.2.2.2.1 c20 ∧ h17.2.2.2.1 c20 ≤ 514 := gJ.rowl (G := gGG) sh17.1 tc20 rfl
                                refine gs_ald rfl (by decide) sh17.1 tc20 rfl rfl rfl (by decide) (fun _ => rfl) (by omega) (by omega) (fun z22 ez22 az22 bz22 => ?_)
                                have hf23 := gRn.at (i := (257 * wh) + s3) (z := z22) lp16k6 tc20 ez22 (by omega) (by omega) (by omega)
                                have hls : (ehN w1) (s3).toNat = z22 := by have h9 := hf23; rw [show wh = 1 by omega, eeJ_a1 (by omega) (by omega)] at h9; exact h9
                                have hkb := ekN_b (ehN w1) b1 (s3).toNat
                                have hks : ekN (ehN w1) b1 (s3 + 1).toNat = ekN (ehN w1) b1 (s3).toNat + (if (ehN w1) (s3).toNat = b1 then 1 else 0) := by rw [(by omega : (s3 + 1).toNat = (s3).toNat + 1)]; rfl
                                refine gz_s 1 (pc' := 312) (L' := [some (.ref m), some (.int (zi wh)), some (.int (zi nd)), some (.int (zi mo)), some (.int (zi cd2)), some (.int (zi b1)), some (.int (zi s3)), none]) (S' := [.int (zi b1), .int (zi z22)]) rfl ?_
                                by_cases hc24 : ¬ (z22 : Int) = b1
                                · refine gy_icT (pc' := 333) rfl (by decide) (by decide) (by omega) (by omega) hc24 ?_
                                  have hrw25 : gRn 514 ty 38 (eeJ c0 (eCd (ehN w1) c1 b1 (s3 + 1))) h17 := by rw [← eCd_n (by omega) (by omega)]; exact lp16k7
                                  rw [if_neg (by omega)] at hks
                                  refine gy_s 2 (pc' := 289) (L' := [some (.ref m), some (.int (zi wh)), some (.int (zi nd)), some (.int (zi mo)), some (.int (zi cd2)), some (.int (zi b1)), some (.int ((zi s3) + zi 1)), none]) (S' := []) (L2 := [some (.ref m), some (.int (zi wh)), some (.int (zi nd)), some (.int (zi mo)), some (.int (zi cd2)), some (.int (zi b1)), some (.int (zi (s3 + 1))), none]) (S2 := []) rfl (by simp only [zi_add, zi_sub, zi_mul, zi_neg, zi_and1, zi_and7, zi_and15, zi_and31, zi_and255]) (by simp only [zi_add, zi_sub, zi_mul, zi_neg, zi_and1, zi_and7, zi_and15, zi_and31, zi_and255]) ?_
                                  exact gz_wk (ihlp16 h17 cd2 (s3 + 1) (by omega) sh17 (by omega) (by omega) (by omega) lp16k0 lp16k1 lp16k2 lp16k3 lp16k4 lp16k5 lp16k6 hrw25) (gLw.s (gLw.s (gLw.s (gLw.s (gLw.s (gLw.s (gLw.s (gLw.n gLw.z))))))))
                                · refine gy_icF rfl (by decide) (by decide) (by omega) (by omega) hc24 ?_
                                  refine gz_s 1 (pc' := 316) (L' := [some (.ref m), some (.int (zi wh)), some (.int (zi nd)), some (.int (zi mo)), some (.int (zi cd2)), some (.int (zi b1)), some (.int (zi s3)), none]) (S' := [.ref m]) rfl ?_
                                  refine gs_gtr rfl (by decide) rfl sh17.1 tm rfl rfl rfl (fun c26 ec26 tc26 => ?_)
                                  refine gy_s 6 (pc' := 329) (L' := [some (.ref m), some (.int (zi wh)), some (.int (zi nd)), some (.int (zi mo)), some (.int (zi cd2)), some (.int (zi b1)), some (.int (zi s3)), none]) (S' := [.int (zi cd2), .int (((zi 257) * (zi wh)) + (zi s3)), .ref c26]) (L2 := [some (.ref m), some (.int (zi wh)), some (.int (zi nd)), some (.int (zi mo)), some (.int (zi cd2)), some (.int (zi b1)), some (.int (zi s3)), none]) (S2 := [.int (zi cd2), .int (zi ((257 * wh) + s3)), .ref c26]) rfl (by simp only [zi_add, zi_sub, zi_mul, zi_neg, zi_and1, zi_and7, zi_and15, zi_and31, zi_and255]) (by simp only [zi_add, zi_sub, zi_mul, zi_neg, zi_and1, zi_and7, zi_and15, zi_and31, zi_and255]) ?_
                                  have hl27 : 514 ≤ h17.2.2.2.1 c26 ∧ h17.2.2.2.1 c26 ≤ 514 := gJ.rowl (G := gGG) sh17.1 tc26 rfl
                                  refine gs_ast rfl (by decide) sh17 tc26 rfl rfl rfl (by decide) (fun _ => rfl) (by omega) (by omega) (fun _ => (by decide : (38999 : Nat) ∈ ([37999, 38999, 39999, 40999, 41999] : List Nat))) (by omega) (by omega) (fun h28 sh28 eh28 fh28 => ?_)
                                  have pr29 := gRn.pt fh28 tc26 (by decide) lp16k0
                                  have pr30 := gRn.pt fh28 tc26 (by decide) lp16k3
                                  have pr31 := gRn.pt fh28 tc26 (by decide) lp16k4
                                  have pr32 := gRn.pt fh28 tc26 (by decide) lp16k5
                                  have pr33 := gRn.pt fh28 tc26 (by decide) lp16k6
                                  have pr34 := gRn.put (i := (257 * wh) + s3) (z := cd2) uq tc26 (by decide) fh28 eh28 (by omega) (by omega) lp16k7
                                  have s35 := (fh28 m 69 (fun q => absurd (((tm).symm.trans (congrArg ty q.1)).trans tc26) (by decide))).trans ec20
                                  have s36 := (fh28 m 70 (fun q => absurd (((tm).symm.trans (congrArg ty q.1)).trans tc26) (by decide))).trans ec26
                                  have pr37 := gEl.set (i := (257 * wh) + s3) (z := cd2) uq tc26 (by decide) eh28 (by omega) (by omega)
                                  refine gy_s 1 (pc' := 333) (L' := [some (.ref m), some (.int (zi wh)), some (.int (zi nd)), some (.int (zi mo)), some (.int ((zi cd2) + zi 1)), some (.int (zi b1)), some (.int (zi s3)), none]) (S' := []) (L2 := [some (.ref m), some (.int (zi wh)), some (.int (zi nd)), some (.int (zi mo)), some (.int (zi (cd2 + 1))), some (.int (zi b1)), some (.int (zi s3)), none]) (S2 := []) rfl (by simp only [zi_add, zi_sub, zi_mul, zi_neg, zi_and1, zi_and7, zi_and15, zi_and31, zi_and255]) (by simp only [zi_add, zi_sub, zi_mul, zi_neg, zi_and1, zi_and7, zi_and15, zi_and31, zi_and255]) ?_
                                  have hrw38 : gRn 514 ty 38 (eeJ c0 (eCd (ehN w1) c1 b1 (s3 + 1))) h28 := by
                                    have e9 := pr34
                                    rw [show wh = 1 by omega, eeJ_p1 (by omega) (by omega), eCd_y (by omega) (by omega) (by omega) (by omega) (by omega)] at e9
                                    exact e9
                                  rw [if_pos (by omega)] at hks
                                  refine gy_s 2 (pc' := 289) (L' := [some (.ref m), some (.int (zi wh)), some (.int (zi nd)), some (.int (zi mo)), some (.int (zi (cd2 + 1))), some (.int (zi b1)), some (.int ((zi s3) + zi 1)), none]) (S' := []) (L2 := [some (.ref m), some (.int (zi wh)), some (.int (zi nd)), some (.int (zi mo)), some (.int (zi (cd2 + 1))), some (.int (zi b1)), some (.int (zi (s3 + 1))), none]) (S2 := []) rfl (by simp only [zi_add, zi_sub, zi_mul, zi_neg, zi_and1, zi_and7, zi_and15, zi_and31, zi_and255]) (by simp only [zi_add, zi_sub, zi_mul, zi_neg, zi_and1, zi_and7, zi_and15, zi_and31, zi_and255]) ?_
                                  exact gz_wk (ihlp16 h28 (cd2 + 1) (s3 + 1) (by omega) sh28 (by omega) (by omega) (by omega) pr29 lp16k1 lp16k2 pr30 pr31 pr32 pr33 hrw38) (gLw.s (gLw.s (gLw.s (gLw.s (gLw.s (gLw.s (gLw.s (gLw.n gLw.z))))))))
                          have hn0 : ekN (ehN w1) b1 (0 : Int).toNat = 0 := rfl
                          exact gz_wk (lp16 _ h13 (2 * cd) 0 (Nat.lt_succ_self _) sh13 (by omega) (by omega) (by omega) lp12k0 lp12k1 lp12k2 lp12k3 lp12k4 lp12k5 lp12k6 lp12k7) (gLw.s (gLw.s (gLw.s (gLw.s (gLw.s (gLw.s (gLw.s (gLw.n gLw.z))))))))
                    have hf0 : ekF (ehN w1) (1 : Int).toNat = 0 := rfl
                    exact gz_wk (lp12 _ h9 0 1 (Nat.lt_succ_self _) sh9 (by omega) (by omega) (by omega) lp8k0 lp8k2 lp8k3 lp8k4 lp8k5 lp8k6 hrw11 (show gRn 514 ty 38 (eeJ c0 (eCd (ehN w1) c1 1 0)) h9 by rw [eCd_0]; exact lp8k1)) (gLw.s (gLw.s (gLw.s (gLw.s (gLw.s (gLw.s (gLw.n (gLw.n gLw.z))))))))
                  · refine gy_icF rfl (by decide) (by decide) (by omega) (by omega) hc10 ?_
                    refine gz_s 4 (pc' := 213) (L' := [some (.ref m), some (.int (zi wh)), some (.int (zi nd)), some (.int (zi mo)), some (.int (zi 0)), some (.int (zi s2)), some (.int (zi 0)), some (.int (zi s2))]) (S' := []) rfl ?_
                    have lp39 : ∀ (fu : Nat) (h40 : gH) (bits : Int) (kk : Int), (17 - bits).toNat < fu → gSs rT 1027 ty [37999, 38999, 39999, 40999, 41999] h h40 → (0 ≤ bits ∧ bits ≤ 16) → (0 ≤ kk ∧ kk ≤ 512) → (bits ≤ (ehN w1) (s2).toNat) → ((kk).toNat = pit pa (s2).toNat (bits).toNat) → gRn 514 ty 36 (eeJ w0 w1) h40 → gRn 514 ty 38 (eeJ c0 c1) h40 → ewB w1 1999 → 0 < w1 256 → gRn 514 ty 39 wt h40 → gRn 514 ty 40 gr h40 → gRn 514 ty 41 pa h40 → gRn 514 ty 37 (eeJ z0 (eSz (ehN w1) z1 s2)) h40 → gz gPP gGG gcn (d + 1) gt201 213 [some (.ref m), some (.int (zi wh)), some (.int (zi nd)), some (.int (zi mo)), some (.int (zi 0)), some (.int (zi s2)), some (.int (zi bits)), some (.int (zi kk))] [] h40 (fun q _ => gSs rT 1027 ty [37999, 38999, 39999, 40999, 41999] h q.2.2 ∧ gfin gt201 q.1 q.2.1 = some none ∧ (gRn 514 ty 37 (eeJ z0 (ehN w1)) q.2.2) ∧ (gRn 514 ty 38 (eeJ c0 (eCd (ehN w1) c1 17 0)) q.2.2)) := by
                      intro fu
                      induction fu with
                      | zero => intro h40 bits kk hm; exact absurd hm (Nat.not_lt_zero _)
                      | succ fu ihlp39 =>
                        intro h40 bits kk lp39m sh40 lp39f0 lp39f1 lp39f2 lp39f3 lp39k0 lp39k1 lp39k2 lp39k3 lp39k4 lp39k5 lp39k6 lp39k7
                        have hl1 := l16 (s2).toNat (by omega)
                        refine gz_s 1 (pc' := 214) (L' := [some (.ref m), some (.int (zi wh)), some (.int (zi nd)), some (.int (zi mo)), some (.int (zi 0)), some (.int (zi s2)), some (.int (zi bits)), some (.int (zi kk))]) (S' := [.ref m]) rfl ?_
                        refine gs_gtr rfl (by decide) rfl sh40.1 tm rfl rfl rfl (fun c41 ec41 tc41 => ?_)
                        refine gz_s 1 (pc' := 219) (L' := [some (.ref m), some (.int (zi wh)), some (.int (zi nd)), some (.int (zi mo)), some (.int (zi 0)), some (.int (zi s2)), some (.int (zi bits)), some (.int (zi kk))]) (S' := [.int (zi s2), .ref c41]) rfl ?_
                        have hl42 : 514 ≤ h40.2.2.2.1 c41 ∧ h40.2.2.2.1 c41 ≤ 514 := gJ.rowl (G := gGG) sh40.1 tc41 rfl
                        refine gs_ald rfl (by decide) sh40.1 tc41 rfl rfl rfl (by decide) (fun _ => rfl) (by omega) (by omega) (fun z43 ez43 az43 bz43 => ?_)
                        have hf44 := gRn.at (i := s2) (z := z43) lp39k4 tc41 ez43 (by omega) (by omega) (by omega)
                        by_cases hc45 : (z43 : Int) ≤ 0
                        · refine gy_ifT (pc' := 249) rfl (by decide) (by decide) (by omega) hc45 ?_
                          refine gz_s 1 (pc' := 250) (L' := [some (.ref m), some (.int (zi wh)), some (.int (zi nd)), some (.int (zi mo)), some (.int (zi 0)), some (.int (zi s2)), some (.int (zi bits)), some (.int (zi kk))]) (S' := [.ref m]) rfl ?_
                          refine gs_gtr rfl (by decide) rfl sh40.1 tm rfl rfl rfl (fun c46 ec46 tc46 => ?_)
                          refine gy_s 6 (pc' := 263) (L' := [some (.ref m), some (.int (zi wh)), some (.int (zi nd)), some (.int (zi mo)), some (.int (zi 0)), some (.int (zi s2)), some (.int (zi bits)), some (.int (zi kk))]) (S' := [.int (zi bits), .int (((zi 257) * (zi wh)) + (zi s2)), .ref c46]) (L2 := [some (.ref m), some (.int (zi wh)), some (.int (zi nd)), some (.int (zi mo)), some (.int (zi 0)), some (.int (zi s2)), some (.int (zi bits)), some (.int (zi kk))]) (S2 := [.int (zi bits), .int (zi ((257 * wh) + s2)), .ref c46]) rfl (by simp only [zi_add, zi_sub, zi_mul, zi_neg, zi_and1, zi_and7, zi_and15, zi_and31, zi_and255]) (by simp only [zi_add, zi_sub, zi_mul, zi_neg, zi_and1, zi_and7, zi_and15, zi_and31, zi_and255]) ?_
                          have hl47 : 514 ≤ h40.2.2.2.1 c46 ∧ h40.2.2.2.1 c46 ≤ 514 := gJ.rowl (G := gGG) sh40.1 tc46 rfl
                          refine gs_ast rfl (by decide) sh40 tc46 rfl rfl rfl (by decide) (fun _ => rfl) (by omega) (by omega) (fun _ => (by decide : (37999 : Nat) ∈ ([37999, 38999, 39999, 40999, 41999] : List Nat))) (by omega) (by omega) (fun h48 sh48 eh48 fh48 => ?_)
                          have pr49 := gRn.pt fh48 tc46 (by decide) lp39k0
                          have pr50 := gRn.pt fh48 tc46 (by decide) lp39k1
                          have pr51 := gRn.pt fh48 tc46 (by decide) lp39k4
                          have pr52 := gRn.pt fh48 tc46 (by decide) lp39k5
                          have pr53 := gRn.pt fh48 tc46 (by decide) lp39k6
                          have pr54 := gRn.put (i := (257 * wh) + s2) (z := bits) uq tc46 (by decide) fh48 eh48 (by omega) (by omega) lp39k7
                          have s55 := (fh48 m 71 (fun q => absurd (((tm).symm.trans (congrArg ty q.1)).trans tc46) (by decide))).trans ec41
                          have s56 := (fh48 m 69 (fun q => absurd (((tm).symm.trans (congrArg ty q.1)).trans tc46) (by decide))).trans ec46
                          have pr57 := gEl.set (i := (257 * wh) + s2) (z := bits) uq tc46 (by decide) eh48 (by omega) (by omega)
                          have hsz : bits = (ehN w1) (s2).toNat := by
                            by_cases c9 : 0 < wt (s2).toNat
                            · first | omega | (have h8 := hdp.2.1 (by omega); omega)
                            · have h8 := emw.n0 (s := s2) hw5 ⟨by omega, by omega⟩ c9; omega
                          have hrw58 : gRn 514 ty 37 (eeJ z0 (eSz (ehN w1) z1 (s2 + 1))) h48 := by
                            have e9 := pr54
                            rw [show wh = 1 by omega, eeJ_p1 (by omega) (by omega), eSz_p (by omega) hsz] at e9
                            exact e9
                          refine gy_s 2 (pc' := 198) (L' := [some (.ref m), some (.int (zi wh)), some (.int (zi nd)), some (.int (zi mo)), some (.int (zi 0)), some (.int ((zi s2) + zi 1)), some (.int (zi bits)), some (.int (zi kk))]) (S' := []) (L2 := [some (.ref m), some (.int (zi wh)), some (.int (zi nd)), some (.int (zi mo)), some (.int (zi 0)), some (.int (zi (s2 + 1))), some (.int (zi bits)), some (.int (zi kk))]) (S2 := []) rfl (by simp only [zi_add, zi_sub, zi_mul, zi_neg, zi_and1, zi_and7, zi_and15, zi_and31, zi_and255]) (by simp only [zi_add, zi_sub, zi_mul, zi_neg, zi_and1, zi_and7, zi_and15, zi_and31, zi_and255]) ?_
                          exact gz_wk (ihlp8 h48 (s2 + 1) (by omega) sh48 (by omega) pr49 pr50 lp39k2 lp39k3 pr51 pr52 pr53 hrw58) (gLw.s (gLw.s (gLw.s (gLw.s (gLw.s (gLw.s (gLw.n (gLw.n gLw.z))))))))
                        · refine gy_ifF rfl (by decide) (by decide) (by omega) hc45 ?_
                          refine gz_s 1 (pc' := 224) (L' := [some (.ref m), some (.int (zi wh)), some (.int (zi nd)), some (.int (zi mo)), some (.int (zi 0)), some (.int (zi s2)), some (.int (zi bits)), some (.int (zi kk))]) (S' := [.ref m]) rfl ?_
                          refine gs_gtr rfl (by decide) rfl sh40.1 tm rfl rfl rfl (fun c59 ec59 tc59 => ?_)
                          refine gz_s 1 (pc' := 229) (L' := [some (.ref m), some (.int (zi wh)), some (.int (zi nd)), some (.int (zi mo)), some (.int (zi 0)), some (.int (zi s2)), some (.int (zi bits)), some (.int (zi kk))]) (S' := [.int (zi kk), .ref c59]) rfl ?_
                          have hl60 : 514 ≤ h40.2.2.2.1 c59 ∧ h40.2.2.2.1 c59 ≤ 514 := gJ.rowl (G := gGG) sh40.1 tc59 rfl
                          refine gs_ald rfl (by decide) sh40.1 tc59 rfl rfl rfl (by decide) (fun _ => rfl) (by omega) (by omega) (fun z61 ez61 az61 bz61 => ?_)
                          have hf62 := gRn.at (i := kk) (z := z61) lp39k6 tc59 ez61 (by omega) (by omega) (by omega)
                          have hdp := emw.dp (s := s2) (k := kk) (i := (bits).toNat) ⟨by omega, by omega⟩ hw5 ⟨by omega, by omega⟩ (by have h9 := hf44; omega) (by omega) (by omega)
                          rw [hf62] at hdp
                          refine gz_s 1 (pc' := 231) (L' := [some (.ref m), some (.int (zi wh)), some (.int (zi nd)), some (.int (zi mo)), some (.int (zi 0)), some (.int (zi s2)), some (.int (zi bits)), some (.int (zi kk))]) (S' := [.int (zi (-1)), .int (zi z61)]) rfl ?_
                          by_cases hc63 : (z61 : Int) = (-1)
                          · refine gy_icT (pc' := 249) rfl (by decide) (by decide) (by omega) (by omega) hc63 ?_
                            refine gz_s 1 (pc' := 250) (L' := [some (.ref m), some (.int (zi wh)), some (.int (zi nd)), some (.int (zi mo)), some (.int (zi 0)), some (.int (zi s2)), some (.int (zi bits)), some (.int (zi kk))]) (S' := [.ref m]) rfl ?_
                            refine gs_gtr rfl (by decide) rfl sh40.1 tm rfl rfl rfl (fun c64 ec64 tc64 => ?_)
                            refine gy_s 6 (pc' := 263) (L' := [some (.ref m), some (.int (zi wh)), some (.int (zi nd)), some (.int (zi mo)), some (.int (zi 0)), some (.int (zi s2)), some (.int (zi bits)), some (.int (zi kk))]) (S' := [.int (zi bits), .int (((zi 257) * (zi wh)) + (zi s2)), .ref c64]) (L2 := [some (.ref m), some (.int (zi wh)), some (.int (zi nd)), some (.int (zi mo)), some (.int (zi 0)), some (.int (zi s2)), some (.int (zi bits)), some (.int (zi kk))]) (S2 := [.int (zi bits), .int (zi ((257 * wh) + s2)), .ref c64]) rfl (by simp only [zi_add, zi_sub, zi_mul, zi_neg, zi_and1, zi_and7, zi_and15, zi_and31, zi_and255]) (by simp only [zi_add, zi_sub, zi_mul, zi_neg, zi_and1, zi_and7, zi_and15, zi_and31, zi_and255]) ?_
                            have hl65 : 514 ≤ h40.2.2.2.1 c64 ∧ h40.2.2.2.1 c64 ≤ 514 := gJ.rowl (G := gGG) sh40.1 tc64 rfl
                            refine gs_ast rfl (by decide) sh40 tc64 rfl rfl rfl (by decide) (fun _ => rfl) (by omega) (by omega) (fun _ => (by decide : (37999 : Nat) ∈ ([37999, 38999, 39999, 40999, 41999] : List Nat))) (by omega) (by omega) (fun h66 sh66 eh66 fh66 => ?_)
                            have pr67 := gRn.pt fh66 tc64 (by decide) lp39k0
                            have pr68 := gRn.pt fh66 tc64 (by decide) lp39k1
                            have pr69 := gRn.pt fh66 tc64 (by decide) lp39k4
                            have pr70 := gRn.pt fh66 tc64 (by decide) lp39k5
                            have pr71 := gRn.pt fh66 tc64 (by decide) lp39k6
                            have pr72 := gRn.put (i := (257 * wh) + s2) (z := bits) uq tc64 (by decide) fh66 eh66 (by omega) (by omega) lp39k7
                            have s73 := (fh66 m 71 (fun q => absurd (((tm).symm.trans (congrArg ty q.1)).trans tc64) (by decide))).trans ec41
                            have s74 := (fh66 m 73 (fun q => absurd (((tm).symm.trans (congrArg ty q.1)).trans tc64) (by decide))).trans ec59
                            have s75 := (fh66 m 69 (fun q => absurd (((tm).symm.trans (congrArg ty q.1)).trans tc64) (by decide))).trans ec64
                            have pr76 := gEl.set (i := (257 * wh) + s2) (z := bits) uq tc64 (by decide) eh66 (by omega) (by omega)
                            have hsz : bits = (ehN w1) (s2).toNat := by
                              by_cases c9 : 0 < wt (s2).toNat
                              · first | omega | (have h8 := hdp.2.1 (by omega); omega)
                              · have h8 := emw.n0 (s := s2) hw5 ⟨by omega, by omega⟩ c9; omega
                            have hrw77 : gRn 514 ty 37 (eeJ z0 (eSz (ehN w1) z1 (s2 + 1))) h66 := by
                              have e9 := pr72
                              rw [show wh = 1 by omega, eeJ_p1 (by omega) (by omega), eSz_p (by omega) hsz] at e9
                              exact e9
                            refine gy_s 2 (pc' := 198) (L' := [some (.ref m), some (.int (zi wh)), some (.int (zi nd)), some (.int (zi mo)), some (.int (zi 0)), some (.int ((zi s2) + zi 1)), some (.int (zi bits)), some (.int (zi kk))]) (S' := []) (L2 := [some (.ref m), some (.int (zi wh)), some (.int (zi nd)), some (.int (zi mo)), some (.int (zi 0)), some (.int (zi (s2 + 1))), some (.int (zi bits)), some (.int (zi kk))]) (S2 := []) rfl (by simp only [zi_add, zi_sub, zi_mul, zi_neg, zi_and1, zi_and7, zi_and15, zi_and31, zi_and255]) (by simp only [zi_add, zi_sub, zi_mul, zi_neg, zi_and1, zi_and7, zi_and15, zi_and31, zi_and255]) ?_
                            exact gz_wk (ihlp8 h66 (s2 + 1) (by omega) sh66 (by omega) pr67 pr68 lp39k2 lp39k3 pr69 pr70 pr71 hrw77) (gLw.s (gLw.s (gLw.s (gLw.s (gLw.s (gLw.s (gLw.n (gLw.n gLw.z))))))))
                          · refine gy_icF rfl (by decide) (by decide) (by omega) (by omega) hc63 ?_
                            refine gy_s 2 (pc' := 238) (L' := [some (.ref m), some (.int (zi wh)), some (.int (zi nd)), some (.int (zi mo)), some (.int (zi 0)), some (.int (zi s2)), some (.int ((zi bits) + zi 1)), some (.int (zi kk))]) (S' := [.ref m]) (L2 := [some (.ref m), some (.int (zi wh)), some (.int (zi nd)), some (.int (zi mo)), some (.int (zi 0)), some (.int (zi s2)), some (.int (zi (bits + 1))), some (.int (zi kk))]) (S2 := [.ref m]) rfl (by simp only [zi_add, zi_sub, zi_mul, zi_neg, zi_and1, zi_and7, zi_and15, zi_and31, zi_and255]) (by simp only [zi_add, zi_sub, zi_mul, zi_neg, zi_and1, zi_and7, zi_and15, zi_and31, zi_and255]) ?_
                            refine gs_gtk rfl (by decide) rfl sh40.1 tm rfl rfl ec59 ?_
                            refine gz_s 1 (pc' := 243) (L' := [some (.ref m), some (.int (zi wh)), some (.int (zi nd)), some (.int (zi mo)), some (.int (zi 0)), some (.int (zi s2)), some (.int (zi (bits + 1))), some (.int (zi kk))]) (S' := [.int (zi kk), .ref c59]) rfl ?_
                            have hl78 : 514 ≤ h40.2.2.2.1 c59 ∧ h40.2.2.2.1 c59 ≤ 514 := gJ.rowl (G := gGG) sh40.1 tc59 rfl
                            refine gs_ald rfl (by decide) sh40.1 tc59 rfl rfl rfl (by decide) (fun _ => rfl) (by omega) (by omega) (fun z79 ez79 az79 bz79 => ?_)
                            have hf80 := gRn.at (i := kk) (z := z79) lp39k6 tc59 ez79 (by omega) (by omega) (by omega)
                            refine gz_s 1 (pc' := 246) (L' := [some (.ref m), some (.int (zi wh)), some (.int (zi nd)), some (.int (zi mo)), some (.int (zi 0)), some (.int (zi s2)), some (.int (zi (bits + 1))), some (.int (zi z79))]) (S' := []) rfl ?_
                            have hdq := hdp.2.2 (by omega)
                            have hpp : (z79).toNat = pit pa (s2).toNat (bits + 1).toNat := by rw [(by omega : (bits + 1).toNat = (bits).toNat + 1), ← hdq.2.1]; congr 1; have h9 := hf80; omega
                            have hdn := (emw.dp (s := s2) (k := z79) (i := (bits + 1).toNat) ⟨by omega, by omega⟩ hw5 ⟨by omega, by omega⟩ (by have h9 := hf44; omega) (by omega) hpp).1
                            refine gz_s 1 (pc' := 213) (L' := [some (.ref m), some (.int (zi wh)), some (.int (zi nd)), some (.int (zi mo)), some (.int (zi 0)), some (.int (zi s2)), some (.int (zi (bits + 1))), some (.int (zi z79))]) (S' := []) rfl ?_
                            exact gz_wk (ihlp39 h40 (bits + 1) z79 (by omega) sh40 (by omega) (by omega) (by omega) (by omega) lp39k0 lp39k1 lp39k2 lp39k3 lp39k4 lp39k5 lp39k6 lp39k7) (gLw.s (gLw.s (gLw.s (gLw.s (gLw.s (gLw.s (gLw.s (gLw.s gLw.z))))))))
                    have hp0 : pit pa (s2).toNat (0 : Int).toNat = (s2).toNat := rfl
                    have hl0 := l16 (s2).toNat (by omega)
                    exact gz_wk (lp39 _ h9 0 s2 (Nat.lt_succ_self _) sh9 (by omega) (by omega) (by omega) (by omega) lp8k0 lp8k1 lp8k2 lp8k3 lp8k4 lp8k5 lp8k6 lp8k7) (gLw.s (gLw.s (gLw.s (gLw.s (gLw.s (gLw.s (gLw.s (gLw.s gLw.z))))))))
              exact gz_wk (lp8 _ h6 0 (Nat.lt_succ_self _) sh6 (by omega) lp4k0 lp4k2 lp4k3 lp4k4 r1 r2 r3 (show gRn 514 ty 37 (eeJ z0 (eSz (ehN w1) z1 0)) h6 from gRn.cg (eeJ_cg (fun _ _ => rfl) (fun x _ => (if_neg (by omega)).symm)) lp4k1)) (gLw.s (gLw.s (gLw.s (gLw.s (gLw.s (gLw.s (gLw.n (gLw.n gLw.z))))))))
            · refine gy_ifF rfl (by decide) (by decide) (by omega) hc7 ?_
              obtain ⟨wt, gr, pa, r1, r2, r3, emw⟩ := lp4k5
              refine gz_s 2 (pc' := 70) (L' := [some (.ref m), some (.int (zi wh)), some (.int (zi nd)), some (.int (zi mo)), none, none, none, none]) (S' := [.int (zi nd), .ref m]) rfl ?_
              refine gz_call rfl (by decide) rfl (by decide) (by decide) (gcal_of rfl rfl rfl (Nat.le_of_ble_eq_true rfl) (gJ.recv (G := gGG) sh6.1 tm rfl rfl)) (mw_leastNode _ sh6.1 m tm nd (by omega) wt gr pa uq r1 r2 r3) (fun q81 _ wq81 => ?_)
              obtain ⟨pq81, oq81, hq81⟩ := q81
              obtain ⟨xq81, zq81, gq81, aq81, bq81, uq81_0, uq81_1⟩ := wq81
              refine ⟨_, gq81, ?_⟩
              show gz gPP gGG gcn _ _ 73 [some (.ref m), some (.int (zi wh)), some (.int (zi nd)), some (.int (zi mo)), none, none, none, none] [.int (zi zq81)] hq81 _
              have sq81 := gSs.tr sh6 xq81 (by decide)
              have pr82 := gRn.fr xq81.2 (by decide) lp4k0
              have pr83 := gRn.fr xq81.2 (by decide) lp4k1
              have pr84 := gRn.fr xq81.2 (by decide) lp4k2
              have pr85 := gRn.fr xq81.2 (by decide) r1
              have pr86 := gRn.fr xq81.2 (by decide) r2
              have pr87 := gRn.fr xq81.2 (by decide) r3
              refine gz_s 1 (pc' := 75) (L' := [some (.ref m), some (.int (zi wh)), some (.int (zi nd)), some (.int (zi mo)), some (.int (zi zq81)), none, none, none]) (S' := []) rfl ?_
              obtain ⟨ha0, ha1, ha2, ha3⟩ := emw.a (a := zq81) (by omega) hw5 hw6 (by omega)
              refine gz_s 1 (pc' := 76) (L' := [some (.ref m), some (.int (zi wh)), some (.int (zi nd)), some (.int (zi mo)), some (.int (zi zq81)), none, none, none]) (S' := [.ref m]) rfl ?_
              refine gs_gtr rfl (by decide) rfl sq81.1 tm rfl rfl rfl (fun c88 ec88 tc88 => ?_)
              refine gz_s 2 (pc' := 82) (L' := [some (.ref m), some (.int (zi wh)), some (.int (zi nd)), some (.int (zi mo)), some (.int (zi zq81)), none, none, none]) (S' := [.int (zi nd), .int (zi zq81), .ref c88]) rfl ?_
              have hl89 : 514 ≤ hq81.2.2.2.1 c88 ∧ hq81.2.2.2.1 c88 ≤ 514 := gJ.rowl (G := gGG) sq81.1 tc88 rfl
              refine gs_ast rfl (by decide) sq81 tc88 rfl rfl rfl (by decide) (fun _ => rfl) (by omega) (by omega) (fun _ => (by decide : (41999 : Nat) ∈ ([37999, 38999, 39999, 40999, 41999] : List Nat))) (by omega) (by omega) (fun h90 sh90 eh90 fh90 => ?_)
              have pr91 := gRn.pt fh90 tc88 (by decide) pr82
              have pr92 := gRn.pt fh90 tc88 (by decide) pr83
              have pr93 := gRn.pt fh90 tc88 (by decide) pr84
              have pr94 := gRn.pt fh90 tc88 (by decide) pr85
              have pr95 := gRn.pt fh90 tc88 (by decide) pr86
              have pr96 := gRn.put (i := zq81) (z := nd) uq tc88 (by decide) fh90 eh90 (by omega) (by omega) pr87
              have s97 := (fh90 m 73 (fun q => absurd (((tm).symm.trans (congrArg ty q.1)).trans tc88) (by decide))).trans ec88
              have pr98 := gEl.set (i := zq81) (z := nd) uq tc88 (by decide) eh90 (by omega) (by omega)
              refine gz_s 2 (pc' := 85) (L' := [some (.ref m), some (.int (zi wh)), some (.int (zi nd)), some (.int (zi mo)), some (.int (zi zq81)), none, none, none]) (S' := [.int (zi nd), .ref m]) rfl ?_
              refine gz_call rfl (by decide) rfl (by decide) (by decide) (gcal_of rfl rfl rfl (Nat.le_of_ble_eq_true rfl) (gJ.recv (G := gGG) sh90.1 tm rfl rfl)) (mw_leastNode _ sh90.1 m tm nd (by omega) wt gr (gfu pa (zq81).toNat nd) uq pr94 pr95 pr96) (fun q99 _ wq99 => ?_)
              obtain ⟨pq99, oq99, hq99⟩ := q99
              obtain ⟨xq99, zq99, gq99, aq99, bq99, uq99_0, uq99_1⟩ := wq99
              refine ⟨_, gq99, ?_⟩
              show gz gPP gGG gcn _ _ 88 [some (.ref m), some (.int (zi wh)), some (.int (zi nd)), some (.int (zi mo)), some (.int (zi zq81)), none, none, none] [.int (zi zq99)] hq99 _
              have sq99 := gSs.tr sh90 xq99 (by decide)
              have s100 := (xq99.2.2.2.2.2 m 73 (by rw [tm]; decide)).trans s97
              have pr101 := gRn.fr xq99.2 (by decide) pr91
              have pr102 := gRn.fr xq99.2 (by decide) pr92
              have pr103 := gRn.fr xq99.2 (by decide) pr93
              have pr104 := gRn.fr xq99.2 (by decide) pr94
              have pr105 := gRn.fr xq99.2 (by decide) pr95
              have pr106 := gRn.fr xq99.2 (by decide) pr96
              have pr107 := gEl.fr xq99.2 (by decide) (fun _ => rfl) pr98
              refine gz_s 3 (pc' := 93) (L' := [some (.ref m), some (.int (zi wh)), some (.int (zi nd)), some (.int (zi mo)), some (.int (zi zq81)), some (.int (zi zq99)), none, none]) (S' := [.int (zi (-1)), .int (zi zq99)]) rfl ?_
              by_cases hc108 : (zq99 : Int) = (-1)
              · refine gy_icT (pc' := 100) rfl (by decide) (by decide) (by omega) (by omega) hc108 ?_
                refine gz_s 3 (pc' := 103) (L' := [some (.ref m), some (.int (zi wh)), some (.int (zi nd)), some (.int (zi 0)), some (.int (zi zq81)), some (.int (zi zq99)), none, none]) (S' := [.int (zi 0)]) rfl ?_
                refine gy_ifT (pc' := 181) rfl (by decide) (by decide) (by omega) (by first | (simp [zc]; done) | (simp only [zc]; omega)) ?_
                refine gz_s 1 (pc' := 182) (L' := [some (.ref m), some (.int (zi wh)), some (.int (zi nd)), some (.int (zi 0)), some (.int (zi zq81)), some (.int (zi zq99)), none, none]) (S' := [.ref m]) rfl ?_
                refine gs_gtk rfl (by decide) rfl sq99.1 tm rfl rfl s100 ?_
                refine gz_s 2 (pc' := 188) (L' := [some (.ref m), some (.int (zi wh)), some (.int (zi nd)), some (.int (zi 0)), some (.int (zi zq81)), some (.int (zi zq99)), none, none]) (S' := [.int (zi (-1)), .int (zi zq81), .ref c88]) rfl ?_
                have hl109 : 514 ≤ hq99.2.2.2.1 c88 ∧ hq99.2.2.2.1 c88 ≤ 514 := gJ.rowl (G := gGG) sq99.1 tc88 rfl
                refine gs_ast rfl (by decide) sq99 tc88 rfl rfl rfl (by decide) (fun _ => rfl) (by omega) (by omega) (fun _ => (by decide : (41999 : Nat) ∈ ([37999, 38999, 39999, 40999, 41999] : List Nat))) (by omega) (by omega) (fun h110 sh110 eh110 fh110 => ?_)
                have pr111 := gRn.pt fh110 tc88 (by decide) pr101
                have pr112 := gRn.pt fh110 tc88 (by decide) pr102
                have pr113 := gRn.pt fh110 tc88 (by decide) pr103
                have pr114 := gRn.pt fh110 tc88 (by decide) pr104
                have pr115 := gRn.pt fh110 tc88 (by decide) pr105
                have pr116 := gRn.put (i := zq81) (z := (-1)) uq tc88 (by decide) fh110 eh110 (by omega) (by omega) pr106
                have s117 := (fh110 m 73 (fun q => absurd (((tm).symm.trans (congrArg ty q.1)).trans tc88) (by decide))).trans s100
                have pr118 := gEl.set (i := zq81) (z := (-1)) uq tc88 (by decide) eh110 (by omega) (by omega)
                have hem119 : gEm ty w1 nd 0 h110 := ⟨wt, gr, pa, pr114, pr115, by have e9 := pr116; rw [gfu_back ha2.2] at e9; exact e9, emw.stop (a := zq81) (b := zq99) (by omega) ha0 ha1 ha2 ha3 (by omega) (by omega)⟩
                refine gz_s 1 (pc' := 64) (L' := [some (.ref m), some (.int (zi wh)), some (.int (zi nd)), some (.int (zi 0)), some (.int (zi zq81)), some (.int (zi zq99)), none, none]) (S' := []) rfl ?_
                exact gz_wk (ihlp4 h110 nd 0 (by omega) sh110 (by omega) (by omega) pr111 pr112 pr113 lp4k3 lp4k4 hem119) (gLw.s (gLw.s (gLw.s (gLw.s (gLw.n (gLw.n (gLw.n (gLw.n gLw.z))))))))
              · refine gy_icF rfl (by decide) (by decide) (by omega) (by omega) hc108 ?_
                refine gz_s 4 (pc' := 103) (L' := [some (.ref m), some (.int (zi wh)), some (.int (zi nd)), some (.int (zi 1)), some (.int (zi zq81)), some (.int (zi zq99)), none, none]) (S' := [.int (zi 1)]) rfl ?_
                refine gy_ifF rfl (by decide) (by decide) (by omega) (by first | (simp [zc]; done) | (simp only [zc]; omega)) ?_
                obtain ⟨⟨hb0, hb1, hb2, hb3⟩, hbj⟩ := emw.join (a := zq81) (b := zq99) (wa := 0) (wb := 0) (ga := 0) (gb := 0) (gm := 0) (by omega) hw5 hw4 hw6 ha0 ha1 ha2 ha3 (by omega) (by omega)
                refine gz_s 1 (pc' := 107) (L' := [some (.ref m), some (.int (zi wh)), some (.int (zi nd)), some (.int (zi 1)), some (.int (zi zq81)), some (.int (zi zq99)), none, none]) (S' := [.ref m]) rfl ?_
                refine gs_gtk rfl (by decide) rfl sq99.1 tm rfl rfl s100 ?_
                refine gz_s 2 (pc' := 113) (L' := [some (.ref m), some (.int (zi wh)), some (.int (zi nd)), some (.int (zi 1)), some (.int (zi zq81)), some (.int (zi zq99)), none, none]) (S' := [.int (zi nd), .int (zi zq99), .ref c88]) rfl ?_
                have hl120 : 514 ≤ hq99.2.2.2.1 c88 ∧ hq99.2.2.2.1 c88 ≤ 514 := gJ.rowl (G := gGG) sq99.1 tc88 rfl
                refine gs_ast rfl (by decide) sq99 tc88 rfl rfl rfl (by decide) (fun _ => rfl) (by omega) (by omega) (fun _ => (by decide : (41999 : Nat) ∈ ([37999, 38999, 39999, 40999, 41999] : List Nat))) (by omega) (by omega) (fun h121 sh121 eh121 fh121 => ?_)
                have pr122 := gRn.pt fh121 tc88 (by decide) pr101
                have pr123 := gRn.pt fh121 tc88 (by decide) pr102
                have pr124 := gRn.pt fh121 tc88 (by decide) pr103
                have pr125 := gRn.pt fh121 tc88 (by decide) pr104
                have pr126 := gRn.pt fh121 tc88 (by decide) pr105
                have pr127 := gRn.put (i := zq99) (z := nd) uq tc88 (by decide) fh121 eh121 (by omega) (by omega) pr106
                have s128 := (fh121 m 73 (fun q => absurd (((tm).symm.trans (congrArg ty q.1)).trans tc88) (by decide))).trans s100
                have pr129 := gEl.set (i := zq99) (z := nd) uq tc88 (by decide) eh121 (by omega) (by omega)
                refine gz_s 1 (pc' := 115) (L' := [some (.ref m), some (.int (zi wh)), some (.int (zi nd)), some (.int (zi 1)), some (.int (zi zq81)), some (.int (zi zq99)), none, none]) (S' := [.ref m]) rfl ?_
                refine gs_gtr rfl (by decide) rfl sh121.1 tm rfl rfl rfl (fun c130 ec130 tc130 => ?_)
                refine gz_s 2 (pc' := 120) (L' := [some (.ref m), some (.int (zi wh)), some (.int (zi nd)), some (.int (zi 1)), some (.int (zi zq81)), some (.int (zi zq99)), none, none]) (S' := [.ref m, .int (zi nd), .ref c130]) rfl ?_
                refine gs_gtk rfl (by decide) rfl sh121.1 tm rfl rfl ec130 ?_
                refine gz_s 1 (pc' := 125) (L' := [some (.ref m), some (.int (zi wh)), some (.int (zi nd)), some (.int (zi 1)), some (.int (zi zq81)), some (.int (zi zq99)), none, none]) (S' := [.int (zi zq81), .ref c130, .int (zi nd), .ref c130]) rfl ?_
                have hl131 : 514 ≤ h121.2.2.2.1 c130 ∧ h121.2.2.2.1 c130 ≤ 514 := gJ.rowl (G := gGG) sh121.1 tc130 rfl
                refine gs_ald rfl (by decide) sh121.1 tc130 rfl rfl rfl (by decide) (fun _ => rfl) (by omega) (by omega) (fun z132 ez132 az132 bz132 => ?_)
                have hf133 := gRn.at (i := zq81) (z := z132) pr125 tc130 ez132 (by omega) (by omega) (by omega)
                refine gz_s 1 (pc' := 127) (L' := [some (.ref m), some (.int (zi wh)), some (.int (zi nd)), some (.int (zi 1)), some (.int (zi zq81)), some (.int (zi zq99)), none, none]) (S' := [.ref m, .int (zi z132), .int (zi nd), .ref c130]) rfl ?_
                refine gs_gtk rfl (by decide) rfl sh121.1 tm rfl rfl ec130 ?_
                refine gz_s 1 (pc' := 132) (L' := [some (.ref m), some (.int (zi wh)), some (.int (zi nd)), some (.int (zi 1)), some (.int (zi zq81)), some (.int (zi zq99)), none, none]) (S' := [.int (zi zq99), .ref c130, .int (zi z132), .int (zi nd), .ref c130]) rfl ?_
                have hl134 : 514 ≤ h121.2.2.2.1 c130 ∧ h121.2.2.2.1 c130 ≤ 514 := gJ.rowl (G := gGG) sh121.1 tc130 rfl
                refine gs_ald rfl (by decide) sh121.1 tc130 rfl rfl rfl (by decide) (fun _ => rfl) (by omega) (by omega) (fun z135 ez135 az135 bz135 => ?_)
                have hf136 := gRn.at (i := zq99) (z := z135) pr125 tc130 ez135 (by omega) (by omega) (by omega)
                refine gy_s 1 (pc' := 134) (L' := [some (.ref m), some (.int (zi wh)), some (.int (zi nd)), some (.int (zi 1)), some (.int (zi zq81)), some (.int (zi zq99)), none, none]) (S' := [.int ((zi z132) + (zi z135)), .int (zi nd), .ref c130]) (L2 := [some (.ref m), some (.int (zi wh)), some (.int (zi nd)), some (.int (zi 1)), some (.int (zi zq81)), some (.int (zi zq99)), none, none]) (S2 := [.int (zi (z132 + z135)), .int (zi nd), .ref c130]) rfl (by simp only [zi_add, zi_sub, zi_mul, zi_neg, zi_and1, zi_and7, zi_and15, zi_and31, zi_and255]) (by simp only [zi_add, zi_sub, zi_mul, zi_neg, zi_and1, zi_and7, zi_and15, zi_and31, zi_and255]) ?_
                have hl137 : 514 ≤ h121.2.2.2.1 c130 ∧ h121.2.2.2.1 c130 ≤ 514 := gJ.rowl (G := gGG) sh121.1 tc130 rfl
                refine gs_ast rfl (by decide) sh121 tc130 rfl rfl rfl (by decide) (fun _ => rfl) (by omega) (by omega) (fun _ => (by decide : (39999 : Nat) ∈ ([37999, 38999, 39999, 40999, 41999] : List Nat))) (by omega) (by omega) (fun h138 sh138 eh138 fh138 => ?_)
                have pr139 := gRn.pt fh138 tc130 (by decide) pr122
                have pr140 := gRn.pt fh138 tc130 (by decide) pr123
                have pr141 := gRn.pt fh138 tc130 (by decide) pr124
                have pr142 := gRn.put (i := nd) (z := z132 + z135) uq tc130 (by decide) fh138 eh138 (by omega) (by omega) pr125
                have pr143 := gRn.pt fh138 tc130 (by decide) pr126
                have pr144 := gRn.pt fh138 tc130 (by decide) pr127
                have pr145 := gEl.pt fh138 tc130 (by decide) pr129
                have s146 := (fh138 m 73 (fun q => absurd (((tm).symm.trans (congrArg ty q.1)).trans tc130) (by decide))).trans s128
                have s147 := (fh138 m 71 (fun q => absurd (((tm).symm.trans (congrArg ty q.1)).trans tc130) (by decide))).trans ec130
                have pr148 := gEl.set (i := nd) (z := z132 + z135) uq tc130 (by decide) eh138 (by omega) (by omega)
                refine gz_s 1 (pc' := 136) (L' := [some (.ref m), some (.int (zi wh)), some (.int (zi nd)), some (.int (zi 1)), some (.int (zi zq81)), some (.int (zi zq99)), none, none]) (S' := [.ref m]) rfl ?_
                refine gs_gtr rfl (by decide) rfl sh138.1 tm rfl rfl rfl (fun c149 ec149 tc149 => ?_)
                refine gz_s 2 (pc' := 141) (L' := [some (.ref m), some (.int (zi wh)), some (.int (zi nd)), some (.int (zi 1)), some (.int (zi zq81)), some (.int (zi zq99)), none, none]) (S' := [.ref m, .int (zi nd), .ref c149]) rfl ?_
                refine gs_gtk rfl (by decide) rfl sh138.1 tm rfl rfl ec149 ?_
                refine gz_s 1 (pc' := 146) (L' := [some (.ref m), some (.int (zi wh)), some (.int (zi nd)), some (.int (zi 1)), some (.int (zi zq81)), some (.int (zi zq99)), none, none]) (S' := [.int (zi zq81), .ref c149, .int (zi nd), .ref c149]) rfl ?_
                have hl150 : 514 ≤ h138.2.2.2.1 c149 ∧ h138.2.2.2.1 c149 ≤ 514 := gJ.rowl (G := gGG) sh138.1 tc149 rfl
                refine gs_ald rfl (by decide) sh138.1 tc149 rfl rfl rfl (by decide) (fun _ => rfl) (by omega) (by omega) (fun z151 ez151 az151 bz151 => ?_)
                have hf152 := gRn.at (i := zq81) (z := z151) pr143 tc149 ez151 (by omega) (by omega) (by omega)
                refine gz_s 1 (pc' := 148) (L' := [some (.ref m), some (.int (zi wh)), some (.int (zi nd)), some (.int (zi 1)), some (.int (zi zq81)), some (.int (zi zq99)), none, none]) (S' := [.ref m, .int (zi z151), .int (zi nd), .ref c149]) rfl ?_
                refine gs_gtk rfl (by decide) rfl sh138.1 tm rfl rfl ec149 ?_
                refine gz_s 1 (pc' := 153) (L' := [some (.ref m), some (.int (zi wh)), some (.int (zi nd)), some (.int (zi 1)), some (.int (zi zq81)), some (.int (zi zq99)), none, none]) (S' := [.int (zi zq99), .ref c149, .int (zi z151), .int (zi nd), .ref c149]) rfl ?_
                have hl153 : 514 ≤ h138.2.2.2.1 c149 ∧ h138.2.2.2.1 c149 ≤ 514 := gJ.rowl (G := gGG) sh138.1 tc149 rfl
                refine gs_ald rfl (by decide) sh138.1 tc149 rfl rfl rfl (by decide) (fun _ => rfl) (by omega) (by omega) (fun z154 ez154 az154 bz154 => ?_)
                have hf155 := gRn.at (i := zq99) (z := z154) pr143 tc149 ez154 (by omega) (by omega) (by omega)
                by_cases hc156 : (z151 : Int) ≤ z154
                · refine gy_icT (pc' := 167) rfl (by decide) (by decide) (by omega) (by omega) hc156 ?_
                  refine gz_s 1 (pc' := 168) (L' := [some (.ref m), some (.int (zi wh)), some (.int (zi nd)), some (.int (zi 1)), some (.int (zi zq81)), some (.int (zi zq99)), none, none]) (S' := [.ref m, .int (zi nd), .ref c149]) rfl ?_
                  refine gs_gtk rfl (by decide) rfl sh138.1 tm rfl rfl ec149 ?_
                  refine gz_s 1 (pc' := 173) (L' := [some (.ref m), some (.int (zi wh)), some (.int (zi nd)), some (.int (zi 1)), some (.int (zi zq81)), some (.int (zi zq99)), none, none]) (S' := [.int (zi zq99), .ref c149, .int (zi nd), .ref c149]) rfl ?_
                  have hl157 : 514 ≤ h138.2.2.2.1 c149 ∧ h138.2.2.2.1 c149 ≤ 514 := gJ.rowl (G := gGG) sh138.1 tc149 rfl
                  refine gs_ald rfl (by decide) sh138.1 tc149 rfl rfl rfl (by decide) (fun _ => rfl) (by omega) (by omega) (fun z158 ez158 az158 bz158 => ?_)
                  have hf159 := gRn.at (i := zq99) (z := z158) pr143 tc149 ez158 (by omega) (by omega) (by omega)
                  have hl160 : 514 ≤ h138.2.2.2.1 c149 ∧ h138.2.2.2.1 c149 ≤ 514 := gJ.rowl (G := gGG) sh138.1 tc149 rfl
                  refine gs_ast rfl (by decide) sh138 tc149 rfl rfl rfl (by decide) (fun _ => rfl) (by omega) (by omega) (fun _ => (by decide : (40999 : Nat) ∈ ([37999, 38999, 39999, 40999, 41999] : List Nat))) (by omega) (by omega) (fun h161 sh161 eh161 fh161 => ?_)
                  have pr162 := gRn.pt fh161 tc149 (by decide) pr139
                  have pr163 := gRn.pt fh161 tc149 (by decide) pr140
                  have pr164 := gRn.pt fh161 tc149 (by decide) pr141
                  have pr165 := gRn.pt fh161 tc149 (by decide) pr142
                  have pr166 := gRn.put (i := nd) (z := z158) uq tc149 (by decide) fh161 eh161 (by omega) (by omega) pr143
                  have pr167 := gRn.pt fh161 tc149 (by decide) pr144
                  have pr168 := gEl.pt fh161 tc149 (by decide) pr145
                  have pr169 := gEl.pt fh161 tc149 (by decide) pr148
                  have s170 := (fh161 m 73 (fun q => absurd (((tm).symm.trans (congrArg ty q.1)).trans tc149) (by decide))).trans s146
                  have s171 := (fh161 m 71 (fun q => absurd (((tm).symm.trans (congrArg ty q.1)).trans tc149) (by decide))).trans s147
                  have s172 := (fh161 m 72 (fun q => absurd (((tm).symm.trans (congrArg ty q.1)).trans tc149) (by decide))).trans ec149
                  have pr173 := gEl.set (i := nd) (z := z158) uq tc149 (by decide) eh161 (by omega) (by omega)
                  have hem174 : gEm ty w1 (nd + 1) 1 h161 := ⟨_, _, _, pr165, pr166, pr167, hbj _ _ _ _ _ hf133 hf136 hf152 hf155 (by omega)⟩
                  refine gy_s 2 (pc' := 189) (L' := [some (.ref m), some (.int (zi wh)), some (.int ((zi nd) + zi 1)), some (.int (zi 1)), some (.int (zi zq81)), some (.int (zi zq99)), none, none]) (S' := []) (L2 := [some (.ref m), some (.int (zi wh)), some (.int (zi (nd + 1))), some (.int (zi 1)), some (.int (zi zq81)), some (.int (zi zq99)), none, none]) (S2 := []) rfl (by simp only [zi_add, zi_sub, zi_mul, zi_neg, zi_and1, zi_and7, zi_and15, zi_and31, zi_and255]) (by simp only [zi_add, zi_sub, zi_mul, zi_neg, zi_and1, zi_and7, zi_and15, zi_and31, zi_and255]) ?_
                  refine gz_s 1 (pc' := 64) (L' := [some (.ref m), some (.int (zi wh)), some (.int (zi (nd + 1))), some (.int (zi 1)), some (.int (zi zq81)), some (.int (zi zq99)), none, none]) (S' := []) rfl ?_
                  exact gz_wk (ihlp4 h161 (nd + 1) 1 (by omega) sh161 (by omega) (by omega) pr162 pr163 pr164 lp4k3 lp4k4 hem174) (gLw.s (gLw.s (gLw.s (gLw.s (gLw.n (gLw.n (gLw.n (gLw.n gLw.z))))))))
                · refine gy_icF rfl (by decide) (by decide) (by omega) (by omega) hc156 ?_
                  refine gz_s 1 (pc' := 158) (L' := [some (.ref m), some (.int (zi wh)), some (.int (zi nd)), some (.int (zi 1)), some (.int (zi zq81)), some (.int (zi zq99)), none, none]) (S' := [.ref m, .int (zi nd), .ref c149]) rfl ?_
                  refine gs_gtk rfl (by decide) rfl sh138.1 tm rfl rfl ec149 ?_
                  refine gz_s 1 (pc' := 163) (L' := [some (.ref m), some (.int (zi wh)), some (.int (zi nd)), some (.int (zi 1)), some (.int (zi zq81)), some (.int (zi zq99)), none, none]) (S' := [.int (zi zq81), .ref c149, .int (zi nd), .ref c149]) rfl ?_
                  have hl175 : 514 ≤ h138.2.2.2.1 c149 ∧ h138.2.2.2.1 c149 ≤ 514 := gJ.rowl (G := gGG) sh138.1 tc149 rfl
                  refine gs_ald rfl (by decide) sh138.1 tc149 rfl rfl rfl (by decide) (fun _ => rfl) (by omega) (by omega) (fun z176 ez176 az176 bz176 => ?_)
                  have hf177 := gRn.at (i := zq81) (z := z176) pr143 tc149 ez176 (by omega) (by omega) (by omega)
                  refine gz_s 1 (pc' := 174) (L' := [some (.ref m), some (.int (zi wh)), some (.int (zi nd)), some (.int (zi 1)), some (.int (zi zq81)), some (.int (zi zq99)), none, none]) (S' := [.int (zi z176), .int (zi nd), .ref c149]) rfl ?_
                  have hl178 : 514 ≤ h138.2.2.2.1 c149 ∧ h138.2.2.2.1 c149 ≤ 514 := gJ.rowl (G := gGG) sh138.1 tc149 rfl
                  refine gs_ast rfl (by decide) sh138 tc149 rfl rfl rfl (by decide) (fun _ => rfl) (by omega) (by omega) (fun _ => (by decide : (40999 : Nat) ∈ ([37999, 38999, 39999, 40999, 41999] : List Nat))) (by omega) (by omega) (fun h179 sh179 eh179 fh179 => ?_)
                  have pr180 := gRn.pt fh179 tc149 (by decide) pr139
                  have pr181 := gRn.pt fh179 tc149 (by decide) pr140
                  have pr182 := gRn.pt fh179 tc149 (by decide) pr141
                  have pr183 := gRn.pt fh179 tc149 (by decide) pr142
                  have pr184 := gRn.put (i := nd) (z := z176) uq tc149 (by decide) fh179 eh179 (by omega) (by omega) pr143
                  have pr185 := gRn.pt fh179 tc149 (by decide) pr144
                  have pr186 := gEl.pt fh179 tc149 (by decide) pr145
                  have pr187 := gEl.pt fh179 tc149 (by decide) pr148
                  have s188 := (fh179 m 73 (fun q => absurd (((tm).symm.trans (congrArg ty q.1)).trans tc149) (by decide))).trans s146
                  have s189 := (fh179 m 71 (fun q => absurd (((tm).symm.trans (congrArg ty q.1)).trans tc149) (by decide))).trans s147
                  have s190 := (fh179 m 72 (fun q => absurd (((tm).symm.trans (congrArg ty q.1)).trans tc149) (by decide))).trans ec149
                  have pr191 := gEl.set (i := nd) (z := z176) uq tc149 (by decide) eh179 (by omega) (by omega)
                  have hem192 : gEm ty w1 (nd + 1) 1 h179 := ⟨_, _, _, pr183, pr184, pr185, hbj _ _ _ _ _ hf133 hf136 hf152 hf155 (by omega)⟩
                  refine gy_s 2 (pc' := 189) (L' := [some (.ref m), some (.int (zi wh)), some (.int ((zi nd) + zi 1)), some (.int (zi 1)), some (.int (zi zq81)), some (.int (zi zq99)), none, none]) (S' := []) (L2 := [some (.ref m), some (.int (zi wh)), some (.int (zi (nd + 1))), some (.int (zi 1)), some (.int (zi zq81)), some (.int (zi zq99)), none, none]) (S2 := []) rfl (by simp only [zi_add, zi_sub, zi_mul, zi_neg, zi_and1, zi_and7, zi_and15, zi_and31, zi_and255]) (by simp only [zi_add, zi_sub, zi_mul, zi_neg, zi_and1, zi_and7, zi_and15, zi_and31, zi_and255]) ?_
                  refine gz_s 1 (pc' := 64) (L' := [some (.ref m), some (.int (zi wh)), some (.int (zi (nd + 1))), some (.int (zi 1)), some (.int (zi zq81)), some (.int (zi zq99)), none, none]) (S' := []) rfl ?_
                  exact gz_wk (ihlp4 h179 (nd + 1) 1 (by omega) sh179 (by omega) (by omega) pr180 pr181 pr182 lp4k3 lp4k4 hem192) (gLw.s (gLw.s (gLw.s (gLw.s (gLw.n (gLw.n (gLw.n (gLw.n gLw.z))))))))
        exact gz_wk (lp4 _ h2 257 1 (Nat.lt_succ_self _) sh2 (by omega) (by omega) lp1k0 lp1k1 lp1k2 lp1k3 lp1k4 hem5) (gLw.s (gLw.s (gLw.s (gLw.s (gLw.n (gLw.n (gLw.n (gLw.n gLw.z))))))))
      · refine gy_icF rfl (by decide) (by decide) (by omega) (by omega) hc3 ?_
        refine gz_s 1 (pc' := 14) (L' := [some (.ref m), some (.int (zi wh)), some (.int (zi 257)), some (.int (zi s)), none, none, none, none]) (S' := [.ref m]) rfl ?_
        refine gs_gtr rfl (by decide) rfl sh2.1 tm rfl rfl rfl (fun c193 ec193 tc193 => ?_)
        refine gz_s 3 (pc' := 22) (L' := [some (.ref m), some (.int (zi wh)), some (.int (zi 257)), some (.int (zi s)), none, none, none, none]) (S' := [.int (zi 257), .int (zi s), .int (zi s), .ref c193]) rfl ?_
        by_cases hc194 : (257 : Int) ≤ s
        · refine gy_icT (pc' := 40) rfl (by decide) (by decide) (by omega) (by omega) hc194 ?_
          refine gz_s 1 (pc' := 41) (L' := [some (.ref m), some (.int (zi wh)), some (.int (zi 257)), some (.int (zi s)), none, none, none, none]) (S' := [.int (zi 0), .int (zi s), .ref c193]) rfl ?_
          have hl195 : 514 ≤ h2.2.2.2.1 c193 ∧ h2.2.2.2.1 c193 ≤ 514 := gJ.rowl (G := gGG) sh2.1 tc193 rfl
          refine gs_ast rfl (by decide) sh2 tc193 rfl rfl rfl (by decide) (fun _ => rfl) (by omega) (by omega) (fun _ => (by decide : (39999 : Nat) ∈ ([37999, 38999, 39999, 40999, 41999] : List Nat))) (by omega) (by omega) (fun h196 sh196 eh196 fh196 => ?_)
          have pr197 := gRn.pt fh196 tc193 (by decide) lp1k0
          have pr198 := gRn.pt fh196 tc193 (by decide) lp1k1
          have pr199 := gRn.pt fh196 tc193 (by decide) lp1k2
          have pr200 := gRn.pt fh196 tc193 (by decide) lp1k6
          have pr201 := gRn.pt fh196 tc193 (by decide) lp1k7
          have s202 := (fh196 m 71 (fun q => absurd (((tm).symm.trans (congrArg ty q.1)).trans tc193) (by decide))).trans ec193
          have pr203 := gEl.set (i := s) (z := 0) uq tc193 (by decide) eh196 (by omega) (by omega)
          have hrw204 : gRn (s + 1).toNat ty 39 (ewz w1) h196 := gRn.ext (z := 0) uq tc193 (by decide) fh196 eh196 (by omega) (by omega) (by omega) (by show _ = if (s).toNat < 257 then _ else (0 : Int); rw [if_neg (by omega)]) lp1k5
          refine gz_s 1 (pc' := 43) (L' := [some (.ref m), some (.int (zi wh)), some (.int (zi 257)), some (.int (zi s)), none, none, none, none]) (S' := [.ref m]) rfl ?_
          refine gs_gtr rfl (by decide) rfl sh196.1 tm rfl rfl rfl (fun c205 ec205 tc205 => ?_)
          refine gz_s 2 (pc' := 48) (L' := [some (.ref m), some (.int (zi wh)), some (.int (zi 257)), some (.int (zi s)), none, none, none, none]) (S' := [.int (zi s), .int (zi s), .ref c205]) rfl ?_
          have hl206 : 514 ≤ h196.2.2.2.1 c205 ∧ h196.2.2.2.1 c205 ≤ 514 := gJ.rowl (G := gGG) sh196.1 tc205 rfl
          refine gs_ast rfl (by decide) sh196 tc205 rfl rfl rfl (by decide) (fun _ => rfl) (by omega) (by omega) (fun _ => (by decide : (40999 : Nat) ∈ ([37999, 38999, 39999, 40999, 41999] : List Nat))) (by omega) (by omega) (fun h207 sh207 eh207 fh207 => ?_)
          have pr208 := gRn.pt fh207 tc205 (by decide) pr197
          have pr209 := gRn.pt fh207 tc205 (by decide) pr198
          have pr210 := gRn.pt fh207 tc205 (by decide) pr199
          have pr211 := gRn.pt fh207 tc205 (by decide) pr201
          have pr212 := gEl.pt fh207 tc205 (by decide) pr203
          have pr213 := gRn.pt fh207 tc205 (by decide) hrw204
          have s214 := (fh207 m 71 (fun q => absurd (((tm).symm.trans (congrArg ty q.1)).trans tc205) (by decide))).trans s202
          have s215 := (fh207 m 72 (fun q => absurd (((tm).symm.trans (congrArg ty q.1)).trans tc205) (by decide))).trans ec205
          have pr216 := gEl.set (i := s) (z := s) uq tc205 (by decide) eh207 (by omega) (by omega)
          have hrw217 : gRn (s + 1).toNat ty 40 (fun j9 => (j9 : Int)) h207 := gRn.ext (z := s) uq tc205 (by decide) fh207 eh207 (by omega) (by omega) (by omega) (by show s = (((s).toNat : Nat) : Int); omega) pr200
          refine gz_s 1 (pc' := 50) (L' := [some (.ref m), some (.int (zi wh)), some (.int (zi 257)), some (.int (zi s)), none, none, none, none]) (S' := [.ref m]) rfl ?_
          refine gs_gtr rfl (by decide) rfl sh207.1 tm rfl rfl rfl (fun c218 ec218 tc218 => ?_)
          refine gz_s 2 (pc' := 55) (L' := [some (.ref m), some (.int (zi wh)), some (.int (zi 257)), some (.int (zi s)), none, none, none, none]) (S' := [.int (zi (-1)), .int (zi s), .ref c218]) rfl ?_
          have hl219 : 514 ≤ h207.2.2.2.1 c218 ∧ h207.2.2.2.1 c218 ≤ 514 := gJ.rowl (G := gGG) sh207.1 tc218 rfl
          refine gs_ast rfl (by decide) sh207 tc218 rfl rfl rfl (by decide) (fun _ => rfl) (by omega) (by omega) (fun _ => (by decide : (41999 : Nat) ∈ ([37999, 38999, 39999, 40999, 41999] : List Nat))) (by omega) (by omega) (fun h220 sh220 eh220 fh220 => ?_)
          have pr221 := gRn.pt fh220 tc218 (by decide) pr208
          have pr222 := gRn.pt fh220 tc218 (by decide) pr209
          have pr223 := gRn.pt fh220 tc218 (by decide) pr210
          have pr224 := gEl.pt fh220 tc218 (by decide) pr212
          have pr225 := gRn.pt fh220 tc218 (by decide) pr213
          have pr226 := gEl.pt fh220 tc218 (by decide) pr216
          have pr227 := gRn.pt fh220 tc218 (by decide) hrw217
          have s228 := (fh220 m 71 (fun q => absurd (((tm).symm.trans (congrArg ty q.1)).trans tc218) (by decide))).trans s214
          have s229 := (fh220 m 72 (fun q => absurd (((tm).symm.trans (congrArg ty q.1)).trans tc218) (by decide))).trans s215
          have s230 := (fh220 m 73 (fun q => absurd (((tm).symm.trans (congrArg ty q.1)).trans tc218) (by decide))).trans ec218
          have pr231 := gEl.set (i := s) (z := (-1)) uq tc218 (by decide) eh220 (by omega) (by omega)
          have hrw232 : gRn (s + 1).toNat ty 41 (fun _ => -1) h220 := gRn.ext (z := (-1)) uq tc218 (by decide) fh220 eh220 (by omega) (by omega) (by omega) rfl pr211
          refine gy_s 2 (pc' := 6) (L' := [some (.ref m), some (.int (zi wh)), some (.int (zi 257)), some (.int ((zi s) + zi 1)), none, none, none, none]) (S' := []) (L2 := [some (.ref m), some (.int (zi wh)), some (.int (zi 257)), some (.int (zi (s + 1))), none, none, none, none]) (S2 := []) rfl (by simp only [zi_add, zi_sub, zi_mul, zi_neg, zi_and1, zi_and7, zi_and15, zi_and31, zi_and255]) (by simp only [zi_add, zi_sub, zi_mul, zi_neg, zi_and1, zi_and7, zi_and15, zi_and31, zi_and255]) ?_
          exact gz_wk (ihlp1 h220 (s + 1) (by omega) sh220 (by omega) pr221 pr222 pr223 lp1k3 lp1k4 pr225 pr227 hrw232) (gLw.s (gLw.s (gLw.s (gLw.s (gLw.n (gLw.n (gLw.n (gLw.n gLw.z))))))))
        · refine gy_icF rfl (by decide) (by decide) (by omega) (by omega) hc194 ?_
          refine gz_s 1 (pc' := 26) (L' := [some (.ref m), some (.int (zi wh)), some (.int (zi 257)), some (.int (zi s)), none, none, none, none]) (S' := [.ref m, .int (zi s), .ref c193]) rfl ?_
          refine gs_gtr rfl (by decide) rfl sh2.1 tm rfl rfl rfl (fun c233 ec233 tc233 => ?_)
          refine gy_s 5 (pc' := 36) (L' := [some (.ref m), some (.int (zi wh)), some (.int (zi 257)), some (.int (zi s)), none, none, none, none]) (S' := [.int (((zi 257) * (zi wh)) + (zi s)), .ref c233, .int (zi s), .ref c193]) (L2 := [some (.ref m), some (.int (zi wh)), some (.int (zi 257)), some (.int (zi s)), none, none, none, none]) (S2 := [.int (zi ((257 * wh) + s)), .ref c233, .int (zi s), .ref c193]) rfl (by simp only [zi_add, zi_sub, zi_mul, zi_neg, zi_and1, zi_and7, zi_and15, zi_and31, zi_and255]) (by simp only [zi_add, zi_sub, zi_mul, zi_neg, zi_and1, zi_and7, zi_and15, zi_and31, zi_and255]) ?_
          have hl234 : 514 ≤ h2.2.2.2.1 c233 ∧ h2.2.2.2.1 c233 ≤ 514 := gJ.rowl (G := gGG) sh2.1 tc233 rfl
          refine gs_ald rfl (by decide) sh2.1 tc233 rfl rfl rfl (by decide) (fun _ => rfl) (by omega) (by omega) (fun z235 ez235 az235 bz235 => ?_)
          have hf236 := gRn.at (i := (257 * wh) + s) (z := z235) lp1k0 tc233 ez235 (by omega) (by omega) (by omega)
          have hwz : w1 (s).toNat = z235 := by have h9 := hf236; rw [show wh = 1 by omega, eeJ_a1 (by omega) (by omega)] at h9; exact h9
          have hwb9 := hywb.at (j := (s).toNat) (by omega)
          rw [hwz] at hwb9
          refine gz_s 1 (pc' := 41) (L' := [some (.ref m), some (.int (zi wh)), some (.int (zi 257)), some (.int (zi s)), none, none, none, none]) (S' := [.int (zi z235), .int (zi s), .ref c193]) rfl ?_
          have hl237 : 514 ≤ h2.2.2.2.1 c193 ∧ h2.2.2.2.1 c193 ≤ 514 := gJ.rowl (G := gGG) sh2.1 tc193 rfl
          refine gs_ast rfl (by decide) sh2 tc193 rfl rfl rfl (by decide) (fun _ => rfl) (by omega) (by omega) (fun _ => (by decide : (39999 : Nat) ∈ ([37999, 38999, 39999, 40999, 41999] : List Nat))) (by omega) (by omega) (fun h238 sh238 eh238 fh238 => ?_)
          have pr239 := gRn.pt fh238 tc193 (by decide) lp1k0
          have pr240 := gRn.pt fh238 tc193 (by decide) lp1k1
          have pr241 := gRn.pt fh238 tc193 (by decide) lp1k2
          have pr242 := gRn.pt fh238 tc193 (by decide) lp1k6
          have pr243 := gRn.pt fh238 tc193 (by decide) lp1k7
          have s244 := (fh238 m 71 (fun q => absurd (((tm).symm.trans (congrArg ty q.1)).trans tc193) (by decide))).trans ec193
          have s245 := (fh238 m 68 (fun q => absurd (((tm).symm.trans (congrArg ty q.1)).trans tc193) (by decide))).trans ec233
          have pr246 := gEl.set (i := s) (z := z235) uq tc193 (by decide) eh238 (by omega) (by omega)
          have hrw247 : gRn (s + 1).toNat ty 39 (ewz w1) h238 := gRn.ext (z := z235) uq tc193 (by decide) fh238 eh238 (by omega) (by omega) (by omega) (by show _ = if (s).toNat < 257 then w1 (s).toNat else (0 : Int); rw [if_pos (by omega)]; have h9 := hf236; rw [show wh = 1 by omega, eeJ_a1 (by omega) (by omega)] at h9; omega) lp1k5
          refine gz_s 1 (pc' := 43) (L' := [some (.ref m), some (.int (zi wh)), some (.int (zi 257)), some (.int (zi s)), none, none, none, none]) (S' := [.ref m]) rfl ?_
          refine gs_gtr rfl (by decide) rfl sh238.1 tm rfl rfl rfl (fun c248 ec248 tc248 => ?_)
          refine gz_s 2 (pc' := 48) (L' := [some (.ref m), some (.int (zi wh)), some (.int (zi 257)), some (.int (zi s)), none, none, none, none]) (S' := [.int (zi s), .int (zi s), .ref c248]) rfl ?_
          have hl249 : 514 ≤ h238.2.2.2.1 c248 ∧ h238.2.2.2.1 c248 ≤ 514 := gJ.rowl (G := gGG) sh238.1 tc248 rfl
          refine gs_ast rfl (by decide) sh238 tc248 rfl rfl rfl (by decide) (fun _ => rfl) (by omega) (by omega) (fun _ => (by decide : (40999 : Nat) ∈ ([37999, 38999, 39999, 40999, 41999] : List Nat))) (by omega) (by omega) (fun h250 sh250 eh250 fh250 => ?_)
          have pr251 := gRn.pt fh250 tc248 (by decide) pr239
          have pr252 := gRn.pt fh250 tc248 (by decide) pr240
          have pr253 := gRn.pt fh250 tc248 (by decide) pr241
          have pr254 := gRn.pt fh250 tc248 (by decide) pr243
          have pr255 := gEl.pt fh250 tc248 (by decide) pr246
          have pr256 := gRn.pt fh250 tc248 (by decide) hrw247
          have s257 := (fh250 m 71 (fun q => absurd (((tm).symm.trans (congrArg ty q.1)).trans tc248) (by decide))).trans s244
          have s258 := (fh250 m 68 (fun q => absurd (((tm).symm.trans (congrArg ty q.1)).trans tc248) (by decide))).trans s245
          have s259 := (fh250 m 72 (fun q => absurd (((tm).symm.trans (congrArg ty q.1)).trans tc248) (by decide))).trans ec248
          have pr260 := gEl.set (i := s) (z := s) uq tc248 (by decide) eh250 (by omega) (by omega)
          have hrw261 : gRn (s + 1).toNat ty 40 (fun j9 => (j9 : Int)) h250 := gRn.ext (z := s) uq tc248 (by decide) fh250 eh250 (by omega) (by omega) (by omega) (by show s = (((s).toNat : Nat) : Int); omega) pr242
          refine gz_s 1 (pc' := 50) (L' := [some (.ref m), some (.int (zi wh)), some (.int (zi 257)), some (.int (zi s)), none, none, none, none]) (S' := [.ref m]) rfl ?_
          refine gs_gtr rfl (by decide) rfl sh250.1 tm rfl rfl rfl (fun c262 ec262 tc262 => ?_)
          refine gz_s 2 (pc' := 55) (L' := [some (.ref m), some (.int (zi wh)), some (.int (zi 257)), some (.int (zi s)), none, none, none, none]) (S' := [.int (zi (-1)), .int (zi s), .ref c262]) rfl ?_
          have hl263 : 514 ≤ h250.2.2.2.1 c262 ∧ h250.2.2.2.1 c262 ≤ 514 := gJ.rowl (G := gGG) sh250.1 tc262 rfl
          refine gs_ast rfl (by decide) sh250 tc262 rfl rfl rfl (by decide) (fun _ => rfl) (by omega) (by omega) (fun _ => (by decide : (41999 : Nat) ∈ ([37999, 38999, 39999, 40999, 41999] : List Nat))) (by omega) (by omega) (fun h264 sh264 eh264 fh264 => ?_)
          have pr265 := gRn.pt fh264 tc262 (by decide) pr251
          have pr266 := gRn.pt fh264 tc262 (by decide) pr252
          have pr267 := gRn.pt fh264 tc262 (by decide) pr253
          have pr268 := gEl.pt fh264 tc262 (by decide) pr255
          have pr269 := gRn.pt fh264 tc262 (by decide) pr256
          have pr270 := gEl.pt fh264 tc262 (by decide) pr260
          have pr271 := gRn.pt fh264 tc262 (by decide) hrw261
          have s272 := (fh264 m 71 (fun q => absurd (((tm).symm.trans (congrArg ty q.1)).trans tc262) (by decide))).trans s257
          have s273 := (fh264 m 68 (fun q => absurd (((tm).symm.trans (congrArg ty q.1)).trans tc262) (by decide))).trans s258
          have s274 := (fh264 m 72 (fun q => absurd (((tm).symm.trans (congrArg ty q.1)).trans tc262) (by decide))).trans s259
          have s275 := (fh264 m 73 (fun q => absurd (((tm).symm.trans (congrArg ty q.1)).trans tc262) (by decide))).trans ec262
          have pr276 := gEl.set (i := s) (z := (-1)) uq tc262 (by decide) eh264 (by omega) (by omega)
          have hrw277 : gRn (s + 1).toNat ty 41 (fun _ => -1) h264 := gRn.ext (z := (-1)) uq tc262 (by decide) fh264 eh264 (by omega) (by omega) (by omega) rfl pr254
          refine gy_s 2 (pc' := 6) (L' := [some (.ref m), some (.int (zi wh)), some (.int (zi 257)), some (.int ((zi s) + zi 1)), none, none, none, none]) (S' := []) (L2 := [some (.ref m), some (.int (zi wh)), some (.int (zi 257)), some (.int (zi (s + 1))), none, none, none, none]) (S2 := []) rfl (by simp only [zi_add, zi_sub, zi_mul, zi_neg, zi_and1, zi_and7, zi_and15, zi_and31, zi_and255]) (by simp only [zi_add, zi_sub, zi_mul, zi_neg, zi_and1, zi_and7, zi_and15, zi_and31, zi_and255]) ?_
          exact gz_wk (ihlp1 h264 (s + 1) (by omega) sh264 (by omega) pr265 pr266 pr267 lp1k3 lp1k4 pr269 pr271 hrw277) (gLw.s (gLw.s (gLw.s (gLw.s (gLw.n (gLw.n (gLw.n (gLw.n gLw.z))))))))
  exact gz_wk (lp1 _ h 0 (Nat.lt_succ_self _) hS (by omega) hyf36 hyf37 hyf38 hywb hyw6 (gRn.nil (fun _ => rfl)) (gRn.nil (fun _ => rfl)) (gRn.nil (fun _ => rfl))) (gLw.s (gLw.s (gLw.s (gLw.s (gLw.n (gLw.n (gLw.n (gLw.n gLw.z))))))))
set_option maxRecDepth 20000 in
set_option maxHeartbeats 4000000 in
theorem mw_putCodes0 (d : Nat) {ty : Nat → Nat} {h : gH} (hJ : gJ rT 1027 ty h) (m : Nat) (tm : ty m = 1) (wh : Int) (rwh : 0 ≤ wh ∧ wh ≤ 0) (w0 : Int) (ew0 : h.2.2.2.2 m 59 = .int (zi w0)) (rw0 : 0 ≤ w0 ∧ w0 ≤ 59000) (z0 z1 : Nat → Int) (sg : gWt) (pp0 : w0 = sg.1) (uq : gUq ty) (hyso : gSO ty sg h) (hyok : eeOk sg) (hyf37 : gRn 514 ty 37 (eeJ z0 z1) h) (hyl16 : ∀ j9 : Nat, j9 < 257 → 0 ≤ z0 j9 ∧ z0 j9 ≤ 16) : gz gPP gGG gcn (d + 2) gt203 0 (gent [.ref m, .int (zi wh)] 6) [] h (fun q _ => gSs rT 1027 ty [1059, 32999] h q.2.2 ∧ ∃ w1 : Int, gfin gt203 q.1 q.2.1 = some none ∧ q.2.2.2.2.2.2 m 59 = .int (zi w1) ∧ 0 ≤ w1 ∧ w1 ≤ 60000 ∧ (w1 = (ekP 0 z0 sg).1) ∧ ((ekP 0 z0 sg).2.1 = sg.2.1) ∧ ((ekP 0 z0 sg).2.2.1 = sg.2.2.1) ∧ (w0 ≤ w1) ∧ (w1 ≤ w0 + 277) ∧ (gSO ty (ekP 0 z0 sg) q.2.2) ∧ (eeOk (ekP 0 z0 sg))) := by
  have hS : gSs rT 1027 ty [1059, 32999] h h := gSs.rf hJ
  refine gz_s 4 (pc' := 4) (L' := [some (.ref m), some (.int (zi wh)), some (.int (zi 0)), some (.int (zi 0)), none, none]) (S' := []) rfl ?_
  have lp1 : ∀ (fu : Nat) (h2 : gH) (n : Int) (k : Int), (257 - k).toNat < fu → gSs rT 1027 ty [1059, 32999] h h2 → (0 ≤ n ∧ n ≤ 256) → (0 ≤ k ∧ k ≤ 256) → (n ≤ k) → (n = gsf (fun x9 => if 0 < z0 x9 then (1 : Int) else 0) (k).toNat) → h2.2.2.2.2 m 59 = .int (zi w0) → gSO ty sg h2 → eeOk sg → gRn 514 ty 37 (eeJ z0 z1) h2 → (∀ j9 : Nat, j9 < 257 → 0 ≤ z0 j9 ∧ z0 j9 ≤ 16) → gz gPP gGG gcn (d + 2) gt203 4 [some (.ref m), some (.int (zi wh)), some (.int (zi n)), some (.int (zi k)), none, none] [] h2 (fun q _ => gSs rT 1027 ty [1059, 32999] h q.2.2 ∧ ∃ w1 : Int, gfin gt203 q.1 q.2.1 = some none ∧ q.2.2.2.2.2.2 m 59 = .int (zi w1) ∧ 0 ≤ w1 ∧ w1 ≤ 60000 ∧ (w1 = (ekP 0 z0 sg).1) ∧ ((ekP 0 z0 sg).2.1 = sg.2.1) ∧ ((ekP 0 z0 sg).2.2.1 = sg.2.2.1) ∧ (w0 ≤ w1) ∧ (w1 ≤ w0 + 277) ∧ (gSO ty (ekP 0 z0 sg) q.2.2) ∧ (eeOk (ekP 0 z0 sg))) := by
    intro fu
    induction fu with
    | zero => intro h2 n k hm; exact absurd hm (Nat.not_lt_zero _)
    | succ fu ihlp1 =>
      intro h2 n k lp1m sh2 lp1f0 lp1f1 lp1f2 lp1f3 lp1k0 lp1k1 lp1k2 lp1k3 lp1k4
      refine gz_s 2 (pc' := 8) (L' := [some (.ref m), some (.int (zi wh)), some (.int (zi n)), some (.int (zi k)), none, none]) (S' := [.int (zi 256), .int (zi k)]) rfl ?_
      by_cases hc3 : (256 : Int) ≤ k
      · refine gy_icT (pc' := 40) rfl (by decide) (by decide) (by omega) (by omega) hc3 ?_
        have hna : ekT z0 256 16 = n := by rw [ekT_all 256 (fun s9 hs9 => hyl16 s9 (by omega))]; rw [show n = gsf (fun x9 => if 0 < z0 x9 then (1 : Int) else 0) (k).toNat by omega, (by omega : (k).toNat = 256)]
        refine gz_s 2 (pc' := 44) (L' := [some (.ref m), some (.int (zi wh)), some (.int (zi n)), some (.int (zi k)), none, none]) (S' := [.int (zi 196), .ref m]) rfl ?_
        refine gz_call rfl (by decide) rfl (by decide) (by decide) (gcal_of rfl rfl rfl (Nat.le_of_ble_eq_true rfl) (gJ.recv (G := gGG) sh2.1 tm rfl rfl)) (mw_putMarker _ sh2.1 m tm 196 (by omega) w0 lp1k0 (by omega) sg (by omega) uq lp1k1 lp1k2) (fun q4 _ wq4 => ?_)
        obtain ⟨pq4, oq4, hq4⟩ := q4
        obtain ⟨xq4, fq4_0, gq4, efq4_0, afq4_0, bfq4_0, uq4_0, uq4_1, uq4_2, uq4_3, yq4_0, yq4_1⟩ := wq4
        refine ⟨_, gq4, ?_⟩
        show gz gPP gGG gcn _ _ 47 [some (.ref m), some (.int (zi wh)), some (.int (zi n)), some (.int (zi k)), none, none] [] hq4 _
        have sq4 := gSs.tr sh2 xq4 (by decide)
        have pr5 := gRn.fr xq4.2 (by decide) lp1k3
        refine gy_s 4 (pc' := 52) (L' := [some (.ref m), some (.int (zi wh)), some (.int (zi n)), some (.int (zi k)), none, none]) (S' := [.int ((zi 19) + (zi n)), .ref m]) (L2 := [some (.ref m), some (.int (zi wh)), some (.int (zi n)), some (.int (zi k)), none, none]) (S2 := [.int (zi (19 + n)), .ref m]) rfl (by simp only [zi_add, zi_sub, zi_mul, zi_neg, zi_and1, zi_and7, zi_and15, zi_and31, zi_and255]) (by simp only [zi_add, zi_sub, zi_mul, zi_neg, zi_and1, zi_and7, zi_and15, zi_and31, zi_and255]) ?_
        refine gz_call rfl (by decide) rfl (by decide) (by decide) (gcal_of rfl rfl rfl (Nat.le_of_ble_eq_true rfl) (gJ.recv (G := gGG) sq4.1 tm rfl rfl)) (mw_putTwo _ sq4.1 m tm (19 + n) (by omega) fq4_0 efq4_0 (by omega) (eeM sg 196) (by omega) uq yq4_0 yq4_1) (fun q6 _ wq6 => ?_)
        obtain ⟨pq6, oq6, hq6⟩ := q6
        obtain ⟨xq6, fq6_0, gq6, efq6_0, afq6_0, bfq6_0, uq6_0, uq6_1, uq6_2, uq6_3, yq6_0, yq6_1⟩ := wq6
        refine ⟨_, gq6, ?_⟩
        show gz gPP gGG gcn _ _ 55 [some (.ref m), some (.int (zi wh)), some (.int (zi n)), some (.int (zi k)), none, none] [] hq6 _
        have sq6 := gSs.tr sq4 xq6 (by decide)
        have pr7 := gRn.fr xq6.2 (by decide) pr5
        refine gy_s 4 (pc' := 60) (L' := [some (.ref m), some (.int (zi wh)), some (.int (zi n)), some (.int (zi k)), none, none]) (S' := [.int ((zi 16) * (zi wh)), .ref m]) (L2 := [some (.ref m), some (.int (zi wh)), some (.int (zi n)), some (.int (zi k)), none, none]) (S2 := [.int (zi (16 * wh)), .ref m]) rfl (by simp only [zi_add, zi_sub, zi_mul, zi_neg, zi_and1, zi_and7, zi_and15, zi_and31, zi_and255]) (by simp only [zi_add, zi_sub, zi_mul, zi_neg, zi_and1, zi_and7, zi_and15, zi_and31, zi_and255]) ?_
        refine gz_call rfl (by decide) rfl (by decide) (by decide) (gcal_of rfl rfl rfl (Nat.le_of_ble_eq_true rfl) (gJ.recv (G := gGG) sq6.1 tm rfl rfl)) (mw_putByte _ sq6.1 m tm (16 * wh) (by omega) fq6_0 efq6_0 (by omega) (eeT (eeM sg 196) (19 + n)) (by omega) uq yq6_0 yq6_1) (fun q8 _ wq8 => ?_)
        obtain ⟨pq8, oq8, hq8⟩ := q8
        obtain ⟨xq8, fq8_0, gq8, efq8_0, afq8_0, bfq8_0, uq8_0, uq8_1, uq8_2, uq8_3, yq8_0, yq8_1⟩ := wq8
        refine ⟨_, gq8, ?_⟩
        show gz gPP gGG gcn _ _ 63 [some (.ref m), some (.int (zi wh)), some (.int (zi n)), some (.int (zi k)), none, none] [] hq8 _
        have sq8 := gSs.tr sq6 xq8 (by decide)
        have pr9 := gRn.fr xq8.2 (by decide) pr7
        have hk10 : eeB (eeT (eeM sg 196) (19 + ekT z0 256 16)) (16 * 0) = eeB (eeT (eeM sg 196) (19 + n)) (16 * wh) := by rw [hna, show wh = 0 by omega]
        have hk10_1 : (eeB (eeT (eeM sg 196) (19 + ekT z0 256 16)) (16 * 0)).1 = (eeB (eeT (eeM sg 196) (19 + n)) (16 * wh)).1 := by rw [hk10]
        have hk10_21 : (eeB (eeT (eeM sg 196) (19 + ekT z0 256 16)) (16 * 0)).2.1 = (eeB (eeT (eeM sg 196) (19 + n)) (16 * wh)).2.1 := by rw [hk10]
        have hk10_221 : (eeB (eeT (eeM sg 196) (19 + ekT z0 256 16)) (16 * 0)).2.2.1 = (eeB (eeT (eeM sg 196) (19 + n)) (16 * wh)).2.2.1 := by rw [hk10]
        have hso11 : gSO ty (eeB (eeT (eeM sg 196) (19 + ekT z0 256 16)) (16 * 0)) hq8 := by rw [hk10]; exact yq8_0
        have hok12 : eeOk (eeB (eeT (eeM sg 196) (19 + ekT z0 256 16)) (16 * 0)) := by rw [hk10]; exact yq8_1
        have hok12c := hok12.cur
        refine gz_s 2 (pc' := 65) (L' := [some (.ref m), some (.int (zi wh)), some (.int (zi n)), some (.int (zi 1)), none, none]) (S' := []) rfl ?_
        have hk14 : ekA z0 (eeB (eeT (eeM sg 196) (19 + ekT z0 256 16)) (16 * 0)) (1 - 1 : Int).toNat = eeB (eeT (eeM sg 196) (19 + ekT z0 256 16)) (16 * 0) := rfl
        have hk14_1 : (ekA z0 (eeB (eeT (eeM sg 196) (19 + ekT z0 256 16)) (16 * 0)) (1 - 1 : Int).toNat).1 = (eeB (eeT (eeM sg 196) (19 + ekT z0 256 16)) (16 * 0)).1 := by rw [hk14]
        have hk14_21 : (ekA z0 (eeB (eeT (eeM sg 196) (19 + ekT z0 256 16)) (16 * 0)) (1 - 1 : Int).toNat).2.1 = (eeB (eeT (eeM sg 196) (19 + ekT z0 256 16)) (16 * 0)).2.1 := by rw [hk14]
        have hk14_221 : (ekA z0 (eeB (eeT (eeM sg 196) (19 + ekT z0 256 16)) (16 * 0)) (1 - 1 : Int).toNat).2.2.1 = (eeB (eeT (eeM sg 196) (19 + ekT z0 256 16)) (16 * 0)).2.2.1 := by rw [hk14]
        have hso15 : gSO ty (ekA z0 (eeB (eeT (eeM sg 196) (19 + ekT z0 256 16)) (16 * 0)) (1 - 1 : Int).toNat) hq8 := by rw [hk14]; exact hso11
        have hok16 : eeOk (ekA z0 (eeB (eeT (eeM sg 196) (19 + ekT z0 256 16)) (16 * 0)) (1 - 1 : Int).toNat) := by rw [hk14]; exact hok12
        have hok16c := hok16.cur
        have lp13 : ∀ (fu : Nat) (h17 : gH) (b1 : Int) (wa : Int), (18 - b1).toNat < fu → gSs rT 1027 ty [1059, 32999] h h17 → (1 ≤ b1 ∧ b1 ≤ 17) → (0 ≤ wa ∧ wa ≤ 60000) → (wa = w0 + 4 + b1) → (wa = (ekA z0 (eeB (eeT (eeM sg 196) (19 + ekT z0 256 16)) (16 * 0)) (b1 - 1).toNat).1) → ((ekA z0 (eeB (eeT (eeM sg 196) (19 + ekT z0 256 16)) (16 * 0)) (b1 - 1).toNat).2.1 = sg.2.1) → ((ekA z0 (eeB (eeT (eeM sg 196) (19 + ekT z0 256 16)) (16 * 0)) (b1 - 1).toNat).2.2.1 = sg.2.2.1) → h17.2.2.2.2 m 59 = .int (zi wa) → gRn 514 ty 37 (eeJ z0 z1) h17 → (∀ j9 : Nat, j9 < 257 → 0 ≤ z0 j9 ∧ z0 j9 ≤ 16) → gSO ty (ekA z0 (eeB (eeT (eeM sg 196) (19 + ekT z0 256 16)) (16 * 0)) (b1 - 1).toNat) h17 → eeOk (ekA z0 (eeB (eeT (eeM sg 196) (19 + ekT z0 256 16)) (16 * 0)) (b1 - 1).toNat) → gz gPP gGG gcn (d + 2) gt203 65 [some (.ref m), some (.int (zi wh)), some (.int (zi n)), some (.int (zi b1)), none, none] [] h17 (fun q _ => gSs rT 1027 ty [1059, 32999] h q.2.2 ∧ ∃ w1 : Int, gfin gt203 q.1 q.2.1 = some none ∧ q.2.2.2.2.2.2 m 59 = .int (zi w1) ∧ 0 ≤ w1 ∧ w1 ≤ 60000 ∧ (w1 = (ekP 0 z0 sg).1) ∧ ((ekP 0 z0 sg).2.1 = sg.2.1) ∧ ((ekP 0 z0 sg).2.2.1 = sg.2.2.1) ∧ (w0 ≤ w1) ∧ (w1 ≤ w0 + 277) ∧ (gSO ty (ekP 0 z0 sg) q.2.2) ∧ (eeOk (ekP 0 z0 sg))) := by
          intro fu
          induction fu with
          | zero => intro h17 b1 wa hm; exact absurd hm (Nat.not_lt_zero _)
          | succ fu ihlp13 =>
            intro h17 b1 wa lp13m sh17 lp13f0 lp13f1 lp13f2 lp13f3 lp13f4 lp13f5 lp13k0 lp13k1 lp13k2 lp13k3 lp13k4
            refine gz_s 2 (pc' := 68) (L' := [some (.ref m), some (.int (zi wh)), some (.int (zi n)), some (.int (zi b1)), none, none]) (S' := [.int (zi 16), .int (zi b1)]) rfl ?_
            by_cases hc18 : (16 : Int) < b1
            · refine gy_icT (pc' := 131) rfl (by decide) (by decide) (by omega) (by omega) hc18 ?_
              have hk19 : ekA z0 (eeB (eeT (eeM sg 196) (19 + ekT z0 256 16)) (16 * 0)) 16 = ekA z0 (eeB (eeT (eeM sg 196) (19 + ekT z0 256 16)) (16 * 0)) (b1 - 1).toNat := by rw [(by omega : (b1 - 1).toNat = 16)]
              have hk19_1 : (ekA z0 (eeB (eeT (eeM sg 196) (19 + ekT z0 256 16)) (16 * 0)) 16).1 = (ekA z0 (eeB (eeT (eeM sg 196) (19 + ekT z0 256 16)) (16 * 0)) (b1 - 1).toNat).1 := by rw [hk19]
              have hk19_21 : (ekA z0 (eeB (eeT (eeM sg 196) (19 + ekT z0 256 16)) (16 * 0)) 16).2.1 = (ekA z0 (eeB (eeT (eeM sg 196) (19 + ekT z0 256 16)) (16 * 0)) (b1 - 1).toNat).2.1 := by rw [hk19]
              have hk19_221 : (ekA z0 (eeB (eeT (eeM sg 196) (19 + ekT z0 256 16)) (16 * 0)) 16).2.2.1 = (ekA z0 (eeB (eeT (eeM sg 196) (19 + ekT z0 256 16)) (16 * 0)) (b1 - 1).toNat).2.2.1 := by rw [hk19]
              have hso20 : gSO ty (ekA z0 (eeB (eeT (eeM sg 196) (19 + ekT z0 256 16)) (16 * 0)) 16) h17 := by rw [hk19]; exact lp13k3
              have hok21 : eeOk (ekA z0 (eeB (eeT (eeM sg 196) (19 + ekT z0 256 16)) (16 * 0)) 16) := by rw [hk19]; exact lp13k4
              have hok21c := hok21.cur
              have hkA := ekA_k z0 (eeB (eeT (eeM sg 196) (19 + ekT z0 256 16)) (16 * 0)) 16
              refine gz_s 2 (pc' := 133) (L' := [some (.ref m), some (.int (zi wh)), some (.int (zi n)), some (.int (zi 1)), none, none]) (S' := []) rfl ?_
              have hk23 : ekD z0 (ekA z0 (eeB (eeT (eeM sg 196) (19 + ekT z0 256 16)) (16 * 0)) 16) (1 - 1 : Int).toNat = ekA z0 (eeB (eeT (eeM sg 196) (19 + ekT z0 256 16)) (16 * 0)) 16 := rfl
              have hk23_1 : (ekD z0 (ekA z0 (eeB (eeT (eeM sg 196) (19 + ekT z0 256 16)) (16 * 0)) 16) (1 - 1 : Int).toNat).1 = (ekA z0 (eeB (eeT (eeM sg 196) (19 + ekT z0 256 16)) (16 * 0)) 16).1 := by rw [hk23]
              have hk23_21 : (ekD z0 (ekA z0 (eeB (eeT (eeM sg 196) (19 + ekT z0 256 16)) (16 * 0)) 16) (1 - 1 : Int).toNat).2.1 = (ekA z0 (eeB (eeT (eeM sg 196) (19 + ekT z0 256 16)) (16 * 0)) 16).2.1 := by rw [hk23]
              have hk23_221 : (ekD z0 (ekA z0 (eeB (eeT (eeM sg 196) (19 + ekT z0 256 16)) (16 * 0)) 16) (1 - 1 : Int).toNat).2.2.1 = (ekA z0 (eeB (eeT (eeM sg 196) (19 + ekT z0 256 16)) (16 * 0)) 16).2.2.1 := by rw [hk23]
              have hso24 : gSO ty (ekD z0 (ekA z0 (eeB (eeT (eeM sg 196) (19 + ekT z0 256 16)) (16 * 0)) 16) (1 - 1 : Int).toNat) h17 := by rw [hk23]; exact hso20
              have hok25 : eeOk (ekD z0 (ekA z0 (eeB (eeT (eeM sg 196) (19 + ekT z0 256 16)) (16 * 0)) 16) (1 - 1 : Int).toNat) := by rw [hk23]; exact hok21
              have hok25c := hok25.cur
              have lp22 : ∀ (fu : Nat) (h26 : gH) (bt : Int) (wv : Int), (18 - bt).toNat < fu → gSs rT 1027 ty [1059, 32999] h h26 → (1 ≤ bt ∧ bt ≤ 17) → (0 ≤ wv ∧ wv ≤ 60000) → (w0 ≤ wv) → (wv = w0 + 21 + ekT z0 256 (bt - 1).toNat) → (wv = (ekD z0 (ekA z0 (eeB (eeT (eeM sg 196) (19 + ekT z0 256 16)) (16 * 0)) 16) (bt - 1).toNat).1) → ((ekD z0 (ekA z0 (eeB (eeT (eeM sg 196) (19 + ekT z0 256 16)) (16 * 0)) 16) (bt - 1).toNat).2.1 = sg.2.1) → ((ekD z0 (ekA z0 (eeB (eeT (eeM sg 196) (19 + ekT z0 256 16)) (16 * 0)) 16) (bt - 1).toNat).2.2.1 = sg.2.2.1) → h26.2.2.2.2 m 59 = .int (zi wv) → gRn 514 ty 37 (eeJ z0 z1) h26 → (∀ j9 : Nat, j9 < 257 → 0 ≤ z0 j9 ∧ z0 j9 ≤ 16) → gSO ty (ekD z0 (ekA z0 (eeB (eeT (eeM sg 196) (19 + ekT z0 256 16)) (16 * 0)) 16) (bt - 1).toNat) h26 → eeOk (ekD z0 (ekA z0 (eeB (eeT (eeM sg 196) (19 + ekT z0 256 16)) (16 * 0)) 16) (bt - 1).toNat) → gz gPP gGG gcn (d + 2) gt203 133 [some (.ref m), some (.int (zi wh)), some (.int (zi n)), some (.int (zi bt)), none, none] [] h26 (fun q _ => gSs rT 1027 ty [1059, 32999] h q.2.2 ∧ ∃ w1 : Int, gfin gt203 q.1 q.2.1 = some none ∧ q.2.2.2.2.2.2 m 59 = .int (zi w1) ∧ 0 ≤ w1 ∧ w1 ≤ 60000 ∧ (w1 = (ekP 0 z0 sg).1) ∧ ((ekP 0 z0 sg).2.1 = sg.2.1) ∧ ((ekP 0 z0 sg).2.2.1 = sg.2.2.1) ∧ (w0 ≤ w1) ∧ (w1 ≤ w0 + 277) ∧ (gSO ty (ekP 0 z0 sg) q.2.2) ∧ (eeOk (ekP 0 z0 sg))) := by
                intro fu
                induction fu with
                | zero => intro h26 bt wv hm; exact absurd hm (Nat.not_lt_zero _)
                | succ fu ihlp22 =>
                  intro h26 bt wv lp22m sh26 lp22f0 lp22f1 lp22f2 lp22f3 lp22f4 lp22f5 lp22f6 lp22k0 lp22k1 lp22k2 lp22k3 lp22k4
                  have htn := ekT_n z0 (bt - 1).toNat 256
                  refine gz_s 2 (pc' := 136) (L' := [some (.ref m), some (.int (zi wh)), some (.int (zi n)), some (.int (zi bt)), none, none]) (S' := [.int (zi 16), .int (zi bt)]) rfl ?_
                  by_cases hc27 : (16 : Int) < bt
                  · refine gy_icT (pc' := 185) rfl (by decide) (by decide) (by omega) (by omega) hc27 ?_
                    have hk28 : ekP 0 z0 sg = ekD z0 (ekA z0 (eeB (eeT (eeM sg 196) (19 + ekT z0 256 16)) (16 * 0)) 16) (bt - 1).toNat := by rw [(by omega : (bt - 1).toNat = 16)]; rfl
                    have hk28_1 : (ekP 0 z0 sg).1 = (ekD z0 (ekA z0 (eeB (eeT (eeM sg 196) (19 + ekT z0 256 16)) (16 * 0)) 16) (bt - 1).toNat).1 := by rw [hk28]
                    have hk28_21 : (ekP 0 z0 sg).2.1 = (ekD z0 (ekA z0 (eeB (eeT (eeM sg 196) (19 + ekT z0 256 16)) (16 * 0)) 16) (bt - 1).toNat).2.1 := by rw [hk28]
                    have hk28_221 : (ekP 0 z0 sg).2.2.1 = (ekD z0 (ekA z0 (eeB (eeT (eeM sg 196) (19 + ekT z0 256 16)) (16 * 0)) 16) (bt - 1).toNat).2.2.1 := by rw [hk28]
                    have hso29 : gSO ty (ekP 0 z0 sg) h26 := by rw [hk28]; exact lp22k3
                    have hok30 : eeOk (ekP 0 z0 sg) := by rw [hk28]; exact lp22k4
                    have hok30c := hok30.cur
                    exact gz_end (I := .return_) (len := 1) rfl (Or.inl rfl) ⟨sh26, wv, rfl, lp22k0, (by omega), (by omega), (by omega), (by omega), (by omega), (by omega), (by omega), hso29, hok30⟩
                  · refine gy_icF rfl (by decide) (by decide) (by omega) (by omega) hc27 ?_
                    refine gz_s 2 (pc' := 142) (L' := [some (.ref m), some (.int (zi wh)), some (.int (zi n)), some (.int (zi bt)), some (.int (zi 0)), none]) (S' := []) rfl ?_
                    have hk32 : ekB z0 bt (ekD z0 (ekA z0 (eeB (eeT (eeM sg 196) (19 + ekT z0 256 16)) (16 * 0)) 16) (bt - 1).toNat) (0 : Int).toNat = ekD z0 (ekA z0 (eeB (eeT (eeM sg 196) (19 + ekT z0 256 16)) (16 * 0)) 16) (bt - 1).toNat := rfl
                    have hk32_1 : (ekB z0 bt (ekD z0 (ekA z0 (eeB (eeT (eeM sg 196) (19 + ekT z0 256 16)) (16 * 0)) 16) (bt - 1).toNat) (0 : Int).toNat).1 = (ekD z0 (ekA z0 (eeB (eeT (eeM sg 196) (19 + ekT z0 256 16)) (16 * 0)) 16) (bt - 1).toNat).1 := by rw [hk32]
                    have hk32_21 : (ekB z0 bt (ekD z0 (ekA z0 (eeB (eeT (eeM sg 196) (19 + ekT z0 256 16)) (16 * 0)) 16) (bt - 1).toNat) (0 : Int).toNat).2.1 = (ekD z0 (ekA z0 (eeB (eeT (eeM sg 196) (19 + ekT z0 256 16)) (16 * 0)) 16) (bt - 1).toNat).2.1 := by rw [hk32]
                    have hk32_221 : (ekB z0 bt (ekD z0 (ekA z0 (eeB (eeT (eeM sg 196) (19 + ekT z0 256 16)) (16 * 0)) 16) (bt - 1).toNat) (0 : Int).toNat).2.2.1 = (ekD z0 (ekA z0 (eeB (eeT (eeM sg 196) (19 + ekT z0 256 16)) (16 * 0)) 16) (bt - 1).toNat).2.2.1 := by rw [hk32]
                    have hso33 : gSO ty (ekB z0 bt (ekD z0 (ekA z0 (eeB (eeT (eeM sg 196) (19 + ekT z0 256 16)) (16 * 0)) 16) (bt - 1).toNat) (0 : Int).toNat) h26 := by rw [hk32]; exact lp22k3
                    have hok34 : eeOk (ekB z0 bt (ekD z0 (ekA z0 (eeB (eeT (eeM sg 196) (19 + ekT z0 256 16)) (16 * 0)) 16) (bt - 1).toNat) (0 : Int).toNat) := by rw [hk32]; exact lp22k4
                    have hok34c := hok34.cur
                    have lp31 : ∀ (fu : Nat) (h35 : gH) (s : Int) (wv2 : Int), (257 - s).toNat < fu → gSs rT 1027 ty [1059, 32999] h h35 → (0 ≤ s ∧ s ≤ 256) → (0 ≤ wv2 ∧ wv2 ≤ 60000) → (w0 ≤ wv2) → (wv2 = w0 + 21 + ekT z0 256 (bt - 1).toNat + ekN z0 bt (s).toNat) → (wv2 = (ekB z0 bt (ekD z0 (ekA z0 (eeB (eeT (eeM sg 196) (19 + ekT z0 256 16)) (16 * 0)) 16) (bt - 1).toNat) (s).toNat).1) → ((ekB z0 bt (ekD z0 (ekA z0 (eeB (eeT (eeM sg 196) (19 + ekT z0 256 16)) (16 * 0)) 16) (bt - 1).toNat) (s).toNat).2.1 = sg.2.1) → ((ekB z0 bt (ekD z0 (ekA z0 (eeB (eeT (eeM sg 196) (19 + ekT z0 256 16)) (16 * 0)) 16) (bt - 1).toNat) (s).toNat).2.2.1 = sg.2.2.1) → h35.2.2.2.2 m 59 = .int (zi wv2) → gRn 514 ty 37 (eeJ z0 z1) h35 → (∀ j9 : Nat, j9 < 257 → 0 ≤ z0 j9 ∧ z0 j9 ≤ 16) → gSO ty (ekB z0 bt (ekD z0 (ekA z0 (eeB (eeT (eeM sg 196) (19 + ekT z0 256 16)) (16 * 0)) 16) (bt - 1).toNat) (s).toNat) h35 → eeOk (ekB z0 bt (ekD z0 (ekA z0 (eeB (eeT (eeM sg 196) (19 + ekT z0 256 16)) (16 * 0)) 16) (bt - 1).toNat) (s).toNat) → gz gPP gGG gcn (d + 2) gt203 142 [some (.ref m), some (.int (zi wh)), some (.int (zi n)), some (.int (zi bt)), some (.int (zi s)), none] [] h35 (fun q _ => gSs rT 1027 ty [1059, 32999] h q.2.2 ∧ ∃ w1 : Int, gfin gt203 q.1 q.2.1 = some none ∧ q.2.2.2.2.2.2 m 59 = .int (zi w1) ∧ 0 ≤ w1 ∧ w1 ≤ 60000 ∧ (w1 = (ekP 0 z0 sg).1) ∧ ((ekP 0 z0 sg).2.1 = sg.2.1) ∧ ((ekP 0 z0 sg).2.2.1 = sg.2.2.1) ∧ (w0 ≤ w1) ∧ (w1 ≤ w0 + 277) ∧ (gSO ty (ekP 0 z0 sg) q.2.2) ∧ (eeOk (ekP 0 z0 sg))) := by
                      intro fu
                      induction fu with
                      | zero => intro h35 s wv2 hm; exact absurd hm (Nat.not_lt_zero _)
                      | succ fu ihlp31 =>
                        intro h35 s wv2 lp31m sh35 lp31f0 lp31f1 lp31f2 lp31f3 lp31f4 lp31f5 lp31f6 lp31k0 lp31k1 lp31k2 lp31k3 lp31k4
                        have hks : ekN z0 bt (s + 1).toNat = ekN z0 bt (s).toNat + (if z0 (s).toNat = bt then 1 else 0) := by rw [(by omega : (s + 1).toNat = (s).toNat + 1)]; rfl
                        have hnb := ekN_b z0 bt (s).toNat
                        have hts : ekT z0 256 (bt + 1 - 1).toNat = ekT z0 256 (bt - 1).toNat + ekN z0 bt 256 := by rw [(by omega : (bt + 1 - 1).toNat = (bt - 1).toNat + 1)]; show ekT z0 256 (bt - 1).toNat + ekN z0 (((bt - 1).toNat + 1 : Nat) : Int) 256 = _; rw [(by omega : (((bt - 1).toNat + 1 : Nat) : Int) = bt)]
                        have htm := ekT_n z0 (bt + 1 - 1).toNat 256
                        have hmo := ekN_mono (L := z0) (l := bt) (a := (s).toNat) (b := 256) (by omega)
                        refine gz_s 2 (pc' := 147) (L' := [some (.ref m), some (.int (zi wh)), some (.int (zi n)), some (.int (zi bt)), some (.int (zi s)), none]) (S' := [.int (zi 256), .int (zi s)]) rfl ?_
                        by_cases hc36 : (256 : Int) ≤ s
                        · refine gy_icT (pc' := 179) rfl (by decide) (by decide) (by omega) (by omega) hc36 ?_
                          have h256 : ekN z0 bt (s).toNat = ekN z0 bt 256 := by rw [(by omega : (s).toNat = 256)]
                          have hk37 : ekD z0 (ekA z0 (eeB (eeT (eeM sg 196) (19 + ekT z0 256 16)) (16 * 0)) 16) ((bt + 1) - 1).toNat = ekB z0 bt (ekD z0 (ekA z0 (eeB (eeT (eeM sg 196) (19 + ekT z0 256 16)) (16 * 0)) 16) (bt - 1).toNat) (s).toNat := by rw [(by omega : (bt + 1 - 1).toNat = (bt - 1).toNat + 1)]; show ekB z0 (((bt - 1).toNat + 1 : Nat) : Int) (ekD z0 (ekA z0 (eeB (eeT (eeM sg 196) (19 + ekT z0 256 16)) (16 * 0)) 16) (bt - 1).toNat) 256 = _; rw [(by omega : (((bt - 1).toNat + 1 : Nat) : Int) = bt), (by omega : (s).toNat = 256)]
                          have hk37_1 : (ekD z0 (ekA z0 (eeB (eeT (eeM sg 196) (19 + ekT z0 256 16)) (16 * 0)) 16) ((bt + 1) - 1).toNat).1 = (ekB z0 bt (ekD z0 (ekA z0 (eeB (eeT (eeM sg 196) (19 + ekT z0 256 16)) (16 * 0)) 16) (bt - 1).toNat) (s).toNat).1 := by rw [hk37]
                          have hk37_21 : (ekD z0 (ekA z0 (eeB (eeT (eeM sg 196) (19 + ekT z0 256 16)) (16 * 0)) 16) ((bt + 1) - 1).toNat).2.1 = (ekB z0 bt (ekD z0 (ekA z0 (eeB (eeT (eeM sg 196) (19 + ekT z0 256 16)) (16 * 0)) 16) (bt - 1).toNat) (s).toNat).2.1 := by rw [hk37]
                          have hk37_221 : (ekD z0 (ekA z0 (eeB (eeT (eeM sg 196) (19 + ekT z0 256 16)) (16 * 0)) 16) ((bt + 1) - 1).toNat).2.2.1 = (ekB z0 bt (ekD z0 (ekA z0 (eeB (eeT (eeM sg 196) (19 + ekT z0 256 16)) (16 * 0)) 16) (bt - 1).toNat) (s).toNat).2.2.1 := by rw [hk37]
                          have hso38 : gSO ty (ekD z0 (ekA z0 (eeB (eeT (eeM sg 196) (19 + ekT z0 256 16)) (16 * 0)) 16) ((bt + 1) - 1).toNat) h35 := by rw [hk37]; exact lp31k3
                          have hok39 : eeOk (ekD z0 (ekA z0 (eeB (eeT (eeM sg 196) (19 + ekT z0 256 16)) (16 * 0)) 16) ((bt + 1) - 1).toNat) := by rw [hk37]; exact lp31k4
                          have hok39c := hok39.cur
                          refine gy_s 2 (pc' := 133) (L' := [some (.ref m), some (.int (zi wh)), some (.int (zi n)), some (.int ((zi bt) + zi 1)), some (.int (zi s)), none]) (S' := []) (L2 := [some (.ref m), some (.int (zi wh)), some (.int (zi n)), some (.int (zi (bt + 1))), some (.int (zi s)), none]) (S2 := []) rfl (by simp only [zi_add, zi_sub, zi_mul, zi_neg, zi_and1, zi_and7, zi_and15, zi_and31, zi_and255]) (by simp only [zi_add, zi_sub, zi_mul, zi_neg, zi_and1, zi_and7, zi_and15, zi_and31, zi_and255]) ?_
                          exact gz_wk (ihlp22 h35 (bt + 1) wv2 (by omega) sh35 (by omega) (by omega) (by omega) (by omega) (by omega) (by omega) (by omega) lp31k0 lp31k1 lp31k2 hso38 hok39) (gLw.s (gLw.s (gLw.s (gLw.s (gLw.n (gLw.n gLw.z))))))
                        · refine gy_icF rfl (by decide) (by decide) (by omega) (by omega) hc36 ?_
                          refine gz_s 1 (pc' := 151) (L' := [some (.ref m), some (.int (zi wh)), some (.int (zi n)), some (.int (zi bt)), some (.int (zi s)), none]) (S' := [.ref m]) rfl ?_
                          refine gs_gtr rfl (by decide) rfl sh35.1 tm rfl rfl rfl (fun c40 ec40 tc40 => ?_)
                          refine gy_s 5 (pc' := 162) (L' := [some (.ref m), some (.int (zi wh)), some (.int (zi n)), some (.int (zi bt)), some (.int (zi s)), none]) (S' := [.int (((zi 257) * (zi wh)) + (zi s)), .ref c40]) (L2 := [some (.ref m), some (.int (zi wh)), some (.int (zi n)), some (.int (zi bt)), some (.int (zi s)), none]) (S2 := [.int (zi ((257 * wh) + s)), .ref c40]) rfl (by simp only [zi_add, zi_sub, zi_mul, zi_neg, zi_and1, zi_and7, zi_and15, zi_and31, zi_and255]) (by simp only [zi_add, zi_sub, zi_mul, zi_neg, zi_and1, zi_and7, zi_and15, zi_and31, zi_and255]) ?_
                          have hl41 : 514 ≤ h35.2.2.2.1 c40 ∧ h35.2.2.2.1 c40 ≤ 514 := gJ.rowl (G := gGG) sh35.1 tc40 rfl
                          refine gs_ald rfl (by decide) sh35.1 tc40 rfl rfl rfl (by decide) (fun _ => rfl) (by omega) (by omega) (fun z42 ez42 az42 bz42 => ?_)
                          have hf43 := gRn.at (i := (257 * wh) + s) (z := z42) lp31k1 tc40 ez42 (by omega) (by omega) (by omega)
                          have hr3 : z0 (s).toNat = z42 := by have h9 := hf43; rw [show wh = 0 by omega, eeJ_a0 (by omega) (by omega)] at h9; exact h9
                          refine gz_s 1 (pc' := 164) (L' := [some (.ref m), some (.int (zi wh)), some (.int (zi n)), some (.int (zi bt)), some (.int (zi s)), none]) (S' := [.int (zi bt), .int (zi z42)]) rfl ?_
                          by_cases hc44 : ¬ (z42 : Int) = bt
                          · refine gy_icT (pc' := 173) rfl (by decide) (by decide) (by omega) (by omega) hc44 ?_
                            have hk45 : ekB z0 bt (ekD z0 (ekA z0 (eeB (eeT (eeM sg 196) (19 + ekT z0 256 16)) (16 * 0)) 16) (bt - 1).toNat) (s + 1).toNat = ekB z0 bt (ekD z0 (ekA z0 (eeB (eeT (eeM sg 196) (19 + ekT z0 256 16)) (16 * 0)) 16) (bt - 1).toNat) (s).toNat := by rw [(by omega : (s + 1).toNat = (s).toNat + 1)]; show (if z0 (s).toNat = bt then eeB (ekB z0 bt (ekD z0 (ekA z0 (eeB (eeT (eeM sg 196) (19 + ekT z0 256 16)) (16 * 0)) 16) (bt - 1).toNat) (s).toNat) (((s).toNat : Nat) : Int) else ekB z0 bt (ekD z0 (ekA z0 (eeB (eeT (eeM sg 196) (19 + ekT z0 256 16)) (16 * 0)) 16) (bt - 1).toNat) (s).toNat) = _; rw [if_neg (by omega)]
                            have hk45_1 : (ekB z0 bt (ekD z0 (ekA z0 (eeB (eeT (eeM sg 196) (19 + ekT z0 256 16)) (16 * 0)) 16) (bt - 1).toNat) (s + 1).toNat).1 = (ekB z0 bt (ekD z0 (ekA z0 (eeB (eeT (eeM sg 196) (19 + ekT z0 256 16)) (16 * 0)) 16) (bt - 1).toNat) (s).toNat).1 := by rw [hk45]
                            have hk45_21 : (ekB z0 bt (ekD z0 (ekA z0 (eeB (eeT (eeM sg 196) (19 + ekT z0 256 16)) (16 * 0)) 16) (bt - 1).toNat) (s + 1).toNat).2.1 = (ekB z0 bt (ekD z0 (ekA z0 (eeB (eeT (eeM sg 196) (19 + ekT z0 256 16)) (16 * 0)) 16) (bt - 1).toNat) (s).toNat).2.1 := by rw [hk45]
                            have hk45_221 : (ekB z0 bt (ekD z0 (ekA z0 (eeB (eeT (eeM sg 196) (19 + ekT z0 256 16)) (16 * 0)) 16) (bt - 1).toNat) (s + 1).toNat).2.2.1 = (ekB z0 bt (ekD z0 (ekA z0 (eeB (eeT (eeM sg 196) (19 + ekT z0 256 16)) (16 * 0)) 16) (bt - 1).toNat) (s).toNat).2.2.1 := by rw [hk45]
                            have hso46 : gSO ty (ekB z0 bt (ekD z0 (ekA z0 (eeB (eeT (eeM sg 196) (19 + ekT z0 256 16)) (16 * 0)) 16) (bt - 1).toNat) (s + 1).toNat) h35 := by rw [hk45]; exact lp31k3
                            have hok47 : eeOk (ekB z0 bt (ekD z0 (ekA z0 (eeB (eeT (eeM sg 196) (19 + ekT z0 256 16)) (16 * 0)) 16) (bt - 1).toNat) (s + 1).toNat) := by rw [hk45]; exact lp31k4
                            have hok47c := hok47.cur
                            refine gy_s 2 (pc' := 142) (L' := [some (.ref m), some (.int (zi wh)), some (.int (zi n)), some (.int (zi bt)), some (.int ((zi s) + zi 1)), none]) (S' := []) (L2 := [some (.ref m), some (.int (zi wh)), some (.int (zi n)), some (.int (zi bt)), some (.int (zi (s + 1))), none]) (S2 := []) rfl (by simp only [zi_add, zi_sub, zi_mul, zi_neg, zi_and1, zi_and7, zi_and15, zi_and31, zi_and255]) (by simp only [zi_add, zi_sub, zi_mul, zi_neg, zi_and1, zi_and7, zi_and15, zi_and31, zi_and255]) ?_
                            exact gz_wk (ihlp31 h35 (s + 1) wv2 (by omega) sh35 (by omega) (by omega) (by omega) (by omega) (by omega) (by omega) (by omega) lp31k0 lp31k1 lp31k2 hso46 hok47) (gLw.s (gLw.s (gLw.s (gLw.s (gLw.s (gLw.n gLw.z))))))
                          · refine gy_icF rfl (by decide) (by decide) (by omega) (by omega) hc44 ?_
                            refine gz_s 2 (pc' := 170) (L' := [some (.ref m), some (.int (zi wh)), some (.int (zi n)), some (.int (zi bt)), some (.int (zi s)), none]) (S' := [.int (zi s), .ref m]) rfl ?_
                            refine gz_call rfl (by decide) rfl (by decide) (by decide) (gcal_of rfl rfl rfl (Nat.le_of_ble_eq_true rfl) (gJ.recv (G := gGG) sh35.1 tm rfl rfl)) (mw_putByte _ sh35.1 m tm s (by omega) wv2 lp31k0 (by omega) (ekB z0 bt (ekD z0 (ekA z0 (eeB (eeT (eeM sg 196) (19 + ekT z0 256 16)) (16 * 0)) 16) (bt - 1).toNat) (s).toNat) (by omega) uq lp31k3 lp31k4) (fun q48 _ wq48 => ?_)
                            obtain ⟨pq48, oq48, hq48⟩ := q48
                            obtain ⟨xq48, fq48_0, gq48, efq48_0, afq48_0, bfq48_0, uq48_0, uq48_1, uq48_2, uq48_3, yq48_0, yq48_1⟩ := wq48
                            refine ⟨_, gq48, ?_⟩
                            show gz gPP gGG gcn _ _ 173 [some (.ref m), some (.int (zi wh)), some (.int (zi n)), some (.int (zi bt)), some (.int (zi s)), none] [] hq48 _
                            have sq48 := gSs.tr sh35 xq48 (by decide)
                            have s49 := (xq48.2.2.2.2.2 m 69 (by rw [tm]; decide)).trans ec40
                            have pr50 := gRn.fr xq48.2 (by decide) lp31k1
                            have hk51 : ekB z0 bt (ekD z0 (ekA z0 (eeB (eeT (eeM sg 196) (19 + ekT z0 256 16)) (16 * 0)) 16) (bt - 1).toNat) (s + 1).toNat = eeB (ekB z0 bt (ekD z0 (ekA z0 (eeB (eeT (eeM sg 196) (19 + ekT z0 256 16)) (16 * 0)) 16) (bt - 1).toNat) (s).toNat) s := by rw [(by omega : (s + 1).toNat = (s).toNat + 1)]; show (if z0 (s).toNat = bt then eeB (ekB z0 bt (ekD z0 (ekA z0 (eeB (eeT (eeM sg 196) (19 + ekT z0 256 16)) (16 * 0)) 16) (bt - 1).toNat) (s).toNat) (((s).toNat : Nat) : Int) else ekB z0 bt (ekD z0 (ekA z0 (eeB (eeT (eeM sg 196) (19 + ekT z0 256 16)) (16 * 0)) 16) (bt - 1).toNat) (s).toNat) = _; rw [if_pos (by omega), (by omega : (((s).toNat : Nat) : Int) = s)]
                            have hk51_1 : (ekB z0 bt (ekD z0 (ekA z0 (eeB (eeT (eeM sg 196) (19 + ekT z0 256 16)) (16 * 0)) 16) (bt - 1).toNat) (s + 1).toNat).1 = (eeB (ekB z0 bt (ekD z0 (ekA z0 (eeB (eeT (eeM sg 196) (19 + ekT z0 256 16)) (16 * 0)) 16) (bt - 1).toNat) (s).toNat) s).1 := by rw [hk51]
                            have hk51_21 : (ekB z0 bt (ekD z0 (ekA z0 (eeB (eeT (eeM sg 196) (19 + ekT z0 256 16)) (16 * 0)) 16) (bt - 1).toNat) (s + 1).toNat).2.1 = (eeB (ekB z0 bt (ekD z0 (ekA z0 (eeB (eeT (eeM sg 196) (19 + ekT z0 256 16)) (16 * 0)) 16) (bt - 1).toNat) (s).toNat) s).2.1 := by rw [hk51]
                            have hk51_221 : (ekB z0 bt (ekD z0 (ekA z0 (eeB (eeT (eeM sg 196) (19 + ekT z0 256 16)) (16 * 0)) 16) (bt - 1).toNat) (s + 1).toNat).2.2.1 = (eeB (ekB z0 bt (ekD z0 (ekA z0 (eeB (eeT (eeM sg 196) (19 + ekT z0 256 16)) (16 * 0)) 16) (bt - 1).toNat) (s).toNat) s).2.2.1 := by rw [hk51]
                            have hso52 : gSO ty (ekB z0 bt (ekD z0 (ekA z0 (eeB (eeT (eeM sg 196) (19 + ekT z0 256 16)) (16 * 0)) 16) (bt - 1).toNat) (s + 1).toNat) hq48 := by rw [hk51]; exact yq48_0
                            have hok53 : eeOk (ekB z0 bt (ekD z0 (ekA z0 (eeB (eeT (eeM sg 196) (19 + ekT z0 256 16)) (16 * 0)) 16) (bt - 1).toNat) (s + 1).toNat) := by rw [hk51]; exact yq48_1
                            have hok53c := hok53.cur
                            refine gy_s 2 (pc' := 142) (L' := [some (.ref m), some (.int (zi wh)), some (.int (zi n)), some (.int (zi bt)), some (.int ((zi s) + zi 1)), none]) (S' := []) (L2 := [some (.ref m), some (.int (zi wh)), some (.int (zi n)), some (.int (zi bt)), some (.int (zi (s + 1))), none]) (S2 := []) rfl (by simp only [zi_add, zi_sub, zi_mul, zi_neg, zi_and1, zi_and7, zi_and15, zi_and31, zi_and255]) (by simp only [zi_add, zi_sub, zi_mul, zi_neg, zi_and1, zi_and7, zi_and15, zi_and31, zi_and255]) ?_
                            exact gz_wk (ihlp31 hq48 (s + 1) fq48_0 (by omega) sq48 (by omega) (by omega) (by omega) (by omega) (by omega) (by omega) (by omega) efq48_0 pr50 lp31k2 hso52 hok53) (gLw.s (gLw.s (gLw.s (gLw.s (gLw.s (gLw.n gLw.z))))))
                    have hn0 : ekN z0 bt (0 : Int).toNat = 0 := rfl
                    exact gz_wk (lp31 _ h26 0 wv (Nat.lt_succ_self _) sh26 (by omega) (by omega) (by omega) (by omega) (by omega) (by omega) (by omega) lp22k0 lp22k1 lp22k2 hso33 hok34) (gLw.s (gLw.s (gLw.s (gLw.s (gLw.s (gLw.n gLw.z))))))
              have ht0 : ekT z0 256 (1 - 1 : Int).toNat = 0 := rfl
              exact gz_wk (lp22 _ h17 1 wa (Nat.lt_succ_self _) sh17 (by omega) (by omega) (by omega) (by omega) (by omega) (by omega) (by omega) lp13k0 lp13k1 lp13k2 hso24 hok25) (gLw.s (gLw.s (gLw.s (gLw.s (gLw.n (gLw.n gLw.z))))))
            · refine gy_icF rfl (by decide) (by decide) (by omega) (by omega) hc18 ?_
              refine gz_s 4 (pc' := 77) (L' := [some (.ref m), some (.int (zi wh)), some (.int (zi n)), some (.int (zi b1)), some (.int (zi 0)), some (.int (zi 0))]) (S' := []) rfl ?_
              have lp54 : ∀ (fu : Nat) (h55 : gH) (mn : Int) (s1 : Int), (257 - s1).toNat < fu → gSs rT 1027 ty [1059, 32999] h h55 → (0 ≤ mn ∧ mn ≤ 256) → (0 ≤ s1 ∧ s1 ≤ 256) → (mn ≤ s1) → (mn = ekN z0 b1 (s1).toNat) → h55.2.2.2.2 m 59 = .int (zi wa) → gRn 514 ty 37 (eeJ z0 z1) h55 → (∀ j9 : Nat, j9 < 257 → 0 ≤ z0 j9 ∧ z0 j9 ≤ 16) → gSO ty (ekA z0 (eeB (eeT (eeM sg 196) (19 + ekT z0 256 16)) (16 * 0)) (b1 - 1).toNat) h55 → eeOk (ekA z0 (eeB (eeT (eeM sg 196) (19 + ekT z0 256 16)) (16 * 0)) (b1 - 1).toNat) → gz gPP gGG gcn (d + 2) gt203 77 [some (.ref m), some (.int (zi wh)), some (.int (zi n)), some (.int (zi b1)), some (.int (zi mn)), some (.int (zi s1))] [] h55 (fun q _ => gSs rT 1027 ty [1059, 32999] h q.2.2 ∧ ∃ w1 : Int, gfin gt203 q.1 q.2.1 = some none ∧ q.2.2.2.2.2.2 m 59 = .int (zi w1) ∧ 0 ≤ w1 ∧ w1 ≤ 60000 ∧ (w1 = (ekP 0 z0 sg).1) ∧ ((ekP 0 z0 sg).2.1 = sg.2.1) ∧ ((ekP 0 z0 sg).2.2.1 = sg.2.2.1) ∧ (w0 ≤ w1) ∧ (w1 ≤ w0 + 277) ∧ (gSO ty (ekP 0 z0 sg) q.2.2) ∧ (eeOk (ekP 0 z0 sg))) := by
                intro fu
                induction fu with
                | zero => intro h55 mn s1 hm; exact absurd hm (Nat.not_lt_zero _)
                | succ fu ihlp54 =>
                  intro h55 mn s1 lp54m sh55 lp54f0 lp54f1 lp54f2 lp54f3 lp54k0 lp54k1 lp54k2 lp54k3 lp54k4
                  refine gz_s 2 (pc' := 82) (L' := [some (.ref m), some (.int (zi wh)), some (.int (zi n)), some (.int (zi b1)), some (.int (zi mn)), some (.int (zi s1))]) (S' := [.int (zi 256), .int (zi s1)]) rfl ?_
                  by_cases hc56 : (256 : Int) ≤ s1
                  · refine gy_icT (pc' := 119) rfl (by decide) (by decide) (by omega) (by omega) hc56 ?_
                    have hm9 : mn = ekN z0 b1 256 := by rw [show mn = ekN z0 b1 (s1).toNat by omega, (by omega : (s1).toNat = 256)]
                    refine gz_s 2 (pc' := 122) (L' := [some (.ref m), some (.int (zi wh)), some (.int (zi n)), some (.int (zi b1)), some (.int (zi mn)), some (.int (zi s1))]) (S' := [.int (zi mn), .ref m]) rfl ?_
                    refine gz_call rfl (by decide) rfl (by decide) (by decide) (gcal_of rfl rfl rfl (Nat.le_of_ble_eq_true rfl) (gJ.recv (G := gGG) sh55.1 tm rfl rfl)) (mw_putByte _ sh55.1 m tm mn (by omega) wa lp54k0 (by omega) (ekA z0 (eeB (eeT (eeM sg 196) (19 + ekT z0 256 16)) (16 * 0)) (b1 - 1).toNat) (by omega) uq lp54k3 lp54k4) (fun q57 _ wq57 => ?_)
                    obtain ⟨pq57, oq57, hq57⟩ := q57
                    obtain ⟨xq57, fq57_0, gq57, efq57_0, afq57_0, bfq57_0, uq57_0, uq57_1, uq57_2, uq57_3, yq57_0, yq57_1⟩ := wq57
                    refine ⟨_, gq57, ?_⟩
                    show gz gPP gGG gcn _ _ 125 [some (.ref m), some (.int (zi wh)), some (.int (zi n)), some (.int (zi b1)), some (.int (zi mn)), some (.int (zi s1))] [] hq57 _
                    have sq57 := gSs.tr sh55 xq57 (by decide)
                    have pr58 := gRn.fr xq57.2 (by decide) lp54k1
                    have hk59 : ekA z0 (eeB (eeT (eeM sg 196) (19 + ekT z0 256 16)) (16 * 0)) ((b1 + 1) - 1).toNat = eeB (ekA z0 (eeB (eeT (eeM sg 196) (19 + ekT z0 256 16)) (16 * 0)) (b1 - 1).toNat) mn := by rw [(by omega : (b1 + 1 - 1).toNat = (b1 - 1).toNat + 1)]; show eeB _ (ekN z0 (((b1 - 1).toNat + 1 : Nat) : Int) 256) = _; rw [(by omega : (((b1 - 1).toNat + 1 : Nat) : Int) = b1), ← hm9]
                    have hk59_1 : (ekA z0 (eeB (eeT (eeM sg 196) (19 + ekT z0 256 16)) (16 * 0)) ((b1 + 1) - 1).toNat).1 = (eeB (ekA z0 (eeB (eeT (eeM sg 196) (19 + ekT z0 256 16)) (16 * 0)) (b1 - 1).toNat) mn).1 := by rw [hk59]
                    have hk59_21 : (ekA z0 (eeB (eeT (eeM sg 196) (19 + ekT z0 256 16)) (16 * 0)) ((b1 + 1) - 1).toNat).2.1 = (eeB (ekA z0 (eeB (eeT (eeM sg 196) (19 + ekT z0 256 16)) (16 * 0)) (b1 - 1).toNat) mn).2.1 := by rw [hk59]
                    have hk59_221 : (ekA z0 (eeB (eeT (eeM sg 196) (19 + ekT z0 256 16)) (16 * 0)) ((b1 + 1) - 1).toNat).2.2.1 = (eeB (ekA z0 (eeB (eeT (eeM sg 196) (19 + ekT z0 256 16)) (16 * 0)) (b1 - 1).toNat) mn).2.2.1 := by rw [hk59]
                    have hso60 : gSO ty (ekA z0 (eeB (eeT (eeM sg 196) (19 + ekT z0 256 16)) (16 * 0)) ((b1 + 1) - 1).toNat) hq57 := by rw [hk59]; exact yq57_0
                    have hok61 : eeOk (ekA z0 (eeB (eeT (eeM sg 196) (19 + ekT z0 256 16)) (16 * 0)) ((b1 + 1) - 1).toNat) := by rw [hk59]; exact yq57_1
                    have hok61c := hok61.cur
                    refine gy_s 2 (pc' := 65) (L' := [some (.ref m), some (.int (zi wh)), some (.int (zi n)), some (.int ((zi b1) + zi 1)), some (.int (zi mn)), some (.int (zi s1))]) (S' := []) (L2 := [some (.ref m), some (.int (zi wh)), some (.int (zi n)), some (.int (zi (b1 + 1))), some (.int (zi mn)), some (.int (zi s1))]) (S2 := []) rfl (by simp only [zi_add, zi_sub, zi_mul, zi_neg, zi_and1, zi_and7, zi_and15, zi_and31, zi_and255]) (by simp only [zi_add, zi_sub, zi_mul, zi_neg, zi_and1, zi_and7, zi_and15, zi_and31, zi_and255]) ?_
                    exact gz_wk (ihlp13 hq57 (b1 + 1) fq57_0 (by omega) sq57 (by omega) (by omega) (by omega) (by omega) (by omega) (by omega) efq57_0 pr58 lp54k2 hso60 hok61) (gLw.s (gLw.s (gLw.s (gLw.s (gLw.n (gLw.n gLw.z))))))
                  · refine gy_icF rfl (by decide) (by decide) (by omega) (by omega) hc56 ?_
                    refine gz_s 1 (pc' := 86) (L' := [some (.ref m), some (.int (zi wh)), some (.int (zi n)), some (.int (zi b1)), some (.int (zi mn)), some (.int (zi s1))]) (S' := [.ref m]) rfl ?_
                    refine gs_gtr rfl (by decide) rfl sh55.1 tm rfl rfl rfl (fun c62 ec62 tc62 => ?_)
                    refine gy_s 5 (pc' := 97) (L' := [some (.ref m), some (.int (zi wh)), some (.int (zi n)), some (.int (zi b1)), some (.int (zi mn)), some (.int (zi s1))]) (S' := [.int (((zi 257) * (zi wh)) + (zi s1)), .ref c62]) (L2 := [some (.ref m), some (.int (zi wh)), some (.int (zi n)), some (.int (zi b1)), some (.int (zi mn)), some (.int (zi s1))]) (S2 := [.int (zi ((257 * wh) + s1)), .ref c62]) rfl (by simp only [zi_add, zi_sub, zi_mul, zi_neg, zi_and1, zi_and7, zi_and15, zi_and31, zi_and255]) (by simp only [zi_add, zi_sub, zi_mul, zi_neg, zi_and1, zi_and7, zi_and15, zi_and31, zi_and255]) ?_
                    have hl63 : 514 ≤ h55.2.2.2.1 c62 ∧ h55.2.2.2.1 c62 ≤ 514 := gJ.rowl (G := gGG) sh55.1 tc62 rfl
                    refine gs_ald rfl (by decide) sh55.1 tc62 rfl rfl rfl (by decide) (fun _ => rfl) (by omega) (by omega) (fun z64 ez64 az64 bz64 => ?_)
                    have hf65 := gRn.at (i := (257 * wh) + s1) (z := z64) lp54k1 tc62 ez64 (by omega) (by omega) (by omega)
                    have hr2 : z0 (s1).toNat = z64 := by have h9 := hf65; rw [show wh = 0 by omega, eeJ_a0 (by omega) (by omega)] at h9; exact h9
                    refine gz_s 1 (pc' := 99) (L' := [some (.ref m), some (.int (zi wh)), some (.int (zi n)), some (.int (zi b1)), some (.int (zi mn)), some (.int (zi s1))]) (S' := [.int (zi b1), .int (zi z64)]) rfl ?_
                    by_cases hc66 : ¬ (z64 : Int) = b1
                    · refine gy_icT (pc' := 109) rfl (by decide) (by decide) (by omega) (by omega) hc66 ?_
                      refine gz_s 2 (pc' := 113) (L' := [some (.ref m), some (.int (zi wh)), some (.int (zi n)), some (.int (zi b1)), some (.int (zi mn)), some (.int (zi s1))]) (S' := []) rfl ?_
                      have hks : ekN z0 b1 (s1 + 1).toNat = ekN z0 b1 (s1).toNat + (if z0 (s1).toNat = b1 then 1 else 0) := by rw [(by omega : (s1 + 1).toNat = (s1).toNat + 1)]; rfl
                      refine gy_s 2 (pc' := 77) (L' := [some (.ref m), some (.int (zi wh)), some (.int (zi n)), some (.int (zi b1)), some (.int (zi mn)), some (.int ((zi s1) + zi 1))]) (S' := []) (L2 := [some (.ref m), some (.int (zi wh)), some (.int (zi n)), some (.int (zi b1)), some (.int (zi mn)), some (.int (zi (s1 + 1)))]) (S2 := []) rfl (by simp only [zi_add, zi_sub, zi_mul, zi_neg, zi_and1, zi_and7, zi_and15, zi_and31, zi_and255]) (by simp only [zi_add, zi_sub, zi_mul, zi_neg, zi_and1, zi_and7, zi_and15, zi_and31, zi_and255]) ?_
                      exact gz_wk (ihlp54 h55 mn (s1 + 1) (by omega) sh55 (by omega) (by omega) (by omega) (by omega) lp54k0 lp54k1 lp54k2 lp54k3 lp54k4) (gLw.s (gLw.s (gLw.s (gLw.s (gLw.s (gLw.s gLw.z))))))
                    · refine gy_icF rfl (by decide) (by decide) (by omega) (by omega) hc66 ?_
                      refine gy_s 5 (pc' := 113) (L' := [some (.ref m), some (.int (zi wh)), some (.int (zi n)), some (.int (zi b1)), some (.int ((zi mn) + (zi 1))), some (.int (zi s1))]) (S' := []) (L2 := [some (.ref m), some (.int (zi wh)), some (.int (zi n)), some (.int (zi b1)), some (.int (zi (mn + 1))), some (.int (zi s1))]) (S2 := []) rfl (by simp only [zi_add, zi_sub, zi_mul, zi_neg, zi_and1, zi_and7, zi_and15, zi_and31, zi_and255]) (by simp only [zi_add, zi_sub, zi_mul, zi_neg, zi_and1, zi_and7, zi_and15, zi_and31, zi_and255]) ?_
                      have hks : ekN z0 b1 (s1 + 1).toNat = ekN z0 b1 (s1).toNat + (if z0 (s1).toNat = b1 then 1 else 0) := by rw [(by omega : (s1 + 1).toNat = (s1).toNat + 1)]; rfl
                      refine gy_s 2 (pc' := 77) (L' := [some (.ref m), some (.int (zi wh)), some (.int (zi n)), some (.int (zi b1)), some (.int (zi (mn + 1))), some (.int ((zi s1) + zi 1))]) (S' := []) (L2 := [some (.ref m), some (.int (zi wh)), some (.int (zi n)), some (.int (zi b1)), some (.int (zi (mn + 1))), some (.int (zi (s1 + 1)))]) (S2 := []) rfl (by simp only [zi_add, zi_sub, zi_mul, zi_neg, zi_and1, zi_and7, zi_and15, zi_and31, zi_and255]) (by simp only [zi_add, zi_sub, zi_mul, zi_neg, zi_and1, zi_and7, zi_and15, zi_and31, zi_and255]) ?_
                      exact gz_wk (ihlp54 h55 (mn + 1) (s1 + 1) (by omega) sh55 (by omega) (by omega) (by omega) (by omega) lp54k0 lp54k1 lp54k2 lp54k3 lp54k4) (gLw.s (gLw.s (gLw.s (gLw.s (gLw.s (gLw.s gLw.z))))))
              have hn0 : ekN z0 b1 (0 : Int).toNat = 0 := rfl
              exact gz_wk (lp54 _ h17 0 0 (Nat.lt_succ_self _) sh17 (by omega) (by omega) (by omega) (by omega) lp13k0 lp13k1 lp13k2 lp13k3 lp13k4) (gLw.s (gLw.s (gLw.s (gLw.s (gLw.s (gLw.s gLw.z))))))
        exact gz_wk (lp13 _ hq8 1 fq8_0 (Nat.lt_succ_self _) sq8 (by omega) (by omega) (by omega) (by omega) (by omega) (by omega) efq8_0 pr9 lp1k4 hso15 hok16) (gLw.s (gLw.s (gLw.s (gLw.s (gLw.n (gLw.n gLw.z))))))
      · refine gy_icF rfl (by decide) (by decide) (by omega) (by omega) hc3 ?_
        refine gz_s 1 (pc' := 12) (L' := [some (.ref m), some (.int (zi wh)), some (.int (zi n)), some (.int (zi k)), none, none]) (S' := [.ref m]) rfl ?_
        refine gs_gtr rfl (by decide) rfl sh2.1 tm rfl rfl rfl (fun c67 ec67 tc67 => ?_)
        refine gy_s 5 (pc' := 22) (L' := [some (.ref m), some (.int (zi wh)), some (.int (zi n)), some (.int (zi k)), none, none]) (S' := [.int (((zi 257) * (zi wh)) + (zi k)), .ref c67]) (L2 := [some (.ref m), some (.int (zi wh)), some (.int (zi n)), some (.int (zi k)), none, none]) (S2 := [.int (zi ((257 * wh) + k)), .ref c67]) rfl (by simp only [zi_add, zi_sub, zi_mul, zi_neg, zi_and1, zi_and7, zi_and15, zi_and31, zi_and255]) (by simp only [zi_add, zi_sub, zi_mul, zi_neg, zi_and1, zi_and7, zi_and15, zi_and31, zi_and255]) ?_
        have hl68 : 514 ≤ h2.2.2.2.1 c67 ∧ h2.2.2.2.1 c67 ≤ 514 := gJ.rowl (G := gGG) sh2.1 tc67 rfl
        refine gs_ald rfl (by decide) sh2.1 tc67 rfl rfl rfl (by decide) (fun _ => rfl) (by omega) (by omega) (fun z69 ez69 az69 bz69 => ?_)
        have hf70 := gRn.at (i := (257 * wh) + k) (z := z69) lp1k3 tc67 ez69 (by omega) (by omega) (by omega)
        have hr1 : z0 (k).toNat = z69 := by have h9 := hf70; rw [show wh = 0 by omega, eeJ_a0 (by omega) (by omega)] at h9; exact h9
        by_cases hc71 : (z69 : Int) ≤ 0
        · refine gy_ifT (pc' := 32) rfl (by decide) (by decide) (by omega) hc71 ?_
          refine gz_s 2 (pc' := 34) (L' := [some (.ref m), some (.int (zi wh)), some (.int (zi n)), some (.int (zi k)), none, none]) (S' := []) rfl ?_
          have hgs : gsf (fun x9 => if 0 < z0 x9 then (1 : Int) else 0) (k + 1).toNat = gsf (fun x9 => if 0 < z0 x9 then (1 : Int) else 0) (k).toNat + (if 0 < z0 (k).toNat then 1 else 0) := by rw [(by omega : (k + 1).toNat = (k).toNat + 1)]; rfl
          refine gy_s 2 (pc' := 4) (L' := [some (.ref m), some (.int (zi wh)), some (.int (zi n)), some (.int ((zi k) + zi 1)), none, none]) (S' := []) (L2 := [some (.ref m), some (.int (zi wh)), some (.int (zi n)), some (.int (zi (k + 1))), none, none]) (S2 := []) rfl (by simp only [zi_add, zi_sub, zi_mul, zi_neg, zi_and1, zi_and7, zi_and15, zi_and31, zi_and255]) (by simp only [zi_add, zi_sub, zi_mul, zi_neg, zi_and1, zi_and7, zi_and15, zi_and31, zi_and255]) ?_
          exact gz_wk (ihlp1 h2 n (k + 1) (by omega) sh2 (by omega) (by omega) (by omega) (by omega) lp1k0 lp1k1 lp1k2 lp1k3 lp1k4) (gLw.s (gLw.s (gLw.s (gLw.s (gLw.n (gLw.n gLw.z))))))
        · refine gy_ifF rfl (by decide) (by decide) (by omega) hc71 ?_
          refine gy_s 5 (pc' := 34) (L' := [some (.ref m), some (.int (zi wh)), some (.int ((zi n) + (zi 1))), some (.int (zi k)), none, none]) (S' := []) (L2 := [some (.ref m), some (.int (zi wh)), some (.int (zi (n + 1))), some (.int (zi k)), none, none]) (S2 := []) rfl (by simp only [zi_add, zi_sub, zi_mul, zi_neg, zi_and1, zi_and7, zi_and15, zi_and31, zi_and255]) (by simp only [zi_add, zi_sub, zi_mul, zi_neg, zi_and1, zi_and7, zi_and15, zi_and31, zi_and255]) ?_
          have hgs : gsf (fun x9 => if 0 < z0 x9 then (1 : Int) else 0) (k + 1).toNat = gsf (fun x9 => if 0 < z0 x9 then (1 : Int) else 0) (k).toNat + (if 0 < z0 (k).toNat then 1 else 0) := by rw [(by omega : (k + 1).toNat = (k).toNat + 1)]; rfl
          refine gy_s 2 (pc' := 4) (L' := [some (.ref m), some (.int (zi wh)), some (.int (zi (n + 1))), some (.int ((zi k) + zi 1)), none, none]) (S' := []) (L2 := [some (.ref m), some (.int (zi wh)), some (.int (zi (n + 1))), some (.int (zi (k + 1))), none, none]) (S2 := []) rfl (by simp only [zi_add, zi_sub, zi_mul, zi_neg, zi_and1, zi_and7, zi_and15, zi_and31, zi_and255]) (by simp only [zi_add, zi_sub, zi_mul, zi_neg, zi_and1, zi_and7, zi_and15, zi_and31, zi_and255]) ?_
          exact gz_wk (ihlp1 h2 (n + 1) (k + 1) (by omega) sh2 (by omega) (by omega) (by omega) (by omega) lp1k0 lp1k1 lp1k2 lp1k3 lp1k4) (gLw.s (gLw.s (gLw.s (gLw.s (gLw.n (gLw.n gLw.z))))))
  have hg0 : gsf (fun x9 => if 0 < z0 x9 then (1 : Int) else 0) (0 : Int).toNat = 0 := rfl
  exact gz_wk (lp1 _ h 0 0 (Nat.lt_succ_self _) hS (by omega) (by omega) (by omega) (by omega) ew0 hyso hyok hyf37 hyl16) (gLw.s (gLw.s (gLw.s (gLw.s (gLw.n (gLw.n gLw.z))))))
set_option maxRecDepth 20000 in
set_option maxHeartbeats 4000000 in
theorem mw_putCodes1 (d : Nat) {ty : Nat → Nat} {h : gH} (hJ : gJ rT 1027 ty h) (m : Nat) (tm : ty m = 1) (wh : Int) (rwh : 1 ≤ wh ∧ wh ≤ 1) (w0 : Int) (ew0 : h.2.2.2.2 m 59 = .int (zi w0)) (rw0 : 0 ≤ w0 ∧ w0 ≤ 59000) (z0 z1 : Nat → Int) (sg : gWt) (pp0 : w0 = sg.1) (uq : gUq ty) (hyso : gSO ty sg h) (hyok : eeOk sg) (hyf37 : gRn 514 ty 37 (eeJ z0 z1) h) (hyl16 : ∀ j9 : Nat, j9 < 257 → 0 ≤ z1 j9 ∧ z1 j9 ≤ 16) : gz gPP gGG gcn (d + 2) gt203 0 (gent [.ref m, .int (zi wh)] 6) [] h (fun q _ => gSs rT 1027 ty [1059, 32999] h q.2.2 ∧ ∃ w1 : Int, gfin gt203 q.1 q.2.1 = some none ∧ q.2.2.2.2.2.2 m 59 = .int (zi w1) ∧ 0 ≤ w1 ∧ w1 ≤ 60000 ∧ (w1 = (ekP 1 z1 sg).1) ∧ ((ekP 1 z1 sg).2.1 = sg.2.1) ∧ ((ekP 1 z1 sg).2.2.1 = sg.2.2.1) ∧ (w0 ≤ w1) ∧ (w1 ≤ w0 + 277) ∧ (gSO ty (ekP 1 z1 sg) q.2.2) ∧ (eeOk (ekP 1 z1 sg))) := by
  have hS : gSs rT 1027 ty [1059, 32999] h h := gSs.rf hJ
  refine gz_s 4 (pc' := 4) (L' := [some (.ref m), some (.int (zi wh)), some (.int (zi 0)), some (.int (zi 0)), none, none]) (S' := []) rfl ?_
  have lp1 : ∀ (fu : Nat) (h2 : gH) (n : Int) (k : Int), (257 - k).toNat < fu → gSs rT 1027 ty [1059, 32999] h h2 → (0 ≤ n ∧ n ≤ 256) → (0 ≤ k ∧ k ≤ 256) → (n ≤ k) → (n = gsf (fun x9 => if 0 < z1 x9 then (1 : Int) else 0) (k).toNat) → h2.2.2.2.2 m 59 = .int (zi w0) → gSO ty sg h2 → eeOk sg → gRn 514 ty 37 (eeJ z0 z1) h2 → (∀ j9 : Nat, j9 < 257 → 0 ≤ z1 j9 ∧ z1 j9 ≤ 16) → gz gPP gGG gcn (d + 2) gt203 4 [some (.ref m), some (.int (zi wh)), some (.int (zi n)), some (.int (zi k)), none, none] [] h2 (fun q _ => gSs rT 1027 ty [1059, 32999] h q.2.2 ∧ ∃ w1 : Int, gfin gt203 q.1 q.2.1 = some none ∧ q.2.2.2.2.2.2 m 59 = .int (zi w1) ∧ 0 ≤ w1 ∧ w1 ≤ 60000 ∧ (w1 = (ekP 1 z1 sg).1) ∧ ((ekP 1 z1 sg).2.1 = sg.2.1) ∧ ((ekP 1 z1 sg).2.2.1 = sg.2.2.1) ∧ (w0 ≤ w1) ∧ (w1 ≤ w0 + 277) ∧ (gSO ty (ekP 1 z1 sg) q.2.2) ∧ (eeOk (ekP 1 z1 sg))) := by
    intro fu
    induction fu with
    | zero => intro h2 n k hm; exact absurd hm (Nat.not_lt_zero _)
    | succ fu ihlp1 =>
      intro h2 n k lp1m sh2 lp1f0 lp1f1 lp1f2 lp1f3 lp1k0 lp1k1 lp1k2 lp1k3 lp1k4
      refine gz_s 2 (pc' := 8) (L' := [some (.ref m), some (.int (zi wh)), some (.int (zi n)), some (.int (zi k)), none, none]) (S' := [.int (zi 256), .int (zi k)]) rfl ?_
      by_cases hc3 : (256 : Int) ≤ k
      · refine gy_icT (pc' := 40) rfl (by decide) (by decide) (by omega) (by omega) hc3 ?_
        have hna : ekT z1 256 16 = n := by rw [ekT_all 256 (fun s9 hs9 => hyl16 s9 (by omega))]; rw [show n = gsf (fun x9 => if 0 < z1 x9 then (1 : Int) else 0) (k).toNat by omega, (by omega : (k).toNat = 256)]
        refine gz_s 2 (pc' := 44) (L' := [some (.ref m), some (.int (zi wh)), some (.int (zi n)), some (.int (zi k)), none, none]) (S' := [.int (zi 196), .ref m]) rfl ?_
        refine gz_call rfl (by decide) rfl (by decide) (by decide) (gcal_of rfl rfl rfl (Nat.le_of_ble_eq_true rfl) (gJ.recv (G := gGG) sh2.1 tm rfl rfl)) (mw_putMarker _ sh2.1 m tm 196 (by omega) w0 lp1k0 (by omega) sg (by omega) uq lp1k1 lp1k2) (fun q4 _ wq4 => ?_)
        obtain ⟨pq4, oq4, hq4⟩ := q4
        obtain ⟨xq4, fq4_0, gq4, efq4_0, afq4_0, bfq4_0, uq4_0, uq4_1, uq4_2, uq4_3, yq4_0, yq4_1⟩ := wq4
        refine ⟨_, gq4, ?_⟩
        show gz gPP gGG gcn _ _ 47 [some (.ref m), some (.int (zi wh)), some (.int (zi n)), some (.int (zi k)), none, none] [] hq4 _
        have sq4 := gSs.tr sh2 xq4 (by decide)
        have pr5 := gRn.fr xq4.2 (by decide) lp1k3
        refine gy_s 4 (pc' := 52) (L' := [some (.ref m), some (.int (zi wh)), some (.int (zi n)), some (.int (zi k)), none, none]) (S' := [.int ((zi 19) + (zi n)), .ref m]) (L2 := [some (.ref m), some (.int (zi wh)), some (.int (zi n)), some (.int (zi k)), none, none]) (S2 := [.int (zi (19 + n)), .ref m]) rfl (by simp only [zi_add, zi_sub, zi_mul, zi_neg, zi_and1, zi_and7, zi_and15, zi_and31, zi_and255]) (by simp only [zi_add, zi_sub, zi_mul, zi_neg, zi_and1, zi_and7, zi_and15, zi_and31, zi_and255]) ?_
        refine gz_call rfl (by decide) rfl (by decide) (by decide) (gcal_of rfl rfl rfl (Nat.le_of_ble_eq_true rfl) (gJ.recv (G := gGG) sq4.1 tm rfl rfl)) (mw_putTwo _ sq4.1 m tm (19 + n) (by omega) fq4_0 efq4_0 (by omega) (eeM sg 196) (by omega) uq yq4_0 yq4_1) (fun q6 _ wq6 => ?_)
        obtain ⟨pq6, oq6, hq6⟩ := q6
        obtain ⟨xq6, fq6_0, gq6, efq6_0, afq6_0, bfq6_0, uq6_0, uq6_1, uq6_2, uq6_3, yq6_0, yq6_1⟩ := wq6
        refine ⟨_, gq6, ?_⟩
        show gz gPP gGG gcn _ _ 55 [some (.ref m), some (.int (zi wh)), some (.int (zi n)), some (.int (zi k)), none, none] [] hq6 _
        have sq6 := gSs.tr sq4 xq6 (by decide)
        have pr7 := gRn.fr xq6.2 (by decide) pr5
        refine gy_s 4 (pc' := 60) (L' := [some (.ref m), some (.int (zi wh)), some (.int (zi n)), some (.int (zi k)), none, none]) (S' := [.int ((zi 16) * (zi wh)), .ref m]) (L2 := [some (.ref m), some (.int (zi wh)), some (.int (zi n)), some (.int (zi k)), none, none]) (S2 := [.int (zi (16 * wh)), .ref m]) rfl (by simp only [zi_add, zi_sub, zi_mul, zi_neg, zi_and1, zi_and7, zi_and15, zi_and31, zi_and255]) (by simp only [zi_add, zi_sub, zi_mul, zi_neg, zi_and1, zi_and7, zi_and15, zi_and31, zi_and255]) ?_
        refine gz_call rfl (by decide) rfl (by decide) (by decide) (gcal_of rfl rfl rfl (Nat.le_of_ble_eq_true rfl) (gJ.recv (G := gGG) sq6.1 tm rfl rfl)) (mw_putByte _ sq6.1 m tm (16 * wh) (by omega) fq6_0 efq6_0 (by omega) (eeT (eeM sg 196) (19 + n)) (by omega) uq yq6_0 yq6_1) (fun q8 _ wq8 => ?_)
        obtain ⟨pq8, oq8, hq8⟩ := q8
        obtain ⟨xq8, fq8_0, gq8, efq8_0, afq8_0, bfq8_0, uq8_0, uq8_1, uq8_2, uq8_3, yq8_0, yq8_1⟩ := wq8
        refine ⟨_, gq8, ?_⟩
        show gz gPP gGG gcn _ _ 63 [some (.ref m), some (.int (zi wh)), some (.int (zi n)), some (.int (zi k)), none, none] [] hq8 _
        have sq8 := gSs.tr sq6 xq8 (by decide)
        have pr9 := gRn.fr xq8.2 (by decide) pr7
        have hk10 : eeB (eeT (eeM sg 196) (19 + ekT z1 256 16)) (16 * 1) = eeB (eeT (eeM sg 196) (19 + n)) (16 * wh) := by rw [hna, show wh = 1 by omega]
        have hk10_1 : (eeB (eeT (eeM sg 196) (19 + ekT z1 256 16)) (16 * 1)).1 = (eeB (eeT (eeM sg 196) (19 + n)) (16 * wh)).1 := by rw [hk10]
        have hk10_21 : (eeB (eeT (eeM sg 196) (19 + ekT z1 256 16)) (16 * 1)).2.1 = (eeB (eeT (eeM sg 196) (19 + n)) (16 * wh)).2.1 := by rw [hk10]
        have hk10_221 : (eeB (eeT (eeM sg 196) (19 + ekT z1 256 16)) (16 * 1)).2.2.1 = (eeB (eeT (eeM sg 196) (19 + n)) (16 * wh)).2.2.1 := by rw [hk10]
        have hso11 : gSO ty (eeB (eeT (eeM sg 196) (19 + ekT z1 256 16)) (16 * 1)) hq8 := by rw [hk10]; exact yq8_0
        have hok12 : eeOk (eeB (eeT (eeM sg 196) (19 + ekT z1 256 16)) (16 * 1)) := by rw [hk10]; exact yq8_1
        have hok12c := hok12.cur
        refine gz_s 2 (pc' := 65) (L' := [some (.ref m), some (.int (zi wh)), some (.int (zi n)), some (.int (zi 1)), none, none]) (S' := []) rfl ?_
        have hk14 : ekA z1 (eeB (eeT (eeM sg 196) (19 + ekT z1 256 16)) (16 * 1)) (1 - 1 : Int).toNat = eeB (eeT (eeM sg 196) (19 + ekT z1 256 16)) (16 * 1) := rfl
        have hk14_1 : (ekA z1 (eeB (eeT (eeM sg 196) (19 + ekT z1 256 16)) (16 * 1)) (1 - 1 : Int).toNat).1 = (eeB (eeT (eeM sg 196) (19 + ekT z1 256 16)) (16 * 1)).1 := by rw [hk14]
        have hk14_21 : (ekA z1 (eeB (eeT (eeM sg 196) (19 + ekT z1 256 16)) (16 * 1)) (1 - 1 : Int).toNat).2.1 = (eeB (eeT (eeM sg 196) (19 + ekT z1 256 16)) (16 * 1)).2.1 := by rw [hk14]
        have hk14_221 : (ekA z1 (eeB (eeT (eeM sg 196) (19 + ekT z1 256 16)) (16 * 1)) (1 - 1 : Int).toNat).2.2.1 = (eeB (eeT (eeM sg 196) (19 + ekT z1 256 16)) (16 * 1)).2.2.1 := by rw [hk14]
        have hso15 : gSO ty (ekA z1 (eeB (eeT (eeM sg 196) (19 + ekT z1 256 16)) (16 * 1)) (1 - 1 : Int).toNat) hq8 := by rw [hk14]; exact hso11
        have hok16 : eeOk (ekA z1 (eeB (eeT (eeM sg 196) (19 + ekT z1 256 16)) (16 * 1)) (1 - 1 : Int).toNat) := by rw [hk14]; exact hok12
        have hok16c := hok16.cur
        have lp13 : ∀ (fu : Nat) (h17 : gH) (b1 : Int) (wa : Int), (18 - b1).toNat < fu → gSs rT 1027 ty [1059, 32999] h h17 → (1 ≤ b1 ∧ b1 ≤ 17) → (0 ≤ wa ∧ wa ≤ 60000) → (wa = w0 + 4 + b1) → (wa = (ekA z1 (eeB (eeT (eeM sg 196) (19 + ekT z1 256 16)) (16 * 1)) (b1 - 1).toNat).1) → ((ekA z1 (eeB (eeT (eeM sg 196) (19 + ekT z1 256 16)) (16 * 1)) (b1 - 1).toNat).2.1 = sg.2.1) → ((ekA z1 (eeB (eeT (eeM sg 196) (19 + ekT z1 256 16)) (16 * 1)) (b1 - 1).toNat).2.2.1 = sg.2.2.1) → h17.2.2.2.2 m 59 = .int (zi wa) → gRn 514 ty 37 (eeJ z0 z1) h17 → (∀ j9 : Nat, j9 < 257 → 0 ≤ z1 j9 ∧ z1 j9 ≤ 16) → gSO ty (ekA z1 (eeB (eeT (eeM sg 196) (19 + ekT z1 256 16)) (16 * 1)) (b1 - 1).toNat) h17 → eeOk (ekA z1 (eeB (eeT (eeM sg 196) (19 + ekT z1 256 16)) (16 * 1)) (b1 - 1).toNat) → gz gPP gGG gcn (d + 2) gt203 65 [some (.ref m), some (.int (zi wh)), some (.int (zi n)), some (.int (zi b1)), none, none] [] h17 (fun q _ => gSs rT 1027 ty [1059, 32999] h q.2.2 ∧ ∃ w1 : Int, gfin gt203 q.1 q.2.1 = some none ∧ q.2.2.2.2.2.2 m 59 = .int (zi w1) ∧ 0 ≤ w1 ∧ w1 ≤ 60000 ∧ (w1 = (ekP 1 z1 sg).1) ∧ ((ekP 1 z1 sg).2.1 = sg.2.1) ∧ ((ekP 1 z1 sg).2.2.1 = sg.2.2.1) ∧ (w0 ≤ w1) ∧ (w1 ≤ w0 + 277) ∧ (gSO ty (ekP 1 z1 sg) q.2.2) ∧ (eeOk (ekP 1 z1 sg))) := by
          intro fu
          induction fu with
          | zero => intro h17 b1 wa hm; exact absurd hm (Nat.not_lt_zero _)
          | succ fu ihlp13 =>
            intro h17 b1 wa lp13m sh17 lp13f0 lp13f1 lp13f2 lp13f3 lp13f4 lp13f5 lp13k0 lp13k1 lp13k2 lp13k3 lp13k4
            refine gz_s 2 (pc' := 68) (L' := [some (.ref m), some (.int (zi wh)), some (.int (zi n)), some (.int (zi b1)), none, none]) (S' := [.int (zi 16), .int (zi b1)]) rfl ?_
            by_cases hc18 : (16 : Int) < b1
            · refine gy_icT (pc' := 131) rfl (by decide) (by decide) (by omega) (by omega) hc18 ?_
              have hk19 : ekA z1 (eeB (eeT (eeM sg 196) (19 + ekT z1 256 16)) (16 * 1)) 16 = ekA z1 (eeB (eeT (eeM sg 196) (19 + ekT z1 256 16)) (16 * 1)) (b1 - 1).toNat := by rw [(by omega : (b1 - 1).toNat = 16)]
              have hk19_1 : (ekA z1 (eeB (eeT (eeM sg 196) (19 + ekT z1 256 16)) (16 * 1)) 16).1 = (ekA z1 (eeB (eeT (eeM sg 196) (19 + ekT z1 256 16)) (16 * 1)) (b1 - 1).toNat).1 := by rw [hk19]
              have hk19_21 : (ekA z1 (eeB (eeT (eeM sg 196) (19 + ekT z1 256 16)) (16 * 1)) 16).2.1 = (ekA z1 (eeB (eeT (eeM sg 196) (19 + ekT z1 256 16)) (16 * 1)) (b1 - 1).toNat).2.1 := by rw [hk19]
              have hk19_221 : (ekA z1 (eeB (eeT (eeM sg 196) (19 + ekT z1 256 16)) (16 * 1)) 16).2.2.1 = (ekA z1 (eeB (eeT (eeM sg 196) (19 + ekT z1 256 16)) (16 * 1)) (b1 - 1).toNat).2.2.1 := by rw [hk19]
              have hso20 : gSO ty (ekA z1 (eeB (eeT (eeM sg 196) (19 + ekT z1 256 16)) (16 * 1)) 16) h17 := by rw [hk19]; exact lp13k3
              have hok21 : eeOk (ekA z1 (eeB (eeT (eeM sg 196) (19 + ekT z1 256 16)) (16 * 1)) 16) := by rw [hk19]; exact lp13k4
              have hok21c := hok21.cur
              have hkA := ekA_k z1 (eeB (eeT (eeM sg 196) (19 + ekT z1 256 16)) (16 * 1)) 16
              refine gz_s 2 (pc' := 133) (L' := [some (.ref m), some (.int (zi wh)), some (.int (zi n)), some (.int (zi 1)), none, none]) (S' := []) rfl ?_
              have hk23 : ekD z1 (ekA z1 (eeB (eeT (eeM sg 196) (19 + ekT z1 256 16)) (16 * 1)) 16) (1 - 1 : Int).toNat = ekA z1 (eeB (eeT (eeM sg 196) (19 + ekT z1 256 16)) (16 * 1)) 16 := rfl
              have hk23_1 : (ekD z1 (ekA z1 (eeB (eeT (eeM sg 196) (19 + ekT z1 256 16)) (16 * 1)) 16) (1 - 1 : Int).toNat).1 = (ekA z1 (eeB (eeT (eeM sg 196) (19 + ekT z1 256 16)) (16 * 1)) 16).1 := by rw [hk23]
              have hk23_21 : (ekD z1 (ekA z1 (eeB (eeT (eeM sg 196) (19 + ekT z1 256 16)) (16 * 1)) 16) (1 - 1 : Int).toNat).2.1 = (ekA z1 (eeB (eeT (eeM sg 196) (19 + ekT z1 256 16)) (16 * 1)) 16).2.1 := by rw [hk23]
              have hk23_221 : (ekD z1 (ekA z1 (eeB (eeT (eeM sg 196) (19 + ekT z1 256 16)) (16 * 1)) 16) (1 - 1 : Int).toNat).2.2.1 = (ekA z1 (eeB (eeT (eeM sg 196) (19 + ekT z1 256 16)) (16 * 1)) 16).2.2.1 := by rw [hk23]
              have hso24 : gSO ty (ekD z1 (ekA z1 (eeB (eeT (eeM sg 196) (19 + ekT z1 256 16)) (16 * 1)) 16) (1 - 1 : Int).toNat) h17 := by rw [hk23]; exact hso20
              have hok25 : eeOk (ekD z1 (ekA z1 (eeB (eeT (eeM sg 196) (19 + ekT z1 256 16)) (16 * 1)) 16) (1 - 1 : Int).toNat) := by rw [hk23]; exact hok21
              have hok25c := hok25.cur
              have lp22 : ∀ (fu : Nat) (h26 : gH) (bt : Int) (wv : Int), (18 - bt).toNat < fu → gSs rT 1027 ty [1059, 32999] h h26 → (1 ≤ bt ∧ bt ≤ 17) → (0 ≤ wv ∧ wv ≤ 60000) → (w0 ≤ wv) → (wv = w0 + 21 + ekT z1 256 (bt - 1).toNat) → (wv = (ekD z1 (ekA z1 (eeB (eeT (eeM sg 196) (19 + ekT z1 256 16)) (16 * 1)) 16) (bt - 1).toNat).1) → ((ekD z1 (ekA z1 (eeB (eeT (eeM sg 196) (19 + ekT z1 256 16)) (16 * 1)) 16) (bt - 1).toNat).2.1 = sg.2.1) → ((ekD z1 (ekA z1 (eeB (eeT (eeM sg 196) (19 + ekT z1 256 16)) (16 * 1)) 16) (bt - 1).toNat).2.2.1 = sg.2.2.1) → h26.2.2.2.2 m 59 = .int (zi wv) → gRn 514 ty 37 (eeJ z0 z1) h26 → (∀ j9 : Nat, j9 < 257 → 0 ≤ z1 j9 ∧ z1 j9 ≤ 16) → gSO ty (ekD z1 (ekA z1 (eeB (eeT (eeM sg 196) (19 + ekT z1 256 16)) (16 * 1)) 16) (bt - 1).toNat) h26 → eeOk (ekD z1 (ekA z1 (eeB (eeT (eeM sg 196) (19 + ekT z1 256 16)) (16 * 1)) 16) (bt - 1).toNat) → gz gPP gGG gcn (d + 2) gt203 133 [some (.ref m), some (.int (zi wh)), some (.int (zi n)), some (.int (zi bt)), none, none] [] h26 (fun q _ => gSs rT 1027 ty [1059, 32999] h q.2.2 ∧ ∃ w1 : Int, gfin gt203 q.1 q.2.1 = some none ∧ q.2.2.2.2.2.2 m 59 = .int (zi w1) ∧ 0 ≤ w1 ∧ w1 ≤ 60000 ∧ (w1 = (ekP 1 z1 sg).1) ∧ ((ekP 1 z1 sg).2.1 = sg.2.1) ∧ ((ekP 1 z1 sg).2.2.1 = sg.2.2.1) ∧ (w0 ≤ w1) ∧ (w1 ≤ w0 + 277) ∧ (gSO ty (ekP 1 z1 sg) q.2.2) ∧ (eeOk (ekP 1 z1 sg))) := by
                intro fu
                induction fu with
                | zero => intro h26 bt wv hm; exact absurd hm (Nat.not_lt_zero _)
                | succ fu ihlp22 =>
                  intro h26 bt wv lp22m sh26 lp22f0 lp22f1 lp22f2 lp22f3 lp22f4 lp22f5 lp22f6 lp22k0 lp22k1 lp22k2 lp22k3 lp22k4
                  have htn := ekT_n z1 (bt - 1).toNat 256
                  refine gz_s 2 (pc' := 136) (L' := [some (.ref m), some (.int (zi wh)), some (.int (zi n)), some (.int (zi bt)), none, none]) (S' := [.int (zi 16), .int (zi bt)]) rfl ?_
                  by_cases hc27 : (16 : Int) < bt
                  · refine gy_icT (pc' := 185) rfl (by decide) (by decide) (by omega) (by omega) hc27 ?_
                    have hk28 : ekP 1 z1 sg = ekD z1 (ekA z1 (eeB (eeT (eeM sg 196) (19 + ekT z1 256 16)) (16 * 1)) 16) (bt - 1).toNat := by rw [(by omega : (bt - 1).toNat = 16)]; rfl
                    have hk28_1 : (ekP 1 z1 sg).1 = (ekD z1 (ekA z1 (eeB (eeT (eeM sg 196) (19 + ekT z1 256 16)) (16 * 1)) 16) (bt - 1).toNat).1 := by rw [hk28]
                    have hk28_21 : (ekP 1 z1 sg).2.1 = (ekD z1 (ekA z1 (eeB (eeT (eeM sg 196) (19 + ekT z1 256 16)) (16 * 1)) 16) (bt - 1).toNat).2.1 := by rw [hk28]
                    have hk28_221 : (ekP 1 z1 sg).2.2.1 = (ekD z1 (ekA z1 (eeB (eeT (eeM sg 196) (19 + ekT z1 256 16)) (16 * 1)) 16) (bt - 1).toNat).2.2.1 := by rw [hk28]
                    have hso29 : gSO ty (ekP 1 z1 sg) h26 := by rw [hk28]; exact lp22k3
                    have hok30 : eeOk (ekP 1 z1 sg) := by rw [hk28]; exact lp22k4
                    have hok30c := hok30.cur
                    exact gz_end (I := .return_) (len := 1) rfl (Or.inl rfl) ⟨sh26, wv, rfl, lp22k0, (by omega), (by omega), (by omega), (by omega), (by omega), (by omega), (by omega), hso29, hok30⟩
                  · refine gy_icF rfl (by decide) (by decide) (by omega) (by omega) hc27 ?_
                    refine gz_s 2 (pc' := 142) (L' := [some (.ref m), some (.int (zi wh)), some (.int (zi n)), some (.int (zi bt)), some (.int (zi 0)), none]) (S' := []) rfl ?_
                    have hk32 : ekB z1 bt (ekD z1 (ekA z1 (eeB (eeT (eeM sg 196) (19 + ekT z1 256 16)) (16 * 1)) 16) (bt - 1).toNat) (0 : Int).toNat = ekD z1 (ekA z1 (eeB (eeT (eeM sg 196) (19 + ekT z1 256 16)) (16 * 1)) 16) (bt - 1).toNat := rfl
                    have hk32_1 : (ekB z1 bt (ekD z1 (ekA z1 (eeB (eeT (eeM sg 196) (19 + ekT z1 256 16)) (16 * 1)) 16) (bt - 1).toNat) (0 : Int).toNat).1 = (ekD z1 (ekA z1 (eeB (eeT (eeM sg 196) (19 + ekT z1 256 16)) (16 * 1)) 16) (bt - 1).toNat).1 := by rw [hk32]
                    have hk32_21 : (ekB z1 bt (ekD z1 (ekA z1 (eeB (eeT (eeM sg 196) (19 + ekT z1 256 16)) (16 * 1)) 16) (bt - 1).toNat) (0 : Int).toNat).2.1 = (ekD z1 (ekA z1 (eeB (eeT (eeM sg 196) (19 + ekT z1 256 16)) (16 * 1)) 16) (bt - 1).toNat).2.1 := by rw [hk32]
                    have hk32_221 : (ekB z1 bt (ekD z1 (ekA z1 (eeB (eeT (eeM sg 196) (19 + ekT z1 256 16)) (16 * 1)) 16) (bt - 1).toNat) (0 : Int).toNat).2.2.1 = (ekD z1 (ekA z1 (eeB (eeT (eeM sg 196) (19 + ekT z1 256 16)) (16 * 1)) 16) (bt - 1).toNat).2.2.1 := by rw [hk32]
                    have hso33 : gSO ty (ekB z1 bt (ekD z1 (ekA z1 (eeB (eeT (eeM sg 196) (19 + ekT z1 256 16)) (16 * 1)) 16) (bt - 1).toNat) (0 : Int).toNat) h26 := by rw [hk32]; exact lp22k3
                    have hok34 : eeOk (ekB z1 bt (ekD z1 (ekA z1 (eeB (eeT (eeM sg 196) (19 + ekT z1 256 16)) (16 * 1)) 16) (bt - 1).toNat) (0 : Int).toNat) := by rw [hk32]; exact lp22k4
                    have hok34c := hok34.cur
                    have lp31 : ∀ (fu : Nat) (h35 : gH) (s : Int) (wv2 : Int), (257 - s).toNat < fu → gSs rT 1027 ty [1059, 32999] h h35 → (0 ≤ s ∧ s ≤ 256) → (0 ≤ wv2 ∧ wv2 ≤ 60000) → (w0 ≤ wv2) → (wv2 = w0 + 21 + ekT z1 256 (bt - 1).toNat + ekN z1 bt (s).toNat) → (wv2 = (ekB z1 bt (ekD z1 (ekA z1 (eeB (eeT (eeM sg 196) (19 + ekT z1 256 16)) (16 * 1)) 16) (bt - 1).toNat) (s).toNat).1) → ((ekB z1 bt (ekD z1 (ekA z1 (eeB (eeT (eeM sg 196) (19 + ekT z1 256 16)) (16 * 1)) 16) (bt - 1).toNat) (s).toNat).2.1 = sg.2.1) → ((ekB z1 bt (ekD z1 (ekA z1 (eeB (eeT (eeM sg 196) (19 + ekT z1 256 16)) (16 * 1)) 16) (bt - 1).toNat) (s).toNat).2.2.1 = sg.2.2.1) → h35.2.2.2.2 m 59 = .int (zi wv2) → gRn 514 ty 37 (eeJ z0 z1) h35 → (∀ j9 : Nat, j9 < 257 → 0 ≤ z1 j9 ∧ z1 j9 ≤ 16) → gSO ty (ekB z1 bt (ekD z1 (ekA z1 (eeB (eeT (eeM sg 196) (19 + ekT z1 256 16)) (16 * 1)) 16) (bt - 1).toNat) (s).toNat) h35 → eeOk (ekB z1 bt (ekD z1 (ekA z1 (eeB (eeT (eeM sg 196) (19 + ekT z1 256 16)) (16 * 1)) 16) (bt - 1).toNat) (s).toNat) → gz gPP gGG gcn (d + 2) gt203 142 [some (.ref m), some (.int (zi wh)), some (.int (zi n)), some (.int (zi bt)), some (.int (zi s)), none] [] h35 (fun q _ => gSs rT 1027 ty [1059, 32999] h q.2.2 ∧ ∃ w1 : Int, gfin gt203 q.1 q.2.1 = some none ∧ q.2.2.2.2.2.2 m 59 = .int (zi w1) ∧ 0 ≤ w1 ∧ w1 ≤ 60000 ∧ (w1 = (ekP 1 z1 sg).1) ∧ ((ekP 1 z1 sg).2.1 = sg.2.1) ∧ ((ekP 1 z1 sg).2.2.1 = sg.2.2.1) ∧ (w0 ≤ w1) ∧ (w1 ≤ w0 + 277) ∧ (gSO ty (ekP 1 z1 sg) q.2.2) ∧ (eeOk (ekP 1 z1 sg))) := by
                      intro fu
                      induction fu with
                      | zero => intro h35 s wv2 hm; exact absurd hm (Nat.not_lt_zero _)
                      | succ fu ihlp31 =>
                        intro h35 s wv2 lp31m sh35 lp31f0 lp31f1 lp31f2 lp31f3 lp31f4 lp31f5 lp31f6 lp31k0 lp31k1 lp31k2 lp31k3 lp31k4
                        have hks : ekN z1 bt (s + 1).toNat = ekN z1 bt (s).toNat + (if z1 (s).toNat = bt then 1 else 0) := by rw [(by omega : (s + 1).toNat = (s).toNat + 1)]; rfl
                        have hnb := ekN_b z1 bt (s).toNat
                        have hts : ekT z1 256 (bt + 1 - 1).toNat = ekT z1 256 (bt - 1).toNat + ekN z1 bt 256 := by rw [(by omega : (bt + 1 - 1).toNat = (bt - 1).toNat + 1)]; show ekT z1 256 (bt - 1).toNat + ekN z1 (((bt - 1).toNat + 1 : Nat) : Int) 256 = _; rw [(by omega : (((bt - 1).toNat + 1 : Nat) : Int) = bt)]
                        have htm := ekT_n z1 (bt + 1 - 1).toNat 256
                        have hmo := ekN_mono (L := z1) (l := bt) (a := (s).toNat) (b := 256) (by omega)
                        refine gz_s 2 (pc' := 147) (L' := [some (.ref m), some (.int (zi wh)), some (.int (zi n)), some (.int (zi bt)), some (.int (zi s)), none]) (S' := [.int (zi 256), .int (zi s)]) rfl ?_
                        by_cases hc36 : (256 : Int) ≤ s
                        · refine gy_icT (pc' := 179) rfl (by decide) (by decide) (by omega) (by omega) hc36 ?_
                          have h256 : ekN z1 bt (s).toNat = ekN z1 bt 256 := by rw [(by omega : (s).toNat = 256)]
                          have hk37 : ekD z1 (ekA z1 (eeB (eeT (eeM sg 196) (19 + ekT z1 256 16)) (16 * 1)) 16) ((bt + 1) - 1).toNat = ekB z1 bt (ekD z1 (ekA z1 (eeB (eeT (eeM sg 196) (19 + ekT z1 256 16)) (16 * 1)) 16) (bt - 1).toNat) (s).toNat := by rw [(by omega : (bt + 1 - 1).toNat = (bt - 1).toNat + 1)]; show ekB z1 (((bt - 1).toNat + 1 : Nat) : Int) (ekD z1 (ekA z1 (eeB (eeT (eeM sg 196) (19 + ekT z1 256 16)) (16 * 1)) 16) (bt - 1).toNat) 256 = _; rw [(by omega : (((bt - 1).toNat + 1 : Nat) : Int) = bt), (by omega : (s).toNat = 256)]
                          have hk37_1 : (ekD z1 (ekA z1 (eeB (eeT (eeM sg 196) (19 + ekT z1 256 16)) (16 * 1)) 16) ((bt + 1) - 1).toNat).1 = (ekB z1 bt (ekD z1 (ekA z1 (eeB (eeT (eeM sg 196) (19 + ekT z1 256 16)) (16 * 1)) 16) (bt - 1).toNat) (s).toNat).1 := by rw [hk37]
                          have hk37_21 : (ekD z1 (ekA z1 (eeB (eeT (eeM sg 196) (19 + ekT z1 256 16)) (16 * 1)) 16) ((bt + 1) - 1).toNat).2.1 = (ekB z1 bt (ekD z1 (ekA z1 (eeB (eeT (eeM sg 196) (19 + ekT z1 256 16)) (16 * 1)) 16) (bt - 1).toNat) (s).toNat).2.1 := by rw [hk37]
                          have hk37_221 : (ekD z1 (ekA z1 (eeB (eeT (eeM sg 196) (19 + ekT z1 256 16)) (16 * 1)) 16) ((bt + 1) - 1).toNat).2.2.1 = (ekB z1 bt (ekD z1 (ekA z1 (eeB (eeT (eeM sg 196) (19 + ekT z1 256 16)) (16 * 1)) 16) (bt - 1).toNat) (s).toNat).2.2.1 := by rw [hk37]
                          have hso38 : gSO ty (ekD z1 (ekA z1 (eeB (eeT (eeM sg 196) (19 + ekT z1 256 16)) (16 * 1)) 16) ((bt + 1) - 1).toNat) h35 := by rw [hk37]; exact lp31k3
                          have hok39 : eeOk (ekD z1 (ekA z1 (eeB (eeT (eeM sg 196) (19 + ekT z1 256 16)) (16 * 1)) 16) ((bt + 1) - 1).toNat) := by rw [hk37]; exact lp31k4
                          have hok39c := hok39.cur
                          refine gy_s 2 (pc' := 133) (L' := [some (.ref m), some (.int (zi wh)), some (.int (zi n)), some (.int ((zi bt) + zi 1)), some (.int (zi s)), none]) (S' := []) (L2 := [some (.ref m), some (.int (zi wh)), some (.int (zi n)), some (.int (zi (bt + 1))), some (.int (zi s)), none]) (S2 := []) rfl (by simp only [zi_add, zi_sub, zi_mul, zi_neg, zi_and1, zi_and7, zi_and15, zi_and31, zi_and255]) (by simp only [zi_add, zi_sub, zi_mul, zi_neg, zi_and1, zi_and7, zi_and15, zi_and31, zi_and255]) ?_
                          exact gz_wk (ihlp22 h35 (bt + 1) wv2 (by omega) sh35 (by omega) (by omega) (by omega) (by omega) (by omega) (by omega) (by omega) lp31k0 lp31k1 lp31k2 hso38 hok39) (gLw.s (gLw.s (gLw.s (gLw.s (gLw.n (gLw.n gLw.z))))))
                        · refine gy_icF rfl (by decide) (by decide) (by omega) (by omega) hc36 ?_
                          refine gz_s 1 (pc' := 151) (L' := [some (.ref m), some (.int (zi wh)), some (.int (zi n)), some (.int (zi bt)), some (.int (zi s)), none]) (S' := [.ref m]) rfl ?_
                          refine gs_gtr rfl (by decide) rfl sh35.1 tm rfl rfl rfl (fun c40 ec40 tc40 => ?_)
                          refine gy_s 5 (pc' := 162) (L' := [some (.ref m), some (.int (zi wh)), some (.int (zi n)), some (.int (zi bt)), some (.int (zi s)), none]) (S' := [.int (((zi 257) * (zi wh)) + (zi s)), .ref c40]) (L2 := [some (.ref m), some (.int (zi wh)), some (.int (zi n)), some (.int (zi bt)), some (.int (zi s)), none]) (S2 := [.int (zi ((257 * wh) + s)), .ref c40]) rfl (by simp only [zi_add, zi_sub, zi_mul, zi_neg, zi_and1, zi_and7, zi_and15, zi_and31, zi_and255]) (by simp only [zi_add, zi_sub, zi_mul, zi_neg, zi_and1, zi_and7, zi_and15, zi_and31, zi_and255]) ?_
                          have hl41 : 514 ≤ h35.2.2.2.1 c40 ∧ h35.2.2.2.1 c40 ≤ 514 := gJ.rowl (G := gGG) sh35.1 tc40 rfl
                          refine gs_ald rfl (by decide) sh35.1 tc40 rfl rfl rfl (by decide) (fun _ => rfl) (by omega) (by omega) (fun z42 ez42 az42 bz42 => ?_)
                          have hf43 := gRn.at (i := (257 * wh) + s) (z := z42) lp31k1 tc40 ez42 (by omega) (by omega) (by omega)
                          have hr3 : z1 (s).toNat = z42 := by have h9 := hf43; rw [show wh = 1 by omega, eeJ_a1 (by omega) (by omega)] at h9; exact h9
                          refine gz_s 1 (pc' := 164) (L' := [some (.ref m), some (.int (zi wh)), some (.int (zi n)), some (.int (zi bt)), some (.int (zi s)), none]) (S' := [.int (zi bt), .int (zi z42)]) rfl ?_
                          by_cases hc44 : ¬ (z42 : Int) = bt
                          · refine gy_icT (pc' := 173) rfl (by decide) (by decide) (by omega) (by omega) hc44 ?_
                            have hk45 : ekB z1 bt (ekD z1 (ekA z1 (eeB (eeT (eeM sg 196) (19 + ekT z1 256 16)) (16 * 1)) 16) (bt - 1).toNat) (s + 1).toNat = ekB z1 bt (ekD z1 (ekA z1 (eeB (eeT (eeM sg 196) (19 + ekT z1 256 16)) (16 * 1)) 16) (bt - 1).toNat) (s).toNat := by rw [(by omega : (s + 1).toNat = (s).toNat + 1)]; show (if z1 (s).toNat = bt then eeB (ekB z1 bt (ekD z1 (ekA z1 (eeB (eeT (eeM sg 196) (19 + ekT z1 256 16)) (16 * 1)) 16) (bt - 1).toNat) (s).toNat) (((s).toNat : Nat) : Int) else ekB z1 bt (ekD z1 (ekA z1 (eeB (eeT (eeM sg 196) (19 + ekT z1 256 16)) (16 * 1)) 16) (bt - 1).toNat) (s).toNat) = _; rw [if_neg (by omega)]
                            have hk45_1 : (ekB z1 bt (ekD z1 (ekA z1 (eeB (eeT (eeM sg 196) (19 + ekT z1 256 16)) (16 * 1)) 16) (bt - 1).toNat) (s + 1).toNat).1 = (ekB z1 bt (ekD z1 (ekA z1 (eeB (eeT (eeM sg 196) (19 + ekT z1 256 16)) (16 * 1)) 16) (bt - 1).toNat) (s).toNat).1 := by rw [hk45]
                            have hk45_21 : (ekB z1 bt (ekD z1 (ekA z1 (eeB (eeT (eeM sg 196) (19 + ekT z1 256 16)) (16 * 1)) 16) (bt - 1).toNat) (s + 1).toNat).2.1 = (ekB z1 bt (ekD z1 (ekA z1 (eeB (eeT (eeM sg 196) (19 + ekT z1 256 16)) (16 * 1)) 16) (bt - 1).toNat) (s).toNat).2.1 := by rw [hk45]
                            have hk45_221 : (ekB z1 bt (ekD z1 (ekA z1 (eeB (eeT (eeM sg 196) (19 + ekT z1 256 16)) (16 * 1)) 16) (bt - 1).toNat) (s + 1).toNat).2.2.1 = (ekB z1 bt (ekD z1 (ekA z1 (eeB (eeT (eeM sg 196) (19 + ekT z1 256 16)) (16 * 1)) 16) (bt - 1).toNat) (s).toNat).2.2.1 := by rw [hk45]
                            have hso46 : gSO ty (ekB z1 bt (ekD z1 (ekA z1 (eeB (eeT (eeM sg 196) (19 + ekT z1 256 16)) (16 * 1)) 16) (bt - 1).toNat) (s + 1).toNat) h35 := by rw [hk45]; exact lp31k3
                            have hok47 : eeOk (ekB z1 bt (ekD z1 (ekA z1 (eeB (eeT (eeM sg 196) (19 + ekT z1 256 16)) (16 * 1)) 16) (bt - 1).toNat) (s + 1).toNat) := by rw [hk45]; exact lp31k4
                            have hok47c := hok47.cur
                            refine gy_s 2 (pc' := 142) (L' := [some (.ref m), some (.int (zi wh)), some (.int (zi n)), some (.int (zi bt)), some (.int ((zi s) + zi 1)), none]) (S' := []) (L2 := [some (.ref m), some (.int (zi wh)), some (.int (zi n)), some (.int (zi bt)), some (.int (zi (s + 1))), none]) (S2 := []) rfl (by simp only [zi_add, zi_sub, zi_mul, zi_neg, zi_and1, zi_and7, zi_and15, zi_and31, zi_and255]) (by simp only [zi_add, zi_sub, zi_mul, zi_neg, zi_and1, zi_and7, zi_and15, zi_and31, zi_and255]) ?_
                            exact gz_wk (ihlp31 h35 (s + 1) wv2 (by omega) sh35 (by omega) (by omega) (by omega) (by omega) (by omega) (by omega) (by omega) lp31k0 lp31k1 lp31k2 hso46 hok47) (gLw.s (gLw.s (gLw.s (gLw.s (gLw.s (gLw.n gLw.z))))))
                          · refine gy_icF rfl (by decide) (by decide) (by omega) (by omega) hc44 ?_
                            refine gz_s 2 (pc' := 170) (L' := [some (.ref m), some (.int (zi wh)), some (.int (zi n)), some (.int (zi bt)), some (.int (zi s)), none]) (S' := [.int (zi s), .ref m]) rfl ?_
                            refine gz_call rfl (by decide) rfl (by decide) (by decide) (gcal_of rfl rfl rfl (Nat.le_of_ble_eq_true rfl) (gJ.recv (G := gGG) sh35.1 tm rfl rfl)) (mw_putByte _ sh35.1 m tm s (by omega) wv2 lp31k0 (by omega) (ekB z1 bt (ekD z1 (ekA z1 (eeB (eeT (eeM sg 196) (19 + ekT z1 256 16)) (16 * 1)) 16) (bt - 1).toNat) (s).toNat) (by omega) uq lp31k3 lp31k4) (fun q48 _ wq48 => ?_)
                            obtain ⟨pq48, oq48, hq48⟩ := q48
                            obtain ⟨xq48, fq48_0, gq48, efq48_0, afq48_0, bfq48_0, uq48_0, uq48_1, uq48_2, uq48_3, yq48_0, yq48_1⟩ := wq48
                            refine ⟨_, gq48, ?_⟩
                            show gz gPP gGG gcn _ _ 173 [some (.ref m), some (.int (zi wh)), some (.int (zi n)), some (.int (zi bt)), some (.int (zi s)), none] [] hq48 _
                            have sq48 := gSs.tr sh35 xq48 (by decide)
                            have s49 := (xq48.2.2.2.2.2 m 69 (by rw [tm]; decide)).trans ec40
                            have pr50 := gRn.fr xq48.2 (by decide) lp31k1
                            have hk51 : ekB z1 bt (ekD z1 (ekA z1 (eeB (eeT (eeM sg 196) (19 + ekT z1 256 16)) (16 * 1)) 16) (bt - 1).toNat) (s + 1).toNat = eeB (ekB z1 bt (ekD z1 (ekA z1 (eeB (eeT (eeM sg 196) (19 + ekT z1 256 16)) (16 * 1)) 16) (bt - 1).toNat) (s).toNat) s := by rw [(by omega : (s + 1).toNat = (s).toNat + 1)]; show (if z1 (s).toNat = bt then eeB (ekB z1 bt (ekD z1 (ekA z1 (eeB (eeT (eeM sg 196) (19 + ekT z1 256 16)) (16 * 1)) 16) (bt - 1).toNat) (s).toNat) (((s).toNat : Nat) : Int) else ekB z1 bt (ekD z1 (ekA z1 (eeB (eeT (eeM sg 196) (19 + ekT z1 256 16)) (16 * 1)) 16) (bt - 1).toNat) (s).toNat) = _; rw [if_pos (by omega), (by omega : (((s).toNat : Nat) : Int) = s)]
                            have hk51_1 : (ekB z1 bt (ekD z1 (ekA z1 (eeB (eeT (eeM sg 196) (19 + ekT z1 256 16)) (16 * 1)) 16) (bt - 1).toNat) (s + 1).toNat).1 = (eeB (ekB z1 bt (ekD z1 (ekA z1 (eeB (eeT (eeM sg 196) (19 + ekT z1 256 16)) (16 * 1)) 16) (bt - 1).toNat) (s).toNat) s).1 := by rw [hk51]
                            have hk51_21 : (ekB z1 bt (ekD z1 (ekA z1 (eeB (eeT (eeM sg 196) (19 + ekT z1 256 16)) (16 * 1)) 16) (bt - 1).toNat) (s + 1).toNat).2.1 = (eeB (ekB z1 bt (ekD z1 (ekA z1 (eeB (eeT (eeM sg 196) (19 + ekT z1 256 16)) (16 * 1)) 16) (bt - 1).toNat) (s).toNat) s).2.1 := by rw [hk51]
                            have hk51_221 : (ekB z1 bt (ekD z1 (ekA z1 (eeB (eeT (eeM sg 196) (19 + ekT z1 256 16)) (16 * 1)) 16) (bt - 1).toNat) (s + 1).toNat).2.2.1 = (eeB (ekB z1 bt (ekD z1 (ekA z1 (eeB (eeT (eeM sg 196) (19 + ekT z1 256 16)) (16 * 1)) 16) (bt - 1).toNat) (s).toNat) s).2.2.1 := by rw [hk51]
                            have hso52 : gSO ty (ekB z1 bt (ekD z1 (ekA z1 (eeB (eeT (eeM sg 196) (19 + ekT z1 256 16)) (16 * 1)) 16) (bt - 1).toNat) (s + 1).toNat) hq48 := by rw [hk51]; exact yq48_0
                            have hok53 : eeOk (ekB z1 bt (ekD z1 (ekA z1 (eeB (eeT (eeM sg 196) (19 + ekT z1 256 16)) (16 * 1)) 16) (bt - 1).toNat) (s + 1).toNat) := by rw [hk51]; exact yq48_1
                            have hok53c := hok53.cur
                            refine gy_s 2 (pc' := 142) (L' := [some (.ref m), some (.int (zi wh)), some (.int (zi n)), some (.int (zi bt)), some (.int ((zi s) + zi 1)), none]) (S' := []) (L2 := [some (.ref m), some (.int (zi wh)), some (.int (zi n)), some (.int (zi bt)), some (.int (zi (s + 1))), none]) (S2 := []) rfl (by simp only [zi_add, zi_sub, zi_mul, zi_neg, zi_and1, zi_and7, zi_and15, zi_and31, zi_and255]) (by simp only [zi_add, zi_sub, zi_mul, zi_neg, zi_and1, zi_and7, zi_and15, zi_and31, zi_and255]) ?_
                            exact gz_wk (ihlp31 hq48 (s + 1) fq48_0 (by omega) sq48 (by omega) (by omega) (by omega) (by omega) (by omega) (by omega) (by omega) efq48_0 pr50 lp31k2 hso52 hok53) (gLw.s (gLw.s (gLw.s (gLw.s (gLw.s (gLw.n gLw.z))))))
                    have hn0 : ekN z1 bt (0 : Int).toNat = 0 := rfl
                    exact gz_wk (lp31 _ h26 0 wv (Nat.lt_succ_self _) sh26 (by omega) (by omega) (by omega) (by omega) (by omega) (by omega) (by omega) lp22k0 lp22k1 lp22k2 hso33 hok34) (gLw.s (gLw.s (gLw.s (gLw.s (gLw.s (gLw.n gLw.z))))))
              have ht0 : ekT z1 256 (1 - 1 : Int).toNat = 0 := rfl
              exact gz_wk (lp22 _ h17 1 wa (Nat.lt_succ_self _) sh17 (by omega) (by omega) (by omega) (by omega) (by omega) (by omega) (by omega) lp13k0 lp13k1 lp13k2 hso24 hok25) (gLw.s (gLw.s (gLw.s (gLw.s (gLw.n (gLw.n gLw.z))))))
            · refine gy_icF rfl (by decide) (by decide) (by omega) (by omega) hc18 ?_
              refine gz_s 4 (pc' := 77) (L' := [some (.ref m), some (.int (zi wh)), some (.int (zi n)), some (.int (zi b1)), some (.int (zi 0)), some (.int (zi 0))]) (S' := []) rfl ?_
              have lp54 : ∀ (fu : Nat) (h55 : gH) (mn : Int) (s1 : Int), (257 - s1).toNat < fu → gSs rT 1027 ty [1059, 32999] h h55 → (0 ≤ mn ∧ mn ≤ 256) → (0 ≤ s1 ∧ s1 ≤ 256) → (mn ≤ s1) → (mn = ekN z1 b1 (s1).toNat) → h55.2.2.2.2 m 59 = .int (zi wa) → gRn 514 ty 37 (eeJ z0 z1) h55 → (∀ j9 : Nat, j9 < 257 → 0 ≤ z1 j9 ∧ z1 j9 ≤ 16) → gSO ty (ekA z1 (eeB (eeT (eeM sg 196) (19 + ekT z1 256 16)) (16 * 1)) (b1 - 1).toNat) h55 → eeOk (ekA z1 (eeB (eeT (eeM sg 196) (19 + ekT z1 256 16)) (16 * 1)) (b1 - 1).toNat) → gz gPP gGG gcn (d + 2) gt203 77 [some (.ref m), some (.int (zi wh)), some (.int (zi n)), some (.int (zi b1)), some (.int (zi mn)), some (.int (zi s1))] [] h55 (fun q _ => gSs rT 1027 ty [1059, 32999] h q.2.2 ∧ ∃ w1 : Int, gfin gt203 q.1 q.2.1 = some none ∧ q.2.2.2.2.2.2 m 59 = .int (zi w1) ∧ 0 ≤ w1 ∧ w1 ≤ 60000 ∧ (w1 = (ekP 1 z1 sg).1) ∧ ((ekP 1 z1 sg).2.1 = sg.2.1) ∧ ((ekP 1 z1 sg).2.2.1 = sg.2.2.1) ∧ (w0 ≤ w1) ∧ (w1 ≤ w0 + 277) ∧ (gSO ty (ekP 1 z1 sg) q.2.2) ∧ (eeOk (ekP 1 z1 sg))) := by
                intro fu
                induction fu with
                | zero => intro h55 mn s1 hm; exact absurd hm (Nat.not_lt_zero _)
                | succ fu ihlp54 =>
                  intro h55 mn s1 lp54m sh55 lp54f0 lp54f1 lp54f2 lp54f3 lp54k0 lp54k1 lp54k2 lp54k3 lp54k4
                  refine gz_s 2 (pc' := 82) (L' := [some (.ref m), some (.int (zi wh)), some (.int (zi n)), some (.int (zi b1)), some (.int (zi mn)), some (.int (zi s1))]) (S' := [.int (zi 256), .int (zi s1)]) rfl ?_
                  by_cases hc56 : (256 : Int) ≤ s1
                  · refine gy_icT (pc' := 119) rfl (by decide) (by decide) (by omega) (by omega) hc56 ?_
                    have hm9 : mn = ekN z1 b1 256 := by rw [show mn = ekN z1 b1 (s1).toNat by omega, (by omega : (s1).toNat = 256)]
                    refine gz_s 2 (pc' := 122) (L' := [some (.ref m), some (.int (zi wh)), some (.int (zi n)), some (.int (zi b1)), some (.int (zi mn)), some (.int (zi s1))]) (S' := [.int (zi mn), .ref m]) rfl ?_
                    refine gz_call rfl (by decide) rfl (by decide) (by decide) (gcal_of rfl rfl rfl (Nat.le_of_ble_eq_true rfl) (gJ.recv (G := gGG) sh55.1 tm rfl rfl)) (mw_putByte _ sh55.1 m tm mn (by omega) wa lp54k0 (by omega) (ekA z1 (eeB (eeT (eeM sg 196) (19 + ekT z1 256 16)) (16 * 1)) (b1 - 1).toNat) (by omega) uq lp54k3 lp54k4) (fun q57 _ wq57 => ?_)
                    obtain ⟨pq57, oq57, hq57⟩ := q57
                    obtain ⟨xq57, fq57_0, gq57, efq57_0, afq57_0, bfq57_0, uq57_0, uq57_1, uq57_2, uq57_3, yq57_0, yq57_1⟩ := wq57
                    refine ⟨_, gq57, ?_⟩
                    show gz gPP gGG gcn _ _ 125 [some (.ref m), some (.int (zi wh)), some (.int (zi n)), some (.int (zi b1)), some (.int (zi mn)), some (.int (zi s1))] [] hq57 _
                    have sq57 := gSs.tr sh55 xq57 (by decide)
                    have pr58 := gRn.fr xq57.2 (by decide) lp54k1
                    have hk59 : ekA z1 (eeB (eeT (eeM sg 196) (19 + ekT z1 256 16)) (16 * 1)) ((b1 + 1) - 1).toNat = eeB (ekA z1 (eeB (eeT (eeM sg 196) (19 + ekT z1 256 16)) (16 * 1)) (b1 - 1).toNat) mn := by rw [(by omega : (b1 + 1 - 1).toNat = (b1 - 1).toNat + 1)]; show eeB _ (ekN z1 (((b1 - 1).toNat + 1 : Nat) : Int) 256) = _; rw [(by omega : (((b1 - 1).toNat + 1 : Nat) : Int) = b1), ← hm9]
                    have hk59_1 : (ekA z1 (eeB (eeT (eeM sg 196) (19 + ekT z1 256 16)) (16 * 1)) ((b1 + 1) - 1).toNat).1 = (eeB (ekA z1 (eeB (eeT (eeM sg 196) (19 + ekT z1 256 16)) (16 * 1)) (b1 - 1).toNat) mn).1 := by rw [hk59]
                    have hk59_21 : (ekA z1 (eeB (eeT (eeM sg 196) (19 + ekT z1 256 16)) (16 * 1)) ((b1 + 1) - 1).toNat).2.1 = (eeB (ekA z1 (eeB (eeT (eeM sg 196) (19 + ekT z1 256 16)) (16 * 1)) (b1 - 1).toNat) mn).2.1 := by rw [hk59]
                    have hk59_221 : (ekA z1 (eeB (eeT (eeM sg 196) (19 + ekT z1 256 16)) (16 * 1)) ((b1 + 1) - 1).toNat).2.2.1 = (eeB (ekA z1 (eeB (eeT (eeM sg 196) (19 + ekT z1 256 16)) (16 * 1)) (b1 - 1).toNat) mn).2.2.1 := by rw [hk59]
                    have hso60 : gSO ty (ekA z1 (eeB (eeT (eeM sg 196) (19 + ekT z1 256 16)) (16 * 1)) ((b1 + 1) - 1).toNat) hq57 := by rw [hk59]; exact yq57_0
                    have hok61 : eeOk (ekA z1 (eeB (eeT (eeM sg 196) (19 + ekT z1 256 16)) (16 * 1)) ((b1 + 1) - 1).toNat) := by rw [hk59]; exact yq57_1
                    have hok61c := hok61.cur
                    refine gy_s 2 (pc' := 65) (L' := [some (.ref m), some (.int (zi wh)), some (.int (zi n)), some (.int ((zi b1) + zi 1)), some (.int (zi mn)), some (.int (zi s1))]) (S' := []) (L2 := [some (.ref m), some (.int (zi wh)), some (.int (zi n)), some (.int (zi (b1 + 1))), some (.int (zi mn)), some (.int (zi s1))]) (S2 := []) rfl (by simp only [zi_add, zi_sub, zi_mul, zi_neg, zi_and1, zi_and7, zi_and15, zi_and31, zi_and255]) (by simp only [zi_add, zi_sub, zi_mul, zi_neg, zi_and1, zi_and7, zi_and15, zi_and31, zi_and255]) ?_
                    exact gz_wk (ihlp13 hq57 (b1 + 1) fq57_0 (by omega) sq57 (by omega) (by omega) (by omega) (by omega) (by omega) (by omega) efq57_0 pr58 lp54k2 hso60 hok61) (gLw.s (gLw.s (gLw.s (gLw.s (gLw.n (gLw.n gLw.z))))))
                  · refine gy_icF rfl (by decide) (by decide) (by omega) (by omega) hc56 ?_
                    refine gz_s 1 (pc' := 86) (L' := [some (.ref m), some (.int (zi wh)), some (.int (zi n)), some (.int (zi b1)), some (.int (zi mn)), some (.int (zi s1))]) (S' := [.ref m]) rfl ?_
                    refine gs_gtr rfl (by decide) rfl sh55.1 tm rfl rfl rfl (fun c62 ec62 tc62 => ?_)
                    refine gy_s 5 (pc' := 97) (L' := [some (.ref m), some (.int (zi wh)), some (.int (zi n)), some (.int (zi b1)), some (.int (zi mn)), some (.int (zi s1))]) (S' := [.int (((zi 257) * (zi wh)) + (zi s1)), .ref c62]) (L2 := [some (.ref m), some (.int (zi wh)), some (.int (zi n)), some (.int (zi b1)), some (.int (zi mn)), some (.int (zi s1))]) (S2 := [.int (zi ((257 * wh) + s1)), .ref c62]) rfl (by simp only [zi_add, zi_sub, zi_mul, zi_neg, zi_and1, zi_and7, zi_and15, zi_and31, zi_and255]) (by simp only [zi_add, zi_sub, zi_mul, zi_neg, zi_and1, zi_and7, zi_and15, zi_and31, zi_and255]) ?_
                    have hl63 : 514 ≤ h55.2.2.2.1 c62 ∧ h55.2.2.2.1 c62 ≤ 514 := gJ.rowl (G := gGG) sh55.1 tc62 rfl
                    refine gs_ald rfl (by decide) sh55.1 tc62 rfl rfl rfl (by decide) (fun _ => rfl) (by omega) (by omega) (fun z64 ez64 az64 bz64 => ?_)
                    have hf65 := gRn.at (i := (257 * wh) + s1) (z := z64) lp54k1 tc62 ez64 (by omega) (by omega) (by omega)
                    have hr2 : z1 (s1).toNat = z64 := by have h9 := hf65; rw [show wh = 1 by omega, eeJ_a1 (by omega) (by omega)] at h9; exact h9
                    refine gz_s 1 (pc' := 99) (L' := [some (.ref m), some (.int (zi wh)), some (.int (zi n)), some (.int (zi b1)), some (.int (zi mn)), some (.int (zi s1))]) (S' := [.int (zi b1), .int (zi z64)]) rfl ?_
                    by_cases hc66 : ¬ (z64 : Int) = b1
                    · refine gy_icT (pc' := 109) rfl (by decide) (by decide) (by omega) (by omega) hc66 ?_
                      refine gz_s 2 (pc' := 113) (L' := [some (.ref m), some (.int (zi wh)), some (.int (zi n)), some (.int (zi b1)), some (.int (zi mn)), some (.int (zi s1))]) (S' := []) rfl ?_
                      have hks : ekN z1 b1 (s1 + 1).toNat = ekN z1 b1 (s1).toNat + (if z1 (s1).toNat = b1 then 1 else 0) := by rw [(by omega : (s1 + 1).toNat = (s1).toNat + 1)]; rfl
                      refine gy_s 2 (pc' := 77) (L' := [some (.ref m), some (.int (zi wh)), some (.int (zi n)), some (.int (zi b1)), some (.int (zi mn)), some (.int ((zi s1) + zi 1))]) (S' := []) (L2 := [some (.ref m), some (.int (zi wh)), some (.int (zi n)), some (.int (zi b1)), some (.int (zi mn)), some (.int (zi (s1 + 1)))]) (S2 := []) rfl (by simp only [zi_add, zi_sub, zi_mul, zi_neg, zi_and1, zi_and7, zi_and15, zi_and31, zi_and255]) (by simp only [zi_add, zi_sub, zi_mul, zi_neg, zi_and1, zi_and7, zi_and15, zi_and31, zi_and255]) ?_
                      exact gz_wk (ihlp54 h55 mn (s1 + 1) (by omega) sh55 (by omega) (by omega) (by omega) (by omega) lp54k0 lp54k1 lp54k2 lp54k3 lp54k4) (gLw.s (gLw.s (gLw.s (gLw.s (gLw.s (gLw.s gLw.z))))))
                    · refine gy_icF rfl (by decide) (by decide) (by omega) (by omega) hc66 ?_
                      refine gy_s 5 (pc' := 113) (L' := [some (.ref m), some (.int (zi wh)), some (.int (zi n)), some (.int (zi b1)), some (.int ((zi mn) + (zi 1))), some (.int (zi s1))]) (S' := []) (L2 := [some (.ref m), some (.int (zi wh)), some (.int (zi n)), some (.int (zi b1)), some (.int (zi (mn + 1))), some (.int (zi s1))]) (S2 := []) rfl (by simp only [zi_add, zi_sub, zi_mul, zi_neg, zi_and1, zi_and7, zi_and15, zi_and31, zi_and255]) (by simp only [zi_add, zi_sub, zi_mul, zi_neg, zi_and1, zi_and7, zi_and15, zi_and31, zi_and255]) ?_
                      have hks : ekN z1 b1 (s1 + 1).toNat = ekN z1 b1 (s1).toNat + (if z1 (s1).toNat = b1 then 1 else 0) := by rw [(by omega : (s1 + 1).toNat = (s1).toNat + 1)]; rfl
                      refine gy_s 2 (pc' := 77) (L' := [some (.ref m), some (.int (zi wh)), some (.int (zi n)), some (.int (zi b1)), some (.int (zi (mn + 1))), some (.int ((zi s1) + zi 1))]) (S' := []) (L2 := [some (.ref m), some (.int (zi wh)), some (.int (zi n)), some (.int (zi b1)), some (.int (zi (mn + 1))), some (.int (zi (s1 + 1)))]) (S2 := []) rfl (by simp only [zi_add, zi_sub, zi_mul, zi_neg, zi_and1, zi_and7, zi_and15, zi_and31, zi_and255]) (by simp only [zi_add, zi_sub, zi_mul, zi_neg, zi_and1, zi_and7, zi_and15, zi_and31, zi_and255]) ?_
                      exact gz_wk (ihlp54 h55 (mn + 1) (s1 + 1) (by omega) sh55 (by omega) (by omega) (by omega) (by omega) lp54k0 lp54k1 lp54k2 lp54k3 lp54k4) (gLw.s (gLw.s (gLw.s (gLw.s (gLw.s (gLw.s gLw.z))))))
              have hn0 : ekN z1 b1 (0 : Int).toNat = 0 := rfl
              exact gz_wk (lp54 _ h17 0 0 (Nat.lt_succ_self _) sh17 (by omega) (by omega) (by omega) (by omega) lp13k0 lp13k1 lp13k2 lp13k3 lp13k4) (gLw.s (gLw.s (gLw.s (gLw.s (gLw.s (gLw.s gLw.z))))))
        exact gz_wk (lp13 _ hq8 1 fq8_0 (Nat.lt_succ_self _) sq8 (by omega) (by omega) (by omega) (by omega) (by omega) (by omega) efq8_0 pr9 lp1k4 hso15 hok16) (gLw.s (gLw.s (gLw.s (gLw.s (gLw.n (gLw.n gLw.z))))))
      · refine gy_icF rfl (by decide) (by decide) (by omega) (by omega) hc3 ?_
        refine gz_s 1 (pc' := 12) (L' := [some (.ref m), some (.int (zi wh)), some (.int (zi n)), some (.int (zi k)), none, none]) (S' := [.ref m]) rfl ?_
        refine gs_gtr rfl (by decide) rfl sh2.1 tm rfl rfl rfl (fun c67 ec67 tc67 => ?_)
        refine gy_s 5 (pc' := 22) (L' := [some (.ref m), some (.int (zi wh)), some (.int (zi n)), some (.int (zi k)), none, none]) (S' := [.int (((zi 257) * (zi wh)) + (zi k)), .ref c67]) (L2 := [some (.ref m), some (.int (zi wh)), some (.int (zi n)), some (.int (zi k)), none, none]) (S2 := [.int (zi ((257 * wh) + k)), .ref c67]) rfl (by simp only [zi_add, zi_sub, zi_mul, zi_neg, zi_and1, zi_and7, zi_and15, zi_and31, zi_and255]) (by simp only [zi_add, zi_sub, zi_mul, zi_neg, zi_and1, zi_and7, zi_and15, zi_and31, zi_and255]) ?_
        have hl68 : 514 ≤ h2.2.2.2.1 c67 ∧ h2.2.2.2.1 c67 ≤ 514 := gJ.rowl (G := gGG) sh2.1 tc67 rfl
        refine gs_ald rfl (by decide) sh2.1 tc67 rfl rfl rfl (by decide) (fun _ => rfl) (by omega) (by omega) (fun z69 ez69 az69 bz69 => ?_)
        have hf70 := gRn.at (i := (257 * wh) + k) (z := z69) lp1k3 tc67 ez69 (by omega) (by omega) (by omega)
        have hr1 : z1 (k).toNat = z69 := by have h9 := hf70; rw [show wh = 1 by omega, eeJ_a1 (by omega) (by omega)] at h9; exact h9
        by_cases hc71 : (z69 : Int) ≤ 0
        · refine gy_ifT (pc' := 32) rfl (by decide) (by decide) (by omega) hc71 ?_
          refine gz_s 2 (pc' := 34) (L' := [some (.ref m), some (.int (zi wh)), some (.int (zi n)), some (.int (zi k)), none, none]) (S' := []) rfl ?_
          have hgs : gsf (fun x9 => if 0 < z1 x9 then (1 : Int) else 0) (k + 1).toNat = gsf (fun x9 => if 0 < z1 x9 then (1 : Int) else 0) (k).toNat + (if 0 < z1 (k).toNat then 1 else 0) := by rw [(by omega : (k + 1).toNat = (k).toNat + 1)]; rfl
          refine gy_s 2 (pc' := 4) (L' := [some (.ref m), some (.int (zi wh)), some (.int (zi n)), some (.int ((zi k) + zi 1)), none, none]) (S' := []) (L2 := [some (.ref m), some (.int (zi wh)), some (.int (zi n)), some (.int (zi (k + 1))), none, none]) (S2 := []) rfl (by simp only [zi_add, zi_sub, zi_mul, zi_neg, zi_and1, zi_and7, zi_and15, zi_and31, zi_and255]) (by simp only [zi_add, zi_sub, zi_mul, zi_neg, zi_and1, zi_and7, zi_and15, zi_and31, zi_and255]) ?_
          exact gz_wk (ihlp1 h2 n (k + 1) (by omega) sh2 (by omega) (by omega) (by omega) (by omega) lp1k0 lp1k1 lp1k2 lp1k3 lp1k4) (gLw.s (gLw.s (gLw.s (gLw.s (gLw.n (gLw.n gLw.z))))))
        · refine gy_ifF rfl (by decide) (by decide) (by omega) hc71 ?_
          refine gy_s 5 (pc' := 34) (L' := [some (.ref m), some (.int (zi wh)), some (.int ((zi n) + (zi 1))), some (.int (zi k)), none, none]) (S' := []) (L2 := [some (.ref m), some (.int (zi wh)), some (.int (zi (n + 1))), some (.int (zi k)), none, none]) (S2 := []) rfl (by simp only [zi_add, zi_sub, zi_mul, zi_neg, zi_and1, zi_and7, zi_and15, zi_and31, zi_and255]) (by simp only [zi_add, zi_sub, zi_mul, zi_neg, zi_and1, zi_and7, zi_and15, zi_and31, zi_and255]) ?_
          have hgs : gsf (fun x9 => if 0 < z1 x9 then (1 : Int) else 0) (k + 1).toNat = gsf (fun x9 => if 0 < z1 x9 then (1 : Int) else 0) (k).toNat + (if 0 < z1 (k).toNat then 1 else 0) := by rw [(by omega : (k + 1).toNat = (k).toNat + 1)]; rfl
          refine gy_s 2 (pc' := 4) (L' := [some (.ref m), some (.int (zi wh)), some (.int (zi (n + 1))), some (.int ((zi k) + zi 1)), none, none]) (S' := []) (L2 := [some (.ref m), some (.int (zi wh)), some (.int (zi (n + 1))), some (.int (zi (k + 1))), none, none]) (S2 := []) rfl (by simp only [zi_add, zi_sub, zi_mul, zi_neg, zi_and1, zi_and7, zi_and15, zi_and31, zi_and255]) (by simp only [zi_add, zi_sub, zi_mul, zi_neg, zi_and1, zi_and7, zi_and15, zi_and31, zi_and255]) ?_
          exact gz_wk (ihlp1 h2 (n + 1) (k + 1) (by omega) sh2 (by omega) (by omega) (by omega) (by omega) lp1k0 lp1k1 lp1k2 lp1k3 lp1k4) (gLw.s (gLw.s (gLw.s (gLw.s (gLw.n (gLw.n gLw.z))))))
  have hg0 : gsf (fun x9 => if 0 < z1 x9 then (1 : Int) else 0) (0 : Int).toNat = 0 := rfl
  exact gz_wk (lp1 _ h 0 0 (Nat.lt_succ_self _) hS (by omega) (by omega) (by omega) (by omega) ew0 hyso hyok hyf37 hyl16) (gLw.s (gLw.s (gLw.s (gLw.s (gLw.n (gLw.n gLw.z))))))
