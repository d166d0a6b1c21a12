/-! ===== the model: methods (by program) ===== -/
set_option maxRecDepth 20000 in
set_option maxHeartbeats 4000000 in
theorem mm_octet (d : Nat) {ty : Nat → Nat} {h : gH} (hJ : gJ rT 1027 ty h) (m : Nat) (tm : ty m = 1) (i : Int) (ri : (-2147483648) ≤ i ∧ i ≤ 2147483647) : gz gPP gGG gcn (d + 0) gt205 0 (gent [.ref m, .int (zi i)] 2) [] h (fun q _ => gSs rT 1027 ty [1000] h q.2.2 ∧ ∃ z : Int, gfin gt205 q.1 q.2.1 = some (some (.int (zi z))) ∧ (-128) ≤ z ∧ z ≤ 127) := by
  have hS : gSs rT 1027 ty [1000] h h := gSs.rf hJ
  refine gz_s 2 (pc' := 2) (L' := [some (.ref m), some (.int (zi i))]) (S' := [.int (zi i), .ref m]) rfl ?_
  by_cases hc1 : (i : Int) < 0
  · refine gy_ifT (pc' := 13) rfl (by decide) (by decide) (by omega) hc1 ?_
    refine gz_s 2 (pc' := 18) (L' := [some (.ref m), some (.int (zi i))]) (S' := [.int (zi 1), .ref m]) rfl ?_
    refine gs_put rfl (by decide) rfl hS tm rfl rfl rfl rfl (Or.inl rfl) (by decide) (by omega) (by omega) (fun h2 sh2 eh2 fh2 => ?_)
    refine gz_s 1 (pc' := 22) (L' := [some (.ref m), some (.int (zi i))]) (S' := [.ref m]) rfl ?_
    refine gs_gtk rfl (by decide) rfl sh2.1 tm rfl rfl eh2 ?_
    refine gy_ifF rfl (by decide) (by decide) (by omega) (by first | (simp [zc]; done) | (simp only [zc]; omega)) ?_
    refine gz_s 2 (pc' := 39) (L' := [some (.ref m), some (.int (zi i))]) (S' := [.int (zi 0)]) rfl ?_
    exact gz_end (I := .ireturn) (len := 1) rfl (Or.inl rfl) ⟨sh2, 0, (gfin_b rfl rfl rfl), (by omega), (by omega)⟩
  · refine gy_ifF rfl (by decide) (by decide) (by omega) hc1 ?_
    refine gz_s 2 (pc' := 7) (L' := [some (.ref m), some (.int (zi i))]) (S' := [.ref m, .int (zi i), .ref m]) rfl ?_
    refine gs_get rfl (by decide) rfl hS.1 tm rfl rfl rfl (fun z3 ez3 az3 bz3 => ?_)
    by_cases hc4 : (i : Int) < z3
    · refine gy_icT (pc' := 17) rfl (by decide) (by decide) (by omega) (by omega) hc4 ?_
      refine gz_s 1 (pc' := 18) (L' := [some (.ref m), some (.int (zi i))]) (S' := [.int (zi 0), .ref m]) rfl ?_
      refine gs_put rfl (by decide) rfl hS tm rfl rfl rfl rfl (Or.inl rfl) (by decide) (by omega) (by omega) (fun h5 sh5 eh5 fh5 => ?_)
      have s6 := (fh5 m 59 (fun q => absurd q.2 (by decide))).trans ez3
      refine gz_s 1 (pc' := 22) (L' := [some (.ref m), some (.int (zi i))]) (S' := [.ref m]) rfl ?_
      refine gs_gtk rfl (by decide) rfl sh5.1 tm rfl rfl eh5 ?_
      refine gy_ifT (pc' := 32) rfl (by decide) (by decide) (by omega) (by first | (simp [zc]; done) | (simp only [zc]; omega)) ?_
      refine gz_s 1 (pc' := 33) (L' := [some (.ref m), some (.int (zi i))]) (S' := [.ref m]) rfl ?_
      refine gs_gtr rfl (by decide) rfl sh5.1 tm rfl rfl rfl (fun c7 ec7 tc7 => ?_)
      refine gz_s 1 (pc' := 37) (L' := [some (.ref m), some (.int (zi i))]) (S' := [.int (zi i), .ref c7]) rfl ?_
      have hl8 : 60000 ≤ h5.2.2.2.1 c7 ∧ h5.2.2.2.1 c7 ≤ 60000 := gJ.rowl (G := gGG) sh5.1 tc7 rfl
      refine gs_ald rfl (by decide) sh5.1 tc7 rfl rfl rfl (by decide) (fun _ => rfl) (by omega) (by omega) (fun z9 ez9 az9 bz9 => ?_)
      refine gy_i2b rfl (by decide) (fun z10 az10 bz10 ez10 => ?_)
      exact gz_end (I := .ireturn) (len := 1) rfl (Or.inl rfl) ⟨sh5, z10, (gfin_b rfl rfl ez10), (by omega), (by omega)⟩
    · refine gy_icF rfl (by decide) (by decide) (by omega) (by omega) hc4 ?_
      refine gz_s 2 (pc' := 18) (L' := [some (.ref m), some (.int (zi i))]) (S' := [.int (zi 1), .ref m]) rfl ?_
      refine gs_put rfl (by decide) rfl hS tm rfl rfl rfl rfl (Or.inl rfl) (by decide) (by omega) (by omega) (fun h11 sh11 eh11 fh11 => ?_)
      have s12 := (fh11 m 59 (fun q => absurd q.2 (by decide))).trans ez3
      refine gz_s 1 (pc' := 22) (L' := [some (.ref m), some (.int (zi i))]) (S' := [.ref m]) rfl ?_
      refine gs_gtk rfl (by decide) rfl sh11.1 tm rfl rfl eh11 ?_
      refine gy_ifF rfl (by decide) (by decide) (by omega) (by first | (simp [zc]; done) | (simp only [zc]; omega)) ?_
      refine gz_s 2 (pc' := 39) (L' := [some (.ref m), some (.int (zi i))]) (S' := [.int (zi 0)]) rfl ?_
      exact gz_end (I := .ireturn) (len := 1) rfl (Or.inl rfl) ⟨sh11, 0, (gfin_b rfl rfl rfl), (by omega), (by omega)⟩
set_option maxRecDepth 20000 in
set_option maxHeartbeats 4000000 in
theorem mm_damagedBlocks (d : Nat) {ty : Nat → Nat} {h : gH} (hJ : gJ rT 1027 ty h) (m : Nat) (tm : ty m = 1) : gz gPP gGG gcn (d + 0) gt179 0 (gent [.ref m] 3) [] h (fun q _ => gSs rT 1027 ty [] h q.2.2 ∧ ∃ z : Int, gfin gt179 q.1 q.2.1 = some (some (.int (zi z))) ∧ 0 ≤ z ∧ z ≤ 192) := by
  have hS : gSs rT 1027 ty [] h h := gSs.rf hJ
  refine gz_s 4 (pc' := 4) (L' := [some (.ref m), some (.int (zi 0)), some (.int (zi 0))]) (S' := []) rfl ?_
  have lp1 : ∀ (fu : Nat) (h2 : gH) (n : Int) (k : Int), (193 - k).toNat < fu → gSs rT 1027 ty [] h h2 → (0 ≤ n ∧ n ≤ 192) → (0 ≤ k ∧ k ≤ 192) → (n ≤ k) → gz gPP gGG gcn (d + 0) gt179 4 [some (.ref m), some (.int (zi n)), some (.int (zi k))] [] h2 (fun q _ => gSs rT 1027 ty [] h q.2.2 ∧ ∃ z : Int, gfin gt179 q.1 q.2.1 = some (some (.int (zi z))) ∧ 0 ≤ z ∧ z ≤ 192) := by
    intro fu
    induction fu with
    | zero => intro h2 n k hm; exact absurd hm (Nat.not_lt_zero _)
    | succ fu ihlp1 =>
      intro h2 n k lp1m sh2 lp1f0 lp1f1 lp1f2 
      refine gz_s 2 (pc' := 6) (L' := [some (.ref m), some (.int (zi n)), some (.int (zi k))]) (S' := [.ref m, .int (zi k)]) rfl ?_
      refine gs_get rfl (by decide) rfl sh2.1 tm rfl rfl rfl (fun z3 ez3 az3 bz3 => ?_)
      by_cases hc4 : (z3 : Int) ≤ k
      · refine gy_icT (pc' := 35) rfl (by decide) (by decide) (by omega) (by omega) hc4 ?_
        refine gz_s 1 (pc' := 36) (L' := [some (.ref m), some (.int (zi n)), some (.int (zi k))]) (S' := [.int (zi n)]) rfl ?_
        exact gz_end (I := .ireturn) (len := 1) rfl (Or.inl rfl) ⟨sh2, n, rfl, (by omega), (by omega)⟩
      · refine gy_icF rfl (by decide) (by decide) (by omega) (by omega) hc4 ?_
        refine gz_s 1 (pc' := 13) (L' := [some (.ref m), some (.int (zi n)), some (.int (zi k))]) (S' := [.ref m]) rfl ?_
        refine gs_gtr rfl (by decide) rfl sh2.1 tm rfl rfl rfl (fun c5 ec5 tc5 => ?_)
        refine gz_s 1 (pc' := 17) (L' := [some (.ref m), some (.int (zi n)), some (.int (zi k))]) (S' := [.int (zi k), .ref c5]) rfl ?_
        have hl6 : 192 ≤ h2.2.2.2.1 c5 ∧ h2.2.2.2.1 c5 ≤ 192 := gJ.rowl (G := gGG) sh2.1 tc5 rfl
        refine gs_bald rfl (by decide) sh2.1 tc5 rfl rfl (Or.inr rfl) (by decide) (fun _ => rfl) (by omega) (by omega) (fun z7 ez7 az7 bz7 => ?_)
        by_cases hc8 : (z7 : Int) = 0
        · refine gy_ifT (pc' := 27) rfl (by decide) (by decide) (by omega) hc8 ?_
          refine gy_s 4 (pc' := 4) (L' := [some (.ref m), some (.int (zi n)), some (.int ((zi k) + zi 1))]) (S' := []) (L2 := [some (.ref m), some (.int (zi n)), some (.int (zi (k + 1)))]) (S2 := []) rfl (by simp only [zi_add, zi_sub, zi_mul, zi_neg, zi_and1, zi_and7, zi_and15, zi_and31, zi_and255]) (by simp only [zi_add, zi_sub, zi_mul, zi_neg, zi_and1, zi_and7, zi_and15, zi_and31, zi_and255]) ?_
          exact gz_wk (ihlp1 h2 n (k + 1) (by omega) sh2 (by omega) (by omega) (by omega) ) (gLw.s (gLw.s (gLw.s gLw.z)))
        · refine gy_ifF rfl (by decide) (by decide) (by omega) hc8 ?_
          refine gy_s 7 (pc' := 4) (L' := [some (.ref m), some (.int ((zi n) + (zi 1))), some (.int ((zi k) + zi 1))]) (S' := []) (L2 := [some (.ref m), some (.int (zi (n + 1))), some (.int (zi (k + 1)))]) (S2 := []) rfl (by simp only [zi_add, zi_sub, zi_mul, zi_neg, zi_and1, zi_and7, zi_and15, zi_and31, zi_and255]) (by simp only [zi_add, zi_sub, zi_mul, zi_neg, zi_and1, zi_and7, zi_and15, zi_and31, zi_and255]) ?_
          exact gz_wk (ihlp1 h2 (n + 1) (k + 1) (by omega) sh2 (by omega) (by omega) (by omega) ) (gLw.s (gLw.s (gLw.s gLw.z)))
  exact gz_wk (lp1 _ h 0 0 (Nat.lt_succ_self _) hS (by omega) (by omega) (by omega) ) (gLw.s (gLw.s (gLw.s gLw.z)))
set_option maxRecDepth 20000 in
set_option maxHeartbeats 4000000 in
theorem mm_scan (d : Nat) {ty : Nat → Nat} {h : gH} (hJ : gJ rT 1027 ty h) (m : Nat) (tm : ty m = 1) (a : Int) (ra : (-2147483648) ≤ a ∧ a ≤ 2147483647) (b : Int) (rb : (-2147483648) ≤ b ∧ b ≤ 2147483647) (t : Int) (rt : (-2147483648) ≤ t ∧ t ≤ 2147483647) : gz gPP gGG gcn (d + 0) gt182 0 (gent [.ref m, .int (zi a), .int (zi b), .int (zi t)] 7) [] h (fun q _ => gSs rT 1027 ty [1000, 1053, 27999, 28999, 29999, 30999, 31999] h q.2.2 ∧ ∃ z : Int, gfin gt182 q.1 q.2.1 = some (some (.int (zi z))) ∧ 0 ≤ z ∧ z ≤ 10) := by
  have hS : gSs rT 1027 ty [1000, 1053, 27999, 28999, 29999, 30999, 31999] h h := gSs.rf hJ
  refine gz_s 2 (pc' := 2) (L' := [some (.ref m), some (.int (zi a)), some (.int (zi b)), some (.int (zi t)), none, none, none]) (S' := [.int (zi 0), .ref m]) rfl ?_
  refine gs_put rfl (by decide) rfl hS tm rfl rfl rfl rfl (Or.inl rfl) (by decide) (by omega) (by omega) (fun h1 sh1 eh1 fh1 => ?_)
  refine gz_s 1 (pc' := 6) (L' := [some (.ref m), some (.int (zi a)), some (.int (zi b)), some (.int (zi t)), none, none, none]) (S' := [.int (zi a)]) rfl ?_
  by_cases hc2 : ¬ (a : Int) = 0
  · refine gy_ifT (pc' := 13) rfl (by decide) (by decide) (by omega) hc2 ?_
    refine gz_s 2 (pc' := 15) (L' := [some (.ref m), some (.int (zi a)), some (.int (zi b)), some (.int (zi t)), none, none, none]) (S' := [.int (zi 1), .int (zi a)]) rfl ?_
    by_cases hc3 : (a : Int) < 1
    · refine gy_icT (pc' := 43) rfl (by decide) (by decide) (by omega) (by omega) hc3 ?_
      refine gz_s 3 (pc' := 48) (L' := [some (.ref m), some (.int (zi a)), some (.int (zi b)), some (.int (zi t)), some (.int (zi 0)), none, none]) (S' := [.int (zi 0)]) rfl ?_
      refine gy_ifT (pc' := 69) rfl (by decide) (by decide) (by omega) (by first | (simp [zc]; done) | (simp only [zc]; omega)) ?_
      refine gz_s 1 (pc' := 70) (L' := [some (.ref m), some (.int (zi a)), some (.int (zi b)), some (.int (zi t)), some (.int (zi 0)), none, none]) (S' := [.int (zi 0)]) rfl ?_
      exact gz_end (I := .ireturn) (len := 1) rfl (Or.inl rfl) ⟨sh1, 0, rfl, (by omega), (by omega)⟩
    · refine gy_icF rfl (by decide) (by decide) (by omega) (by omega) hc3 ?_
      refine gz_s 2 (pc' := 20) (L' := [some (.ref m), some (.int (zi a)), some (.int (zi b)), some (.int (zi t)), none, none, none]) (S' := [.int (zi b), .int (zi a)]) rfl ?_
      by_cases hc4 : (b : Int) < a
      · refine gy_icT (pc' := 43) rfl (by decide) (by decide) (by omega) (by omega) hc4 ?_
        refine gz_s 3 (pc' := 48) (L' := [some (.ref m), some (.int (zi a)), some (.int (zi b)), some (.int (zi t)), some (.int (zi 0)), none, none]) (S' := [.int (zi 0)]) rfl ?_
        refine gy_ifT (pc' := 69) rfl (by decide) (by decide) (by omega) (by first | (simp [zc]; done) | (simp only [zc]; omega)) ?_
        refine gz_s 1 (pc' := 70) (L' := [some (.ref m), some (.int (zi a)), some (.int (zi b)), some (.int (zi t)), some (.int (zi 0)), none, none]) (S' := [.int (zi 0)]) rfl ?_
        exact gz_end (I := .ireturn) (len := 1) rfl (Or.inl rfl) ⟨sh1, 0, rfl, (by omega), (by omega)⟩
      · refine gy_icF rfl (by decide) (by decide) (by omega) (by omega) hc4 ?_
        refine gz_s 2 (pc' := 26) (L' := [some (.ref m), some (.int (zi a)), some (.int (zi b)), some (.int (zi t)), none, none, none]) (S' := [.int (zi 63), .int (zi b)]) rfl ?_
        by_cases hc5 : (63 : Int) < b
        · refine gy_icT (pc' := 43) rfl (by decide) (by decide) (by omega) (by omega) hc5 ?_
          refine gz_s 3 (pc' := 48) (L' := [some (.ref m), some (.int (zi a)), some (.int (zi b)), some (.int (zi t)), some (.int (zi 0)), none, none]) (S' := [.int (zi 0)]) rfl ?_
          refine gy_ifT (pc' := 69) rfl (by decide) (by decide) (by omega) (by first | (simp [zc]; done) | (simp only [zc]; omega)) ?_
          refine gz_s 1 (pc' := 70) (L' := [some (.ref m), some (.int (zi a)), some (.int (zi b)), some (.int (zi t)), some (.int (zi 0)), none, none]) (S' := [.int (zi 0)]) rfl ?_
          exact gz_end (I := .ireturn) (len := 1) rfl (Or.inl rfl) ⟨sh1, 0, rfl, (by omega), (by omega)⟩
        · refine gy_icF rfl (by decide) (by decide) (by omega) (by omega) hc5 ?_
          refine gz_s 1 (pc' := 30) (L' := [some (.ref m), some (.int (zi a)), some (.int (zi b)), some (.int (zi t)), none, none, none]) (S' := [.ref m]) rfl ?_
          refine gs_gtr rfl (by decide) rfl sh1.1 tm rfl rfl rfl (fun c6 ec6 tc6 => ?_)
          refine gz_s 1 (pc' := 34) (L' := [some (.ref m), some (.int (zi a)), some (.int (zi b)), some (.int (zi t)), none, none, none]) (S' := [.int (zi 0), .ref c6]) rfl ?_
          have hl7 : 64 ≤ h1.2.2.2.1 c6 ∧ h1.2.2.2.1 c6 ≤ 64 := gJ.rowl (G := gGG) sh1.1 tc6 rfl
          refine gs_ald rfl (by decide) sh1.1 tc6 rfl rfl rfl (by decide) (fun _ => rfl) (by omega) (by omega) (fun z8 ez8 az8 bz8 => ?_)
          refine gz_s 1 (pc' := 36) (L' := [some (.ref m), some (.int (zi a)), some (.int (zi b)), some (.int (zi t)), none, none, none]) (S' := [.int (zi (-1)), .int (zi z8)]) rfl ?_
          by_cases hc9 : (z8 : Int) = (-1)
          · refine gy_icT (pc' := 43) rfl (by decide) (by decide) (by omega) (by omega) hc9 ?_
            refine gz_s 3 (pc' := 48) (L' := [some (.ref m), some (.int (zi a)), some (.int (zi b)), some (.int (zi t)), some (.int (zi 0)), none, none]) (S' := [.int (zi 0)]) rfl ?_
            refine gy_ifT (pc' := 69) rfl (by decide) (by decide) (by omega) (by first | (simp [zc]; done) | (simp only [zc]; omega)) ?_
            refine gz_s 1 (pc' := 70) (L' := [some (.ref m), some (.int (zi a)), some (.int (zi b)), some (.int (zi t)), some (.int (zi 0)), none, none]) (S' := [.int (zi 0)]) rfl ?_
            exact gz_end (I := .ireturn) (len := 1) rfl (Or.inl rfl) ⟨sh1, 0, rfl, (by omega), (by omega)⟩
          · refine gy_icF rfl (by decide) (by decide) (by omega) (by omega) hc9 ?_
            refine gz_s 4 (pc' := 48) (L' := [some (.ref m), some (.int (zi a)), some (.int (zi b)), some (.int (zi t)), some (.int (zi 1)), none, none]) (S' := [.int (zi 1)]) rfl ?_
            refine gy_ifF rfl (by decide) (by decide) (by omega) (by first | (simp [zc]; done) | (simp only [zc]; omega)) ?_
            refine gz_s 1 (pc' := 52) (L' := [some (.ref m), some (.int (zi a)), some (.int (zi b)), some (.int (zi t)), some (.int (zi 1)), none, none]) (S' := [.int (zi t)]) rfl ?_
            by_cases hc10 : (t : Int) < 0
            · refine gy_ifT (pc' := 69) rfl (by decide) (by decide) (by omega) hc10 ?_
              refine gz_s 1 (pc' := 70) (L' := [some (.ref m), some (.int (zi a)), some (.int (zi b)), some (.int (zi t)), some (.int (zi 1)), none, none]) (S' := [.int (zi 0)]) rfl ?_
              exact gz_end (I := .ireturn) (len := 1) rfl (Or.inl rfl) ⟨sh1, 0, rfl, (by omega), (by omega)⟩
            · refine gy_ifF rfl (by decide) (by decide) (by omega) hc10 ?_
              refine gz_s 2 (pc' := 57) (L' := [some (.ref m), some (.int (zi a)), some (.int (zi b)), some (.int (zi t)), some (.int (zi 1)), none, none]) (S' := [.int (zi 3), .int (zi t)]) rfl ?_
              by_cases hc11 : (3 : Int) < t
              · refine gy_icT (pc' := 69) rfl (by decide) (by decide) (by omega) (by omega) hc11 ?_
                refine gz_s 1 (pc' := 70) (L' := [some (.ref m), some (.int (zi a)), some (.int (zi b)), some (.int (zi t)), some (.int (zi 1)), none, none]) (S' := [.int (zi 0)]) rfl ?_
                exact gz_end (I := .ireturn) (len := 1) rfl (Or.inl rfl) ⟨sh1, 0, rfl, (by omega), (by omega)⟩
              · refine gy_icF rfl (by decide) (by decide) (by omega) (by omega) hc11 ?_
                refine gz_s 1 (pc' := 61) (L' := [some (.ref m), some (.int (zi a)), some (.int (zi b)), some (.int (zi t)), some (.int (zi 1)), none, none]) (S' := [.ref m]) rfl ?_
                refine gs_get rfl (by decide) rfl sh1.1 tm rfl rfl rfl (fun z12 ez12 az12 bz12 => ?_)
                refine gz_s 1 (pc' := 66) (L' := [some (.ref m), some (.int (zi a)), some (.int (zi b)), some (.int (zi t)), some (.int (zi 1)), none, none]) (S' := [.int (zi 10), .int (zi z12)]) rfl ?_
                by_cases hc13 : ¬ (z12 : Int) = 10
                · refine gy_icT (pc' := 71) rfl (by decide) (by decide) (by omega) (by omega) hc13 ?_
                  refine gz_s 2 (pc' := 74) (L' := [some (.ref m), some (.int (zi a)), some (.int (zi b)), some (.int (zi t)), some (.int (zi 1)), some (.int (zi a)), none]) (S' := []) rfl ?_
                  have lp14 : ∀ (fu : Nat) (h15 : gH) (k : Int), (65 - k).toNat < fu → gSs rT 1027 ty [1000, 1053, 27999, 28999, 29999, 30999, 31999] h h15 → (0 ≤ k ∧ k ≤ 64) → (a ≤ k) → h15.2.2.2.2 m 0 = .int (zi 0) → h15.2.2.2.2 m 58 = .ref c6 → h15.2.2.2.2 m 53 = .int (zi z12) → gz gPP gGG gcn (d + 0) gt182 74 [some (.ref m), some (.int (zi a)), some (.int (zi b)), some (.int (zi t)), some (.int (zi 1)), some (.int (zi k)), none] [] h15 (fun q _ => gSs rT 1027 ty [1000, 1053, 27999, 28999, 29999, 30999, 31999] h q.2.2 ∧ ∃ z : Int, gfin gt182 q.1 q.2.1 = some (some (.int (zi z))) ∧ 0 ≤ z ∧ z ≤ 10) := by
                    intro fu
                    induction fu with
                    | zero => intro h15 k hm; exact absurd hm (Nat.not_lt_zero _)
                    | succ fu ihlp14 =>
                      intro h15 k lp14m sh15 lp14f0 lp14f1 lp14k0 lp14k1 lp14k2
                      refine gz_s 2 (pc' := 77) (L' := [some (.ref m), some (.int (zi a)), some (.int (zi b)), some (.int (zi t)), some (.int (zi 1)), some (.int (zi k)), none]) (S' := [.int (zi b), .int (zi k)]) rfl ?_
                      by_cases hc16 : (b : Int) < k
                      · refine gy_icT (pc' := 104) rfl (by decide) (by decide) (by omega) (by omega) hc16 ?_
                        refine gz_s 1 (pc' := 105) (L' := [some (.ref m), some (.int (zi a)), some (.int (zi b)), some (.int (zi t)), some (.int (zi 1)), some (.int (zi k)), none]) (S' := [.ref m]) rfl ?_
                        refine gs_gtk rfl (by decide) rfl sh15.1 tm rfl rfl lp14k1 ?_
                        refine gz_s 1 (pc' := 109) (L' := [some (.ref m), some (.int (zi a)), some (.int (zi b)), some (.int (zi t)), some (.int (zi 1)), some (.int (zi k)), none]) (S' := [.int (zi a), .ref c6]) rfl ?_
                        have hl17 : 64 ≤ h15.2.2.2.1 c6 ∧ h15.2.2.2.1 c6 ≤ 64 := gJ.rowl (G := gGG) sh15.1 tc6 rfl
                        refine gs_ald rfl (by decide) sh15.1 tc6 rfl rfl rfl (by decide) (fun _ => rfl) (by omega) (by omega) (fun z18 ez18 az18 bz18 => ?_)
                        refine gz_s 3 (pc' := 115) (L' := [some (.ref m), some (.int (zi a)), some (.int (zi b)), some (.int (zi t)), some (.int (zi 1)), some (.int (zi z18)), none]) (S' := [.int (zi (-1)), .int (zi z18)]) rfl ?_
                        by_cases hc19 : (z18 : Int) = (-1)
                        · refine gy_icT (pc' := 128) rfl (by decide) (by decide) (by omega) (by omega) hc19 ?_
                          refine gz_s 2 (pc' := 131) (L' := [some (.ref m), some (.int (zi a)), some (.int (zi b)), some (.int (zi t)), some (.int (zi 1)), some (.int (zi z18)), some (.int (zi a))]) (S' := []) rfl ?_
                          have lp20 : ∀ (fu : Nat) (h21 : gH) (kb : Int), (65 - kb).toNat < fu → gSs rT 1027 ty [1000, 1053, 27999, 28999, 29999, 30999, 31999] h h21 → (0 ≤ kb ∧ kb ≤ 64) → (a ≤ kb) → h21.2.2.2.2 m 0 = .int (zi 0) → h21.2.2.2.2 m 58 = .ref c6 → h21.2.2.2.2 m 53 = .int (zi z12) → gz gPP gGG gcn (d + 0) gt182 131 [some (.ref m), some (.int (zi a)), some (.int (zi b)), some (.int (zi t)), some (.int (zi 1)), some (.int (zi z18)), some (.int (zi kb))] [] h21 (fun q _ => gSs rT 1027 ty [1000, 1053, 27999, 28999, 29999, 30999, 31999] h q.2.2 ∧ ∃ z : Int, gfin gt182 q.1 q.2.1 = some (some (.int (zi z))) ∧ 0 ≤ z ∧ z ≤ 10) := by
                            intro fu
                            induction fu with
                            | zero => intro h21 kb hm; exact absurd hm (Nat.not_lt_zero _)
                            | succ fu ihlp20 =>
                              intro h21 kb lp20m sh21 lp20f0 lp20f1 lp20k0 lp20k1 lp20k2
                              refine gz_s 2 (pc' := 134) (L' := [some (.ref m), some (.int (zi a)), some (.int (zi b)), some (.int (zi t)), some (.int (zi 1)), some (.int (zi z18)), some (.int (zi kb))]) (S' := [.int (zi b), .int (zi kb)]) rfl ?_
                              by_cases hc22 : (b : Int) < kb
                              · refine gy_icT (pc' := 151) rfl (by decide) (by decide) (by omega) (by omega) hc22 ?_
                                refine gz_s 1 (pc' := 152) (L' := [some (.ref m), some (.int (zi a)), some (.int (zi b)), some (.int (zi t)), some (.int (zi 1)), some (.int (zi z18)), some (.int (zi kb))]) (S' := [.ref m]) rfl ?_
                                refine gs_gtr rfl (by decide) rfl sh21.1 tm rfl rfl rfl (fun c23 ec23 tc23 => ?_)
                                refine gz_s 1 (pc' := 156) (L' := [some (.ref m), some (.int (zi a)), some (.int (zi b)), some (.int (zi t)), some (.int (zi 1)), some (.int (zi z18)), some (.int (zi kb))]) (S' := [.ref m, .ref c23]) rfl ?_
                                refine gs_gtk rfl (by decide) rfl sh21.1 tm rfl rfl lp20k2 ?_
                                refine gz_s 1 (pc' := 160) (L' := [some (.ref m), some (.int (zi a)), some (.int (zi b)), some (.int (zi t)), some (.int (zi 1)), some (.int (zi z18)), some (.int (zi kb))]) (S' := [.int (zi a), .int (zi z12), .ref c23]) rfl ?_
                                have hl24 : 10 ≤ h21.2.2.2.1 c23 ∧ h21.2.2.2.1 c23 ≤ 10 := gJ.rowl (G := gGG) sh21.1 tc23 rfl
                                refine gs_ast rfl (by decide) sh21 tc23 rfl rfl rfl (by decide) (fun _ => rfl) (by omega) (by omega) (fun _ => (by decide : (27999 : Nat) ∈ ([1000, 1053, 27999, 28999, 29999, 30999, 31999] : List Nat))) (by omega) (by omega) (fun h25 sh25 eh25 fh25 => ?_)
                                have s26 := (fh25 m 0 (fun q => absurd (((tm).symm.trans (congrArg ty q.1)).trans tc23) (by decide))).trans lp20k0
                                have s27 := (fh25 m 58 (fun q => absurd (((tm).symm.trans (congrArg ty q.1)).trans tc23) (by decide))).trans lp20k1
                                have s28 := (fh25 m 53 (fun q => absurd (((tm).symm.trans (congrArg ty q.1)).trans tc23) (by decide))).trans lp20k2
                                have s29 := (fh25 m 54 (fun q => absurd (((tm).symm.trans (congrArg ty q.1)).trans tc23) (by decide))).trans ec23
                                refine gz_s 1 (pc' := 162) (L' := [some (.ref m), some (.int (zi a)), some (.int (zi b)), some (.int (zi t)), some (.int (zi 1)), some (.int (zi z18)), some (.int (zi kb))]) (S' := [.ref m]) rfl ?_
                                refine gs_gtr rfl (by decide) rfl sh25.1 tm rfl rfl rfl (fun c30 ec30 tc30 => ?_)
                                refine gz_s 1 (pc' := 166) (L' := [some (.ref m), some (.int (zi a)), some (.int (zi b)), some (.int (zi t)), some (.int (zi 1)), some (.int (zi z18)), some (.int (zi kb))]) (S' := [.ref m, .ref c30]) rfl ?_
                                refine gs_gtk rfl (by decide) rfl sh25.1 tm rfl rfl s28 ?_
                                refine gz_s 1 (pc' := 170) (L' := [some (.ref m), some (.int (zi a)), some (.int (zi b)), some (.int (zi t)), some (.int (zi 1)), some (.int (zi z18)), some (.int (zi kb))]) (S' := [.int (zi b), .int (zi z12), .ref c30]) rfl ?_
                                have hl31 : 10 ≤ h25.2.2.2.1 c30 ∧ h25.2.2.2.1 c30 ≤ 10 := gJ.rowl (G := gGG) sh25.1 tc30 rfl
                                refine gs_ast rfl (by decide) sh25 tc30 rfl rfl rfl (by decide) (fun _ => rfl) (by omega) (by omega) (fun _ => (by decide : (28999 : Nat) ∈ ([1000, 1053, 27999, 28999, 29999, 30999, 31999] : List Nat))) (by omega) (by omega) (fun h32 sh32 eh32 fh32 => ?_)
                                have s33 := (fh32 m 0 (fun q => absurd (((tm).symm.trans (congrArg ty q.1)).trans tc30) (by decide))).trans s26
                                have s34 := (fh32 m 58 (fun q => absurd (((tm).symm.trans (congrArg ty q.1)).trans tc30) (by decide))).trans s27
                                have s35 := (fh32 m 53 (fun q => absurd (((tm).symm.trans (congrArg ty q.1)).trans tc30) (by decide))).trans s28
                                have s36 := (fh32 m 54 (fun q => absurd (((tm).symm.trans (congrArg ty q.1)).trans tc30) (by decide))).trans s29
                                have s37 := (fh32 m 55 (fun q => absurd (((tm).symm.trans (congrArg ty q.1)).trans tc30) (by decide))).trans ec30
                                refine gz_s 1 (pc' := 172) (L' := [some (.ref m), some (.int (zi a)), some (.int (zi b)), some (.int (zi t)), some (.int (zi 1)), some (.int (zi z18)), some (.int (zi kb))]) (S' := [.ref m]) rfl ?_
                                refine gs_gtr rfl (by decide) rfl sh32.1 tm rfl rfl rfl (fun c38 ec38 tc38 => ?_)
                                refine gz_s 1 (pc' := 176) (L' := [some (.ref m), some (.int (zi a)), some (.int (zi b)), some (.int (zi t)), some (.int (zi 1)), some (.int (zi z18)), some (.int (zi kb))]) (S' := [.ref m, .ref c38]) rfl ?_
                                refine gs_gtk rfl (by decide) rfl sh32.1 tm rfl rfl s35 ?_
                                refine gz_s 2 (pc' := 182) (L' := [some (.ref m), some (.int (zi a)), some (.int (zi b)), some (.int (zi t)), some (.int (zi 1)), some (.int (zi z18)), some (.int (zi kb))]) (S' := [.int (zi (-1)), .int (zi z18), .int (zi z12), .ref c38]) rfl ?_
                                refine gy_icF rfl (by decide) (by decide) (by omega) (by omega) (by first | (simp [zc]; done) | (simp only [zc]; omega)) ?_
                                refine gz_s 2 (pc' := 191) (L' := [some (.ref m), some (.int (zi a)), some (.int (zi b)), some (.int (zi t)), some (.int (zi 1)), some (.int (zi z18)), some (.int (zi kb))]) (S' := [.int (zi 0), .int (zi z12), .ref c38]) rfl ?_
                                have hl39 : 10 ≤ h32.2.2.2.1 c38 ∧ h32.2.2.2.1 c38 ≤ 10 := gJ.rowl (G := gGG) sh32.1 tc38 rfl
                                refine gs_ast rfl (by decide) sh32 tc38 rfl rfl rfl (by decide) (fun _ => rfl) (by omega) (by omega) (fun _ => (by decide : (29999 : Nat) ∈ ([1000, 1053, 27999, 28999, 29999, 30999, 31999] : List Nat))) (by omega) (by omega) (fun h40 sh40 eh40 fh40 => ?_)
                                have s41 := (fh40 m 0 (fun q => absurd (((tm).symm.trans (congrArg ty q.1)).trans tc38) (by decide))).trans s33
                                have s42 := (fh40 m 58 (fun q => absurd (((tm).symm.trans (congrArg ty q.1)).trans tc38) (by decide))).trans s34
                                have s43 := (fh40 m 53 (fun q => absurd (((tm).symm.trans (congrArg ty q.1)).trans tc38) (by decide))).trans s35
                                have s44 := (fh40 m 54 (fun q => absurd (((tm).symm.trans (congrArg ty q.1)).trans tc38) (by decide))).trans s36
                                have s45 := (fh40 m 55 (fun q => absurd (((tm).symm.trans (congrArg ty q.1)).trans tc38) (by decide))).trans s37
                                have s46 := (fh40 m 56 (fun q => absurd (((tm).symm.trans (congrArg ty q.1)).trans tc38) (by decide))).trans ec38
                                refine gz_s 1 (pc' := 193) (L' := [some (.ref m), some (.int (zi a)), some (.int (zi b)), some (.int (zi t)), some (.int (zi 1)), some (.int (zi z18)), some (.int (zi kb))]) (S' := [.ref m]) rfl ?_
                                refine gs_gtr rfl (by decide) rfl sh40.1 tm rfl rfl rfl (fun c47 ec47 tc47 => ?_)
                                refine gz_s 1 (pc' := 197) (L' := [some (.ref m), some (.int (zi a)), some (.int (zi b)), some (.int (zi t)), some (.int (zi 1)), some (.int (zi z18)), some (.int (zi kb))]) (S' := [.ref m, .ref c47]) rfl ?_
                                refine gs_gtk rfl (by decide) rfl sh40.1 tm rfl rfl s43 ?_
                                refine gz_s 1 (pc' := 201) (L' := [some (.ref m), some (.int (zi a)), some (.int (zi b)), some (.int (zi t)), some (.int (zi 1)), some (.int (zi z18)), some (.int (zi kb))]) (S' := [.int (zi t), .int (zi z12), .ref c47]) rfl ?_
                                have hl48 : 10 ≤ h40.2.2.2.1 c47 ∧ h40.2.2.2.1 c47 ≤ 10 := gJ.rowl (G := gGG) sh40.1 tc47 rfl
                                refine gs_ast rfl (by decide) sh40 tc47 rfl rfl rfl (by decide) (fun _ => rfl) (by omega) (by omega) (fun _ => (by decide : (30999 : Nat) ∈ ([1000, 1053, 27999, 28999, 29999, 30999, 31999] : List Nat))) (by omega) (by omega) (fun h49 sh49 eh49 fh49 => ?_)
                                have s50 := (fh49 m 0 (fun q => absurd (((tm).symm.trans (congrArg ty q.1)).trans tc47) (by decide))).trans s41
                                have s51 := (fh49 m 58 (fun q => absurd (((tm).symm.trans (congrArg ty q.1)).trans tc47) (by decide))).trans s42
                                have s52 := (fh49 m 53 (fun q => absurd (((tm).symm.trans (congrArg ty q.1)).trans tc47) (by decide))).trans s43
                                have s53 := (fh49 m 54 (fun q => absurd (((tm).symm.trans (congrArg ty q.1)).trans tc47) (by decide))).trans s44
                                have s54 := (fh49 m 55 (fun q => absurd (((tm).symm.trans (congrArg ty q.1)).trans tc47) (by decide))).trans s45
                                have s55 := (fh49 m 56 (fun q => absurd (((tm).symm.trans (congrArg ty q.1)).trans tc47) (by decide))).trans s46
                                have s56 := (fh49 m 57 (fun q => absurd (((tm).symm.trans (congrArg ty q.1)).trans tc47) (by decide))).trans ec47
                                refine gz_s 2 (pc' := 204) (L' := [some (.ref m), some (.int (zi a)), some (.int (zi b)), some (.int (zi t)), some (.int (zi 1)), some (.int (zi z18)), some (.int (zi kb))]) (S' := [.ref m, .ref m]) rfl ?_
                                refine gs_gtk rfl (by decide) rfl sh49.1 tm rfl rfl s52 ?_
                                refine gy_s 2 (pc' := 209) (L' := [some (.ref m), some (.int (zi a)), some (.int (zi b)), some (.int (zi t)), some (.int (zi 1)), some (.int (zi z18)), some (.int (zi kb))]) (S' := [.int ((zi z12) + (zi 1)), .ref m]) (L2 := [some (.ref m), some (.int (zi a)), some (.int (zi b)), some (.int (zi t)), some (.int (zi 1)), some (.int (zi z18)), some (.int (zi kb))]) (S2 := [.int (zi (z12 + 1)), .ref m]) rfl (by simp only [zi_add, zi_sub, zi_mul, zi_neg, zi_and1, zi_and7, zi_and15, zi_and31, zi_and255]) (by simp only [zi_add, zi_sub, zi_mul, zi_neg, zi_and1, zi_and7, zi_and15, zi_and31, zi_and255]) ?_
                                refine gs_put rfl (by decide) rfl sh49 tm rfl rfl rfl rfl (Or.inl rfl) (by decide) (by omega) (by omega) (fun h57 sh57 eh57 fh57 => ?_)
                                have s58 := (fh57 m 0 (fun q => absurd q.2 (by decide))).trans s50
                                have s59 := (fh57 m 58 (fun q => absurd q.2 (by decide))).trans s51
                                have s60 := (fh57 m 54 (fun q => absurd q.2 (by decide))).trans s53
                                have s61 := (fh57 m 55 (fun q => absurd q.2 (by decide))).trans s54
                                have s62 := (fh57 m 56 (fun q => absurd q.2 (by decide))).trans s55
                                have s63 := (fh57 m 57 (fun q => absurd q.2 (by decide))).trans s56
                                refine gz_s 1 (pc' := 213) (L' := [some (.ref m), some (.int (zi a)), some (.int (zi b)), some (.int (zi t)), some (.int (zi 1)), some (.int (zi z18)), some (.int (zi kb))]) (S' := [.ref m]) rfl ?_
                                refine gs_gtk rfl (by decide) rfl sh57.1 tm rfl rfl eh57 ?_
                                exact gz_end (I := .ireturn) (len := 1) rfl (Or.inl rfl) ⟨sh57, z12 + 1, rfl, (by omega), (by omega)⟩
                              · refine gy_icF rfl (by decide) (by decide) (by omega) (by omega) hc22 ?_
                                refine gz_s 1 (pc' := 138) (L' := [some (.ref m), some (.int (zi a)), some (.int (zi b)), some (.int (zi t)), some (.int (zi 1)), some (.int (zi z18)), some (.int (zi kb))]) (S' := [.ref m]) rfl ?_
                                refine gs_gtk rfl (by decide) rfl sh21.1 tm rfl rfl lp20k1 ?_
                                refine gz_s 2 (pc' := 144) (L' := [some (.ref m), some (.int (zi a)), some (.int (zi b)), some (.int (zi t)), some (.int (zi 1)), some (.int (zi z18)), some (.int (zi kb))]) (S' := [.int (zi t), .int (zi kb), .ref c6]) rfl ?_
                                have hl64 : 64 ≤ h21.2.2.2.1 c6 ∧ h21.2.2.2.1 c6 ≤ 64 := gJ.rowl (G := gGG) sh21.1 tc6 rfl
                                refine gs_ast rfl (by decide) sh21 tc6 rfl rfl rfl (by decide) (fun _ => rfl) (by omega) (by omega) (fun _ => (by decide : (31999 : Nat) ∈ ([1000, 1053, 27999, 28999, 29999, 30999, 31999] : List Nat))) (by omega) (by omega) (fun h65 sh65 eh65 fh65 => ?_)
                                have s66 := (fh65 m 0 (fun q => absurd (((tm).symm.trans (congrArg ty q.1)).trans tc6) (by decide))).trans lp20k0
                                have s67 := (fh65 m 58 (fun q => absurd (((tm).symm.trans (congrArg ty q.1)).trans tc6) (by decide))).trans lp20k1
                                have s68 := (fh65 m 53 (fun q => absurd (((tm).symm.trans (congrArg ty q.1)).trans tc6) (by decide))).trans lp20k2
                                refine gy_s 2 (pc' := 131) (L' := [some (.ref m), some (.int (zi a)), some (.int (zi b)), some (.int (zi t)), some (.int (zi 1)), some (.int (zi z18)), some (.int ((zi kb) + zi 1))]) (S' := []) (L2 := [some (.ref m), some (.int (zi a)), some (.int (zi b)), some (.int (zi t)), some (.int (zi 1)), some (.int (zi z18)), some (.int (zi (kb + 1)))]) (S2 := []) rfl (by simp only [zi_add, zi_sub, zi_mul, zi_neg, zi_and1, zi_and7, zi_and15, zi_and31, zi_and255]) (by simp only [zi_add, zi_sub, zi_mul, zi_neg, zi_and1, zi_and7, zi_and15, zi_and31, zi_and255]) ?_
                                exact gz_wk (ihlp20 h65 (kb + 1) (by omega) sh65 (by omega) (by omega) s66 s67 s68) (gLw.s (gLw.s (gLw.s (gLw.s (gLw.s (gLw.s (gLw.s gLw.z)))))))
                          exact gz_wk (lp20 _ h15 a (Nat.lt_succ_self _) sh15 (by omega) (by omega) lp14k0 lp14k1 lp14k2) (gLw.s (gLw.s (gLw.s (gLw.s (gLw.s (gLw.s (gLw.s gLw.z)))))))
                        · refine gy_icF rfl (by decide) (by decide) (by omega) (by omega) hc19 ?_
                          refine gy_s 4 (pc' := 123) (L' := [some (.ref m), some (.int (zi a)), some (.int (zi b)), some (.int (zi t)), some (.int (zi 1)), some (.int (zi z18)), none]) (S' := [.int ((zi t) + (zi 1)), .int (zi z18)]) (L2 := [some (.ref m), some (.int (zi a)), some (.int (zi b)), some (.int (zi t)), some (.int (zi 1)), some (.int (zi z18)), none]) (S2 := [.int (zi (t + 1)), .int (zi z18)]) rfl (by simp only [zi_add, zi_sub, zi_mul, zi_neg, zi_and1, zi_and7, zi_and15, zi_and31, zi_and255]) (by simp only [zi_add, zi_sub, zi_mul, zi_neg, zi_and1, zi_and7, zi_and15, zi_and31, zi_and255]) ?_
                          by_cases hc69 : (z18 : Int) = t + 1
                          · refine gy_icT (pc' := 128) rfl (by decide) (by decide) (by omega) (by omega) hc69 ?_
                            refine gz_s 2 (pc' := 131) (L' := [some (.ref m), some (.int (zi a)), some (.int (zi b)), some (.int (zi t)), some (.int (zi 1)), some (.int (zi z18)), some (.int (zi a))]) (S' := []) rfl ?_
                            have lp70 : ∀ (fu : Nat) (h71 : gH) (kb : Int), (65 - kb).toNat < fu → gSs rT 1027 ty [1000, 1053, 27999, 28999, 29999, 30999, 31999] h h71 → (0 ≤ kb ∧ kb ≤ 64) → (a ≤ kb) → h71.2.2.2.2 m 0 = .int (zi 0) → h71.2.2.2.2 m 58 = .ref c6 → h71.2.2.2.2 m 53 = .int (zi z12) → gz gPP gGG gcn (d + 0) gt182 131 [some (.ref m), some (.int (zi a)), some (.int (zi b)), some (.int (zi t)), some (.int (zi 1)), some (.int (zi z18)), some (.int (zi kb))] [] h71 (fun q _ => gSs rT 1027 ty [1000, 1053, 27999, 28999, 29999, 30999, 31999] h q.2.2 ∧ ∃ z : Int, gfin gt182 q.1 q.2.1 = some (some (.int (zi z))) ∧ 0 ≤ z ∧ z ≤ 10) := by
                              intro fu
                              induction fu with
                              | zero => intro h71 kb hm; exact absurd hm (Nat.not_lt_zero _)
                              | succ fu ihlp70 =>
                                intro h71 kb lp70m sh71 lp70f0 lp70f1 lp70k0 lp70k1 lp70k2
                                refine gz_s 2 (pc' := 134) (L' := [some (.ref m), some (.int (zi a)), some (.int (zi b)), some (.int (zi t)), some (.int (zi 1)), some (.int (zi z18)), some (.int (zi kb))]) (S' := [.int (zi b), .int (zi kb)]) rfl ?_
                                by_cases hc72 : (b : Int) < kb
                                · refine gy_icT (pc' := 151) rfl (by decide) (by decide) (by omega) (by omega) hc72 ?_
                                  refine gz_s 1 (pc' := 152) (L' := [some (.ref m), some (.int (zi a)), some (.int (zi b)), some (.int (zi t)), some (.int (zi 1)), some (.int (zi z18)), some (.int (zi kb))]) (S' := [.ref m]) rfl ?_
                                  refine gs_gtr rfl (by decide) rfl sh71.1 tm rfl rfl rfl (fun c73 ec73 tc73 => ?_)
                                  refine gz_s 1 (pc' := 156) (L' := [some (.ref m), some (.int (zi a)), some (.int (zi b)), some (.int (zi t)), some (.int (zi 1)), some (.int (zi z18)), some (.int (zi kb))]) (S' := [.ref m, .ref c73]) rfl ?_
                                  refine gs_gtk rfl (by decide) rfl sh71.1 tm rfl rfl lp70k2 ?_
                                  refine gz_s 1 (pc' := 160) (L' := [some (.ref m), some (.int (zi a)), some (.int (zi b)), some (.int (zi t)), some (.int (zi 1)), some (.int (zi z18)), some (.int (zi kb))]) (S' := [.int (zi a), .int (zi z12), .ref c73]) rfl ?_
                                  have hl74 : 10 ≤ h71.2.2.2.1 c73 ∧ h71.2.2.2.1 c73 ≤ 10 := gJ.rowl (G := gGG) sh71.1 tc73 rfl
                                  refine gs_ast rfl (by decide) sh71 tc73 rfl rfl rfl (by decide) (fun _ => rfl) (by omega) (by omega) (fun _ => (by decide : (27999 : Nat) ∈ ([1000, 1053, 27999, 28999, 29999, 30999, 31999] : List Nat))) (by omega) (by omega) (fun h75 sh75 eh75 fh75 => ?_)
                                  have s76 := (fh75 m 0 (fun q => absurd (((tm).symm.trans (congrArg ty q.1)).trans tc73) (by decide))).trans lp70k0
                                  have s77 := (fh75 m 58 (fun q => absurd (((tm).symm.trans (congrArg ty q.1)).trans tc73) (by decide))).trans lp70k1
                                  have s78 := (fh75 m 53 (fun q => absurd (((tm).symm.trans (congrArg ty q.1)).trans tc73) (by decide))).trans lp70k2
                                  have s79 := (fh75 m 54 (fun q => absurd (((tm).symm.trans (congrArg ty q.1)).trans tc73) (by decide))).trans ec73
                                  refine gz_s 1 (pc' := 162) (L' := [some (.ref m), some (.int (zi a)), some (.int (zi b)), some (.int (zi t)), some (.int (zi 1)), some (.int (zi z18)), some (.int (zi kb))]) (S' := [.ref m]) rfl ?_
                                  refine gs_gtr rfl (by decide) rfl sh75.1 tm rfl rfl rfl (fun c80 ec80 tc80 => ?_)
                                  refine gz_s 1 (pc' := 166) (L' := [some (.ref m), some (.int (zi a)), some (.int (zi b)), some (.int (zi t)), some (.int (zi 1)), some (.int (zi z18)), some (.int (zi kb))]) (S' := [.ref m, .ref c80]) rfl ?_
                                  refine gs_gtk rfl (by decide) rfl sh75.1 tm rfl rfl s78 ?_
                                  refine gz_s 1 (pc' := 170) (L' := [some (.ref m), some (.int (zi a)), some (.int (zi b)), some (.int (zi t)), some (.int (zi 1)), some (.int (zi z18)), some (.int (zi kb))]) (S' := [.int (zi b), .int (zi z12), .ref c80]) rfl ?_
                                  have hl81 : 10 ≤ h75.2.2.2.1 c80 ∧ h75.2.2.2.1 c80 ≤ 10 := gJ.rowl (G := gGG) sh75.1 tc80 rfl
                                  refine gs_ast rfl (by decide) sh75 tc80 rfl rfl rfl (by decide) (fun _ => rfl) (by omega) (by omega) (fun _ => (by decide : (28999 : Nat) ∈ ([1000, 1053, 27999, 28999, 29999, 30999, 31999] : List Nat))) (by omega) (by omega) (fun h82 sh82 eh82 fh82 => ?_)
                                  have s83 := (fh82 m 0 (fun q => absurd (((tm).symm.trans (congrArg ty q.1)).trans tc80) (by decide))).trans s76
                                  have s84 := (fh82 m 58 (fun q => absurd (((tm).symm.trans (congrArg ty q.1)).trans tc80) (by decide))).trans s77
                                  have s85 := (fh82 m 53 (fun q => absurd (((tm).symm.trans (congrArg ty q.1)).trans tc80) (by decide))).trans s78
                                  have s86 := (fh82 m 54 (fun q => absurd (((tm).symm.trans (congrArg ty q.1)).trans tc80) (by decide))).trans s79
                                  have s87 := (fh82 m 55 (fun q => absurd (((tm).symm.trans (congrArg ty q.1)).trans tc80) (by decide))).trans ec80
                                  refine gz_s 1 (pc' := 172) (L' := [some (.ref m), some (.int (zi a)), some (.int (zi b)), some (.int (zi t)), some (.int (zi 1)), some (.int (zi z18)), some (.int (zi kb))]) (S' := [.ref m]) rfl ?_
                                  refine gs_gtr rfl (by decide) rfl sh82.1 tm rfl rfl rfl (fun c88 ec88 tc88 => ?_)
                                  refine gz_s 1 (pc' := 176) (L' := [some (.ref m), some (.int (zi a)), some (.int (zi b)), some (.int (zi t)), some (.int (zi 1)), some (.int (zi z18)), some (.int (zi kb))]) (S' := [.ref m, .ref c88]) rfl ?_
                                  refine gs_gtk rfl (by decide) rfl sh82.1 tm rfl rfl s85 ?_
                                  refine gz_s 2 (pc' := 182) (L' := [some (.ref m), some (.int (zi a)), some (.int (zi b)), some (.int (zi t)), some (.int (zi 1)), some (.int (zi z18)), some (.int (zi kb))]) (S' := [.int (zi (-1)), .int (zi z18), .int (zi z12), .ref c88]) rfl ?_
                                  refine gy_icT (pc' := 189) rfl (by decide) (by decide) (by omega) (by omega) (by first | (simp [zc]; done) | (simp only [zc]; omega)) ?_
                                  refine gz_s 1 (pc' := 191) (L' := [some (.ref m), some (.int (zi a)), some (.int (zi b)), some (.int (zi t)), some (.int (zi 1)), some (.int (zi z18)), some (.int (zi kb))]) (S' := [.int (zi z18), .int (zi z12), .ref c88]) rfl ?_
                                  have hl89 : 10 ≤ h82.2.2.2.1 c88 ∧ h82.2.2.2.1 c88 ≤ 10 := gJ.rowl (G := gGG) sh82.1 tc88 rfl
                                  refine gs_ast rfl (by decide) sh82 tc88 rfl rfl rfl (by decide) (fun _ => rfl) (by omega) (by omega) (fun _ => (by decide : (29999 : Nat) ∈ ([1000, 1053, 27999, 28999, 29999, 30999, 31999] : List Nat))) (by omega) (by omega) (fun h90 sh90 eh90 fh90 => ?_)
                                  have s91 := (fh90 m 0 (fun q => absurd (((tm).symm.trans (congrArg ty q.1)).trans tc88) (by decide))).trans s83
                                  have s92 := (fh90 m 58 (fun q => absurd (((tm).symm.trans (congrArg ty q.1)).trans tc88) (by decide))).trans s84
                                  have s93 := (fh90 m 53 (fun q => absurd (((tm).symm.trans (congrArg ty q.1)).trans tc88) (by decide))).trans s85
                                  have s94 := (fh90 m 54 (fun q => absurd (((tm).symm.trans (congrArg ty q.1)).trans tc88) (by decide))).trans s86
                                  have s95 := (fh90 m 55 (fun q => absurd (((tm).symm.trans (congrArg ty q.1)).trans tc88) (by decide))).trans s87
                                  have s96 := (fh90 m 56 (fun q => absurd (((tm).symm.trans (congrArg ty q.1)).trans tc88) (by decide))).trans ec88
                                  refine gz_s 1 (pc' := 193) (L' := [some (.ref m), some (.int (zi a)), some (.int (zi b)), some (.int (zi t)), some (.int (zi 1)), some (.int (zi z18)), some (.int (zi kb))]) (S' := [.ref m]) rfl ?_
                                  refine gs_gtr rfl (by decide) rfl sh90.1 tm rfl rfl rfl (fun c97 ec97 tc97 => ?_)
                                  refine gz_s 1 (pc' := 197) (L' := [some (.ref m), some (.int (zi a)), some (.int (zi b)), some (.int (zi t)), some (.int (zi 1)), some (.int (zi z18)), some (.int (zi kb))]) (S' := [.ref m, .ref c97]) rfl ?_
                                  refine gs_gtk rfl (by decide) rfl sh90.1 tm rfl rfl s93 ?_
                                  refine gz_s 1 (pc' := 201) (L' := [some (.ref m), some (.int (zi a)), some (.int (zi b)), some (.int (zi t)), some (.int (zi 1)), some (.int (zi z18)), some (.int (zi kb))]) (S' := [.int (zi t), .int (zi z12), .ref c97]) rfl ?_
                                  have hl98 : 10 ≤ h90.2.2.2.1 c97 ∧ h90.2.2.2.1 c97 ≤ 10 := gJ.rowl (G := gGG) sh90.1 tc97 rfl
                                  refine gs_ast rfl (by decide) sh90 tc97 rfl rfl rfl (by decide) (fun _ => rfl) (by omega) (by omega) (fun _ => (by decide : (30999 : Nat) ∈ ([1000, 1053, 27999, 28999, 29999, 30999, 31999] : List Nat))) (by omega) (by omega) (fun h99 sh99 eh99 fh99 => ?_)
                                  have s100 := (fh99 m 0 (fun q => absurd (((tm).symm.trans (congrArg ty q.1)).trans tc97) (by decide))).trans s91
                                  have s101 := (fh99 m 58 (fun q => absurd (((tm).symm.trans (congrArg ty q.1)).trans tc97) (by decide))).trans s92
                                  have s102 := (fh99 m 53 (fun q => absurd (((tm).symm.trans (congrArg ty q.1)).trans tc97) (by decide))).trans s93
                                  have s103 := (fh99 m 54 (fun q => absurd (((tm).symm.trans (congrArg ty q.1)).trans tc97) (by decide))).trans s94
                                  have s104 := (fh99 m 55 (fun q => absurd (((tm).symm.trans (congrArg ty q.1)).trans tc97) (by decide))).trans s95
                                  have s105 := (fh99 m 56 (fun q => absurd (((tm).symm.trans (congrArg ty q.1)).trans tc97) (by decide))).trans s96
                                  have s106 := (fh99 m 57 (fun q => absurd (((tm).symm.trans (congrArg ty q.1)).trans tc97) (by decide))).trans ec97
                                  refine gz_s 2 (pc' := 204) (L' := [some (.ref m), some (.int (zi a)), some (.int (zi b)), some (.int (zi t)), some (.int (zi 1)), some (.int (zi z18)), some (.int (zi kb))]) (S' := [.ref m, .ref m]) rfl ?_
                                  refine gs_gtk rfl (by decide) rfl sh99.1 tm rfl rfl s102 ?_
                                  refine gy_s 2 (pc' := 209) (L' := [some (.ref m), some (.int (zi a)), some (.int (zi b)), some (.int (zi t)), some (.int (zi 1)), some (.int (zi z18)), some (.int (zi kb))]) (S' := [.int ((zi z12) + (zi 1)), .ref m]) (L2 := [some (.ref m), some (.int (zi a)), some (.int (zi b)), some (.int (zi t)), some (.int (zi 1)), some (.int (zi z18)), some (.int (zi kb))]) (S2 := [.int (zi (z12 + 1)), .ref m]) rfl (by simp only [zi_add, zi_sub, zi_mul, zi_neg, zi_and1, zi_and7, zi_and15, zi_and31, zi_and255]) (by simp only [zi_add, zi_sub, zi_mul, zi_neg, zi_and1, zi_and7, zi_and15, zi_and31, zi_and255]) ?_
                                  refine gs_put rfl (by decide) rfl sh99 tm rfl rfl rfl rfl (Or.inl rfl) (by decide) (by omega) (by omega) (fun h107 sh107 eh107 fh107 => ?_)
                                  have s108 := (fh107 m 0 (fun q => absurd q.2 (by decide))).trans s100
                                  have s109 := (fh107 m 58 (fun q => absurd q.2 (by decide))).trans s101
                                  have s110 := (fh107 m 54 (fun q => absurd q.2 (by decide))).trans s103
                                  have s111 := (fh107 m 55 (fun q => absurd q.2 (by decide))).trans s104
                                  have s112 := (fh107 m 56 (fun q => absurd q.2 (by decide))).trans s105
                                  have s113 := (fh107 m 57 (fun q => absurd q.2 (by decide))).trans s106
                                  refine gz_s 1 (pc' := 213) (L' := [some (.ref m), some (.int (zi a)), some (.int (zi b)), some (.int (zi t)), some (.int (zi 1)), some (.int (zi z18)), some (.int (zi kb))]) (S' := [.ref m]) rfl ?_
                                  refine gs_gtk rfl (by decide) rfl sh107.1 tm rfl rfl eh107 ?_
                                  exact gz_end (I := .ireturn) (len := 1) rfl (Or.inl rfl) ⟨sh107, z12 + 1, rfl, (by omega), (by omega)⟩
                                · refine gy_icF rfl (by decide) (by decide) (by omega) (by omega) hc72 ?_
                                  refine gz_s 1 (pc' := 138) (L' := [some (.ref m), some (.int (zi a)), some (.int (zi b)), some (.int (zi t)), some (.int (zi 1)), some (.int (zi z18)), some (.int (zi kb))]) (S' := [.ref m]) rfl ?_
                                  refine gs_gtk rfl (by decide) rfl sh71.1 tm rfl rfl lp70k1 ?_
                                  refine gz_s 2 (pc' := 144) (L' := [some (.ref m), some (.int (zi a)), some (.int (zi b)), some (.int (zi t)), some (.int (zi 1)), some (.int (zi z18)), some (.int (zi kb))]) (S' := [.int (zi t), .int (zi kb), .ref c6]) rfl ?_
                                  have hl114 : 64 ≤ h71.2.2.2.1 c6 ∧ h71.2.2.2.1 c6 ≤ 64 := gJ.rowl (G := gGG) sh71.1 tc6 rfl
                                  refine gs_ast rfl (by decide) sh71 tc6 rfl rfl rfl (by decide) (fun _ => rfl) (by omega) (by omega) (fun _ => (by decide : (31999 : Nat) ∈ ([1000, 1053, 27999, 28999, 29999, 30999, 31999] : List Nat))) (by omega) (by omega) (fun h115 sh115 eh115 fh115 => ?_)
                                  have s116 := (fh115 m 0 (fun q => absurd (((tm).symm.trans (congrArg ty q.1)).trans tc6) (by decide))).trans lp70k0
                                  have s117 := (fh115 m 58 (fun q => absurd (((tm).symm.trans (congrArg ty q.1)).trans tc6) (by decide))).trans lp70k1
                                  have s118 := (fh115 m 53 (fun q => absurd (((tm).symm.trans (congrArg ty q.1)).trans tc6) (by decide))).trans lp70k2
                                  refine gy_s 2 (pc' := 131) (L' := [some (.ref m), some (.int (zi a)), some (.int (zi b)), some (.int (zi t)), some (.int (zi 1)), some (.int (zi z18)), some (.int ((zi kb) + zi 1))]) (S' := []) (L2 := [some (.ref m), some (.int (zi a)), some (.int (zi b)), some (.int (zi t)), some (.int (zi 1)), some (.int (zi z18)), some (.int (zi (kb + 1)))]) (S2 := []) rfl (by simp only [zi_add, zi_sub, zi_mul, zi_neg, zi_and1, zi_and7, zi_and15, zi_and31, zi_and255]) (by simp only [zi_add, zi_sub, zi_mul, zi_neg, zi_and1, zi_and7, zi_and15, zi_and31, zi_and255]) ?_
                                  exact gz_wk (ihlp70 h115 (kb + 1) (by omega) sh115 (by omega) (by omega) s116 s117 s118) (gLw.s (gLw.s (gLw.s (gLw.s (gLw.s (gLw.s (gLw.s gLw.z)))))))
                            exact gz_wk (lp70 _ h15 a (Nat.lt_succ_self _) sh15 (by omega) (by omega) lp14k0 lp14k1 lp14k2) (gLw.s (gLw.s (gLw.s (gLw.s (gLw.s (gLw.s (gLw.s gLw.z)))))))
                          · refine gy_icF rfl (by decide) (by decide) (by omega) (by omega) hc69 ?_
                            refine gz_s 1 (pc' := 127) (L' := [some (.ref m), some (.int (zi a)), some (.int (zi b)), some (.int (zi t)), some (.int (zi 1)), some (.int (zi z18)), none]) (S' := [.int (zi 0)]) rfl ?_
                            exact gz_end (I := .ireturn) (len := 1) rfl (Or.inl rfl) ⟨sh15, 0, rfl, (by omega), (by omega)⟩
                      · refine gy_icF rfl (by decide) (by decide) (by omega) (by omega) hc16 ?_
                        refine gz_s 1 (pc' := 81) (L' := [some (.ref m), some (.int (zi a)), some (.int (zi b)), some (.int (zi t)), some (.int (zi 1)), some (.int (zi k)), none]) (S' := [.ref m]) rfl ?_
                        refine gs_gtk rfl (by decide) rfl sh15.1 tm rfl rfl lp14k1 ?_
                        refine gz_s 1 (pc' := 86) (L' := [some (.ref m), some (.int (zi a)), some (.int (zi b)), some (.int (zi t)), some (.int (zi 1)), some (.int (zi k)), none]) (S' := [.int (zi k), .ref c6]) rfl ?_
                        have hl119 : 64 ≤ h15.2.2.2.1 c6 ∧ h15.2.2.2.1 c6 ≤ 64 := gJ.rowl (G := gGG) sh15.1 tc6 rfl
                        refine gs_ald rfl (by decide) sh15.1 tc6 rfl rfl rfl (by decide) (fun _ => rfl) (by omega) (by omega) (fun z120 ez120 az120 bz120 => ?_)
                        refine gz_s 1 (pc' := 88) (L' := [some (.ref m), some (.int (zi a)), some (.int (zi b)), some (.int (zi t)), some (.int (zi 1)), some (.int (zi k)), none]) (S' := [.ref m, .int (zi z120)]) rfl ?_
                        refine gs_gtk rfl (by decide) rfl sh15.1 tm rfl rfl lp14k1 ?_
                        refine gz_s 1 (pc' := 92) (L' := [some (.ref m), some (.int (zi a)), some (.int (zi b)), some (.int (zi t)), some (.int (zi 1)), some (.int (zi k)), none]) (S' := [.int (zi a), .ref c6, .int (zi z120)]) rfl ?_
                        have hl121 : 64 ≤ h15.2.2.2.1 c6 ∧ h15.2.2.2.1 c6 ≤ 64 := gJ.rowl (G := gGG) sh15.1 tc6 rfl
                        refine gs_ald rfl (by decide) sh15.1 tc6 rfl rfl rfl (by decide) (fun _ => rfl) (by omega) (by omega) (fun z122 ez122 az122 bz122 => ?_)
                        by_cases hc123 : (z120 : Int) = z122
                        · refine gy_icT (pc' := 98) rfl (by decide) (by decide) (by omega) (by omega) hc123 ?_
                          refine gy_s 2 (pc' := 74) (L' := [some (.ref m), some (.int (zi a)), some (.int (zi b)), some (.int (zi t)), some (.int (zi 1)), some (.int ((zi k) + zi 1)), none]) (S' := []) (L2 := [some (.ref m), some (.int (zi a)), some (.int (zi b)), some (.int (zi t)), some (.int (zi 1)), some (.int (zi (k + 1))), none]) (S2 := []) rfl (by simp only [zi_add, zi_sub, zi_mul, zi_neg, zi_and1, zi_and7, zi_and15, zi_and31, zi_and255]) (by simp only [zi_add, zi_sub, zi_mul, zi_neg, zi_and1, zi_and7, zi_and15, zi_and31, zi_and255]) ?_
                          exact gz_wk (ihlp14 h15 (k + 1) (by omega) sh15 (by omega) (by omega) lp14k0 lp14k1 lp14k2) (gLw.s (gLw.s (gLw.s (gLw.s (gLw.s (gLw.s (gLw.n gLw.z)))))))
                        · refine gy_icF rfl (by decide) (by decide) (by omega) (by omega) hc123 ?_
                          refine gz_s 1 (pc' := 97) (L' := [some (.ref m), some (.int (zi a)), some (.int (zi b)), some (.int (zi t)), some (.int (zi 1)), some (.int (zi k)), none]) (S' := [.int (zi 0)]) rfl ?_
                          exact gz_end (I := .ireturn) (len := 1) rfl (Or.inl rfl) ⟨sh15, 0, rfl, (by omega), (by omega)⟩
                  exact gz_wk (lp14 _ h1 a (Nat.lt_succ_self _) sh1 (by omega) (by omega) eh1 ec6 ez12) (gLw.s (gLw.s (gLw.s (gLw.s (gLw.s (gLw.s (gLw.n gLw.z)))))))
                · refine gy_icF rfl (by decide) (by decide) (by omega) (by omega) hc13 ?_
                  refine gz_s 1 (pc' := 70) (L' := [some (.ref m), some (.int (zi a)), some (.int (zi b)), some (.int (zi t)), some (.int (zi 1)), none, none]) (S' := [.int (zi 0)]) rfl ?_
                  exact gz_end (I := .ireturn) (len := 1) rfl (Or.inl rfl) ⟨sh1, 0, rfl, (by omega), (by omega)⟩
  · refine gy_ifF rfl (by decide) (by decide) (by omega) hc2 ?_
    refine gz_s 1 (pc' := 10) (L' := [some (.ref m), some (.int (zi a)), some (.int (zi b)), some (.int (zi t)), none, none, none]) (S' := [.int (zi b)]) rfl ?_
    by_cases hc124 : (b : Int) = 0
    · refine gy_ifT (pc' := 39) rfl (by decide) (by decide) (by omega) hc124 ?_
      refine gz_s 4 (pc' := 48) (L' := [some (.ref m), some (.int (zi a)), some (.int (zi b)), some (.int (zi t)), some (.int (zi 1)), none, none]) (S' := [.int (zi 1)]) rfl ?_
      refine gy_ifF rfl (by decide) (by decide) (by omega) (by first | (simp [zc]; done) | (simp only [zc]; omega)) ?_
      refine gz_s 1 (pc' := 52) (L' := [some (.ref m), some (.int (zi a)), some (.int (zi b)), some (.int (zi t)), some (.int (zi 1)), none, none]) (S' := [.int (zi t)]) rfl ?_
      by_cases hc125 : (t : Int) < 0
      · refine gy_ifT (pc' := 69) rfl (by decide) (by decide) (by omega) hc125 ?_
        refine gz_s 1 (pc' := 70) (L' := [some (.ref m), some (.int (zi a)), some (.int (zi b)), some (.int (zi t)), some (.int (zi 1)), none, none]) (S' := [.int (zi 0)]) rfl ?_
        exact gz_end (I := .ireturn) (len := 1) rfl (Or.inl rfl) ⟨sh1, 0, rfl, (by omega), (by omega)⟩
      · refine gy_ifF rfl (by decide) (by decide) (by omega) hc125 ?_
        refine gz_s 2 (pc' := 57) (L' := [some (.ref m), some (.int (zi a)), some (.int (zi b)), some (.int (zi t)), some (.int (zi 1)), none, none]) (S' := [.int (zi 3), .int (zi t)]) rfl ?_
        by_cases hc126 : (3 : Int) < t
        · refine gy_icT (pc' := 69) rfl (by decide) (by decide) (by omega) (by omega) hc126 ?_
          refine gz_s 1 (pc' := 70) (L' := [some (.ref m), some (.int (zi a)), some (.int (zi b)), some (.int (zi t)), some (.int (zi 1)), none, none]) (S' := [.int (zi 0)]) rfl ?_
          exact gz_end (I := .ireturn) (len := 1) rfl (Or.inl rfl) ⟨sh1, 0, rfl, (by omega), (by omega)⟩
        · refine gy_icF rfl (by decide) (by decide) (by omega) (by omega) hc126 ?_
          refine gz_s 1 (pc' := 61) (L' := [some (.ref m), some (.int (zi a)), some (.int (zi b)), some (.int (zi t)), some (.int (zi 1)), none, none]) (S' := [.ref m]) rfl ?_
          refine gs_get rfl (by decide) rfl sh1.1 tm rfl rfl rfl (fun z127 ez127 az127 bz127 => ?_)
          refine gz_s 1 (pc' := 66) (L' := [some (.ref m), some (.int (zi a)), some (.int (zi b)), some (.int (zi t)), some (.int (zi 1)), none, none]) (S' := [.int (zi 10), .int (zi z127)]) rfl ?_
          by_cases hc128 : ¬ (z127 : Int) = 10
          · refine gy_icT (pc' := 71) rfl (by decide) (by decide) (by omega) (by omega) hc128 ?_
            refine gz_s 2 (pc' := 74) (L' := [some (.ref m), some (.int (zi a)), some (.int (zi b)), some (.int (zi t)), some (.int (zi 1)), some (.int (zi a)), none]) (S' := []) rfl ?_
            have lp129 : ∀ (fu : Nat) (h130 : gH) (k : Int), (65 - k).toNat < fu → gSs rT 1027 ty [1000, 1053, 27999, 28999, 29999, 30999, 31999] h h130 → (0 ≤ k ∧ k ≤ 64) → (a ≤ k) → h130.2.2.2.2 m 0 = .int (zi 0) → h130.2.2.2.2 m 53 = .int (zi z127) → gz gPP gGG gcn (d + 0) gt182 74 [some (.ref m), some (.int (zi a)), some (.int (zi b)), some (.int (zi t)), some (.int (zi 1)), some (.int (zi k)), none] [] h130 (fun q _ => gSs rT 1027 ty [1000, 1053, 27999, 28999, 29999, 30999, 31999] h q.2.2 ∧ ∃ z : Int, gfin gt182 q.1 q.2.1 = some (some (.int (zi z))) ∧ 0 ≤ z ∧ z ≤ 10) := by
              intro fu
              induction fu with
              | zero => intro h130 k hm; exact absurd hm (Nat.not_lt_zero _)
              | succ fu ihlp129 =>
                intro h130 k lp129m sh130 lp129f0 lp129f1 lp129k0 lp129k1
                refine gz_s 2 (pc' := 77) (L' := [some (.ref m), some (.int (zi a)), some (.int (zi b)), some (.int (zi t)), some (.int (zi 1)), some (.int (zi k)), none]) (S' := [.int (zi b), .int (zi k)]) rfl ?_
                by_cases hc131 : (b : Int) < k
                · refine gy_icT (pc' := 104) rfl (by decide) (by decide) (by omega) (by omega) hc131 ?_
                  refine gz_s 1 (pc' := 105) (L' := [some (.ref m), some (.int (zi a)), some (.int (zi b)), some (.int (zi t)), some (.int (zi 1)), some (.int (zi k)), none]) (S' := [.ref m]) rfl ?_
                  refine gs_gtr rfl (by decide) rfl sh130.1 tm rfl rfl rfl (fun c132 ec132 tc132 => ?_)
                  refine gz_s 1 (pc' := 109) (L' := [some (.ref m), some (.int (zi a)), some (.int (zi b)), some (.int (zi t)), some (.int (zi 1)), some (.int (zi k)), none]) (S' := [.int (zi a), .ref c132]) rfl ?_
                  have hl133 : 64 ≤ h130.2.2.2.1 c132 ∧ h130.2.2.2.1 c132 ≤ 64 := gJ.rowl (G := gGG) sh130.1 tc132 rfl
                  refine gs_ald rfl (by decide) sh130.1 tc132 rfl rfl rfl (by decide) (fun _ => rfl) (by omega) (by omega) (fun z134 ez134 az134 bz134 => ?_)
                  refine gz_s 3 (pc' := 115) (L' := [some (.ref m), some (.int (zi a)), some (.int (zi b)), some (.int (zi t)), some (.int (zi 1)), some (.int (zi z134)), none]) (S' := [.int (zi (-1)), .int (zi z134)]) rfl ?_
                  by_cases hc135 : (z134 : Int) = (-1)
                  · refine gy_icT (pc' := 128) rfl (by decide) (by decide) (by omega) (by omega) hc135 ?_
                    refine gz_s 2 (pc' := 131) (L' := [some (.ref m), some (.int (zi a)), some (.int (zi b)), some (.int (zi t)), some (.int (zi 1)), some (.int (zi z134)), some (.int (zi a))]) (S' := []) rfl ?_
                    have lp136 : ∀ (fu : Nat) (h137 : gH) (kb : Int), (65 - kb).toNat < fu → gSs rT 1027 ty [1000, 1053, 27999, 28999, 29999, 30999, 31999] h h137 → (0 ≤ kb ∧ kb ≤ 64) → (a ≤ kb) → h137.2.2.2.2 m 0 = .int (zi 0) → h137.2.2.2.2 m 53 = .int (zi z127) → h137.2.2.2.2 m 58 = .ref c132 → gz gPP gGG gcn (d + 0) gt182 131 [some (.ref m), some (.int (zi a)), some (.int (zi b)), some (.int (zi t)), some (.int (zi 1)), some (.int (zi z134)), some (.int (zi kb))] [] h137 (fun q _ => gSs rT 1027 ty [1000, 1053, 27999, 28999, 29999, 30999, 31999] h q.2.2 ∧ ∃ z : Int, gfin gt182 q.1 q.2.1 = some (some (.int (zi z))) ∧ 0 ≤ z ∧ z ≤ 10) := by
                      intro fu
                      induction fu with
                      | zero => intro h137 kb hm; exact absurd hm (Nat.not_lt_zero _)
                      | succ fu ihlp136 =>
                        intro h137 kb lp136m sh137 lp136f0 lp136f1 lp136k0 lp136k1 lp136k2
                        refine gz_s 2 (pc' := 134) (L' := [some (.ref m), some (.int (zi a)), some (.int (zi b)), some (.int (zi t)), some (.int (zi 1)), some (.int (zi z134)), some (.int (zi kb))]) (S' := [.int (zi b), .int (zi kb)]) rfl ?_
                        by_cases hc138 : (b : Int) < kb
                        · refine gy_icT (pc' := 151) rfl (by decide) (by decide) (by omega) (by omega) hc138 ?_
                          refine gz_s 1 (pc' := 152) (L' := [some (.ref m), some (.int (zi a)), some (.int (zi b)), some (.int (zi t)), some (.int (zi 1)), some (.int (zi z134)), some (.int (zi kb))]) (S' := [.ref m]) rfl ?_
                          refine gs_gtr rfl (by decide) rfl sh137.1 tm rfl rfl rfl (fun c139 ec139 tc139 => ?_)
                          refine gz_s 1 (pc' := 156) (L' := [some (.ref m), some (.int (zi a)), some (.int (zi b)), some (.int (zi t)), some (.int (zi 1)), some (.int (zi z134)), some (.int (zi kb))]) (S' := [.ref m, .ref c139]) rfl ?_
                          refine gs_gtk rfl (by decide) rfl sh137.1 tm rfl rfl lp136k1 ?_
                          refine gz_s 1 (pc' := 160) (L' := [some (.ref m), some (.int (zi a)), some (.int (zi b)), some (.int (zi t)), some (.int (zi 1)), some (.int (zi z134)), some (.int (zi kb))]) (S' := [.int (zi a), .int (zi z127), .ref c139]) rfl ?_
                          have hl140 : 10 ≤ h137.2.2.2.1 c139 ∧ h137.2.2.2.1 c139 ≤ 10 := gJ.rowl (G := gGG) sh137.1 tc139 rfl
                          refine gs_ast rfl (by decide) sh137 tc139 rfl rfl rfl (by decide) (fun _ => rfl) (by omega) (by omega) (fun _ => (by decide : (27999 : Nat) ∈ ([1000, 1053, 27999, 28999, 29999, 30999, 31999] : List Nat))) (by omega) (by omega) (fun h141 sh141 eh141 fh141 => ?_)
                          have s142 := (fh141 m 0 (fun q => absurd (((tm).symm.trans (congrArg ty q.1)).trans tc139) (by decide))).trans lp136k0
                          have s143 := (fh141 m 53 (fun q => absurd (((tm).symm.trans (congrArg ty q.1)).trans tc139) (by decide))).trans lp136k1
                          have s144 := (fh141 m 58 (fun q => absurd (((tm).symm.trans (congrArg ty q.1)).trans tc139) (by decide))).trans lp136k2
                          have s145 := (fh141 m 54 (fun q => absurd (((tm).symm.trans (congrArg ty q.1)).trans tc139) (by decide))).trans ec139
                          refine gz_s 1 (pc' := 162) (L' := [some (.ref m), some (.int (zi a)), some (.int (zi b)), some (.int (zi t)), some (.int (zi 1)), some (.int (zi z134)), some (.int (zi kb))]) (S' := [.ref m]) rfl ?_
                          refine gs_gtr rfl (by decide) rfl sh141.1 tm rfl rfl rfl (fun c146 ec146 tc146 => ?_)
                          refine gz_s 1 (pc' := 166) (L' := [some (.ref m), some (.int (zi a)), some (.int (zi b)), some (.int (zi t)), some (.int (zi 1)), some (.int (zi z134)), some (.int (zi kb))]) (S' := [.ref m, .ref c146]) rfl ?_
                          refine gs_gtk rfl (by decide) rfl sh141.1 tm rfl rfl s143 ?_
                          refine gz_s 1 (pc' := 170) (L' := [some (.ref m), some (.int (zi a)), some (.int (zi b)), some (.int (zi t)), some (.int (zi 1)), some (.int (zi z134)), some (.int (zi kb))]) (S' := [.int (zi b), .int (zi z127), .ref c146]) rfl ?_
                          have hl147 : 10 ≤ h141.2.2.2.1 c146 ∧ h141.2.2.2.1 c146 ≤ 10 := gJ.rowl (G := gGG) sh141.1 tc146 rfl
                          refine gs_ast rfl (by decide) sh141 tc146 rfl rfl rfl (by decide) (fun _ => rfl) (by omega) (by omega) (fun _ => (by decide : (28999 : Nat) ∈ ([1000, 1053, 27999, 28999, 29999, 30999, 31999] : List Nat))) (by omega) (by omega) (fun h148 sh148 eh148 fh148 => ?_)
                          have s149 := (fh148 m 0 (fun q => absurd (((tm).symm.trans (congrArg ty q.1)).trans tc146) (by decide))).trans s142
                          have s150 := (fh148 m 53 (fun q => absurd (((tm).symm.trans (congrArg ty q.1)).trans tc146) (by decide))).trans s143
                          have s151 := (fh148 m 58 (fun q => absurd (((tm).symm.trans (congrArg ty q.1)).trans tc146) (by decide))).trans s144
                          have s152 := (fh148 m 54 (fun q => absurd (((tm).symm.trans (congrArg ty q.1)).trans tc146) (by decide))).trans s145
                          have s153 := (fh148 m 55 (fun q => absurd (((tm).symm.trans (congrArg ty q.1)).trans tc146) (by decide))).trans ec146
                          refine gz_s 1 (pc' := 172) (L' := [some (.ref m), some (.int (zi a)), some (.int (zi b)), some (.int (zi t)), some (.int (zi 1)), some (.int (zi z134)), some (.int (zi kb))]) (S' := [.ref m]) rfl ?_
                          refine gs_gtr rfl (by decide) rfl sh148.1 tm rfl rfl rfl (fun c154 ec154 tc154 => ?_)
                          refine gz_s 1 (pc' := 176) (L' := [some (.ref m), some (.int (zi a)), some (.int (zi b)), some (.int (zi t)), some (.int (zi 1)), some (.int (zi z134)), some (.int (zi kb))]) (S' := [.ref m, .ref c154]) rfl ?_
                          refine gs_gtk rfl (by decide) rfl sh148.1 tm rfl rfl s150 ?_
                          refine gz_s 2 (pc' := 182) (L' := [some (.ref m), some (.int (zi a)), some (.int (zi b)), some (.int (zi t)), some (.int (zi 1)), some (.int (zi z134)), some (.int (zi kb))]) (S' := [.int (zi (-1)), .int (zi z134), .int (zi z127), .ref c154]) rfl ?_
                          refine gy_icF rfl (by decide) (by decide) (by omega) (by omega) (by first | (simp [zc]; done) | (simp only [zc]; omega)) ?_
                          refine gz_s 2 (pc' := 191) (L' := [some (.ref m), some (.int (zi a)), some (.int (zi b)), some (.int (zi t)), some (.int (zi 1)), some (.int (zi z134)), some (.int (zi kb))]) (S' := [.int (zi 0), .int (zi z127), .ref c154]) rfl ?_
                          have hl155 : 10 ≤ h148.2.2.2.1 c154 ∧ h148.2.2.2.1 c154 ≤ 10 := gJ.rowl (G := gGG) sh148.1 tc154 rfl
                          refine gs_ast rfl (by decide) sh148 tc154 rfl rfl rfl (by decide) (fun _ => rfl) (by omega) (by omega) (fun _ => (by decide : (29999 : Nat) ∈ ([1000, 1053, 27999, 28999, 29999, 30999, 31999] : List Nat))) (by omega) (by omega) (fun h156 sh156 eh156 fh156 => ?_)
                          have s157 := (fh156 m 0 (fun q => absurd (((tm).symm.trans (congrArg ty q.1)).trans tc154) (by decide))).trans s149
                          have s158 := (fh156 m 53 (fun q => absurd (((tm).symm.trans (congrArg ty q.1)).trans tc154) (by decide))).trans s150
                          have s159 := (fh156 m 58 (fun q => absurd (((tm).symm.trans (congrArg ty q.1)).trans tc154) (by decide))).trans s151
                          have s160 := (fh156 m 54 (fun q => absurd (((tm).symm.trans (congrArg ty q.1)).trans tc154) (by decide))).trans s152
                          have s161 := (fh156 m 55 (fun q => absurd (((tm).symm.trans (congrArg ty q.1)).trans tc154) (by decide))).trans s153
                          have s162 := (fh156 m 56 (fun q => absurd (((tm).symm.trans (congrArg ty q.1)).trans tc154) (by decide))).trans ec154
                          refine gz_s 1 (pc' := 193) (L' := [some (.ref m), some (.int (zi a)), some (.int (zi b)), some (.int (zi t)), some (.int (zi 1)), some (.int (zi z134)), some (.int (zi kb))]) (S' := [.ref m]) rfl ?_
                          refine gs_gtr rfl (by decide) rfl sh156.1 tm rfl rfl rfl (fun c163 ec163 tc163 => ?_)
                          refine gz_s 1 (pc' := 197) (L' := [some (.ref m), some (.int (zi a)), some (.int (zi b)), some (.int (zi t)), some (.int (zi 1)), some (.int (zi z134)), some (.int (zi kb))]) (S' := [.ref m, .ref c163]) rfl ?_
                          refine gs_gtk rfl (by decide) rfl sh156.1 tm rfl rfl s158 ?_
                          refine gz_s 1 (pc' := 201) (L' := [some (.ref m), some (.int (zi a)), some (.int (zi b)), some (.int (zi t)), some (.int (zi 1)), some (.int (zi z134)), some (.int (zi kb))]) (S' := [.int (zi t), .int (zi z127), .ref c163]) rfl ?_
                          have hl164 : 10 ≤ h156.2.2.2.1 c163 ∧ h156.2.2.2.1 c163 ≤ 10 := gJ.rowl (G := gGG) sh156.1 tc163 rfl
                          refine gs_ast rfl (by decide) sh156 tc163 rfl rfl rfl (by decide) (fun _ => rfl) (by omega) (by omega) (fun _ => (by decide : (30999 : Nat) ∈ ([1000, 1053, 27999, 28999, 29999, 30999, 31999] : List Nat))) (by omega) (by omega) (fun h165 sh165 eh165 fh165 => ?_)
                          have s166 := (fh165 m 0 (fun q => absurd (((tm).symm.trans (congrArg ty q.1)).trans tc163) (by decide))).trans s157
                          have s167 := (fh165 m 53 (fun q => absurd (((tm).symm.trans (congrArg ty q.1)).trans tc163) (by decide))).trans s158
                          have s168 := (fh165 m 58 (fun q => absurd (((tm).symm.trans (congrArg ty q.1)).trans tc163) (by decide))).trans s159
                          have s169 := (fh165 m 54 (fun q => absurd (((tm).symm.trans (congrArg ty q.1)).trans tc163) (by decide))).trans s160
                          have s170 := (fh165 m 55 (fun q => absurd (((tm).symm.trans (congrArg ty q.1)).trans tc163) (by decide))).trans s161
                          have s171 := (fh165 m 56 (fun q => absurd (((tm).symm.trans (congrArg ty q.1)).trans tc163) (by decide))).trans s162
                          have s172 := (fh165 m 57 (fun q => absurd (((tm).symm.trans (congrArg ty q.1)).trans tc163) (by decide))).trans ec163
                          refine gz_s 2 (pc' := 204) (L' := [some (.ref m), some (.int (zi a)), some (.int (zi b)), some (.int (zi t)), some (.int (zi 1)), some (.int (zi z134)), some (.int (zi kb))]) (S' := [.ref m, .ref m]) rfl ?_
                          refine gs_gtk rfl (by decide) rfl sh165.1 tm rfl rfl s167 ?_
                          refine gy_s 2 (pc' := 209) (L' := [some (.ref m), some (.int (zi a)), some (.int (zi b)), some (.int (zi t)), some (.int (zi 1)), some (.int (zi z134)), some (.int (zi kb))]) (S' := [.int ((zi z127) + (zi 1)), .ref m]) (L2 := [some (.ref m), some (.int (zi a)), some (.int (zi b)), some (.int (zi t)), some (.int (zi 1)), some (.int (zi z134)), some (.int (zi kb))]) (S2 := [.int (zi (z127 + 1)), .ref m]) rfl (by simp only [zi_add, zi_sub, zi_mul, zi_neg, zi_and1, zi_and7, zi_and15, zi_and31, zi_and255]) (by simp only [zi_add, zi_sub, zi_mul, zi_neg, zi_and1, zi_and7, zi_and15, zi_and31, zi_and255]) ?_
                          refine gs_put rfl (by decide) rfl sh165 tm rfl rfl rfl rfl (Or.inl rfl) (by decide) (by omega) (by omega) (fun h173 sh173 eh173 fh173 => ?_)
                          have s174 := (fh173 m 0 (fun q => absurd q.2 (by decide))).trans s166
                          have s175 := (fh173 m 58 (fun q => absurd q.2 (by decide))).trans s168
                          have s176 := (fh173 m 54 (fun q => absurd q.2 (by decide))).trans s169
                          have s177 := (fh173 m 55 (fun q => absurd q.2 (by decide))).trans s170
                          have s178 := (fh173 m 56 (fun q => absurd q.2 (by decide))).trans s171
                          have s179 := (fh173 m 57 (fun q => absurd q.2 (by decide))).trans s172
                          refine gz_s 1 (pc' := 213) (L' := [some (.ref m), some (.int (zi a)), some (.int (zi b)), some (.int (zi t)), some (.int (zi 1)), some (.int (zi z134)), some (.int (zi kb))]) (S' := [.ref m]) rfl ?_
                          refine gs_gtk rfl (by decide) rfl sh173.1 tm rfl rfl eh173 ?_
                          exact gz_end (I := .ireturn) (len := 1) rfl (Or.inl rfl) ⟨sh173, z127 + 1, rfl, (by omega), (by omega)⟩
                        · refine gy_icF rfl (by decide) (by decide) (by omega) (by omega) hc138 ?_
                          refine gz_s 1 (pc' := 138) (L' := [some (.ref m), some (.int (zi a)), some (.int (zi b)), some (.int (zi t)), some (.int (zi 1)), some (.int (zi z134)), some (.int (zi kb))]) (S' := [.ref m]) rfl ?_
                          refine gs_gtk rfl (by decide) rfl sh137.1 tm rfl rfl lp136k2 ?_
                          refine gz_s 2 (pc' := 144) (L' := [some (.ref m), some (.int (zi a)), some (.int (zi b)), some (.int (zi t)), some (.int (zi 1)), some (.int (zi z134)), some (.int (zi kb))]) (S' := [.int (zi t), .int (zi kb), .ref c132]) rfl ?_
                          have hl180 : 64 ≤ h137.2.2.2.1 c132 ∧ h137.2.2.2.1 c132 ≤ 64 := gJ.rowl (G := gGG) sh137.1 tc132 rfl
                          refine gs_ast rfl (by decide) sh137 tc132 rfl rfl rfl (by decide) (fun _ => rfl) (by omega) (by omega) (fun _ => (by decide : (31999 : Nat) ∈ ([1000, 1053, 27999, 28999, 29999, 30999, 31999] : List Nat))) (by omega) (by omega) (fun h181 sh181 eh181 fh181 => ?_)
                          have s182 := (fh181 m 0 (fun q => absurd (((tm).symm.trans (congrArg ty q.1)).trans tc132) (by decide))).trans lp136k0
                          have s183 := (fh181 m 53 (fun q => absurd (((tm).symm.trans (congrArg ty q.1)).trans tc132) (by decide))).trans lp136k1
                          have s184 := (fh181 m 58 (fun q => absurd (((tm).symm.trans (congrArg ty q.1)).trans tc132) (by decide))).trans lp136k2
                          refine gy_s 2 (pc' := 131) (L' := [some (.ref m), some (.int (zi a)), some (.int (zi b)), some (.int (zi t)), some (.int (zi 1)), some (.int (zi z134)), some (.int ((zi kb) + zi 1))]) (S' := []) (L2 := [some (.ref m), some (.int (zi a)), some (.int (zi b)), some (.int (zi t)), some (.int (zi 1)), some (.int (zi z134)), some (.int (zi (kb + 1)))]) (S2 := []) rfl (by simp only [zi_add, zi_sub, zi_mul, zi_neg, zi_and1, zi_and7, zi_and15, zi_and31, zi_and255]) (by simp only [zi_add, zi_sub, zi_mul, zi_neg, zi_and1, zi_and7, zi_and15, zi_and31, zi_and255]) ?_
                          exact gz_wk (ihlp136 h181 (kb + 1) (by omega) sh181 (by omega) (by omega) s182 s183 s184) (gLw.s (gLw.s (gLw.s (gLw.s (gLw.s (gLw.s (gLw.s gLw.z)))))))
                    exact gz_wk (lp136 _ h130 a (Nat.lt_succ_self _) sh130 (by omega) (by omega) lp129k0 lp129k1 ec132) (gLw.s (gLw.s (gLw.s (gLw.s (gLw.s (gLw.s (gLw.s gLw.z)))))))
                  · refine gy_icF rfl (by decide) (by decide) (by omega) (by omega) hc135 ?_
                    refine gy_s 4 (pc' := 123) (L' := [some (.ref m), some (.int (zi a)), some (.int (zi b)), some (.int (zi t)), some (.int (zi 1)), some (.int (zi z134)), none]) (S' := [.int ((zi t) + (zi 1)), .int (zi z134)]) (L2 := [some (.ref m), some (.int (zi a)), some (.int (zi b)), some (.int (zi t)), some (.int (zi 1)), some (.int (zi z134)), none]) (S2 := [.int (zi (t + 1)), .int (zi z134)]) rfl (by simp only [zi_add, zi_sub, zi_mul, zi_neg, zi_and1, zi_and7, zi_and15, zi_and31, zi_and255]) (by simp only [zi_add, zi_sub, zi_mul, zi_neg, zi_and1, zi_and7, zi_and15, zi_and31, zi_and255]) ?_
                    by_cases hc185 : (z134 : Int) = t + 1
                    · refine gy_icT (pc' := 128) rfl (by decide) (by decide) (by omega) (by omega) hc185 ?_
                      refine gz_s 2 (pc' := 131) (L' := [some (.ref m), some (.int (zi a)), some (.int (zi b)), some (.int (zi t)), some (.int (zi 1)), some (.int (zi z134)), some (.int (zi a))]) (S' := []) rfl ?_
                      have lp186 : ∀ (fu : Nat) (h187 : gH) (kb : Int), (65 - kb).toNat < fu → gSs rT 1027 ty [1000, 1053, 27999, 28999, 29999, 30999, 31999] h h187 → (0 ≤ kb ∧ kb ≤ 64) → (a ≤ kb) → h187.2.2.2.2 m 0 = .int (zi 0) → h187.2.2.2.2 m 53 = .int (zi z127) → h187.2.2.2.2 m 58 = .ref c132 → gz gPP gGG gcn (d + 0) gt182 131 [some (.ref m), some (.int (zi a)), some (.int (zi b)), some (.int (zi t)), some (.int (zi 1)), some (.int (zi z134)), some (.int (zi kb))] [] h187 (fun q _ => gSs rT 1027 ty [1000, 1053, 27999, 28999, 29999, 30999, 31999] h q.2.2 ∧ ∃ z : Int, gfin gt182 q.1 q.2.1 = some (some (.int (zi z))) ∧ 0 ≤ z ∧ z ≤ 10) := by
                        intro fu
                        induction fu with
                        | zero => intro h187 kb hm; exact absurd hm (Nat.not_lt_zero _)
                        | succ fu ihlp186 =>
                          intro h187 kb lp186m sh187 lp186f0 lp186f1 lp186k0 lp186k1 lp186k2
                          refine gz_s 2 (pc' := 134) (L' := [some (.ref m), some (.int (zi a)), some (.int (zi b)), some (.int (zi t)), some (.int (zi 1)), some (.int (zi z134)), some (.int (zi kb))]) (S' := [.int (zi b), .int (zi kb)]) rfl ?_
                          by_cases hc188 : (b : Int) < kb
                          · refine gy_icT (pc' := 151) rfl (by decide) (by decide) (by omega) (by omega) hc188 ?_
                            refine gz_s 1 (pc' := 152) (L' := [some (.ref m), some (.int (zi a)), some (.int (zi b)), some (.int (zi t)), some (.int (zi 1)), some (.int (zi z134)), some (.int (zi kb))]) (S' := [.ref m]) rfl ?_
                            refine gs_gtr rfl (by decide) rfl sh187.1 tm rfl rfl rfl (fun c189 ec189 tc189 => ?_)
                            refine gz_s 1 (pc' := 156) (L' := [some (.ref m), some (.int (zi a)), some (.int (zi b)), some (.int (zi t)), some (.int (zi 1)), some (.int (zi z134)), some (.int (zi kb))]) (S' := [.ref m, .ref c189]) rfl ?_
                            refine gs_gtk rfl (by decide) rfl sh187.1 tm rfl rfl lp186k1 ?_
                            refine gz_s 1 (pc' := 160) (L' := [some (.ref m), some (.int (zi a)), some (.int (zi b)), some (.int (zi t)), some (.int (zi 1)), some (.int (zi z134)), some (.int (zi kb))]) (S' := [.int (zi a), .int (zi z127), .ref c189]) rfl ?_
                            have hl190 : 10 ≤ h187.2.2.2.1 c189 ∧ h187.2.2.2.1 c189 ≤ 10 := gJ.rowl (G := gGG) sh187.1 tc189 rfl
                            refine gs_ast rfl (by decide) sh187 tc189 rfl rfl rfl (by decide) (fun _ => rfl) (by omega) (by omega) (fun _ => (by decide : (27999 : Nat) ∈ ([1000, 1053, 27999, 28999, 29999, 30999, 31999] : List Nat))) (by omega) (by omega) (fun h191 sh191 eh191 fh191 => ?_)
                            have s192 := (fh191 m 0 (fun q => absurd (((tm).symm.trans (congrArg ty q.1)).trans tc189) (by decide))).trans lp186k0
                            have s193 := (fh191 m 53 (fun q => absurd (((tm).symm.trans (congrArg ty q.1)).trans tc189) (by decide))).trans lp186k1
                            have s194 := (fh191 m 58 (fun q => absurd (((tm).symm.trans (congrArg ty q.1)).trans tc189) (by decide))).trans lp186k2
                            have s195 := (fh191 m 54 (fun q => absurd (((tm).symm.trans (congrArg ty q.1)).trans tc189) (by decide))).trans ec189
                            refine gz_s 1 (pc' := 162) (L' := [some (.ref m), some (.int (zi a)), some (.int (zi b)), some (.int (zi t)), some (.int (zi 1)), some (.int (zi z134)), some (.int (zi kb))]) (S' := [.ref m]) rfl ?_
                            refine gs_gtr rfl (by decide) rfl sh191.1 tm rfl rfl rfl (fun c196 ec196 tc196 => ?_)
                            refine gz_s 1 (pc' := 166) (L' := [some (.ref m), some (.int (zi a)), some (.int (zi b)), some (.int (zi t)), some (.int (zi 1)), some (.int (zi z134)), some (.int (zi kb))]) (S' := [.ref m, .ref c196]) rfl ?_
                            refine gs_gtk rfl (by decide) rfl sh191.1 tm rfl rfl s193 ?_
                            refine gz_s 1 (pc' := 170) (L' := [some (.ref m), some (.int (zi a)), some (.int (zi b)), some (.int (zi t)), some (.int (zi 1)), some (.int (zi z134)), some (.int (zi kb))]) (S' := [.int (zi b), .int (zi z127), .ref c196]) rfl ?_
                            have hl197 : 10 ≤ h191.2.2.2.1 c196 ∧ h191.2.2.2.1 c196 ≤ 10 := gJ.rowl (G := gGG) sh191.1 tc196 rfl
                            refine gs_ast rfl (by decide) sh191 tc196 rfl rfl rfl (by decide) (fun _ => rfl) (by omega) (by omega) (fun _ => (by decide : (28999 : Nat) ∈ ([1000, 1053, 27999, 28999, 29999, 30999, 31999] : List Nat))) (by omega) (by omega) (fun h198 sh198 eh198 fh198 => ?_)
                            have s199 := (fh198 m 0 (fun q => absurd (((tm).symm.trans (congrArg ty q.1)).trans tc196) (by decide))).trans s192
                            have s200 := (fh198 m 53 (fun q => absurd (((tm).symm.trans (congrArg ty q.1)).trans tc196) (by decide))).trans s193
                            have s201 := (fh198 m 58 (fun q => absurd (((tm).symm.trans (congrArg ty q.1)).trans tc196) (by decide))).trans s194
                            have s202 := (fh198 m 54 (fun q => absurd (((tm).symm.trans (congrArg ty q.1)).trans tc196) (by decide))).trans s195
                            have s203 := (fh198 m 55 (fun q => absurd (((tm).symm.trans (congrArg ty q.1)).trans tc196) (by decide))).trans ec196
                            refine gz_s 1 (pc' := 172) (L' := [some (.ref m), some (.int (zi a)), some (.int (zi b)), some (.int (zi t)), some (.int (zi 1)), some (.int (zi z134)), some (.int (zi kb))]) (S' := [.ref m]) rfl ?_
                            refine gs_gtr rfl (by decide) rfl sh198.1 tm rfl rfl rfl (fun c204 ec204 tc204 => ?_)
                            refine gz_s 1 (pc' := 176) (L' := [some (.ref m), some (.int (zi a)), some (.int (zi b)), some (.int (zi t)), some (.int (zi 1)), some (.int (zi z134)), some (.int (zi kb))]) (S' := [.ref m, .ref c204]) rfl ?_
                            refine gs_gtk rfl (by decide) rfl sh198.1 tm rfl rfl s200 ?_
                            refine gz_s 2 (pc' := 182) (L' := [some (.ref m), some (.int (zi a)), some (.int (zi b)), some (.int (zi t)), some (.int (zi 1)), some (.int (zi z134)), some (.int (zi kb))]) (S' := [.int (zi (-1)), .int (zi z134), .int (zi z127), .ref c204]) rfl ?_
                            refine gy_icT (pc' := 189) rfl (by decide) (by decide) (by omega) (by omega) (by first | (simp [zc]; done) | (simp only [zc]; omega)) ?_
                            refine gz_s 1 (pc' := 191) (L' := [some (.ref m), some (.int (zi a)), some (.int (zi b)), some (.int (zi t)), some (.int (zi 1)), some (.int (zi z134)), some (.int (zi kb))]) (S' := [.int (zi z134), .int (zi z127), .ref c204]) rfl ?_
                            have hl205 : 10 ≤ h198.2.2.2.1 c204 ∧ h198.2.2.2.1 c204 ≤ 10 := gJ.rowl (G := gGG) sh198.1 tc204 rfl
                            refine gs_ast rfl (by decide) sh198 tc204 rfl rfl rfl (by decide) (fun _ => rfl) (by omega) (by omega) (fun _ => (by decide : (29999 : Nat) ∈ ([1000, 1053, 27999, 28999, 29999, 30999, 31999] : List Nat))) (by omega) (by omega) (fun h206 sh206 eh206 fh206 => ?_)
                            have s207 := (fh206 m 0 (fun q => absurd (((tm).symm.trans (congrArg ty q.1)).trans tc204) (by decide))).trans s199
                            have s208 := (fh206 m 53 (fun q => absurd (((tm).symm.trans (congrArg ty q.1)).trans tc204) (by decide))).trans s200
                            have s209 := (fh206 m 58 (fun q => absurd (((tm).symm.trans (congrArg ty q.1)).trans tc204) (by decide))).trans s201
                            have s210 := (fh206 m 54 (fun q => absurd (((tm).symm.trans (congrArg ty q.1)).trans tc204) (by decide))).trans s202
                            have s211 := (fh206 m 55 (fun q => absurd (((tm).symm.trans (congrArg ty q.1)).trans tc204) (by decide))).trans s203
                            have s212 := (fh206 m 56 (fun q => absurd (((tm).symm.trans (congrArg ty q.1)).trans tc204) (by decide))).trans ec204
                            refine gz_s 1 (pc' := 193) (L' := [some (.ref m), some (.int (zi a)), some (.int (zi b)), some (.int (zi t)), some (.int (zi 1)), some (.int (zi z134)), some (.int (zi kb))]) (S' := [.ref m]) rfl ?_
                            refine gs_gtr rfl (by decide) rfl sh206.1 tm rfl rfl rfl (fun c213 ec213 tc213 => ?_)
                            refine gz_s 1 (pc' := 197) (L' := [some (.ref m), some (.int (zi a)), some (.int (zi b)), some (.int (zi t)), some (.int (zi 1)), some (.int (zi z134)), some (.int (zi kb))]) (S' := [.ref m, .ref c213]) rfl ?_
                            refine gs_gtk rfl (by decide) rfl sh206.1 tm rfl rfl s208 ?_
                            refine gz_s 1 (pc' := 201) (L' := [some (.ref m), some (.int (zi a)), some (.int (zi b)), some (.int (zi t)), some (.int (zi 1)), some (.int (zi z134)), some (.int (zi kb))]) (S' := [.int (zi t), .int (zi z127), .ref c213]) rfl ?_
                            have hl214 : 10 ≤ h206.2.2.2.1 c213 ∧ h206.2.2.2.1 c213 ≤ 10 := gJ.rowl (G := gGG) sh206.1 tc213 rfl
                            refine gs_ast rfl (by decide) sh206 tc213 rfl rfl rfl (by decide) (fun _ => rfl) (by omega) (by omega) (fun _ => (by decide : (30999 : Nat) ∈ ([1000, 1053, 27999, 28999, 29999, 30999, 31999] : List Nat))) (by omega) (by omega) (fun h215 sh215 eh215 fh215 => ?_)
                            have s216 := (fh215 m 0 (fun q => absurd (((tm).symm.trans (congrArg ty q.1)).trans tc213) (by decide))).trans s207
                            have s217 := (fh215 m 53 (fun q => absurd (((tm).symm.trans (congrArg ty q.1)).trans tc213) (by decide))).trans s208
                            have s218 := (fh215 m 58 (fun q => absurd (((tm).symm.trans (congrArg ty q.1)).trans tc213) (by decide))).trans s209
                            have s219 := (fh215 m 54 (fun q => absurd (((tm).symm.trans (congrArg ty q.1)).trans tc213) (by decide))).trans s210
                            have s220 := (fh215 m 55 (fun q => absurd (((tm).symm.trans (congrArg ty q.1)).trans tc213) (by decide))).trans s211
                            have s221 := (fh215 m 56 (fun q => absurd (((tm).symm.trans (congrArg ty q.1)).trans tc213) (by decide))).trans s212
                            have s222 := (fh215 m 57 (fun q => absurd (((tm).symm.trans (congrArg ty q.1)).trans tc213) (by decide))).trans ec213
                            refine gz_s 2 (pc' := 204) (L' := [some (.ref m), some (.int (zi a)), some (.int (zi b)), some (.int (zi t)), some (.int (zi 1)), some (.int (zi z134)), some (.int (zi kb))]) (S' := [.ref m, .ref m]) rfl ?_
                            refine gs_gtk rfl (by decide) rfl sh215.1 tm rfl rfl s217 ?_
                            refine gy_s 2 (pc' := 209) (L' := [some (.ref m), some (.int (zi a)), some (.int (zi b)), some (.int (zi t)), some (.int (zi 1)), some (.int (zi z134)), some (.int (zi kb))]) (S' := [.int ((zi z127) + (zi 1)), .ref m]) (L2 := [some (.ref m), some (.int (zi a)), some (.int (zi b)), some (.int (zi t)), some (.int (zi 1)), some (.int (zi z134)), some (.int (zi kb))]) (S2 := [.int (zi (z127 + 1)), .ref m]) rfl (by simp only [zi_add, zi_sub, zi_mul, zi_neg, zi_and1, zi_and7, zi_and15, zi_and31, zi_and255]) (by simp only [zi_add, zi_sub, zi_mul, zi_neg, zi_and1, zi_and7, zi_and15, zi_and31, zi_and255]) ?_
                            refine gs_put rfl (by decide) rfl sh215 tm rfl rfl rfl rfl (Or.inl rfl) (by decide) (by omega) (by omega) (fun h223 sh223 eh223 fh223 => ?_)
                            have s224 := (fh223 m 0 (fun q => absurd q.2 (by decide))).trans s216
                            have s225 := (fh223 m 58 (fun q => absurd q.2 (by decide))).trans s218
                            have s226 := (fh223 m 54 (fun q => absurd q.2 (by decide))).trans s219
                            have s227 := (fh223 m 55 (fun q => absurd q.2 (by decide))).trans s220
                            have s228 := (fh223 m 56 (fun q => absurd q.2 (by decide))).trans s221
                            have s229 := (fh223 m 57 (fun q => absurd q.2 (by decide))).trans s222
                            refine gz_s 1 (pc' := 213) (L' := [some (.ref m), some (.int (zi a)), some (.int (zi b)), some (.int (zi t)), some (.int (zi 1)), some (.int (zi z134)), some (.int (zi kb))]) (S' := [.ref m]) rfl ?_
                            refine gs_gtk rfl (by decide) rfl sh223.1 tm rfl rfl eh223 ?_
                            exact gz_end (I := .ireturn) (len := 1) rfl (Or.inl rfl) ⟨sh223, z127 + 1, rfl, (by omega), (by omega)⟩
                          · refine gy_icF rfl (by decide) (by decide) (by omega) (by omega) hc188 ?_
                            refine gz_s 1 (pc' := 138) (L' := [some (.ref m), some (.int (zi a)), some (.int (zi b)), some (.int (zi t)), some (.int (zi 1)), some (.int (zi z134)), some (.int (zi kb))]) (S' := [.ref m]) rfl ?_
                            refine gs_gtk rfl (by decide) rfl sh187.1 tm rfl rfl lp186k2 ?_
                            refine gz_s 2 (pc' := 144) (L' := [some (.ref m), some (.int (zi a)), some (.int (zi b)), some (.int (zi t)), some (.int (zi 1)), some (.int (zi z134)), some (.int (zi kb))]) (S' := [.int (zi t), .int (zi kb), .ref c132]) rfl ?_
                            have hl230 : 64 ≤ h187.2.2.2.1 c132 ∧ h187.2.2.2.1 c132 ≤ 64 := gJ.rowl (G := gGG) sh187.1 tc132 rfl
                            refine gs_ast rfl (by decide) sh187 tc132 rfl rfl rfl (by decide) (fun _ => rfl) (by omega) (by omega) (fun _ => (by decide : (31999 : Nat) ∈ ([1000, 1053, 27999, 28999, 29999, 30999, 31999] : List Nat))) (by omega) (by omega) (fun h231 sh231 eh231 fh231 => ?_)
                            have s232 := (fh231 m 0 (fun q => absurd (((tm).symm.trans (congrArg ty q.1)).trans tc132) (by decide))).trans lp186k0
                            have s233 := (fh231 m 53 (fun q => absurd (((tm).symm.trans (congrArg ty q.1)).trans tc132) (by decide))).trans lp186k1
                            have s234 := (fh231 m 58 (fun q => absurd (((tm).symm.trans (congrArg ty q.1)).trans tc132) (by decide))).trans lp186k2
                            refine gy_s 2 (pc' := 131) (L' := [some (.ref m), some (.int (zi a)), some (.int (zi b)), some (.int (zi t)), some (.int (zi 1)), some (.int (zi z134)), some (.int ((zi kb) + zi 1))]) (S' := []) (L2 := [some (.ref m), some (.int (zi a)), some (.int (zi b)), some (.int (zi t)), some (.int (zi 1)), some (.int (zi z134)), some (.int (zi (kb + 1)))]) (S2 := []) rfl (by simp only [zi_add, zi_sub, zi_mul, zi_neg, zi_and1, zi_and7, zi_and15, zi_and31, zi_and255]) (by simp only [zi_add, zi_sub, zi_mul, zi_neg, zi_and1, zi_and7, zi_and15, zi_and31, zi_and255]) ?_
                            exact gz_wk (ihlp186 h231 (kb + 1) (by omega) sh231 (by omega) (by omega) s232 s233 s234) (gLw.s (gLw.s (gLw.s (gLw.s (gLw.s (gLw.s (gLw.s gLw.z)))))))
                      exact gz_wk (lp186 _ h130 a (Nat.lt_succ_self _) sh130 (by omega) (by omega) lp129k0 lp129k1 ec132) (gLw.s (gLw.s (gLw.s (gLw.s (gLw.s (gLw.s (gLw.s gLw.z)))))))
                    · refine gy_icF rfl (by decide) (by decide) (by omega) (by omega) hc185 ?_
                      refine gz_s 1 (pc' := 127) (L' := [some (.ref m), some (.int (zi a)), some (.int (zi b)), some (.int (zi t)), some (.int (zi 1)), some (.int (zi z134)), none]) (S' := [.int (zi 0)]) rfl ?_
                      exact gz_end (I := .ireturn) (len := 1) rfl (Or.inl rfl) ⟨sh130, 0, rfl, (by omega), (by omega)⟩
                · refine gy_icF rfl (by decide) (by decide) (by omega) (by omega) hc131 ?_
                  refine gz_s 1 (pc' := 81) (L' := [some (.ref m), some (.int (zi a)), some (.int (zi b)), some (.int (zi t)), some (.int (zi 1)), some (.int (zi k)), none]) (S' := [.ref m]) rfl ?_
                  refine gs_gtr rfl (by decide) rfl sh130.1 tm rfl rfl rfl (fun c235 ec235 tc235 => ?_)
                  refine gz_s 1 (pc' := 86) (L' := [some (.ref m), some (.int (zi a)), some (.int (zi b)), some (.int (zi t)), some (.int (zi 1)), some (.int (zi k)), none]) (S' := [.int (zi k), .ref c235]) rfl ?_
                  have hl236 : 64 ≤ h130.2.2.2.1 c235 ∧ h130.2.2.2.1 c235 ≤ 64 := gJ.rowl (G := gGG) sh130.1 tc235 rfl
                  refine gs_ald rfl (by decide) sh130.1 tc235 rfl rfl rfl (by decide) (fun _ => rfl) (by omega) (by omega) (fun z237 ez237 az237 bz237 => ?_)
                  refine gz_s 1 (pc' := 88) (L' := [some (.ref m), some (.int (zi a)), some (.int (zi b)), some (.int (zi t)), some (.int (zi 1)), some (.int (zi k)), none]) (S' := [.ref m, .int (zi z237)]) rfl ?_
                  refine gs_gtk rfl (by decide) rfl sh130.1 tm rfl rfl ec235 ?_
                  refine gz_s 1 (pc' := 92) (L' := [some (.ref m), some (.int (zi a)), some (.int (zi b)), some (.int (zi t)), some (.int (zi 1)), some (.int (zi k)), none]) (S' := [.int (zi a), .ref c235, .int (zi z237)]) rfl ?_
                  have hl238 : 64 ≤ h130.2.2.2.1 c235 ∧ h130.2.2.2.1 c235 ≤ 64 := gJ.rowl (G := gGG) sh130.1 tc235 rfl
                  refine gs_ald rfl (by decide) sh130.1 tc235 rfl rfl rfl (by decide) (fun _ => rfl) (by omega) (by omega) (fun z239 ez239 az239 bz239 => ?_)
                  by_cases hc240 : (z237 : Int) = z239
                  · refine gy_icT (pc' := 98) rfl (by decide) (by decide) (by omega) (by omega) hc240 ?_
                    refine gy_s 2 (pc' := 74) (L' := [some (.ref m), some (.int (zi a)), some (.int (zi b)), some (.int (zi t)), some (.int (zi 1)), some (.int ((zi k) + zi 1)), none]) (S' := []) (L2 := [some (.ref m), some (.int (zi a)), some (.int (zi b)), some (.int (zi t)), some (.int (zi 1)), some (.int (zi (k + 1))), none]) (S2 := []) rfl (by simp only [zi_add, zi_sub, zi_mul, zi_neg, zi_and1, zi_and7, zi_and15, zi_and31, zi_and255]) (by simp only [zi_add, zi_sub, zi_mul, zi_neg, zi_and1, zi_and7, zi_and15, zi_and31, zi_and255]) ?_
                    exact gz_wk (ihlp129 h130 (k + 1) (by omega) sh130 (by omega) (by omega) lp129k0 lp129k1) (gLw.s (gLw.s (gLw.s (gLw.s (gLw.s (gLw.s (gLw.n gLw.z)))))))
                  · refine gy_icF rfl (by decide) (by decide) (by omega) (by omega) hc240 ?_
                    refine gz_s 1 (pc' := 97) (L' := [some (.ref m), some (.int (zi a)), some (.int (zi b)), some (.int (zi t)), some (.int (zi 1)), some (.int (zi k)), none]) (S' := [.int (zi 0)]) rfl ?_
                    exact gz_end (I := .ireturn) (len := 1) rfl (Or.inl rfl) ⟨sh130, 0, rfl, (by omega), (by omega)⟩
            exact gz_wk (lp129 _ h1 a (Nat.lt_succ_self _) sh1 (by omega) (by omega) eh1 ez127) (gLw.s (gLw.s (gLw.s (gLw.s (gLw.s (gLw.s (gLw.n gLw.z)))))))
          · refine gy_icF rfl (by decide) (by decide) (by omega) (by omega) hc128 ?_
            refine gz_s 1 (pc' := 70) (L' := [some (.ref m), some (.int (zi a)), some (.int (zi b)), some (.int (zi t)), some (.int (zi 1)), none, none]) (S' := [.int (zi 0)]) rfl ?_
            exact gz_end (I := .ireturn) (len := 1) rfl (Or.inl rfl) ⟨sh1, 0, rfl, (by omega), (by omega)⟩
    · refine gy_ifF rfl (by decide) (by decide) (by omega) hc124 ?_
      refine gz_s 2 (pc' := 15) (L' := [some (.ref m), some (.int (zi a)), some (.int (zi b)), some (.int (zi t)), none, none, none]) (S' := [.int (zi 1), .int (zi a)]) rfl ?_
      refine gy_icT (pc' := 43) rfl (by decide) (by decide) (by omega) (by omega) (by first | (simp [zc]; done) | (simp only [zc]; omega)) ?_
      refine gz_s 3 (pc' := 48) (L' := [some (.ref m), some (.int (zi a)), some (.int (zi b)), some (.int (zi t)), some (.int (zi 0)), none, none]) (S' := [.int (zi 0)]) rfl ?_
      refine gy_ifT (pc' := 69) rfl (by decide) (by decide) (by omega) (by first | (simp [zc]; done) | (simp only [zc]; omega)) ?_
      refine gz_s 1 (pc' := 70) (L' := [some (.ref m), some (.int (zi a)), some (.int (zi b)), some (.int (zi t)), some (.int (zi 0)), none, none]) (S' := [.int (zi 0)]) rfl ?_
      exact gz_end (I := .ireturn) (len := 1) rfl (Or.inl rfl) ⟨sh1, 0, rfl, (by omega), (by omega)⟩
