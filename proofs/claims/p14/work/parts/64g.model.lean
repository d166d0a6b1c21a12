/-! ===== the model: methods (by program) ===== -/
set_option maxRecDepth 20000 in
set_option maxHeartbeats 4000000 in
theorem mm_cosine (d : Nat) {ty : Nat → Nat} {h : gH} (hJ : gJ rT 1027 ty h) (u : Int) (ru : 0 ≤ u ∧ u ≤ 7) (x : Int) (rx : 0 ≤ x ∧ x ≤ 7) : gz gPP gGG gcn (d + 0) gt172 0 (gent [.int (zi u), .int (zi x)] 5) [] h (fun q _ => gSs rT 1027 ty [] h q.2.2 ∧ ∃ z : Int, gfin gt172 q.1 q.2.1 = some (some (.int (zi z))) ∧ (-4096) ≤ z ∧ z ≤ 4096) := by
  have hS : gSs rT 1027 ty [] h h := gSs.rf hJ
  refine gz_s 1 (pc' := 1) (L' := [some (.int (zi u)), some (.int (zi x)), none, none, none]) (S' := [.int (zi u)]) rfl ?_
  by_cases hc1 : ¬ (u : Int) = 0
  · refine gy_ifT (pc' := 8) rfl (by decide) (by decide) (by omega) hc1 ?_
    have hx2 := zx_f (a := (2 * x) + 1) (b := u) (A := 15) (B := 7) (by omega) (by omega) (by omega) (by omega)
    refine gy_s 8 (pc' := 17) (L' := [some (.int (zi u)), some (.int (zi x)), none, none, none]) (S' := [.int (zi 32), .int ((((zi 2) * (zi x)) + (zi 1)) * (zi u))]) (L2 := [some (.int (zi u)), some (.int (zi x)), none, none, none]) (S2 := [.int (zi 32), .int (zi (((2 * x) + 1) * u))]) rfl (by simp only [zi_add, zi_sub, zi_mul, zi_neg, zi_and1, zi_and7, zi_and15, zi_and31, zi_and255]) (by simp only [zi_add, zi_sub, zi_mul, zi_neg, zi_and1, zi_and7, zi_and15, zi_and31, zi_and255]) ?_
    refine gy_rem rfl (by decide) (by omega) (by omega) ?_
    refine gz_s 3 (pc' := 22) (L' := [some (.int (zi u)), some (.int (zi x)), some (.int (zi ((((2 * x) + 1) * u) % 32))), none, none]) (S' := [.int (zi 16), .int (zi ((((2 * x) + 1) * u) % 32))]) rfl ?_
    by_cases hc3 : ((((2 * x) + 1) * u) % 32 : Int) ≤ 16
    · refine gy_icT (pc' := 32) rfl (by decide) (by decide) (by omega) (by omega) hc3 ?_
      refine gz_s 4 (pc' := 37) (L' := [some (.int (zi u)), some (.int (zi x)), some (.int (zi ((((2 * x) + 1) * u) % 32))), none, none]) (S' := [.int (zi 8), .int (zi ((((2 * x) + 1) * u) % 32))]) rfl ?_
      by_cases hc4 : ((((2 * x) + 1) * u) % 32 : Int) ≤ 8
      · refine gy_icT (pc' := 47) rfl (by decide) (by decide) (by omega) (by omega) hc4 ?_
        refine gz_s 3 (pc' := 50) (L' := [some (.int (zi u)), some (.int (zi x)), some (.int (zi ((((2 * x) + 1) * u) % 32))), some (.int (zi ((((2 * x) + 1) * u) % 32))), none]) (S' := [.int (zi ((((2 * x) + 1) * u) % 32))]) rfl ?_
        by_cases hc5 : ¬ ((((2 * x) + 1) * u) % 32 : Int) = 0
        · refine gy_ifT (pc' := 59) rfl (by decide) (by decide) (by omega) hc5 ?_
          refine gz_s 2 (pc' := 61) (L' := [some (.int (zi u)), some (.int (zi x)), some (.int (zi ((((2 * x) + 1) * u) % 32))), some (.int (zi ((((2 * x) + 1) * u) % 32))), none]) (S' := [.int (zi 1), .int (zi ((((2 * x) + 1) * u) % 32))]) rfl ?_
          by_cases hc6 : ¬ ((((2 * x) + 1) * u) % 32 : Int) = 1
          · refine gy_icT (pc' := 70) rfl (by decide) (by decide) (by omega) (by omega) hc6 ?_
            refine gz_s 2 (pc' := 72) (L' := [some (.int (zi u)), some (.int (zi x)), some (.int (zi ((((2 * x) + 1) * u) % 32))), some (.int (zi ((((2 * x) + 1) * u) % 32))), none]) (S' := [.int (zi 2), .int (zi ((((2 * x) + 1) * u) % 32))]) rfl ?_
            by_cases hc7 : ¬ ((((2 * x) + 1) * u) % 32 : Int) = 2
            · refine gy_icT (pc' := 81) rfl (by decide) (by decide) (by omega) (by omega) hc7 ?_
              refine gz_s 2 (pc' := 83) (L' := [some (.int (zi u)), some (.int (zi x)), some (.int (zi ((((2 * x) + 1) * u) % 32))), some (.int (zi ((((2 * x) + 1) * u) % 32))), none]) (S' := [.int (zi 3), .int (zi ((((2 * x) + 1) * u) % 32))]) rfl ?_
              by_cases hc8 : ¬ ((((2 * x) + 1) * u) % 32 : Int) = 3
              · refine gy_icT (pc' := 92) rfl (by decide) (by decide) (by omega) (by omega) hc8 ?_
                refine gz_s 2 (pc' := 94) (L' := [some (.int (zi u)), some (.int (zi x)), some (.int (zi ((((2 * x) + 1) * u) % 32))), some (.int (zi ((((2 * x) + 1) * u) % 32))), none]) (S' := [.int (zi 4), .int (zi ((((2 * x) + 1) * u) % 32))]) rfl ?_
                by_cases hc9 : ¬ ((((2 * x) + 1) * u) % 32 : Int) = 4
                · refine gy_icT (pc' := 103) rfl (by decide) (by decide) (by omega) (by omega) hc9 ?_
                  refine gz_s 2 (pc' := 105) (L' := [some (.int (zi u)), some (.int (zi x)), some (.int (zi ((((2 * x) + 1) * u) % 32))), some (.int (zi ((((2 * x) + 1) * u) % 32))), none]) (S' := [.int (zi 5), .int (zi ((((2 * x) + 1) * u) % 32))]) rfl ?_
                  by_cases hc10 : ¬ ((((2 * x) + 1) * u) % 32 : Int) = 5
                  · refine gy_icT (pc' := 114) rfl (by decide) (by decide) (by omega) (by omega) hc10 ?_
                    refine gz_s 2 (pc' := 117) (L' := [some (.int (zi u)), some (.int (zi x)), some (.int (zi ((((2 * x) + 1) * u) % 32))), some (.int (zi ((((2 * x) + 1) * u) % 32))), none]) (S' := [.int (zi 6), .int (zi ((((2 * x) + 1) * u) % 32))]) rfl ?_
                    by_cases hc11 : ¬ ((((2 * x) + 1) * u) % 32 : Int) = 6
                    · refine gy_icT (pc' := 126) rfl (by decide) (by decide) (by omega) (by omega) hc11 ?_
                      refine gz_s 2 (pc' := 129) (L' := [some (.int (zi u)), some (.int (zi x)), some (.int (zi ((((2 * x) + 1) * u) % 32))), some (.int (zi ((((2 * x) + 1) * u) % 32))), none]) (S' := [.int (zi 7), .int (zi ((((2 * x) + 1) * u) % 32))]) rfl ?_
                      by_cases hc12 : ¬ ((((2 * x) + 1) * u) % 32 : Int) = 7
                      · refine gy_icT (pc' := 138) rfl (by decide) (by decide) (by omega) (by omega) hc12 ?_
                        refine gz_s 4 (pc' := 144) (L' := [some (.int (zi u)), some (.int (zi x)), some (.int (zi ((((2 * x) + 1) * u) % 32))), some (.int (zi ((((2 * x) + 1) * u) % 32))), some (.int (zi 0))]) (S' := [.int (zi 8), .int (zi ((((2 * x) + 1) * u) % 32))]) rfl ?_
                        refine gy_icT (pc' := 153) rfl (by decide) (by decide) (by omega) (by omega) (by first | (simp [zc]; done) | (simp only [zc]; omega)) ?_
                        refine gz_s 1 (pc' := 155) (L' := [some (.int (zi u)), some (.int (zi x)), some (.int (zi ((((2 * x) + 1) * u) % 32))), some (.int (zi ((((2 * x) + 1) * u) % 32))), some (.int (zi 0))]) (S' := [.int (zi 0)]) rfl ?_
                        exact gz_end (I := .ireturn) (len := 1) rfl (Or.inl rfl) ⟨hS, 0, rfl, (by omega), (by omega)⟩
                      · refine gy_icF rfl (by decide) (by decide) (by omega) (by omega) hc12 ?_
                        refine gz_s 5 (pc' := 144) (L' := [some (.int (zi u)), some (.int (zi x)), some (.int (zi ((((2 * x) + 1) * u) % 32))), some (.int (zi ((((2 * x) + 1) * u) % 32))), some (.int (zi 799))]) (S' := [.int (zi 8), .int (zi ((((2 * x) + 1) * u) % 32))]) rfl ?_
                        refine gy_icT (pc' := 153) rfl (by decide) (by decide) (by omega) (by omega) (by first | (simp [zc]; done) | (simp only [zc]; omega)) ?_
                        refine gz_s 1 (pc' := 155) (L' := [some (.int (zi u)), some (.int (zi x)), some (.int (zi ((((2 * x) + 1) * u) % 32))), some (.int (zi ((((2 * x) + 1) * u) % 32))), some (.int (zi 799))]) (S' := [.int (zi 799)]) rfl ?_
                        exact gz_end (I := .ireturn) (len := 1) rfl (Or.inl rfl) ⟨hS, 799, rfl, (by omega), (by omega)⟩
                    · refine gy_icF rfl (by decide) (by decide) (by omega) (by omega) hc11 ?_
                      refine gz_s 5 (pc' := 144) (L' := [some (.int (zi u)), some (.int (zi x)), some (.int (zi ((((2 * x) + 1) * u) % 32))), some (.int (zi ((((2 * x) + 1) * u) % 32))), some (.int (zi 1567))]) (S' := [.int (zi 8), .int (zi ((((2 * x) + 1) * u) % 32))]) rfl ?_
                      refine gy_icT (pc' := 153) rfl (by decide) (by decide) (by omega) (by omega) (by first | (simp [zc]; done) | (simp only [zc]; omega)) ?_
                      refine gz_s 1 (pc' := 155) (L' := [some (.int (zi u)), some (.int (zi x)), some (.int (zi ((((2 * x) + 1) * u) % 32))), some (.int (zi ((((2 * x) + 1) * u) % 32))), some (.int (zi 1567))]) (S' := [.int (zi 1567)]) rfl ?_
                      exact gz_end (I := .ireturn) (len := 1) rfl (Or.inl rfl) ⟨hS, 1567, rfl, (by omega), (by omega)⟩
                  · refine gy_icF rfl (by decide) (by decide) (by omega) (by omega) hc10 ?_
                    refine gz_s 5 (pc' := 144) (L' := [some (.int (zi u)), some (.int (zi x)), some (.int (zi ((((2 * x) + 1) * u) % 32))), some (.int (zi ((((2 * x) + 1) * u) % 32))), some (.int (zi 2276))]) (S' := [.int (zi 8), .int (zi ((((2 * x) + 1) * u) % 32))]) rfl ?_
                    refine gy_icT (pc' := 153) rfl (by decide) (by decide) (by omega) (by omega) (by first | (simp [zc]; done) | (simp only [zc]; omega)) ?_
                    refine gz_s 1 (pc' := 155) (L' := [some (.int (zi u)), some (.int (zi x)), some (.int (zi ((((2 * x) + 1) * u) % 32))), some (.int (zi ((((2 * x) + 1) * u) % 32))), some (.int (zi 2276))]) (S' := [.int (zi 2276)]) rfl ?_
                    exact gz_end (I := .ireturn) (len := 1) rfl (Or.inl rfl) ⟨hS, 2276, rfl, (by omega), (by omega)⟩
                · refine gy_icF rfl (by decide) (by decide) (by omega) (by omega) hc9 ?_
                  refine gz_s 5 (pc' := 144) (L' := [some (.int (zi u)), some (.int (zi x)), some (.int (zi ((((2 * x) + 1) * u) % 32))), some (.int (zi ((((2 * x) + 1) * u) % 32))), some (.int (zi 2896))]) (S' := [.int (zi 8), .int (zi ((((2 * x) + 1) * u) % 32))]) rfl ?_
                  refine gy_icT (pc' := 153) rfl (by decide) (by decide) (by omega) (by omega) (by first | (simp [zc]; done) | (simp only [zc]; omega)) ?_
                  refine gz_s 1 (pc' := 155) (L' := [some (.int (zi u)), some (.int (zi x)), some (.int (zi ((((2 * x) + 1) * u) % 32))), some (.int (zi ((((2 * x) + 1) * u) % 32))), some (.int (zi 2896))]) (S' := [.int (zi 2896)]) rfl ?_
                  exact gz_end (I := .ireturn) (len := 1) rfl (Or.inl rfl) ⟨hS, 2896, rfl, (by omega), (by omega)⟩
              · refine gy_icF rfl (by decide) (by decide) (by omega) (by omega) hc8 ?_
                refine gz_s 5 (pc' := 144) (L' := [some (.int (zi u)), some (.int (zi x)), some (.int (zi ((((2 * x) + 1) * u) % 32))), some (.int (zi ((((2 * x) + 1) * u) % 32))), some (.int (zi 3406))]) (S' := [.int (zi 8), .int (zi ((((2 * x) + 1) * u) % 32))]) rfl ?_
                refine gy_icT (pc' := 153) rfl (by decide) (by decide) (by omega) (by omega) (by first | (simp [zc]; done) | (simp only [zc]; omega)) ?_
                refine gz_s 1 (pc' := 155) (L' := [some (.int (zi u)), some (.int (zi x)), some (.int (zi ((((2 * x) + 1) * u) % 32))), some (.int (zi ((((2 * x) + 1) * u) % 32))), some (.int (zi 3406))]) (S' := [.int (zi 3406)]) rfl ?_
                exact gz_end (I := .ireturn) (len := 1) rfl (Or.inl rfl) ⟨hS, 3406, rfl, (by omega), (by omega)⟩
            · refine gy_icF rfl (by decide) (by decide) (by omega) (by omega) hc7 ?_
              refine gz_s 5 (pc' := 144) (L' := [some (.int (zi u)), some (.int (zi x)), some (.int (zi ((((2 * x) + 1) * u) % 32))), some (.int (zi ((((2 * x) + 1) * u) % 32))), some (.int (zi 3784))]) (S' := [.int (zi 8), .int (zi ((((2 * x) + 1) * u) % 32))]) rfl ?_
              refine gy_icT (pc' := 153) rfl (by decide) (by decide) (by omega) (by omega) (by first | (simp [zc]; done) | (simp only [zc]; omega)) ?_
              refine gz_s 1 (pc' := 155) (L' := [some (.int (zi u)), some (.int (zi x)), some (.int (zi ((((2 * x) + 1) * u) % 32))), some (.int (zi ((((2 * x) + 1) * u) % 32))), some (.int (zi 3784))]) (S' := [.int (zi 3784)]) rfl ?_
              exact gz_end (I := .ireturn) (len := 1) rfl (Or.inl rfl) ⟨hS, 3784, rfl, (by omega), (by omega)⟩
          · refine gy_icF rfl (by decide) (by decide) (by omega) (by omega) hc6 ?_
            refine gz_s 5 (pc' := 144) (L' := [some (.int (zi u)), some (.int (zi x)), some (.int (zi ((((2 * x) + 1) * u) % 32))), some (.int (zi ((((2 * x) + 1) * u) % 32))), some (.int (zi 4017))]) (S' := [.int (zi 8), .int (zi ((((2 * x) + 1) * u) % 32))]) rfl ?_
            refine gy_icT (pc' := 153) rfl (by decide) (by decide) (by omega) (by omega) (by first | (simp [zc]; done) | (simp only [zc]; omega)) ?_
            refine gz_s 1 (pc' := 155) (L' := [some (.int (zi u)), some (.int (zi x)), some (.int (zi ((((2 * x) + 1) * u) % 32))), some (.int (zi ((((2 * x) + 1) * u) % 32))), some (.int (zi 4017))]) (S' := [.int (zi 4017)]) rfl ?_
            exact gz_end (I := .ireturn) (len := 1) rfl (Or.inl rfl) ⟨hS, 4017, rfl, (by omega), (by omega)⟩
        · refine gy_ifF rfl (by decide) (by decide) (by omega) hc5 ?_
          refine gz_s 5 (pc' := 144) (L' := [some (.int (zi u)), some (.int (zi x)), some (.int (zi ((((2 * x) + 1) * u) % 32))), some (.int (zi ((((2 * x) + 1) * u) % 32))), some (.int (zi 4096))]) (S' := [.int (zi 8), .int (zi ((((2 * x) + 1) * u) % 32))]) rfl ?_
          refine gy_icT (pc' := 153) rfl (by decide) (by decide) (by omega) (by omega) (by first | (simp [zc]; done) | (simp only [zc]; omega)) ?_
          refine gz_s 1 (pc' := 155) (L' := [some (.int (zi u)), some (.int (zi x)), some (.int (zi ((((2 * x) + 1) * u) % 32))), some (.int (zi ((((2 * x) + 1) * u) % 32))), some (.int (zi 4096))]) (S' := [.int (zi 4096)]) rfl ?_
          exact gz_end (I := .ireturn) (len := 1) rfl (Or.inl rfl) ⟨hS, 4096, rfl, (by omega), (by omega)⟩
      · refine gy_icF rfl (by decide) (by decide) (by omega) (by omega) hc4 ?_
        refine gy_s 6 (pc' := 50) (L' := [some (.int (zi u)), some (.int (zi x)), some (.int (zi ((((2 * x) + 1) * u) % 32))), some (.int ((zi 16) - (zi ((((2 * x) + 1) * u) % 32)))), none]) (S' := [.int ((zi 16) - (zi ((((2 * x) + 1) * u) % 32)))]) (L2 := [some (.int (zi u)), some (.int (zi x)), some (.int (zi ((((2 * x) + 1) * u) % 32))), some (.int (zi (16 - ((((2 * x) + 1) * u) % 32)))), none]) (S2 := [.int (zi (16 - ((((2 * x) + 1) * u) % 32)))]) rfl (by simp only [zi_add, zi_sub, zi_mul, zi_neg, zi_and1, zi_and7, zi_and15, zi_and31, zi_and255]) (by simp only [zi_add, zi_sub, zi_mul, zi_neg, zi_and1, zi_and7, zi_and15, zi_and31, zi_and255]) ?_
        by_cases hc13 : ¬ (16 - ((((2 * x) + 1) * u) % 32) : Int) = 0
        · refine gy_ifT (pc' := 59) rfl (by decide) (by decide) (by omega) hc13 ?_
          refine gz_s 2 (pc' := 61) (L' := [some (.int (zi u)), some (.int (zi x)), some (.int (zi ((((2 * x) + 1) * u) % 32))), some (.int (zi (16 - ((((2 * x) + 1) * u) % 32)))), none]) (S' := [.int (zi 1), .int (zi (16 - ((((2 * x) + 1) * u) % 32)))]) rfl ?_
          by_cases hc14 : ¬ (16 - ((((2 * x) + 1) * u) % 32) : Int) = 1
          · refine gy_icT (pc' := 70) rfl (by decide) (by decide) (by omega) (by omega) hc14 ?_
            refine gz_s 2 (pc' := 72) (L' := [some (.int (zi u)), some (.int (zi x)), some (.int (zi ((((2 * x) + 1) * u) % 32))), some (.int (zi (16 - ((((2 * x) + 1) * u) % 32)))), none]) (S' := [.int (zi 2), .int (zi (16 - ((((2 * x) + 1) * u) % 32)))]) rfl ?_
            by_cases hc15 : ¬ (16 - ((((2 * x) + 1) * u) % 32) : Int) = 2
            · refine gy_icT (pc' := 81) rfl (by decide) (by decide) (by omega) (by omega) hc15 ?_
              refine gz_s 2 (pc' := 83) (L' := [some (.int (zi u)), some (.int (zi x)), some (.int (zi ((((2 * x) + 1) * u) % 32))), some (.int (zi (16 - ((((2 * x) + 1) * u) % 32)))), none]) (S' := [.int (zi 3), .int (zi (16 - ((((2 * x) + 1) * u) % 32)))]) rfl ?_
              by_cases hc16 : ¬ (16 - ((((2 * x) + 1) * u) % 32) : Int) = 3
              · refine gy_icT (pc' := 92) rfl (by decide) (by decide) (by omega) (by omega) hc16 ?_
                refine gz_s 2 (pc' := 94) (L' := [some (.int (zi u)), some (.int (zi x)), some (.int (zi ((((2 * x) + 1) * u) % 32))), some (.int (zi (16 - ((((2 * x) + 1) * u) % 32)))), none]) (S' := [.int (zi 4), .int (zi (16 - ((((2 * x) + 1) * u) % 32)))]) rfl ?_
                by_cases hc17 : ¬ (16 - ((((2 * x) + 1) * u) % 32) : Int) = 4
                · refine gy_icT (pc' := 103) rfl (by decide) (by decide) (by omega) (by omega) hc17 ?_
                  refine gz_s 2 (pc' := 105) (L' := [some (.int (zi u)), some (.int (zi x)), some (.int (zi ((((2 * x) + 1) * u) % 32))), some (.int (zi (16 - ((((2 * x) + 1) * u) % 32)))), none]) (S' := [.int (zi 5), .int (zi (16 - ((((2 * x) + 1) * u) % 32)))]) rfl ?_
                  by_cases hc18 : ¬ (16 - ((((2 * x) + 1) * u) % 32) : Int) = 5
                  · refine gy_icT (pc' := 114) rfl (by decide) (by decide) (by omega) (by omega) hc18 ?_
                    refine gz_s 2 (pc' := 117) (L' := [some (.int (zi u)), some (.int (zi x)), some (.int (zi ((((2 * x) + 1) * u) % 32))), some (.int (zi (16 - ((((2 * x) + 1) * u) % 32)))), none]) (S' := [.int (zi 6), .int (zi (16 - ((((2 * x) + 1) * u) % 32)))]) rfl ?_
                    by_cases hc19 : ¬ (16 - ((((2 * x) + 1) * u) % 32) : Int) = 6
                    · refine gy_icT (pc' := 126) rfl (by decide) (by decide) (by omega) (by omega) hc19 ?_
                      refine gz_s 2 (pc' := 129) (L' := [some (.int (zi u)), some (.int (zi x)), some (.int (zi ((((2 * x) + 1) * u) % 32))), some (.int (zi (16 - ((((2 * x) + 1) * u) % 32)))), none]) (S' := [.int (zi 7), .int (zi (16 - ((((2 * x) + 1) * u) % 32)))]) rfl ?_
                      refine gy_icF rfl (by decide) (by decide) (by omega) (by omega) (by first | (simp [zc]; done) | (simp only [zc]; omega)) ?_
                      refine gz_s 5 (pc' := 144) (L' := [some (.int (zi u)), some (.int (zi x)), some (.int (zi ((((2 * x) + 1) * u) % 32))), some (.int (zi (16 - ((((2 * x) + 1) * u) % 32)))), some (.int (zi 799))]) (S' := [.int (zi 8), .int (zi ((((2 * x) + 1) * u) % 32))]) rfl ?_
                      refine gy_icF rfl (by decide) (by decide) (by omega) (by omega) (by first | (simp [zc]; done) | (simp only [zc]; omega)) ?_
                      refine gy_s 3 (pc' := 155) (L' := [some (.int (zi u)), some (.int (zi x)), some (.int (zi ((((2 * x) + 1) * u) % 32))), some (.int (zi (16 - ((((2 * x) + 1) * u) % 32)))), some (.int (zi 799))]) (S' := [.int (-(zi 799))]) (L2 := [some (.int (zi u)), some (.int (zi x)), some (.int (zi ((((2 * x) + 1) * u) % 32))), some (.int (zi (16 - ((((2 * x) + 1) * u) % 32)))), some (.int (zi 799))]) (S2 := [.int (zi (-799))]) rfl (by simp only [zi_add, zi_sub, zi_mul, zi_neg, zi_and1, zi_and7, zi_and15, zi_and31, zi_and255]) (by simp only [zi_add, zi_sub, zi_mul, zi_neg, zi_and1, zi_and7, zi_and15, zi_and31, zi_and255]) ?_
                      exact gz_end (I := .ireturn) (len := 1) rfl (Or.inl rfl) ⟨hS, -799, rfl, (by omega), (by omega)⟩
                    · refine gy_icF rfl (by decide) (by decide) (by omega) (by omega) hc19 ?_
                      refine gz_s 5 (pc' := 144) (L' := [some (.int (zi u)), some (.int (zi x)), some (.int (zi ((((2 * x) + 1) * u) % 32))), some (.int (zi (16 - ((((2 * x) + 1) * u) % 32)))), some (.int (zi 1567))]) (S' := [.int (zi 8), .int (zi ((((2 * x) + 1) * u) % 32))]) rfl ?_
                      refine gy_icF rfl (by decide) (by decide) (by omega) (by omega) (by first | (simp [zc]; done) | (simp only [zc]; omega)) ?_
                      refine gy_s 3 (pc' := 155) (L' := [some (.int (zi u)), some (.int (zi x)), some (.int (zi ((((2 * x) + 1) * u) % 32))), some (.int (zi (16 - ((((2 * x) + 1) * u) % 32)))), some (.int (zi 1567))]) (S' := [.int (-(zi 1567))]) (L2 := [some (.int (zi u)), some (.int (zi x)), some (.int (zi ((((2 * x) + 1) * u) % 32))), some (.int (zi (16 - ((((2 * x) + 1) * u) % 32)))), some (.int (zi 1567))]) (S2 := [.int (zi (-1567))]) rfl (by simp only [zi_add, zi_sub, zi_mul, zi_neg, zi_and1, zi_and7, zi_and15, zi_and31, zi_and255]) (by simp only [zi_add, zi_sub, zi_mul, zi_neg, zi_and1, zi_and7, zi_and15, zi_and31, zi_and255]) ?_
                      exact gz_end (I := .ireturn) (len := 1) rfl (Or.inl rfl) ⟨hS, -1567, rfl, (by omega), (by omega)⟩
                  · refine gy_icF rfl (by decide) (by decide) (by omega) (by omega) hc18 ?_
                    refine gz_s 5 (pc' := 144) (L' := [some (.int (zi u)), some (.int (zi x)), some (.int (zi ((((2 * x) + 1) * u) % 32))), some (.int (zi (16 - ((((2 * x) + 1) * u) % 32)))), some (.int (zi 2276))]) (S' := [.int (zi 8), .int (zi ((((2 * x) + 1) * u) % 32))]) rfl ?_
                    refine gy_icF rfl (by decide) (by decide) (by omega) (by omega) (by first | (simp [zc]; done) | (simp only [zc]; omega)) ?_
                    refine gy_s 3 (pc' := 155) (L' := [some (.int (zi u)), some (.int (zi x)), some (.int (zi ((((2 * x) + 1) * u) % 32))), some (.int (zi (16 - ((((2 * x) + 1) * u) % 32)))), some (.int (zi 2276))]) (S' := [.int (-(zi 2276))]) (L2 := [some (.int (zi u)), some (.int (zi x)), some (.int (zi ((((2 * x) + 1) * u) % 32))), some (.int (zi (16 - ((((2 * x) + 1) * u) % 32)))), some (.int (zi 2276))]) (S2 := [.int (zi (-2276))]) rfl (by simp only [zi_add, zi_sub, zi_mul, zi_neg, zi_and1, zi_and7, zi_and15, zi_and31, zi_and255]) (by simp only [zi_add, zi_sub, zi_mul, zi_neg, zi_and1, zi_and7, zi_and15, zi_and31, zi_and255]) ?_
                    exact gz_end (I := .ireturn) (len := 1) rfl (Or.inl rfl) ⟨hS, -2276, rfl, (by omega), (by omega)⟩
                · refine gy_icF rfl (by decide) (by decide) (by omega) (by omega) hc17 ?_
                  refine gz_s 5 (pc' := 144) (L' := [some (.int (zi u)), some (.int (zi x)), some (.int (zi ((((2 * x) + 1) * u) % 32))), some (.int (zi (16 - ((((2 * x) + 1) * u) % 32)))), some (.int (zi 2896))]) (S' := [.int (zi 8), .int (zi ((((2 * x) + 1) * u) % 32))]) rfl ?_
                  refine gy_icF rfl (by decide) (by decide) (by omega) (by omega) (by first | (simp [zc]; done) | (simp only [zc]; omega)) ?_
                  refine gy_s 3 (pc' := 155) (L' := [some (.int (zi u)), some (.int (zi x)), some (.int (zi ((((2 * x) + 1) * u) % 32))), some (.int (zi (16 - ((((2 * x) + 1) * u) % 32)))), some (.int (zi 2896))]) (S' := [.int (-(zi 2896))]) (L2 := [some (.int (zi u)), some (.int (zi x)), some (.int (zi ((((2 * x) + 1) * u) % 32))), some (.int (zi (16 - ((((2 * x) + 1) * u) % 32)))), some (.int (zi 2896))]) (S2 := [.int (zi (-2896))]) rfl (by simp only [zi_add, zi_sub, zi_mul, zi_neg, zi_and1, zi_and7, zi_and15, zi_and31, zi_and255]) (by simp only [zi_add, zi_sub, zi_mul, zi_neg, zi_and1, zi_and7, zi_and15, zi_and31, zi_and255]) ?_
                  exact gz_end (I := .ireturn) (len := 1) rfl (Or.inl rfl) ⟨hS, -2896, rfl, (by omega), (by omega)⟩
              · refine gy_icF rfl (by decide) (by decide) (by omega) (by omega) hc16 ?_
                refine gz_s 5 (pc' := 144) (L' := [some (.int (zi u)), some (.int (zi x)), some (.int (zi ((((2 * x) + 1) * u) % 32))), some (.int (zi (16 - ((((2 * x) + 1) * u) % 32)))), some (.int (zi 3406))]) (S' := [.int (zi 8), .int (zi ((((2 * x) + 1) * u) % 32))]) rfl ?_
                refine gy_icF rfl (by decide) (by decide) (by omega) (by omega) (by first | (simp [zc]; done) | (simp only [zc]; omega)) ?_
                refine gy_s 3 (pc' := 155) (L' := [some (.int (zi u)), some (.int (zi x)), some (.int (zi ((((2 * x) + 1) * u) % 32))), some (.int (zi (16 - ((((2 * x) + 1) * u) % 32)))), some (.int (zi 3406))]) (S' := [.int (-(zi 3406))]) (L2 := [some (.int (zi u)), some (.int (zi x)), some (.int (zi ((((2 * x) + 1) * u) % 32))), some (.int (zi (16 - ((((2 * x) + 1) * u) % 32)))), some (.int (zi 3406))]) (S2 := [.int (zi (-3406))]) rfl (by simp only [zi_add, zi_sub, zi_mul, zi_neg, zi_and1, zi_and7, zi_and15, zi_and31, zi_and255]) (by simp only [zi_add, zi_sub, zi_mul, zi_neg, zi_and1, zi_and7, zi_and15, zi_and31, zi_and255]) ?_
                exact gz_end (I := .ireturn) (len := 1) rfl (Or.inl rfl) ⟨hS, -3406, rfl, (by omega), (by omega)⟩
            · refine gy_icF rfl (by decide) (by decide) (by omega) (by omega) hc15 ?_
              refine gz_s 5 (pc' := 144) (L' := [some (.int (zi u)), some (.int (zi x)), some (.int (zi ((((2 * x) + 1) * u) % 32))), some (.int (zi (16 - ((((2 * x) + 1) * u) % 32)))), some (.int (zi 3784))]) (S' := [.int (zi 8), .int (zi ((((2 * x) + 1) * u) % 32))]) rfl ?_
              refine gy_icF rfl (by decide) (by decide) (by omega) (by omega) (by first | (simp [zc]; done) | (simp only [zc]; omega)) ?_
              refine gy_s 3 (pc' := 155) (L' := [some (.int (zi u)), some (.int (zi x)), some (.int (zi ((((2 * x) + 1) * u) % 32))), some (.int (zi (16 - ((((2 * x) + 1) * u) % 32)))), some (.int (zi 3784))]) (S' := [.int (-(zi 3784))]) (L2 := [some (.int (zi u)), some (.int (zi x)), some (.int (zi ((((2 * x) + 1) * u) % 32))), some (.int (zi (16 - ((((2 * x) + 1) * u) % 32)))), some (.int (zi 3784))]) (S2 := [.int (zi (-3784))]) rfl (by simp only [zi_add, zi_sub, zi_mul, zi_neg, zi_and1, zi_and7, zi_and15, zi_and31, zi_and255]) (by simp only [zi_add, zi_sub, zi_mul, zi_neg, zi_and1, zi_and7, zi_and15, zi_and31, zi_and255]) ?_
              exact gz_end (I := .ireturn) (len := 1) rfl (Or.inl rfl) ⟨hS, -3784, rfl, (by omega), (by omega)⟩
          · refine gy_icF rfl (by decide) (by decide) (by omega) (by omega) hc14 ?_
            refine gz_s 5 (pc' := 144) (L' := [some (.int (zi u)), some (.int (zi x)), some (.int (zi ((((2 * x) + 1) * u) % 32))), some (.int (zi (16 - ((((2 * x) + 1) * u) % 32)))), some (.int (zi 4017))]) (S' := [.int (zi 8), .int (zi ((((2 * x) + 1) * u) % 32))]) rfl ?_
            refine gy_icF rfl (by decide) (by decide) (by omega) (by omega) (by first | (simp [zc]; done) | (simp only [zc]; omega)) ?_
            refine gy_s 3 (pc' := 155) (L' := [some (.int (zi u)), some (.int (zi x)), some (.int (zi ((((2 * x) + 1) * u) % 32))), some (.int (zi (16 - ((((2 * x) + 1) * u) % 32)))), some (.int (zi 4017))]) (S' := [.int (-(zi 4017))]) (L2 := [some (.int (zi u)), some (.int (zi x)), some (.int (zi ((((2 * x) + 1) * u) % 32))), some (.int (zi (16 - ((((2 * x) + 1) * u) % 32)))), some (.int (zi 4017))]) (S2 := [.int (zi (-4017))]) rfl (by simp only [zi_add, zi_sub, zi_mul, zi_neg, zi_and1, zi_and7, zi_and15, zi_and31, zi_and255]) (by simp only [zi_add, zi_sub, zi_mul, zi_neg, zi_and1, zi_and7, zi_and15, zi_and31, zi_and255]) ?_
            exact gz_end (I := .ireturn) (len := 1) rfl (Or.inl rfl) ⟨hS, -4017, rfl, (by omega), (by omega)⟩
        · refine gy_ifF rfl (by decide) (by decide) (by omega) hc13 ?_
          refine gz_s 5 (pc' := 144) (L' := [some (.int (zi u)), some (.int (zi x)), some (.int (zi ((((2 * x) + 1) * u) % 32))), some (.int (zi (16 - ((((2 * x) + 1) * u) % 32)))), some (.int (zi 4096))]) (S' := [.int (zi 8), .int (zi ((((2 * x) + 1) * u) % 32))]) rfl ?_
          refine gy_icF rfl (by decide) (by decide) (by omega) (by omega) (by first | (simp [zc]; done) | (simp only [zc]; omega)) ?_
          refine gy_s 3 (pc' := 155) (L' := [some (.int (zi u)), some (.int (zi x)), some (.int (zi ((((2 * x) + 1) * u) % 32))), some (.int (zi (16 - ((((2 * x) + 1) * u) % 32)))), some (.int (zi 4096))]) (S' := [.int (-(zi 4096))]) (L2 := [some (.int (zi u)), some (.int (zi x)), some (.int (zi ((((2 * x) + 1) * u) % 32))), some (.int (zi (16 - ((((2 * x) + 1) * u) % 32)))), some (.int (zi 4096))]) (S2 := [.int (zi (-4096))]) rfl (by simp only [zi_add, zi_sub, zi_mul, zi_neg, zi_and1, zi_and7, zi_and15, zi_and31, zi_and255]) (by simp only [zi_add, zi_sub, zi_mul, zi_neg, zi_and1, zi_and7, zi_and15, zi_and31, zi_and255]) ?_
          exact gz_end (I := .ireturn) (len := 1) rfl (Or.inl rfl) ⟨hS, -4096, rfl, (by omega), (by omega)⟩
    · refine gy_icF rfl (by decide) (by decide) (by omega) (by omega) hc3 ?_
      refine gy_s 7 (pc' := 37) (L' := [some (.int (zi u)), some (.int (zi x)), some (.int ((zi 32) - (zi ((((2 * x) + 1) * u) % 32)))), none, none]) (S' := [.int (zi 8), .int ((zi 32) - (zi ((((2 * x) + 1) * u) % 32)))]) (L2 := [some (.int (zi u)), some (.int (zi x)), some (.int (zi (32 - ((((2 * x) + 1) * u) % 32)))), none, none]) (S2 := [.int (zi 8), .int (zi (32 - ((((2 * x) + 1) * u) % 32)))]) rfl (by simp only [zi_add, zi_sub, zi_mul, zi_neg, zi_and1, zi_and7, zi_and15, zi_and31, zi_and255]) (by simp only [zi_add, zi_sub, zi_mul, zi_neg, zi_and1, zi_and7, zi_and15, zi_and31, zi_and255]) ?_
      by_cases hc20 : (32 - ((((2 * x) + 1) * u) % 32) : Int) ≤ 8
      · refine gy_icT (pc' := 47) rfl (by decide) (by decide) (by omega) (by omega) hc20 ?_
        refine gz_s 3 (pc' := 50) (L' := [some (.int (zi u)), some (.int (zi x)), some (.int (zi (32 - ((((2 * x) + 1) * u) % 32)))), some (.int (zi (32 - ((((2 * x) + 1) * u) % 32)))), none]) (S' := [.int (zi (32 - ((((2 * x) + 1) * u) % 32)))]) rfl ?_
        refine gy_ifT (pc' := 59) rfl (by decide) (by decide) (by omega) (by first | (simp [zc]; done) | (simp only [zc]; omega)) ?_
        refine gz_s 2 (pc' := 61) (L' := [some (.int (zi u)), some (.int (zi x)), some (.int (zi (32 - ((((2 * x) + 1) * u) % 32)))), some (.int (zi (32 - ((((2 * x) + 1) * u) % 32)))), none]) (S' := [.int (zi 1), .int (zi (32 - ((((2 * x) + 1) * u) % 32)))]) rfl ?_
        by_cases hc21 : ¬ (32 - ((((2 * x) + 1) * u) % 32) : Int) = 1
        · refine gy_icT (pc' := 70) rfl (by decide) (by decide) (by omega) (by omega) hc21 ?_
          refine gz_s 2 (pc' := 72) (L' := [some (.int (zi u)), some (.int (zi x)), some (.int (zi (32 - ((((2 * x) + 1) * u) % 32)))), some (.int (zi (32 - ((((2 * x) + 1) * u) % 32)))), none]) (S' := [.int (zi 2), .int (zi (32 - ((((2 * x) + 1) * u) % 32)))]) rfl ?_
          by_cases hc22 : ¬ (32 - ((((2 * x) + 1) * u) % 32) : Int) = 2
          · refine gy_icT (pc' := 81) rfl (by decide) (by decide) (by omega) (by omega) hc22 ?_
            refine gz_s 2 (pc' := 83) (L' := [some (.int (zi u)), some (.int (zi x)), some (.int (zi (32 - ((((2 * x) + 1) * u) % 32)))), some (.int (zi (32 - ((((2 * x) + 1) * u) % 32)))), none]) (S' := [.int (zi 3), .int (zi (32 - ((((2 * x) + 1) * u) % 32)))]) rfl ?_
            by_cases hc23 : ¬ (32 - ((((2 * x) + 1) * u) % 32) : Int) = 3
            · refine gy_icT (pc' := 92) rfl (by decide) (by decide) (by omega) (by omega) hc23 ?_
              refine gz_s 2 (pc' := 94) (L' := [some (.int (zi u)), some (.int (zi x)), some (.int (zi (32 - ((((2 * x) + 1) * u) % 32)))), some (.int (zi (32 - ((((2 * x) + 1) * u) % 32)))), none]) (S' := [.int (zi 4), .int (zi (32 - ((((2 * x) + 1) * u) % 32)))]) rfl ?_
              by_cases hc24 : ¬ (32 - ((((2 * x) + 1) * u) % 32) : Int) = 4
              · refine gy_icT (pc' := 103) rfl (by decide) (by decide) (by omega) (by omega) hc24 ?_
                refine gz_s 2 (pc' := 105) (L' := [some (.int (zi u)), some (.int (zi x)), some (.int (zi (32 - ((((2 * x) + 1) * u) % 32)))), some (.int (zi (32 - ((((2 * x) + 1) * u) % 32)))), none]) (S' := [.int (zi 5), .int (zi (32 - ((((2 * x) + 1) * u) % 32)))]) rfl ?_
                by_cases hc25 : ¬ (32 - ((((2 * x) + 1) * u) % 32) : Int) = 5
                · refine gy_icT (pc' := 114) rfl (by decide) (by decide) (by omega) (by omega) hc25 ?_
                  refine gz_s 2 (pc' := 117) (L' := [some (.int (zi u)), some (.int (zi x)), some (.int (zi (32 - ((((2 * x) + 1) * u) % 32)))), some (.int (zi (32 - ((((2 * x) + 1) * u) % 32)))), none]) (S' := [.int (zi 6), .int (zi (32 - ((((2 * x) + 1) * u) % 32)))]) rfl ?_
                  by_cases hc26 : ¬ (32 - ((((2 * x) + 1) * u) % 32) : Int) = 6
                  · refine gy_icT (pc' := 126) rfl (by decide) (by decide) (by omega) (by omega) hc26 ?_
                    refine gz_s 2 (pc' := 129) (L' := [some (.int (zi u)), some (.int (zi x)), some (.int (zi (32 - ((((2 * x) + 1) * u) % 32)))), some (.int (zi (32 - ((((2 * x) + 1) * u) % 32)))), none]) (S' := [.int (zi 7), .int (zi (32 - ((((2 * x) + 1) * u) % 32)))]) rfl ?_
                    by_cases hc27 : ¬ (32 - ((((2 * x) + 1) * u) % 32) : Int) = 7
                    · refine gy_icT (pc' := 138) rfl (by decide) (by decide) (by omega) (by omega) hc27 ?_
                      refine gz_s 4 (pc' := 144) (L' := [some (.int (zi u)), some (.int (zi x)), some (.int (zi (32 - ((((2 * x) + 1) * u) % 32)))), some (.int (zi (32 - ((((2 * x) + 1) * u) % 32)))), some (.int (zi 0))]) (S' := [.int (zi 8), .int (zi (32 - ((((2 * x) + 1) * u) % 32)))]) rfl ?_
                      refine gy_icT (pc' := 153) rfl (by decide) (by decide) (by omega) (by omega) (by first | (simp [zc]; done) | (simp only [zc]; omega)) ?_
                      refine gz_s 1 (pc' := 155) (L' := [some (.int (zi u)), some (.int (zi x)), some (.int (zi (32 - ((((2 * x) + 1) * u) % 32)))), some (.int (zi (32 - ((((2 * x) + 1) * u) % 32)))), some (.int (zi 0))]) (S' := [.int (zi 0)]) rfl ?_
                      exact gz_end (I := .ireturn) (len := 1) rfl (Or.inl rfl) ⟨hS, 0, rfl, (by omega), (by omega)⟩
                    · refine gy_icF rfl (by decide) (by decide) (by omega) (by omega) hc27 ?_
                      refine gz_s 5 (pc' := 144) (L' := [some (.int (zi u)), some (.int (zi x)), some (.int (zi (32 - ((((2 * x) + 1) * u) % 32)))), some (.int (zi (32 - ((((2 * x) + 1) * u) % 32)))), some (.int (zi 799))]) (S' := [.int (zi 8), .int (zi (32 - ((((2 * x) + 1) * u) % 32)))]) rfl ?_
                      refine gy_icT (pc' := 153) rfl (by decide) (by decide) (by omega) (by omega) (by first | (simp [zc]; done) | (simp only [zc]; omega)) ?_
                      refine gz_s 1 (pc' := 155) (L' := [some (.int (zi u)), some (.int (zi x)), some (.int (zi (32 - ((((2 * x) + 1) * u) % 32)))), some (.int (zi (32 - ((((2 * x) + 1) * u) % 32)))), some (.int (zi 799))]) (S' := [.int (zi 799)]) rfl ?_
                      exact gz_end (I := .ireturn) (len := 1) rfl (Or.inl rfl) ⟨hS, 799, rfl, (by omega), (by omega)⟩
                  · refine gy_icF rfl (by decide) (by decide) (by omega) (by omega) hc26 ?_
                    refine gz_s 5 (pc' := 144) (L' := [some (.int (zi u)), some (.int (zi x)), some (.int (zi (32 - ((((2 * x) + 1) * u) % 32)))), some (.int (zi (32 - ((((2 * x) + 1) * u) % 32)))), some (.int (zi 1567))]) (S' := [.int (zi 8), .int (zi (32 - ((((2 * x) + 1) * u) % 32)))]) rfl ?_
                    refine gy_icT (pc' := 153) rfl (by decide) (by decide) (by omega) (by omega) (by first | (simp [zc]; done) | (simp only [zc]; omega)) ?_
                    refine gz_s 1 (pc' := 155) (L' := [some (.int (zi u)), some (.int (zi x)), some (.int (zi (32 - ((((2 * x) + 1) * u) % 32)))), some (.int (zi (32 - ((((2 * x) + 1) * u) % 32)))), some (.int (zi 1567))]) (S' := [.int (zi 1567)]) rfl ?_
                    exact gz_end (I := .ireturn) (len := 1) rfl (Or.inl rfl) ⟨hS, 1567, rfl, (by omega), (by omega)⟩
                · refine gy_icF rfl (by decide) (by decide) (by omega) (by omega) hc25 ?_
                  refine gz_s 5 (pc' := 144) (L' := [some (.int (zi u)), some (.int (zi x)), some (.int (zi (32 - ((((2 * x) + 1) * u) % 32)))), some (.int (zi (32 - ((((2 * x) + 1) * u) % 32)))), some (.int (zi 2276))]) (S' := [.int (zi 8), .int (zi (32 - ((((2 * x) + 1) * u) % 32)))]) rfl ?_
                  refine gy_icT (pc' := 153) rfl (by decide) (by decide) (by omega) (by omega) (by first | (simp [zc]; done) | (simp only [zc]; omega)) ?_
                  refine gz_s 1 (pc' := 155) (L' := [some (.int (zi u)), some (.int (zi x)), some (.int (zi (32 - ((((2 * x) + 1) * u) % 32)))), some (.int (zi (32 - ((((2 * x) + 1) * u) % 32)))), some (.int (zi 2276))]) (S' := [.int (zi 2276)]) rfl ?_
                  exact gz_end (I := .ireturn) (len := 1) rfl (Or.inl rfl) ⟨hS, 2276, rfl, (by omega), (by omega)⟩
              · refine gy_icF rfl (by decide) (by decide) (by omega) (by omega) hc24 ?_
                refine gz_s 5 (pc' := 144) (L' := [some (.int (zi u)), some (.int (zi x)), some (.int (zi (32 - ((((2 * x) + 1) * u) % 32)))), some (.int (zi (32 - ((((2 * x) + 1) * u) % 32)))), some (.int (zi 2896))]) (S' := [.int (zi 8), .int (zi (32 - ((((2 * x) + 1) * u) % 32)))]) rfl ?_
                refine gy_icT (pc' := 153) rfl (by decide) (by decide) (by omega) (by omega) (by first | (simp [zc]; done) | (simp only [zc]; omega)) ?_
                refine gz_s 1 (pc' := 155) (L' := [some (.int (zi u)), some (.int (zi x)), some (.int (zi (32 - ((((2 * x) + 1) * u) % 32)))), some (.int (zi (32 - ((((2 * x) + 1) * u) % 32)))), some (.int (zi 2896))]) (S' := [.int (zi 2896)]) rfl ?_
                exact gz_end (I := .ireturn) (len := 1) rfl (Or.inl rfl) ⟨hS, 2896, rfl, (by omega), (by omega)⟩
            · refine gy_icF rfl (by decide) (by decide) (by omega) (by omega) hc23 ?_
              refine gz_s 5 (pc' := 144) (L' := [some (.int (zi u)), some (.int (zi x)), some (.int (zi (32 - ((((2 * x) + 1) * u) % 32)))), some (.int (zi (32 - ((((2 * x) + 1) * u) % 32)))), some (.int (zi 3406))]) (S' := [.int (zi 8), .int (zi (32 - ((((2 * x) + 1) * u) % 32)))]) rfl ?_
              refine gy_icT (pc' := 153) rfl (by decide) (by decide) (by omega) (by omega) (by first | (simp [zc]; done) | (simp only [zc]; omega)) ?_
              refine gz_s 1 (pc' := 155) (L' := [some (.int (zi u)), some (.int (zi x)), some (.int (zi (32 - ((((2 * x) + 1) * u) % 32)))), some (.int (zi (32 - ((((2 * x) + 1) * u) % 32)))), some (.int (zi 3406))]) (S' := [.int (zi 3406)]) rfl ?_
              exact gz_end (I := .ireturn) (len := 1) rfl (Or.inl rfl) ⟨hS, 3406, rfl, (by omega), (by omega)⟩
          · refine gy_icF rfl (by decide) (by decide) (by omega) (by omega) hc22 ?_
            refine gz_s 5 (pc' := 144) (L' := [some (.int (zi u)), some (.int (zi x)), some (.int (zi (32 - ((((2 * x) + 1) * u) % 32)))), some (.int (zi (32 - ((((2 * x) + 1) * u) % 32)))), some (.int (zi 3784))]) (S' := [.int (zi 8), .int (zi (32 - ((((2 * x) + 1) * u) % 32)))]) rfl ?_
            refine gy_icT (pc' := 153) rfl (by decide) (by decide) (by omega) (by omega) (by first | (simp [zc]; done) | (simp only [zc]; omega)) ?_
            refine gz_s 1 (pc' := 155) (L' := [some (.int (zi u)), some (.int (zi x)), some (.int (zi (32 - ((((2 * x) + 1) * u) % 32)))), some (.int (zi (32 - ((((2 * x) + 1) * u) % 32)))), some (.int (zi 3784))]) (S' := [.int (zi 3784)]) rfl ?_
            exact gz_end (I := .ireturn) (len := 1) rfl (Or.inl rfl) ⟨hS, 3784, rfl, (by omega), (by omega)⟩
        · refine gy_icF rfl (by decide) (by decide) (by omega) (by omega) hc21 ?_
          refine gz_s 5 (pc' := 144) (L' := [some (.int (zi u)), some (.int (zi x)), some (.int (zi (32 - ((((2 * x) + 1) * u) % 32)))), some (.int (zi (32 - ((((2 * x) + 1) * u) % 32)))), some (.int (zi 4017))]) (S' := [.int (zi 8), .int (zi (32 - ((((2 * x) + 1) * u) % 32)))]) rfl ?_
          refine gy_icT (pc' := 153) rfl (by decide) (by decide) (by omega) (by omega) (by first | (simp [zc]; done) | (simp only [zc]; omega)) ?_
          refine gz_s 1 (pc' := 155) (L' := [some (.int (zi u)), some (.int (zi x)), some (.int (zi (32 - ((((2 * x) + 1) * u) % 32)))), some (.int (zi (32 - ((((2 * x) + 1) * u) % 32)))), some (.int (zi 4017))]) (S' := [.int (zi 4017)]) rfl ?_
          exact gz_end (I := .ireturn) (len := 1) rfl (Or.inl rfl) ⟨hS, 4017, rfl, (by omega), (by omega)⟩
      · refine gy_icF rfl (by decide) (by decide) (by omega) (by omega) hc20 ?_
        refine gy_s 6 (pc' := 50) (L' := [some (.int (zi u)), some (.int (zi x)), some (.int (zi (32 - ((((2 * x) + 1) * u) % 32)))), some (.int ((zi 16) - (zi (32 - ((((2 * x) + 1) * u) % 32))))), none]) (S' := [.int ((zi 16) - (zi (32 - ((((2 * x) + 1) * u) % 32))))]) (L2 := [some (.int (zi u)), some (.int (zi x)), some (.int (zi (32 - ((((2 * x) + 1) * u) % 32)))), some (.int (zi (16 - (32 - ((((2 * x) + 1) * u) % 32))))), none]) (S2 := [.int (zi (16 - (32 - ((((2 * x) + 1) * u) % 32))))]) rfl (by simp only [zi_add, zi_sub, zi_mul, zi_neg, zi_and1, zi_and7, zi_and15, zi_and31, zi_and255]) (by simp only [zi_add, zi_sub, zi_mul, zi_neg, zi_and1, zi_and7, zi_and15, zi_and31, zi_and255]) ?_
        refine gy_ifT (pc' := 59) rfl (by decide) (by decide) (by omega) (by first | (simp [zc]; done) | (simp only [zc]; omega)) ?_
        refine gz_s 2 (pc' := 61) (L' := [some (.int (zi u)), some (.int (zi x)), some (.int (zi (32 - ((((2 * x) + 1) * u) % 32)))), some (.int (zi (16 - (32 - ((((2 * x) + 1) * u) % 32))))), none]) (S' := [.int (zi 1), .int (zi (16 - (32 - ((((2 * x) + 1) * u) % 32))))]) rfl ?_
        by_cases hc28 : ¬ (16 - (32 - ((((2 * x) + 1) * u) % 32)) : Int) = 1
        · refine gy_icT (pc' := 70) rfl (by decide) (by decide) (by omega) (by omega) hc28 ?_
          refine gz_s 2 (pc' := 72) (L' := [some (.int (zi u)), some (.int (zi x)), some (.int (zi (32 - ((((2 * x) + 1) * u) % 32)))), some (.int (zi (16 - (32 - ((((2 * x) + 1) * u) % 32))))), none]) (S' := [.int (zi 2), .int (zi (16 - (32 - ((((2 * x) + 1) * u) % 32))))]) rfl ?_
          by_cases hc29 : ¬ (16 - (32 - ((((2 * x) + 1) * u) % 32)) : Int) = 2
          · refine gy_icT (pc' := 81) rfl (by decide) (by decide) (by omega) (by omega) hc29 ?_
            refine gz_s 2 (pc' := 83) (L' := [some (.int (zi u)), some (.int (zi x)), some (.int (zi (32 - ((((2 * x) + 1) * u) % 32)))), some (.int (zi (16 - (32 - ((((2 * x) + 1) * u) % 32))))), none]) (S' := [.int (zi 3), .int (zi (16 - (32 - ((((2 * x) + 1) * u) % 32))))]) rfl ?_
            by_cases hc30 : ¬ (16 - (32 - ((((2 * x) + 1) * u) % 32)) : Int) = 3
            · refine gy_icT (pc' := 92) rfl (by decide) (by decide) (by omega) (by omega) hc30 ?_
              refine gz_s 2 (pc' := 94) (L' := [some (.int (zi u)), some (.int (zi x)), some (.int (zi (32 - ((((2 * x) + 1) * u) % 32)))), some (.int (zi (16 - (32 - ((((2 * x) + 1) * u) % 32))))), none]) (S' := [.int (zi 4), .int (zi (16 - (32 - ((((2 * x) + 1) * u) % 32))))]) rfl ?_
              by_cases hc31 : ¬ (16 - (32 - ((((2 * x) + 1) * u) % 32)) : Int) = 4
              · refine gy_icT (pc' := 103) rfl (by decide) (by decide) (by omega) (by omega) hc31 ?_
                refine gz_s 2 (pc' := 105) (L' := [some (.int (zi u)), some (.int (zi x)), some (.int (zi (32 - ((((2 * x) + 1) * u) % 32)))), some (.int (zi (16 - (32 - ((((2 * x) + 1) * u) % 32))))), none]) (S' := [.int (zi 5), .int (zi (16 - (32 - ((((2 * x) + 1) * u) % 32))))]) rfl ?_
                by_cases hc32 : ¬ (16 - (32 - ((((2 * x) + 1) * u) % 32)) : Int) = 5
                · refine gy_icT (pc' := 114) rfl (by decide) (by decide) (by omega) (by omega) hc32 ?_
                  refine gz_s 2 (pc' := 117) (L' := [some (.int (zi u)), some (.int (zi x)), some (.int (zi (32 - ((((2 * x) + 1) * u) % 32)))), some (.int (zi (16 - (32 - ((((2 * x) + 1) * u) % 32))))), none]) (S' := [.int (zi 6), .int (zi (16 - (32 - ((((2 * x) + 1) * u) % 32))))]) rfl ?_
                  by_cases hc33 : ¬ (16 - (32 - ((((2 * x) + 1) * u) % 32)) : Int) = 6
                  · refine gy_icT (pc' := 126) rfl (by decide) (by decide) (by omega) (by omega) hc33 ?_
                    refine gz_s 2 (pc' := 129) (L' := [some (.int (zi u)), some (.int (zi x)), some (.int (zi (32 - ((((2 * x) + 1) * u) % 32)))), some (.int (zi (16 - (32 - ((((2 * x) + 1) * u) % 32))))), none]) (S' := [.int (zi 7), .int (zi (16 - (32 - ((((2 * x) + 1) * u) % 32))))]) rfl ?_
                    refine gy_icF rfl (by decide) (by decide) (by omega) (by omega) (by first | (simp [zc]; done) | (simp only [zc]; omega)) ?_
                    refine gz_s 5 (pc' := 144) (L' := [some (.int (zi u)), some (.int (zi x)), some (.int (zi (32 - ((((2 * x) + 1) * u) % 32)))), some (.int (zi (16 - (32 - ((((2 * x) + 1) * u) % 32))))), some (.int (zi 799))]) (S' := [.int (zi 8), .int (zi (32 - ((((2 * x) + 1) * u) % 32)))]) rfl ?_
                    refine gy_icF rfl (by decide) (by decide) (by omega) (by omega) (by first | (simp [zc]; done) | (simp only [zc]; omega)) ?_
                    refine gy_s 3 (pc' := 155) (L' := [some (.int (zi u)), some (.int (zi x)), some (.int (zi (32 - ((((2 * x) + 1) * u) % 32)))), some (.int (zi (16 - (32 - ((((2 * x) + 1) * u) % 32))))), some (.int (zi 799))]) (S' := [.int (-(zi 799))]) (L2 := [some (.int (zi u)), some (.int (zi x)), some (.int (zi (32 - ((((2 * x) + 1) * u) % 32)))), some (.int (zi (16 - (32 - ((((2 * x) + 1) * u) % 32))))), some (.int (zi 799))]) (S2 := [.int (zi (-799))]) rfl (by simp only [zi_add, zi_sub, zi_mul, zi_neg, zi_and1, zi_and7, zi_and15, zi_and31, zi_and255]) (by simp only [zi_add, zi_sub, zi_mul, zi_neg, zi_and1, zi_and7, zi_and15, zi_and31, zi_and255]) ?_
                    exact gz_end (I := .ireturn) (len := 1) rfl (Or.inl rfl) ⟨hS, -799, rfl, (by omega), (by omega)⟩
                  · refine gy_icF rfl (by decide) (by decide) (by omega) (by omega) hc33 ?_
                    refine gz_s 5 (pc' := 144) (L' := [some (.int (zi u)), some (.int (zi x)), some (.int (zi (32 - ((((2 * x) + 1) * u) % 32)))), some (.int (zi (16 - (32 - ((((2 * x) + 1) * u) % 32))))), some (.int (zi 1567))]) (S' := [.int (zi 8), .int (zi (32 - ((((2 * x) + 1) * u) % 32)))]) rfl ?_
                    refine gy_icF rfl (by decide) (by decide) (by omega) (by omega) (by first | (simp [zc]; done) | (simp only [zc]; omega)) ?_
                    refine gy_s 3 (pc' := 155) (L' := [some (.int (zi u)), some (.int (zi x)), some (.int (zi (32 - ((((2 * x) + 1) * u) % 32)))), some (.int (zi (16 - (32 - ((((2 * x) + 1) * u) % 32))))), some (.int (zi 1567))]) (S' := [.int (-(zi 1567))]) (L2 := [some (.int (zi u)), some (.int (zi x)), some (.int (zi (32 - ((((2 * x) + 1) * u) % 32)))), some (.int (zi (16 - (32 - ((((2 * x) + 1) * u) % 32))))), some (.int (zi 1567))]) (S2 := [.int (zi (-1567))]) rfl (by simp only [zi_add, zi_sub, zi_mul, zi_neg, zi_and1, zi_and7, zi_and15, zi_and31, zi_and255]) (by simp only [zi_add, zi_sub, zi_mul, zi_neg, zi_and1, zi_and7, zi_and15, zi_and31, zi_and255]) ?_
                    exact gz_end (I := .ireturn) (len := 1) rfl (Or.inl rfl) ⟨hS, -1567, rfl, (by omega), (by omega)⟩
                · refine gy_icF rfl (by decide) (by decide) (by omega) (by omega) hc32 ?_
                  refine gz_s 5 (pc' := 144) (L' := [some (.int (zi u)), some (.int (zi x)), some (.int (zi (32 - ((((2 * x) + 1) * u) % 32)))), some (.int (zi (16 - (32 - ((((2 * x) + 1) * u) % 32))))), some (.int (zi 2276))]) (S' := [.int (zi 8), .int (zi (32 - ((((2 * x) + 1) * u) % 32)))]) rfl ?_
                  refine gy_icF rfl (by decide) (by decide) (by omega) (by omega) (by first | (simp [zc]; done) | (simp only [zc]; omega)) ?_
                  refine gy_s 3 (pc' := 155) (L' := [some (.int (zi u)), some (.int (zi x)), some (.int (zi (32 - ((((2 * x) + 1) * u) % 32)))), some (.int (zi (16 - (32 - ((((2 * x) + 1) * u) % 32))))), some (.int (zi 2276))]) (S' := [.int (-(zi 2276))]) (L2 := [some (.int (zi u)), some (.int (zi x)), some (.int (zi (32 - ((((2 * x) + 1) * u) % 32)))), some (.int (zi (16 - (32 - ((((2 * x) + 1) * u) % 32))))), some (.int (zi 2276))]) (S2 := [.int (zi (-2276))]) rfl (by simp only [zi_add, zi_sub, zi_mul, zi_neg, zi_and1, zi_and7, zi_and15, zi_and31, zi_and255]) (by simp only [zi_add, zi_sub, zi_mul, zi_neg, zi_and1, zi_and7, zi_and15, zi_and31, zi_and255]) ?_
                  exact gz_end (I := .ireturn) (len := 1) rfl (Or.inl rfl) ⟨hS, -2276, rfl, (by omega), (by omega)⟩
              · refine gy_icF rfl (by decide) (by decide) (by omega) (by omega) hc31 ?_
                refine gz_s 5 (pc' := 144) (L' := [some (.int (zi u)), some (.int (zi x)), some (.int (zi (32 - ((((2 * x) + 1) * u) % 32)))), some (.int (zi (16 - (32 - ((((2 * x) + 1) * u) % 32))))), some (.int (zi 2896))]) (S' := [.int (zi 8), .int (zi (32 - ((((2 * x) + 1) * u) % 32)))]) rfl ?_
                refine gy_icF rfl (by decide) (by decide) (by omega) (by omega) (by first | (simp [zc]; done) | (simp only [zc]; omega)) ?_
                refine gy_s 3 (pc' := 155) (L' := [some (.int (zi u)), some (.int (zi x)), some (.int (zi (32 - ((((2 * x) + 1) * u) % 32)))), some (.int (zi (16 - (32 - ((((2 * x) + 1) * u) % 32))))), some (.int (zi 2896))]) (S' := [.int (-(zi 2896))]) (L2 := [some (.int (zi u)), some (.int (zi x)), some (.int (zi (32 - ((((2 * x) + 1) * u) % 32)))), some (.int (zi (16 - (32 - ((((2 * x) + 1) * u) % 32))))), some (.int (zi 2896))]) (S2 := [.int (zi (-2896))]) rfl (by simp only [zi_add, zi_sub, zi_mul, zi_neg, zi_and1, zi_and7, zi_and15, zi_and31, zi_and255]) (by simp only [zi_add, zi_sub, zi_mul, zi_neg, zi_and1, zi_and7, zi_and15, zi_and31, zi_and255]) ?_
                exact gz_end (I := .ireturn) (len := 1) rfl (Or.inl rfl) ⟨hS, -2896, rfl, (by omega), (by omega)⟩
            · refine gy_icF rfl (by decide) (by decide) (by omega) (by omega) hc30 ?_
              refine gz_s 5 (pc' := 144) (L' := [some (.int (zi u)), some (.int (zi x)), some (.int (zi (32 - ((((2 * x) + 1) * u) % 32)))), some (.int (zi (16 - (32 - ((((2 * x) + 1) * u) % 32))))), some (.int (zi 3406))]) (S' := [.int (zi 8), .int (zi (32 - ((((2 * x) + 1) * u) % 32)))]) rfl ?_
              refine gy_icF rfl (by decide) (by decide) (by omega) (by omega) (by first | (simp [zc]; done) | (simp only [zc]; omega)) ?_
              refine gy_s 3 (pc' := 155) (L' := [some (.int (zi u)), some (.int (zi x)), some (.int (zi (32 - ((((2 * x) + 1) * u) % 32)))), some (.int (zi (16 - (32 - ((((2 * x) + 1) * u) % 32))))), some (.int (zi 3406))]) (S' := [.int (-(zi 3406))]) (L2 := [some (.int (zi u)), some (.int (zi x)), some (.int (zi (32 - ((((2 * x) + 1) * u) % 32)))), some (.int (zi (16 - (32 - ((((2 * x) + 1) * u) % 32))))), some (.int (zi 3406))]) (S2 := [.int (zi (-3406))]) rfl (by simp only [zi_add, zi_sub, zi_mul, zi_neg, zi_and1, zi_and7, zi_and15, zi_and31, zi_and255]) (by simp only [zi_add, zi_sub, zi_mul, zi_neg, zi_and1, zi_and7, zi_and15, zi_and31, zi_and255]) ?_
              exact gz_end (I := .ireturn) (len := 1) rfl (Or.inl rfl) ⟨hS, -3406, rfl, (by omega), (by omega)⟩
          · refine gy_icF rfl (by decide) (by decide) (by omega) (by omega) hc29 ?_
            refine gz_s 5 (pc' := 144) (L' := [some (.int (zi u)), some (.int (zi x)), some (.int (zi (32 - ((((2 * x) + 1) * u) % 32)))), some (.int (zi (16 - (32 - ((((2 * x) + 1) * u) % 32))))), some (.int (zi 3784))]) (S' := [.int (zi 8), .int (zi (32 - ((((2 * x) + 1) * u) % 32)))]) rfl ?_
            refine gy_icF rfl (by decide) (by decide) (by omega) (by omega) (by first | (simp [zc]; done) | (simp only [zc]; omega)) ?_
            refine gy_s 3 (pc' := 155) (L' := [some (.int (zi u)), some (.int (zi x)), some (.int (zi (32 - ((((2 * x) + 1) * u) % 32)))), some (.int (zi (16 - (32 - ((((2 * x) + 1) * u) % 32))))), some (.int (zi 3784))]) (S' := [.int (-(zi 3784))]) (L2 := [some (.int (zi u)), some (.int (zi x)), some (.int (zi (32 - ((((2 * x) + 1) * u) % 32)))), some (.int (zi (16 - (32 - ((((2 * x) + 1) * u) % 32))))), some (.int (zi 3784))]) (S2 := [.int (zi (-3784))]) rfl (by simp only [zi_add, zi_sub, zi_mul, zi_neg, zi_and1, zi_and7, zi_and15, zi_and31, zi_and255]) (by simp only [zi_add, zi_sub, zi_mul, zi_neg, zi_and1, zi_and7, zi_and15, zi_and31, zi_and255]) ?_
            exact gz_end (I := .ireturn) (len := 1) rfl (Or.inl rfl) ⟨hS, -3784, rfl, (by omega), (by omega)⟩
        · refine gy_icF rfl (by decide) (by decide) (by omega) (by omega) hc28 ?_
          refine gz_s 5 (pc' := 144) (L' := [some (.int (zi u)), some (.int (zi x)), some (.int (zi (32 - ((((2 * x) + 1) * u) % 32)))), some (.int (zi (16 - (32 - ((((2 * x) + 1) * u) % 32))))), some (.int (zi 4017))]) (S' := [.int (zi 8), .int (zi (32 - ((((2 * x) + 1) * u) % 32)))]) rfl ?_
          refine gy_icF rfl (by decide) (by decide) (by omega) (by omega) (by first | (simp [zc]; done) | (simp only [zc]; omega)) ?_
          refine gy_s 3 (pc' := 155) (L' := [some (.int (zi u)), some (.int (zi x)), some (.int (zi (32 - ((((2 * x) + 1) * u) % 32)))), some (.int (zi (16 - (32 - ((((2 * x) + 1) * u) % 32))))), some (.int (zi 4017))]) (S' := [.int (-(zi 4017))]) (L2 := [some (.int (zi u)), some (.int (zi x)), some (.int (zi (32 - ((((2 * x) + 1) * u) % 32)))), some (.int (zi (16 - (32 - ((((2 * x) + 1) * u) % 32))))), some (.int (zi 4017))]) (S2 := [.int (zi (-4017))]) rfl (by simp only [zi_add, zi_sub, zi_mul, zi_neg, zi_and1, zi_and7, zi_and15, zi_and31, zi_and255]) (by simp only [zi_add, zi_sub, zi_mul, zi_neg, zi_and1, zi_and7, zi_and15, zi_and31, zi_and255]) ?_
          exact gz_end (I := .ireturn) (len := 1) rfl (Or.inl rfl) ⟨hS, -4017, rfl, (by omega), (by omega)⟩
  · refine gy_ifF rfl (by decide) (by decide) (by omega) hc1 ?_
    refine gz_s 1 (pc' := 7) (L' := [some (.int (zi u)), some (.int (zi x)), none, none, none]) (S' := [.int (zi 2896)]) rfl ?_
    exact gz_end (I := .ireturn) (len := 1) rfl (Or.inl rfl) ⟨hS, 2896, rfl, (by omega), (by omega)⟩
