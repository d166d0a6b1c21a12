/-! ===== the model: methods (by program) ===== -/
set_option maxRecDepth 20000 in
set_option maxHeartbeats 4000000 in
theorem mm_cosine (d : Nat) {ty : Nat → Nat} {h : gH} (hJ : gJ rT 1027 ty h) (u : Int) (ru : 0 ≤ u ∧ u ≤ 7) (x : Int) (rx : 0 ≤ x ∧ x ≤ 7) : gz gPP gGG gcn (d + 0) gt173 0 (gent [.int (zi u), .int (zi x)] 5) [] h (fun q _ => gSs rT 1027 ty [] h q.2.2 ∧ ∃ z : Int, gfin gt173 q.1 q.2.1 = some (some (.int (zi z))) ∧ (-4096) ≤ z ∧ z ≤ 4096) := by
  have hS : gSs rT 1027 ty [] h h := gSs.rf hJ
  refine gz_s 1 (pc' := 1) (L' := [some (.int (zi u)), some (.int (zi x)), none, none, none]) (S' := [.int (zi u)]) rfl ?_
  by_cases hc1 : ¬ (u : Int) = 0
  · refine gy_ifT (pc' := 8) rfl (by decide) (by decide) (by omega) hc1 ?_
    have hx2 := zx_f (a := (2 * x) + 1) (b := u) (A := 15) (B := 7) (by omega) (by omega) (by omega) (by omega)
    refine gy_s 8 (pc' := 17) (L' := [some (.int (zi u)), some (.int (zi x)), none, none, none]) (S' := [.int (zi 32), .int ((((zi 2) * (zi x)) + (zi 1)) * (zi u))]) (L2 := [some (.int (zi u)), some (.int (zi x)), none, none, none]) (S2 := [.int (zi 32), .int (zi (((2 * x) + 1) * u))]) rfl (by simp only [zi_add, zi_sub, zi_mul, zi_neg, zi_and1, zi_and7, zi_and15, zi_and31, zi_and255]) (by simp only [zi_add, zi_sub, zi_mul, zi_neg, zi_and1, zi_and7, zi_and15, zi_and31, zi_and255]) ?_
    refine gy_rem rfl (by decide) (by omega) (by omega) ?_
    refine gz_s 3 (pc' := 22) (L' := [some (.int (zi u)), some (.int (zi x)), some (.int (zi ((((2 * x) + 1) * u) % 32))), none, none]) (S' := [.int (zi 16), .int (zi ((((2 * x) + 1) * u) % 32))]) rfl ?_
    by_cases hc3 : ((((2 * x) + 1) * u) % 32 : Int) ≤ 16
    · refine gy_icT (pc' := 32) rfl (by decide) (by decide) (by omega) (by omega) hc3 ?_
      refine gz_s 4 (pc' := 37) (L' := [some (.int (zi u)), some (.int (zi x)), some (.int (zi ((((2 * x) + 1) * u) % 32))), none, none]) (S' := [.int (zi 8), .int (zi ((((2 * x) + 1) * u) % 32))]) rfl ?_
      by_cases hc4 : ((((2 * x) + 1) * u) % 32 : Int) ≤ 8
      · refine gy_icT (pc' := 47) rfl (by decide) (by decide) (by omega) (by omega) hc4 ?_
        refine gz_s 3 (pc' := 50) (L' := [some (.int (zi u)), some (.int (zi x)), some (.int (zi ((((2 * x) + 1) * u) % 32))), some (.int (zi ((((2 * x) + 1) * u) % 32))), none]) (S' := [.int (zi ((((2 * x) + 1) * u) % 32))]) rfl ?_
        by_cases hc5 : ¬ ((((2 * x) + 1) * u) % 32 : Int) = 0
        · refine gy_ifT (pc' := 59) rfl (by decide) (by decide) (by omega) hc5 ?_
          refine gz_s 2 (pc' := 61) (L' := [some (.int (zi u)), some (.int (zi x)), some (.int (zi ((((2 * x) + 1) * u) % 32))), some (.int (zi ((((2 * x) + 1) * u) % 32))), none]) (S' := [.int (zi 1), .int (zi ((((2 * x) + 1) * u) % 32))]) rfl ?_
          by_cases hc6 : ¬ ((((2 * x) + 1) * u) % 32 : Int) = 1
          · refine gy_icT (pc' := 70) rfl (by decide) (by decide) (by omega) (by omega) hc6 ?_
            refine gz_s 2 (pc' := 72) (L' := [some (.int (zi u)), some (.int (zi x)), some (.int (zi ((((2 * x) + 1) * u) % 32))), some (.int (zi ((((2 * x) + 1) * u) % 32))), none]) (S' := [.int (zi 2), .int (zi ((((2 * x) + 1) * u) % 32))]) rfl ?_
            by_cases hc7 : ¬ ((((2 * x) + 1) * u) % 32 : Int) = 2
            · refine gy_icT (pc' := 81) rfl (by decide) (by decide) (by omega) (by omega) hc7 ?_
              refine gz_s 2 (pc' := 83) (L' := [some (.int (zi u)), some (.int (zi x)), some (.int (zi ((((2 * x) + 1) * u) % 32))), some (.int (zi ((((2 * x) + 1) * u) % 32))), none]) (S' := [.int (zi 3), .int (zi ((((2 * x) + 1) * u) % 32))]) rfl ?_
              by_cases hc8 : ¬ ((((2 * x) + 1) * u) % 32 : Int) = 3
              · refine gy_icT (pc' := 92) rfl (by decide) (by decide) (by omega) (by omega) hc8 ?_
                refine gz_s 2 (pc' := 94) (L' := [some (.int (zi u)), some (.int (zi x)), some (.int (zi ((((2 * x) + 1) * u) % 32))), some (.int (zi ((((2 * x) + 1) * u) % 32))), none]) (S' := [.int (zi 4), .int (zi ((((2 * x) + 1) * u) % 32))]) rfl ?_
                by_cases hc9 : ¬ ((((2 * x) + 1) * u) % 32 : Int) = 4
                · refine gy_icT (pc' := 103) rfl (by decide) (by decide) (by omega) (by omega) hc9 ?_
                  refine gz_s 2 (pc' := 105) (L' := [some (.int (zi u)), some (.int (zi x)), some (.int (zi ((((2 * x) + 1) * u) % 32))), some (.int (zi ((((2 * x) + 1) * u) % 32))), none]) (S' := [.int (zi 5), .int (zi ((((2 * x) + 1) * u) % 32))]) rfl ?_
                  by_cases hc10 : ¬ ((((2 * x) + 1) * u) % 32 : Int) = 5
                  · refine gy_icT (pc' := 114) rfl (by decide) (by decide) (by omega) (by omega) hc10 ?_
                    refine gz_s 2 (pc' := 117) (L' := [some (.int (zi u)), some (.int (zi x)), some (.int (zi ((((2 * x) + 1) * u) % 32))), some (.int (zi ((((2 * x) + 1) * u) % 32))), none]) (S' := [.int (zi 6), .int (zi ((((2 * x) + 1) * u) % 32))]) rfl ?_
                    by_cases hc11 : ¬ ((((2 * x) + 1) * u) % 32 : Int) = 6
                    · refine gy_icT (pc' := 126) rfl (by decide) (by decide) (by omega) (by omega) hc11 ?_
                      refine gz_s 2 (pc' := 129) (L' := [some (.int (zi u)), some (.int (zi x)), some (.int (zi ((((2 * x) + 1) * u) % 32))), some (.int (zi ((((2 * x) + 1) * u) % 32))), none]) (S' := [.int (zi 7), .int (zi ((((2 * x) + 1) * u) % 32))]) rfl ?_
                      by_cases hc12 : ¬ ((((2 * x) + 1) * u) % 32 : Int) = 7
                      · refine gy_icT (pc' := 138) rfl (by decide) (by decide) (by omega) (by omega) hc12 ?_
                        refine gz_s 4 (pc' := 144) (L' := [some (.int (zi u)), some (.int (zi x)), some (.int (zi ((((2 * x) + 1) * u) % 32))), some (.int (zi ((((2 * x) + 1) * u) % 32))), some (.int (zi 0))]) (S' := [.int (zi 8), .int (zi ((((2 * x) + 1) * u) % 32))]) rfl ?_
                        refine gy_icT (pc' := 153) rfl (by decide) (by decide) (by omega) (by omega) (by first | (simp [zc]; done) | (simp only [zc]; omega)) ?_
                        refine gz_s 1 (pc' := 155) (L' := [some (.int (zi u)), some (.int (zi x)), some (.int (zi ((((2 * x) + 1) * u) % 32))), some (.int (zi ((((2 * x) + 1) * u) % 32))), some (.int (zi 0))]) (S' := [.int (zi 0)]) rfl ?_
                        exact gz_end (I := .ireturn) (len := 1) rfl (Or.inl rfl) ⟨hS, 0, rfl, (by omega), (by omega)⟩
                      · refine gy_icF rfl (by decide) (by decide) (by omega) (by omega) hc12 ?_
                        refine gz_s 5 (pc' := 144) (L' := [some (.int (zi u)), some (.int (zi x)), some (.int (zi ((((2 * x) + 1) * u) % 32))), some (.int (zi ((((2 * x) + 1) * u) % 32))), some (.int (zi 799))]) (S' := [.int (zi 8), .int (zi ((((2 * x) + 1) * u) % 32))]) rfl ?_
                        refine gy_icT (pc' := 153) rfl (by decide) (by decide) (by omega) (by omega) (by first | (simp [zc]; done) | (simp only [zc]; omega)) ?_
                        refine gz_s 1 (pc' := 155) (L' := [some (.int (zi u)), some (.int (zi x)), some (.int (zi ((((2 * x) + 1) * u) % 32))), some (.int (zi ((((2 * x) + 1) * u) % 32))), some (.int (zi 799))]) (S' := [.int (zi 799)]) rfl ?_
                        exact gz_end (I := .ireturn) (len := 1) rfl (Or.inl rfl) ⟨hS, 799, rfl, (by omega), (by omega)⟩
                    · refine gy_icF rfl (by decide) (by decide) (by omega) (by omega) hc11 ?_
                      refine gz_s 5 (pc' := 144) (L' := [some (.int (zi u)), some (.int (zi x)), some (.int (zi ((((2 * x) + 1) * u) % 32))), some (.int (zi ((((2 * x) + 1) * u) % 32))), some (.int (zi 1567))]) (S' := [.int (zi 8), .int (zi ((((2 * x) + 1) * u) % 32))]) rfl ?_
                      refine gy_icT (pc' := 153) rfl (by decide) (by decide) (by omega) (by omega) (by first | (simp [zc]; done) | (simp only [zc]; omega)) ?_
                      refine gz_s 1 (pc' := 155) (L' := [some (.int (zi u)), some (.int (zi x)), some (.int (zi ((((2 * x) + 1) * u) % 32))), some (.int (zi ((((2 * x) + 1) * u) % 32))), some (.int (zi 1567))]) (S' := [.int (zi 1567)]) rfl ?_
                      exact gz_end (I := .ireturn) (len := 1) rfl (Or.inl rfl) ⟨hS, 1567, rfl, (by omega), (by omega)⟩
                  · refine gy_icF rfl (by decide) (by decide) (by omega) (by omega) hc10 ?_
                    refine gz_s 5 (pc' := 144) (L' := [some (.int (zi u)), some (.int (zi x)), some (.int (zi ((((2 * x) + 1) * u) % 32))), some (.int (zi ((((2 * x) + 1) * u) % 32))), some (.int (zi 2276))]) (S' := [.int (zi 8), .int (zi ((((2 * x) + 1) * u) % 32))]) rfl ?_
                    refine gy_icT (pc' := 153) rfl (by decide) (by decide) (by omega) (by omega) (by first | (simp [zc]; done) | (simp only [zc]; omega)) ?_
                    refine gz_s 1 (pc' := 155) (L' := [some (.int (zi u)), some (.int (zi x)), some (.int (zi ((((2 * x) + 1) * u) % 32))), some (.int (zi ((((2 * x) + 1) * u) % 32))), some (.int (zi 2276))]) (S' := [.int (zi 2276)]) rfl ?_
                    exact gz_end (I := .ireturn) (len := 1) rfl (Or.inl rfl) ⟨hS, 2276, rfl, (by omega), (by omega)⟩
                · refine gy_icF rfl (by decide) (by decide) (by omega) (by omega) hc9 ?_
                  refine gz_s 5 (pc' := 144) (L' := [some (.int (zi u)), some (.int (zi x)), some (.int (zi ((((2 * x) + 1) * u) % 32))), some (.int (zi ((((2 * x) + 1) * u) % 32))), some (.int (zi 2896))]) (S' := [.int (zi 8), .int (zi ((((2 * x) + 1) * u) % 32))]) rfl ?_
                  refine gy_icT (pc' := 153) rfl (by decide) (by decide) (by omega) (by omega) (by first | (simp [zc]; done) | (simp only [zc]; omega)) ?_
                  refine gz_s 1 (pc' := 155) (L' := [some (.int (zi u)), some (.int (zi x)), some (.int (zi ((((2 * x) + 1) * u) % 32))), some (.int (zi ((((2 * x) + 1) * u) % 32))), some (.int (zi 2896))]) (S' := [.int (zi 2896)]) rfl ?_
                  exact gz_end (I := .ireturn) (len := 1) rfl (Or.inl rfl) ⟨hS, 2896, rfl, (by omega), (by omega)⟩
              · refine gy_icF rfl (by decide) (by decide) (by omega) (by omega) hc8 ?_
                refine gz_s 5 (pc' := 144) (L' := [some (.int (zi u)), some (.int (zi x)), some (.int (zi ((((2 * x) + 1) * u) % 32))), some (.int (zi ((((2 * x) + 1) * u) % 32))), some (.int (zi 3406))]) (S' := [.int (zi 8), .int (zi ((((2 * x) + 1) * u) % 32))]) rfl ?_
                refine gy_icT (pc' := 153) rfl (by decide) (by decide) (by omega) (by omega) (by first | (simp [zc]; done) | (simp only [zc]; omega)) ?_
                refine gz_s 1 (pc' := 155) (L' := [some (.int (zi u)), some (.int (zi x)), some (.int (zi ((((2 * x) + 1) * u) % 32))), some (.int (zi ((((2 * x) + 1) * u) % 32))), some (.int (zi 3406))]) (S' := [.int (zi 3406)]) rfl ?_
                exact gz_end (I := .ireturn) (len := 1) rfl (Or.inl rfl) ⟨hS, 3406, rfl, (by omega), (by omega)⟩
            · refine gy_icF rfl (by decide) (by decide) (by omega) (by omega) hc7 ?_
              refine gz_s 5 (pc' := 144) (L' := [some (.int (zi u)), some (.int (zi x)), some (.int (zi ((((2 * x) + 1) * u) % 32))), some (.int (zi ((((2 * x) + 1) * u) % 32))), some (.int (zi 3784))]) (S' := [.int (zi 8), .int (zi ((((2 * x) + 1) * u) % 32))]) rfl ?_
              refine gy_icT (pc' := 153) rfl (by decide) (by decide) (by omega) (by omega) (by first | (simp [zc]; done) | (simp only [zc]; omega)) ?_
              refine gz_s 1 (pc' := 155) (L' := [some (.int (zi u)), some (.int (zi x)), some (.int (zi ((((2 * x) + 1) * u) % 32))), some (.int (zi ((((2 * x) + 1) * u) % 32))), some (.int (zi 3784))]) (S' := [.int (zi 3784)]) rfl ?_
              exact gz_end (I := .ireturn) (len := 1) rfl (Or.inl rfl) ⟨hS, 3784, rfl, (by omega), (by omega)⟩
          · refine gy_icF rfl (by decide) (by decide) (by omega) (by omega) hc6 ?_
            refine gz_s 5 (pc' := 144) (L' := [some (.int (zi u)), some (.int (zi x)), some (.int (zi ((((2 * x) + 1) * u) % 32))), some (.int (zi ((((2 * x) + 1) * u) % 32))), some (.int (zi 4017))]) (S' := [.int (zi 8), .int (zi ((((2 * x) + 1) * u) % 32))]) rfl ?_
            refine gy_icT (pc' := 153) rfl (by decide) (by decide) (by omega) (by omega) (by first | (simp [zc]; done) | (simp only [zc]; omega)) ?_
            refine gz_s 1 (pc' := 155) (L' := [some (.int (zi u)), some (.int (zi x)), some (.int (zi ((((2 * x) + 1) * u) % 32))), some (.int (zi ((((2 * x) + 1) * u) % 32))), some (.int (zi 4017))]) (S' := [.int (zi 4017)]) rfl ?_
            exact gz_end (I := .ireturn) (len := 1) rfl (Or.inl rfl) ⟨hS, 4017, rfl, (by omega), (by omega)⟩
        · refine gy_ifF rfl (by decide) (by decide) (by omega) hc5 ?_
          refine gz_s 5 (pc' := 144) (L' := [some (.int (zi u)), some (.int (zi x)), some (.int (zi ((((2 * x) + 1) * u) % 32))), some (.int (zi ((((2 * x) + 1) * u) % 32))), some (.int (zi 4096))]) (S' := [.int (zi 8), .int (zi ((((2 * x) + 1) * u) % 32))]) rfl ?_
          refine gy_icT (pc' := 153) rfl (by decide) (by decide) (by omega) (by omega) (by first | (simp [zc]; done) | (simp only [zc]; omega)) ?_
          refine gz_s 1 (pc' := 155) (L' := [some (.int (zi u)), some (.int (zi x)), some (.int (zi ((((2 * x) + 1) * u) % 32))), some (.int (zi ((((2 * x) + 1) * u) % 32))), some (.int (zi 4096))]) (S' := [.int (zi 4096)]) rfl ?_
          exact gz_end (I := .ireturn) (len := 1) rfl (Or.inl rfl) ⟨hS, 4096, rfl, (by omega), (by omega)⟩
      · refine gy_icF rfl (by decide) (by decide) (by omega) (by omega) hc4 ?_
        refine gy_s 6 (pc' := 50) (L' := [some (.int (zi u)), some (.int (zi x)), some (.int (zi ((((2 * x) + 1) * u) % 32))), some (.int ((zi 16) - (zi ((((2 * x) + 1) * u) % 32)))), none]) (S' := [.int ((zi 16) - (zi ((((2 * x) + 1) * u) % 32)))]) (L2 := [some (.int (zi u)), some (.int (zi x)), some (.int (zi ((((2 * x) + 1) * u) % 32))), some (.int (zi (16 - ((((2 * x) + 1) * u) % 32)))), none]) (S2 := [.int (zi (16 - ((((2 * x) + 1) * u) % 32)))]) rfl (by simp only [zi_add, zi_sub, zi_mul, zi_neg, zi_and1, zi_and7, zi_and15, zi_and31, zi_and255]) (by simp only [zi_add, zi_sub, zi_mul, zi_neg, zi_and1, zi_and7, zi_and15, zi_and31, zi_and255]) ?_
        by_cases hc13 : ¬ (16 - ((((2 * x) + 1) * u) % 32) : Int) = 0
        · refine gy_ifT (pc' := 59) rfl (by decide) (by decide) (by omega) hc13 ?_
          refine gz_s 2 (pc' := 61) (L' := [some (.int (zi u)), some (.int (zi x)), some (.int (zi ((((2 * x) + 1) * u) % 32))), some (.int (zi (16 - ((((2 * x) + 1) * u) % 32)))), none]) (S' := [.int (zi 1), .int (zi (16 - ((((2 * x) + 1) * u) % 32)))]) rfl ?_
          by_cases hc14 : ¬ (16 - ((((2 * x) + 1) * u) % 32) : Int) = 1
          · refine gy_icT (pc' := 70) rfl (by decide) (by decide) (by omega) (by omega) hc14 ?_
            refine gz_s 2 (pc' := 72) (L' := [some (.int (zi u)), some (.int (zi x)), some (.int (zi ((((2 * x) + 1) * u) % 32))), some (.int (zi (16 - ((((2 * x) + 1) * u) % 32)))), none]) (S' := [.int (zi 2), .int (zi (16 - ((((2 * x) + 1) * u) % 32)))]) rfl ?_
            by_cases hc15 : ¬ (16 - ((((2 * x) + 1) * u) % 32) : Int) = 2
            · refine gy_icT (pc' := 81) rfl (by decide) (by decide) (by omega) (by omega) hc15 ?_
              refine gz_s 2 (pc' := 83) (L' := [some (.int (zi u)), some (.int (zi x)), some (.int (zi ((((2 * x) + 1) * u) % 32))), some (.int (zi (16 - ((((2 * x) + 1) * u) % 32)))), none]) (S' := [.int (zi 3), .int (zi (16 - ((((2 * x) + 1) * u) % 32)))]) rfl ?_
              by_cases hc16 : ¬ (16 - ((((2 * x) + 1) * u) % 32) : Int) = 3
              · refine gy_icT (pc' := 92) rfl (by decide) (by decide) (by omega) (by omega) hc16 ?_
                refine gz_s 2 (pc' := 94) (L' := [some (.int (zi u)), some (.int (zi x)), some (.int (zi ((((2 * x) + 1) * u) % 32))), some (.int (zi (16 - ((((2 * x) + 1) * u) % 32)))), none]) (S' := [.int (zi 4), .int (zi (16 - ((((2 * x) + 1) * u) % 32)))]) rfl ?_
                by_cases hc17 : ¬ (16 - ((((2 * x) + 1) * u) % 32) : Int) = 4
                · refine gy_icT (pc' := 103) rfl (by decide) (by decide) (by omega) (by omega) hc17 ?_
                  refine gz_s 2 (pc' := 105) (L' := [some (.int (zi u)), some (.int (zi x)), some (.int (zi ((((2 * x) + 1) * u) % 32))), some (.int (zi (16 - ((((2 * x) + 1) * u) % 32)))), none]) (S' := [.int (zi 5), .int (zi (16 - ((((2 * x) + 1) * u) % 32)))]) rfl ?_
                  by_cases hc18 : ¬ (16 - ((((2 * x) + 1) * u) % 32) : Int) = 5
                  · refine gy_icT (pc' := 114) rfl (by decide) (by decide) (by omega) (by omega) hc18 ?_
                    refine gz_s 2 (pc' := 117) (L' := [some (.int (zi u)), some (.int (zi x)), some (.int (zi ((((2 * x) + 1) * u) % 32))), some (.int (zi (16 - ((((2 * x) + 1) * u) % 32)))), none]) (S' := [.int (zi 6), .int (zi (16 - ((((2 * x) + 1) * u) % 32)))]) rfl ?_
                    by_cases hc19 : ¬ (16 - ((((2 * x) + 1) * u) % 32) : Int) = 6
                    · refine gy_icT (pc' := 126) rfl (by decide) (by decide) (by omega) (by omega) hc19 ?_
                      refine gz_s 2 (pc' := 129) (L' := [some (.int (zi u)), some (.int (zi x)), some (.int (zi ((((2 * x) + 1) * u) % 32))), some (.int (zi (16 - ((((2 * x) + 1) * u) % 32)))), none]) (S' := [.int (zi 7), .int (zi (16 - ((((2 * x) + 1) * u) % 32)))]) rfl ?_
                      refine gy_icF rfl (by decide) (by decide) (by omega) (by omega) (by first | (simp [zc]; done) | (simp only [zc]; omega)) ?_
                      refine gz_s 5 (pc' := 144) (L' := [some (.int (zi u)), some (.int (zi x)), some (.int (zi ((((2 * x) + 1) * u) % 32))), some (.int (zi (16 - ((((2 * x) + 1) * u) % 32)))), some (.int (zi 799))]) (S' := [.int (zi 8), .int (zi ((((2 * x) + 1) * u) % 32))]) rfl ?_
                      refine gy_icF rfl (by decide) (by decide) (by omega) (by omega) (by first | (simp [zc]; done) | (simp only [zc]; omega)) ?_
                      refine gy_s 3 (pc' := 155) (L' := [some (.int (zi u)), some (.int (zi x)), some (.int (zi ((((2 * x) + 1) * u) % 32))), some (.int (zi (16 - ((((2 * x) + 1) * u) % 32)))), some (.int (zi 799))]) (S' := [.int (-(zi 799))]) (L2 := [some (.int (zi u)), some (.int (zi x)), some (.int (zi ((((2 * x) + 1) * u) % 32))), some (.int (zi (16 - ((((2 * x) + 1) * u) % 32)))), some (.int (zi 799))]) (S2 := [.int (zi (-799))]) rfl (by simp only [zi_add, zi_sub, zi_mul, zi_neg, zi_and1, zi_and7, zi_and15, zi_and31, zi_and255]) (by simp only [zi_add, zi_sub, zi_mul, zi_neg, zi_and1, zi_and7, zi_and15, zi_and31, zi_and255]) ?_
                      exact gz_end (I := .ireturn) (len := 1) rfl (Or.inl rfl) ⟨hS, -799, rfl, (by omega), (by omega)⟩
                    · refine gy_icF rfl (by decide) (by decide) (by omega) (by omega) hc19 ?_
                      refine gz_s 5 (pc' := 144) (L' := [some (.int (zi u)), some (.int (zi x)), some (.int (zi ((((2 * x) + 1) * u) % 32))), some (.int (zi (16 - ((((2 * x) + 1) * u) % 32)))), some (.int (zi 1567))]) (S' := [.int (zi 8), .int (zi ((((2 * x) + 1) * u) % 32))]) rfl ?_
                      refine gy_icF rfl (by decide) (by decide) (by omega) (by omega) (by first | (simp [zc]; done) | (simp only [zc]; omega)) ?_
                      refine gy_s 3 (pc' := 155) (L' := [some (.int (zi u)), some (.int (zi x)), some (.int (zi ((((2 * x) + 1) * u) % 32))), some (.int (zi (16 - ((((2 * x) + 1) * u) % 32)))), some (.int (zi 1567))]) (S' := [.int (-(zi 1567))]) (L2 := [some (.int (zi u)), some (.int (zi x)), some (.int (zi ((((2 * x) + 1) * u) % 32))), some (.int (zi (16 - ((((2 * x) + 1) * u) % 32)))), some (.int (zi 1567))]) (S2 := [.int (zi (-1567))]) rfl (by simp only [zi_add, zi_sub, zi_mul, zi_neg, zi_and1, zi_and7, zi_and15, zi_and31, zi_and255]) (by simp only [zi_add, zi_sub, zi_mul, zi_neg, zi_and1, zi_and7, zi_and15, zi_and31, zi_and255]) ?_
                      exact gz_end (I := .ireturn) (len := 1) rfl (Or.inl rfl) ⟨hS, -1567, rfl, (by omega), (by omega)⟩
                  · refine gy_icF rfl (by decide) (by decide) (by omega) (by omega) hc18 ?_
                    refine gz_s 5 (pc' := 144) (L' := [some (.int (zi u)), some (.int (zi x)), some (.int (zi ((((2 * x) + 1) * u) % 32))), some (.int (zi (16 - ((((2 * x) + 1) * u) % 32)))), some (.int (zi 2276))]) (S' := [.int (zi 8), .int (zi ((((2 * x) + 1) * u) % 32))]) rfl ?_
                    refine gy_icF rfl (by decide) (by decide) (by omega) (by omega) (by first | (simp [zc]; done) | (simp only [zc]; omega)) ?_
                    refine gy_s 3 (pc' := 155) (L' := [some (.int (zi u)), some (.int (zi x)), some (.int (zi ((((2 * x) + 1) * u) % 32))), some (.int (zi (16 - ((((2 * x) + 1) * u) % 32)))), some (.int (zi 2276))]) (S' := [.int (-(zi 2276))]) (L2 := [some (.int (zi u)), some (.int (zi x)), some (.int (zi ((((2 * x) + 1) * u) % 32))), some (.int (zi (16 - ((((2 * x) + 1) * u) % 32)))), some (.int (zi 2276))]) (S2 := [.int (zi (-2276))]) rfl (by simp only [zi_add, zi_sub, zi_mul, zi_neg, zi_and1, zi_and7, zi_and15, zi_and31, zi_and255]) (by simp only [zi_add, zi_sub, zi_mul, zi_neg, zi_and1, zi_and7, zi_and15, zi_and31, zi_and255]) ?_
                    exact gz_end (I := .ireturn) (len := 1) rfl (Or.inl rfl) ⟨hS, -2276, rfl, (by omega), (by omega)⟩
                · refine gy_icF rfl (by decide) (by decide) (by omega) (by omega) hc17 ?_
                  refine gz_s 5 (pc' := 144) (L' := [some (.int (zi u)), some (.int (zi x)), some (.int (zi ((((2 * x) + 1) * u) % 32))), some (.int (zi (16 - ((((2 * x) + 1) * u) % 32)))), some (.int (zi 2896))]) (S' := [.int (zi 8), .int (zi ((((2 * x) + 1) * u) % 32))]) rfl ?_
                  refine gy_icF rfl (by decide) (by decide) (by omega) (by omega) (by first | (simp [zc]; done) | (simp only [zc]; omega)) ?_
                  refine gy_s 3 (pc' := 155) (L' := [some (.int (zi u)), some (.int (zi x)), some (.int (zi ((((2 * x) + 1) * u) % 32))), some (.int (zi (16 - ((((2 * x) + 1) * u) % 32)))), some (.int (zi 2896))]) (S' := [.int (-(zi 2896))]) (L2 := [some (.int (zi u)), some (.int (zi x)), some (.int (zi ((((2 * x) + 1) * u) % 32))), some (.int (zi (16 - ((((2 * x) + 1) * u) % 32)))), some (.int (zi 2896))]) (S2 := [.int (zi (-2896))]) rfl (by simp only [zi_add, zi_sub, zi_mul, zi_neg, zi_and1, zi_and7, zi_and15, zi_and31, zi_and255]) (by simp only [zi_add, zi_sub, zi_mul, zi_neg, zi_and1, zi_and7, zi_and15, zi_and31, zi_and255]) ?_
                  exact gz_end (I := .ireturn) (len := 1) rfl (Or.inl rfl) ⟨hS, -2896, rfl, (by omega), (by omega)⟩
              · refine gy_icF rfl (by decide) (by decide) (by omega) (by omega) hc16 ?_
                refine gz_s 5 (pc' := 144) (L' := [some (.int (zi u)), some (.int (zi x)), some (.int (zi ((((2 * x) + 1) * u) % 32))), some (.int (zi (16 - ((((2 * x) + 1) * u) % 32)))), some (.int (zi 3406))]) (S' := [.int (zi 8), .int (zi ((((2 * x) + 1) * u) % 32))]) rfl ?_
                refine gy_icF rfl (by decide) (by decide) (by omega) (by omega) (by first | (simp [zc]; done) | (simp only [zc]; omega)) ?_
                refine gy_s 3 (pc' := 155) (L' := [some (.int (zi u)), some (.int (zi x)), some (.int (zi ((((2 * x) + 1) * u) % 32))), some (.int (zi (16 - ((((2 * x) + 1) * u) % 32)))), some (.int (zi 3406))]) (S' := [.int (-(zi 3406))]) (L2 := [some (.int (zi u)), some (.int (zi x)), some (.int (zi ((((2 * x) + 1) * u) % 32))), some (.int (zi (16 - ((((2 * x) + 1) * u) % 32)))), some (.int (zi 3406))]) (S2 := [.int (zi (-3406))]) rfl (by simp only [zi_add, zi_sub, zi_mul, zi_neg, zi_and1, zi_and7, zi_and15, zi_and31, zi_and255]) (by simp only [zi_add, zi_sub, zi_mul, zi_neg, zi_and1, zi_and7, zi_and15, zi_and31, zi_and255]) ?_
                exact gz_end (I := .ireturn) (len := 1) rfl (Or.inl rfl) ⟨hS, -3406, rfl, (by omega), (by omega)⟩
            · refine gy_icF rfl (by decide) (by decide) (by omega) (by omega) hc15 ?_
              refine gz_s 5 (pc' := 144) (L' := [some (.int (zi u)), some (.int (zi x)), some (.int (zi ((((2 * x) + 1) * u) % 32))), some (.int (zi (16 - ((((2 * x) + 1) * u) % 32)))), some (.int (zi 3784))]) (S' := [.int (zi 8), .int (zi ((((2 * x) + 1) * u) % 32))]) rfl ?_
              refine gy_icF rfl (by decide) (by decide) (by omega) (by omega) (by first | (simp [zc]; done) | (simp only [zc]; omega)) ?_
              refine gy_s 3 (pc' := 155) (L' := [some (.int (zi u)), some (.int (zi x)), some (.int (zi ((((2 * x) + 1) * u) % 32))), some (.int (zi (16 - ((((2 * x) + 1) * u) % 32)))), some (.int (zi 3784))]) (S' := [.int (-(zi 3784))]) (L2 := [some (.int (zi u)), some (.int (zi x)), some (.int (zi ((((2 * x) + 1) * u) % 32))), some (.int (zi (16 - ((((2 * x) + 1) * u) % 32)))), some (.int (zi 3784))]) (S2 := [.int (zi (-3784))]) rfl (by simp only [zi_add, zi_sub, zi_mul, zi_neg, zi_and1, zi_and7, zi_and15, zi_and31, zi_and255]) (by simp only [zi_add, zi_sub, zi_mul, zi_neg, zi_and1, zi_and7, zi_and15, zi_and31, zi_and255]) ?_
              exact gz_end (I := .ireturn) (len := 1) rfl (Or.inl rfl) ⟨hS, -3784, rfl, (by omega), (by omega)⟩
          · refine gy_icF rfl (by decide) (by decide) (by omega) (by omega) hc14 ?_
            refine gz_s 5 (pc' := 144) (L' := [some (.int (zi u)), some (.int (zi x)), some (.int (zi ((((2 * x) + 1) * u) % 32))), some (.int (zi (16 - ((((2 * x) + 1) * u) % 32)))), some (.int (zi 4017))]) (S' := [.int (zi 8), .int (zi ((((2 * x) + 1) * u) % 32))]) rfl ?_
            refine gy_icF rfl (by decide) (by decide) (by omega) (by omega) (by first | (simp [zc]; done) | (simp only [zc]; omega)) ?_
            refine gy_s 3 (pc' := 155) (L' := [some (.int (zi u)), some (.int (zi x)), some (.int (zi ((((2 * x) + 1) * u) % 32))), some (.int (zi (16 - ((((2 * x) + 1) * u) % 32)))), some (.int (zi 4017))]) (S' := [.int (-(zi 4017))]) (L2 := [some (.int (zi u)), some (.int (zi x)), some (.int (zi ((((2 * x) + 1) * u) % 32))), some (.int (zi (16 - ((((2 * x) + 1) * u) % 32)))), some (.int (zi 4017))]) (S2 := [.int (zi (-4017))]) rfl (by simp only [zi_add, zi_sub, zi_mul, zi_neg, zi_and1, zi_and7, zi_and15, zi_and31, zi_and255]) (by simp only [zi_add, zi_sub, zi_mul, zi_neg, zi_and1, zi_and7, zi_and15, zi_and31, zi_and255]) ?_
            exact gz_end (I := .ireturn) (len := 1) rfl (Or.inl rfl) ⟨hS, -4017, rfl, (by omega), (by omega)⟩
        · refine gy_ifF rfl (by decide) (by decide) (by omega) hc13 ?_
          refine gz_s 5 (pc' := 144) (L' := [some (.int (zi u)), some (.int (zi x)), some (.int (zi ((((2 * x) + 1) * u) % 32))), some (.int (zi (16 - ((((2 * x) + 1) * u) % 32)))), some (.int (zi 4096))]) (S' := [.int (zi 8), .int (zi ((((2 * x) + 1) * u) % 32))]) rfl ?_
          refine gy_icF rfl (by decide) (by decide) (by omega) (by omega) (by first | (simp [zc]; done) | (simp only [zc]; omega)) ?_
          refine gy_s 3 (pc' := 155) (L' := [some (.int (zi u)), some (.int (zi x)), some (.int (zi ((((2 * x) + 1) * u) % 32))), some (.int (zi (16 - ((((2 * x) + 1) * u) % 32)))), some (.int (zi 4096))]) (S' := [.int (-(zi 4096))]) (L2 := [some (.int (zi u)), some (.int (zi x)), some (.int (zi ((((2 * x) + 1) * u) % 32))), some (.int (zi (16 - ((((2 * x) + 1) * u) % 32)))), some (.int (zi 4096))]) (S2 := [.int (zi (-4096))]) rfl (by simp only [zi_add, zi_sub, zi_mul, zi_neg, zi_and1, zi_and7, zi_and15, zi_and31, zi_and255]) (by simp only [zi_add, zi_sub, zi_mul, zi_neg, zi_and1, zi_and7, zi_and15, zi_and31, zi_and255]) ?_
          exact gz_end (I := .ireturn) (len := 1) rfl (Or.inl rfl) ⟨hS, -4096, rfl, (by omega), (by omega)⟩
    · refine gy_icF rfl (by decide) (by decide) (by omega) (by omega) hc3 ?_
      refine gy_s 7 (pc' := 37) (L' := [some (.int (zi u)), some (.int (zi x)), some (.int ((zi 32) - (zi ((((2 * x) + 1) * u) % 32)))), none, none]) (S' := [.int (zi 8), .int ((zi 32) - (zi ((((2 * x) + 1) * u) % 32)))]) (L2 := [some (.int (zi u)), some (.int (zi x)), some (.int (zi (32 - ((((2 * x) + 1) * u) % 32)))), none, none]) (S2 := [.int (zi 8), .int (zi (32 - ((((2 * x) + 1) * u) % 32)))]) rfl (by simp only [zi_add, zi_sub, zi_mul, zi_neg, zi_and1, zi_and7, zi_and15, zi_and31, zi_and255]) (by simp only [zi_add, zi_sub, zi_mul, zi_neg, zi_and1, zi_and7, zi_and15, zi_and31, zi_and255]) ?_
      by_cases hc20 : (32 - ((((2 * x) + 1) * u) % 32) : Int) ≤ 8
      · refine gy_icT (pc' := 47) rfl (by decide) (by decide) (by omega) (by omega) hc20 ?_
        refine gz_s 3 (pc' := 50) (L' := [some (.int (zi u)), some (.int (zi x)), some (.int (zi (32 - ((((2 * x) + 1) * u) % 32)))), some (.int (zi (32 - ((((2 * x) + 1) * u) % 32)))), none]) (S' := [.int (zi (32 - ((((2 * x) + 1) * u) % 32)))]) rfl ?_
        refine gy_ifT (pc' := 59) rfl (by decide) (by decide) (by omega) (by first | (simp [zc]; done) | (simp only [zc]; omega)) ?_
        refine gz_s 2 (pc' := 61) (L' := [some (.int (zi u)), some (.int (zi x)), some (.int (zi (32 - ((((2 * x) + 1) * u) % 32)))), some (.int (zi (32 - ((((2 * x) + 1) * u) % 32)))), none]) (S' := [.int (zi 1), .int (zi (32 - ((((2 * x) + 1) * u) % 32)))]) rfl ?_
        by_cases hc21 : ¬ (32 - ((((2 * x) + 1) * u) % 32) : Int) = 1
        · refine gy_icT (pc' := 70) rfl (by decide) (by decide) (by omega) (by omega) hc21 ?_
          refine gz_s 2 (pc' := 72) (L' := [some (.int (zi u)), some (.int (zi x)), some (.int (zi (32 - ((((2 * x) + 1) * u) % 32)))), some (.int (zi (32 - ((((2 * x) + 1) * u) % 32)))), none]) (S' := [.int (zi 2), .int (zi (32 - ((((2 * x) + 1) * u) % 32)))]) rfl ?_
          by_cases hc22 : ¬ (32 - ((((2 * x) + 1) * u) % 32) : Int) = 2
          · refine gy_icT (pc' := 81) rfl (by decide) (by decide) (by omega) (by omega) hc22 ?_
            refine gz_s 2 (pc' := 83) (L' := [some (.int (zi u)), some (.int (zi x)), some (.int (zi (32 - ((((2 * x) + 1) * u) % 32)))), some (.int (zi (32 - ((((2 * x) + 1) * u) % 32)))), none]) (S' := [.int (zi 3), .int (zi (32 - ((((2 * x) + 1) * u) % 32)))]) rfl ?_
            by_cases hc23 : ¬ (32 - ((((2 * x) + 1) * u) % 32) : Int) = 3
            · refine gy_icT (pc' := 92) rfl (by decide) (by decide) (by omega) (by omega) hc23 ?_
              refine gz_s 2 (pc' := 94) (L' := [some (.int (zi u)), some (.int (zi x)), some (.int (zi (32 - ((((2 * x) + 1) * u) % 32)))), some (.int (zi (32 - ((((2 * x) + 1) * u) % 32)))), none]) (S' := [.int (zi 4), .int (zi (32 - ((((2 * x) + 1) * u) % 32)))]) rfl ?_
              by_cases hc24 : ¬ (32 - ((((2 * x) + 1) * u) % 32) : Int) = 4
              · refine gy_icT (pc' := 103) rfl (by decide) (by decide) (by omega) (by omega) hc24 ?_
                refine gz_s 2 (pc' := 105) (L' := [some (.int (zi u)), some (.int (zi x)), some (.int (zi (32 - ((((2 * x) + 1) * u) % 32)))), some (.int (zi (32 - ((((2 * x) + 1) * u) % 32)))), none]) (S' := [.int (zi 5), .int (zi (32 - ((((2 * x) + 1) * u) % 32)))]) rfl ?_
                by_cases hc25 : ¬ (32 - ((((2 * x) + 1) * u) % 32) : Int) = 5
                · refine gy_icT (pc' := 114) rfl (by decide) (by decide) (by omega) (by omega) hc25 ?_
                  refine gz_s 2 (pc' := 117) (L' := [some (.int (zi u)), some (.int (zi x)), some (.int (zi (32 - ((((2 * x) + 1) * u) % 32)))), some (.int (zi (32 - ((((2 * x) + 1) * u) % 32)))), none]) (S' := [.int (zi 6), .int (zi (32 - ((((2 * x) + 1) * u) % 32)))]) rfl ?_
                  by_cases hc26 : ¬ (32 - ((((2 * x) + 1) * u) % 32) : Int) = 6
                  · refine gy_icT (pc' := 126) rfl (by decide) (by decide) (by omega) (by omega) hc26 ?_
                    refine gz_s 2 (pc' := 129) (L' := [some (.int (zi u)), some (.int (zi x)), some (.int (zi (32 - ((((2 * x) + 1) * u) % 32)))), some (.int (zi (32 - ((((2 * x) + 1) * u) % 32)))), none]) (S' := [.int (zi 7), .int (zi (32 - ((((2 * x) + 1) * u) % 32)))]) rfl ?_
                    by_cases hc27 : ¬ (32 - ((((2 * x) + 1) * u) % 32) : Int) = 7
                    · refine gy_icT (pc' := 138) rfl (by decide) (by decide) (by omega) (by omega) hc27 ?_
                      refine gz_s 4 (pc' := 144) (L' := [some (.int (zi u)), some (.int (zi x)), some (.int (zi (32 - ((((2 * x) + 1) * u) % 32)))), some (.int (zi (32 - ((((2 * x) + 1) * u) % 32)))), some (.int (zi 0))]) (S' := [.int (zi 8), .int (zi (32 - ((((2 * x) + 1) * u) % 32)))]) rfl ?_
                      refine gy_icT (pc' := 153) rfl (by decide) (by decide) (by omega) (by omega) (by first | (simp [zc]; done) | (simp only [zc]; omega)) ?_
                      refine gz_s 1 (pc' := 155) (L' := [some (.int (zi u)), some (.int (zi x)), some (.int (zi (32 - ((((2 * x) + 1) * u) % 32)))), some (.int (zi (32 - ((((2 * x) + 1) * u) % 32)))), some (.int (zi 0))]) (S' := [.int (zi 0)]) rfl ?_
                      exact gz_end (I := .ireturn) (len := 1) rfl (Or.inl rfl) ⟨hS, 0, rfl, (by omega), (by omega)⟩
                    · refine gy_icF rfl (by decide) (by decide) (by omega) (by omega) hc27 ?_
                      refine gz_s 5 (pc' := 144) (L' := [some (.int (zi u)), some (.int (zi x)), some (.int (zi (32 - ((((2 * x) + 1) * u) % 32)))), some (.int (zi (32 - ((((2 * x) + 1) * u) % 32)))), some (.int (zi 799))]) (S' := [.int (zi 8), .int (zi (32 - ((((2 * x) + 1) * u) % 32)))]) rfl ?_
                      refine gy_icT (pc' := 153) rfl (by decide) (by decide) (by omega) (by omega) (by first | (simp [zc]; done) | (simp only [zc]; omega)) ?_
                      refine gz_s 1 (pc' := 155) (L' := [some (.int (zi u)), some (.int (zi x)), some (.int (zi (32 - ((((2 * x) + 1) * u) % 32)))), some (.int (zi (32 - ((((2 * x) + 1) * u) % 32)))), some (.int (zi 799))]) (S' := [.int (zi 799)]) rfl ?_
                      exact gz_end (I := .ireturn) (len := 1) rfl (Or.inl rfl) ⟨hS, 799, rfl, (by omega), (by omega)⟩
                  · refine gy_icF rfl (by decide) (by decide) (by omega) (by omega) hc26 ?_
                    refine gz_s 5 (pc' := 144) (L' := [some (.int (zi u)), some (.int (zi x)), some (.int (zi (32 - ((((2 * x) + 1) * u) % 32)))), some (.int (zi (32 - ((((2 * x) + 1) * u) % 32)))), some (.int (zi 1567))]) (S' := [.int (zi 8), .int (zi (32 - ((((2 * x) + 1) * u) % 32)))]) rfl ?_
                    refine gy_icT (pc' := 153) rfl (by decide) (by decide) (by omega) (by omega) (by first | (simp [zc]; done) | (simp only [zc]; omega)) ?_
                    refine gz_s 1 (pc' := 155) (L' := [some (.int (zi u)), some (.int (zi x)), some (.int (zi (32 - ((((2 * x) + 1) * u) % 32)))), some (.int (zi (32 - ((((2 * x) + 1) * u) % 32)))), some (.int (zi 1567))]) (S' := [.int (zi 1567)]) rfl ?_
                    exact gz_end (I := .ireturn) (len := 1) rfl (Or.inl rfl) ⟨hS, 1567, rfl, (by omega), (by omega)⟩
                · refine gy_icF rfl (by decide) (by decide) (by omega) (by omega) hc25 ?_
                  refine gz_s 5 (pc' := 144) (L' := [some (.int (zi u)), some (.int (zi x)), some (.int (zi (32 - ((((2 * x) + 1) * u) % 32)))), some (.int (zi (32 - ((((2 * x) + 1) * u) % 32)))), some (.int (zi 2276))]) (S' := [.int (zi 8), .int (zi (32 - ((((2 * x) + 1) * u) % 32)))]) rfl ?_
                  refine gy_icT (pc' := 153) rfl (by decide) (by decide) (by omega) (by omega) (by first | (simp [zc]; done) | (simp only [zc]; omega)) ?_
                  refine gz_s 1 (pc' := 155) (L' := [some (.int (zi u)), some (.int (zi x)), some (.int (zi (32 - ((((2 * x) + 1) * u) % 32)))), some (.int (zi (32 - ((((2 * x) + 1) * u) % 32)))), some (.int (zi 2276))]) (S' := [.int (zi 2276)]) rfl ?_
                  exact gz_end (I := .ireturn) (len := 1) rfl (Or.inl rfl) ⟨hS, 2276, rfl, (by omega), (by omega)⟩
              · refine gy_icF rfl (by decide) (by decide) (by omega) (by omega) hc24 ?_
                refine gz_s 5 (pc' := 144) (L' := [some (.int (zi u)), some (.int (zi x)), some (.int (zi (32 - ((((2 * x) + 1) * u) % 32)))), some (.int (zi (32 - ((((2 * x) + 1) * u) % 32)))), some (.int (zi 2896))]) (S' := [.int (zi 8), .int (zi (32 - ((((2 * x) + 1) * u) % 32)))]) rfl ?_
                refine gy_icT (pc' := 153) rfl (by decide) (by decide) (by omega) (by omega) (by first | (simp [zc]; done) | (simp only [zc]; omega)) ?_
                refine gz_s 1 (pc' := 155) (L' := [some (.int (zi u)), some (.int (zi x)), some (.int (zi (32 - ((((2 * x) + 1) * u) % 32)))), some (.int (zi (32 - ((((2 * x) + 1) * u) % 32)))), some (.int (zi 2896))]) (S' := [.int (zi 2896)]) rfl ?_
                exact gz_end (I := .ireturn) (len := 1) rfl (Or.inl rfl) ⟨hS, 2896, rfl, (by omega), (by omega)⟩
            · refine gy_icF rfl (by decide) (by decide) (by omega) (by omega) hc23 ?_
              refine gz_s 5 (pc' := 144) (L' := [some (.int (zi u)), some (.int (zi x)), some (.int (zi (32 - ((((2 * x) + 1) * u) % 32)))), some (.int (zi (32 - ((((2 * x) + 1) * u) % 32)))), some (.int (zi 3406))]) (S' := [.int (zi 8), .int (zi (32 - ((((2 * x) + 1) * u) % 32)))]) rfl ?_
              refine gy_icT (pc' := 153) rfl (by decide) (by decide) (by omega) (by omega) (by first | (simp [zc]; done) | (simp only [zc]; omega)) ?_
              refine gz_s 1 (pc' := 155) (L' := [some (.int (zi u)), some (.int (zi x)), some (.int (zi (32 - ((((2 * x) + 1) * u) % 32)))), some (.int (zi (32 - ((((2 * x) + 1) * u) % 32)))), some (.int (zi 3406))]) (S' := [.int (zi 3406)]) rfl ?_
              exact gz_end (I := .ireturn) (len := 1) rfl (Or.inl rfl) ⟨hS, 3406, rfl, (by omega), (by omega)⟩
          · refine gy_icF rfl (by decide) (by decide) (by omega) (by omega) hc22 ?_
            refine gz_s 5 (pc' := 144) (L' := [some (.int (zi u)), some (.int (zi x)), some (.int (zi (32 - ((((2 * x) + 1) * u) % 32)))), some (.int (zi (32 - ((((2 * x) + 1) * u) % 32)))), some (.int (zi 3784))]) (S' := [.int (zi 8), .int (zi (32 - ((((2 * x) + 1) * u) % 32)))]) rfl ?_
            refine gy_icT (pc' := 153) rfl (by decide) (by decide) (by omega) (by omega) (by first | (simp [zc]; done) | (simp only [zc]; omega)) ?_
            refine gz_s 1 (pc' := 155) (L' := [some (.int (zi u)), some (.int (zi x)), some (.int (zi (32 - ((((2 * x) + 1) * u) % 32)))), some (.int (zi (32 - ((((2 * x) + 1) * u) % 32)))), some (.int (zi 3784))]) (S' := [.int (zi 3784)]) rfl ?_
            exact gz_end (I := .ireturn) (len := 1) rfl (Or.inl rfl) ⟨hS, 3784, rfl, (by omega), (by omega)⟩
        · refine gy_icF rfl (by decide) (by decide) (by omega) (by omega) hc21 ?_
          refine gz_s 5 (pc' := 144) (L' := [some (.int (zi u)), some (.int (zi x)), some (.int (zi (32 - ((((2 * x) + 1) * u) % 32)))), some (.int (zi (32 - ((((2 * x) + 1) * u) % 32)))), some (.int (zi 4017))]) (S' := [.int (zi 8), .int (zi (32 - ((((2 * x) + 1) * u) % 32)))]) rfl ?_
          refine gy_icT (pc' := 153) rfl (by decide) (by decide) (by omega) (by omega) (by first | (simp [zc]; done) | (simp only [zc]; omega)) ?_
          refine gz_s 1 (pc' := 155) (L' := [some (.int (zi u)), some (.int (zi x)), some (.int (zi (32 - ((((2 * x) + 1) * u) % 32)))), some (.int (zi (32 - ((((2 * x) + 1) * u) % 32)))), some (.int (zi 4017))]) (S' := [.int (zi 4017)]) rfl ?_
          exact gz_end (I := .ireturn) (len := 1) rfl (Or.inl rfl) ⟨hS, 4017, rfl, (by omega), (by omega)⟩
      · refine gy_icF rfl (by decide) (by decide) (by omega) (by omega) hc20 ?_
        refine gy_s 6 (pc' := 50) (L' := [some (.int (zi u)), some (.int (zi x)), some (.int (zi (32 - ((((2 * x) + 1) * u) % 32)))), some (.int ((zi 16) - (zi (32 - ((((2 * x) + 1) * u) % 32))))), none]) (S' := [.int ((zi 16) - (zi (32 - ((((2 * x) + 1) * u) % 32))))]) (L2 := [some (.int (zi u)), some (.int (zi x)), some (.int (zi (32 - ((((2 * x) + 1) * u) % 32)))), some (.int (zi (16 - (32 - ((((2 * x) + 1) * u) % 32))))), none]) (S2 := [.int (zi (16 - (32 - ((((2 * x) + 1) * u) % 32))))]) rfl (by simp only [zi_add, zi_sub, zi_mul, zi_neg, zi_and1, zi_and7, zi_and15, zi_and31, zi_and255]) (by simp only [zi_add, zi_sub, zi_mul, zi_neg, zi_and1, zi_and7, zi_and15, zi_and31, zi_and255]) ?_
        refine gy_ifT (pc' := 59) rfl (by decide) (by decide) (by omega) (by first | (simp [zc]; done) | (simp only [zc]; omega)) ?_
        refine gz_s 2 (pc' := 61) (L' := [some (.int (zi u)), some (.int (zi x)), some (.int (zi (32 - ((((2 * x) + 1) * u) % 32)))), some (.int (zi (16 - (32 - ((((2 * x) + 1) * u) % 32))))), none]) (S' := [.int (zi 1), .int (zi (16 - (32 - ((((2 * x) + 1) * u) % 32))))]) rfl ?_
        by_cases hc28 : ¬ (16 - (32 - ((((2 * x) + 1) * u) % 32)) : Int) = 1
        · refine gy_icT (pc' := 70) rfl (by decide) (by decide) (by omega) (by omega) hc28 ?_
          refine gz_s 2 (pc' := 72) (L' := [some (.int (zi u)), some (.int (zi x)), some (.int (zi (32 - ((((2 * x) + 1) * u) % 32)))), some (.int (zi (16 - (32 - ((((2 * x) + 1) * u) % 32))))), none]) (S' := [.int (zi 2), .int (zi (16 - (32 - ((((2 * x) + 1) * u) % 32))))]) rfl ?_
          by_cases hc29 : ¬ (16 - (32 - ((((2 * x) + 1) * u) % 32)) : Int) = 2
          · refine gy_icT (pc' := 81) rfl (by decide) (by decide) (by omega) (by omega) hc29 ?_
            refine gz_s 2 (pc' := 83) (L' := [some (.int (zi u)), some (.int (zi x)), some (.int (zi (32 - ((((2 * x) + 1) * u) % 32)))), some (.int (zi (16 - (32 - ((((2 * x) + 1) * u) % 32))))), none]) (S' := [.int (zi 3), .int (zi (16 - (32 - ((((2 * x) + 1) * u) % 32))))]) rfl ?_
            by_cases hc30 : ¬ (16 - (32 - ((((2 * x) + 1) * u) % 32)) : Int) = 3
            · refine gy_icT (pc' := 92) rfl (by decide) (by decide) (by omega) (by omega) hc30 ?_
              refine gz_s 2 (pc' := 94) (L' := [some (.int (zi u)), some (.int (zi x)), some (.int (zi (32 - ((((2 * x) + 1) * u) % 32)))), some (.int (zi (16 - (32 - ((((2 * x) + 1) * u) % 32))))), none]) (S' := [.int (zi 4), .int (zi (16 - (32 - ((((2 * x) + 1) * u) % 32))))]) rfl ?_
              by_cases hc31 : ¬ (16 - (32 - ((((2 * x) + 1) * u) % 32)) : Int) = 4
              · refine gy_icT (pc' := 103) rfl (by decide) (by decide) (by omega) (by omega) hc31 ?_
                refine gz_s 2 (pc' := 105) (L' := [some (.int (zi u)), some (.int (zi x)), some (.int (zi (32 - ((((2 * x) + 1) * u) % 32)))), some (.int (zi (16 - (32 - ((((2 * x) + 1) * u) % 32))))), none]) (S' := [.int (zi 5), .int (zi (16 - (32 - ((((2 * x) + 1) * u) % 32))))]) rfl ?_
                by_cases hc32 : ¬ (16 - (32 - ((((2 * x) + 1) * u) % 32)) : Int) = 5
                · refine gy_icT (pc' := 114) rfl (by decide) (by decide) (by omega) (by omega) hc32 ?_
                  refine gz_s 2 (pc' := 117) (L' := [some (.int (zi u)), some (.int (zi x)), some (.int (zi (32 - ((((2 * x) + 1) * u) % 32)))), some (.int (zi (16 - (32 - ((((2 * x) + 1) * u) % 32))))), none]) (S' := [.int (zi 6), .int (zi (16 - (32 - ((((2 * x) + 1) * u) % 32))))]) rfl ?_
                  by_cases hc33 : ¬ (16 - (32 - ((((2 * x) + 1) * u) % 32)) : Int) = 6
                  · refine gy_icT (pc' := 126) rfl (by decide) (by decide) (by omega) (by omega) hc33 ?_
                    refine gz_s 2 (pc' := 129) (L' := [some (.int (zi u)), some (.int (zi x)), some (.int (zi (32 - ((((2 * x) + 1) * u) % 32)))), some (.int (zi (16 - (32 - ((((2 * x) + 1) * u) % 32))))), none]) (S' := [.int (zi 7), .int (zi (16 - (32 - ((((2 * x) + 1) * u) % 32))))]) rfl ?_
                    refine gy_icF rfl (by decide) (by decide) (by omega) (by omega) (by first | (simp [zc]; done) | (simp only [zc]; omega)) ?_
                    refine gz_s 5 (pc' := 144) (L' := [some (.int (zi u)), some (.int (zi x)), some (.int (zi (32 - ((((2 * x) + 1) * u) % 32)))), some (.int (zi (16 - (32 - ((((2 * x) + 1) * u) % 32))))), some (.int (zi 799))]) (S' := [.int (zi 8), .int (zi (32 - ((((2 * x) + 1) * u) % 32)))]) rfl ?_
                    refine gy_icF rfl (by decide) (by decide) (by omega) (by omega) (by first | (simp [zc]; done) | (simp only [zc]; omega)) ?_
                    refine gy_s 3 (pc' := 155) (L' := [some (.int (zi u)), some (.int (zi x)), some (.int (zi (32 - ((((2 * x) + 1) * u) % 32)))), some (.int (zi (16 - (32 - ((((2 * x) + 1) * u) % 32))))), some (.int (zi 799))]) (S' := [.int (-(zi 799))]) (L2 := [some (.int (zi u)), some (.int (zi x)), some (.int (zi (32 - ((((2 * x) + 1) * u) % 32)))), some (.int (zi (16 - (32 - ((((2 * x) + 1) * u) % 32))))), some (.int (zi 799))]) (S2 := [.int (zi (-799))]) rfl (by simp only [zi_add, zi_sub, zi_mul, zi_neg, zi_and1, zi_and7, zi_and15, zi_and31, zi_and255]) (by simp only [zi_add, zi_sub, zi_mul, zi_neg, zi_and1, zi_and7, zi_and15, zi_and31, zi_and255]) ?_
                    exact gz_end (I := .ireturn) (len := 1) rfl (Or.inl rfl) ⟨hS, -799, rfl, (by omega), (by omega)⟩
                  · refine gy_icF rfl (by decide) (by decide) (by omega) (by omega) hc33 ?_
                    refine gz_s 5 (pc' := 144) (L' := [some (.int (zi u)), some (.int (zi x)), some (.int (zi (32 - ((((2 * x) + 1) * u) % 32)))), some (.int (zi (16 - (32 - ((((2 * x) + 1) * u) % 32))))), some (.int (zi 1567))]) (S' := [.int (zi 8), .int (zi (32 - ((((2 * x) + 1) * u) % 32)))]) rfl ?_
                    refine gy_icF rfl (by decide) (by decide) (by omega) (by omega) (by first | (simp [zc]; done) | (simp only [zc]; omega)) ?_
                    refine gy_s 3 (pc' := 155) (L' := [some (.int (zi u)), some (.int (zi x)), some (.int (zi (32 - ((((2 * x) + 1) * u) % 32)))), some (.int (zi (16 - (32 - ((((2 * x) + 1) * u) % 32))))), some (.int (zi 1567))]) (S' := [.int (-(zi 1567))]) (L2 := [some (.int (zi u)), some (.int (zi x)), some (.int (zi (32 - ((((2 * x) + 1) * u) % 32)))), some (.int (zi (16 - (32 - ((((2 * x) + 1) * u) % 32))))), some (.int (zi 1567))]) (S2 := [.int (zi (-1567))]) rfl (by simp only [zi_add, zi_sub, zi_mul, zi_neg, zi_and1, zi_and7, zi_and15, zi_and31, zi_and255]) (by simp only [zi_add, zi_sub, zi_mul, zi_neg, zi_and1, zi_and7, zi_and15, zi_and31, zi_and255]) ?_
                    exact gz_end (I := .ireturn) (len := 1) rfl (Or.inl rfl) ⟨hS, -1567, rfl, (by omega), (by omega)⟩
                · refine gy_icF rfl (by decide) (by decide) (by omega) (by omega) hc32 ?_
                  refine gz_s 5 (pc' := 144) (L' := [some (.int (zi u)), some (.int (zi x)), some (.int (zi (32 - ((((2 * x) + 1) * u) % 32)))), some (.int (zi (16 - (32 - ((((2 * x) + 1) * u) % 32))))), some (.int (zi 2276))]) (S' := [.int (zi 8), .int (zi (32 - ((((2 * x) + 1) * u) % 32)))]) rfl ?_
                  refine gy_icF rfl (by decide) (by decide) (by omega) (by omega) (by first | (simp [zc]; done) | (simp only [zc]; omega)) ?_
                  refine gy_s 3 (pc' := 155) (L' := [some (.int (zi u)), some (.int (zi x)), some (.int (zi (32 - ((((2 * x) + 1) * u) % 32)))), some (.int (zi (16 - (32 - ((((2 * x) + 1) * u) % 32))))), some (.int (zi 2276))]) (S' := [.int (-(zi 2276))]) (L2 := [some (.int (zi u)), some (.int (zi x)), some (.int (zi (32 - ((((2 * x) + 1) * u) % 32)))), some (.int (zi (16 - (32 - ((((2 * x) + 1) * u) % 32))))), some (.int (zi 2276))]) (S2 := [.int (zi (-2276))]) rfl (by simp only [zi_add, zi_sub, zi_mul, zi_neg, zi_and1, zi_and7, zi_and15, zi_and31, zi_and255]) (by simp only [zi_add, zi_sub, zi_mul, zi_neg, zi_and1, zi_and7, zi_and15, zi_and31, zi_and255]) ?_
                  exact gz_end (I := .ireturn) (len := 1) rfl (Or.inl rfl) ⟨hS, -2276, rfl, (by omega), (by omega)⟩
              · refine gy_icF rfl (by decide) (by decide) (by omega) (by omega) hc31 ?_
                refine gz_s 5 (pc' := 144) (L' := [some (.int (zi u)), some (.int (zi x)), some (.int (zi (32 - ((((2 * x) + 1) * u) % 32)))), some (.int (zi (16 - (32 - ((((2 * x) + 1) * u) % 32))))), some (.int (zi 2896))]) (S' := [.int (zi 8), .int (zi (32 - ((((2 * x) + 1) * u) % 32)))]) rfl ?_
                refine gy_icF rfl (by decide) (by decide) (by omega) (by omega) (by first | (simp [zc]; done) | (simp only [zc]; omega)) ?_
                refine gy_s 3 (pc' := 155) (L' := [some (.int (zi u)), some (.int (zi x)), some (.int (zi (32 - ((((2 * x) + 1) * u) % 32)))), some (.int (zi (16 - (32 - ((((2 * x) + 1) * u) % 32))))), some (.int (zi 2896))]) (S' := [.int (-(zi 2896))]) (L2 := [some (.int (zi u)), some (.int (zi x)), some (.int (zi (32 - ((((2 * x) + 1) * u) % 32)))), some (.int (zi (16 - (32 - ((((2 * x) + 1) * u) % 32))))), some (.int (zi 2896))]) (S2 := [.int (zi (-2896))]) rfl (by simp only [zi_add, zi_sub, zi_mul, zi_neg, zi_and1, zi_and7, zi_and15, zi_and31, zi_and255]) (by simp only [zi_add, zi_sub, zi_mul, zi_neg, zi_and1, zi_and7, zi_and15, zi_and31, zi_and255]) ?_
                exact gz_end (I := .ireturn) (len := 1) rfl (Or.inl rfl) ⟨hS, -2896, rfl, (by omega), (by omega)⟩
            · refine gy_icF rfl (by decide) (by decide) (by omega) (by omega) hc30 ?_
              refine gz_s 5 (pc' := 144) (L' := [some (.int (zi u)), some (.int (zi x)), some (.int (zi (32 - ((((2 * x) + 1) * u) % 32)))), some (.int (zi (16 - (32 - ((((2 * x) + 1) * u) % 32))))), some (.int (zi 3406))]) (S' := [.int (zi 8), .int (zi (32 - ((((2 * x) + 1) * u) % 32)))]) rfl ?_
              refine gy_icF rfl (by decide) (by decide) (by omega) (by omega) (by first | (simp [zc]; done) | (simp only [zc]; omega)) ?_
              refine gy_s 3 (pc' := 155) (L' := [some (.int (zi u)), some (.int (zi x)), some (.int (zi (32 - ((((2 * x) + 1) * u) % 32)))), some (.int (zi (16 - (32 - ((((2 * x) + 1) * u) % 32))))), some (.int (zi 3406))]) (S' := [.int (-(zi 3406))]) (L2 := [some (.int (zi u)), some (.int (zi x)), some (.int (zi (32 - ((((2 * x) + 1) * u) % 32)))), some (.int (zi (16 - (32 - ((((2 * x) + 1) * u) % 32))))), some (.int (zi 3406))]) (S2 := [.int (zi (-3406))]) rfl (by simp only [zi_add, zi_sub, zi_mul, zi_neg, zi_and1, zi_and7, zi_and15, zi_and31, zi_and255]) (by simp only [zi_add, zi_sub, zi_mul, zi_neg, zi_and1, zi_and7, zi_and15, zi_and31, zi_and255]) ?_
              exact gz_end (I := .ireturn) (len := 1) rfl (Or.inl rfl) ⟨hS, -3406, rfl, (by omega), (by omega)⟩
          · refine gy_icF rfl (by decide) (by decide) (by omega) (by omega) hc29 ?_
            refine gz_s 5 (pc' := 144) (L' := [some (.int (zi u)), some (.int (zi x)), some (.int (zi (32 - ((((2 * x) + 1) * u) % 32)))), some (.int (zi (16 - (32 - ((((2 * x) + 1) * u) % 32))))), some (.int (zi 3784))]) (S' := [.int (zi 8), .int (zi (32 - ((((2 * x) + 1) * u) % 32)))]) rfl ?_
            refine gy_icF rfl (by decide) (by decide) (by omega) (by omega) (by first | (simp [zc]; done) | (simp only [zc]; omega)) ?_
            refine gy_s 3 (pc' := 155) (L' := [some (.int (zi u)), some (.int (zi x)), some (.int (zi (32 - ((((2 * x) + 1) * u) % 32)))), some (.int (zi (16 - (32 - ((((2 * x) + 1) * u) % 32))))), some (.int (zi 3784))]) (S' := [.int (-(zi 3784))]) (L2 := [some (.int (zi u)), some (.int (zi x)), some (.int (zi (32 - ((((2 * x) + 1) * u) % 32)))), some (.int (zi (16 - (32 - ((((2 * x) + 1) * u) % 32))))), some (.int (zi 3784))]) (S2 := [.int (zi (-3784))]) rfl (by simp only [zi_add, zi_sub, zi_mul, zi_neg, zi_and1, zi_and7, zi_and15, zi_and31, zi_and255]) (by simp only [zi_add, zi_sub, zi_mul, zi_neg, zi_and1, zi_and7, zi_and15, zi_and31, zi_and255]) ?_
            exact gz_end (I := .ireturn) (len := 1) rfl (Or.inl rfl) ⟨hS, -3784, rfl, (by omega), (by omega)⟩
        · refine gy_icF rfl (by decide) (by decide) (by omega) (by omega) hc28 ?_
          refine gz_s 5 (pc' := 144) (L' := [some (.int (zi u)), some (.int (zi x)), some (.int (zi (32 - ((((2 * x) + 1) * u) % 32)))), some (.int (zi (16 - (32 - ((((2 * x) + 1) * u) % 32))))), some (.int (zi 4017))]) (S' := [.int (zi 8), .int (zi (32 - ((((2 * x) + 1) * u) % 32)))]) rfl ?_
          refine gy_icF rfl (by decide) (by decide) (by omega) (by omega) (by first | (simp [zc]; done) | (simp only [zc]; omega)) ?_
          refine gy_s 3 (pc' := 155) (L' := [some (.int (zi u)), some (.int (zi x)), some (.int (zi (32 - ((((2 * x) + 1) * u) % 32)))), some (.int (zi (16 - (32 - ((((2 * x) + 1) * u) % 32))))), some (.int (zi 4017))]) (S' := [.int (-(zi 4017))]) (L2 := [some (.int (zi u)), some (.int (zi x)), some (.int (zi (32 - ((((2 * x) + 1) * u) % 32)))), some (.int (zi (16 - (32 - ((((2 * x) + 1) * u) % 32))))), some (.int (zi 4017))]) (S2 := [.int (zi (-4017))]) rfl (by simp only [zi_add, zi_sub, zi_mul, zi_neg, zi_and1, zi_and7, zi_and15, zi_and31, zi_and255]) (by simp only [zi_add, zi_sub, zi_mul, zi_neg, zi_and1, zi_and7, zi_and15, zi_and31, zi_and255]) ?_
          exact gz_end (I := .ireturn) (len := 1) rfl (Or.inl rfl) ⟨hS, -4017, rfl, (by omega), (by omega)⟩
  · refine gy_ifF rfl (by decide) (by decide) (by omega) hc1 ?_
    refine gz_s 1 (pc' := 7) (L' := [some (.int (zi u)), some (.int (zi x)), none, none, none]) (S' := [.int (zi 2896)]) rfl ?_
    exact gz_end (I := .ireturn) (len := 1) rfl (Or.inl rfl) ⟨hS, 2896, rfl, (by omega), (by omega)⟩
set_option maxRecDepth 20000 in
set_option maxHeartbeats 4000000 in
theorem mm_leastNode (d : Nat) {ty : Nat → Nat} {h : gH} (hJ : gJ rT 1027 ty h) (m : Nat) (tm : ty m = 1) (nd : Int) (rnd : 0 ≤ nd ∧ nd ≤ 513) : gz gPP gGG gcn (d + 0) gt203 0 (gent [.ref m, .int (zi nd)] 5) [] h (fun q _ => gSs rT 1027 ty [] h q.2.2 ∧ ∃ z : Int, gfin gt203 q.1 q.2.1 = some (some (.int (zi z))) ∧ (-1) ≤ z ∧ z ≤ 512 ∧ (z < nd)) := by
  have hS : gSs rT 1027 ty [] h h := gSs.rf hJ
  refine gz_s 4 (pc' := 4) (L' := [some (.ref m), some (.int (zi nd)), some (.int (zi (-1))), some (.int (zi 0)), none]) (S' := []) rfl ?_
  have lp1 : ∀ (fu : Nat) (h2 : gH) (bt : Int) (k : Int), (514 - k).toNat < fu → gSs rT 1027 ty [] h h2 → ((-1) ≤ bt ∧ bt ≤ 512) → (0 ≤ k ∧ k ≤ 513) → (bt < k) → (k ≤ nd) → gz gPP gGG gcn (d + 0) gt203 4 [some (.ref m), some (.int (zi nd)), some (.int (zi bt)), some (.int (zi k)), none] [] h2 (fun q _ => gSs rT 1027 ty [] h q.2.2 ∧ ∃ z : Int, gfin gt203 q.1 q.2.1 = some (some (.int (zi z))) ∧ (-1) ≤ z ∧ z ≤ 512 ∧ (z < nd)) := by
    intro fu
    induction fu with
    | zero => intro h2 bt k hm; exact absurd hm (Nat.not_lt_zero _)
    | succ fu ihlp1 =>
      intro h2 bt k lp1m sh2 lp1f0 lp1f1 lp1f2 lp1f3 
      refine gz_s 2 (pc' := 6) (L' := [some (.ref m), some (.int (zi nd)), some (.int (zi bt)), some (.int (zi k)), none]) (S' := [.int (zi nd), .int (zi k)]) rfl ?_
      by_cases hc3 : (nd : Int) ≤ k
      · refine gy_icT (pc' := 98) rfl (by decide) (by decide) (by omega) (by omega) hc3 ?_
        refine gz_s 1 (pc' := 99) (L' := [some (.ref m), some (.int (zi nd)), some (.int (zi bt)), some (.int (zi k)), none]) (S' := [.int (zi bt)]) rfl ?_
        exact gz_end (I := .ireturn) (len := 1) rfl (Or.inl rfl) ⟨sh2, bt, rfl, (by omega), (by omega), (by omega)⟩
      · refine gy_icF rfl (by decide) (by decide) (by omega) (by omega) hc3 ?_
        refine gz_s 1 (pc' := 10) (L' := [some (.ref m), some (.int (zi nd)), some (.int (zi bt)), some (.int (zi k)), none]) (S' := [.ref m]) rfl ?_
        refine gs_gtr rfl (by decide) rfl sh2.1 tm rfl rfl rfl (fun c4 ec4 tc4 => ?_)
        refine gz_s 1 (pc' := 14) (L' := [some (.ref m), some (.int (zi nd)), some (.int (zi bt)), some (.int (zi k)), none]) (S' := [.int (zi k), .ref c4]) rfl ?_
        have hl5 : 514 ≤ h2.2.2.2.1 c4 ∧ h2.2.2.2.1 c4 ≤ 514 := gJ.rowl (G := gGG) sh2.1 tc4 rfl
        refine gs_ald rfl (by decide) sh2.1 tc4 rfl rfl rfl (by decide) (fun _ => rfl) (by omega) (by omega) (fun z6 ez6 az6 bz6 => ?_)
        by_cases hc7 : (z6 : Int) ≤ 0
        · refine gy_ifT (pc' := 32) rfl (by decide) (by decide) (by omega) hc7 ?_
          refine gz_s 3 (pc' := 37) (L' := [some (.ref m), some (.int (zi nd)), some (.int (zi bt)), some (.int (zi k)), some (.int (zi 0))]) (S' := [.int (zi 0)]) rfl ?_
          refine gy_ifT (pc' := 92) rfl (by decide) (by decide) (by omega) (by first | (simp [zc]; done) | (simp only [zc]; omega)) ?_
          refine gy_s 2 (pc' := 4) (L' := [some (.ref m), some (.int (zi nd)), some (.int (zi bt)), some (.int ((zi k) + zi 1)), some (.int (zi 0))]) (S' := []) (L2 := [some (.ref m), some (.int (zi nd)), some (.int (zi bt)), some (.int (zi (k + 1))), some (.int (zi 0))]) (S2 := []) rfl (by simp only [zi_add, zi_sub, zi_mul, zi_neg, zi_and1, zi_and7, zi_and15, zi_and31, zi_and255]) (by simp only [zi_add, zi_sub, zi_mul, zi_neg, zi_and1, zi_and7, zi_and15, zi_and31, zi_and255]) ?_
          exact gz_wk (ihlp1 h2 bt (k + 1) (by omega) sh2 (by omega) (by omega) (by omega) (by omega) ) (gLw.s (gLw.s (gLw.s (gLw.s (gLw.n gLw.z)))))
        · refine gy_ifF rfl (by decide) (by decide) (by omega) hc7 ?_
          refine gz_s 1 (pc' := 19) (L' := [some (.ref m), some (.int (zi nd)), some (.int (zi bt)), some (.int (zi k)), none]) (S' := [.ref m]) rfl ?_
          refine gs_gtr rfl (by decide) rfl sh2.1 tm rfl rfl rfl (fun c8 ec8 tc8 => ?_)
          refine gz_s 1 (pc' := 23) (L' := [some (.ref m), some (.int (zi nd)), some (.int (zi bt)), some (.int (zi k)), none]) (S' := [.int (zi k), .ref c8]) rfl ?_
          have hl9 : 514 ≤ h2.2.2.2.1 c8 ∧ h2.2.2.2.1 c8 ≤ 514 := gJ.rowl (G := gGG) sh2.1 tc8 rfl
          refine gs_ald rfl (by decide) sh2.1 tc8 rfl rfl rfl (by decide) (fun _ => rfl) (by omega) (by omega) (fun z10 ez10 az10 bz10 => ?_)
          refine gz_s 1 (pc' := 25) (L' := [some (.ref m), some (.int (zi nd)), some (.int (zi bt)), some (.int (zi k)), none]) (S' := [.int (zi (-1)), .int (zi z10)]) rfl ?_
          by_cases hc11 : ¬ (z10 : Int) = (-1)
          · refine gy_icT (pc' := 32) rfl (by decide) (by decide) (by omega) (by omega) hc11 ?_
            refine gz_s 3 (pc' := 37) (L' := [some (.ref m), some (.int (zi nd)), some (.int (zi bt)), some (.int (zi k)), some (.int (zi 0))]) (S' := [.int (zi 0)]) rfl ?_
            refine gy_ifT (pc' := 92) rfl (by decide) (by decide) (by omega) (by first | (simp [zc]; done) | (simp only [zc]; omega)) ?_
            refine gy_s 2 (pc' := 4) (L' := [some (.ref m), some (.int (zi nd)), some (.int (zi bt)), some (.int ((zi k) + zi 1)), some (.int (zi 0))]) (S' := []) (L2 := [some (.ref m), some (.int (zi nd)), some (.int (zi bt)), some (.int (zi (k + 1))), some (.int (zi 0))]) (S2 := []) rfl (by simp only [zi_add, zi_sub, zi_mul, zi_neg, zi_and1, zi_and7, zi_and15, zi_and31, zi_and255]) (by simp only [zi_add, zi_sub, zi_mul, zi_neg, zi_and1, zi_and7, zi_and15, zi_and31, zi_and255]) ?_
            exact gz_wk (ihlp1 h2 bt (k + 1) (by omega) sh2 (by omega) (by omega) (by omega) (by omega) ) (gLw.s (gLw.s (gLw.s (gLw.s (gLw.n gLw.z)))))
          · refine gy_icF rfl (by decide) (by decide) (by omega) (by omega) hc11 ?_
            refine gz_s 4 (pc' := 37) (L' := [some (.ref m), some (.int (zi nd)), some (.int (zi bt)), some (.int (zi k)), some (.int (zi 1))]) (S' := [.int (zi 1)]) rfl ?_
            refine gy_ifF rfl (by decide) (by decide) (by omega) (by first | (simp [zc]; done) | (simp only [zc]; omega)) ?_
            refine gz_s 2 (pc' := 42) (L' := [some (.ref m), some (.int (zi nd)), some (.int (zi bt)), some (.int (zi k)), some (.int (zi 1))]) (S' := [.int (zi (-1)), .int (zi bt)]) rfl ?_
            by_cases hc12 : (bt : Int) = (-1)
            · refine gy_icT (pc' := 90) rfl (by decide) (by decide) (by omega) (by omega) hc12 ?_
              refine gy_s 4 (pc' := 4) (L' := [some (.ref m), some (.int (zi nd)), some (.int (zi k)), some (.int ((zi k) + zi 1)), some (.int (zi 1))]) (S' := []) (L2 := [some (.ref m), some (.int (zi nd)), some (.int (zi k)), some (.int (zi (k + 1))), some (.int (zi 1))]) (S2 := []) rfl (by simp only [zi_add, zi_sub, zi_mul, zi_neg, zi_and1, zi_and7, zi_and15, zi_and31, zi_and255]) (by simp only [zi_add, zi_sub, zi_mul, zi_neg, zi_and1, zi_and7, zi_and15, zi_and31, zi_and255]) ?_
              exact gz_wk (ihlp1 h2 k (k + 1) (by omega) sh2 (by omega) (by omega) (by omega) (by omega) ) (gLw.s (gLw.s (gLw.s (gLw.s (gLw.n gLw.z)))))
            · refine gy_icF rfl (by decide) (by decide) (by omega) (by omega) hc12 ?_
              refine gz_s 1 (pc' := 46) (L' := [some (.ref m), some (.int (zi nd)), some (.int (zi bt)), some (.int (zi k)), some (.int (zi 1))]) (S' := [.ref m]) rfl ?_
              refine gs_gtk rfl (by decide) rfl sh2.1 tm rfl rfl ec4 ?_
              refine gz_s 1 (pc' := 50) (L' := [some (.ref m), some (.int (zi nd)), some (.int (zi bt)), some (.int (zi k)), some (.int (zi 1))]) (S' := [.int (zi k), .ref c4]) rfl ?_
              have hl13 : 514 ≤ h2.2.2.2.1 c4 ∧ h2.2.2.2.1 c4 ≤ 514 := gJ.rowl (G := gGG) sh2.1 tc4 rfl
              refine gs_ald rfl (by decide) sh2.1 tc4 rfl rfl rfl (by decide) (fun _ => rfl) (by omega) (by omega) (fun z14 ez14 az14 bz14 => ?_)
              refine gz_s 1 (pc' := 52) (L' := [some (.ref m), some (.int (zi nd)), some (.int (zi bt)), some (.int (zi k)), some (.int (zi 1))]) (S' := [.ref m, .int (zi z14)]) rfl ?_
              refine gs_gtk rfl (by decide) rfl sh2.1 tm rfl rfl ec4 ?_
              refine gz_s 1 (pc' := 56) (L' := [some (.ref m), some (.int (zi nd)), some (.int (zi bt)), some (.int (zi k)), some (.int (zi 1))]) (S' := [.int (zi bt), .ref c4, .int (zi z14)]) rfl ?_
              have hl15 : 514 ≤ h2.2.2.2.1 c4 ∧ h2.2.2.2.1 c4 ≤ 514 := gJ.rowl (G := gGG) sh2.1 tc4 rfl
              refine gs_ald rfl (by decide) sh2.1 tc4 rfl rfl rfl (by decide) (fun _ => rfl) (by omega) (by omega) (fun z16 ez16 az16 bz16 => ?_)
              by_cases hc17 : (z14 : Int) < z16
              · refine gy_icT (pc' := 90) rfl (by decide) (by decide) (by omega) (by omega) hc17 ?_
                refine gy_s 4 (pc' := 4) (L' := [some (.ref m), some (.int (zi nd)), some (.int (zi k)), some (.int ((zi k) + zi 1)), some (.int (zi 1))]) (S' := []) (L2 := [some (.ref m), some (.int (zi nd)), some (.int (zi k)), some (.int (zi (k + 1))), some (.int (zi 1))]) (S2 := []) rfl (by simp only [zi_add, zi_sub, zi_mul, zi_neg, zi_and1, zi_and7, zi_and15, zi_and31, zi_and255]) (by simp only [zi_add, zi_sub, zi_mul, zi_neg, zi_and1, zi_and7, zi_and15, zi_and31, zi_and255]) ?_
                exact gz_wk (ihlp1 h2 k (k + 1) (by omega) sh2 (by omega) (by omega) (by omega) (by omega) ) (gLw.s (gLw.s (gLw.s (gLw.s (gLw.n gLw.z)))))
              · refine gy_icF rfl (by decide) (by decide) (by omega) (by omega) hc17 ?_
                refine gz_s 1 (pc' := 61) (L' := [some (.ref m), some (.int (zi nd)), some (.int (zi bt)), some (.int (zi k)), some (.int (zi 1))]) (S' := [.ref m]) rfl ?_
                refine gs_gtk rfl (by decide) rfl sh2.1 tm rfl rfl ec4 ?_
                refine gz_s 1 (pc' := 65) (L' := [some (.ref m), some (.int (zi nd)), some (.int (zi bt)), some (.int (zi k)), some (.int (zi 1))]) (S' := [.int (zi k), .ref c4]) rfl ?_
                have hl18 : 514 ≤ h2.2.2.2.1 c4 ∧ h2.2.2.2.1 c4 ≤ 514 := gJ.rowl (G := gGG) sh2.1 tc4 rfl
                refine gs_ald rfl (by decide) sh2.1 tc4 rfl rfl rfl (by decide) (fun _ => rfl) (by omega) (by omega) (fun z19 ez19 az19 bz19 => ?_)
                refine gz_s 1 (pc' := 67) (L' := [some (.ref m), some (.int (zi nd)), some (.int (zi bt)), some (.int (zi k)), some (.int (zi 1))]) (S' := [.ref m, .int (zi z19)]) rfl ?_
                refine gs_gtk rfl (by decide) rfl sh2.1 tm rfl rfl ec4 ?_
                refine gz_s 1 (pc' := 71) (L' := [some (.ref m), some (.int (zi nd)), some (.int (zi bt)), some (.int (zi k)), some (.int (zi 1))]) (S' := [.int (zi bt), .ref c4, .int (zi z19)]) rfl ?_
                have hl20 : 514 ≤ h2.2.2.2.1 c4 ∧ h2.2.2.2.1 c4 ≤ 514 := gJ.rowl (G := gGG) sh2.1 tc4 rfl
                refine gs_ald rfl (by decide) sh2.1 tc4 rfl rfl rfl (by decide) (fun _ => rfl) (by omega) (by omega) (fun z21 ez21 az21 bz21 => ?_)
                by_cases hc22 : ¬ (z19 : Int) = z21
                · refine gy_icT (pc' := 92) rfl (by decide) (by decide) (by omega) (by omega) hc22 ?_
                  refine gy_s 2 (pc' := 4) (L' := [some (.ref m), some (.int (zi nd)), some (.int (zi bt)), some (.int ((zi k) + zi 1)), some (.int (zi 1))]) (S' := []) (L2 := [some (.ref m), some (.int (zi nd)), some (.int (zi bt)), some (.int (zi (k + 1))), some (.int (zi 1))]) (S2 := []) rfl (by simp only [zi_add, zi_sub, zi_mul, zi_neg, zi_and1, zi_and7, zi_and15, zi_and31, zi_and255]) (by simp only [zi_add, zi_sub, zi_mul, zi_neg, zi_and1, zi_and7, zi_and15, zi_and31, zi_and255]) ?_
                  exact gz_wk (ihlp1 h2 bt (k + 1) (by omega) sh2 (by omega) (by omega) (by omega) (by omega) ) (gLw.s (gLw.s (gLw.s (gLw.s (gLw.n gLw.z)))))
                · refine gy_icF rfl (by decide) (by decide) (by omega) (by omega) hc22 ?_
                  refine gz_s 1 (pc' := 76) (L' := [some (.ref m), some (.int (zi nd)), some (.int (zi bt)), some (.int (zi k)), some (.int (zi 1))]) (S' := [.ref m]) rfl ?_
                  refine gs_gtr rfl (by decide) rfl sh2.1 tm rfl rfl rfl (fun c23 ec23 tc23 => ?_)
                  refine gz_s 1 (pc' := 80) (L' := [some (.ref m), some (.int (zi nd)), some (.int (zi bt)), some (.int (zi k)), some (.int (zi 1))]) (S' := [.int (zi k), .ref c23]) rfl ?_
                  have hl24 : 514 ≤ h2.2.2.2.1 c23 ∧ h2.2.2.2.1 c23 ≤ 514 := gJ.rowl (G := gGG) sh2.1 tc23 rfl
                  refine gs_ald rfl (by decide) sh2.1 tc23 rfl rfl rfl (by decide) (fun _ => rfl) (by omega) (by omega) (fun z25 ez25 az25 bz25 => ?_)
                  refine gz_s 1 (pc' := 82) (L' := [some (.ref m), some (.int (zi nd)), some (.int (zi bt)), some (.int (zi k)), some (.int (zi 1))]) (S' := [.ref m, .int (zi z25)]) rfl ?_
                  refine gs_gtk rfl (by decide) rfl sh2.1 tm rfl rfl ec23 ?_
                  refine gz_s 1 (pc' := 86) (L' := [some (.ref m), some (.int (zi nd)), some (.int (zi bt)), some (.int (zi k)), some (.int (zi 1))]) (S' := [.int (zi bt), .ref c23, .int (zi z25)]) rfl ?_
                  have hl26 : 514 ≤ h2.2.2.2.1 c23 ∧ h2.2.2.2.1 c23 ≤ 514 := gJ.rowl (G := gGG) sh2.1 tc23 rfl
                  refine gs_ald rfl (by decide) sh2.1 tc23 rfl rfl rfl (by decide) (fun _ => rfl) (by omega) (by omega) (fun z27 ez27 az27 bz27 => ?_)
                  by_cases hc28 : (z25 : Int) ≤ z27
                  · refine gy_icT (pc' := 92) rfl (by decide) (by decide) (by omega) (by omega) hc28 ?_
                    refine gy_s 2 (pc' := 4) (L' := [some (.ref m), some (.int (zi nd)), some (.int (zi bt)), some (.int ((zi k) + zi 1)), some (.int (zi 1))]) (S' := []) (L2 := [some (.ref m), some (.int (zi nd)), some (.int (zi bt)), some (.int (zi (k + 1))), some (.int (zi 1))]) (S2 := []) rfl (by simp only [zi_add, zi_sub, zi_mul, zi_neg, zi_and1, zi_and7, zi_and15, zi_and31, zi_and255]) (by simp only [zi_add, zi_sub, zi_mul, zi_neg, zi_and1, zi_and7, zi_and15, zi_and31, zi_and255]) ?_
                    exact gz_wk (ihlp1 h2 bt (k + 1) (by omega) sh2 (by omega) (by omega) (by omega) (by omega) ) (gLw.s (gLw.s (gLw.s (gLw.s (gLw.n gLw.z)))))
                  · refine gy_icF rfl (by decide) (by decide) (by omega) (by omega) hc28 ?_
                    refine gy_s 4 (pc' := 4) (L' := [some (.ref m), some (.int (zi nd)), some (.int (zi k)), some (.int ((zi k) + zi 1)), some (.int (zi 1))]) (S' := []) (L2 := [some (.ref m), some (.int (zi nd)), some (.int (zi k)), some (.int (zi (k + 1))), some (.int (zi 1))]) (S2 := []) rfl (by simp only [zi_add, zi_sub, zi_mul, zi_neg, zi_and1, zi_and7, zi_and15, zi_and31, zi_and255]) (by simp only [zi_add, zi_sub, zi_mul, zi_neg, zi_and1, zi_and7, zi_and15, zi_and31, zi_and255]) ?_
                    exact gz_wk (ihlp1 h2 k (k + 1) (by omega) sh2 (by omega) (by omega) (by omega) (by omega) ) (gLw.s (gLw.s (gLw.s (gLw.s (gLw.n gLw.z)))))
  exact gz_wk (lp1 _ h (-1) 0 (Nat.lt_succ_self _) hS (by omega) (by omega) (by omega) (by omega) ) (gLw.s (gLw.s (gLw.s (gLw.s (gLw.n gLw.z)))))
