/-! ===== the model: first methods (by program) ===== -/
set_option maxRecDepth 20000 in
set_option maxHeartbeats 4000000 in
theorem mm_thrown (d : Nat) {ty : Nat → Nat} {h : gH} (hJ : gJ rT 1027 ty h) (m : Nat) (tm : ty m = 1)  : gz gPP gGG gcn (d + 0) gt130 0 (gent [.ref m] 1) [] h (fun q _ => gSs rT 1027 ty [] h q.2.2 ∧ ∃ z : Int, gfin gt130 q.1 q.2.1 = some (some (.int (zi z))) ∧ 0 ≤ z ∧ z ≤ 2) := by
  have hS : gSs rT 1027 ty [] h h := gSs.rf hJ
  refine gz_s 1 (pc' := 1) (L' := [some (.ref m)]) (S' := [.ref m]) rfl ?_
  refine gs_get rfl (by decide) rfl hS.1 tm rfl rfl rfl (fun z1 ez1 az1 bz1 => ?_)
  exact gz_end (I := .ireturn) (len := 1) rfl (Or.inl rfl) ⟨hS, z1, rfl, (by omega), (by omega)⟩
set_option maxRecDepth 20000 in
set_option maxHeartbeats 4000000 in
theorem mm_must (d : Nat) {ty : Nat → Nat} {h : gH} (hJ : gJ rT 1027 ty h) (m : Nat) (tm : ty m = 1) (ok : Int) (rok : 0 ≤ ok ∧ ok ≤ 1) (wh : Int) (rwh : 0 ≤ wh ∧ wh ≤ 4000)  : gz gPP gGG gcn (d + 0) gt134 0 (gent [.ref m, .int (zi ok), .int (zi wh)] 3) [] h (fun q _ => gSs rT 1027 ty [1007] h q.2.2 ∧ ∃ z : Int, gfin gt134 q.1 q.2.1 = some (some (.int (zi z))) ∧ 0 ≤ z ∧ z ≤ 1 ∧ (z = 1 → ok = 1 ∧ q.2.2.2.2.2.2 m 7 = .int (zi (-1)))) := by
  have hS : gSs rT 1027 ty [1007] h h := gSs.rf hJ
  refine gz_s 1 (pc' := 1) (L' := [some (.ref m), some (.int (zi ok)), some (.int (zi wh))]) (S' := [.int (zi ok)]) rfl ?_
  by_cases hc1 : ¬ (ok : Int) = 0
  · refine gy_ifT (pc' := 17) rfl (by decide) (by decide) (by omega) hc1 ?_
    refine gz_s 1 (pc' := 18) (L' := [some (.ref m), some (.int (zi ok)), some (.int (zi wh))]) (S' := [.ref m]) rfl ?_
    refine gs_get rfl (by decide) rfl hS.1 tm rfl rfl rfl (fun z2 ez2 az2 bz2 => ?_)
    refine gz_s 1 (pc' := 22) (L' := [some (.ref m), some (.int (zi ok)), some (.int (zi wh))]) (S' := [.int (zi (-1)), .int (zi z2)]) rfl ?_
    by_cases hc3 : ¬ (z2 : Int) = (-1)
    · refine gy_icT (pc' := 29) rfl (by decide) (by decide) (by omega) (by omega) hc3 ?_
      refine gz_s 1 (pc' := 30) (L' := [some (.ref m), some (.int (zi ok)), some (.int (zi wh))]) (S' := [.int (zi 0)]) rfl ?_
      exact gz_end (I := .ireturn) (len := 1) rfl (Or.inl rfl) ⟨hS, 0, gfin_z rfl rfl (by omega), (by omega), (by omega), (fun q => absurd q (by decide))⟩
    · refine gy_icF rfl (by decide) (by decide) (by omega) (by omega) hc3 ?_
      refine gz_s 2 (pc' := 30) (L' := [some (.ref m), some (.int (zi ok)), some (.int (zi wh))]) (S' := [.int (zi 1)]) rfl ?_
      exact gz_end (I := .ireturn) (len := 1) rfl (Or.inl rfl) ⟨hS, 1, gfin_z rfl rfl (by omega), (by omega), (by omega), (fun q => ⟨(by omega), (by rw [show (-1) = z2 by omega]; exact ez2)⟩)⟩
  · refine gy_ifF rfl (by decide) (by decide) (by omega) hc1 ?_
    refine gz_s 1 (pc' := 5) (L' := [some (.ref m), some (.int (zi ok)), some (.int (zi wh))]) (S' := [.ref m]) rfl ?_
    refine gs_get rfl (by decide) rfl hS.1 tm rfl rfl rfl (fun z4 ez4 az4 bz4 => ?_)
    refine gz_s 1 (pc' := 9) (L' := [some (.ref m), some (.int (zi ok)), some (.int (zi wh))]) (S' := [.int (zi (-1)), .int (zi z4)]) rfl ?_
    by_cases hc5 : ¬ (z4 : Int) = (-1)
    · refine gy_icT (pc' := 17) rfl (by decide) (by decide) (by omega) (by omega) hc5 ?_
      refine gz_s 1 (pc' := 18) (L' := [some (.ref m), some (.int (zi ok)), some (.int (zi wh))]) (S' := [.ref m]) rfl ?_
      refine gs_gtk rfl (by decide) rfl hS.1 tm rfl rfl ez4 ?_
      refine gz_s 1 (pc' := 22) (L' := [some (.ref m), some (.int (zi ok)), some (.int (zi wh))]) (S' := [.int (zi (-1)), .int (zi z4)]) rfl ?_
      refine gy_icT (pc' := 29) rfl (by decide) (by decide) (by omega) (by omega) (by simp only [zc]; omega) ?_
      refine gz_s 1 (pc' := 30) (L' := [some (.ref m), some (.int (zi ok)), some (.int (zi wh))]) (S' := [.int (zi 0)]) rfl ?_
      exact gz_end (I := .ireturn) (len := 1) rfl (Or.inl rfl) ⟨hS, 0, gfin_z rfl rfl (by omega), (by omega), (by omega), (fun q => absurd q (by decide))⟩
    · refine gy_icF rfl (by decide) (by decide) (by omega) (by omega) hc5 ?_
      refine gz_s 2 (pc' := 14) (L' := [some (.ref m), some (.int (zi ok)), some (.int (zi wh))]) (S' := [.int (zi wh), .ref m]) rfl ?_
      refine gs_put rfl (by decide) rfl hS tm rfl rfl rfl rfl (Or.inl rfl) (by decide) (by omega) (by omega) (fun h6 sh6 eh6 fh6 => ?_)
      refine gz_s 1 (pc' := 18) (L' := [some (.ref m), some (.int (zi ok)), some (.int (zi wh))]) (S' := [.ref m]) rfl ?_
      refine gs_gtk rfl (by decide) rfl sh6.1 tm rfl rfl eh6 ?_
      refine gz_s 1 (pc' := 22) (L' := [some (.ref m), some (.int (zi ok)), some (.int (zi wh))]) (S' := [.int (zi (-1)), .int (zi wh)]) rfl ?_
      refine gy_icT (pc' := 29) rfl (by decide) (by decide) (by omega) (by omega) (by simp only [zc]; omega) ?_
      refine gz_s 1 (pc' := 30) (L' := [some (.ref m), some (.int (zi ok)), some (.int (zi wh))]) (S' := [.int (zi 0)]) rfl ?_
      exact gz_end (I := .ireturn) (len := 1) rfl (Or.inl rfl) ⟨sh6, 0, gfin_z rfl rfl (by omega), (by omega), (by omega), (fun q => absurd q (by decide))⟩
set_option maxRecDepth 20000 in
set_option maxHeartbeats 4000000 in
theorem mm_keep (d : Nat) {ty : Nat → Nat} {h : gH} (hJ : gJ rT 1027 ty h) (m : Nat) (tm : ty m = 1) (ok : Int) (rok : 0 ≤ ok ∧ ok ≤ 1)  : gz gPP gGG gcn (d + 0) gt149 0 (gent [.ref m, .int (zi ok)] 2) [] h (fun q _ => gSs rT 1027 ty [1046] h q.2.2 ∧ gfin gt149 q.1 q.2.1 = some none) := by
  have hS : gSs rT 1027 ty [1046] h h := gSs.rf hJ
  refine gz_s 2 (pc' := 2) (L' := [some (.ref m), some (.int (zi ok))]) (S' := [.ref m, .ref m]) rfl ?_
  refine gs_get rfl (by decide) rfl hS.1 tm rfl rfl rfl (fun z1 ez1 az1 bz1 => ?_)
  by_cases hc2 : ¬ (z1 : Int) = 0
  · refine gy_ifT (pc' := 12) rfl (by decide) (by decide) (by omega) hc2 ?_
    refine gz_s 2 (pc' := 17) (L' := [some (.ref m), some (.int (zi ok))]) (S' := [.int (zi 1), .ref m]) rfl ?_
    refine gs_put rfl (by decide) rfl hS tm rfl rfl rfl rfl (Or.inl rfl) (by decide) (by omega) (by omega) (fun h3 sh3 eh3 fh3 => ?_)
    exact gz_end (I := .return_) (len := 1) rfl (Or.inl rfl) ⟨sh3, rfl⟩
  · refine gy_ifF rfl (by decide) (by decide) (by omega) hc2 ?_
    refine gz_s 1 (pc' := 9) (L' := [some (.ref m), some (.int (zi ok))]) (S' := [.int (zi ok), .ref m]) rfl ?_
    by_cases hc4 : ¬ (ok : Int) = 0
    · refine gy_ifT (pc' := 16) rfl (by decide) (by decide) (by omega) hc4 ?_
      refine gz_s 1 (pc' := 17) (L' := [some (.ref m), some (.int (zi ok))]) (S' := [.int (zi 0), .ref m]) rfl ?_
      refine gs_put rfl (by decide) rfl hS tm rfl rfl rfl rfl (Or.inl rfl) (by decide) (by omega) (by omega) (fun h5 sh5 eh5 fh5 => ?_)
      exact gz_end (I := .return_) (len := 1) rfl (Or.inl rfl) ⟨sh5, rfl⟩
    · refine gy_ifF rfl (by decide) (by decide) (by omega) hc4 ?_
      refine gz_s 2 (pc' := 17) (L' := [some (.ref m), some (.int (zi ok))]) (S' := [.int (zi 1), .ref m]) rfl ?_
      refine gs_put rfl (by decide) rfl hS tm rfl rfl rfl rfl (Or.inl rfl) (by decide) (by omega) (by omega) (fun h6 sh6 eh6 fh6 => ?_)
      exact gz_end (I := .return_) (len := 1) rfl (Or.inl rfl) ⟨sh6, rfl⟩
set_option maxRecDepth 20000 in
set_option maxHeartbeats 4000000 in
theorem mm_restart (d : Nat) {ty : Nat → Nat} {h : gH} (hJ : gJ rT 1027 ty h) (m : Nat) (tm : ty m = 1) (n : Int) (rn : (-2147483648) ≤ n ∧ n ≤ 2147483647)  : gz gPP gGG gcn (d + 0) gt182 0 (gent [.ref m, .int (zi n)] 3) [] h (fun q _ => gSs rT 1027 ty [1000, 1052] h q.2.2 ∧ ∃ z : Int, gfin gt182 q.1 q.2.1 = some (some (.int (zi z))) ∧ 0 ≤ z ∧ z ≤ 100) := by
  have hS : gSs rT 1027 ty [1000, 1052] h h := gSs.rf hJ
  refine gz_s 2 (pc' := 2) (L' := [some (.ref m), some (.int (zi n)), none]) (S' := [.int (zi n), .ref m]) rfl ?_
  by_cases hc1 : (n : Int) < 0
  · refine gy_ifT (pc' := 11) rfl (by decide) (by decide) (by omega) hc1 ?_
    refine gz_s 2 (pc' := 16) (L' := [some (.ref m), some (.int (zi n)), none]) (S' := [.int (zi 1), .ref m]) rfl ?_
    refine gs_put rfl (by decide) rfl hS tm rfl rfl rfl rfl (Or.inl rfl) (by decide) (by omega) (by omega) (fun h2 sh2 eh2 fh2 => ?_)
    refine gz_s 1 (pc' := 20) (L' := [some (.ref m), some (.int (zi n)), none]) (S' := [.ref m]) rfl ?_
    refine gs_gtk rfl (by decide) rfl sh2.1 tm rfl rfl eh2 ?_
    refine gy_ifF rfl (by decide) (by decide) (by omega) (by simp only [zc]; omega) ?_
    refine gz_s 1 (pc' := 27) (L' := [some (.ref m), some (.int (zi n)), none]) (S' := [.int (zi 0)]) rfl ?_
    exact gz_end (I := .ireturn) (len := 1) rfl (Or.inl rfl) ⟨sh2, 0, rfl, (by omega), (by omega)⟩
  · refine gy_ifF rfl (by decide) (by decide) (by omega) hc1 ?_
    refine gz_s 2 (pc' := 8) (L' := [some (.ref m), some (.int (zi n)), none]) (S' := [.int (zi 100), .int (zi n), .ref m]) rfl ?_
    by_cases hc3 : (n : Int) ≤ 100
    · refine gy_icT (pc' := 15) rfl (by decide) (by decide) (by omega) (by omega) hc3 ?_
      refine gz_s 1 (pc' := 16) (L' := [some (.ref m), some (.int (zi n)), none]) (S' := [.int (zi 0), .ref m]) rfl ?_
      refine gs_put rfl (by decide) rfl hS tm rfl rfl rfl rfl (Or.inl rfl) (by decide) (by omega) (by omega) (fun h4 sh4 eh4 fh4 => ?_)
      refine gz_s 1 (pc' := 20) (L' := [some (.ref m), some (.int (zi n)), none]) (S' := [.ref m]) rfl ?_
      refine gs_gtk rfl (by decide) rfl sh4.1 tm rfl rfl eh4 ?_
      refine gy_ifT (pc' := 28) rfl (by decide) (by decide) (by omega) (by simp only [zc]; omega) ?_
      refine gz_s 1 (pc' := 29) (L' := [some (.ref m), some (.int (zi n)), none]) (S' := [.ref m]) rfl ?_
      refine gs_get rfl (by decide) rfl sh4.1 tm rfl rfl rfl (fun z5 ez5 az5 bz5 => ?_)
      refine gz_s 3 (pc' := 35) (L' := [some (.ref m), some (.int (zi n)), some (.int (zi z5))]) (S' := [.int (zi n), .ref m]) rfl ?_
      refine gs_put rfl (by decide) rfl sh4 tm rfl rfl rfl rfl (Or.inl rfl) (by decide) (by omega) (by omega) (fun h6 sh6 eh6 fh6 => ?_)
      have s7 := (fh6 m 0 (fun q => absurd q.2 (by decide))).trans eh4
      refine gz_s 1 (pc' := 39) (L' := [some (.ref m), some (.int (zi n)), some (.int (zi z5))]) (S' := [.int (zi z5)]) rfl ?_
      exact gz_end (I := .ireturn) (len := 1) rfl (Or.inl rfl) ⟨sh6, z5, rfl, (by omega), (by omega)⟩
    · refine gy_icF rfl (by decide) (by decide) (by omega) (by omega) hc3 ?_
      refine gz_s 2 (pc' := 16) (L' := [some (.ref m), some (.int (zi n)), none]) (S' := [.int (zi 1), .ref m]) rfl ?_
      refine gs_put rfl (by decide) rfl hS tm rfl rfl rfl rfl (Or.inl rfl) (by decide) (by omega) (by omega) (fun h8 sh8 eh8 fh8 => ?_)
      refine gz_s 1 (pc' := 20) (L' := [some (.ref m), some (.int (zi n)), none]) (S' := [.ref m]) rfl ?_
      refine gs_gtk rfl (by decide) rfl sh8.1 tm rfl rfl eh8 ?_
      refine gy_ifF rfl (by decide) (by decide) (by omega) (by simp only [zc]; omega) ?_
      refine gz_s 1 (pc' := 27) (L' := [some (.ref m), some (.int (zi n)), none]) (S' := [.int (zi 0)]) rfl ?_
      exact gz_end (I := .ireturn) (len := 1) rfl (Or.inl rfl) ⟨sh8, 0, rfl, (by omega), (by omega)⟩
set_option maxRecDepth 20000 in
set_option maxHeartbeats 4000000 in
theorem mm_table (d : Nat) {ty : Nat → Nat} {h : gH} (hJ : gJ rT 1027 ty h) (m : Nat) (tm : ty m = 1) (kd : Int) (rkd : (-2147483648) ≤ kd ∧ kd ≤ 2147483647) (i : Int) (ri : (-2147483648) ≤ i ∧ i ≤ 2147483647) (v : Int) (rv : (-2147483648) ≤ v ∧ v ≤ 2147483647)  : gz gPP gGG gcn (d + 0) gt179 0 (gent [.ref m, .int (zi kd), .int (zi i), .int (zi v)] 5) [] h (fun q _ => gSs rT 1027 ty [1000, 8999] h q.2.2 ∧ ∃ z : Int, gfin gt179 q.1 q.2.1 = some (some (.int (zi z))) ∧ 0 ≤ z ∧ z ≤ 255) := by
  have hS : gSs rT 1027 ty [1000, 8999] h h := gSs.rf hJ
  refine gz_s 2 (pc' := 2) (L' := [some (.ref m), some (.int (zi kd)), some (.int (zi i)), some (.int (zi v)), none]) (S' := [.int (zi kd), .ref m]) rfl ?_
  by_cases hc1 : (kd : Int) < 0
  · refine gy_ifT (pc' := 20) rfl (by decide) (by decide) (by omega) hc1 ?_
    refine gz_s 2 (pc' := 46) (L' := [some (.ref m), some (.int (zi kd)), some (.int (zi i)), some (.int (zi v)), none]) (S' := [.int (zi 1), .ref m]) rfl ?_
    refine gs_put rfl (by decide) rfl hS tm rfl rfl rfl rfl (Or.inl rfl) (by decide) (by omega) (by omega) (fun h2 sh2 eh2 fh2 => ?_)
    refine gz_s 1 (pc' := 50) (L' := [some (.ref m), some (.int (zi kd)), some (.int (zi i)), some (.int (zi v)), none]) (S' := [.ref m]) rfl ?_
    refine gs_gtk rfl (by decide) rfl sh2.1 tm rfl rfl eh2 ?_
    refine gy_ifF rfl (by decide) (by decide) (by omega) (by simp only [zc]; omega) ?_
    refine gz_s 1 (pc' := 57) (L' := [some (.ref m), some (.int (zi kd)), some (.int (zi i)), some (.int (zi v)), none]) (S' := [.int (zi 0)]) rfl ?_
    exact gz_end (I := .ireturn) (len := 1) rfl (Or.inl rfl) ⟨sh2, 0, rfl, (by omega), (by omega)⟩
  · refine gy_ifF rfl (by decide) (by decide) (by omega) hc1 ?_
    refine gz_s 2 (pc' := 7) (L' := [some (.ref m), some (.int (zi kd)), some (.int (zi i)), some (.int (zi v)), none]) (S' := [.int (zi 3), .int (zi kd), .ref m]) rfl ?_
    by_cases hc3 : (3 : Int) < kd
    · refine gy_icT (pc' := 20) rfl (by decide) (by decide) (by omega) (by omega) hc3 ?_
      refine gz_s 2 (pc' := 46) (L' := [some (.ref m), some (.int (zi kd)), some (.int (zi i)), some (.int (zi v)), none]) (S' := [.int (zi 1), .ref m]) rfl ?_
      refine gs_put rfl (by decide) rfl hS tm rfl rfl rfl rfl (Or.inl rfl) (by decide) (by omega) (by omega) (fun h4 sh4 eh4 fh4 => ?_)
      refine gz_s 1 (pc' := 50) (L' := [some (.ref m), some (.int (zi kd)), some (.int (zi i)), some (.int (zi v)), none]) (S' := [.ref m]) rfl ?_
      refine gs_gtk rfl (by decide) rfl sh4.1 tm rfl rfl eh4 ?_
      refine gy_ifF rfl (by decide) (by decide) (by omega) (by simp only [zc]; omega) ?_
      refine gz_s 1 (pc' := 57) (L' := [some (.ref m), some (.int (zi kd)), some (.int (zi i)), some (.int (zi v)), none]) (S' := [.int (zi 0)]) rfl ?_
      exact gz_end (I := .ireturn) (len := 1) rfl (Or.inl rfl) ⟨sh4, 0, rfl, (by omega), (by omega)⟩
    · refine gy_icF rfl (by decide) (by decide) (by omega) (by omega) hc3 ?_
      refine gz_s 1 (pc' := 11) (L' := [some (.ref m), some (.int (zi kd)), some (.int (zi i)), some (.int (zi v)), none]) (S' := [.int (zi i), .ref m]) rfl ?_
      by_cases hc5 : (i : Int) < 0
      · refine gy_ifT (pc' := 20) rfl (by decide) (by decide) (by omega) hc5 ?_
        refine gz_s 2 (pc' := 46) (L' := [some (.ref m), some (.int (zi kd)), some (.int (zi i)), some (.int (zi v)), none]) (S' := [.int (zi 1), .ref m]) rfl ?_
        refine gs_put rfl (by decide) rfl hS tm rfl rfl rfl rfl (Or.inl rfl) (by decide) (by omega) (by omega) (fun h6 sh6 eh6 fh6 => ?_)
        refine gz_s 1 (pc' := 50) (L' := [some (.ref m), some (.int (zi kd)), some (.int (zi i)), some (.int (zi v)), none]) (S' := [.ref m]) rfl ?_
        refine gs_gtk rfl (by decide) rfl sh6.1 tm rfl rfl eh6 ?_
        refine gy_ifF rfl (by decide) (by decide) (by omega) (by simp only [zc]; omega) ?_
        refine gz_s 1 (pc' := 57) (L' := [some (.ref m), some (.int (zi kd)), some (.int (zi i)), some (.int (zi v)), none]) (S' := [.int (zi 0)]) rfl ?_
        exact gz_end (I := .ireturn) (len := 1) rfl (Or.inl rfl) ⟨sh6, 0, rfl, (by omega), (by omega)⟩
      · refine gy_ifF rfl (by decide) (by decide) (by omega) hc5 ?_
        refine gz_s 2 (pc' := 17) (L' := [some (.ref m), some (.int (zi kd)), some (.int (zi i)), some (.int (zi v)), none]) (S' := [.int (zi 63), .int (zi i), .ref m]) rfl ?_
        by_cases hc7 : (i : Int) ≤ 63
        · refine gy_icT (pc' := 24) rfl (by decide) (by decide) (by omega) (by omega) hc7 ?_
          refine gz_s 2 (pc' := 26) (L' := [some (.ref m), some (.int (zi kd)), some (.int (zi i)), some (.int (zi v)), none]) (S' := [.int (zi (-1)), .int (zi v), .ref m]) rfl ?_
          by_cases hc8 : (v : Int) = (-1)
          · refine gy_icT (pc' := 45) rfl (by decide) (by decide) (by omega) (by omega) hc8 ?_
            refine gz_s 1 (pc' := 46) (L' := [some (.ref m), some (.int (zi kd)), some (.int (zi i)), some (.int (zi v)), none]) (S' := [.int (zi 0), .ref m]) rfl ?_
            refine gs_put rfl (by decide) rfl hS tm rfl rfl rfl rfl (Or.inl rfl) (by decide) (by omega) (by omega) (fun h9 sh9 eh9 fh9 => ?_)
            refine gz_s 1 (pc' := 50) (L' := [some (.ref m), some (.int (zi kd)), some (.int (zi i)), some (.int (zi v)), none]) (S' := [.ref m]) rfl ?_
            refine gs_gtk rfl (by decide) rfl sh9.1 tm rfl rfl eh9 ?_
            refine gy_ifT (pc' := 58) rfl (by decide) (by decide) (by omega) (by simp only [zc]; omega) ?_
            refine gz_s 1 (pc' := 59) (L' := [some (.ref m), some (.int (zi kd)), some (.int (zi i)), some (.int (zi v)), none]) (S' := [.ref m]) rfl ?_
            refine gs_gtr rfl (by decide) rfl sh9.1 tm rfl rfl rfl (fun c10 ec10 tc10 => ?_)
            refine gy_s 5 (pc' := 68) (L' := [some (.ref m), some (.int (zi kd)), some (.int (zi i)), some (.int (zi v)), none]) (S' := [.int (((zi 64) * (zi kd)) + (zi i)), .ref c10]) (L2 := [some (.ref m), some (.int (zi kd)), some (.int (zi i)), some (.int (zi v)), none]) (S2 := [.int (zi ((64 * kd) + i)), .ref c10]) rfl (by simp only [zi_add, zi_sub, zi_mul, zi_neg, zi_and1, zi_and7, zi_and15, zi_and31, zi_and255]) (by simp only [zi_add, zi_sub, zi_mul, zi_neg, zi_and1, zi_and7, zi_and15, zi_and31, zi_and255]) ?_
            have hl11 : 256 ≤ h9.2.2.2.1 c10 ∧ h9.2.2.2.1 c10 ≤ 256 := gJ.rowl (G := gGG) sh9.1 tc10 rfl
            refine gs_ald rfl (by decide) sh9.1 tc10 rfl rfl rfl (by decide) (fun _ => rfl) (by omega) (by omega) (fun z12 ez12 az12 bz12 => ?_)
            refine gz_s 2 (pc' := 72) (L' := [some (.ref m), some (.int (zi kd)), some (.int (zi i)), some (.int (zi v)), some (.int (zi z12))]) (S' := [.ref m]) rfl ?_
            refine gs_gtk rfl (by decide) rfl sh9.1 tm rfl rfl ec10 ?_
            refine gy_s 7 (pc' := 83) (L' := [some (.ref m), some (.int (zi kd)), some (.int (zi i)), some (.int (zi v)), some (.int (zi z12))]) (S' := [.int (zi (-1)), .int (zi v), .int (((zi 64) * (zi kd)) + (zi i)), .ref c10]) (L2 := [some (.ref m), some (.int (zi kd)), some (.int (zi i)), some (.int (zi v)), some (.int (zi z12))]) (S2 := [.int (zi (-1)), .int (zi v), .int (zi ((64 * kd) + i)), .ref c10]) rfl (by simp only [zi_add, zi_sub, zi_mul, zi_neg, zi_and1, zi_and7, zi_and15, zi_and31, zi_and255]) (by simp only [zi_add, zi_sub, zi_mul, zi_neg, zi_and1, zi_and7, zi_and15, zi_and31, zi_and255]) ?_
            refine gy_icF rfl (by decide) (by decide) (by omega) (by omega) (by simp only [zc]; omega) ?_
            refine gz_s 2 (pc' := 92) (L' := [some (.ref m), some (.int (zi kd)), some (.int (zi i)), some (.int (zi v)), some (.int (zi z12))]) (S' := [.int (zi z12), .int (zi ((64 * kd) + i)), .ref c10]) rfl ?_
            have hl13 : 256 ≤ h9.2.2.2.1 c10 ∧ h9.2.2.2.1 c10 ≤ 256 := gJ.rowl (G := gGG) sh9.1 tc10 rfl
            refine gs_ast rfl (by decide) sh9 tc10 rfl rfl rfl (by decide) (fun _ => rfl) (by omega) (by omega) (fun _ => (by decide : (8999 : Nat) ∈ ([1000, 8999] : List Nat))) (by omega) (by omega) (fun h14 sh14 eh14 fh14 => ?_)
            have s15 := (fh14 m 0 (fun q => absurd (((tm).symm.trans (congrArg ty q.1)).trans tc10) (by decide))).trans eh9
            have s16 := (fh14 m 13 (fun q => absurd (((tm).symm.trans (congrArg ty q.1)).trans tc10) (by decide))).trans ec10
            refine gz_s 1 (pc' := 95) (L' := [some (.ref m), some (.int (zi kd)), some (.int (zi i)), some (.int (zi v)), some (.int (zi z12))]) (S' := [.int (zi z12)]) rfl ?_
            exact gz_end (I := .ireturn) (len := 1) rfl (Or.inl rfl) ⟨sh14, z12, rfl, (by omega), (by omega)⟩
          · refine gy_icF rfl (by decide) (by decide) (by omega) (by omega) hc8 ?_
            refine gz_s 2 (pc' := 31) (L' := [some (.ref m), some (.int (zi kd)), some (.int (zi i)), some (.int (zi v)), none]) (S' := [.int (zi 1), .int (zi v), .ref m]) rfl ?_
            by_cases hc17 : (v : Int) < 1
            · refine gy_icT (pc' := 41) rfl (by decide) (by decide) (by omega) (by omega) hc17 ?_
              refine gz_s 2 (pc' := 46) (L' := [some (.ref m), some (.int (zi kd)), some (.int (zi i)), some (.int (zi v)), none]) (S' := [.int (zi 2), .ref m]) rfl ?_
              refine gs_put rfl (by decide) rfl hS tm rfl rfl rfl rfl (Or.inl rfl) (by decide) (by omega) (by omega) (fun h18 sh18 eh18 fh18 => ?_)
              refine gz_s 1 (pc' := 50) (L' := [some (.ref m), some (.int (zi kd)), some (.int (zi i)), some (.int (zi v)), none]) (S' := [.ref m]) rfl ?_
              refine gs_gtk rfl (by decide) rfl sh18.1 tm rfl rfl eh18 ?_
              refine gy_ifF rfl (by decide) (by decide) (by omega) (by simp only [zc]; omega) ?_
              refine gz_s 1 (pc' := 57) (L' := [some (.ref m), some (.int (zi kd)), some (.int (zi i)), some (.int (zi v)), none]) (S' := [.int (zi 0)]) rfl ?_
              exact gz_end (I := .ireturn) (len := 1) rfl (Or.inl rfl) ⟨sh18, 0, rfl, (by omega), (by omega)⟩
            · refine gy_icF rfl (by decide) (by decide) (by omega) (by omega) hc17 ?_
              refine gz_s 2 (pc' := 38) (L' := [some (.ref m), some (.int (zi kd)), some (.int (zi i)), some (.int (zi v)), none]) (S' := [.int (zi 255), .int (zi v), .ref m]) rfl ?_
              by_cases hc19 : (v : Int) ≤ 255
              · refine gy_icT (pc' := 45) rfl (by decide) (by decide) (by omega) (by omega) hc19 ?_
                refine gz_s 1 (pc' := 46) (L' := [some (.ref m), some (.int (zi kd)), some (.int (zi i)), some (.int (zi v)), none]) (S' := [.int (zi 0), .ref m]) rfl ?_
                refine gs_put rfl (by decide) rfl hS tm rfl rfl rfl rfl (Or.inl rfl) (by decide) (by omega) (by omega) (fun h20 sh20 eh20 fh20 => ?_)
                refine gz_s 1 (pc' := 50) (L' := [some (.ref m), some (.int (zi kd)), some (.int (zi i)), some (.int (zi v)), none]) (S' := [.ref m]) rfl ?_
                refine gs_gtk rfl (by decide) rfl sh20.1 tm rfl rfl eh20 ?_
                refine gy_ifT (pc' := 58) rfl (by decide) (by decide) (by omega) (by simp only [zc]; omega) ?_
                refine gz_s 1 (pc' := 59) (L' := [some (.ref m), some (.int (zi kd)), some (.int (zi i)), some (.int (zi v)), none]) (S' := [.ref m]) rfl ?_
                refine gs_gtr rfl (by decide) rfl sh20.1 tm rfl rfl rfl (fun c21 ec21 tc21 => ?_)
                refine gy_s 5 (pc' := 68) (L' := [some (.ref m), some (.int (zi kd)), some (.int (zi i)), some (.int (zi v)), none]) (S' := [.int (((zi 64) * (zi kd)) + (zi i)), .ref c21]) (L2 := [some (.ref m), some (.int (zi kd)), some (.int (zi i)), some (.int (zi v)), none]) (S2 := [.int (zi ((64 * kd) + i)), .ref c21]) rfl (by simp only [zi_add, zi_sub, zi_mul, zi_neg, zi_and1, zi_and7, zi_and15, zi_and31, zi_and255]) (by simp only [zi_add, zi_sub, zi_mul, zi_neg, zi_and1, zi_and7, zi_and15, zi_and31, zi_and255]) ?_
                have hl22 : 256 ≤ h20.2.2.2.1 c21 ∧ h20.2.2.2.1 c21 ≤ 256 := gJ.rowl (G := gGG) sh20.1 tc21 rfl
                refine gs_ald rfl (by decide) sh20.1 tc21 rfl rfl rfl (by decide) (fun _ => rfl) (by omega) (by omega) (fun z23 ez23 az23 bz23 => ?_)
                refine gz_s 2 (pc' := 72) (L' := [some (.ref m), some (.int (zi kd)), some (.int (zi i)), some (.int (zi v)), some (.int (zi z23))]) (S' := [.ref m]) rfl ?_
                refine gs_gtk rfl (by decide) rfl sh20.1 tm rfl rfl ec21 ?_
                refine gy_s 7 (pc' := 83) (L' := [some (.ref m), some (.int (zi kd)), some (.int (zi i)), some (.int (zi v)), some (.int (zi z23))]) (S' := [.int (zi (-1)), .int (zi v), .int (((zi 64) * (zi kd)) + (zi i)), .ref c21]) (L2 := [some (.ref m), some (.int (zi kd)), some (.int (zi i)), some (.int (zi v)), some (.int (zi z23))]) (S2 := [.int (zi (-1)), .int (zi v), .int (zi ((64 * kd) + i)), .ref c21]) rfl (by simp only [zi_add, zi_sub, zi_mul, zi_neg, zi_and1, zi_and7, zi_and15, zi_and31, zi_and255]) (by simp only [zi_add, zi_sub, zi_mul, zi_neg, zi_and1, zi_and7, zi_and15, zi_and31, zi_and255]) ?_
                refine gy_icT (pc' := 91) rfl (by decide) (by decide) (by omega) (by omega) (by simp only [zc]; omega) ?_
                refine gz_s 1 (pc' := 92) (L' := [some (.ref m), some (.int (zi kd)), some (.int (zi i)), some (.int (zi v)), some (.int (zi z23))]) (S' := [.int (zi v), .int (zi ((64 * kd) + i)), .ref c21]) rfl ?_
                have hl24 : 256 ≤ h20.2.2.2.1 c21 ∧ h20.2.2.2.1 c21 ≤ 256 := gJ.rowl (G := gGG) sh20.1 tc21 rfl
                refine gs_ast rfl (by decide) sh20 tc21 rfl rfl rfl (by decide) (fun _ => rfl) (by omega) (by omega) (fun _ => (by decide : (8999 : Nat) ∈ ([1000, 8999] : List Nat))) (by omega) (by omega) (fun h25 sh25 eh25 fh25 => ?_)
                have s26 := (fh25 m 0 (fun q => absurd (((tm).symm.trans (congrArg ty q.1)).trans tc21) (by decide))).trans eh20
                have s27 := (fh25 m 13 (fun q => absurd (((tm).symm.trans (congrArg ty q.1)).trans tc21) (by decide))).trans ec21
                refine gz_s 1 (pc' := 95) (L' := [some (.ref m), some (.int (zi kd)), some (.int (zi i)), some (.int (zi v)), some (.int (zi z23))]) (S' := [.int (zi z23)]) rfl ?_
                exact gz_end (I := .ireturn) (len := 1) rfl (Or.inl rfl) ⟨sh25, z23, rfl, (by omega), (by omega)⟩
              · refine gy_icF rfl (by decide) (by decide) (by omega) (by omega) hc19 ?_
                refine gz_s 2 (pc' := 46) (L' := [some (.ref m), some (.int (zi kd)), some (.int (zi i)), some (.int (zi v)), none]) (S' := [.int (zi 2), .ref m]) rfl ?_
                refine gs_put rfl (by decide) rfl hS tm rfl rfl rfl rfl (Or.inl rfl) (by decide) (by omega) (by omega) (fun h28 sh28 eh28 fh28 => ?_)
                refine gz_s 1 (pc' := 50) (L' := [some (.ref m), some (.int (zi kd)), some (.int (zi i)), some (.int (zi v)), none]) (S' := [.ref m]) rfl ?_
                refine gs_gtk rfl (by decide) rfl sh28.1 tm rfl rfl eh28 ?_
                refine gy_ifF rfl (by decide) (by decide) (by omega) (by simp only [zc]; omega) ?_
                refine gz_s 1 (pc' := 57) (L' := [some (.ref m), some (.int (zi kd)), some (.int (zi i)), some (.int (zi v)), none]) (S' := [.int (zi 0)]) rfl ?_
                exact gz_end (I := .ireturn) (len := 1) rfl (Or.inl rfl) ⟨sh28, 0, rfl, (by omega), (by omega)⟩
        · refine gy_icF rfl (by decide) (by decide) (by omega) (by omega) hc7 ?_
          refine gz_s 2 (pc' := 46) (L' := [some (.ref m), some (.int (zi kd)), some (.int (zi i)), some (.int (zi v)), none]) (S' := [.int (zi 1), .ref m]) rfl ?_
          refine gs_put rfl (by decide) rfl hS tm rfl rfl rfl rfl (Or.inl rfl) (by decide) (by omega) (by omega) (fun h29 sh29 eh29 fh29 => ?_)
          refine gz_s 1 (pc' := 50) (L' := [some (.ref m), some (.int (zi kd)), some (.int (zi i)), some (.int (zi v)), none]) (S' := [.ref m]) rfl ?_
          refine gs_gtk rfl (by decide) rfl sh29.1 tm rfl rfl eh29 ?_
          refine gy_ifF rfl (by decide) (by decide) (by omega) (by simp only [zc]; omega) ?_
          refine gz_s 1 (pc' := 57) (L' := [some (.ref m), some (.int (zi kd)), some (.int (zi i)), some (.int (zi v)), none]) (S' := [.int (zi 0)]) rfl ?_
          exact gz_end (I := .ireturn) (len := 1) rfl (Or.inl rfl) ⟨sh29, 0, rfl, (by omega), (by omega)⟩
set_option maxRecDepth 20000 in
set_option maxHeartbeats 4000000 in
theorem mm_add (d : Nat) {ty : Nat → Nat} {h : gH} (hJ : gJ rT 1027 ty h) (m : Nat) (tm : ty m = 1) (b : Int) (rb : (-128) ≤ b ∧ b ≤ 127)  : gz gPP gGG gcn (d + 0) gt131 0 (gent [.ref m, .int (zi b)] 2) [] h (fun q _ => gSs rT 1027 ty [1000, 1001, 2999] h q.2.2 ∧ gfin gt131 q.1 q.2.1 = some none) := by
  have hS : gSs rT 1027 ty [1000, 1001, 2999] h h := gSs.rf hJ
  refine gz_s 2 (pc' := 2) (L' := [some (.ref m), some (.int (zi b))]) (S' := [.ref m, .ref m]) rfl ?_
  refine gs_get rfl (by decide) rfl hS.1 tm rfl rfl rfl (fun z1 ez1 az1 bz1 => ?_)
  refine gz_s 1 (pc' := 8) (L' := [some (.ref m), some (.int (zi b))]) (S' := [.int (zi 2000), .int (zi z1), .ref m]) rfl ?_
  by_cases hc2 : ¬ (z1 : Int) = 2000
  · refine gy_icT (pc' := 15) rfl (by decide) (by decide) (by omega) (by omega) hc2 ?_
    refine gz_s 1 (pc' := 16) (L' := [some (.ref m), some (.int (zi b))]) (S' := [.int (zi 0), .ref m]) rfl ?_
    refine gs_put rfl (by decide) rfl hS tm rfl rfl rfl rfl (Or.inl rfl) (by decide) (by omega) (by omega) (fun h3 sh3 eh3 fh3 => ?_)
    have s4 := (fh3 m 1 (fun q => absurd q.2 (by decide))).trans ez1
    refine gz_s 1 (pc' := 20) (L' := [some (.ref m), some (.int (zi b))]) (S' := [.ref m]) rfl ?_
    refine gs_gtk rfl (by decide) rfl sh3.1 tm rfl rfl eh3 ?_
    refine gy_ifF rfl (by decide) (by decide) (by omega) (by simp only [zc]; omega) ?_
    refine gz_s 1 (pc' := 27) (L' := [some (.ref m), some (.int (zi b))]) (S' := [.ref m]) rfl ?_
    refine gs_gtr rfl (by decide) rfl sh3.1 tm rfl rfl rfl (fun c5 ec5 tc5 => ?_)
    refine gz_s 1 (pc' := 31) (L' := [some (.ref m), some (.int (zi b))]) (S' := [.ref m, .ref c5]) rfl ?_
    refine gs_gtk rfl (by decide) rfl sh3.1 tm rfl rfl s4 ?_
    refine gy_s 3 (pc' := 39) (L' := [some (.ref m), some (.int (zi b))]) (S' := [.int ((zi b) &&& (zi 255)), .int (zi z1), .ref c5]) (L2 := [some (.ref m), some (.int (zi b))]) (S2 := [.int (zi (b % 256)), .int (zi z1), .ref c5]) rfl (by simp only [zi_add, zi_sub, zi_mul, zi_neg, zi_and1, zi_and7, zi_and15, zi_and31, zi_and255]) (by simp only [zi_add, zi_sub, zi_mul, zi_neg, zi_and1, zi_and7, zi_and15, zi_and31, zi_and255]) ?_
    have hl6 : 2000 ≤ h3.2.2.2.1 c5 ∧ h3.2.2.2.1 c5 ≤ 2000 := gJ.rowl (G := gGG) sh3.1 tc5 rfl
    refine gs_ast rfl (by decide) sh3 tc5 rfl rfl rfl (by decide) (fun _ => rfl) (by omega) (by omega) (fun _ => (by decide : (2999 : Nat) ∈ ([1000, 1001, 2999] : List Nat))) (by omega) (by omega) (fun h7 sh7 eh7 fh7 => ?_)
    have s8 := (fh7 m 1 (fun q => absurd (((tm).symm.trans (congrArg ty q.1)).trans tc5) (by decide))).trans s4
    have s9 := (fh7 m 0 (fun q => absurd (((tm).symm.trans (congrArg ty q.1)).trans tc5) (by decide))).trans eh3
    have s10 := (fh7 m 2 (fun q => absurd (((tm).symm.trans (congrArg ty q.1)).trans tc5) (by decide))).trans ec5
    refine gz_s 2 (pc' := 42) (L' := [some (.ref m), some (.int (zi b))]) (S' := [.ref m, .ref m]) rfl ?_
    refine gs_gtk rfl (by decide) rfl sh7.1 tm rfl rfl s8 ?_
    refine gy_s 2 (pc' := 47) (L' := [some (.ref m), some (.int (zi b))]) (S' := [.int ((zi z1) + (zi 1)), .ref m]) (L2 := [some (.ref m), some (.int (zi b))]) (S2 := [.int (zi (z1 + 1)), .ref m]) rfl (by simp only [zi_add, zi_sub, zi_mul, zi_neg, zi_and1, zi_and7, zi_and15, zi_and31, zi_and255]) (by simp only [zi_add, zi_sub, zi_mul, zi_neg, zi_and1, zi_and7, zi_and15, zi_and31, zi_and255]) ?_
    refine gs_put rfl (by decide) rfl sh7 tm rfl rfl rfl rfl (Or.inl rfl) (by decide) (by omega) (by omega) (fun h11 sh11 eh11 fh11 => ?_)
    have s12 := (fh11 m 0 (fun q => absurd q.2 (by decide))).trans s9
    have s13 := (fh11 m 2 (fun q => absurd q.2 (by decide))).trans s10
    exact gz_end (I := .return_) (len := 1) rfl (Or.inl rfl) ⟨sh11, rfl⟩
  · refine gy_icF rfl (by decide) (by decide) (by omega) (by omega) hc2 ?_
    refine gz_s 2 (pc' := 16) (L' := [some (.ref m), some (.int (zi b))]) (S' := [.int (zi 1), .ref m]) rfl ?_
    refine gs_put rfl (by decide) rfl hS tm rfl rfl rfl rfl (Or.inl rfl) (by decide) (by omega) (by omega) (fun h14 sh14 eh14 fh14 => ?_)
    have s15 := (fh14 m 1 (fun q => absurd q.2 (by decide))).trans ez1
    refine gz_s 1 (pc' := 20) (L' := [some (.ref m), some (.int (zi b))]) (S' := [.ref m]) rfl ?_
    refine gs_gtk rfl (by decide) rfl sh14.1 tm rfl rfl eh14 ?_
    refine gy_ifT (pc' := 50) rfl (by decide) (by decide) (by omega) (by simp only [zc]; omega) ?_
    exact gz_end (I := .return_) (len := 1) rfl (Or.inl rfl) ⟨sh14, rfl⟩
set_option maxRecDepth 20000 in
set_option maxHeartbeats 4000000 in
theorem mm_point (d : Nat) {ty : Nat → Nat} {h : gH} (hJ : gJ rT 1027 ty h) (m : Nat) (tm : ty m = 1) (x : Int) (rx : (-2147483648) ≤ x ∧ x ≤ 2147483647) (y : Int) (ry : (-2147483648) ≤ y ∧ y ≤ 2147483647) (v : Int) (rv : (-2147483648) ≤ v ∧ v ≤ 2147483647)  : gz gPP gGG gcn (d + 0) gt180 0 (gent [.ref m, .int (zi x), .int (zi y), .int (zi v)] 5) [] h (fun q _ => gSs rT 1027 ty [1000, 1050, 1051, 26999] h q.2.2 ∧ ∃ z : Int, gfin gt180 q.1 q.2.1 = some (some (.int (zi z))) ∧ 0 ≤ z ∧ z ≤ 255) := by
  have hS : gSs rT 1027 ty [1000, 1050, 1051, 26999] h h := gSs.rf hJ
  refine gz_s 2 (pc' := 2) (L' := [some (.ref m), some (.int (zi x)), some (.int (zi y)), some (.int (zi v)), none]) (S' := [.int (zi x), .ref m]) rfl ?_
  by_cases hc1 : (x : Int) < 0
  · refine gy_ifT (pc' := 21) rfl (by decide) (by decide) (by omega) hc1 ?_
    refine gz_s 2 (pc' := 41) (L' := [some (.ref m), some (.int (zi x)), some (.int (zi y)), some (.int (zi v)), none]) (S' := [.int (zi 1), .ref m]) rfl ?_
    refine gs_put rfl (by decide) rfl hS tm rfl rfl rfl rfl (Or.inl rfl) (by decide) (by omega) (by omega) (fun h2 sh2 eh2 fh2 => ?_)
    refine gz_s 1 (pc' := 45) (L' := [some (.ref m), some (.int (zi x)), some (.int (zi y)), some (.int (zi v)), none]) (S' := [.ref m]) rfl ?_
    refine gs_gtk rfl (by decide) rfl sh2.1 tm rfl rfl eh2 ?_
    refine gy_ifF rfl (by decide) (by decide) (by omega) (by simp only [zc]; omega) ?_
    refine gz_s 1 (pc' := 52) (L' := [some (.ref m), some (.int (zi x)), some (.int (zi y)), some (.int (zi v)), none]) (S' := [.int (zi 0)]) rfl ?_
    exact gz_end (I := .ireturn) (len := 1) rfl (Or.inl rfl) ⟨sh2, 0, rfl, (by omega), (by omega)⟩
  · refine gy_ifF rfl (by decide) (by decide) (by omega) hc1 ?_
    refine gz_s 2 (pc' := 8) (L' := [some (.ref m), some (.int (zi x)), some (.int (zi y)), some (.int (zi v)), none]) (S' := [.int (zi 31), .int (zi x), .ref m]) rfl ?_
    by_cases hc3 : (31 : Int) < x
    · refine gy_icT (pc' := 21) rfl (by decide) (by decide) (by omega) (by omega) hc3 ?_
      refine gz_s 2 (pc' := 41) (L' := [some (.ref m), some (.int (zi x)), some (.int (zi y)), some (.int (zi v)), none]) (S' := [.int (zi 1), .ref m]) rfl ?_
      refine gs_put rfl (by decide) rfl hS tm rfl rfl rfl rfl (Or.inl rfl) (by decide) (by omega) (by omega) (fun h4 sh4 eh4 fh4 => ?_)
      refine gz_s 1 (pc' := 45) (L' := [some (.ref m), some (.int (zi x)), some (.int (zi y)), some (.int (zi v)), none]) (S' := [.ref m]) rfl ?_
      refine gs_gtk rfl (by decide) rfl sh4.1 tm rfl rfl eh4 ?_
      refine gy_ifF rfl (by decide) (by decide) (by omega) (by simp only [zc]; omega) ?_
      refine gz_s 1 (pc' := 52) (L' := [some (.ref m), some (.int (zi x)), some (.int (zi y)), some (.int (zi v)), none]) (S' := [.int (zi 0)]) rfl ?_
      exact gz_end (I := .ireturn) (len := 1) rfl (Or.inl rfl) ⟨sh4, 0, rfl, (by omega), (by omega)⟩
    · refine gy_icF rfl (by decide) (by decide) (by omega) (by omega) hc3 ?_
      refine gz_s 1 (pc' := 12) (L' := [some (.ref m), some (.int (zi x)), some (.int (zi y)), some (.int (zi v)), none]) (S' := [.int (zi y), .ref m]) rfl ?_
      by_cases hc5 : (y : Int) < 0
      · refine gy_ifT (pc' := 21) rfl (by decide) (by decide) (by omega) hc5 ?_
        refine gz_s 2 (pc' := 41) (L' := [some (.ref m), some (.int (zi x)), some (.int (zi y)), some (.int (zi v)), none]) (S' := [.int (zi 1), .ref m]) rfl ?_
        refine gs_put rfl (by decide) rfl hS tm rfl rfl rfl rfl (Or.inl rfl) (by decide) (by omega) (by omega) (fun h6 sh6 eh6 fh6 => ?_)
        refine gz_s 1 (pc' := 45) (L' := [some (.ref m), some (.int (zi x)), some (.int (zi y)), some (.int (zi v)), none]) (S' := [.ref m]) rfl ?_
        refine gs_gtk rfl (by decide) rfl sh6.1 tm rfl rfl eh6 ?_
        refine gy_ifF rfl (by decide) (by decide) (by omega) (by simp only [zc]; omega) ?_
        refine gz_s 1 (pc' := 52) (L' := [some (.ref m), some (.int (zi x)), some (.int (zi y)), some (.int (zi v)), none]) (S' := [.int (zi 0)]) rfl ?_
        exact gz_end (I := .ireturn) (len := 1) rfl (Or.inl rfl) ⟨sh6, 0, rfl, (by omega), (by omega)⟩
      · refine gy_ifF rfl (by decide) (by decide) (by omega) hc5 ?_
        refine gz_s 2 (pc' := 18) (L' := [some (.ref m), some (.int (zi x)), some (.int (zi y)), some (.int (zi v)), none]) (S' := [.int (zi 31), .int (zi y), .ref m]) rfl ?_
        by_cases hc7 : (y : Int) ≤ 31
        · refine gy_icT (pc' := 25) rfl (by decide) (by decide) (by omega) (by omega) hc7 ?_
          refine gz_s 1 (pc' := 26) (L' := [some (.ref m), some (.int (zi x)), some (.int (zi y)), some (.int (zi v)), none]) (S' := [.int (zi v), .ref m]) rfl ?_
          by_cases hc8 : (v : Int) < 0
          · refine gy_ifT (pc' := 36) rfl (by decide) (by decide) (by omega) hc8 ?_
            refine gz_s 2 (pc' := 41) (L' := [some (.ref m), some (.int (zi x)), some (.int (zi y)), some (.int (zi v)), none]) (S' := [.int (zi 2), .ref m]) rfl ?_
            refine gs_put rfl (by decide) rfl hS tm rfl rfl rfl rfl (Or.inl rfl) (by decide) (by omega) (by omega) (fun h9 sh9 eh9 fh9 => ?_)
            refine gz_s 1 (pc' := 45) (L' := [some (.ref m), some (.int (zi x)), some (.int (zi y)), some (.int (zi v)), none]) (S' := [.ref m]) rfl ?_
            refine gs_gtk rfl (by decide) rfl sh9.1 tm rfl rfl eh9 ?_
            refine gy_ifF rfl (by decide) (by decide) (by omega) (by simp only [zc]; omega) ?_
            refine gz_s 1 (pc' := 52) (L' := [some (.ref m), some (.int (zi x)), some (.int (zi y)), some (.int (zi v)), none]) (S' := [.int (zi 0)]) rfl ?_
            exact gz_end (I := .ireturn) (len := 1) rfl (Or.inl rfl) ⟨sh9, 0, rfl, (by omega), (by omega)⟩
          · refine gy_ifF rfl (by decide) (by decide) (by omega) hc8 ?_
            refine gz_s 2 (pc' := 33) (L' := [some (.ref m), some (.int (zi x)), some (.int (zi y)), some (.int (zi v)), none]) (S' := [.int (zi 255), .int (zi v), .ref m]) rfl ?_
            by_cases hc10 : (v : Int) ≤ 255
            · refine gy_icT (pc' := 40) rfl (by decide) (by decide) (by omega) (by omega) hc10 ?_
              refine gz_s 1 (pc' := 41) (L' := [some (.ref m), some (.int (zi x)), some (.int (zi y)), some (.int (zi v)), none]) (S' := [.int (zi 0), .ref m]) rfl ?_
              refine gs_put rfl (by decide) rfl hS tm rfl rfl rfl rfl (Or.inl rfl) (by decide) (by omega) (by omega) (fun h11 sh11 eh11 fh11 => ?_)
              refine gz_s 1 (pc' := 45) (L' := [some (.ref m), some (.int (zi x)), some (.int (zi y)), some (.int (zi v)), none]) (S' := [.ref m]) rfl ?_
              refine gs_gtk rfl (by decide) rfl sh11.1 tm rfl rfl eh11 ?_
              refine gy_ifT (pc' := 53) rfl (by decide) (by decide) (by omega) (by simp only [zc]; omega) ?_
              refine gz_s 1 (pc' := 54) (L' := [some (.ref m), some (.int (zi x)), some (.int (zi y)), some (.int (zi v)), none]) (S' := [.ref m]) rfl ?_
              refine gs_gtr rfl (by decide) rfl sh11.1 tm rfl rfl rfl (fun c12 ec12 tc12 => ?_)
              refine gy_s 5 (pc' := 63) (L' := [some (.ref m), some (.int (zi x)), some (.int (zi y)), some (.int (zi v)), none]) (S' := [.int (((zi 32) * (zi y)) + (zi x)), .ref c12]) (L2 := [some (.ref m), some (.int (zi x)), some (.int (zi y)), some (.int (zi v)), none]) (S2 := [.int (zi ((32 * y) + x)), .ref c12]) rfl (by simp only [zi_add, zi_sub, zi_mul, zi_neg, zi_and1, zi_and7, zi_and15, zi_and31, zi_and255]) (by simp only [zi_add, zi_sub, zi_mul, zi_neg, zi_and1, zi_and7, zi_and15, zi_and31, zi_and255]) ?_
              have hl13 : 1024 ≤ h11.2.2.2.1 c12 ∧ h11.2.2.2.1 c12 ≤ 1024 := gJ.rowl (G := gGG) sh11.1 tc12 rfl
              refine gs_ald rfl (by decide) sh11.1 tc12 rfl rfl rfl (by decide) (fun _ => rfl) (by omega) (by omega) (fun z14 ez14 az14 bz14 => ?_)
              refine gz_s 2 (pc' := 67) (L' := [some (.ref m), some (.int (zi x)), some (.int (zi y)), some (.int (zi v)), some (.int (zi z14))]) (S' := [.ref m]) rfl ?_
              refine gs_gtk rfl (by decide) rfl sh11.1 tm rfl rfl ec12 ?_
              refine gy_s 6 (pc' := 77) (L' := [some (.ref m), some (.int (zi x)), some (.int (zi y)), some (.int (zi v)), some (.int (zi z14))]) (S' := [.int (zi v), .int (((zi 32) * (zi y)) + (zi x)), .ref c12]) (L2 := [some (.ref m), some (.int (zi x)), some (.int (zi y)), some (.int (zi v)), some (.int (zi z14))]) (S2 := [.int (zi v), .int (zi ((32 * y) + x)), .ref c12]) rfl (by simp only [zi_add, zi_sub, zi_mul, zi_neg, zi_and1, zi_and7, zi_and15, zi_and31, zi_and255]) (by simp only [zi_add, zi_sub, zi_mul, zi_neg, zi_and1, zi_and7, zi_and15, zi_and31, zi_and255]) ?_
              have hl15 : 1024 ≤ h11.2.2.2.1 c12 ∧ h11.2.2.2.1 c12 ≤ 1024 := gJ.rowl (G := gGG) sh11.1 tc12 rfl
              refine gs_ast rfl (by decide) sh11 tc12 rfl rfl rfl (by decide) (fun _ => rfl) (by omega) (by omega) (fun _ => (by decide : (26999 : Nat) ∈ ([1000, 1050, 1051, 26999] : List Nat))) (by omega) (by omega) (fun h16 sh16 eh16 fh16 => ?_)
              have s17 := (fh16 m 0 (fun q => absurd (((tm).symm.trans (congrArg ty q.1)).trans tc12) (by decide))).trans eh11
              have s18 := (fh16 m 49 (fun q => absurd (((tm).symm.trans (congrArg ty q.1)).trans tc12) (by decide))).trans ec12
              refine gz_s 3 (pc' := 81) (L' := [some (.ref m), some (.int (zi x)), some (.int (zi y)), some (.int (zi v)), some (.int (zi z14))]) (S' := [.ref m, .int (zi x), .ref m]) rfl ?_
              refine gs_get rfl (by decide) rfl sh16.1 tm rfl rfl rfl (fun z19 ez19 az19 bz19 => ?_)
              by_cases hc20 : (x : Int) < z19
              · refine gy_icT (pc' := 93) rfl (by decide) (by decide) (by omega) (by omega) hc20 ?_
                refine gz_s 1 (pc' := 94) (L' := [some (.ref m), some (.int (zi x)), some (.int (zi y)), some (.int (zi v)), some (.int (zi z14))]) (S' := [.ref m, .ref m]) rfl ?_
                refine gs_gtk rfl (by decide) rfl sh16.1 tm rfl rfl ez19 ?_
                refine gs_put rfl (by decide) rfl sh16 tm rfl rfl rfl rfl (Or.inl rfl) (by decide) (by omega) (by omega) (fun h21 sh21 eh21 fh21 => ?_)
                have s22 := (fh21 m 0 (fun q => absurd q.2 (by decide))).trans s17
                have s23 := (fh21 m 49 (fun q => absurd q.2 (by decide))).trans s18
                refine gz_s 3 (pc' := 103) (L' := [some (.ref m), some (.int (zi x)), some (.int (zi y)), some (.int (zi v)), some (.int (zi z14))]) (S' := [.ref m, .int (zi y), .ref m]) rfl ?_
                refine gs_get rfl (by decide) rfl sh21.1 tm rfl rfl rfl (fun z24 ez24 az24 bz24 => ?_)
                by_cases hc25 : (y : Int) < z24
                · refine gy_icT (pc' := 115) rfl (by decide) (by decide) (by omega) (by omega) hc25 ?_
                  refine gz_s 1 (pc' := 116) (L' := [some (.ref m), some (.int (zi x)), some (.int (zi y)), some (.int (zi v)), some (.int (zi z14))]) (S' := [.ref m, .ref m]) rfl ?_
                  refine gs_gtk rfl (by decide) rfl sh21.1 tm rfl rfl ez24 ?_
                  refine gs_put rfl (by decide) rfl sh21 tm rfl rfl rfl rfl (Or.inl rfl) (by decide) (by omega) (by omega) (fun h26 sh26 eh26 fh26 => ?_)
                  have s27 := (fh26 m 0 (fun q => absurd q.2 (by decide))).trans s22
                  have s28 := (fh26 m 49 (fun q => absurd q.2 (by decide))).trans s23
                  have s29 := (fh26 m 50 (fun q => absurd q.2 (by decide))).trans eh21
                  refine gz_s 1 (pc' := 124) (L' := [some (.ref m), some (.int (zi x)), some (.int (zi y)), some (.int (zi v)), some (.int (zi z14))]) (S' := [.int (zi z14)]) rfl ?_
                  exact gz_end (I := .ireturn) (len := 1) rfl (Or.inl rfl) ⟨sh26, z14, rfl, (by omega), (by omega)⟩
                · refine gy_icF rfl (by decide) (by decide) (by omega) (by omega) hc25 ?_
                  refine gy_s 4 (pc' := 119) (L' := [some (.ref m), some (.int (zi x)), some (.int (zi y)), some (.int (zi v)), some (.int (zi z14))]) (S' := [.int ((zi y) + (zi 1)), .ref m]) (L2 := [some (.ref m), some (.int (zi x)), some (.int (zi y)), some (.int (zi v)), some (.int (zi z14))]) (S2 := [.int (zi (y + 1)), .ref m]) rfl (by simp only [zi_add, zi_sub, zi_mul, zi_neg, zi_and1, zi_and7, zi_and15, zi_and31, zi_and255]) (by simp only [zi_add, zi_sub, zi_mul, zi_neg, zi_and1, zi_and7, zi_and15, zi_and31, zi_and255]) ?_
                  refine gs_put rfl (by decide) rfl sh21 tm rfl rfl rfl rfl (Or.inl rfl) (by decide) (by omega) (by omega) (fun h30 sh30 eh30 fh30 => ?_)
                  have s31 := (fh30 m 0 (fun q => absurd q.2 (by decide))).trans s22
                  have s32 := (fh30 m 49 (fun q => absurd q.2 (by decide))).trans s23
                  have s33 := (fh30 m 50 (fun q => absurd q.2 (by decide))).trans eh21
                  refine gz_s 1 (pc' := 124) (L' := [some (.ref m), some (.int (zi x)), some (.int (zi y)), some (.int (zi v)), some (.int (zi z14))]) (S' := [.int (zi z14)]) rfl ?_
                  exact gz_end (I := .ireturn) (len := 1) rfl (Or.inl rfl) ⟨sh30, z14, rfl, (by omega), (by omega)⟩
              · refine gy_icF rfl (by decide) (by decide) (by omega) (by omega) hc20 ?_
                refine gy_s 4 (pc' := 97) (L' := [some (.ref m), some (.int (zi x)), some (.int (zi y)), some (.int (zi v)), some (.int (zi z14))]) (S' := [.int ((zi x) + (zi 1)), .ref m]) (L2 := [some (.ref m), some (.int (zi x)), some (.int (zi y)), some (.int (zi v)), some (.int (zi z14))]) (S2 := [.int (zi (x + 1)), .ref m]) rfl (by simp only [zi_add, zi_sub, zi_mul, zi_neg, zi_and1, zi_and7, zi_and15, zi_and31, zi_and255]) (by simp only [zi_add, zi_sub, zi_mul, zi_neg, zi_and1, zi_and7, zi_and15, zi_and31, zi_and255]) ?_
                refine gs_put rfl (by decide) rfl sh16 tm rfl rfl rfl rfl (Or.inl rfl) (by decide) (by omega) (by omega) (fun h34 sh34 eh34 fh34 => ?_)
                have s35 := (fh34 m 0 (fun q => absurd q.2 (by decide))).trans s17
                have s36 := (fh34 m 49 (fun q => absurd q.2 (by decide))).trans s18
                refine gz_s 3 (pc' := 103) (L' := [some (.ref m), some (.int (zi x)), some (.int (zi y)), some (.int (zi v)), some (.int (zi z14))]) (S' := [.ref m, .int (zi y), .ref m]) rfl ?_
                refine gs_get rfl (by decide) rfl sh34.1 tm rfl rfl rfl (fun z37 ez37 az37 bz37 => ?_)
                by_cases hc38 : (y : Int) < z37
                · refine gy_icT (pc' := 115) rfl (by decide) (by decide) (by omega) (by omega) hc38 ?_
                  refine gz_s 1 (pc' := 116) (L' := [some (.ref m), some (.int (zi x)), some (.int (zi y)), some (.int (zi v)), some (.int (zi z14))]) (S' := [.ref m, .ref m]) rfl ?_
                  refine gs_gtk rfl (by decide) rfl sh34.1 tm rfl rfl ez37 ?_
                  refine gs_put rfl (by decide) rfl sh34 tm rfl rfl rfl rfl (Or.inl rfl) (by decide) (by omega) (by omega) (fun h39 sh39 eh39 fh39 => ?_)
                  have s40 := (fh39 m 0 (fun q => absurd q.2 (by decide))).trans s35
                  have s41 := (fh39 m 49 (fun q => absurd q.2 (by decide))).trans s36
                  have s42 := (fh39 m 50 (fun q => absurd q.2 (by decide))).trans eh34
                  refine gz_s 1 (pc' := 124) (L' := [some (.ref m), some (.int (zi x)), some (.int (zi y)), some (.int (zi v)), some (.int (zi z14))]) (S' := [.int (zi z14)]) rfl ?_
                  exact gz_end (I := .ireturn) (len := 1) rfl (Or.inl rfl) ⟨sh39, z14, rfl, (by omega), (by omega)⟩
                · refine gy_icF rfl (by decide) (by decide) (by omega) (by omega) hc38 ?_
                  refine gy_s 4 (pc' := 119) (L' := [some (.ref m), some (.int (zi x)), some (.int (zi y)), some (.int (zi v)), some (.int (zi z14))]) (S' := [.int ((zi y) + (zi 1)), .ref m]) (L2 := [some (.ref m), some (.int (zi x)), some (.int (zi y)), some (.int (zi v)), some (.int (zi z14))]) (S2 := [.int (zi (y + 1)), .ref m]) rfl (by simp only [zi_add, zi_sub, zi_mul, zi_neg, zi_and1, zi_and7, zi_and15, zi_and31, zi_and255]) (by simp only [zi_add, zi_sub, zi_mul, zi_neg, zi_and1, zi_and7, zi_and15, zi_and31, zi_and255]) ?_
                  refine gs_put rfl (by decide) rfl sh34 tm rfl rfl rfl rfl (Or.inl rfl) (by decide) (by omega) (by omega) (fun h43 sh43 eh43 fh43 => ?_)
                  have s44 := (fh43 m 0 (fun q => absurd q.2 (by decide))).trans s35
                  have s45 := (fh43 m 49 (fun q => absurd q.2 (by decide))).trans s36
                  have s46 := (fh43 m 50 (fun q => absurd q.2 (by decide))).trans eh34
                  refine gz_s 1 (pc' := 124) (L' := [some (.ref m), some (.int (zi x)), some (.int (zi y)), some (.int (zi v)), some (.int (zi z14))]) (S' := [.int (zi z14)]) rfl ?_
                  exact gz_end (I := .ireturn) (len := 1) rfl (Or.inl rfl) ⟨sh43, z14, rfl, (by omega), (by omega)⟩
            · refine gy_icF rfl (by decide) (by decide) (by omega) (by omega) hc10 ?_
              refine gz_s 2 (pc' := 41) (L' := [some (.ref m), some (.int (zi x)), some (.int (zi y)), some (.int (zi v)), none]) (S' := [.int (zi 2), .ref m]) rfl ?_
              refine gs_put rfl (by decide) rfl hS tm rfl rfl rfl rfl (Or.inl rfl) (by decide) (by omega) (by omega) (fun h47 sh47 eh47 fh47 => ?_)
              refine gz_s 1 (pc' := 45) (L' := [some (.ref m), some (.int (zi x)), some (.int (zi y)), some (.int (zi v)), none]) (S' := [.ref m]) rfl ?_
              refine gs_gtk rfl (by decide) rfl sh47.1 tm rfl rfl eh47 ?_
              refine gy_ifF rfl (by decide) (by decide) (by omega) (by simp only [zc]; omega) ?_
              refine gz_s 1 (pc' := 52) (L' := [some (.ref m), some (.int (zi x)), some (.int (zi y)), some (.int (zi v)), none]) (S' := [.int (zi 0)]) rfl ?_
              exact gz_end (I := .ireturn) (len := 1) rfl (Or.inl rfl) ⟨sh47, 0, rfl, (by omega), (by omega)⟩
        · refine gy_icF rfl (by decide) (by decide) (by omega) (by omega) hc7 ?_
          refine gz_s 2 (pc' := 41) (L' := [some (.ref m), some (.int (zi x)), some (.int (zi y)), some (.int (zi v)), none]) (S' := [.int (zi 1), .ref m]) rfl ?_
          refine gs_put rfl (by decide) rfl hS tm rfl rfl rfl rfl (Or.inl rfl) (by decide) (by omega) (by omega) (fun h48 sh48 eh48 fh48 => ?_)
          refine gz_s 1 (pc' := 45) (L' := [some (.ref m), some (.int (zi x)), some (.int (zi y)), some (.int (zi v)), none]) (S' := [.ref m]) rfl ?_
          refine gs_gtk rfl (by decide) rfl sh48.1 tm rfl rfl eh48 ?_
          refine gy_ifF rfl (by decide) (by decide) (by omega) (by simp only [zc]; omega) ?_
          refine gz_s 1 (pc' := 52) (L' := [some (.ref m), some (.int (zi x)), some (.int (zi y)), some (.int (zi v)), none]) (S' := [.int (zi 0)]) rfl ?_
          exact gz_end (I := .ireturn) (len := 1) rfl (Or.inl rfl) ⟨sh48, 0, rfl, (by omega), (by omega)⟩
set_option maxRecDepth 20000 in
set_option maxHeartbeats 4000000 in
theorem mm_byteAt (d : Nat) {ty : Nat → Nat} {h : gH} (hJ : gJ rT 1027 ty h) (m : Nat) (tm : ty m = 1) (p : Int) (rp : 0 ≤ p ∧ p ≤ 4001)  : gz gPP gGG gcn (d + 1) gt136 0 (gent [.ref m, .int (zi p)] 2) [] h (fun q _ => gSs rT 1027 ty [1007] h q.2.2 ∧ ∃ z : Int, gfin gt136 q.1 q.2.1 = some (some (.int (zi z))) ∧ 0 ≤ z ∧ z ≤ 255) := by
  have hS : gSs rT 1027 ty [1007] h h := gSs.rf hJ
  refine gz_s 3 (pc' := 3) (L' := [some (.ref m), some (.int (zi p))]) (S' := [.ref m, .int (zi p), .ref m]) rfl ?_
  refine gs_get rfl (by decide) rfl hS.1 tm rfl rfl rfl (fun z1 ez1 az1 bz1 => ?_)
  by_cases hc2 : (z1 : Int) ≤ p
  · refine gy_icT (pc' := 13) rfl (by decide) (by decide) (by omega) (by omega) hc2 ?_
    refine gz_s 2 (pc' := 15) (L' := [some (.ref m), some (.int (zi p))]) (S' := [.ref m, .int (zi 0), .ref m]) rfl ?_
    refine gs_gtk rfl (by decide) rfl hS.1 tm rfl rfl ez1 ?_
    refine gz_call rfl (by decide) rfl (by decide) (by decide) (gcal_of rfl rfl rfl (Nat.le_of_ble_eq_true rfl) (gJ.recv (G := gGG) hS.1 tm rfl rfl)) (mm_must _ hS.1 m tm 0 (by omega) z1 (by omega) ) (fun q3 _ wq3 => ?_)
    obtain ⟨pq3, oq3, hq3⟩ := q3
    obtain ⟨xq3, zq3, gq3, aq3, bq3, uq3_0⟩ := wq3
    refine ⟨_, gq3, ?_⟩
    show gz gPP gGG gcn _ _ 21 [some (.ref m), some (.int (zi p))] [.int (zi zq3)] hq3 _
    have sq3 := gSs.tr hS xq3 (by decide)
    have s4 := (xq3.2.2.2.2.2 m 3 (by rw [tm]; decide)).trans ez1
    have vq3 : zq3 = 0 := by
      by_cases hz : zq3 = 1
      · exact absurd (uq3_0 hz).1 (by decide)
      · omega
    refine gy_ifT (pc' := 33) rfl (by decide) (by decide) (by omega) (by simp only [zc]; omega) ?_
    refine gz_s 1 (pc' := 34) (L' := [some (.ref m), some (.int (zi p))]) (S' := [.int (zi 0)]) rfl ?_
    exact gz_end (I := .ireturn) (len := 1) rfl (Or.inl rfl) ⟨sq3, 0, rfl, (by omega), (by omega)⟩
  · refine gy_icF rfl (by decide) (by decide) (by omega) (by omega) hc2 ?_
    refine gz_s 3 (pc' := 15) (L' := [some (.ref m), some (.int (zi p))]) (S' := [.ref m, .int (zi 1), .ref m]) rfl ?_
    refine gs_gtk rfl (by decide) rfl hS.1 tm rfl rfl ez1 ?_
    refine gz_call rfl (by decide) rfl (by decide) (by decide) (gcal_of rfl rfl rfl (Nat.le_of_ble_eq_true rfl) (gJ.recv (G := gGG) hS.1 tm rfl rfl)) (mm_must _ hS.1 m tm 1 (by omega) z1 (by omega) ) (fun q5 _ wq5 => ?_)
    obtain ⟨pq5, oq5, hq5⟩ := q5
    obtain ⟨xq5, zq5, gq5, aq5, bq5, uq5_0⟩ := wq5
    refine ⟨_, gq5, ?_⟩
    show gz gPP gGG gcn _ _ 21 [some (.ref m), some (.int (zi p))] [.int (zi zq5)] hq5 _
    have sq5 := gSs.tr hS xq5 (by decide)
    have s6 := (xq5.2.2.2.2.2 m 3 (by rw [tm]; decide)).trans ez1
    by_cases hc7 : (zq5 : Int) = 0
    · refine gy_ifT (pc' := 33) rfl (by decide) (by decide) (by omega) hc7 ?_
      refine gz_s 1 (pc' := 34) (L' := [some (.ref m), some (.int (zi p))]) (S' := [.int (zi 0)]) rfl ?_
      exact gz_end (I := .ireturn) (len := 1) rfl (Or.inl rfl) ⟨sq5, 0, rfl, (by omega), (by omega)⟩
    · refine gy_ifF rfl (by decide) (by decide) (by omega) hc7 ?_
      have w8 := uq5_0 (by omega)
      obtain ⟨w8_0, w8_1⟩ := w8
      refine gz_s 1 (pc' := 25) (L' := [some (.ref m), some (.int (zi p))]) (S' := [.ref m]) rfl ?_
      refine gs_gtr rfl (by decide) rfl sq5.1 tm rfl rfl rfl (fun c9 ec9 tc9 => ?_)
      refine gz_s 1 (pc' := 29) (L' := [some (.ref m), some (.int (zi p))]) (S' := [.int (zi p), .ref c9]) rfl ?_
      have hl10 : 2000 ≤ hq5.2.2.2.1 c9 ∧ hq5.2.2.2.1 c9 ≤ 2000 := gJ.rowl (G := gGG) sq5.1 tc9 rfl
      refine gs_ald rfl (by decide) sq5.1 tc9 rfl rfl rfl (by decide) (fun _ => rfl) (by omega) (by omega) (fun z11 ez11 az11 bz11 => ?_)
      refine gz_s 1 (pc' := 34) (L' := [some (.ref m), some (.int (zi p))]) (S' := [.int (zi z11)]) rfl ?_
      exact gz_end (I := .ireturn) (len := 1) rfl (Or.inl rfl) ⟨sq5, z11, rfl, (by omega), (by omega)⟩
set_option maxRecDepth 20000 in
set_option maxHeartbeats 4000000 in
theorem mm_two (d : Nat) {ty : Nat → Nat} {h : gH} (hJ : gJ rT 1027 ty h) (m : Nat) (tm : ty m = 1) (p : Int) (rp : 0 ≤ p ∧ p ≤ 4000)  : gz gPP gGG gcn (d + 2) gt138 0 (gent [.ref m, .int (zi p)] 3) [] h (fun q _ => gSs rT 1027 ty [1007] h q.2.2 ∧ ∃ z : Int, gfin gt138 q.1 q.2.1 = some (some (.int (zi z))) ∧ 0 ≤ z ∧ z ≤ 65535) := by
  have hS : gSs rT 1027 ty [1007] h h := gSs.rf hJ
  refine gz_s 2 (pc' := 2) (L' := [some (.ref m), some (.int (zi p)), none]) (S' := [.int (zi p), .ref m]) rfl ?_
  refine gz_call rfl (by decide) rfl (by decide) (by decide) (gcal_of rfl rfl rfl (Nat.le_of_ble_eq_true rfl) (gJ.recv (G := gGG) hS.1 tm rfl rfl)) (mm_byteAt _ hS.1 m tm p (by omega) ) (fun q1 _ wq1 => ?_)
  obtain ⟨pq1, oq1, hq1⟩ := q1
  obtain ⟨xq1, zq1, gq1, aq1, bq1⟩ := wq1
  refine ⟨_, gq1, ?_⟩
  show gz gPP gGG gcn _ _ 5 [some (.ref m), some (.int (zi p)), none] [.int (zi zq1)] hq1 _
  have sq1 := gSs.tr hS xq1 (by decide)
  refine gy_s 8 (pc' := 15) (L' := [some (.ref m), some (.int (zi p)), some (.int (zi zq1))]) (S' := [.int ((zi p) + (zi 1)), .ref m, .int ((zi 256) * (zi zq1))]) (L2 := [some (.ref m), some (.int (zi p)), some (.int (zi zq1))]) (S2 := [.int (zi (p + 1)), .ref m, .int (zi (256 * zq1))]) rfl (by simp only [zi_add, zi_sub, zi_mul, zi_neg, zi_and1, zi_and7, zi_and15, zi_and31, zi_and255]) (by simp only [zi_add, zi_sub, zi_mul, zi_neg, zi_and1, zi_and7, zi_and15, zi_and31, zi_and255]) ?_
  refine gz_call rfl (by decide) rfl (by decide) (by decide) (gcal_of rfl rfl rfl (Nat.le_of_ble_eq_true rfl) (gJ.recv (G := gGG) sq1.1 tm rfl rfl)) (mm_byteAt _ sq1.1 m tm (p + 1) (by omega) ) (fun q2 _ wq2 => ?_)
  obtain ⟨pq2, oq2, hq2⟩ := q2
  obtain ⟨xq2, zq2, gq2, aq2, bq2⟩ := wq2
  refine ⟨_, gq2, ?_⟩
  show gz gPP gGG gcn _ _ 18 [some (.ref m), some (.int (zi p)), some (.int (zi zq1))] [.int (zi zq2), .int (zi (256 * zq1))] hq2 _
  have sq2 := gSs.tr sq1 xq2 (by decide)
  refine gy_s 1 (pc' := 19) (L' := [some (.ref m), some (.int (zi p)), some (.int (zi zq1))]) (S' := [.int ((zi (256 * zq1)) + (zi zq2))]) (L2 := [some (.ref m), some (.int (zi p)), some (.int (zi zq1))]) (S2 := [.int (zi ((256 * zq1) + zq2))]) rfl (by simp only [zi_add, zi_sub, zi_mul, zi_neg, zi_and1, zi_and7, zi_and15, zi_and31, zi_and255]) (by simp only [zi_add, zi_sub, zi_mul, zi_neg, zi_and1, zi_and7, zi_and15, zi_and31, zi_and255]) ?_
  exact gz_end (I := .ireturn) (len := 1) rfl (Or.inl rfl) ⟨sq2, (256 * zq1) + zq2, rfl, (by omega), (by omega)⟩
set_option maxRecDepth 20000 in
set_option maxHeartbeats 4000000 in
theorem mm_begin (d : Nat) {ty : Nat → Nat} {h : gH} (hJ : gJ rT 1027 ty h) (m : Nat) (tm : ty m = 1)  : gz gPP gGG gcn (d + 0) gt144 0 (gent [.ref m] 2) [] h (fun q _ => gSs rT 1027 ty [1045, 20999] h q.2.2 ∧ gfin gt144 q.1 q.2.1 = some none) := by
  have hS : gSs rT 1027 ty [1045, 20999] h h := gSs.rf hJ
  refine gz_s 2 (pc' := 2) (L' := [some (.ref m), none]) (S' := [.int (zi 0), .ref m]) rfl ?_
  refine gs_put rfl (by decide) rfl hS tm rfl rfl rfl rfl (Or.inl rfl) (by decide) (by omega) (by omega) (fun h1 sh1 eh1 fh1 => ?_)
  refine gz_s 2 (pc' := 7) (L' := [some (.ref m), some (.int (zi 0))]) (S' := []) rfl ?_
  have lp2 : ∀ (fu : Nat) (h3 : gH) (k : Int), (3 - k).toNat < fu → gSs rT 1027 ty [1045, 20999] h h3 → (0 ≤ k ∧ k ≤ 3) → h3.2.2.2.2 m 45 = .int (zi 0) → gz gPP gGG gcn (d + 0) gt144 7 [some (.ref m), some (.int (zi k))] [] h3 (fun q _ => gSs rT 1027 ty [1045, 20999] h q.2.2 ∧ gfin gt144 q.1 q.2.1 = some none) := by
    intro fu
    induction fu with
    | zero => intro h3 k hm; exact absurd hm (Nat.not_lt_zero _)
    | succ fu ihlp2 =>
      intro h3 k lp2m sh3 lp2f0 lp2k0
      refine gz_s 2 (pc' := 9) (L' := [some (.ref m), some (.int (zi k))]) (S' := [.int (zi 3), .int (zi k)]) rfl ?_
      by_cases hc4 : (3 : Int) ≤ k
      · refine gy_icT (pc' := 25) rfl (by decide) (by decide) (by omega) (by omega) hc4 ?_
        exact gz_end (I := .return_) (len := 1) rfl (Or.inl rfl) ⟨sh3, rfl⟩
      · refine gy_icF rfl (by decide) (by decide) (by omega) (by omega) hc4 ?_
        refine gz_s 1 (pc' := 13) (L' := [some (.ref m), some (.int (zi k))]) (S' := [.ref m]) rfl ?_
        refine gs_gtr rfl (by decide) rfl sh3.1 tm rfl rfl rfl (fun c5 ec5 tc5 => ?_)
        refine gz_s 2 (pc' := 18) (L' := [some (.ref m), some (.int (zi k))]) (S' := [.int (zi 0), .int (zi k), .ref c5]) rfl ?_
        have hl6 : 3 ≤ h3.2.2.2.1 c5 ∧ h3.2.2.2.1 c5 ≤ 3 := gJ.rowl (G := gGG) sh3.1 tc5 rfl
        refine gs_ast rfl (by decide) sh3 tc5 rfl rfl rfl (by decide) (fun _ => rfl) (by omega) (by omega) (fun _ => (by decide : (20999 : Nat) ∈ ([1045, 20999] : List Nat))) (by omega) (by omega) (fun h7 sh7 eh7 fh7 => ?_)
        have s8 := (fh7 m 45 (fun q => absurd (((tm).symm.trans (congrArg ty q.1)).trans tc5) (by decide))).trans lp2k0
        have s9 := (fh7 m 34 (fun q => absurd (((tm).symm.trans (congrArg ty q.1)).trans tc5) (by decide))).trans ec5
        refine gy_s 2 (pc' := 7) (L' := [some (.ref m), some (.int ((zi k) + zi 1))]) (S' := []) (L2 := [some (.ref m), some (.int (zi (k + 1)))]) (S2 := []) rfl (by simp only [zi_add, zi_sub, zi_mul, zi_neg, zi_and1, zi_and7, zi_and15, zi_and31, zi_and255]) (by simp only [zi_add, zi_sub, zi_mul, zi_neg, zi_and1, zi_and7, zi_and15, zi_and31, zi_and255]) ?_
        exact gz_wk (ihlp2 h7 (k + 1) (by omega) sh7 (by omega) s8) (gLw.s (gLw.s gLw.z))
  exact gz_wk (lp2 _ h1 0 (Nat.lt_succ_self _) sh1 (by omega) eh1) (gLw.s (gLw.s gLw.z))
set_option maxRecDepth 20000 in
set_option maxHeartbeats 4000000 in
theorem mm_named (d : Nat) {ty : Nat → Nat} {h : gH} (hJ : gJ rT 1027 ty h) (m : Nat) (tm : ty m = 1) (w : Int) (rw : 0 ≤ w ∧ w ≤ 255)  : gz gPP gGG gcn (d + 0) gt142 0 (gent [.ref m, .int (zi w)] 4) [] h (fun q _ => gSs rT 1027 ty [] h q.2.2 ∧ ∃ z : Int, gfin gt142 q.1 q.2.1 = some (some (.int (zi z))) ∧ (-1) ≤ z ∧ z ≤ 2) := by
  have hS : gSs rT 1027 ty [] h h := gSs.rf hJ
  refine gz_s 4 (pc' := 4) (L' := [some (.ref m), some (.int (zi w)), some (.int (zi (-1))), some (.int (zi 0))]) (S' := []) rfl ?_
  have lp1 : ∀ (fu : Nat) (h2 : gH) (it : Int) (k : Int), (3 - k).toNat < fu → gSs rT 1027 ty [] h h2 → ((-1) ≤ it ∧ it ≤ 2) → (0 ≤ k ∧ k ≤ 3) → gz gPP gGG gcn (d + 0) gt142 4 [some (.ref m), some (.int (zi w)), some (.int (zi it)), some (.int (zi k))] [] h2 (fun q _ => gSs rT 1027 ty [] h q.2.2 ∧ ∃ z : Int, gfin gt142 q.1 q.2.1 = some (some (.int (zi z))) ∧ (-1) ≤ z ∧ z ≤ 2) := by
    intro fu
    induction fu with
    | zero => intro h2 it k hm; exact absurd hm (Nat.not_lt_zero _)
    | succ fu ihlp1 =>
      intro h2 it k lp1m sh2 lp1f0 lp1f1 
      refine gz_s 2 (pc' := 6) (L' := [some (.ref m), some (.int (zi w)), some (.int (zi it)), some (.int (zi k))]) (S' := [.ref m, .int (zi k)]) rfl ?_
      refine gs_get rfl (by decide) rfl sh2.1 tm rfl rfl rfl (fun z3 ez3 az3 bz3 => ?_)
      by_cases hc4 : (z3 : Int) ≤ k
      · refine gy_icT (pc' := 34) rfl (by decide) (by decide) (by omega) (by omega) hc4 ?_
        refine gz_s 1 (pc' := 35) (L' := [some (.ref m), some (.int (zi w)), some (.int (zi it)), some (.int (zi k))]) (S' := [.int (zi it)]) rfl ?_
        exact gz_end (I := .ireturn) (len := 1) rfl (Or.inl rfl) ⟨sh2, it, rfl, (by omega), (by omega)⟩
      · refine gy_icF rfl (by decide) (by decide) (by omega) (by omega) hc4 ?_
        refine gz_s 1 (pc' := 13) (L' := [some (.ref m), some (.int (zi w)), some (.int (zi it)), some (.int (zi k))]) (S' := [.ref m]) rfl ?_
        refine gs_gtr rfl (by decide) rfl sh2.1 tm rfl rfl rfl (fun c5 ec5 tc5 => ?_)
        refine gz_s 1 (pc' := 17) (L' := [some (.ref m), some (.int (zi w)), some (.int (zi it)), some (.int (zi k))]) (S' := [.int (zi k), .ref c5]) rfl ?_
        have hl6 : 3 ≤ h2.2.2.2.1 c5 ∧ h2.2.2.2.1 c5 ≤ 3 := gJ.rowl (G := gGG) sh2.1 tc5 rfl
        refine gs_ald rfl (by decide) sh2.1 tc5 rfl rfl rfl (by decide) (fun _ => rfl) (by omega) (by omega) (fun z7 ez7 az7 bz7 => ?_)
        refine gz_s 1 (pc' := 19) (L' := [some (.ref m), some (.int (zi w)), some (.int (zi it)), some (.int (zi k))]) (S' := [.int (zi w), .int (zi z7)]) rfl ?_
        by_cases hc8 : ¬ (z7 : Int) = w
        · refine gy_icT (pc' := 26) rfl (by decide) (by decide) (by omega) (by omega) hc8 ?_
          refine gy_s 4 (pc' := 4) (L' := [some (.ref m), some (.int (zi w)), some (.int (zi it)), some (.int ((zi k) + zi 1))]) (S' := []) (L2 := [some (.ref m), some (.int (zi w)), some (.int (zi it)), some (.int (zi (k + 1)))]) (S2 := []) rfl (by simp only [zi_add, zi_sub, zi_mul, zi_neg, zi_and1, zi_and7, zi_and15, zi_and31, zi_and255]) (by simp only [zi_add, zi_sub, zi_mul, zi_neg, zi_and1, zi_and7, zi_and15, zi_and31, zi_and255]) ?_
          exact gz_wk (ihlp1 h2 it (k + 1) (by omega) sh2 (by omega) (by omega) ) (gLw.s (gLw.s (gLw.s (gLw.s gLw.z))))
        · refine gy_icF rfl (by decide) (by decide) (by omega) (by omega) hc8 ?_
          refine gy_s 5 (pc' := 4) (L' := [some (.ref m), some (.int (zi w)), some (.int (zi k)), some (.int ((zi k) + zi 1))]) (S' := []) (L2 := [some (.ref m), some (.int (zi w)), some (.int (zi k)), some (.int (zi (k + 1)))]) (S2 := []) rfl (by simp only [zi_add, zi_sub, zi_mul, zi_neg, zi_and1, zi_and7, zi_and15, zi_and31, zi_and255]) (by simp only [zi_add, zi_sub, zi_mul, zi_neg, zi_and1, zi_and7, zi_and15, zi_and31, zi_and255]) ?_
          exact gz_wk (ihlp1 h2 k (k + 1) (by omega) sh2 (by omega) (by omega) ) (gLw.s (gLw.s (gLw.s (gLw.s gLw.z))))
  exact gz_wk (lp1 _ h (-1) 0 (Nat.lt_succ_self _) hS (by omega) (by omega) ) (gLw.s (gLw.s (gLw.s (gLw.s gLw.z))))
set_option maxRecDepth 20000 in
set_option maxHeartbeats 4000000 in
theorem mm_isBlock (d : Nat) {ty : Nat → Nat} {h : gH} (hJ : gJ rT 1027 ty h) (m : Nat) (tm : ty m = 1) (b : Int) (rb : (-2147483648) ≤ b ∧ b ≤ 2147483647) (i : Int) (ri : (-2147483648) ≤ i ∧ i ≤ 2147483647)  : gz gPP gGG gcn (d + 0) gt175 0 (gent [.ref m, .int (zi b), .int (zi i)] 3) [] h (fun q _ => gSs rT 1027 ty [] h q.2.2 ∧ ∃ z : Int, gfin gt175 q.1 q.2.1 = some (some (.int (zi z))) ∧ 0 ≤ z ∧ z ≤ 1 ∧ (z = 1 → 0 ≤ b ∧ b ≤ 191 ∧ 0 ≤ i ∧ i < 64)) := by
  have hS : gSs rT 1027 ty [] h h := gSs.rf hJ
  refine gz_s 1 (pc' := 1) (L' := [some (.ref m), some (.int (zi b)), some (.int (zi i))]) (S' := [.ref m]) rfl ?_
  refine gs_get rfl (by decide) rfl hS.1 tm rfl rfl rfl (fun z1 ez1 az1 bz1 => ?_)
  by_cases hc2 : (z1 : Int) = 0
  · refine gy_ifT (pc' := 33) rfl (by decide) (by decide) (by omega) hc2 ?_
    refine gz_s 1 (pc' := 34) (L' := [some (.ref m), some (.int (zi b)), some (.int (zi i))]) (S' := [.int (zi 0)]) rfl ?_
    exact gz_end (I := .ireturn) (len := 1) rfl (Or.inl rfl) ⟨hS, 0, gfin_z rfl rfl (by omega), (by omega), (by omega), (fun q => absurd q (by decide))⟩
  · refine gy_ifF rfl (by decide) (by decide) (by omega) hc2 ?_
    refine gz_s 1 (pc' := 8) (L' := [some (.ref m), some (.int (zi b)), some (.int (zi i))]) (S' := [.int (zi b)]) rfl ?_
    by_cases hc3 : (b : Int) < 0
    · refine gy_ifT (pc' := 33) rfl (by decide) (by decide) (by omega) hc3 ?_
      refine gz_s 1 (pc' := 34) (L' := [some (.ref m), some (.int (zi b)), some (.int (zi i))]) (S' := [.int (zi 0)]) rfl ?_
      exact gz_end (I := .ireturn) (len := 1) rfl (Or.inl rfl) ⟨hS, 0, gfin_z rfl rfl (by omega), (by omega), (by omega), (fun q => absurd q (by decide))⟩
    · refine gy_ifF rfl (by decide) (by decide) (by omega) hc3 ?_
      refine gz_s 2 (pc' := 13) (L' := [some (.ref m), some (.int (zi b)), some (.int (zi i))]) (S' := [.ref m, .int (zi b)]) rfl ?_
      refine gs_get rfl (by decide) rfl hS.1 tm rfl rfl rfl (fun z4 ez4 az4 bz4 => ?_)
      by_cases hc5 : (z4 : Int) ≤ b
      · refine gy_icT (pc' := 33) rfl (by decide) (by decide) (by omega) (by omega) hc5 ?_
        refine gz_s 1 (pc' := 34) (L' := [some (.ref m), some (.int (zi b)), some (.int (zi i))]) (S' := [.int (zi 0)]) rfl ?_
        exact gz_end (I := .ireturn) (len := 1) rfl (Or.inl rfl) ⟨hS, 0, gfin_z rfl rfl (by omega), (by omega), (by omega), (fun q => absurd q (by decide))⟩
      · refine gy_icF rfl (by decide) (by decide) (by omega) (by omega) hc5 ?_
        refine gz_s 1 (pc' := 20) (L' := [some (.ref m), some (.int (zi b)), some (.int (zi i))]) (S' := [.int (zi i)]) rfl ?_
        by_cases hc6 : (i : Int) < 0
        · refine gy_ifT (pc' := 33) rfl (by decide) (by decide) (by omega) hc6 ?_
          refine gz_s 1 (pc' := 34) (L' := [some (.ref m), some (.int (zi b)), some (.int (zi i))]) (S' := [.int (zi 0)]) rfl ?_
          exact gz_end (I := .ireturn) (len := 1) rfl (Or.inl rfl) ⟨hS, 0, gfin_z rfl rfl (by omega), (by omega), (by omega), (fun q => absurd q (by decide))⟩
        · refine gy_ifF rfl (by decide) (by decide) (by omega) hc6 ?_
          refine gz_s 2 (pc' := 26) (L' := [some (.ref m), some (.int (zi b)), some (.int (zi i))]) (S' := [.int (zi 64), .int (zi i)]) rfl ?_
          by_cases hc7 : (64 : Int) ≤ i
          · refine gy_icT (pc' := 33) rfl (by decide) (by decide) (by omega) (by omega) hc7 ?_
            refine gz_s 1 (pc' := 34) (L' := [some (.ref m), some (.int (zi b)), some (.int (zi i))]) (S' := [.int (zi 0)]) rfl ?_
            exact gz_end (I := .ireturn) (len := 1) rfl (Or.inl rfl) ⟨hS, 0, gfin_z rfl rfl (by omega), (by omega), (by omega), (fun q => absurd q (by decide))⟩
          · refine gy_icF rfl (by decide) (by decide) (by omega) (by omega) hc7 ?_
            refine gz_s 2 (pc' := 34) (L' := [some (.ref m), some (.int (zi b)), some (.int (zi i))]) (S' := [.int (zi 1)]) rfl ?_
            exact gz_end (I := .ireturn) (len := 1) rfl (Or.inl rfl) ⟨hS, 1, gfin_z rfl rfl (by omega), (by omega), (by omega), (fun q => ⟨(by omega), (by omega), (by omega), (by omega)⟩)⟩
set_option maxRecDepth 20000 in
set_option maxHeartbeats 4000000 in
theorem mm_take (d : Nat) {ty : Nat → Nat} {h : gH} (hJ : gJ rT 1027 ty h) (m : Nat) (tm : ty m = 1)  : gz gPP gGG gcn (d + 0) gt205 0 (gent [.ref m] 2) [] h (fun q _ => gSs rT 1027 ty [1000, 1001, 2999] h q.2.2 ∧ ∃ z : Int, gfin gt205 q.1 q.2.1 = some (some (.int (zi z))) ∧ 0 ≤ z ∧ z ≤ 2000) := by
  have hS : gSs rT 1027 ty [1000, 1001, 2999] h h := gSs.rf hJ
  refine gz_s 2 (pc' := 2) (L' := [some (.ref m), none]) (S' := [.int (zi 0), .ref m]) rfl ?_
  refine gs_put rfl (by decide) rfl hS tm rfl rfl rfl rfl (Or.inl rfl) (by decide) (by omega) (by omega) (fun h1 sh1 eh1 fh1 => ?_)
  refine gz_s 2 (pc' := 7) (L' := [some (.ref m), none]) (S' := [.ref m, .ref m]) rfl ?_
  refine gs_get rfl (by decide) rfl sh1.1 tm rfl rfl rfl (fun z2 ez2 az2 bz2 => ?_)
  refine gz_s 1 (pc' := 13) (L' := [some (.ref m), none]) (S' := [.int (zi 2000), .int (zi z2), .ref m]) rfl ?_
  by_cases hc3 : (2000 : Int) ≤ z2
  · refine gy_icT (pc' := 23) rfl (by decide) (by decide) (by omega) (by omega) hc3 ?_
    refine gz_s 1 (pc' := 26) (L' := [some (.ref m), none]) (S' := [.int (zi 2000), .ref m]) rfl ?_
    refine gs_put rfl (by decide) rfl sh1 tm rfl rfl rfl rfl (Or.inl rfl) (by decide) (by omega) (by omega) (fun h4 sh4 eh4 fh4 => ?_)
    have s5 := (fh4 m 0 (fun q => absurd q.2 (by decide))).trans eh1
    have s6 := (fh4 m 59 (fun q => absurd q.2 (by decide))).trans ez2
    refine gz_s 2 (pc' := 31) (L' := [some (.ref m), some (.int (zi 0))]) (S' := []) rfl ?_
    have lp7 : ∀ (fu : Nat) (h8 : gH) (k : Int), (2000 - k).toNat < fu → gSs rT 1027 ty [1000, 1001, 2999] h h8 → (0 ≤ k ∧ k ≤ 2000) → h8.2.2.2.2 m 0 = .int (zi 0) → h8.2.2.2.2 m 59 = .int (zi z2) → h8.2.2.2.2 m 1 = .int (zi 2000) → gz gPP gGG gcn (d + 0) gt205 31 [some (.ref m), some (.int (zi k))] [] h8 (fun q _ => gSs rT 1027 ty [1000, 1001, 2999] h q.2.2 ∧ ∃ z : Int, gfin gt205 q.1 q.2.1 = some (some (.int (zi z))) ∧ 0 ≤ z ∧ z ≤ 2000) := by
      intro fu
      induction fu with
      | zero => intro h8 k hm; exact absurd hm (Nat.not_lt_zero _)
      | succ fu ihlp7 =>
        intro h8 k lp7m sh8 lp7f0 lp7k0 lp7k1 lp7k2
        refine gz_s 2 (pc' := 33) (L' := [some (.ref m), some (.int (zi k))]) (S' := [.ref m, .int (zi k)]) rfl ?_
        refine gs_gtk rfl (by decide) rfl sh8.1 tm rfl rfl lp7k2 ?_
        by_cases hc9 : (2000 : Int) ≤ k
        · refine gy_icT (pc' := 57) rfl (by decide) (by decide) (by omega) (by omega) hc9 ?_
          refine gz_s 1 (pc' := 58) (L' := [some (.ref m), some (.int (zi k))]) (S' := [.ref m]) rfl ?_
          refine gs_gtk rfl (by decide) rfl sh8.1 tm rfl rfl lp7k2 ?_
          exact gz_end (I := .ireturn) (len := 1) rfl (Or.inl rfl) ⟨sh8, 2000, rfl, (by omega), (by omega)⟩
        · refine gy_icF rfl (by decide) (by decide) (by omega) (by omega) hc9 ?_
          refine gz_s 1 (pc' := 40) (L' := [some (.ref m), some (.int (zi k))]) (S' := [.ref m]) rfl ?_
          refine gs_gtr rfl (by decide) rfl sh8.1 tm rfl rfl rfl (fun c10 ec10 tc10 => ?_)
          refine gz_s 2 (pc' := 45) (L' := [some (.ref m), some (.int (zi k))]) (S' := [.ref m, .int (zi k), .ref c10]) rfl ?_
          refine gs_gtr rfl (by decide) rfl sh8.1 tm rfl rfl rfl (fun c11 ec11 tc11 => ?_)
          refine gz_s 1 (pc' := 49) (L' := [some (.ref m), some (.int (zi k))]) (S' := [.int (zi k), .ref c11, .int (zi k), .ref c10]) rfl ?_
          have hl12 : 60000 ≤ h8.2.2.2.1 c11 ∧ h8.2.2.2.1 c11 ≤ 60000 := gJ.rowl (G := gGG) sh8.1 tc11 rfl
          refine gs_ald rfl (by decide) sh8.1 tc11 rfl rfl rfl (by decide) (fun _ => rfl) (by omega) (by omega) (fun z13 ez13 az13 bz13 => ?_)
          have hl14 : 2000 ≤ h8.2.2.2.1 c10 ∧ h8.2.2.2.1 c10 ≤ 2000 := gJ.rowl (G := gGG) sh8.1 tc10 rfl
          refine gs_ast rfl (by decide) sh8 tc10 rfl rfl rfl (by decide) (fun _ => rfl) (by omega) (by omega) (fun _ => (by decide : (2999 : Nat) ∈ ([1000, 1001, 2999] : List Nat))) (by omega) (by omega) (fun h15 sh15 eh15 fh15 => ?_)
          have s16 := (fh15 m 0 (fun q => absurd (((tm).symm.trans (congrArg ty q.1)).trans tc10) (by decide))).trans lp7k0
          have s17 := (fh15 m 59 (fun q => absurd (((tm).symm.trans (congrArg ty q.1)).trans tc10) (by decide))).trans lp7k1
          have s18 := (fh15 m 1 (fun q => absurd (((tm).symm.trans (congrArg ty q.1)).trans tc10) (by decide))).trans lp7k2
          have s19 := (fh15 m 2 (fun q => absurd (((tm).symm.trans (congrArg ty q.1)).trans tc10) (by decide))).trans ec10
          have s20 := (fh15 m 60 (fun q => absurd (((tm).symm.trans (congrArg ty q.1)).trans tc10) (by decide))).trans ec11
          refine gy_s 2 (pc' := 31) (L' := [some (.ref m), some (.int ((zi k) + zi 1))]) (S' := []) (L2 := [some (.ref m), some (.int (zi (k + 1)))]) (S2 := []) rfl (by simp only [zi_add, zi_sub, zi_mul, zi_neg, zi_and1, zi_and7, zi_and15, zi_and31, zi_and255]) (by simp only [zi_add, zi_sub, zi_mul, zi_neg, zi_and1, zi_and7, zi_and15, zi_and31, zi_and255]) ?_
          exact gz_wk (ihlp7 h15 (k + 1) (by omega) sh15 (by omega) s16 s17 s18) (gLw.s (gLw.s gLw.z))
    exact gz_wk (lp7 _ h4 0 (Nat.lt_succ_self _) sh4 (by omega) s5 s6 eh4) (gLw.s (gLw.s gLw.z))
  · refine gy_icF rfl (by decide) (by decide) (by omega) (by omega) hc3 ?_
    refine gz_s 1 (pc' := 17) (L' := [some (.ref m), none]) (S' := [.ref m, .ref m]) rfl ?_
    refine gs_gtk rfl (by decide) rfl sh1.1 tm rfl rfl ez2 ?_
    refine gz_s 1 (pc' := 26) (L' := [some (.ref m), none]) (S' := [.int (zi z2), .ref m]) rfl ?_
    refine gs_put rfl (by decide) rfl sh1 tm rfl rfl rfl rfl (Or.inl rfl) (by decide) (by omega) (by omega) (fun h21 sh21 eh21 fh21 => ?_)
    have s22 := (fh21 m 0 (fun q => absurd q.2 (by decide))).trans eh1
    have s23 := (fh21 m 59 (fun q => absurd q.2 (by decide))).trans ez2
    refine gz_s 2 (pc' := 31) (L' := [some (.ref m), some (.int (zi 0))]) (S' := []) rfl ?_
    have lp24 : ∀ (fu : Nat) (h25 : gH) (k : Int), (2000 - k).toNat < fu → gSs rT 1027 ty [1000, 1001, 2999] h h25 → (0 ≤ k ∧ k ≤ 2000) → h25.2.2.2.2 m 0 = .int (zi 0) → h25.2.2.2.2 m 59 = .int (zi z2) → h25.2.2.2.2 m 1 = .int (zi z2) → gz gPP gGG gcn (d + 0) gt205 31 [some (.ref m), some (.int (zi k))] [] h25 (fun q _ => gSs rT 1027 ty [1000, 1001, 2999] h q.2.2 ∧ ∃ z : Int, gfin gt205 q.1 q.2.1 = some (some (.int (zi z))) ∧ 0 ≤ z ∧ z ≤ 2000) := by
      intro fu
      induction fu with
      | zero => intro h25 k hm; exact absurd hm (Nat.not_lt_zero _)
      | succ fu ihlp24 =>
        intro h25 k lp24m sh25 lp24f0 lp24k0 lp24k1 lp24k2
        refine gz_s 2 (pc' := 33) (L' := [some (.ref m), some (.int (zi k))]) (S' := [.ref m, .int (zi k)]) rfl ?_
        refine gs_gtk rfl (by decide) rfl sh25.1 tm rfl rfl lp24k2 ?_
        by_cases hc26 : (z2 : Int) ≤ k
        · refine gy_icT (pc' := 57) rfl (by decide) (by decide) (by omega) (by omega) hc26 ?_
          refine gz_s 1 (pc' := 58) (L' := [some (.ref m), some (.int (zi k))]) (S' := [.ref m]) rfl ?_
          refine gs_gtk rfl (by decide) rfl sh25.1 tm rfl rfl lp24k2 ?_
          exact gz_end (I := .ireturn) (len := 1) rfl (Or.inl rfl) ⟨sh25, z2, rfl, (by omega), (by omega)⟩
        · refine gy_icF rfl (by decide) (by decide) (by omega) (by omega) hc26 ?_
          refine gz_s 1 (pc' := 40) (L' := [some (.ref m), some (.int (zi k))]) (S' := [.ref m]) rfl ?_
          refine gs_gtr rfl (by decide) rfl sh25.1 tm rfl rfl rfl (fun c27 ec27 tc27 => ?_)
          refine gz_s 2 (pc' := 45) (L' := [some (.ref m), some (.int (zi k))]) (S' := [.ref m, .int (zi k), .ref c27]) rfl ?_
          refine gs_gtr rfl (by decide) rfl sh25.1 tm rfl rfl rfl (fun c28 ec28 tc28 => ?_)
          refine gz_s 1 (pc' := 49) (L' := [some (.ref m), some (.int (zi k))]) (S' := [.int (zi k), .ref c28, .int (zi k), .ref c27]) rfl ?_
          have hl29 : 60000 ≤ h25.2.2.2.1 c28 ∧ h25.2.2.2.1 c28 ≤ 60000 := gJ.rowl (G := gGG) sh25.1 tc28 rfl
          refine gs_ald rfl (by decide) sh25.1 tc28 rfl rfl rfl (by decide) (fun _ => rfl) (by omega) (by omega) (fun z30 ez30 az30 bz30 => ?_)
          have hl31 : 2000 ≤ h25.2.2.2.1 c27 ∧ h25.2.2.2.1 c27 ≤ 2000 := gJ.rowl (G := gGG) sh25.1 tc27 rfl
          refine gs_ast rfl (by decide) sh25 tc27 rfl rfl rfl (by decide) (fun _ => rfl) (by omega) (by omega) (fun _ => (by decide : (2999 : Nat) ∈ ([1000, 1001, 2999] : List Nat))) (by omega) (by omega) (fun h32 sh32 eh32 fh32 => ?_)
          have s33 := (fh32 m 0 (fun q => absurd (((tm).symm.trans (congrArg ty q.1)).trans tc27) (by decide))).trans lp24k0
          have s34 := (fh32 m 59 (fun q => absurd (((tm).symm.trans (congrArg ty q.1)).trans tc27) (by decide))).trans lp24k1
          have s35 := (fh32 m 1 (fun q => absurd (((tm).symm.trans (congrArg ty q.1)).trans tc27) (by decide))).trans lp24k2
          have s36 := (fh32 m 2 (fun q => absurd (((tm).symm.trans (congrArg ty q.1)).trans tc27) (by decide))).trans ec27
          have s37 := (fh32 m 60 (fun q => absurd (((tm).symm.trans (congrArg ty q.1)).trans tc27) (by decide))).trans ec28
          refine gy_s 2 (pc' := 31) (L' := [some (.ref m), some (.int ((zi k) + zi 1))]) (S' := []) (L2 := [some (.ref m), some (.int (zi (k + 1)))]) (S2 := []) rfl (by simp only [zi_add, zi_sub, zi_mul, zi_neg, zi_and1, zi_and7, zi_and15, zi_and31, zi_and255]) (by simp only [zi_add, zi_sub, zi_mul, zi_neg, zi_and1, zi_and7, zi_and15, zi_and31, zi_and255]) ?_
          exact gz_wk (ihlp24 h32 (k + 1) (by omega) sh32 (by omega) s33 s34 s35) (gLw.s (gLw.s gLw.z))
    exact gz_wk (lp24 _ h21 0 (Nat.lt_succ_self _) sh21 (by omega) s22 s23 eh21) (gLw.s (gLw.s gLw.z))
set_option maxRecDepth 20000 in
set_option maxHeartbeats 4000000 in
theorem mm_putByte (d : Nat) {ty : Nat → Nat} {h : gH} (hJ : gJ rT 1027 ty h) (m : Nat) (tm : ty m = 1) (b : Int) (rb : (-2147483648) ≤ b ∧ b ≤ 2147483647)  (wr : Int) (ewr : h.2.2.2.2 m 59 = .int (zi wr)) (rwr : 0 ≤ wr ∧ wr ≤ 59999) : gz gPP gGG gcn (d + 0) gt187 0 (gent [.ref m, .int (zi b)] 2) [] h (fun q _ => gSs rT 1027 ty [1059, 32999] h q.2.2 ∧ gfin gt187 q.1 q.2.1 = some none ∧ q.2.2.2.2.2.2 m 59 = .int (zi (wr + 1))) := by
  have hS : gSs rT 1027 ty [1059, 32999] h h := gSs.rf hJ
  refine gz_s 1 (pc' := 1) (L' := [some (.ref m), some (.int (zi b))]) (S' := [.ref m]) rfl ?_
  refine gs_gtr rfl (by decide) rfl hS.1 tm rfl rfl rfl (fun c1 ec1 tc1 => ?_)
  refine gz_s 1 (pc' := 5) (L' := [some (.ref m), some (.int (zi b))]) (S' := [.ref m, .ref c1]) rfl ?_
  refine gs_gtk rfl (by decide) rfl hS.1 tm rfl rfl ewr ?_
  refine gy_s 3 (pc' := 13) (L' := [some (.ref m), some (.int (zi b))]) (S' := [.int ((zi b) &&& (zi 255)), .int (zi wr), .ref c1]) (L2 := [some (.ref m), some (.int (zi b))]) (S2 := [.int (zi (b % 256)), .int (zi wr), .ref c1]) rfl (by simp only [zi_add, zi_sub, zi_mul, zi_neg, zi_and1, zi_and7, zi_and15, zi_and31, zi_and255]) (by simp only [zi_add, zi_sub, zi_mul, zi_neg, zi_and1, zi_and7, zi_and15, zi_and31, zi_and255]) ?_
  have hl2 : 60000 ≤ h.2.2.2.1 c1 ∧ h.2.2.2.1 c1 ≤ 60000 := gJ.rowl (G := gGG) hS.1 tc1 rfl
  refine gs_ast rfl (by decide) hS tc1 rfl rfl rfl (by decide) (fun _ => rfl) (by omega) (by omega) (fun _ => (by decide : (32999 : Nat) ∈ ([1059, 32999] : List Nat))) (by omega) (by omega) (fun h3 sh3 eh3 fh3 => ?_)
  have s4 := (fh3 m 59 (fun q => absurd (((tm).symm.trans (congrArg ty q.1)).trans tc1) (by decide))).trans ewr
  have s5 := (fh3 m 60 (fun q => absurd (((tm).symm.trans (congrArg ty q.1)).trans tc1) (by decide))).trans ec1
  refine gz_s 2 (pc' := 16) (L' := [some (.ref m), some (.int (zi b))]) (S' := [.ref m, .ref m]) rfl ?_
  refine gs_gtk rfl (by decide) rfl sh3.1 tm rfl rfl s4 ?_
  refine gy_s 2 (pc' := 21) (L' := [some (.ref m), some (.int (zi b))]) (S' := [.int ((zi wr) + (zi 1)), .ref m]) (L2 := [some (.ref m), some (.int (zi b))]) (S2 := [.int (zi (wr + 1)), .ref m]) rfl (by simp only [zi_add, zi_sub, zi_mul, zi_neg, zi_and1, zi_and7, zi_and15, zi_and31, zi_and255]) (by simp only [zi_add, zi_sub, zi_mul, zi_neg, zi_and1, zi_and7, zi_and15, zi_and31, zi_and255]) ?_
  refine gs_put rfl (by decide) rfl sh3 tm rfl rfl rfl rfl (Or.inl rfl) (by decide) (by omega) (by omega) (fun h6 sh6 eh6 fh6 => ?_)
  have s7 := (fh6 m 60 (fun q => absurd q.2 (by decide))).trans s5
  exact gz_end (I := .return_) (len := 1) rfl (Or.inl rfl) ⟨sh6, rfl, (by rw [show (wr + 1 : Int) = wr + 1 by omega]; exact eh6)⟩
set_option maxRecDepth 20000 in
set_option maxHeartbeats 4000000 in
theorem mm_up (d : Nat) {ty : Nat → Nat} {h : gH} (hJ : gJ rT 1027 ty h) (a : Int) (ra : 0 ≤ a ∧ a ≤ 4096) (b : Int) (rb : 1 ≤ b ∧ b ≤ 4096)  : gz gPP gGG gcn (d + 0) gt146 0 (gent [.int (zi a), .int (zi b)] 2) [] h (fun q _ => gSs rT 1027 ty [] h q.2.2 ∧ ∃ z : Int, gfin gt146 q.1 q.2.1 = some (some (.int (zi z))) ∧ 0 ≤ z ∧ z ≤ 4096) := by
  have hS : gSs rT 1027 ty [] h h := gSs.rf hJ
  refine gz_s 2 (pc' := 2) (L' := [some (.int (zi a)), some (.int (zi b))]) (S' := [.int (zi b), .int (zi a)]) rfl ?_
  refine gy_rem rfl (by decide) (by omega) (by omega) ?_
  by_cases hc1 : ¬ (a % b : Int) = 0
  · refine gy_ifT (pc' := 12) rfl (by decide) (by decide) (by omega) hc1 ?_
    refine gz_s 2 (pc' := 14) (L' := [some (.int (zi a)), some (.int (zi b))]) (S' := [.int (zi b), .int (zi a)]) rfl ?_
    refine gy_div rfl (by decide) (by omega) (by omega) ?_
    refine gy_s 2 (pc' := 17) (L' := [some (.int (zi a)), some (.int (zi b))]) (S' := [.int ((zi (a / b)) + (zi 1))]) (L2 := [some (.int (zi a)), some (.int (zi b))]) (S2 := [.int (zi ((a / b) + 1))]) rfl (by simp only [zi_add, zi_sub, zi_mul, zi_neg, zi_and1, zi_and7, zi_and15, zi_and31, zi_and255]) (by simp only [zi_add, zi_sub, zi_mul, zi_neg, zi_and1, zi_and7, zi_and15, zi_and31, zi_and255]) ?_
    exact gz_end (I := .ireturn) (len := 1) rfl (Or.inl rfl) ⟨hS, (a / b) + 1, rfl, (by omega), (by omega)⟩
  · refine gy_ifF rfl (by decide) (by decide) (by omega) hc1 ?_
    refine gz_s 2 (pc' := 8) (L' := [some (.int (zi a)), some (.int (zi b))]) (S' := [.int (zi b), .int (zi a)]) rfl ?_
    refine gy_div rfl (by decide) (by omega) (by omega) ?_
    refine gz_s 1 (pc' := 17) (L' := [some (.int (zi a)), some (.int (zi b))]) (S' := [.int (zi (a / b))]) rfl ?_
    exact gz_end (I := .ireturn) (len := 1) rfl (Or.inl rfl) ⟨hS, a / b, rfl, (by omega), (by omega)⟩
