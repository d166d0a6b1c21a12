/-! ===== the model: first methods (by program) ===== -/
set_option maxRecDepth 20000 in
theorem cm_thrown (d : Nat) {ty : Nat → Nat} {h : gH} (hJ : gJ rT 1027 ty h) (m : Nat) (tm : ty m = 1)  : gz gPP gGG gcn (d + 0) gt130 0 (gent [.ref m] 1) [] h (fun q _ => gSs rT 1027 ty [] h q.2.2 ∧ ∃ z : Int, gfin gt130 q.1 q.2.1 = some (some (.int (zi z))) ∧ 0 ≤ z ∧ z ≤ 2) := by
  have hS : gSs rT 1027 ty [] h h := gSs.rf hJ
  refine gz_s 1 (pc' := 1) (L' := [some (.ref m)]) (S' := [.ref m]) rfl ?_
  refine gs_get rfl (by decide) rfl hS.1 tm rfl rfl rfl (fun z1 ez1 az1 bz1 => ?_)
  exact gz_end (I := .ireturn) (len := 1) rfl (Or.inl rfl) ⟨hS, z1, rfl, (by omega), (by omega)⟩
set_option maxRecDepth 20000 in
theorem cm_must (d : Nat) {ty : Nat → Nat} {h : gH} (hJ : gJ rT 1027 ty h) (m : Nat) (tm : ty m = 1) (ok : Int) (rok : 0 ≤ ok ∧ ok ≤ 1) (wh : Int) (rwh : 0 ≤ wh ∧ wh ≤ 4000)  : gz gPP gGG gcn (d + 0) gt134 0 (gent [.ref m, .int (zi ok), .int (zi wh)] 3) [] h (fun q _ => gSs rT 1027 ty [1007] h q.2.2 ∧ ∃ z : Int, gfin gt134 q.1 q.2.1 = some (some (.int (zi z))) ∧ 0 ≤ z ∧ z ≤ 1 ∧ (z = 1 → ok = 1 ∧ q.2.2.2.2.2.2 m 7 = .int (zi (-1)))) := by
  have hS : gSs rT 1027 ty [1007] h h := gSs.rf hJ
  refine gz_s 1 (pc' := 1) (L' := [some (.ref m), some (.int (zi ok)), some (.int (zi wh))]) (S' := [.int (zi ok)]) rfl ?_
  by_cases hc1 : ¬ ok = 0
  · refine gy_ifT (pc' := 17) rfl (by decide) (by decide) (by omega) hc1 ?_
    refine gz_s 1 (pc' := 18) (L' := [some (.ref m), some (.int (zi ok)), some (.int (zi wh))]) (S' := [.ref m]) rfl ?_
    refine gs_get rfl (by decide) rfl hS.1 tm rfl rfl rfl (fun z2 ez2 az2 bz2 => ?_)
    refine gz_s 1 (pc' := 22) (L' := [some (.ref m), some (.int (zi ok)), some (.int (zi wh))]) (S' := [.int (zi (-1)), .int (zi z2)]) rfl ?_
    by_cases hc3 : ¬ z2 = (-1)
    · refine gy_icT (pc' := 29) rfl (by decide) (by decide) (by omega) (by omega) hc3 ?_
      refine gz_s 1 (pc' := 30) (L' := [some (.ref m), some (.int (zi ok)), some (.int (zi wh))]) (S' := [.int (zi 0)]) rfl ?_
      exact gz_end (I := .ireturn) (len := 1) rfl (Or.inl rfl) ⟨hS, 0, gfin_z rfl rfl (by omega), (by omega), (by omega), (by omega)⟩
    · refine gy_icF rfl (by decide) (by decide) (by omega) (by omega) hc3 ?_
      refine gz_s 2 (pc' := 30) (L' := [some (.ref m), some (.int (zi ok)), some (.int (zi wh))]) (S' := [.int (zi 1)]) rfl ?_
      exact gz_end (I := .ireturn) (len := 1) rfl (Or.inl rfl) ⟨hS, 1, gfin_z rfl rfl (by omega), (by omega), (by omega), (by omega)⟩
  · refine gy_ifF rfl (by decide) (by decide) (by omega) hc1 ?_
    refine gz_s 1 (pc' := 5) (L' := [some (.ref m), some (.int (zi ok)), some (.int (zi wh))]) (S' := [.ref m]) rfl ?_
    refine gs_get rfl (by decide) rfl hS.1 tm rfl rfl rfl (fun z4 ez4 az4 bz4 => ?_)
    refine gz_s 1 (pc' := 9) (L' := [some (.ref m), some (.int (zi ok)), some (.int (zi wh))]) (S' := [.int (zi (-1)), .int (zi z4)]) rfl ?_
    by_cases hc5 : ¬ z4 = (-1)
    · refine gy_icT (pc' := 17) rfl (by decide) (by decide) (by omega) (by omega) hc5 ?_
      refine gz_s 1 (pc' := 18) (L' := [some (.ref m), some (.int (zi ok)), some (.int (zi wh))]) (S' := [.ref m]) rfl ?_
      refine gs_gtk rfl (by decide) rfl hS.1 tm rfl rfl ez4 ?_
      refine gz_s 1 (pc' := 22) (L' := [some (.ref m), some (.int (zi ok)), some (.int (zi wh))]) (S' := [.int (zi (-1)), .int (zi z4)]) rfl ?_
      by_cases hc6 : ¬ z4 = (-1)
      · refine gy_icT (pc' := 29) rfl (by decide) (by decide) (by omega) (by omega) hc6 ?_
        refine gz_s 1 (pc' := 30) (L' := [some (.ref m), some (.int (zi ok)), some (.int (zi wh))]) (S' := [.int (zi 0)]) rfl ?_
        exact gz_end (I := .ireturn) (len := 1) rfl (Or.inl rfl) ⟨hS, 0, gfin_z rfl rfl (by omega), (by omega), (by omega), (by omega)⟩
      · refine gy_icF rfl (by decide) (by decide) (by omega) (by omega) hc6 ?_
        refine gz_s 2 (pc' := 30) (L' := [some (.ref m), some (.int (zi ok)), some (.int (zi wh))]) (S' := [.int (zi 1)]) rfl ?_
        exact gz_end (I := .ireturn) (len := 1) rfl (Or.inl rfl) ⟨hS, 1, gfin_z rfl rfl (by omega), (by omega), (by omega), (by omega)⟩
    · refine gy_icF rfl (by decide) (by decide) (by omega) (by omega) hc5 ?_
      refine gz_s 2 (pc' := 14) (L' := [some (.ref m), some (.int (zi ok)), some (.int (zi wh))]) (S' := [.int (zi wh), .ref m]) rfl ?_
      refine gs_put rfl (by decide) rfl hS tm rfl rfl rfl rfl (Or.inl rfl) (by decide) (by omega) (by omega) (fun h7 sh7 eh7 fh7 => ?_)
      refine gz_s 1 (pc' := 18) (L' := [some (.ref m), some (.int (zi ok)), some (.int (zi wh))]) (S' := [.ref m]) rfl ?_
      refine gs_gtk rfl (by decide) rfl sh7.1 tm rfl rfl eh7 ?_
      refine gz_s 1 (pc' := 22) (L' := [some (.ref m), some (.int (zi ok)), some (.int (zi wh))]) (S' := [.int (zi (-1)), .int (zi wh)]) rfl ?_
      by_cases hc8 : ¬ wh = (-1)
      · refine gy_icT (pc' := 29) rfl (by decide) (by decide) (by omega) (by omega) hc8 ?_
        refine gz_s 1 (pc' := 30) (L' := [some (.ref m), some (.int (zi ok)), some (.int (zi wh))]) (S' := [.int (zi 0)]) rfl ?_
        exact gz_end (I := .ireturn) (len := 1) rfl (Or.inl rfl) ⟨sh7, 0, gfin_z rfl rfl (by omega), (by omega), (by omega), (by omega)⟩
      · refine gy_icF rfl (by decide) (by decide) (by omega) (by omega) hc8 ?_
        refine gz_s 2 (pc' := 30) (L' := [some (.ref m), some (.int (zi ok)), some (.int (zi wh))]) (S' := [.int (zi 1)]) rfl ?_
        exact gz_end (I := .ireturn) (len := 1) rfl (Or.inl rfl) ⟨sh7, 1, gfin_z rfl rfl (by omega), (by omega), (by omega), (by omega)⟩
set_option maxRecDepth 20000 in
theorem cm_keep (d : Nat) {ty : Nat → Nat} {h : gH} (hJ : gJ rT 1027 ty h) (m : Nat) (tm : ty m = 1) (ok : Int) (rok : 0 ≤ ok ∧ ok ≤ 1)  : gz gPP gGG gcn (d + 0) gt149 0 (gent [.ref m, .int (zi ok)] 2) [] h (fun q _ => gSs rT 1027 ty [1046] h q.2.2 ∧ gfin gt149 q.1 q.2.1 = some none) := by
  have hS : gSs rT 1027 ty [1046] h h := gSs.rf hJ
  refine gz_s 2 (pc' := 2) (L' := [some (.ref m), some (.int (zi ok))]) (S' := [.ref m, .ref m]) rfl ?_
  refine gs_get rfl (by decide) rfl hS.1 tm rfl rfl rfl (fun z1 ez1 az1 bz1 => ?_)
  by_cases hc2 : ¬ z1 = 0
  · refine gy_ifT (pc' := 12) rfl (by decide) (by decide) (by omega) hc2 ?_
    refine gz_s 2 (pc' := 17) (L' := [some (.ref m), some (.int (zi ok))]) (S' := [.int (zi 1), .ref m]) rfl ?_
    refine gs_put rfl (by decide) rfl hS tm rfl rfl rfl rfl (Or.inl rfl) (by decide) (by omega) (by omega) (fun h3 sh3 eh3 fh3 => ?_)
    exact gz_end (I := .return_) (len := 1) rfl (Or.inl rfl) ⟨sh3, rfl⟩
  · refine gy_ifF rfl (by decide) (by decide) (by omega) hc2 ?_
    refine gz_s 1 (pc' := 9) (L' := [some (.ref m), some (.int (zi ok))]) (S' := [.int (zi ok), .ref m]) rfl ?_
    by_cases hc4 : ¬ ok = 0
    · refine gy_ifT (pc' := 16) rfl (by decide) (by decide) (by omega) hc4 ?_
      refine gz_s 1 (pc' := 17) (L' := [some (.ref m), some (.int (zi ok))]) (S' := [.int (zi 0), .ref m]) rfl ?_
      refine gs_put rfl (by decide) rfl hS tm rfl rfl rfl rfl (Or.inl rfl) (by decide) (by omega) (by omega) (fun h5 sh5 eh5 fh5 => ?_)
      exact gz_end (I := .return_) (len := 1) rfl (Or.inl rfl) ⟨sh5, rfl⟩
    · refine gy_ifF rfl (by decide) (by decide) (by omega) hc4 ?_
      refine gz_s 2 (pc' := 17) (L' := [some (.ref m), some (.int (zi ok))]) (S' := [.int (zi 1), .ref m]) rfl ?_
      refine gs_put rfl (by decide) rfl hS tm rfl rfl rfl rfl (Or.inl rfl) (by decide) (by omega) (by omega) (fun h6 sh6 eh6 fh6 => ?_)
      exact gz_end (I := .return_) (len := 1) rfl (Or.inl rfl) ⟨sh6, rfl⟩
set_option maxRecDepth 20000 in
theorem cm_restart (d : Nat) {ty : Nat → Nat} {h : gH} (hJ : gJ rT 1027 ty h) (m : Nat) (tm : ty m = 1) (n : Int) (rn : (-2147483648) ≤ n ∧ n ≤ 2147483647)  : gz gPP gGG gcn (d + 0) gt182 0 (gent [.ref m, .int (zi n)] 3) [] h (fun q _ => gSs rT 1027 ty [1000, 1052] h q.2.2 ∧ ∃ z : Int, gfin gt182 q.1 q.2.1 = some (some (.int (zi z))) ∧ 0 ≤ z ∧ z ≤ 100) := by
  have hS : gSs rT 1027 ty [1000, 1052] h h := gSs.rf hJ
  refine gz_s 2 (pc' := 2) (L' := [some (.ref m), some (.int (zi n)), none]) (S' := [.int (zi n), .ref m]) rfl ?_
  by_cases hc1 : n < 0
  · refine gy_ifT (pc' := 11) rfl (by decide) (by decide) (by omega) hc1 ?_
    refine gz_s 2 (pc' := 16) (L' := [some (.ref m), some (.int (zi n)), none]) (S' := [.int (zi 1), .ref m]) rfl ?_
    refine gs_put rfl (by decide) rfl hS tm rfl rfl rfl rfl (Or.inl rfl) (by decide) (by omega) (by omega) (fun h2 sh2 eh2 fh2 => ?_)
    refine gz_s 1 (pc' := 20) (L' := [some (.ref m), some (.int (zi n)), none]) (S' := [.ref m]) rfl ?_
    refine gs_gtk rfl (by decide) rfl sh2.1 tm rfl rfl eh2 ?_
    refine gy_ifF rfl (by decide) (by decide) (by omega) (by simp [zc]) ?_
    refine gz_s 1 (pc' := 27) (L' := [some (.ref m), some (.int (zi n)), none]) (S' := [.int (zi 0)]) rfl ?_
    exact gz_end (I := .ireturn) (len := 1) rfl (Or.inl rfl) ⟨sh2, 0, rfl, (by omega), (by omega)⟩
  · refine gy_ifF rfl (by decide) (by decide) (by omega) hc1 ?_
    refine gz_s 2 (pc' := 8) (L' := [some (.ref m), some (.int (zi n)), none]) (S' := [.int (zi 100), .int (zi n), .ref m]) rfl ?_
    by_cases hc3 : n ≤ 100
    · refine gy_icT (pc' := 15) rfl (by decide) (by decide) (by omega) (by omega) hc3 ?_
      refine gz_s 1 (pc' := 16) (L' := [some (.ref m), some (.int (zi n)), none]) (S' := [.int (zi 0), .ref m]) rfl ?_
      refine gs_put rfl (by decide) rfl hS tm rfl rfl rfl rfl (Or.inl rfl) (by decide) (by omega) (by omega) (fun h4 sh4 eh4 fh4 => ?_)
      refine gz_s 1 (pc' := 20) (L' := [some (.ref m), some (.int (zi n)), none]) (S' := [.ref m]) rfl ?_
      refine gs_gtk rfl (by decide) rfl sh4.1 tm rfl rfl eh4 ?_
      refine gy_ifT (pc' := 28) rfl (by decide) (by decide) (by omega) (by simp [zc]) ?_
      refine gz_s 1 (pc' := 29) (L' := [some (.ref m), some (.int (zi n)), none]) (S' := [.ref m]) rfl ?_
      refine gs_get rfl (by decide) rfl sh4.1 tm rfl rfl rfl (fun z5 ez5 az5 bz5 => ?_)
      refine gz_s 3 (pc' := 35) (L' := [some (.ref m), some (.int (zi n)), some (.int (zi z5))]) (S' := [.int (zi n), .ref m]) rfl ?_
      refine gs_put rfl (by decide) rfl sh4 tm rfl rfl rfl rfl (Or.inl rfl) (by decide) (by omega) (by omega) (fun h6 sh6 eh6 fh6 => ?_)
      have s7 := (fh6 m 0 (fun q => absurd q.2 (by decide))).trans eh4
      refine gz_s 1 (pc' := 39) (L' := [some (.ref m), some (.int (zi n)), some (.int (zi z5))]) (S' := [.int (zi z5)]) rfl ?_
      exact gz_end (I := .ireturn) (len := 1) rfl (Or.inl rfl) ⟨sh6, z5, rfl, (by omega), (by omega)⟩
    · refine gy_icF rfl (by decide) (by decide) (by omega) (by omega) hc3 ?_
      refine gz_s 2 (pc' := 16) (L' := [some (.ref m), some (.int (zi n)), none]) (S' := [.int (zi 1), .ref m]) rfl ?_
      refine gs_put rfl (by decide) rfl hS tm rfl rfl rfl rfl (Or.inl rfl) (by decide) (by omega) (by omega) (fun h8 sh8 eh8 fh8 => ?_)
      refine gz_s 1 (pc' := 20) (L' := [some (.ref m), some (.int (zi n)), none]) (S' := [.ref m]) rfl ?_
      refine gs_gtk rfl (by decide) rfl sh8.1 tm rfl rfl eh8 ?_
      refine gy_ifF rfl (by decide) (by decide) (by omega) (by simp [zc]) ?_
      refine gz_s 1 (pc' := 27) (L' := [some (.ref m), some (.int (zi n)), none]) (S' := [.int (zi 0)]) rfl ?_
      exact gz_end (I := .ireturn) (len := 1) rfl (Or.inl rfl) ⟨sh8, 0, rfl, (by omega), (by omega)⟩
set_option maxRecDepth 20000 in
theorem cm_table (d : Nat) {ty : Nat → Nat} {h : gH} (hJ : gJ rT 1027 ty h) (m : Nat) (tm : ty m = 1) (kd : Int) (rkd : (-2147483648) ≤ kd ∧ kd ≤ 2147483647) (i : Int) (ri : (-2147483648) ≤ i ∧ i ≤ 2147483647) (v : Int) (rv : (-2147483648) ≤ v ∧ v ≤ 2147483647)  : gz gPP gGG gcn (d + 0) gt179 0 (gent [.ref m, .int (zi kd), .int (zi i), .int (zi v)] 5) [] h (fun q _ => gSs rT 1027 ty [1000, 8999] h q.2.2 ∧ ∃ z : Int, gfin gt179 q.1 q.2.1 = some (some (.int (zi z))) ∧ 0 ≤ z ∧ z ≤ 255) := by
  have hS : gSs rT 1027 ty [1000, 8999] h h := gSs.rf hJ
  refine gz_s 2 (pc' := 2) (L' := [some (.ref m), some (.int (zi kd)), some (.int (zi i)), some (.int (zi v)), none]) (S' := [.int (zi kd), .ref m]) rfl ?_
  by_cases hc1 : kd < 0
  · refine gy_ifT (pc' := 20) rfl (by decide) (by decide) (by omega) hc1 ?_
    refine gz_s 2 (pc' := 46) (L' := [some (.ref m), some (.int (zi kd)), some (.int (zi i)), some (.int (zi v)), none]) (S' := [.int (zi 1), .ref m]) rfl ?_
    refine gs_put rfl (by decide) rfl hS tm rfl rfl rfl rfl (Or.inl rfl) (by decide) (by omega) (by omega) (fun h2 sh2 eh2 fh2 => ?_)
    refine gz_s 1 (pc' := 50) (L' := [some (.ref m), some (.int (zi kd)), some (.int (zi i)), some (.int (zi v)), none]) (S' := [.ref m]) rfl ?_
    refine gs_gtk rfl (by decide) rfl sh2.1 tm rfl rfl eh2 ?_
    refine gy_ifF rfl (by decide) (by decide) (by omega) (by simp [zc]) ?_
    refine gz_s 1 (pc' := 57) (L' := [some (.ref m), some (.int (zi kd)), some (.int (zi i)), some (.int (zi v)), none]) (S' := [.int (zi 0)]) rfl ?_
    exact gz_end (I := .ireturn) (len := 1) rfl (Or.inl rfl) ⟨sh2, 0, rfl, (by omega), (by omega)⟩
  · refine gy_ifF rfl (by decide) (by decide) (by omega) hc1 ?_
    refine gz_s 2 (pc' := 7) (L' := [some (.ref m), some (.int (zi kd)), some (.int (zi i)), some (.int (zi v)), none]) (S' := [.int (zi 3), .int (zi kd), .ref m]) rfl ?_
    by_cases hc3 : 3 < kd
    · refine gy_icT (pc' := 20) rfl (by decide) (by decide) (by omega) (by omega) hc3 ?_
      refine gz_s 2 (pc' := 46) (L' := [some (.ref m), some (.int (zi kd)), some (.int (zi i)), some (.int (zi v)), none]) (S' := [.int (zi 1), .ref m]) rfl ?_
      refine gs_put rfl (by decide) rfl hS tm rfl rfl rfl rfl (Or.inl rfl) (by decide) (by omega) (by omega) (fun h4 sh4 eh4 fh4 => ?_)
      refine gz_s 1 (pc' := 50) (L' := [some (.ref m), some (.int (zi kd)), some (.int (zi i)), some (.int (zi v)), none]) (S' := [.ref m]) rfl ?_
      refine gs_gtk rfl (by decide) rfl sh4.1 tm rfl rfl eh4 ?_
      refine gy_ifF rfl (by decide) (by decide) (by omega) (by simp [zc]) ?_
      refine gz_s 1 (pc' := 57) (L' := [some (.ref m), some (.int (zi kd)), some (.int (zi i)), some (.int (zi v)), none]) (S' := [.int (zi 0)]) rfl ?_
      exact gz_end (I := .ireturn) (len := 1) rfl (Or.inl rfl) ⟨sh4, 0, rfl, (by omega), (by omega)⟩
    · refine gy_icF rfl (by decide) (by decide) (by omega) (by omega) hc3 ?_
      refine gz_s 1 (pc' := 11) (L' := [some (.ref m), some (.int (zi kd)), some (.int (zi i)), some (.int (zi v)), none]) (S' := [.int (zi i), .ref m]) rfl ?_
      by_cases hc5 : i < 0
      · refine gy_ifT (pc' := 20) rfl (by decide) (by decide) (by omega) hc5 ?_
        refine gz_s 2 (pc' := 46) (L' := [some (.ref m), some (.int (zi kd)), some (.int (zi i)), some (.int (zi v)), none]) (S' := [.int (zi 1), .ref m]) rfl ?_
        refine gs_put rfl (by decide) rfl hS tm rfl rfl rfl rfl (Or.inl rfl) (by decide) (by omega) (by omega) (fun h6 sh6 eh6 fh6 => ?_)
        refine gz_s 1 (pc' := 50) (L' := [some (.ref m), some (.int (zi kd)), some (.int (zi i)), some (.int (zi v)), none]) (S' := [.ref m]) rfl ?_
        refine gs_gtk rfl (by decide) rfl sh6.1 tm rfl rfl eh6 ?_
        refine gy_ifF rfl (by decide) (by decide) (by omega) (by simp [zc]) ?_
        refine gz_s 1 (pc' := 57) (L' := [some (.ref m), some (.int (zi kd)), some (.int (zi i)), some (.int (zi v)), none]) (S' := [.int (zi 0)]) rfl ?_
        exact gz_end (I := .ireturn) (len := 1) rfl (Or.inl rfl) ⟨sh6, 0, rfl, (by omega), (by omega)⟩
      · refine gy_ifF rfl (by decide) (by decide) (by omega) hc5 ?_
        refine gz_s 2 (pc' := 17) (L' := [some (.ref m), some (.int (zi kd)), some (.int (zi i)), some (.int (zi v)), none]) (S' := [.int (zi 63), .int (zi i), .ref m]) rfl ?_
        by_cases hc7 : i ≤ 63
        · refine gy_icT (pc' := 24) rfl (by decide) (by decide) (by omega) (by omega) hc7 ?_
          refine gz_s 2 (pc' := 26) (L' := [some (.ref m), some (.int (zi kd)), some (.int (zi i)), some (.int (zi v)), none]) (S' := [.int (zi (-1)), .int (zi v), .ref m]) rfl ?_
          by_cases hc8 : (v : Int) = (-1)
          · refine gy_icT (pc' := 45) rfl (by decide) (by decide) (by omega) (by omega) hc8 ?_
            refine gz_s 1 (pc' := 46) (L' := [some (.ref m), some (.int (zi kd)), some (.int (zi i)), some (.int (zi v)), none]) (S' := [.int (zi 0), .ref m]) rfl ?_
            refine gs_put rfl (by decide) rfl hS tm rfl rfl rfl rfl (Or.inl rfl) (by decide) (by omega) (by omega) (fun h9 sh9 eh9 fh9 => ?_)
            refine gz_s 1 (pc' := 50) (L' := [some (.ref m), some (.int (zi kd)), some (.int (zi i)), some (.int (zi v)), none]) (S' := [.ref m]) rfl ?_
            refine gs_gtk rfl (by decide) rfl sh9.1 tm rfl rfl eh9 ?_
            refine gy_ifT (pc' := 58) rfl (by decide) (by decide) (by omega) (by simp [zc]) ?_
            refine gz_s 1 (pc' := 59) (L' := [some (.ref m), some (.int (zi kd)), some (.int (zi i)), some (.int (zi v)), none]) (S' := [.ref m]) rfl ?_
            refine gs_gtr rfl (by decide) rfl sh9.1 tm rfl rfl rfl (fun c10 ec10 tc10 => ?_)
            refine gy_s 5 (pc' := 68) (L' := [some (.ref m), some (.int (zi kd)), some (.int (zi i)), some (.int (zi v)), none]) (S' := [.int (((zi 64) * (zi kd)) + (zi i)), .ref c10]) (L2 := [some (.ref m), some (.int (zi kd)), some (.int (zi i)), some (.int (zi v)), none]) (S2 := [.int (zi ((64 * kd) + i)), .ref c10]) rfl (by simp only [zi_add, zi_sub, zi_mul, zi_neg]) (by simp only [zi_add, zi_sub, zi_mul, zi_neg]) ?_
            have hl12 := gJ.rowl (G := gGG) sh9.1 tc10 rfl
            refine gs_ald rfl (by decide) sh9.1 tc10 rfl rfl rfl (by decide) (fun _ => rfl) (by omega) (by skip; omega) (fun z11 ez11 az11 bz11 => ?_)
            refine gz_s 2 (pc' := 72) (L' := [some (.ref m), some (.int (zi kd)), some (.int (zi i)), some (.int (zi v)), some (.int (zi z11))]) (S' := [.ref m]) rfl ?_
            refine gs_gtk rfl (by decide) rfl sh9.1 tm rfl rfl ec10 ?_
            refine gy_s 7 (pc' := 83) (L' := [some (.ref m), some (.int (zi kd)), some (.int (zi i)), some (.int (zi v)), some (.int (zi z11))]) (S' := [.int (zi (-1)), .int (zi v), .int (((zi 64) * (zi kd)) + (zi i)), .ref c10]) (L2 := [some (.ref m), some (.int (zi kd)), some (.int (zi i)), some (.int (zi v)), some (.int (zi z11))]) (S2 := [.int (zi (-1)), .int (zi v), .int (zi ((64 * kd) + i)), .ref c10]) rfl (by simp only [zi_add, zi_sub, zi_mul, zi_neg]) (by simp only [zi_add, zi_sub, zi_mul, zi_neg]) ?_
            by_cases hc13 : ¬ v = (-1)
            · refine gy_icT (pc' := 91) rfl (by decide) (by decide) (by omega) (by omega) hc13 ?_
              refine gz_s 1 (pc' := 92) (L' := [some (.ref m), some (.int (zi kd)), some (.int (zi i)), some (.int (zi v)), some (.int (zi z11))]) (S' := [.int (zi v), .int (zi ((64 * kd) + i)), .ref c10]) rfl ?_
              have hl15 := gJ.rowl (G := gGG) sh9.1 tc10 rfl
              refine gs_ast rfl (by decide) sh9 tc10 rfl rfl rfl (by decide) (fun _ => rfl) (by omega) (by skip; omega) (fun _ => by decide) (by omega) (by omega) (fun h14 sh14 eh14 fh14 => ?_)
              have s16 := (fh14 m 0 (fun q => absurd (((tm).symm.trans (congrArg ty q.1)).trans tc10) (by decide))).trans eh9
              have s17 := (fh14 m 13 (fun q => absurd (((tm).symm.trans (congrArg ty q.1)).trans tc10) (by decide))).trans ec10
              refine gz_s 1 (pc' := 95) (L' := [some (.ref m), some (.int (zi kd)), some (.int (zi i)), some (.int (zi v)), some (.int (zi z11))]) (S' := [.int (zi z11)]) rfl ?_
              exact gz_end (I := .ireturn) (len := 1) rfl (Or.inl rfl) ⟨sh14, z11, rfl, (by omega), (by omega)⟩
            · refine gy_icF rfl (by decide) (by decide) (by omega) (by omega) hc13 ?_
              refine gz_s 2 (pc' := 92) (L' := [some (.ref m), some (.int (zi kd)), some (.int (zi i)), some (.int (zi v)), some (.int (zi z11))]) (S' := [.int (zi z11), .int (zi ((64 * kd) + i)), .ref c10]) rfl ?_
              have hl19 := gJ.rowl (G := gGG) sh9.1 tc10 rfl
              refine gs_ast rfl (by decide) sh9 tc10 rfl rfl rfl (by decide) (fun _ => rfl) (by omega) (by skip; omega) (fun _ => by decide) (by omega) (by omega) (fun h18 sh18 eh18 fh18 => ?_)
              have s20 := (fh18 m 0 (fun q => absurd (((tm).symm.trans (congrArg ty q.1)).trans tc10) (by decide))).trans eh9
              have s21 := (fh18 m 13 (fun q => absurd (((tm).symm.trans (congrArg ty q.1)).trans tc10) (by decide))).trans ec10
              refine gz_s 1 (pc' := 95) (L' := [some (.ref m), some (.int (zi kd)), some (.int (zi i)), some (.int (zi v)), some (.int (zi z11))]) (S' := [.int (zi z11)]) rfl ?_
              exact gz_end (I := .ireturn) (len := 1) rfl (Or.inl rfl) ⟨sh18, z11, rfl, (by omega), (by omega)⟩
          · refine gy_icF rfl (by decide) (by decide) (by omega) (by omega) hc8 ?_
            refine gz_s 2 (pc' := 31) (L' := [some (.ref m), some (.int (zi kd)), some (.int (zi i)), some (.int (zi v)), none]) (S' := [.int (zi 1), .int (zi v), .ref m]) rfl ?_
            by_cases hc22 : v < 1
            · refine gy_icT (pc' := 41) rfl (by decide) (by decide) (by omega) (by omega) hc22 ?_
              refine gz_s 2 (pc' := 46) (L' := [some (.ref m), some (.int (zi kd)), some (.int (zi i)), some (.int (zi v)), none]) (S' := [.int (zi 2), .ref m]) rfl ?_
              refine gs_put rfl (by decide) rfl hS tm rfl rfl rfl rfl (Or.inl rfl) (by decide) (by omega) (by omega) (fun h23 sh23 eh23 fh23 => ?_)
              refine gz_s 1 (pc' := 50) (L' := [some (.ref m), some (.int (zi kd)), some (.int (zi i)), some (.int (zi v)), none]) (S' := [.ref m]) rfl ?_
              refine gs_gtk rfl (by decide) rfl sh23.1 tm rfl rfl eh23 ?_
              refine gy_ifF rfl (by decide) (by decide) (by omega) (by simp [zc]) ?_
              refine gz_s 1 (pc' := 57) (L' := [some (.ref m), some (.int (zi kd)), some (.int (zi i)), some (.int (zi v)), none]) (S' := [.int (zi 0)]) rfl ?_
              exact gz_end (I := .ireturn) (len := 1) rfl (Or.inl rfl) ⟨sh23, 0, rfl, (by omega), (by omega)⟩
            · refine gy_icF rfl (by decide) (by decide) (by omega) (by omega) hc22 ?_
              refine gz_s 2 (pc' := 38) (L' := [some (.ref m), some (.int (zi kd)), some (.int (zi i)), some (.int (zi v)), none]) (S' := [.int (zi 255), .int (zi v), .ref m]) rfl ?_
              by_cases hc24 : v ≤ 255
              · refine gy_icT (pc' := 45) rfl (by decide) (by decide) (by omega) (by omega) hc24 ?_
                refine gz_s 1 (pc' := 46) (L' := [some (.ref m), some (.int (zi kd)), some (.int (zi i)), some (.int (zi v)), none]) (S' := [.int (zi 0), .ref m]) rfl ?_
                refine gs_put rfl (by decide) rfl hS tm rfl rfl rfl rfl (Or.inl rfl) (by decide) (by omega) (by omega) (fun h25 sh25 eh25 fh25 => ?_)
                refine gz_s 1 (pc' := 50) (L' := [some (.ref m), some (.int (zi kd)), some (.int (zi i)), some (.int (zi v)), none]) (S' := [.ref m]) rfl ?_
                refine gs_gtk rfl (by decide) rfl sh25.1 tm rfl rfl eh25 ?_
                refine gy_ifT (pc' := 58) rfl (by decide) (by decide) (by omega) (by simp [zc]) ?_
                refine gz_s 1 (pc' := 59) (L' := [some (.ref m), some (.int (zi kd)), some (.int (zi i)), some (.int (zi v)), none]) (S' := [.ref m]) rfl ?_
                refine gs_gtr rfl (by decide) rfl sh25.1 tm rfl rfl rfl (fun c26 ec26 tc26 => ?_)
                refine gy_s 5 (pc' := 68) (L' := [some (.ref m), some (.int (zi kd)), some (.int (zi i)), some (.int (zi v)), none]) (S' := [.int (((zi 64) * (zi kd)) + (zi i)), .ref c26]) (L2 := [some (.ref m), some (.int (zi kd)), some (.int (zi i)), some (.int (zi v)), none]) (S2 := [.int (zi ((64 * kd) + i)), .ref c26]) rfl (by simp only [zi_add, zi_sub, zi_mul, zi_neg]) (by simp only [zi_add, zi_sub, zi_mul, zi_neg]) ?_
                have hl28 := gJ.rowl (G := gGG) sh25.1 tc26 rfl
                refine gs_ald rfl (by decide) sh25.1 tc26 rfl rfl rfl (by decide) (fun _ => rfl) (by omega) (by skip; omega) (fun z27 ez27 az27 bz27 => ?_)
                refine gz_s 2 (pc' := 72) (L' := [some (.ref m), some (.int (zi kd)), some (.int (zi i)), some (.int (zi v)), some (.int (zi z27))]) (S' := [.ref m]) rfl ?_
                refine gs_gtk rfl (by decide) rfl sh25.1 tm rfl rfl ec26 ?_
                refine gy_s 7 (pc' := 83) (L' := [some (.ref m), some (.int (zi kd)), some (.int (zi i)), some (.int (zi v)), some (.int (zi z27))]) (S' := [.int (zi (-1)), .int (zi v), .int (((zi 64) * (zi kd)) + (zi i)), .ref c26]) (L2 := [some (.ref m), some (.int (zi kd)), some (.int (zi i)), some (.int (zi v)), some (.int (zi z27))]) (S2 := [.int (zi (-1)), .int (zi v), .int (zi ((64 * kd) + i)), .ref c26]) rfl (by simp only [zi_add, zi_sub, zi_mul, zi_neg]) (by simp only [zi_add, zi_sub, zi_mul, zi_neg]) ?_
                by_cases hc29 : ¬ v = (-1)
                · refine gy_icT (pc' := 91) rfl (by decide) (by decide) (by omega) (by omega) hc29 ?_
                  refine gz_s 1 (pc' := 92) (L' := [some (.ref m), some (.int (zi kd)), some (.int (zi i)), some (.int (zi v)), some (.int (zi z27))]) (S' := [.int (zi v), .int (zi ((64 * kd) + i)), .ref c26]) rfl ?_
                  have hl31 := gJ.rowl (G := gGG) sh25.1 tc26 rfl
                  refine gs_ast rfl (by decide) sh25 tc26 rfl rfl rfl (by decide) (fun _ => rfl) (by omega) (by skip; omega) (fun _ => by decide) (by omega) (by omega) (fun h30 sh30 eh30 fh30 => ?_)
                  have s32 := (fh30 m 0 (fun q => absurd (((tm).symm.trans (congrArg ty q.1)).trans tc26) (by decide))).trans eh25
                  have s33 := (fh30 m 13 (fun q => absurd (((tm).symm.trans (congrArg ty q.1)).trans tc26) (by decide))).trans ec26
                  refine gz_s 1 (pc' := 95) (L' := [some (.ref m), some (.int (zi kd)), some (.int (zi i)), some (.int (zi v)), some (.int (zi z27))]) (S' := [.int (zi z27)]) rfl ?_
                  exact gz_end (I := .ireturn) (len := 1) rfl (Or.inl rfl) ⟨sh30, z27, rfl, (by omega), (by omega)⟩
                · refine gy_icF rfl (by decide) (by decide) (by omega) (by omega) hc29 ?_
                  refine gz_s 2 (pc' := 92) (L' := [some (.ref m), some (.int (zi kd)), some (.int (zi i)), some (.int (zi v)), some (.int (zi z27))]) (S' := [.int (zi z27), .int (zi ((64 * kd) + i)), .ref c26]) rfl ?_
                  have hl35 := gJ.rowl (G := gGG) sh25.1 tc26 rfl
                  refine gs_ast rfl (by decide) sh25 tc26 rfl rfl rfl (by decide) (fun _ => rfl) (by omega) (by skip; omega) (fun _ => by decide) (by omega) (by omega) (fun h34 sh34 eh34 fh34 => ?_)
                  have s36 := (fh34 m 0 (fun q => absurd (((tm).symm.trans (congrArg ty q.1)).trans tc26) (by decide))).trans eh25
                  have s37 := (fh34 m 13 (fun q => absurd (((tm).symm.trans (congrArg ty q.1)).trans tc26) (by decide))).trans ec26
                  refine gz_s 1 (pc' := 95) (L' := [some (.ref m), some (.int (zi kd)), some (.int (zi i)), some (.int (zi v)), some (.int (zi z27))]) (S' := [.int (zi z27)]) rfl ?_
                  exact gz_end (I := .ireturn) (len := 1) rfl (Or.inl rfl) ⟨sh34, z27, rfl, (by omega), (by omega)⟩
              · refine gy_icF rfl (by decide) (by decide) (by omega) (by omega) hc24 ?_
                refine gz_s 2 (pc' := 46) (L' := [some (.ref m), some (.int (zi kd)), some (.int (zi i)), some (.int (zi v)), none]) (S' := [.int (zi 2), .ref m]) rfl ?_
                refine gs_put rfl (by decide) rfl hS tm rfl rfl rfl rfl (Or.inl rfl) (by decide) (by omega) (by omega) (fun h38 sh38 eh38 fh38 => ?_)
                refine gz_s 1 (pc' := 50) (L' := [some (.ref m), some (.int (zi kd)), some (.int (zi i)), some (.int (zi v)), none]) (S' := [.ref m]) rfl ?_
                refine gs_gtk rfl (by decide) rfl sh38.1 tm rfl rfl eh38 ?_
                refine gy_ifF rfl (by decide) (by decide) (by omega) (by simp [zc]) ?_
                refine gz_s 1 (pc' := 57) (L' := [some (.ref m), some (.int (zi kd)), some (.int (zi i)), some (.int (zi v)), none]) (S' := [.int (zi 0)]) rfl ?_
                exact gz_end (I := .ireturn) (len := 1) rfl (Or.inl rfl) ⟨sh38, 0, rfl, (by omega), (by omega)⟩
        · refine gy_icF rfl (by decide) (by decide) (by omega) (by omega) hc7 ?_
          refine gz_s 2 (pc' := 46) (L' := [some (.ref m), some (.int (zi kd)), some (.int (zi i)), some (.int (zi v)), none]) (S' := [.int (zi 1), .ref m]) rfl ?_
          refine gs_put rfl (by decide) rfl hS tm rfl rfl rfl rfl (Or.inl rfl) (by decide) (by omega) (by omega) (fun h39 sh39 eh39 fh39 => ?_)
          refine gz_s 1 (pc' := 50) (L' := [some (.ref m), some (.int (zi kd)), some (.int (zi i)), some (.int (zi v)), none]) (S' := [.ref m]) rfl ?_
          refine gs_gtk rfl (by decide) rfl sh39.1 tm rfl rfl eh39 ?_
          refine gy_ifF rfl (by decide) (by decide) (by omega) (by simp [zc]) ?_
          refine gz_s 1 (pc' := 57) (L' := [some (.ref m), some (.int (zi kd)), some (.int (zi i)), some (.int (zi v)), none]) (S' := [.int (zi 0)]) rfl ?_
          exact gz_end (I := .ireturn) (len := 1) rfl (Or.inl rfl) ⟨sh39, 0, rfl, (by omega), (by omega)⟩
