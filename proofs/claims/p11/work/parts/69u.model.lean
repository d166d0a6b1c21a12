/-! ===== the reference, further (by program) ===== -/
set_option maxRecDepth 20000 in
set_option maxHeartbeats 4000000 in
theorem mm_restart2 (d : Nat) {ty : Nat → Nat} {h : gH} (hJ : gJ rT 1027 ty h) (m : Nat) (tm : ty m = 1) (n : Int) (rn : (-2147483648) ≤ n ∧ n ≤ 2147483647) (iv : Int) (eiv : h.2.2.2.2 m 52 = .int (zi iv)) (riv : 0 ≤ iv ∧ iv ≤ 100) : gz gPP gGG gcn (d + 0) gt183 0 (gent [.ref m, .int (zi n)] 3) [] h (fun q _ => gSs rT 1027 ty [1000, 1052] h q.2.2 ∧ ∃ z iv1 th : Int, gfin gt183 q.1 q.2.1 = some (some (.int (zi z))) ∧ 0 ≤ z ∧ z ≤ 100 ∧ q.2.2.2.2.2.2 m 52 = .int (zi iv1) ∧ 0 ≤ iv1 ∧ iv1 ≤ 100 ∧ q.2.2.2.2.2.2 m 0 = .int (zi th) ∧ 0 ≤ th ∧ th ≤ 2 ∧ ((0 ≤ n ∧ n ≤ 100) → (z = iv ∧ iv1 = n ∧ th = 0)) ∧ (¬ (0 ≤ n ∧ n ≤ 100) → (iv1 = iv ∧ th = 1))) := by
  have hS : gSs rT 1027 ty [1000, 1052] h h := gSs.rf hJ
  refine gz_s 2 (pc' := 2) (L' := [some (.ref m), some (.int (zi n)), none]) (S' := [.int (zi n), .ref m]) rfl ?_
  by_cases hc1 : (n : Int) < 0
  · refine gy_ifT (pc' := 11) rfl (by decide) (by decide) (by omega) hc1 ?_
    refine gz_s 2 (pc' := 16) (L' := [some (.ref m), some (.int (zi n)), none]) (S' := [.int (zi 1), .ref m]) rfl ?_
    refine gs_put rfl (by decide) rfl hS tm rfl rfl rfl rfl (Or.inl rfl) (by decide) (by omega) (by omega) (fun h2 sh2 eh2 fh2 => ?_)
    have s3 := (fh2 m 52 (fun q => absurd q.2 (by decide))).trans eiv
    refine gz_s 1 (pc' := 20) (L' := [some (.ref m), some (.int (zi n)), none]) (S' := [.ref m]) rfl ?_
    refine gs_gtk rfl (by decide) rfl sh2.1 tm rfl rfl eh2 ?_
    refine gy_ifF rfl (by decide) (by decide) (by omega) (by first | (simp [zc]; done) | (simp only [zc]; omega)) ?_
    refine gz_s 1 (pc' := 27) (L' := [some (.ref m), some (.int (zi n)), none]) (S' := [.int (zi 0)]) rfl ?_
    exact gz_end (I := .ireturn) (len := 1) rfl (Or.inl rfl) ⟨sh2, 0, iv, 1, rfl, (by omega), (by omega), s3, (by omega), (by omega), eh2, (by omega), (by omega), (by omega), (by omega)⟩
  · refine gy_ifF rfl (by decide) (by decide) (by omega) hc1 ?_
    refine gz_s 2 (pc' := 8) (L' := [some (.ref m), some (.int (zi n)), none]) (S' := [.int (zi 100), .int (zi n), .ref m]) rfl ?_
    by_cases hc4 : (n : Int) ≤ 100
    · refine gy_icT (pc' := 15) rfl (by decide) (by decide) (by omega) (by omega) hc4 ?_
      refine gz_s 1 (pc' := 16) (L' := [some (.ref m), some (.int (zi n)), none]) (S' := [.int (zi 0), .ref m]) rfl ?_
      refine gs_put rfl (by decide) rfl hS tm rfl rfl rfl rfl (Or.inl rfl) (by decide) (by omega) (by omega) (fun h5 sh5 eh5 fh5 => ?_)
      have s6 := (fh5 m 52 (fun q => absurd q.2 (by decide))).trans eiv
      refine gz_s 1 (pc' := 20) (L' := [some (.ref m), some (.int (zi n)), none]) (S' := [.ref m]) rfl ?_
      refine gs_gtk rfl (by decide) rfl sh5.1 tm rfl rfl eh5 ?_
      refine gy_ifT (pc' := 28) rfl (by decide) (by decide) (by omega) (by first | (simp [zc]; done) | (simp only [zc]; omega)) ?_
      refine gz_s 1 (pc' := 29) (L' := [some (.ref m), some (.int (zi n)), none]) (S' := [.ref m]) rfl ?_
      refine gs_gtk rfl (by decide) rfl sh5.1 tm rfl rfl s6 ?_
      refine gz_s 3 (pc' := 35) (L' := [some (.ref m), some (.int (zi n)), some (.int (zi iv))]) (S' := [.int (zi n), .ref m]) rfl ?_
      refine gs_put rfl (by decide) rfl sh5 tm rfl rfl rfl rfl (Or.inl rfl) (by decide) (by omega) (by omega) (fun h7 sh7 eh7 fh7 => ?_)
      have s8 := (fh7 m 0 (fun q => absurd q.2 (by decide))).trans eh5
      refine gz_s 1 (pc' := 39) (L' := [some (.ref m), some (.int (zi n)), some (.int (zi iv))]) (S' := [.int (zi iv)]) rfl ?_
      exact gz_end (I := .ireturn) (len := 1) rfl (Or.inl rfl) ⟨sh7, iv, n, 0, rfl, (by omega), (by omega), eh7, (by omega), (by omega), s8, (by omega), (by omega), (by omega), (by omega)⟩
    · refine gy_icF rfl (by decide) (by decide) (by omega) (by omega) hc4 ?_
      refine gz_s 2 (pc' := 16) (L' := [some (.ref m), some (.int (zi n)), none]) (S' := [.int (zi 1), .ref m]) rfl ?_
      refine gs_put rfl (by decide) rfl hS tm rfl rfl rfl rfl (Or.inl rfl) (by decide) (by omega) (by omega) (fun h9 sh9 eh9 fh9 => ?_)
      have s10 := (fh9 m 52 (fun q => absurd q.2 (by decide))).trans eiv
      refine gz_s 1 (pc' := 20) (L' := [some (.ref m), some (.int (zi n)), none]) (S' := [.ref m]) rfl ?_
      refine gs_gtk rfl (by decide) rfl sh9.1 tm rfl rfl eh9 ?_
      refine gy_ifF rfl (by decide) (by decide) (by omega) (by first | (simp [zc]; done) | (simp only [zc]; omega)) ?_
      refine gz_s 1 (pc' := 27) (L' := [some (.ref m), some (.int (zi n)), none]) (S' := [.int (zi 0)]) rfl ?_
      exact gz_end (I := .ireturn) (len := 1) rfl (Or.inl rfl) ⟨sh9, 0, iv, 1, rfl, (by omega), (by omega), s10, (by omega), (by omega), eh9, (by omega), (by omega), (by omega), (by omega)⟩
set_option maxRecDepth 20000 in
set_option maxHeartbeats 4000000 in
theorem mm_thrown2 (d : Nat) {ty : Nat → Nat} {h : gH} (hJ : gJ rT 1027 ty h) (m : Nat) (tm : ty m = 1) (th : Int) (eth : h.2.2.2.2 m 0 = .int (zi th)) (rth : 0 ≤ th ∧ th ≤ 2) : gz gPP gGG gcn (d + 0) gt131 0 (gent [.ref m] 1) [] h (fun q _ => gSs rT 1027 ty [] h q.2.2 ∧ ∃ z : Int, gfin gt131 q.1 q.2.1 = some (some (.int (zi z))) ∧ 0 ≤ z ∧ z ≤ 2 ∧ (z = th)) := by
  have hS : gSs rT 1027 ty [] h h := gSs.rf hJ
  refine gz_s 1 (pc' := 1) (L' := [some (.ref m)]) (S' := [.ref m]) rfl ?_
  refine gs_gtk rfl (by decide) rfl hS.1 tm rfl rfl eth ?_
  exact gz_end (I := .ireturn) (len := 1) rfl (Or.inl rfl) ⟨hS, th, rfl, (by omega), (by omega), (by omega)⟩
