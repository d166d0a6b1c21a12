/-! ===== the reference, further (by program) ===== -/
set_option maxRecDepth 20000 in
set_option maxHeartbeats 4000000 in
theorem mm_restart2 (d : Nat) {ty : Nat → Nat} {h : gH} (hJ : gJ rT 1027 ty h) (m : Nat) (tm : ty m = 1) (n : Int) (rn : (-2147483648) ≤ n ∧ n ≤ 2147483647) (iv : Int) (eiv : h.2.2.2.2 m 52 = .int (zi iv)) (riv : 0 ≤ iv ∧ iv ≤ 100) : gz gPP gGG gcn (d + 0) gt183 0 (gent [.ref m, .int (zi n)] 3) [] h (fun q _ => gSs rT 1027 ty [1000, 1052] h q.2.2 ∧ ∃ z iv1 th : Int, gfin gt183 q.1 q.2.1 = some (some (.int (zi z))) ∧ 0 ≤ z ∧ z ≤ 100 ∧ q.2.2.2.2.2.2 m 52 = .int (zi iv1) ∧ 0 ≤ iv1 ∧ iv1 ≤ 100 ∧ q.2.2.2.2.2.2 m 0 = .int (zi th) ∧ 0 ≤ th ∧ th ≤ 2 ∧ ((0 ≤ n ∧ n ≤ 100) → (z = iv ∧ iv1 = n ∧ th = 0)) ∧ (¬ (0 ≤ n ∧ n ≤ 100) → (iv1 = iv ∧ th = 1))) := by
  have hS : gSs rT 1027 ty [1000, 1052] h h := gSs.rf hJ
  refine gz_s 2 (pc' := 2) (L' := [some (.ref m), some (.int (zi n)), none]) (S' := [.int (zi n), .ref m]) rfl ?_
  by_cases hc1 : (n : Int) < 0
  · refine gy_ifT (pc' := 11) rfl (by decide) (by decide) (by omega) hc1 ?_
    refine gz_s 2 (pc' := 16) (L' := [some (.ref m), some (.int (zi n)), none]) (S' := [.int (zi 1), .ref m]) rfl ?_
    refine gs_put rfl (by decide) rfl hS tm rfl rfl rfl rfl (Or.inl rfl) (by decide) (by omega) (by omega) (fun h2 sh2 eh2 fh2 => ?_)
    have s3 := (fh2 m 52 (fun q => absurd q.2 (by decide))).trans eiv
    refine gz_s 1 (pc' := 20) (L' := [some (.ref m), some (.int (zi n)), none]) (S' := [.ref m]) rfl ?_
    refine gs_gtk rfl (by decide) rfl sh2.1 tm rfl rfl eh2 ?_
    refine gy_ifF rfl (by decide) (by decide) (by omega) (by first | (simp [zc]; done) | (simp only [zc]; omega)) ?_
    refine gz_s 1 (pc' := 27) (L' := [some (.ref m), some (.int (zi n)), none]) (S' := [.int (zi 0)]) rfl ?_
    exact gz_end (I := .ireturn) (len := 1) rfl (Or.inl rfl) ⟨sh2, 0, iv, 1, rfl, (by omega), (by omega), s3, (by omega), (by omega), eh2, (by omega), (by omega), (by omega), (by omega)⟩
  · refine gy_ifF rfl (by decide) (by decide) (by omega) hc1 ?_
    refine gz_s 2 (pc' := 8) (L' := [some (.ref m), some (.int (zi n)), none]) (S' := [.int (zi 100), .int (zi n), .ref m]) rfl ?_
    by_cases hc4 : (n : Int) ≤ 100
    · refine gy_icT (pc' := 15) rfl (by decide) (by decide) (by omega) (by omega) hc4 ?_
      refine gz_s 1 (pc' := 16) (L' := [some (.ref m), some (.int (zi n)), none]) (S' := [.int (zi 0), .ref m]) rfl ?_
      refine gs_put rfl (by decide) rfl hS tm rfl rfl rfl rfl (Or.inl rfl) (by decide) (by omega) (by omega) (fun h5 sh5 eh5 fh5 => ?_)
      have s6 := (fh5 m 52 (fun q => absurd q.2 (by decide))).trans eiv
      refine gz_s 1 (pc' := 20) (L' := [some (.ref m), some (.int (zi n)), none]) (S' := [.ref m]) rfl ?_
      refine gs_gtk rfl (by decide) rfl sh5.1 tm rfl rfl eh5 ?_
      refine gy_ifT (pc' := 28) rfl (by decide) (by decide) (by omega) (by first | (simp [zc]; done) | (simp only [zc]; omega)) ?_
      refine gz_s 1 (pc' := 29) (L' := [some (.ref m), some (.int (zi n)), none]) (S' := [.ref m]) rfl ?_
      refine gs_gtk rfl (by decide) rfl sh5.1 tm rfl rfl s6 ?_
      refine gz_s 3 (pc' := 35) (L' := [some (.ref m), some (.int (zi n)), some (.int (zi iv))]) (S' := [.int (zi n), .ref m]) rfl ?_
      refine gs_put rfl (by decide) rfl sh5 tm rfl rfl rfl rfl (Or.inl rfl) (by decide) (by omega) (by omega) (fun h7 sh7 eh7 fh7 => ?_)
      have s8 := (fh7 m 0 (fun q => absurd q.2 (by decide))).trans eh5
      refine gz_s 1 (pc' := 39) (L' := [some (.ref m), some (.int (zi n)), some (.int (zi iv))]) (S' := [.int (zi iv)]) rfl ?_
      exact gz_end (I := .ireturn) (len := 1) rfl (Or.inl rfl) ⟨sh7, iv, n, 0, rfl, (by omega), (by omega), eh7, (by omega), (by omega), s8, (by omega), (by omega), (by omega), (by omega)⟩
    · refine gy_icF rfl (by decide) (by decide) (by omega) (by omega) hc4 ?_
      refine gz_s 2 (pc' := 16) (L' := [some (.ref m), some (.int (zi n)), none]) (S' := [.int (zi 1), .ref m]) rfl ?_
      refine gs_put rfl (by decide) rfl hS tm rfl rfl rfl rfl (Or.inl rfl) (by decide) (by omega) (by omega) (fun h9 sh9 eh9 fh9 => ?_)
      have s10 := (fh9 m 52 (fun q => absurd q.2 (by decide))).trans eiv
      refine gz_s 1 (pc' := 20) (L' := [some (.ref m), some (.int (zi n)), none]) (S' := [.ref m]) rfl ?_
      refine gs_gtk rfl (by decide) rfl sh9.1 tm rfl rfl eh9 ?_
      refine gy_ifF rfl (by decide) (by decide) (by omega) (by first | (simp [zc]; done) | (simp only [zc]; omega)) ?_
      refine gz_s 1 (pc' := 27) (L' := [some (.ref m), some (.int (zi n)), none]) (S' := [.int (zi 0)]) rfl ?_
      exact gz_end (I := .ireturn) (len := 1) rfl (Or.inl rfl) ⟨sh9, 0, iv, 1, rfl, (by omega), (by omega), s10, (by omega), (by omega), eh9, (by omega), (by omega), (by omega), (by omega)⟩
set_option maxRecDepth 20000 in
set_option maxHeartbeats 4000000 in
theorem mm_thrown2 (d : Nat) {ty : Nat → Nat} {h : gH} (hJ : gJ rT 1027 ty h) (m : Nat) (tm : ty m = 1) (th : Int) (eth : h.2.2.2.2 m 0 = .int (zi th)) (rth : 0 ≤ th ∧ th ≤ 2) : gz gPP gGG gcn (d + 0) gt131 0 (gent [.ref m] 1) [] h (fun q _ => gSs rT 1027 ty [] h q.2.2 ∧ ∃ z : Int, gfin gt131 q.1 q.2.1 = some (some (.int (zi z))) ∧ 0 ≤ z ∧ z ≤ 2 ∧ (z = th)) := by
  have hS : gSs rT 1027 ty [] h h := gSs.rf hJ
  refine gz_s 1 (pc' := 1) (L' := [some (.ref m)]) (S' := [.ref m]) rfl ?_
  refine gs_gtk rfl (by decide) rfl hS.1 tm rfl rfl eth ?_
  exact gz_end (I := .ireturn) (len := 1) rfl (Or.inl rfl) ⟨hS, th, rfl, (by omega), (by omega), (by omega)⟩
set_option maxRecDepth 20000 in
set_option maxHeartbeats 4000000 in
theorem mm_point3 (d : Nat) {ty : Nat → Nat} {h : gH} (hJ : gJ rT 1027 ty h) (m : Nat) (tm : ty m = 1) (a : Int) (ra : (-2147483648) ≤ a ∧ a ≤ 2147483647) (b : Int) (rb : (-2147483648) ≤ b ∧ b ≤ 2147483647) (v : Int) (rv : (-2147483648) ≤ v ∧ v ≤ 2147483647) (cw : Int) (ecw : h.2.2.2.2 m 50 = .int (zi cw)) (rcw : 0 ≤ cw ∧ cw ≤ 32) (ch : Int) (ech : h.2.2.2.2 m 51 = .int (zi ch)) (rch : 0 ≤ ch ∧ ch ≤ 32) (f : Nat → Int) (pp0 : cw = 0 ↔ ch = 0) (uq : gUq ty) (hyf26 : gRoB ty 26 f h) : gz gPP gGG gcn (d + 0) gt181 0 (gent [.ref m, .int (zi a), .int (zi b), .int (zi v)] 5) [] h (fun q _ => gSs rT 1027 ty [1000, 1050, 1051, 26999] h q.2.2 ∧ ∃ z cw1 ch1 th : Int, gfin gt181 q.1 q.2.1 = some (some (.int (zi z))) ∧ 0 ≤ z ∧ z ≤ 255 ∧ q.2.2.2.2.2.2 m 50 = .int (zi cw1) ∧ 0 ≤ cw1 ∧ cw1 ≤ 32 ∧ q.2.2.2.2.2.2 m 51 = .int (zi ch1) ∧ 0 ≤ ch1 ∧ ch1 ≤ 32 ∧ q.2.2.2.2.2.2 m 0 = .int (zi th) ∧ 0 ≤ th ∧ th ≤ 2 ∧ (cw1 = 0 ↔ ch1 = 0) ∧ ((0 ≤ a ∧ a ≤ 31 ∧ 0 ≤ b ∧ b ≤ 31 ∧ 0 ≤ v ∧ v ≤ 255) → (z = f (b * 32 + a).toNat ∧ th = 0)) ∧ (¬ (0 ≤ a ∧ a ≤ 31 ∧ 0 ≤ b ∧ b ≤ 31) → th = 1) ∧ ((0 ≤ a ∧ a ≤ 31 ∧ 0 ≤ b ∧ b ≤ 31 ∧ ¬ (0 ≤ v ∧ v ≤ 255)) → th = 2) ∧ (gRoB ty 26 (gVb f a b v) q.2.2)) := by
  have hS : gSs rT 1027 ty [1000, 1050, 1051, 26999] h h := gSs.rf hJ
  refine gz_s 2 (pc' := 2) (L' := [some (.ref m), some (.int (zi a)), some (.int (zi b)), some (.int (zi v)), none]) (S' := [.int (zi a), .ref m]) rfl ?_
  by_cases hc1 : (a : Int) < 0
  · refine gy_ifT (pc' := 21) rfl (by decide) (by decide) (by omega) hc1 ?_
    refine gz_s 2 (pc' := 41) (L' := [some (.ref m), some (.int (zi a)), some (.int (zi b)), some (.int (zi v)), none]) (S' := [.int (zi 1), .ref m]) rfl ?_
    refine gs_put rfl (by decide) rfl hS tm rfl rfl rfl rfl (Or.inl rfl) (by decide) (by omega) (by omega) (fun h2 sh2 eh2 fh2 => ?_)
    have pr3 := gRoB.pt fh2 tm (by decide) hyf26
    have s4 := (fh2 m 50 (fun q => absurd q.2 (by decide))).trans ecw
    have s5 := (fh2 m 51 (fun q => absurd q.2 (by decide))).trans ech
    refine gz_s 1 (pc' := 45) (L' := [some (.ref m), some (.int (zi a)), some (.int (zi b)), some (.int (zi v)), none]) (S' := [.ref m]) rfl ?_
    refine gs_gtk rfl (by decide) rfl sh2.1 tm rfl rfl eh2 ?_
    refine gy_ifF rfl (by decide) (by decide) (by omega) (by first | (simp [zc]; done) | (simp only [zc]; omega)) ?_
    refine gz_s 1 (pc' := 52) (L' := [some (.ref m), some (.int (zi a)), some (.int (zi b)), some (.int (zi v)), none]) (S' := [.int (zi 0)]) rfl ?_
    have hrw6 : gRoB ty 26 (gVb f a b v) h2 := gVb.n (by omega) pr3
    exact gz_end (I := .ireturn) (len := 1) rfl (Or.inl rfl) ⟨sh2, 0, cw, ch, 1, rfl, (by omega), (by omega), s4, (by omega), (by omega), s5, (by omega), (by omega), eh2, (by omega), (by omega), (by omega), (by omega), (by omega), (by omega), hrw6⟩
  · refine gy_ifF rfl (by decide) (by decide) (by omega) hc1 ?_
    refine gz_s 2 (pc' := 8) (L' := [some (.ref m), some (.int (zi a)), some (.int (zi b)), some (.int (zi v)), none]) (S' := [.int (zi 31), .int (zi a), .ref m]) rfl ?_
    by_cases hc7 : (31 : Int) < a
    · refine gy_icT (pc' := 21) rfl (by decide) (by decide) (by omega) (by omega) hc7 ?_
      refine gz_s 2 (pc' := 41) (L' := [some (.ref m), some (.int (zi a)), some (.int (zi b)), some (.int (zi v)), none]) (S' := [.int (zi 1), .ref m]) rfl ?_
      refine gs_put rfl (by decide) rfl hS tm rfl rfl rfl rfl (Or.inl rfl) (by decide) (by omega) (by omega) (fun h8 sh8 eh8 fh8 => ?_)
      have pr9 := gRoB.pt fh8 tm (by decide) hyf26
      have s10 := (fh8 m 50 (fun q => absurd q.2 (by decide))).trans ecw
      have s11 := (fh8 m 51 (fun q => absurd q.2 (by decide))).trans ech
      refine gz_s 1 (pc' := 45) (L' := [some (.ref m), some (.int (zi a)), some (.int (zi b)), some (.int (zi v)), none]) (S' := [.ref m]) rfl ?_
      refine gs_gtk rfl (by decide) rfl sh8.1 tm rfl rfl eh8 ?_
      refine gy_ifF rfl (by decide) (by decide) (by omega) (by first | (simp [zc]; done) | (simp only [zc]; omega)) ?_
      refine gz_s 1 (pc' := 52) (L' := [some (.ref m), some (.int (zi a)), some (.int (zi b)), some (.int (zi v)), none]) (S' := [.int (zi 0)]) rfl ?_
      have hrw12 : gRoB ty 26 (gVb f a b v) h8 := gVb.n (by omega) pr9
      exact gz_end (I := .ireturn) (len := 1) rfl (Or.inl rfl) ⟨sh8, 0, cw, ch, 1, rfl, (by omega), (by omega), s10, (by omega), (by omega), s11, (by omega), (by omega), eh8, (by omega), (by omega), (by omega), (by omega), (by omega), (by omega), hrw12⟩
    · refine gy_icF rfl (by decide) (by decide) (by omega) (by omega) hc7 ?_
      refine gz_s 1 (pc' := 12) (L' := [some (.ref m), some (.int (zi a)), some (.int (zi b)), some (.int (zi v)), none]) (S' := [.int (zi b), .ref m]) rfl ?_
      by_cases hc13 : (b : Int) < 0
      · refine gy_ifT (pc' := 21) rfl (by decide) (by decide) (by omega) hc13 ?_
        refine gz_s 2 (pc' := 41) (L' := [some (.ref m), some (.int (zi a)), some (.int (zi b)), some (.int (zi v)), none]) (S' := [.int (zi 1), .ref m]) rfl ?_
        refine gs_put rfl (by decide) rfl hS tm rfl rfl rfl rfl (Or.inl rfl) (by decide) (by omega) (by omega) (fun h14 sh14 eh14 fh14 => ?_)
        have pr15 := gRoB.pt fh14 tm (by decide) hyf26
        have s16 := (fh14 m 50 (fun q => absurd q.2 (by decide))).trans ecw
        have s17 := (fh14 m 51 (fun q => absurd q.2 (by decide))).trans ech
        refine gz_s 1 (pc' := 45) (L' := [some (.ref m), some (.int (zi a)), some (.int (zi b)), some (.int (zi v)), none]) (S' := [.ref m]) rfl ?_
        refine gs_gtk rfl (by decide) rfl sh14.1 tm rfl rfl eh14 ?_
        refine gy_ifF rfl (by decide) (by decide) (by omega) (by first | (simp [zc]; done) | (simp only [zc]; omega)) ?_
        refine gz_s 1 (pc' := 52) (L' := [some (.ref m), some (.int (zi a)), some (.int (zi b)), some (.int (zi v)), none]) (S' := [.int (zi 0)]) rfl ?_
        have hrw18 : gRoB ty 26 (gVb f a b v) h14 := gVb.n (by omega) pr15
        exact gz_end (I := .ireturn) (len := 1) rfl (Or.inl rfl) ⟨sh14, 0, cw, ch, 1, rfl, (by omega), (by omega), s16, (by omega), (by omega), s17, (by omega), (by omega), eh14, (by omega), (by omega), (by omega), (by omega), (by omega), (by omega), hrw18⟩
      · refine gy_ifF rfl (by decide) (by decide) (by omega) hc13 ?_
        refine gz_s 2 (pc' := 18) (L' := [some (.ref m), some (.int (zi a)), some (.int (zi b)), some (.int (zi v)), none]) (S' := [.int (zi 31), .int (zi b), .ref m]) rfl ?_
        by_cases hc19 : (b : Int) ≤ 31
        · refine gy_icT (pc' := 25) rfl (by decide) (by decide) (by omega) (by omega) hc19 ?_
          refine gz_s 1 (pc' := 26) (L' := [some (.ref m), some (.int (zi a)), some (.int (zi b)), some (.int (zi v)), none]) (S' := [.int (zi v), .ref m]) rfl ?_
          by_cases hc20 : (v : Int) < 0
          · refine gy_ifT (pc' := 36) rfl (by decide) (by decide) (by omega) hc20 ?_
            refine gz_s 2 (pc' := 41) (L' := [some (.ref m), some (.int (zi a)), some (.int (zi b)), some (.int (zi v)), none]) (S' := [.int (zi 2), .ref m]) rfl ?_
            refine gs_put rfl (by decide) rfl hS tm rfl rfl rfl rfl (Or.inl rfl) (by decide) (by omega) (by omega) (fun h21 sh21 eh21 fh21 => ?_)
            have pr22 := gRoB.pt fh21 tm (by decide) hyf26
            have s23 := (fh21 m 50 (fun q => absurd q.2 (by decide))).trans ecw
            have s24 := (fh21 m 51 (fun q => absurd q.2 (by decide))).trans ech
            refine gz_s 1 (pc' := 45) (L' := [some (.ref m), some (.int (zi a)), some (.int (zi b)), some (.int (zi v)), none]) (S' := [.ref m]) rfl ?_
            refine gs_gtk rfl (by decide) rfl sh21.1 tm rfl rfl eh21 ?_
            refine gy_ifF rfl (by decide) (by decide) (by omega) (by first | (simp [zc]; done) | (simp only [zc]; omega)) ?_
            refine gz_s 1 (pc' := 52) (L' := [some (.ref m), some (.int (zi a)), some (.int (zi b)), some (.int (zi v)), none]) (S' := [.int (zi 0)]) rfl ?_
            have hrw25 : gRoB ty 26 (gVb f a b v) h21 := gVb.n (by omega) pr22
            exact gz_end (I := .ireturn) (len := 1) rfl (Or.inl rfl) ⟨sh21, 0, cw, ch, 2, rfl, (by omega), (by omega), s23, (by omega), (by omega), s24, (by omega), (by omega), eh21, (by omega), (by omega), (by omega), (by omega), (by omega), (by omega), hrw25⟩
          · refine gy_ifF rfl (by decide) (by decide) (by omega) hc20 ?_
            refine gz_s 2 (pc' := 33) (L' := [some (.ref m), some (.int (zi a)), some (.int (zi b)), some (.int (zi v)), none]) (S' := [.int (zi 255), .int (zi v), .ref m]) rfl ?_
            by_cases hc26 : (v : Int) ≤ 255
            · refine gy_icT (pc' := 40) rfl (by decide) (by decide) (by omega) (by omega) hc26 ?_
              refine gz_s 1 (pc' := 41) (L' := [some (.ref m), some (.int (zi a)), some (.int (zi b)), some (.int (zi v)), none]) (S' := [.int (zi 0), .ref m]) rfl ?_
              refine gs_put rfl (by decide) rfl hS tm rfl rfl rfl rfl (Or.inl rfl) (by decide) (by omega) (by omega) (fun h27 sh27 eh27 fh27 => ?_)
              have pr28 := gRoB.pt fh27 tm (by decide) hyf26
              have s29 := (fh27 m 50 (fun q => absurd q.2 (by decide))).trans ecw
              have s30 := (fh27 m 51 (fun q => absurd q.2 (by decide))).trans ech
              refine gz_s 1 (pc' := 45) (L' := [some (.ref m), some (.int (zi a)), some (.int (zi b)), some (.int (zi v)), none]) (S' := [.ref m]) rfl ?_
              refine gs_gtk rfl (by decide) rfl sh27.1 tm rfl rfl eh27 ?_
              refine gy_ifT (pc' := 53) rfl (by decide) (by decide) (by omega) (by first | (simp [zc]; done) | (simp only [zc]; omega)) ?_
              refine gz_s 1 (pc' := 54) (L' := [some (.ref m), some (.int (zi a)), some (.int (zi b)), some (.int (zi v)), none]) (S' := [.ref m]) rfl ?_
              refine gs_gtr rfl (by decide) rfl sh27.1 tm rfl rfl rfl (fun c31 ec31 tc31 => ?_)
              refine gy_s 5 (pc' := 63) (L' := [some (.ref m), some (.int (zi a)), some (.int (zi b)), some (.int (zi v)), none]) (S' := [.int (((zi 32) * (zi b)) + (zi a)), .ref c31]) (L2 := [some (.ref m), some (.int (zi a)), some (.int (zi b)), some (.int (zi v)), none]) (S2 := [.int (zi ((32 * b) + a)), .ref c31]) rfl (by simp only [zi_add, zi_sub, zi_mul, zi_neg, zi_and1, zi_and7, zi_and15, zi_and31, zi_and255]) (by simp only [zi_add, zi_sub, zi_mul, zi_neg, zi_and1, zi_and7, zi_and15, zi_and31, zi_and255]) ?_
              have hl32 : 1024 ≤ h27.2.2.2.1 c31 ∧ h27.2.2.2.1 c31 ≤ 1024 := gJ.rowl (G := gGG) sh27.1 tc31 rfl
              refine gs_ald rfl (by decide) sh27.1 tc31 rfl rfl rfl (by decide) (fun _ => rfl) (by omega) (by omega) (fun z33 ez33 az33 bz33 => ?_)
              have hf34 := gRoB.at (i := (32 * b) + a) (z := z33) pr28 tc31 ez33 (by omega) (by omega) (by omega)
              have hfx : z33 = f (b * 32 + a).toNat := ((congrArg f (by omega)).trans hf34).symm
              refine gz_s 2 (pc' := 67) (L' := [some (.ref m), some (.int (zi a)), some (.int (zi b)), some (.int (zi v)), some (.int (zi z33))]) (S' := [.ref m]) rfl ?_
              refine gs_gtk rfl (by decide) rfl sh27.1 tm rfl rfl ec31 ?_
              refine gy_s 6 (pc' := 77) (L' := [some (.ref m), some (.int (zi a)), some (.int (zi b)), some (.int (zi v)), some (.int (zi z33))]) (S' := [.int (zi v), .int (((zi 32) * (zi b)) + (zi a)), .ref c31]) (L2 := [some (.ref m), some (.int (zi a)), some (.int (zi b)), some (.int (zi v)), some (.int (zi z33))]) (S2 := [.int (zi v), .int (zi ((32 * b) + a)), .ref c31]) rfl (by simp only [zi_add, zi_sub, zi_mul, zi_neg, zi_and1, zi_and7, zi_and15, zi_and31, zi_and255]) (by simp only [zi_add, zi_sub, zi_mul, zi_neg, zi_and1, zi_and7, zi_and15, zi_and31, zi_and255]) ?_
              have hl35 : 1024 ≤ h27.2.2.2.1 c31 ∧ h27.2.2.2.1 c31 ≤ 1024 := gJ.rowl (G := gGG) sh27.1 tc31 rfl
              refine gs_ast rfl (by decide) sh27 tc31 rfl rfl rfl (by decide) (fun _ => rfl) (by omega) (by omega) (fun _ => (by decide : (26999 : Nat) ∈ ([1000, 1050, 1051, 26999] : List Nat))) (by omega) (by omega) (fun h36 sh36 eh36 fh36 => ?_)
              have pr37 := gRoB.put (i := (32 * b) + a) (z := v) uq tc31 (by decide) fh36 eh36 (by omega) (by omega) pr28
              have s38 := (fh36 m 50 (fun q => absurd (((tm).symm.trans (congrArg ty q.1)).trans tc31) (by decide))).trans s29
              have s39 := (fh36 m 51 (fun q => absurd (((tm).symm.trans (congrArg ty q.1)).trans tc31) (by decide))).trans s30
              have s40 := (fh36 m 0 (fun q => absurd (((tm).symm.trans (congrArg ty q.1)).trans tc31) (by decide))).trans eh27
              have s41 := (fh36 m 49 (fun q => absurd (((tm).symm.trans (congrArg ty q.1)).trans tc31) (by decide))).trans ec31
              have pr42 := gEl.set (i := (32 * b) + a) (z := v) uq tc31 (by decide) eh36 (by omega) (by omega)
              refine gz_s 3 (pc' := 81) (L' := [some (.ref m), some (.int (zi a)), some (.int (zi b)), some (.int (zi v)), some (.int (zi z33))]) (S' := [.ref m, .int (zi a), .ref m]) rfl ?_
              refine gs_gtk rfl (by decide) rfl sh36.1 tm rfl rfl s38 ?_
              by_cases hc43 : (a : Int) < cw
              · refine gy_icT (pc' := 93) rfl (by decide) (by decide) (by omega) (by omega) hc43 ?_
                refine gz_s 1 (pc' := 94) (L' := [some (.ref m), some (.int (zi a)), some (.int (zi b)), some (.int (zi v)), some (.int (zi z33))]) (S' := [.ref m, .ref m]) rfl ?_
                refine gs_gtk rfl (by decide) rfl sh36.1 tm rfl rfl s38 ?_
                refine gs_put rfl (by decide) rfl sh36 tm rfl rfl rfl rfl (Or.inl rfl) (by decide) (by omega) (by omega) (fun h44 sh44 eh44 fh44 => ?_)
                have pr45 := gRoB.pt fh44 tm (by decide) pr37
                have pr46 := gEl.pt fh44 tm (by decide) pr42
                have s47 := (fh44 m 51 (fun q => absurd q.2 (by decide))).trans s39
                have s48 := (fh44 m 0 (fun q => absurd q.2 (by decide))).trans s40
                have s49 := (fh44 m 49 (fun q => absurd q.2 (by decide))).trans s41
                refine gz_s 3 (pc' := 103) (L' := [some (.ref m), some (.int (zi a)), some (.int (zi b)), some (.int (zi v)), some (.int (zi z33))]) (S' := [.ref m, .int (zi b), .ref m]) rfl ?_
                refine gs_gtk rfl (by decide) rfl sh44.1 tm rfl rfl s47 ?_
                by_cases hc50 : (b : Int) < ch
                · refine gy_icT (pc' := 115) rfl (by decide) (by decide) (by omega) (by omega) hc50 ?_
                  refine gz_s 1 (pc' := 116) (L' := [some (.ref m), some (.int (zi a)), some (.int (zi b)), some (.int (zi v)), some (.int (zi z33))]) (S' := [.ref m, .ref m]) rfl ?_
                  refine gs_gtk rfl (by decide) rfl sh44.1 tm rfl rfl s47 ?_
                  refine gs_put rfl (by decide) rfl sh44 tm rfl rfl rfl rfl (Or.inl rfl) (by decide) (by omega) (by omega) (fun h51 sh51 eh51 fh51 => ?_)
                  have pr52 := gRoB.pt fh51 tm (by decide) pr45
                  have pr53 := gEl.pt fh51 tm (by decide) pr46
                  have s54 := (fh51 m 0 (fun q => absurd q.2 (by decide))).trans s48
                  have s55 := (fh51 m 49 (fun q => absurd q.2 (by decide))).trans s49
                  have s56 := (fh51 m 50 (fun q => absurd q.2 (by decide))).trans eh44
                  refine gz_s 1 (pc' := 124) (L' := [some (.ref m), some (.int (zi a)), some (.int (zi b)), some (.int (zi v)), some (.int (zi z33))]) (S' := [.int (zi z33)]) rfl ?_
                  have hrw57 : gRoB ty 26 (gVb f a b v) h51 := gVb.y ⟨⟨by omega, by omega, by omega, by omega⟩, by omega, by omega⟩ (by omega) pr52
                  exact gz_end (I := .ireturn) (len := 1) rfl (Or.inl rfl) ⟨sh51, z33, cw, ch, 0, rfl, (by omega), (by omega), s56, (by omega), (by omega), eh51, (by omega), (by omega), s54, (by omega), (by omega), (by omega), (by omega), (by omega), (by omega), hrw57⟩
                · refine gy_icF rfl (by decide) (by decide) (by omega) (by omega) hc50 ?_
                  refine gy_s 4 (pc' := 119) (L' := [some (.ref m), some (.int (zi a)), some (.int (zi b)), some (.int (zi v)), some (.int (zi z33))]) (S' := [.int ((zi b) + (zi 1)), .ref m]) (L2 := [some (.ref m), some (.int (zi a)), some (.int (zi b)), some (.int (zi v)), some (.int (zi z33))]) (S2 := [.int (zi (b + 1)), .ref m]) rfl (by simp only [zi_add, zi_sub, zi_mul, zi_neg, zi_and1, zi_and7, zi_and15, zi_and31, zi_and255]) (by simp only [zi_add, zi_sub, zi_mul, zi_neg, zi_and1, zi_and7, zi_and15, zi_and31, zi_and255]) ?_
                  refine gs_put rfl (by decide) rfl sh44 tm rfl rfl rfl rfl (Or.inl rfl) (by decide) (by omega) (by omega) (fun h58 sh58 eh58 fh58 => ?_)
                  have pr59 := gRoB.pt fh58 tm (by decide) pr45
                  have pr60 := gEl.pt fh58 tm (by decide) pr46
                  have s61 := (fh58 m 0 (fun q => absurd q.2 (by decide))).trans s48
                  have s62 := (fh58 m 49 (fun q => absurd q.2 (by decide))).trans s49
                  have s63 := (fh58 m 50 (fun q => absurd q.2 (by decide))).trans eh44
                  refine gz_s 1 (pc' := 124) (L' := [some (.ref m), some (.int (zi a)), some (.int (zi b)), some (.int (zi v)), some (.int (zi z33))]) (S' := [.int (zi z33)]) rfl ?_
                  have hrw64 : gRoB ty 26 (gVb f a b v) h58 := gVb.y ⟨⟨by omega, by omega, by omega, by omega⟩, by omega, by omega⟩ (by omega) pr59
                  exact gz_end (I := .ireturn) (len := 1) rfl (Or.inl rfl) ⟨sh58, z33, cw, b + 1, 0, rfl, (by omega), (by omega), s63, (by omega), (by omega), eh58, (by omega), (by omega), s61, (by omega), (by omega), (by omega), (by omega), (by omega), (by omega), hrw64⟩
              · refine gy_icF rfl (by decide) (by decide) (by omega) (by omega) hc43 ?_
                refine gy_s 4 (pc' := 97) (L' := [some (.ref m), some (.int (zi a)), some (.int (zi b)), some (.int (zi v)), some (.int (zi z33))]) (S' := [.int ((zi a) + (zi 1)), .ref m]) (L2 := [some (.ref m), some (.int (zi a)), some (.int (zi b)), some (.int (zi v)), some (.int (zi z33))]) (S2 := [.int (zi (a + 1)), .ref m]) rfl (by simp only [zi_add, zi_sub, zi_mul, zi_neg, zi_and1, zi_and7, zi_and15, zi_and31, zi_and255]) (by simp only [zi_add, zi_sub, zi_mul, zi_neg, zi_and1, zi_and7, zi_and15, zi_and31, zi_and255]) ?_
                refine gs_put rfl (by decide) rfl sh36 tm rfl rfl rfl rfl (Or.inl rfl) (by decide) (by omega) (by omega) (fun h65 sh65 eh65 fh65 => ?_)
                have pr66 := gRoB.pt fh65 tm (by decide) pr37
                have pr67 := gEl.pt fh65 tm (by decide) pr42
                have s68 := (fh65 m 51 (fun q => absurd q.2 (by decide))).trans s39
                have s69 := (fh65 m 0 (fun q => absurd q.2 (by decide))).trans s40
                have s70 := (fh65 m 49 (fun q => absurd q.2 (by decide))).trans s41
                refine gz_s 3 (pc' := 103) (L' := [some (.ref m), some (.int (zi a)), some (.int (zi b)), some (.int (zi v)), some (.int (zi z33))]) (S' := [.ref m, .int (zi b), .ref m]) rfl ?_
                refine gs_gtk rfl (by decide) rfl sh65.1 tm rfl rfl s68 ?_
                by_cases hc71 : (b : Int) < ch
                · refine gy_icT (pc' := 115) rfl (by decide) (by decide) (by omega) (by omega) hc71 ?_
                  refine gz_s 1 (pc' := 116) (L' := [some (.ref m), some (.int (zi a)), some (.int (zi b)), some (.int (zi v)), some (.int (zi z33))]) (S' := [.ref m, .ref m]) rfl ?_
                  refine gs_gtk rfl (by decide) rfl sh65.1 tm rfl rfl s68 ?_
                  refine gs_put rfl (by decide) rfl sh65 tm rfl rfl rfl rfl (Or.inl rfl) (by decide) (by omega) (by omega) (fun h72 sh72 eh72 fh72 => ?_)
                  have pr73 := gRoB.pt fh72 tm (by decide) pr66
                  have pr74 := gEl.pt fh72 tm (by decide) pr67
                  have s75 := (fh72 m 0 (fun q => absurd q.2 (by decide))).trans s69
                  have s76 := (fh72 m 49 (fun q => absurd q.2 (by decide))).trans s70
                  have s77 := (fh72 m 50 (fun q => absurd q.2 (by decide))).trans eh65
                  refine gz_s 1 (pc' := 124) (L' := [some (.ref m), some (.int (zi a)), some (.int (zi b)), some (.int (zi v)), some (.int (zi z33))]) (S' := [.int (zi z33)]) rfl ?_
                  have hrw78 : gRoB ty 26 (gVb f a b v) h72 := gVb.y ⟨⟨by omega, by omega, by omega, by omega⟩, by omega, by omega⟩ (by omega) pr73
                  exact gz_end (I := .ireturn) (len := 1) rfl (Or.inl rfl) ⟨sh72, z33, a + 1, ch, 0, rfl, (by omega), (by omega), s77, (by omega), (by omega), eh72, (by omega), (by omega), s75, (by omega), (by omega), (by omega), (by omega), (by omega), (by omega), hrw78⟩
                · refine gy_icF rfl (by decide) (by decide) (by omega) (by omega) hc71 ?_
                  refine gy_s 4 (pc' := 119) (L' := [some (.ref m), some (.int (zi a)), some (.int (zi b)), some (.int (zi v)), some (.int (zi z33))]) (S' := [.int ((zi b) + (zi 1)), .ref m]) (L2 := [some (.ref m), some (.int (zi a)), some (.int (zi b)), some (.int (zi v)), some (.int (zi z33))]) (S2 := [.int (zi (b + 1)), .ref m]) rfl (by simp only [zi_add, zi_sub, zi_mul, zi_neg, zi_and1, zi_and7, zi_and15, zi_and31, zi_and255]) (by simp only [zi_add, zi_sub, zi_mul, zi_neg, zi_and1, zi_and7, zi_and15, zi_and31, zi_and255]) ?_
                  refine gs_put rfl (by decide) rfl sh65 tm rfl rfl rfl rfl (Or.inl rfl) (by decide) (by omega) (by omega) (fun h79 sh79 eh79 fh79 => ?_)
                  have pr80 := gRoB.pt fh79 tm (by decide) pr66
                  have pr81 := gEl.pt fh79 tm (by decide) pr67
                  have s82 := (fh79 m 0 (fun q => absurd q.2 (by decide))).trans s69
                  have s83 := (fh79 m 49 (fun q => absurd q.2 (by decide))).trans s70
                  have s84 := (fh79 m 50 (fun q => absurd q.2 (by decide))).trans eh65
                  refine gz_s 1 (pc' := 124) (L' := [some (.ref m), some (.int (zi a)), some (.int (zi b)), some (.int (zi v)), some (.int (zi z33))]) (S' := [.int (zi z33)]) rfl ?_
                  have hrw85 : gRoB ty 26 (gVb f a b v) h79 := gVb.y ⟨⟨by omega, by omega, by omega, by omega⟩, by omega, by omega⟩ (by omega) pr80
                  exact gz_end (I := .ireturn) (len := 1) rfl (Or.inl rfl) ⟨sh79, z33, a + 1, b + 1, 0, rfl, (by omega), (by omega), s84, (by omega), (by omega), eh79, (by omega), (by omega), s82, (by omega), (by omega), (by omega), (by omega), (by omega), (by omega), hrw85⟩
            · refine gy_icF rfl (by decide) (by decide) (by omega) (by omega) hc26 ?_
              refine gz_s 2 (pc' := 41) (L' := [some (.ref m), some (.int (zi a)), some (.int (zi b)), some (.int (zi v)), none]) (S' := [.int (zi 2), .ref m]) rfl ?_
              refine gs_put rfl (by decide) rfl hS tm rfl rfl rfl rfl (Or.inl rfl) (by decide) (by omega) (by omega) (fun h86 sh86 eh86 fh86 => ?_)
              have pr87 := gRoB.pt fh86 tm (by decide) hyf26
              have s88 := (fh86 m 50 (fun q => absurd q.2 (by decide))).trans ecw
              have s89 := (fh86 m 51 (fun q => absurd q.2 (by decide))).trans ech
              refine gz_s 1 (pc' := 45) (L' := [some (.ref m), some (.int (zi a)), some (.int (zi b)), some (.int (zi v)), none]) (S' := [.ref m]) rfl ?_
              refine gs_gtk rfl (by decide) rfl sh86.1 tm rfl rfl eh86 ?_
              refine gy_ifF rfl (by decide) (by decide) (by omega) (by first | (simp [zc]; done) | (simp only [zc]; omega)) ?_
              refine gz_s 1 (pc' := 52) (L' := [some (.ref m), some (.int (zi a)), some (.int (zi b)), some (.int (zi v)), none]) (S' := [.int (zi 0)]) rfl ?_
              have hrw90 : gRoB ty 26 (gVb f a b v) h86 := gVb.n (by omega) pr87
              exact gz_end (I := .ireturn) (len := 1) rfl (Or.inl rfl) ⟨sh86, 0, cw, ch, 2, rfl, (by omega), (by omega), s88, (by omega), (by omega), s89, (by omega), (by omega), eh86, (by omega), (by omega), (by omega), (by omega), (by omega), (by omega), hrw90⟩
        · refine gy_icF rfl (by decide) (by decide) (by omega) (by omega) hc19 ?_
          refine gz_s 2 (pc' := 41) (L' := [some (.ref m), some (.int (zi a)), some (.int (zi b)), some (.int (zi v)), none]) (S' := [.int (zi 1), .ref m]) rfl ?_
          refine gs_put rfl (by decide) rfl hS tm rfl rfl rfl rfl (Or.inl rfl) (by decide) (by omega) (by omega) (fun h91 sh91 eh91 fh91 => ?_)
          have pr92 := gRoB.pt fh91 tm (by decide) hyf26
          have s93 := (fh91 m 50 (fun q => absurd q.2 (by decide))).trans ecw
          have s94 := (fh91 m 51 (fun q => absurd q.2 (by decide))).trans ech
          refine gz_s 1 (pc' := 45) (L' := [some (.ref m), some (.int (zi a)), some (.int (zi b)), some (.int (zi v)), none]) (S' := [.ref m]) rfl ?_
          refine gs_gtk rfl (by decide) rfl sh91.1 tm rfl rfl eh91 ?_
          refine gy_ifF rfl (by decide) (by decide) (by omega) (by first | (simp [zc]; done) | (simp only [zc]; omega)) ?_
          refine gz_s 1 (pc' := 52) (L' := [some (.ref m), some (.int (zi a)), some (.int (zi b)), some (.int (zi v)), none]) (S' := [.int (zi 0)]) rfl ?_
          have hrw95 : gRoB ty 26 (gVb f a b v) h91 := gVb.n (by omega) pr92
          exact gz_end (I := .ireturn) (len := 1) rfl (Or.inl rfl) ⟨sh91, 0, cw, ch, 1, rfl, (by omega), (by omega), s93, (by omega), (by omega), s94, (by omega), (by omega), eh91, (by omega), (by omega), (by omega), (by omega), (by omega), (by omega), hrw95⟩
