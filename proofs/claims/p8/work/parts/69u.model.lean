/-! ===== the reference, further (by program) ===== -/
set_option maxRecDepth 20000 in
set_option maxHeartbeats 4000000 in
theorem mm_restart2 (d : Nat) {ty : Nat → Nat} {h : gH} (hJ : gJ rT 1027 ty h) (m : Nat) (tm : ty m = 1) (n : Int) (rn : (-2147483648) ≤ n ∧ n ≤ 2147483647) (iv : Int) (eiv : h.2.2.2.2 m 52 = .int (zi iv)) (riv : 0 ≤ iv ∧ iv ≤ 100) : gz gPP gGG gcn (d + 0) gt183 0 (gent [.ref m, .int (zi n)] 3) [] h (fun q _ => gSs rT 1027 ty [1000, 1052] h q.2.2 ∧ ∃ z iv1 th : Int, gfin gt183 q.1 q.2.1 = some (some (.int (zi z))) ∧ 0 ≤ z ∧ z ≤ 100 ∧ q.2.2.2.2.2.2 m 52 = .int (zi iv1) ∧ 0 ≤ iv1 ∧ iv1 ≤ 100 ∧ q.2.2.2.2.2.2 m 0 = .int (zi th) ∧ 0 ≤ th ∧ th ≤ 2 ∧ ((0 ≤ n ∧ n ≤ 100) → (z = iv ∧ iv1 = n ∧ th = 0)) ∧ (¬ (0 ≤ n ∧ n ≤ 100) → (iv1 = iv ∧ th = 1))) := by
  have hS : gSs rT 1027 ty [1000, 1052] h h := gSs.rf hJ
  refine gz_s 2 (pc' := 2) (L' := [some (.ref m), some (.int (zi n)), none]) (S' := [.int (zi n), .ref m]) rfl ?_
  by_cases hc1 : (n : Int) < 0
  · refine gy_ifT (pc' := 11) rfl (by decide) (by decide) (by omega) hc1 ?_
    refine gz_s 2 (pc' := 16) (L' := [some (.ref m), some (.int (zi n)), none]) (S' := [.int (zi 1), .ref m]) rfl ?_
    refine gs_put rfl (by decide) rfl hS tm rfl rfl rfl rfl (Or.inl rfl) (by decide) (by omega) (by omega) (fun h2 sh2 eh2 fh2 => ?_)
    have s3 := (fh2 m 52 (fun q => absurd q.2 (by decide))).trans eiv
    refine gz_s 1 (pc' := 20) (L' := [some (.ref m), some (.int (zi n)), none]) (S' := [.ref m]) rfl ?_
    refine gs_gtk rfl (by decide) rfl sh2.1 tm rfl rfl eh2 ?_
    refine gy_ifF rfl (by decide) (by decide) (by omega) (by first | (simp [zc]; done) | (simp only [zc]; omega)) ?_
    refine gz_s 1 (pc' := 27) (L' := [some (.ref m), some (.int (zi n)), none]) (S' := [.int (zi 0)]) rfl ?_
    exact gz_end (I := .ireturn) (len := 1) rfl (Or.inl rfl) ⟨sh2, 0, iv, 1, rfl, (by omega), (by omega), s3, (by omega), (by omega), eh2, (by omega), (by omega), (by omega), (by omega)⟩
  · refine gy_ifF rfl (by decide) (by decide) (by omega) hc1 ?_
    refine gz_s 2 (pc' := 8) (L' := [some (.ref m), some (.int (zi n)), none]) (S' := [.int (zi 100), .int (zi n), .ref m]) rfl ?_
    by_cases hc4 : (n : Int) ≤ 100
    · refine gy_icT (pc' := 15) rfl (by decide) (by decide) (by omega) (by omega) hc4 ?_
      refine gz_s 1 (pc' := 16) (L' := [some (.ref m), some (.int (zi n)), none]) (S' := [.int (zi 0), .ref m]) rfl ?_
      refine gs_put rfl (by decide) rfl hS tm rfl rfl rfl rfl (Or.inl rfl) (by decide) (by omega) (by omega) (fun h5 sh5 eh5 fh5 => ?_)
      have s6 := (fh5 m 52 (fun q => absurd q.2 (by decide))).trans eiv
      refine gz_s 1 (pc' := 20) (L' := [some (.ref m), some (.int (zi n)), none]) (S' := [.ref m]) rfl ?_
      refine gs_gtk rfl (by decide) rfl sh5.1 tm rfl rfl eh5 ?_
      refine gy_ifT (pc' := 28) rfl (by decide) (by decide) (by omega) (by first | (simp [zc]; done) | (simp only [zc]; omega)) ?_
      refine gz_s 1 (pc' := 29) (L' := [some (.ref m), some (.int (zi n)), none]) (S' := [.ref m]) rfl ?_
      refine gs_gtk rfl (by decide) rfl sh5.1 tm rfl rfl s6 ?_
      refine gz_s 3 (pc' := 35) (L' := [some (.ref m), some (.int (zi n)), some (.int (zi iv))]) (S' := [.int (zi n), .ref m]) rfl ?_
      refine gs_put rfl (by decide) rfl sh5 tm rfl rfl rfl rfl (Or.inl rfl) (by decide) (by omega) (by omega) (fun h7 sh7 eh7 fh7 => ?_)
      have s8 := (fh7 m 0 (fun q => absurd q.2 (by decide))).trans eh5
      refine gz_s 1 (pc' := 39) (L' := [some (.ref m), some (.int (zi n)), some (.int (zi iv))]) (S' := [.int (zi iv)]) rfl ?_
      exact gz_end (I := .ireturn) (len := 1) rfl (Or.inl rfl) ⟨sh7, iv, n, 0, rfl, (by omega), (by omega), eh7, (by omega), (by omega), s8, (by omega), (by omega), (by omega), (by omega)⟩
    · refine gy_icF rfl (by decide) (by decide) (by omega) (by omega) hc4 ?_
      refine gz_s 2 (pc' := 16) (L' := [some (.ref m), some (.int (zi n)), none]) (S' := [.int (zi 1), .ref m]) rfl ?_
      refine gs_put rfl (by decide) rfl hS tm rfl rfl rfl rfl (Or.inl rfl) (by decide) (by omega) (by omega) (fun h9 sh9 eh9 fh9 => ?_)
      have s10 := (fh9 m 52 (fun q => absurd q.2 (by decide))).trans eiv
      refine gz_s 1 (pc' := 20) (L' := [some (.ref m), some (.int (zi n)), none]) (S' := [.ref m]) rfl ?_
      refine gs_gtk rfl (by decide) rfl sh9.1 tm rfl rfl eh9 ?_
      refine gy_ifF rfl (by decide) (by decide) (by omega) (by first | (simp [zc]; done) | (simp only [zc]; omega)) ?_
      refine gz_s 1 (pc' := 27) (L' := [some (.ref m), some (.int (zi n)), none]) (S' := [.int (zi 0)]) rfl ?_
      exact gz_end (I := .ireturn) (len := 1) rfl (Or.inl rfl) ⟨sh9, 0, iv, 1, rfl, (by omega), (by omega), s10, (by omega), (by omega), eh9, (by omega), (by omega), (by omega), (by omega)⟩
set_option maxRecDepth 20000 in
set_option maxHeartbeats 4000000 in
theorem mm_thrown2 (d : Nat) {ty : Nat → Nat} {h : gH} (hJ : gJ rT 1027 ty h) (m : Nat) (tm : ty m = 1) (th : Int) (eth : h.2.2.2.2 m 0 = .int (zi th)) (rth : 0 ≤ th ∧ th ≤ 2) : gz gPP gGG gcn (d + 0) gt131 0 (gent [.ref m] 1) [] h (fun q _ => gSs rT 1027 ty [] h q.2.2 ∧ ∃ z : Int, gfin gt131 q.1 q.2.1 = some (some (.int (zi z))) ∧ 0 ≤ z ∧ z ≤ 2 ∧ (z = th)) := by
  have hS : gSs rT 1027 ty [] h h := gSs.rf hJ
  refine gz_s 1 (pc' := 1) (L' := [some (.ref m)]) (S' := [.ref m]) rfl ?_
  refine gs_gtk rfl (by decide) rfl hS.1 tm rfl rfl eth ?_
  exact gz_end (I := .ireturn) (len := 1) rfl (Or.inl rfl) ⟨hS, th, rfl, (by omega), (by omega), (by omega)⟩
set_option maxRecDepth 20000 in
set_option maxHeartbeats 4000000 in
theorem mm_table2 (d : Nat) {ty : Nat → Nat} {h : gH} (hJ : gJ rT 1027 ty h) (m : Nat) (tm : ty m = 1) (a : Int) (ra : (-2147483648) ≤ a ∧ a ≤ 2147483647) (b : Int) (rb : (-2147483648) ≤ b ∧ b ≤ 2147483647) (v : Int) (rv : (-2147483648) ≤ v ∧ v ≤ 2147483647) (f : Nat → Int) (uq : gUq ty) (hyf8 : gRow ty 8 f h) : gz gPP gGG gcn (d + 0) gt180 0 (gent [.ref m, .int (zi a), .int (zi b), .int (zi v)] 5) [] h (fun q _ => gSs rT 1027 ty [1000, 8999] h q.2.2 ∧ ∃ z th : Int, gfin gt180 q.1 q.2.1 = some (some (.int (zi z))) ∧ 0 ≤ z ∧ z ≤ 255 ∧ q.2.2.2.2.2.2 m 0 = .int (zi th) ∧ 0 ≤ th ∧ th ≤ 2 ∧ ((0 ≤ a ∧ a ≤ 3 ∧ 0 ≤ b ∧ b ≤ 63 ∧ (v = -1 ∨ (1 ≤ v ∧ v ≤ 255))) → (z = f (a * 64 + b).toNat ∧ th = 0)) ∧ (¬ (0 ≤ a ∧ a ≤ 3 ∧ 0 ≤ b ∧ b ≤ 63) → th = 1) ∧ ((0 ≤ a ∧ a ≤ 3 ∧ 0 ≤ b ∧ b ≤ 63 ∧ ¬ (v = -1 ∨ (1 ≤ v ∧ v ≤ 255))) → th = 2) ∧ (gRow ty 8 (gVb f a b v) q.2.2)) := by
  have hS : gSs rT 1027 ty [1000, 8999] h h := gSs.rf hJ
  refine gz_s 2 (pc' := 2) (L' := [some (.ref m), some (.int (zi a)), some (.int (zi b)), some (.int (zi v)), none]) (S' := [.int (zi a), .ref m]) rfl ?_
  by_cases hc1 : (a : Int) < 0
  · refine gy_ifT (pc' := 20) rfl (by decide) (by decide) (by omega) hc1 ?_
    refine gz_s 2 (pc' := 46) (L' := [some (.ref m), some (.int (zi a)), some (.int (zi b)), some (.int (zi v)), none]) (S' := [.int (zi 1), .ref m]) rfl ?_
    refine gs_put rfl (by decide) rfl hS tm rfl rfl rfl rfl (Or.inl rfl) (by decide) (by omega) (by omega) (fun h2 sh2 eh2 fh2 => ?_)
    have pr3 := gRow.pt fh2 tm (by decide) hyf8
    refine gz_s 1 (pc' := 50) (L' := [some (.ref m), some (.int (zi a)), some (.int (zi b)), some (.int (zi v)), none]) (S' := [.ref m]) rfl ?_
    refine gs_gtk rfl (by decide) rfl sh2.1 tm rfl rfl eh2 ?_
    refine gy_ifF rfl (by decide) (by decide) (by omega) (by first | (simp [zc]; done) | (simp only [zc]; omega)) ?_
    refine gz_s 1 (pc' := 57) (L' := [some (.ref m), some (.int (zi a)), some (.int (zi b)), some (.int (zi v)), none]) (S' := [.int (zi 0)]) rfl ?_
    have hrw4 : gRow ty 8 (gVb f a b v) h2 := gVb.n (by omega) pr3
    exact gz_end (I := .ireturn) (len := 1) rfl (Or.inl rfl) ⟨sh2, 0, 1, rfl, (by omega), (by omega), eh2, (by omega), (by omega), (by omega), (by omega), (by omega), hrw4⟩
  · refine gy_ifF rfl (by decide) (by decide) (by omega) hc1 ?_
    refine gz_s 2 (pc' := 7) (L' := [some (.ref m), some (.int (zi a)), some (.int (zi b)), some (.int (zi v)), none]) (S' := [.int (zi 3), .int (zi a), .ref m]) rfl ?_
    by_cases hc5 : (3 : Int) < a
    · refine gy_icT (pc' := 20) rfl (by decide) (by decide) (by omega) (by omega) hc5 ?_
      refine gz_s 2 (pc' := 46) (L' := [some (.ref m), some (.int (zi a)), some (.int (zi b)), some (.int (zi v)), none]) (S' := [.int (zi 1), .ref m]) rfl ?_
      refine gs_put rfl (by decide) rfl hS tm rfl rfl rfl rfl (Or.inl rfl) (by decide) (by omega) (by omega) (fun h6 sh6 eh6 fh6 => ?_)
      have pr7 := gRow.pt fh6 tm (by decide) hyf8
      refine gz_s 1 (pc' := 50) (L' := [some (.ref m), some (.int (zi a)), some (.int (zi b)), some (.int (zi v)), none]) (S' := [.ref m]) rfl ?_
      refine gs_gtk rfl (by decide) rfl sh6.1 tm rfl rfl eh6 ?_
      refine gy_ifF rfl (by decide) (by decide) (by omega) (by first | (simp [zc]; done) | (simp only [zc]; omega)) ?_
      refine gz_s 1 (pc' := 57) (L' := [some (.ref m), some (.int (zi a)), some (.int (zi b)), some (.int (zi v)), none]) (S' := [.int (zi 0)]) rfl ?_
      have hrw8 : gRow ty 8 (gVb f a b v) h6 := gVb.n (by omega) pr7
      exact gz_end (I := .ireturn) (len := 1) rfl (Or.inl rfl) ⟨sh6, 0, 1, rfl, (by omega), (by omega), eh6, (by omega), (by omega), (by omega), (by omega), (by omega), hrw8⟩
    · refine gy_icF rfl (by decide) (by decide) (by omega) (by omega) hc5 ?_
      refine gz_s 1 (pc' := 11) (L' := [some (.ref m), some (.int (zi a)), some (.int (zi b)), some (.int (zi v)), none]) (S' := [.int (zi b), .ref m]) rfl ?_
      by_cases hc9 : (b : Int) < 0
      · refine gy_ifT (pc' := 20) rfl (by decide) (by decide) (by omega) hc9 ?_
        refine gz_s 2 (pc' := 46) (L' := [some (.ref m), some (.int (zi a)), some (.int (zi b)), some (.int (zi v)), none]) (S' := [.int (zi 1), .ref m]) rfl ?_
        refine gs_put rfl (by decide) rfl hS tm rfl rfl rfl rfl (Or.inl rfl) (by decide) (by omega) (by omega) (fun h10 sh10 eh10 fh10 => ?_)
        have pr11 := gRow.pt fh10 tm (by decide) hyf8
        refine gz_s 1 (pc' := 50) (L' := [some (.ref m), some (.int (zi a)), some (.int (zi b)), some (.int (zi v)), none]) (S' := [.ref m]) rfl ?_
        refine gs_gtk rfl (by decide) rfl sh10.1 tm rfl rfl eh10 ?_
        refine gy_ifF rfl (by decide) (by decide) (by omega) (by first | (simp [zc]; done) | (simp only [zc]; omega)) ?_
        refine gz_s 1 (pc' := 57) (L' := [some (.ref m), some (.int (zi a)), some (.int (zi b)), some (.int (zi v)), none]) (S' := [.int (zi 0)]) rfl ?_
        have hrw12 : gRow ty 8 (gVb f a b v) h10 := gVb.n (by omega) pr11
        exact gz_end (I := .ireturn) (len := 1) rfl (Or.inl rfl) ⟨sh10, 0, 1, rfl, (by omega), (by omega), eh10, (by omega), (by omega), (by omega), (by omega), (by omega), hrw12⟩
      · refine gy_ifF rfl (by decide) (by decide) (by omega) hc9 ?_
        refine gz_s 2 (pc' := 17) (L' := [some (.ref m), some (.int (zi a)), some (.int (zi b)), some (.int (zi v)), none]) (S' := [.int (zi 63), .int (zi b), .ref m]) rfl ?_
        by_cases hc13 : (b : Int) ≤ 63
        · refine gy_icT (pc' := 24) rfl (by decide) (by decide) (by omega) (by omega) hc13 ?_
          refine gz_s 2 (pc' := 26) (L' := [some (.ref m), some (.int (zi a)), some (.int (zi b)), some (.int (zi v)), none]) (S' := [.int (zi (-1)), .int (zi v), .ref m]) rfl ?_
          by_cases hc14 : (v : Int) = (-1)
          · refine gy_icT (pc' := 45) rfl (by decide) (by decide) (by omega) (by omega) hc14 ?_
            refine gz_s 1 (pc' := 46) (L' := [some (.ref m), some (.int (zi a)), some (.int (zi b)), some (.int (zi v)), none]) (S' := [.int (zi 0), .ref m]) rfl ?_
            refine gs_put rfl (by decide) rfl hS tm rfl rfl rfl rfl (Or.inl rfl) (by decide) (by omega) (by omega) (fun h15 sh15 eh15 fh15 => ?_)
            have pr16 := gRow.pt fh15 tm (by decide) hyf8
            refine gz_s 1 (pc' := 50) (L' := [some (.ref m), some (.int (zi a)), some (.int (zi b)), some (.int (zi v)), none]) (S' := [.ref m]) rfl ?_
            refine gs_gtk rfl (by decide) rfl sh15.1 tm rfl rfl eh15 ?_
            refine gy_ifT (pc' := 58) rfl (by decide) (by decide) (by omega) (by first | (simp [zc]; done) | (simp only [zc]; omega)) ?_
            refine gz_s 1 (pc' := 59) (L' := [some (.ref m), some (.int (zi a)), some (.int (zi b)), some (.int (zi v)), none]) (S' := [.ref m]) rfl ?_
            refine gs_gtr rfl (by decide) rfl sh15.1 tm rfl rfl rfl (fun c17 ec17 tc17 => ?_)
            refine gy_s 5 (pc' := 68) (L' := [some (.ref m), some (.int (zi a)), some (.int (zi b)), some (.int (zi v)), none]) (S' := [.int (((zi 64) * (zi a)) + (zi b)), .ref c17]) (L2 := [some (.ref m), some (.int (zi a)), some (.int (zi b)), some (.int (zi v)), none]) (S2 := [.int (zi ((64 * a) + b)), .ref c17]) rfl (by simp only [zi_add, zi_sub, zi_mul, zi_neg, zi_and1, zi_and7, zi_and15, zi_and31, zi_and255]) (by simp only [zi_add, zi_sub, zi_mul, zi_neg, zi_and1, zi_and7, zi_and15, zi_and31, zi_and255]) ?_
            have hl18 : 256 ≤ h15.2.2.2.1 c17 ∧ h15.2.2.2.1 c17 ≤ 256 := gJ.rowl (G := gGG) sh15.1 tc17 rfl
            refine gs_ald rfl (by decide) sh15.1 tc17 rfl rfl rfl (by decide) (fun _ => rfl) (by omega) (by omega) (fun z19 ez19 az19 bz19 => ?_)
            have hf20 := gRow.at (i := (64 * a) + b) (z := z19) pr16 tc17 ez19 (by omega) (by omega) (by omega)
            have hfx : z19 = f (a * 64 + b).toNat := ((congrArg f (by omega)).trans hf20).symm
            refine gz_s 2 (pc' := 72) (L' := [some (.ref m), some (.int (zi a)), some (.int (zi b)), some (.int (zi v)), some (.int (zi z19))]) (S' := [.ref m]) rfl ?_
            refine gs_gtk rfl (by decide) rfl sh15.1 tm rfl rfl ec17 ?_
            refine gy_s 7 (pc' := 83) (L' := [some (.ref m), some (.int (zi a)), some (.int (zi b)), some (.int (zi v)), some (.int (zi z19))]) (S' := [.int (zi (-1)), .int (zi v), .int (((zi 64) * (zi a)) + (zi b)), .ref c17]) (L2 := [some (.ref m), some (.int (zi a)), some (.int (zi b)), some (.int (zi v)), some (.int (zi z19))]) (S2 := [.int (zi (-1)), .int (zi v), .int (zi ((64 * a) + b)), .ref c17]) rfl (by simp only [zi_add, zi_sub, zi_mul, zi_neg, zi_and1, zi_and7, zi_and15, zi_and31, zi_and255]) (by simp only [zi_add, zi_sub, zi_mul, zi_neg, zi_and1, zi_and7, zi_and15, zi_and31, zi_and255]) ?_
            refine gy_icF rfl (by decide) (by decide) (by omega) (by omega) (by first | (simp [zc]; done) | (simp only [zc]; omega)) ?_
            refine gz_s 2 (pc' := 92) (L' := [some (.ref m), some (.int (zi a)), some (.int (zi b)), some (.int (zi v)), some (.int (zi z19))]) (S' := [.int (zi z19), .int (zi ((64 * a) + b)), .ref c17]) rfl ?_
            have hl21 : 256 ≤ h15.2.2.2.1 c17 ∧ h15.2.2.2.1 c17 ≤ 256 := gJ.rowl (G := gGG) sh15.1 tc17 rfl
            refine gs_ast rfl (by decide) sh15 tc17 rfl rfl rfl (by decide) (fun _ => rfl) (by omega) (by omega) (fun _ => (by decide : (8999 : Nat) ∈ ([1000, 8999] : List Nat))) (by omega) (by omega) (fun h22 sh22 eh22 fh22 => ?_)
            have pr23 := gRow.put (i := (64 * a) + b) (z := z19) uq tc17 (by decide) fh22 eh22 (by omega) (by omega) pr16
            have s24 := (fh22 m 0 (fun q => absurd (((tm).symm.trans (congrArg ty q.1)).trans tc17) (by decide))).trans eh15
            have s25 := (fh22 m 13 (fun q => absurd (((tm).symm.trans (congrArg ty q.1)).trans tc17) (by decide))).trans ec17
            have pr26 := gEl.set (i := (64 * a) + b) (z := z19) uq tc17 (by decide) eh22 (by omega) (by omega)
            refine gz_s 1 (pc' := 95) (L' := [some (.ref m), some (.int (zi a)), some (.int (zi b)), some (.int (zi v)), some (.int (zi z19))]) (S' := [.int (zi z19)]) rfl ?_
            have hrw27 : gRow ty 8 (gVb f a b v) h22 := gVb.s (by omega) hf20 pr23
            exact gz_end (I := .ireturn) (len := 1) rfl (Or.inl rfl) ⟨sh22, z19, 0, rfl, (by omega), (by omega), s24, (by omega), (by omega), (by omega), (by omega), (by omega), hrw27⟩
          · refine gy_icF rfl (by decide) (by decide) (by omega) (by omega) hc14 ?_
            refine gz_s 2 (pc' := 31) (L' := [some (.ref m), some (.int (zi a)), some (.int (zi b)), some (.int (zi v)), none]) (S' := [.int (zi 1), .int (zi v), .ref m]) rfl ?_
            by_cases hc28 : (v : Int) < 1
            · refine gy_icT (pc' := 41) rfl (by decide) (by decide) (by omega) (by omega) hc28 ?_
              refine gz_s 2 (pc' := 46) (L' := [some (.ref m), some (.int (zi a)), some (.int (zi b)), some (.int (zi v)), none]) (S' := [.int (zi 2), .ref m]) rfl ?_
              refine gs_put rfl (by decide) rfl hS tm rfl rfl rfl rfl (Or.inl rfl) (by decide) (by omega) (by omega) (fun h29 sh29 eh29 fh29 => ?_)
              have pr30 := gRow.pt fh29 tm (by decide) hyf8
              refine gz_s 1 (pc' := 50) (L' := [some (.ref m), some (.int (zi a)), some (.int (zi b)), some (.int (zi v)), none]) (S' := [.ref m]) rfl ?_
              refine gs_gtk rfl (by decide) rfl sh29.1 tm rfl rfl eh29 ?_
              refine gy_ifF rfl (by decide) (by decide) (by omega) (by first | (simp [zc]; done) | (simp only [zc]; omega)) ?_
              refine gz_s 1 (pc' := 57) (L' := [some (.ref m), some (.int (zi a)), some (.int (zi b)), some (.int (zi v)), none]) (S' := [.int (zi 0)]) rfl ?_
              have hrw31 : gRow ty 8 (gVb f a b v) h29 := gVb.n (by omega) pr30
              exact gz_end (I := .ireturn) (len := 1) rfl (Or.inl rfl) ⟨sh29, 0, 2, rfl, (by omega), (by omega), eh29, (by omega), (by omega), (by omega), (by omega), (by omega), hrw31⟩
            · refine gy_icF rfl (by decide) (by decide) (by omega) (by omega) hc28 ?_
              refine gz_s 2 (pc' := 38) (L' := [some (.ref m), some (.int (zi a)), some (.int (zi b)), some (.int (zi v)), none]) (S' := [.int (zi 255), .int (zi v), .ref m]) rfl ?_
              by_cases hc32 : (v : Int) ≤ 255
              · refine gy_icT (pc' := 45) rfl (by decide) (by decide) (by omega) (by omega) hc32 ?_
                refine gz_s 1 (pc' := 46) (L' := [some (.ref m), some (.int (zi a)), some (.int (zi b)), some (.int (zi v)), none]) (S' := [.int (zi 0), .ref m]) rfl ?_
                refine gs_put rfl (by decide) rfl hS tm rfl rfl rfl rfl (Or.inl rfl) (by decide) (by omega) (by omega) (fun h33 sh33 eh33 fh33 => ?_)
                have pr34 := gRow.pt fh33 tm (by decide) hyf8
                refine gz_s 1 (pc' := 50) (L' := [some (.ref m), some (.int (zi a)), some (.int (zi b)), some (.int (zi v)), none]) (S' := [.ref m]) rfl ?_
                refine gs_gtk rfl (by decide) rfl sh33.1 tm rfl rfl eh33 ?_
                refine gy_ifT (pc' := 58) rfl (by decide) (by decide) (by omega) (by first | (simp [zc]; done) | (simp only [zc]; omega)) ?_
                refine gz_s 1 (pc' := 59) (L' := [some (.ref m), some (.int (zi a)), some (.int (zi b)), some (.int (zi v)), none]) (S' := [.ref m]) rfl ?_
                refine gs_gtr rfl (by decide) rfl sh33.1 tm rfl rfl rfl (fun c35 ec35 tc35 => ?_)
                refine gy_s 5 (pc' := 68) (L' := [some (.ref m), some (.int (zi a)), some (.int (zi b)), some (.int (zi v)), none]) (S' := [.int (((zi 64) * (zi a)) + (zi b)), .ref c35]) (L2 := [some (.ref m), some (.int (zi a)), some (.int (zi b)), some (.int (zi v)), none]) (S2 := [.int (zi ((64 * a) + b)), .ref c35]) rfl (by simp only [zi_add, zi_sub, zi_mul, zi_neg, zi_and1, zi_and7, zi_and15, zi_and31, zi_and255]) (by simp only [zi_add, zi_sub, zi_mul, zi_neg, zi_and1, zi_and7, zi_and15, zi_and31, zi_and255]) ?_
                have hl36 : 256 ≤ h33.2.2.2.1 c35 ∧ h33.2.2.2.1 c35 ≤ 256 := gJ.rowl (G := gGG) sh33.1 tc35 rfl
                refine gs_ald rfl (by decide) sh33.1 tc35 rfl rfl rfl (by decide) (fun _ => rfl) (by omega) (by omega) (fun z37 ez37 az37 bz37 => ?_)
                have hf38 := gRow.at (i := (64 * a) + b) (z := z37) pr34 tc35 ez37 (by omega) (by omega) (by omega)
                have hfx : z37 = f (a * 64 + b).toNat := ((congrArg f (by omega)).trans hf38).symm
                refine gz_s 2 (pc' := 72) (L' := [some (.ref m), some (.int (zi a)), some (.int (zi b)), some (.int (zi v)), some (.int (zi z37))]) (S' := [.ref m]) rfl ?_
                refine gs_gtk rfl (by decide) rfl sh33.1 tm rfl rfl ec35 ?_
                refine gy_s 7 (pc' := 83) (L' := [some (.ref m), some (.int (zi a)), some (.int (zi b)), some (.int (zi v)), some (.int (zi z37))]) (S' := [.int (zi (-1)), .int (zi v), .int (((zi 64) * (zi a)) + (zi b)), .ref c35]) (L2 := [some (.ref m), some (.int (zi a)), some (.int (zi b)), some (.int (zi v)), some (.int (zi z37))]) (S2 := [.int (zi (-1)), .int (zi v), .int (zi ((64 * a) + b)), .ref c35]) rfl (by simp only [zi_add, zi_sub, zi_mul, zi_neg, zi_and1, zi_and7, zi_and15, zi_and31, zi_and255]) (by simp only [zi_add, zi_sub, zi_mul, zi_neg, zi_and1, zi_and7, zi_and15, zi_and31, zi_and255]) ?_
                refine gy_icT (pc' := 91) rfl (by decide) (by decide) (by omega) (by omega) (by first | (simp [zc]; done) | (simp only [zc]; omega)) ?_
                refine gz_s 1 (pc' := 92) (L' := [some (.ref m), some (.int (zi a)), some (.int (zi b)), some (.int (zi v)), some (.int (zi z37))]) (S' := [.int (zi v), .int (zi ((64 * a) + b)), .ref c35]) rfl ?_
                have hl39 : 256 ≤ h33.2.2.2.1 c35 ∧ h33.2.2.2.1 c35 ≤ 256 := gJ.rowl (G := gGG) sh33.1 tc35 rfl
                refine gs_ast rfl (by decide) sh33 tc35 rfl rfl rfl (by decide) (fun _ => rfl) (by omega) (by omega) (fun _ => (by decide : (8999 : Nat) ∈ ([1000, 8999] : List Nat))) (by omega) (by omega) (fun h40 sh40 eh40 fh40 => ?_)
                have pr41 := gRow.put (i := (64 * a) + b) (z := v) uq tc35 (by decide) fh40 eh40 (by omega) (by omega) pr34
                have s42 := (fh40 m 0 (fun q => absurd (((tm).symm.trans (congrArg ty q.1)).trans tc35) (by decide))).trans eh33
                have s43 := (fh40 m 13 (fun q => absurd (((tm).symm.trans (congrArg ty q.1)).trans tc35) (by decide))).trans ec35
                have pr44 := gEl.set (i := (64 * a) + b) (z := v) uq tc35 (by decide) eh40 (by omega) (by omega)
                refine gz_s 1 (pc' := 95) (L' := [some (.ref m), some (.int (zi a)), some (.int (zi b)), some (.int (zi v)), some (.int (zi z37))]) (S' := [.int (zi z37)]) rfl ?_
                have hrw45 : gRow ty 8 (gVb f a b v) h40 := gVb.y ⟨⟨by omega, by omega, by omega, by omega⟩, by omega, by omega⟩ (by omega) pr41
                exact gz_end (I := .ireturn) (len := 1) rfl (Or.inl rfl) ⟨sh40, z37, 0, rfl, (by omega), (by omega), s42, (by omega), (by omega), (by omega), (by omega), (by omega), hrw45⟩
              · refine gy_icF rfl (by decide) (by decide) (by omega) (by omega) hc32 ?_
                refine gz_s 2 (pc' := 46) (L' := [some (.ref m), some (.int (zi a)), some (.int (zi b)), some (.int (zi v)), none]) (S' := [.int (zi 2), .ref m]) rfl ?_
                refine gs_put rfl (by decide) rfl hS tm rfl rfl rfl rfl (Or.inl rfl) (by decide) (by omega) (by omega) (fun h46 sh46 eh46 fh46 => ?_)
                have pr47 := gRow.pt fh46 tm (by decide) hyf8
                refine gz_s 1 (pc' := 50) (L' := [some (.ref m), some (.int (zi a)), some (.int (zi b)), some (.int (zi v)), none]) (S' := [.ref m]) rfl ?_
                refine gs_gtk rfl (by decide) rfl sh46.1 tm rfl rfl eh46 ?_
                refine gy_ifF rfl (by decide) (by decide) (by omega) (by first | (simp [zc]; done) | (simp only [zc]; omega)) ?_
                refine gz_s 1 (pc' := 57) (L' := [some (.ref m), some (.int (zi a)), some (.int (zi b)), some (.int (zi v)), none]) (S' := [.int (zi 0)]) rfl ?_
                have hrw48 : gRow ty 8 (gVb f a b v) h46 := gVb.n (by omega) pr47
                exact gz_end (I := .ireturn) (len := 1) rfl (Or.inl rfl) ⟨sh46, 0, 2, rfl, (by omega), (by omega), eh46, (by omega), (by omega), (by omega), (by omega), (by omega), hrw48⟩
        · refine gy_icF rfl (by decide) (by decide) (by omega) (by omega) hc13 ?_
          refine gz_s 2 (pc' := 46) (L' := [some (.ref m), some (.int (zi a)), some (.int (zi b)), some (.int (zi v)), none]) (S' := [.int (zi 1), .ref m]) rfl ?_
          refine gs_put rfl (by decide) rfl hS tm rfl rfl rfl rfl (Or.inl rfl) (by decide) (by omega) (by omega) (fun h49 sh49 eh49 fh49 => ?_)
          have pr50 := gRow.pt fh49 tm (by decide) hyf8
          refine gz_s 1 (pc' := 50) (L' := [some (.ref m), some (.int (zi a)), some (.int (zi b)), some (.int (zi v)), none]) (S' := [.ref m]) rfl ?_
          refine gs_gtk rfl (by decide) rfl sh49.1 tm rfl rfl eh49 ?_
          refine gy_ifF rfl (by decide) (by decide) (by omega) (by first | (simp [zc]; done) | (simp only [zc]; omega)) ?_
          refine gz_s 1 (pc' := 57) (L' := [some (.ref m), some (.int (zi a)), some (.int (zi b)), some (.int (zi v)), none]) (S' := [.int (zi 0)]) rfl ?_
          have hrw51 : gRow ty 8 (gVb f a b v) h49 := gVb.n (by omega) pr50
          exact gz_end (I := .ireturn) (len := 1) rfl (Or.inl rfl) ⟨sh49, 0, 1, rfl, (by omega), (by omega), eh49, (by omega), (by omega), (by omega), (by omega), (by omega), hrw51⟩
