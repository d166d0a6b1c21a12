/-! ===== the reference, further (by program) ===== -/
set_option maxRecDepth 20000 in
set_option maxHeartbeats 4000000 in
theorem mm_table2 (d : Nat) {ty : Nat → Nat} {h : gH} (hJ : gJ rT 1027 ty h) (m : Nat) (tm : ty m = 1) (a : Int) (ra : (-2147483648) ≤ a ∧ a ≤ 2147483647) (b : Int) (rb : (-2147483648) ≤ b ∧ b ≤ 2147483647) (v : Int) (rv : (-2147483648) ≤ v ∧ v ≤ 2147483647) (f : Nat → Int) (uq : gUq ty) (hyf8 : gRn 256 ty 8 f h) : gz gPP gGG gcn (d + 0) gt179 0 (gent [.ref m, .int (zi a), .int (zi b), .int (zi v)] 5) [] h (fun q _ => gSs rT 1027 ty [1000, 8999] h q.2.2 ∧ ∃ z th : Int, gfin gt179 q.1 q.2.1 = some (some (.int (zi z))) ∧ 0 ≤ z ∧ z ≤ 255 ∧ q.2.2.2.2.2.2 m 0 = .int (zi th) ∧ 0 ≤ th ∧ th ≤ 2 ∧ ((0 ≤ a ∧ a ≤ 3 ∧ 0 ≤ b ∧ b ≤ 63 ∧ (v = -1 ∨ (1 ≤ v ∧ v ≤ 255))) → (z = f (a * 64 + b).toNat ∧ th = 0)) ∧ (¬ (0 ≤ a ∧ a ≤ 3 ∧ 0 ≤ b ∧ b ≤ 63) → th = 1) ∧ ((0 ≤ a ∧ a ≤ 3 ∧ 0 ≤ b ∧ b ≤ 63 ∧ ¬ (v = -1 ∨ (1 ≤ v ∧ v ≤ 255))) → th = 2) ∧ (gRn 256 ty 8 (gVt f a b v) q.2.2)) := by
  have hS : gSs rT 1027 ty [1000, 8999] h h := gSs.rf hJ
  refine gz_s 2 (pc' := 2) (L' := [some (.ref m), some (.int (zi a)), some (.int (zi b)), some (.int (zi v)), none]) (S' := [.int (zi a), .ref m]) rfl ?_
  by_cases hc1 : (a : Int) < 0
  · refine gy_ifT (pc' := 20) rfl (by decide) (by decide) (by omega) hc1 ?_
    refine gz_s 2 (pc' := 46) (L' := [some (.ref m), some (.int (zi a)), some (.int (zi b)), some (.int (zi v)), none]) (S' := [.int (zi 1), .ref m]) rfl ?_
    refine gs_put rfl (by decide) rfl hS tm rfl rfl rfl rfl (Or.inl rfl) (by decide) (by omega) (by omega) (fun h2 sh2 eh2 fh2 => ?_)
    have pr3 := gRn.pt fh2 tm (by decide) hyf8
    refine gz_s 1 (pc' := 50) (L' := [some (.ref m), some (.int (zi a)), some (.int (zi b)), some (.int (zi v)), none]) (S' := [.ref m]) rfl ?_
    refine gs_gtk rfl (by decide) rfl sh2.1 tm rfl rfl eh2 ?_
    refine gy_ifF rfl (by decide) (by decide) (by omega) (by first | (simp [zc]; done) | (simp only [zc]; omega)) ?_
    refine gz_s 1 (pc' := 57) (L' := [some (.ref m), some (.int (zi a)), some (.int (zi b)), some (.int (zi v)), none]) (S' := [.int (zi 0)]) rfl ?_
    have hrw4 : gRn 256 ty 8 (gVt f a b v) h2 := gVt.n (by omega) pr3
    exact gz_end (I := .ireturn) (len := 1) rfl (Or.inl rfl) ⟨sh2, 0, 1, rfl, (by omega), (by omega), eh2, (by omega), (by omega), (by omega), (by omega), (by omega), hrw4⟩
  · refine gy_ifF rfl (by decide) (by decide) (by omega) hc1 ?_
    refine gz_s 2 (pc' := 7) (L' := [some (.ref m), some (.int (zi a)), some (.int (zi b)), some (.int (zi v)), none]) (S' := [.int (zi 3), .int (zi a), .ref m]) rfl ?_
    by_cases hc5 : (3 : Int) < a
    · refine gy_icT (pc' := 20) rfl (by decide) (by decide) (by omega) (by omega) hc5 ?_
      refine gz_s 2 (pc' := 46) (L' := [some (.ref m), some (.int (zi a)), some (.int (zi b)), some (.int (zi v)), none]) (S' := [.int (zi 1), .ref m]) rfl ?_
      refine gs_put rfl (by decide) rfl hS tm rfl rfl rfl rfl (Or.inl rfl) (by decide) (by omega) (by omega) (fun h6 sh6 eh6 fh6 => ?_)
      have pr7 := gRn.pt fh6 tm (by decide) hyf8
      refine gz_s 1 (pc' := 50) (L' := [some (.ref m), some (.int (zi a)), some (.int (zi b)), some (.int (zi v)), none]) (S' := [.ref m]) rfl ?_
      refine gs_gtk rfl (by decide) rfl sh6.1 tm rfl rfl eh6 ?_
      refine gy_ifF rfl (by decide) (by decide) (by omega) (by first | (simp [zc]; done) | (simp only [zc]; omega)) ?_
      refine gz_s 1 (pc' := 57) (L' := [some (.ref m), some (.int (zi a)), some (.int (zi b)), some (.int (zi v)), none]) (S' := [.int (zi 0)]) rfl ?_
      have hrw8 : gRn 256 ty 8 (gVt f a b v) h6 := gVt.n (by omega) pr7
      exact gz_end (I := .ireturn) (len := 1) rfl (Or.inl rfl) ⟨sh6, 0, 1, rfl, (by omega), (by omega), eh6, (by omega), (by omega), (by omega), (by omega), (by omega), hrw8⟩
    · refine gy_icF rfl (by decide) (by decide) (by omega) (by omega) hc5 ?_
      refine gz_s 1 (pc' := 11) (L' := [some (.ref m), some (.int (zi a)), some (.int (zi b)), some (.int (zi v)), none]) (S' := [.int (zi b), .ref m]) rfl ?_
      by_cases hc9 : (b : Int) < 0
      · refine gy_ifT (pc' := 20) rfl (by decide) (by decide) (by omega) hc9 ?_
        refine gz_s 2 (pc' := 46) (L' := [some (.ref m), some (.int (zi a)), some (.int (zi b)), some (.int (zi v)), none]) (S' := [.int (zi 1), .ref m]) rfl ?_
        refine gs_put rfl (by decide) rfl hS tm rfl rfl rfl rfl (Or.inl rfl) (by decide) (by omega) (by omega) (fun h10 sh10 eh10 fh10 => ?_)
        have pr11 := gRn.pt fh10 tm (by decide) hyf8
        refine gz_s 1 (pc' := 50) (L' := [some (.ref m), some (.int (zi a)), some (.int (zi b)), some (.int (zi v)), none]) (S' := [.ref m]) rfl ?_
        refine gs_gtk rfl (by decide) rfl sh10.1 tm rfl rfl eh10 ?_
        refine gy_ifF rfl (by decide) (by decide) (by omega) (by first | (simp [zc]; done) | (simp only [zc]; omega)) ?_
        refine gz_s 1 (pc' := 57) (L' := [some (.ref m), some (.int (zi a)), some (.int (zi b)), some (.int (zi v)), none]) (S' := [.int (zi 0)]) rfl ?_
        have hrw12 : gRn 256 ty 8 (gVt f a b v) h10 := gVt.n (by omega) pr11
        exact gz_end (I := .ireturn) (len := 1) rfl (Or.inl rfl) ⟨sh10, 0, 1, rfl, (by omega), (by omega), eh10, (by omega), (by omega), (by omega), (by omega), (by omega), hrw12⟩
      · refine gy_ifF rfl (by decide) (by decide) (by omega) hc9 ?_
        refine gz_s 2 (pc' := 17) (L' := [some (.ref m), some (.int (zi a)), some (.int (zi b)), some (.int (zi v)), none]) (S' := [.int (zi 63), .int (zi b), .ref m]) rfl ?_
        by_cases hc13 : (b : Int) ≤ 63
        · refine gy_icT (pc' := 24) rfl (by decide) (by decide) (by omega) (by omega) hc13 ?_
          refine gz_s 2 (pc' := 26) (L' := [some (.ref m), some (.int (zi a)), some (.int (zi b)), some (.int (zi v)), none]) (S' := [.int (zi (-1)), .int (zi v), .ref m]) rfl ?_
          by_cases hc14 : (v : Int) = (-1)
          · refine gy_icT (pc' := 45) rfl (by decide) (by decide) (by omega) (by omega) hc14 ?_
            refine gz_s 1 (pc' := 46) (L' := [some (.ref m), some (.int (zi a)), some (.int (zi b)), some (.int (zi v)), none]) (S' := [.int (zi 0), .ref m]) rfl ?_
            refine gs_put rfl (by decide) rfl hS tm rfl rfl rfl rfl (Or.inl rfl) (by decide) (by omega) (by omega) (fun h15 sh15 eh15 fh15 => ?_)
            have pr16 := gRn.pt fh15 tm (by decide) hyf8
            refine gz_s 1 (pc' := 50) (L' := [some (.ref m), some (.int (zi a)), some (.int (zi b)), some (.int (zi v)), none]) (S' := [.ref m]) rfl ?_
            refine gs_gtk rfl (by decide) rfl sh15.1 tm rfl rfl eh15 ?_
            refine gy_ifT (pc' := 58) rfl (by decide) (by decide) (by omega) (by first | (simp [zc]; done) | (simp only [zc]; omega)) ?_
            refine gz_s 1 (pc' := 59) (L' := [some (.ref m), some (.int (zi a)), some (.int (zi b)), some (.int (zi v)), none]) (S' := [.ref m]) rfl ?_
            refine gs_gtr rfl (by decide) rfl sh15.1 tm rfl rfl rfl (fun c17 ec17 tc17 => ?_)
            refine gy_s 5 (pc' := 68) (L' := [some (.ref m), some (.int (zi a)), some (.int (zi b)), some (.int (zi v)), none]) (S' := [.int (((zi 64) * (zi a)) + (zi b)), .ref c17]) (L2 := [some (.ref m), some (.int (zi a)), some (.int (zi b)), some (.int (zi v)), none]) (S2 := [.int (zi ((64 * a) + b)), .ref c17]) rfl (by simp only [zi_add, zi_sub, zi_mul, zi_neg, zi_and1, zi_and7, zi_and15, zi_and31, zi_and255]) (by simp only [zi_add, zi_sub, zi_mul, zi_neg, zi_and1, zi_and7, zi_and15, zi_and31, zi_and255]) ?_
            have hl18 : 256 ≤ h15.2.2.2.1 c17 ∧ h15.2.2.2.1 c17 ≤ 256 := gJ.rowl (G := gGG) sh15.1 tc17 rfl
            refine gs_ald rfl (by decide) sh15.1 tc17 rfl rfl rfl (by decide) (fun _ => rfl) (by omega) (by omega) (fun z19 ez19 az19 bz19 => ?_)
            have hf20 := gRn.at (i := (64 * a) + b) (z := z19) pr16 tc17 ez19 (by omega) (by omega) (by omega)
            have hfx : z19 = f (a * 64 + b).toNat := ((congrArg f (by omega)).trans hf20).symm
            refine gz_s 2 (pc' := 72) (L' := [some (.ref m), some (.int (zi a)), some (.int (zi b)), some (.int (zi v)), some (.int (zi z19))]) (S' := [.ref m]) rfl ?_
            refine gs_gtk rfl (by decide) rfl sh15.1 tm rfl rfl ec17 ?_
            refine gy_s 7 (pc' := 83) (L' := [some (.ref m), some (.int (zi a)), some (.int (zi b)), some (.int (zi v)), some (.int (zi z19))]) (S' := [.int (zi (-1)), .int (zi v), .int (((zi 64) * (zi a)) + (zi b)), .ref c17]) (L2 := [some (.ref m), some (.int (zi a)), some (.int (zi b)), some (.int (zi v)), some (.int (zi z19))]) (S2 := [.int (zi (-1)), .int (zi v), .int (zi ((64 * a) + b)), .ref c17]) rfl (by simp only [zi_add, zi_sub, zi_mul, zi_neg, zi_and1, zi_and7, zi_and15, zi_and31, zi_and255]) (by simp only [zi_add, zi_sub, zi_mul, zi_neg, zi_and1, zi_and7, zi_and15, zi_and31, zi_and255]) ?_
            refine gy_icF rfl (by decide) (by decide) (by omega) (by omega) (by first | (simp [zc]; done) | (simp only [zc]; omega)) ?_
            refine gz_s 2 (pc' := 92) (L' := [some (.ref m), some (.int (zi a)), some (.int (zi b)), some (.int (zi v)), some (.int (zi z19))]) (S' := [.int (zi z19), .int (zi ((64 * a) + b)), .ref c17]) rfl ?_
            have hl21 : 256 ≤ h15.2.2.2.1 c17 ∧ h15.2.2.2.1 c17 ≤ 256 := gJ.rowl (G := gGG) sh15.1 tc17 rfl
            refine gs_ast rfl (by decide) sh15 tc17 rfl rfl rfl (by decide) (fun _ => rfl) (by omega) (by omega) (fun _ => (by decide : (8999 : Nat) ∈ ([1000, 8999] : List Nat))) (by omega) (by omega) (fun h22 sh22 eh22 fh22 => ?_)
            have pr23 := gRn.put (i := (64 * a) + b) (z := z19) uq tc17 (by decide) fh22 eh22 (by omega) (by omega) pr16
            have s24 := (fh22 m 0 (fun q => absurd (((tm).symm.trans (congrArg ty q.1)).trans tc17) (by decide))).trans eh15
            have s25 := (fh22 m 13 (fun q => absurd (((tm).symm.trans (congrArg ty q.1)).trans tc17) (by decide))).trans ec17
            have pr26 := gEl.set (i := (64 * a) + b) (z := z19) uq tc17 (by decide) eh22 (by omega) (by omega)
            refine gz_s 1 (pc' := 95) (L' := [some (.ref m), some (.int (zi a)), some (.int (zi b)), some (.int (zi v)), some (.int (zi z19))]) (S' := [.int (zi z19)]) rfl ?_
            have hrw27 : gRn 256 ty 8 (gVt f a b v) h22 := gVt.s (by omega) hf20 pr23
            exact gz_end (I := .ireturn) (len := 1) rfl (Or.inl rfl) ⟨sh22, z19, 0, rfl, (by omega), (by omega), s24, (by omega), (by omega), (by omega), (by omega), (by omega), hrw27⟩
          · refine gy_icF rfl (by decide) (by decide) (by omega) (by omega) hc14 ?_
            refine gz_s 2 (pc' := 31) (L' := [some (.ref m), some (.int (zi a)), some (.int (zi b)), some (.int (zi v)), none]) (S' := [.int (zi 1), .int (zi v), .ref m]) rfl ?_
            by_cases hc28 : (v : Int) < 1
            · refine gy_icT (pc' := 41) rfl (by decide) (by decide) (by omega) (by omega) hc28 ?_
              refine gz_s 2 (pc' := 46) (L' := [some (.ref m), some (.int (zi a)), some (.int (zi b)), some (.int (zi v)), none]) (S' := [.int (zi 2), .ref m]) rfl ?_
              refine gs_put rfl (by decide) rfl hS tm rfl rfl rfl rfl (Or.inl rfl) (by decide) (by omega) (by omega) (fun h29 sh29 eh29 fh29 => ?_)
              have pr30 := gRn.pt fh29 tm (by decide) hyf8
              refine gz_s 1 (pc' := 50) (L' := [some (.ref m), some (.int (zi a)), some (.int (zi b)), some (.int (zi v)), none]) (S' := [.ref m]) rfl ?_
              refine gs_gtk rfl (by decide) rfl sh29.1 tm rfl rfl eh29 ?_
              refine gy_ifF rfl (by decide) (by decide) (by omega) (by first | (simp [zc]; done) | (simp only [zc]; omega)) ?_
              refine gz_s 1 (pc' := 57) (L' := [some (.ref m), some (.int (zi a)), some (.int (zi b)), some (.int (zi v)), none]) (S' := [.int (zi 0)]) rfl ?_
              have hrw31 : gRn 256 ty 8 (gVt f a b v) h29 := gVt.n (by omega) pr30
              exact gz_end (I := .ireturn) (len := 1) rfl (Or.inl rfl) ⟨sh29, 0, 2, rfl, (by omega), (by omega), eh29, (by omega), (by omega), (by omega), (by omega), (by omega), hrw31⟩
            · refine gy_icF rfl (by decide) (by decide) (by omega) (by omega) hc28 ?_
              refine gz_s 2 (pc' := 38) (L' := [some (.ref m), some (.int (zi a)), some (.int (zi b)), some (.int (zi v)), none]) (S' := [.int (zi 255), .int (zi v), .ref m]) rfl ?_
              by_cases hc32 : (v : Int) ≤ 255
              · refine gy_icT (pc' := 45) rfl (by decide) (by decide) (by omega) (by omega) hc32 ?_
                refine gz_s 1 (pc' := 46) (L' := [some (.ref m), some (.int (zi a)), some (.int (zi b)), some (.int (zi v)), none]) (S' := [.int (zi 0), .ref m]) rfl ?_
                refine gs_put rfl (by decide) rfl hS tm rfl rfl rfl rfl (Or.inl rfl) (by decide) (by omega) (by omega) (fun h33 sh33 eh33 fh33 => ?_)
                have pr34 := gRn.pt fh33 tm (by decide) hyf8
                refine gz_s 1 (pc' := 50) (L' := [some (.ref m), some (.int (zi a)), some (.int (zi b)), some (.int (zi v)), none]) (S' := [.ref m]) rfl ?_
                refine gs_gtk rfl (by decide) rfl sh33.1 tm rfl rfl eh33 ?_
                refine gy_ifT (pc' := 58) rfl (by decide) (by decide) (by omega) (by first | (simp [zc]; done) | (simp only [zc]; omega)) ?_
                refine gz_s 1 (pc' := 59) (L' := [some (.ref m), some (.int (zi a)), some (.int (zi b)), some (.int (zi v)), none]) (S' := [.ref m]) rfl ?_
                refine gs_gtr rfl (by decide) rfl sh33.1 tm rfl rfl rfl (fun c35 ec35 tc35 => ?_)
                refine gy_s 5 (pc' := 68) (L' := [some (.ref m), some (.int (zi a)), some (.int (zi b)), some (.int (zi v)), none]) (S' := [.int (((zi 64) * (zi a)) + (zi b)), .ref c35]) (L2 := [some (.ref m), some (.int (zi a)), some (.int (zi b)), some (.int (zi v)), none]) (S2 := [.int (zi ((64 * a) + b)), .ref c35]) rfl (by simp only [zi_add, zi_sub, zi_mul, zi_neg, zi_and1, zi_and7, zi_and15, zi_and31, zi_and255]) (by simp only [zi_add, zi_sub, zi_mul, zi_neg, zi_and1, zi_and7, zi_and15, zi_and31, zi_and255]) ?_
                have hl36 : 256 ≤ h33.2.2.2.1 c35 ∧ h33.2.2.2.1 c35 ≤ 256 := gJ.rowl (G := gGG) sh33.1 tc35 rfl
                refine gs_ald rfl (by decide) sh33.1 tc35 rfl rfl rfl (by decide) (fun _ => rfl) (by omega) (by omega) (fun z37 ez37 az37 bz37 => ?_)
                have hf38 := gRn.at (i := (64 * a) + b) (z := z37) pr34 tc35 ez37 (by omega) (by omega) (by omega)
                have hfx : z37 = f (a * 64 + b).toNat := ((congrArg f (by omega)).trans hf38).symm
                refine gz_s 2 (pc' := 72) (L' := [some (.ref m), some (.int (zi a)), some (.int (zi b)), some (.int (zi v)), some (.int (zi z37))]) (S' := [.ref m]) rfl ?_
                refine gs_gtk rfl (by decide) rfl sh33.1 tm rfl rfl ec35 ?_
                refine gy_s 7 (pc' := 83) (L' := [some (.ref m), some (.int (zi a)), some (.int (zi b)), some (.int (zi v)), some (.int (zi z37))]) (S' := [.int (zi (-1)), .int (zi v), .int (((zi 64) * (zi a)) + (zi b)), .ref c35]) (L2 := [some (.ref m), some (.int (zi a)), some (.int (zi b)), some (.int (zi v)), some (.int (zi z37))]) (S2 := [.int (zi (-1)), .int (zi v), .int (zi ((64 * a) + b)), .ref c35]) rfl (by simp only [zi_add, zi_sub, zi_mul, zi_neg, zi_and1, zi_and7, zi_and15, zi_and31, zi_and255]) (by simp only [zi_add, zi_sub, zi_mul, zi_neg, zi_and1, zi_and7, zi_and15, zi_and31, zi_and255]) ?_
                refine gy_icT (pc' := 91) rfl (by decide) (by decide) (by omega) (by omega) (by first | (simp [zc]; done) | (simp only [zc]; omega)) ?_
                refine gz_s 1 (pc' := 92) (L' := [some (.ref m), some (.int (zi a)), some (.int (zi b)), some (.int (zi v)), some (.int (zi z37))]) (S' := [.int (zi v), .int (zi ((64 * a) + b)), .ref c35]) rfl ?_
                have hl39 : 256 ≤ h33.2.2.2.1 c35 ∧ h33.2.2.2.1 c35 ≤ 256 := gJ.rowl (G := gGG) sh33.1 tc35 rfl
                refine gs_ast rfl (by decide) sh33 tc35 rfl rfl rfl (by decide) (fun _ => rfl) (by omega) (by omega) (fun _ => (by decide : (8999 : Nat) ∈ ([1000, 8999] : List Nat))) (by omega) (by omega) (fun h40 sh40 eh40 fh40 => ?_)
                have pr41 := gRn.put (i := (64 * a) + b) (z := v) uq tc35 (by decide) fh40 eh40 (by omega) (by omega) pr34
                have s42 := (fh40 m 0 (fun q => absurd (((tm).symm.trans (congrArg ty q.1)).trans tc35) (by decide))).trans eh33
                have s43 := (fh40 m 13 (fun q => absurd (((tm).symm.trans (congrArg ty q.1)).trans tc35) (by decide))).trans ec35
                have pr44 := gEl.set (i := (64 * a) + b) (z := v) uq tc35 (by decide) eh40 (by omega) (by omega)
                refine gz_s 1 (pc' := 95) (L' := [some (.ref m), some (.int (zi a)), some (.int (zi b)), some (.int (zi v)), some (.int (zi z37))]) (S' := [.int (zi z37)]) rfl ?_
                have hrw45 : gRn 256 ty 8 (gVt f a b v) h40 := gVt.y ⟨⟨by omega, by omega, by omega, by omega⟩, by omega, by omega⟩ (by omega) pr41
                exact gz_end (I := .ireturn) (len := 1) rfl (Or.inl rfl) ⟨sh40, z37, 0, rfl, (by omega), (by omega), s42, (by omega), (by omega), (by omega), (by omega), (by omega), hrw45⟩
              · refine gy_icF rfl (by decide) (by decide) (by omega) (by omega) hc32 ?_
                refine gz_s 2 (pc' := 46) (L' := [some (.ref m), some (.int (zi a)), some (.int (zi b)), some (.int (zi v)), none]) (S' := [.int (zi 2), .ref m]) rfl ?_
                refine gs_put rfl (by decide) rfl hS tm rfl rfl rfl rfl (Or.inl rfl) (by decide) (by omega) (by omega) (fun h46 sh46 eh46 fh46 => ?_)
                have pr47 := gRn.pt fh46 tm (by decide) hyf8
                refine gz_s 1 (pc' := 50) (L' := [some (.ref m), some (.int (zi a)), some (.int (zi b)), some (.int (zi v)), none]) (S' := [.ref m]) rfl ?_
                refine gs_gtk rfl (by decide) rfl sh46.1 tm rfl rfl eh46 ?_
                refine gy_ifF rfl (by decide) (by decide) (by omega) (by first | (simp [zc]; done) | (simp only [zc]; omega)) ?_
                refine gz_s 1 (pc' := 57) (L' := [some (.ref m), some (.int (zi a)), some (.int (zi b)), some (.int (zi v)), none]) (S' := [.int (zi 0)]) rfl ?_
                have hrw48 : gRn 256 ty 8 (gVt f a b v) h46 := gVt.n (by omega) pr47
                exact gz_end (I := .ireturn) (len := 1) rfl (Or.inl rfl) ⟨sh46, 0, 2, rfl, (by omega), (by omega), eh46, (by omega), (by omega), (by omega), (by omega), (by omega), hrw48⟩
        · refine gy_icF rfl (by decide) (by decide) (by omega) (by omega) hc13 ?_
          refine gz_s 2 (pc' := 46) (L' := [some (.ref m), some (.int (zi a)), some (.int (zi b)), some (.int (zi v)), none]) (S' := [.int (zi 1), .ref m]) rfl ?_
          refine gs_put rfl (by decide) rfl hS tm rfl rfl rfl rfl (Or.inl rfl) (by decide) (by omega) (by omega) (fun h49 sh49 eh49 fh49 => ?_)
          have pr50 := gRn.pt fh49 tm (by decide) hyf8
          refine gz_s 1 (pc' := 50) (L' := [some (.ref m), some (.int (zi a)), some (.int (zi b)), some (.int (zi v)), none]) (S' := [.ref m]) rfl ?_
          refine gs_gtk rfl (by decide) rfl sh49.1 tm rfl rfl eh49 ?_
          refine gy_ifF rfl (by decide) (by decide) (by omega) (by first | (simp [zc]; done) | (simp only [zc]; omega)) ?_
          refine gz_s 1 (pc' := 57) (L' := [some (.ref m), some (.int (zi a)), some (.int (zi b)), some (.int (zi v)), none]) (S' := [.int (zi 0)]) rfl ?_
          have hrw51 : gRn 256 ty 8 (gVt f a b v) h49 := gVt.n (by omega) pr50
          exact gz_end (I := .ireturn) (len := 1) rfl (Or.inl rfl) ⟨sh49, 0, 1, rfl, (by omega), (by omega), eh49, (by omega), (by omega), (by omega), (by omega), (by omega), hrw51⟩
set_option maxRecDepth 20000 in
set_option maxHeartbeats 4000000 in
theorem mm_point3 (d : Nat) {ty : Nat → Nat} {h : gH} (hJ : gJ rT 1027 ty h) (m : Nat) (tm : ty m = 1) (a : Int) (ra : (-2147483648) ≤ a ∧ a ≤ 2147483647) (b : Int) (rb : (-2147483648) ≤ b ∧ b ≤ 2147483647) (v : Int) (rv : (-2147483648) ≤ v ∧ v ≤ 2147483647) (cw : Int) (ecw : h.2.2.2.2 m 50 = .int (zi cw)) (rcw : 0 ≤ cw ∧ cw ≤ 32) (ch : Int) (ech : h.2.2.2.2 m 51 = .int (zi ch)) (rch : 0 ≤ ch ∧ ch ≤ 32) (f : Nat → Int) (pp0 : cw = 0 ↔ ch = 0) (uq : gUq ty) (hyf26 : gRn 1024 ty 26 f h) : gz gPP gGG gcn (d + 0) gt180 0 (gent [.ref m, .int (zi a), .int (zi b), .int (zi v)] 5) [] h (fun q _ => gSs rT 1027 ty [1000, 1050, 1051, 26999] h q.2.2 ∧ ∃ z cw1 ch1 th : Int, gfin gt180 q.1 q.2.1 = some (some (.int (zi z))) ∧ 0 ≤ z ∧ z ≤ 255 ∧ q.2.2.2.2.2.2 m 50 = .int (zi cw1) ∧ 0 ≤ cw1 ∧ cw1 ≤ 32 ∧ q.2.2.2.2.2.2 m 51 = .int (zi ch1) ∧ 0 ≤ ch1 ∧ ch1 ≤ 32 ∧ q.2.2.2.2.2.2 m 0 = .int (zi th) ∧ 0 ≤ th ∧ th ≤ 2 ∧ (cw1 = 0 ↔ ch1 = 0) ∧ ((0 ≤ a ∧ a ≤ 31 ∧ 0 ≤ b ∧ b ≤ 31 ∧ 0 ≤ v ∧ v ≤ 255) → (z = f (b * 32 + a).toNat ∧ th = 0)) ∧ (¬ (0 ≤ a ∧ a ≤ 31 ∧ 0 ≤ b ∧ b ≤ 31) → th = 1) ∧ ((0 ≤ a ∧ a ≤ 31 ∧ 0 ≤ b ∧ b ≤ 31 ∧ ¬ (0 ≤ v ∧ v ≤ 255)) → th = 2) ∧ ((0 ≤ a ∧ a ≤ 31 ∧ 0 ≤ b ∧ b ≤ 31 ∧ 0 ≤ v ∧ v ≤ 255) → ((a < cw → cw1 = cw) ∧ (cw ≤ a → cw1 = a + 1) ∧ (b < ch → ch1 = ch) ∧ (ch ≤ b → ch1 = b + 1))) ∧ (¬ (0 ≤ a ∧ a ≤ 31 ∧ 0 ≤ b ∧ b ≤ 31 ∧ 0 ≤ v ∧ v ≤ 255) → (cw1 = cw ∧ ch1 = ch)) ∧ (gRn 1024 ty 26 (gVp f a b v) q.2.2)) := by
  have hS : gSs rT 1027 ty [1000, 1050, 1051, 26999] h h := gSs.rf hJ
  refine gz_s 2 (pc' := 2) (L' := [some (.ref m), some (.int (zi a)), some (.int (zi b)), some (.int (zi v)), none]) (S' := [.int (zi a), .ref m]) rfl ?_
  by_cases hc1 : (a : Int) < 0
  · refine gy_ifT (pc' := 21) rfl (by decide) (by decide) (by omega) hc1 ?_
    refine gz_s 2 (pc' := 41) (L' := [some (.ref m), some (.int (zi a)), some (.int (zi b)), some (.int (zi v)), none]) (S' := [.int (zi 1), .ref m]) rfl ?_
    refine gs_put rfl (by decide) rfl hS tm rfl rfl rfl rfl (Or.inl rfl) (by decide) (by omega) (by omega) (fun h2 sh2 eh2 fh2 => ?_)
    have pr3 := gRn.pt fh2 tm (by decide) hyf26
    have s4 := (fh2 m 50 (fun q => absurd q.2 (by decide))).trans ecw
    have s5 := (fh2 m 51 (fun q => absurd q.2 (by decide))).trans ech
    refine gz_s 1 (pc' := 45) (L' := [some (.ref m), some (.int (zi a)), some (.int (zi b)), some (.int (zi v)), none]) (S' := [.ref m]) rfl ?_
    refine gs_gtk rfl (by decide) rfl sh2.1 tm rfl rfl eh2 ?_
    refine gy_ifF rfl (by decide) (by decide) (by omega) (by first | (simp [zc]; done) | (simp only [zc]; omega)) ?_
    refine gz_s 1 (pc' := 52) (L' := [some (.ref m), some (.int (zi a)), some (.int (zi b)), some (.int (zi v)), none]) (S' := [.int (zi 0)]) rfl ?_
    have hrw6 : gRn 1024 ty 26 (gVp f a b v) h2 := gVp.n (by omega) pr3
    exact gz_end (I := .ireturn) (len := 1) rfl (Or.inl rfl) ⟨sh2, 0, cw, ch, 1, rfl, (by omega), (by omega), s4, (by omega), (by omega), s5, (by omega), (by omega), eh2, (by omega), (by omega), (by omega), (by omega), (by omega), (by omega), (by omega), (by omega), hrw6⟩
  · refine gy_ifF rfl (by decide) (by decide) (by omega) hc1 ?_
    refine gz_s 2 (pc' := 8) (L' := [some (.ref m), some (.int (zi a)), some (.int (zi b)), some (.int (zi v)), none]) (S' := [.int (zi 31), .int (zi a), .ref m]) rfl ?_
    by_cases hc7 : (31 : Int) < a
    · refine gy_icT (pc' := 21) rfl (by decide) (by decide) (by omega) (by omega) hc7 ?_
      refine gz_s 2 (pc' := 41) (L' := [some (.ref m), some (.int (zi a)), some (.int (zi b)), some (.int (zi v)), none]) (S' := [.int (zi 1), .ref m]) rfl ?_
      refine gs_put rfl (by decide) rfl hS tm rfl rfl rfl rfl (Or.inl rfl) (by decide) (by omega) (by omega) (fun h8 sh8 eh8 fh8 => ?_)
      have pr9 := gRn.pt fh8 tm (by decide) hyf26
      have s10 := (fh8 m 50 (fun q => absurd q.2 (by decide))).trans ecw
      have s11 := (fh8 m 51 (fun q => absurd q.2 (by decide))).trans ech
      refine gz_s 1 (pc' := 45) (L' := [some (.ref m), some (.int (zi a)), some (.int (zi b)), some (.int (zi v)), none]) (S' := [.ref m]) rfl ?_
      refine gs_gtk rfl (by decide) rfl sh8.1 tm rfl rfl eh8 ?_
      refine gy_ifF rfl (by decide) (by decide) (by omega) (by first | (simp [zc]; done) | (simp only [zc]; omega)) ?_
      refine gz_s 1 (pc' := 52) (L' := [some (.ref m), some (.int (zi a)), some (.int (zi b)), some (.int (zi v)), none]) (S' := [.int (zi 0)]) rfl ?_
      have hrw12 : gRn 1024 ty 26 (gVp f a b v) h8 := gVp.n (by omega) pr9
      exact gz_end (I := .ireturn) (len := 1) rfl (Or.inl rfl) ⟨sh8, 0, cw, ch, 1, rfl, (by omega), (by omega), s10, (by omega), (by omega), s11, (by omega), (by omega), eh8, (by omega), (by omega), (by omega), (by omega), (by omega), (by omega), (by omega), (by omega), hrw12⟩
    · refine gy_icF rfl (by decide) (by decide) (by omega) (by omega) hc7 ?_
      refine gz_s 1 (pc' := 12) (L' := [some (.ref m), some (.int (zi a)), some (.int (zi b)), some (.int (zi v)), none]) (S' := [.int (zi b), .ref m]) rfl ?_
      by_cases hc13 : (b : Int) < 0
      · refine gy_ifT (pc' := 21) rfl (by decide) (by decide) (by omega) hc13 ?_
        refine gz_s 2 (pc' := 41) (L' := [some (.ref m), some (.int (zi a)), some (.int (zi b)), some (.int (zi v)), none]) (S' := [.int (zi 1), .ref m]) rfl ?_
        refine gs_put rfl (by decide) rfl hS tm rfl rfl rfl rfl (Or.inl rfl) (by decide) (by omega) (by omega) (fun h14 sh14 eh14 fh14 => ?_)
        have pr15 := gRn.pt fh14 tm (by decide) hyf26
        have s16 := (fh14 m 50 (fun q => absurd q.2 (by decide))).trans ecw
        have s17 := (fh14 m 51 (fun q => absurd q.2 (by decide))).trans ech
        refine gz_s 1 (pc' := 45) (L' := [some (.ref m), some (.int (zi a)), some (.int (zi b)), some (.int (zi v)), none]) (S' := [.ref m]) rfl ?_
        refine gs_gtk rfl (by decide) rfl sh14.1 tm rfl rfl eh14 ?_
        refine gy_ifF rfl (by decide) (by decide) (by omega) (by first | (simp [zc]; done) | (simp only [zc]; omega)) ?_
        refine gz_s 1 (pc' := 52) (L' := [some (.ref m), some (.int (zi a)), some (.int (zi b)), some (.int (zi v)), none]) (S' := [.int (zi 0)]) rfl ?_
        have hrw18 : gRn 1024 ty 26 (gVp f a b v) h14 := gVp.n (by omega) pr15
        exact gz_end (I := .ireturn) (len := 1) rfl (Or.inl rfl) ⟨sh14, 0, cw, ch, 1, rfl, (by omega), (by omega), s16, (by omega), (by omega), s17, (by omega), (by omega), eh14, (by omega), (by omega), (by omega), (by omega), (by omega), (by omega), (by omega), (by omega), hrw18⟩
      · refine gy_ifF rfl (by decide) (by decide) (by omega) hc13 ?_
        refine gz_s 2 (pc' := 18) (L' := [some (.ref m), some (.int (zi a)), some (.int (zi b)), some (.int (zi v)), none]) (S' := [.int (zi 31), .int (zi b), .ref m]) rfl ?_
        by_cases hc19 : (b : Int) ≤ 31
        · refine gy_icT (pc' := 25) rfl (by decide) (by decide) (by omega) (by omega) hc19 ?_
          refine gz_s 1 (pc' := 26) (L' := [some (.ref m), some (.int (zi a)), some (.int (zi b)), some (.int (zi v)), none]) (S' := [.int (zi v), .ref m]) rfl ?_
          by_cases hc20 : (v : Int) < 0
          · refine gy_ifT (pc' := 36) rfl (by decide) (by decide) (by omega) hc20 ?_
            refine gz_s 2 (pc' := 41) (L' := [some (.ref m), some (.int (zi a)), some (.int (zi b)), some (.int (zi v)), none]) (S' := [.int (zi 2), .ref m]) rfl ?_
            refine gs_put rfl (by decide) rfl hS tm rfl rfl rfl rfl (Or.inl rfl) (by decide) (by omega) (by omega) (fun h21 sh21 eh21 fh21 => ?_)
            have pr22 := gRn.pt fh21 tm (by decide) hyf26
            have s23 := (fh21 m 50 (fun q => absurd q.2 (by decide))).trans ecw
            have s24 := (fh21 m 51 (fun q => absurd q.2 (by decide))).trans ech
            refine gz_s 1 (pc' := 45) (L' := [some (.ref m), some (.int (zi a)), some (.int (zi b)), some (.int (zi v)), none]) (S' := [.ref m]) rfl ?_
            refine gs_gtk rfl (by decide) rfl sh21.1 tm rfl rfl eh21 ?_
            refine gy_ifF rfl (by decide) (by decide) (by omega) (by first | (simp [zc]; done) | (simp only [zc]; omega)) ?_
            refine gz_s 1 (pc' := 52) (L' := [some (.ref m), some (.int (zi a)), some (.int (zi b)), some (.int (zi v)), none]) (S' := [.int (zi 0)]) rfl ?_
            have hrw25 : gRn 1024 ty 26 (gVp f a b v) h21 := gVp.n (by omega) pr22
            exact gz_end (I := .ireturn) (len := 1) rfl (Or.inl rfl) ⟨sh21, 0, cw, ch, 2, rfl, (by omega), (by omega), s23, (by omega), (by omega), s24, (by omega), (by omega), eh21, (by omega), (by omega), (by omega), (by omega), (by omega), (by omega), (by omega), (by omega), hrw25⟩
          · refine gy_ifF rfl (by decide) (by decide) (by omega) hc20 ?_
            refine gz_s 2 (pc' := 33) (L' := [some (.ref m), some (.int (zi a)), some (.int (zi b)), some (.int (zi v)), none]) (S' := [.int (zi 255), .int (zi v), .ref m]) rfl ?_
            by_cases hc26 : (v : Int) ≤ 255
            · refine gy_icT (pc' := 40) rfl (by decide) (by decide) (by omega) (by omega) hc26 ?_
              refine gz_s 1 (pc' := 41) (L' := [some (.ref m), some (.int (zi a)), some (.int (zi b)), some (.int (zi v)), none]) (S' := [.int (zi 0), .ref m]) rfl ?_
              refine gs_put rfl (by decide) rfl hS tm rfl rfl rfl rfl (Or.inl rfl) (by decide) (by omega) (by omega) (fun h27 sh27 eh27 fh27 => ?_)
              have pr28 := gRn.pt fh27 tm (by decide) hyf26
              have s29 := (fh27 m 50 (fun q => absurd q.2 (by decide))).trans ecw
              have s30 := (fh27 m 51 (fun q => absurd q.2 (by decide))).trans ech
              refine gz_s 1 (pc' := 45) (L' := [some (.ref m), some (.int (zi a)), some (.int (zi b)), some (.int (zi v)), none]) (S' := [.ref m]) rfl ?_
              refine gs_gtk rfl (by decide) rfl sh27.1 tm rfl rfl eh27 ?_
              refine gy_ifT (pc' := 53) rfl (by decide) (by decide) (by omega) (by first | (simp [zc]; done) | (simp only [zc]; omega)) ?_
              refine gz_s 1 (pc' := 54) (L' := [some (.ref m), some (.int (zi a)), some (.int (zi b)), some (.int (zi v)), none]) (S' := [.ref m]) rfl ?_
              refine gs_gtr rfl (by decide) rfl sh27.1 tm rfl rfl rfl (fun c31 ec31 tc31 => ?_)
              refine gy_s 5 (pc' := 63) (L' := [some (.ref m), some (.int (zi a)), some (.int (zi b)), some (.int (zi v)), none]) (S' := [.int (((zi 32) * (zi b)) + (zi a)), .ref c31]) (L2 := [some (.ref m), some (.int (zi a)), some (.int (zi b)), some (.int (zi v)), none]) (S2 := [.int (zi ((32 * b) + a)), .ref c31]) rfl (by simp only [zi_add, zi_sub, zi_mul, zi_neg, zi_and1, zi_and7, zi_and15, zi_and31, zi_and255]) (by simp only [zi_add, zi_sub, zi_mul, zi_neg, zi_and1, zi_and7, zi_and15, zi_and31, zi_and255]) ?_
              have hl32 : 1024 ≤ h27.2.2.2.1 c31 ∧ h27.2.2.2.1 c31 ≤ 1024 := gJ.rowl (G := gGG) sh27.1 tc31 rfl
              refine gs_ald rfl (by decide) sh27.1 tc31 rfl rfl rfl (by decide) (fun _ => rfl) (by omega) (by omega) (fun z33 ez33 az33 bz33 => ?_)
              have hf34 := gRn.at (i := (32 * b) + a) (z := z33) pr28 tc31 ez33 (by omega) (by omega) (by omega)
              have hfx : z33 = f (b * 32 + a).toNat := ((congrArg f (by omega)).trans hf34).symm
              refine gz_s 2 (pc' := 67) (L' := [some (.ref m), some (.int (zi a)), some (.int (zi b)), some (.int (zi v)), some (.int (zi z33))]) (S' := [.ref m]) rfl ?_
              refine gs_gtk rfl (by decide) rfl sh27.1 tm rfl rfl ec31 ?_
              refine gy_s 6 (pc' := 77) (L' := [some (.ref m), some (.int (zi a)), some (.int (zi b)), some (.int (zi v)), some (.int (zi z33))]) (S' := [.int (zi v), .int (((zi 32) * (zi b)) + (zi a)), .ref c31]) (L2 := [some (.ref m), some (.int (zi a)), some (.int (zi b)), some (.int (zi v)), some (.int (zi z33))]) (S2 := [.int (zi v), .int (zi ((32 * b) + a)), .ref c31]) rfl (by simp only [zi_add, zi_sub, zi_mul, zi_neg, zi_and1, zi_and7, zi_and15, zi_and31, zi_and255]) (by simp only [zi_add, zi_sub, zi_mul, zi_neg, zi_and1, zi_and7, zi_and15, zi_and31, zi_and255]) ?_
              have hl35 : 1024 ≤ h27.2.2.2.1 c31 ∧ h27.2.2.2.1 c31 ≤ 1024 := gJ.rowl (G := gGG) sh27.1 tc31 rfl
              refine gs_ast rfl (by decide) sh27 tc31 rfl rfl rfl (by decide) (fun _ => rfl) (by omega) (by omega) (fun _ => (by decide : (26999 : Nat) ∈ ([1000, 1050, 1051, 26999] : List Nat))) (by omega) (by omega) (fun h36 sh36 eh36 fh36 => ?_)
              have pr37 := gRn.put (i := (32 * b) + a) (z := v) uq tc31 (by decide) fh36 eh36 (by omega) (by omega) pr28
              have s38 := (fh36 m 50 (fun q => absurd (((tm).symm.trans (congrArg ty q.1)).trans tc31) (by decide))).trans s29
              have s39 := (fh36 m 51 (fun q => absurd (((tm).symm.trans (congrArg ty q.1)).trans tc31) (by decide))).trans s30
              have s40 := (fh36 m 0 (fun q => absurd (((tm).symm.trans (congrArg ty q.1)).trans tc31) (by decide))).trans eh27
              have s41 := (fh36 m 49 (fun q => absurd (((tm).symm.trans (congrArg ty q.1)).trans tc31) (by decide))).trans ec31
              have pr42 := gEl.set (i := (32 * b) + a) (z := v) uq tc31 (by decide) eh36 (by omega) (by omega)
              refine gz_s 3 (pc' := 81) (L' := [some (.ref m), some (.int (zi a)), some (.int (zi b)), some (.int (zi v)), some (.int (zi z33))]) (S' := [.ref m, .int (zi a), .ref m]) rfl ?_
              refine gs_gtk rfl (by decide) rfl sh36.1 tm rfl rfl s38 ?_
              by_cases hc43 : (a : Int) < cw
              · refine gy_icT (pc' := 93) rfl (by decide) (by decide) (by omega) (by omega) hc43 ?_
                refine gz_s 1 (pc' := 94) (L' := [some (.ref m), some (.int (zi a)), some (.int (zi b)), some (.int (zi v)), some (.int (zi z33))]) (S' := [.ref m, .ref m]) rfl ?_
                refine gs_gtk rfl (by decide) rfl sh36.1 tm rfl rfl s38 ?_
                refine gs_put rfl (by decide) rfl sh36 tm rfl rfl rfl rfl (Or.inl rfl) (by decide) (by omega) (by omega) (fun h44 sh44 eh44 fh44 => ?_)
                have pr45 := gRn.pt fh44 tm (by decide) pr37
                have pr46 := gEl.pt fh44 tm (by decide) pr42
                have s47 := (fh44 m 51 (fun q => absurd q.2 (by decide))).trans s39
                have s48 := (fh44 m 0 (fun q => absurd q.2 (by decide))).trans s40
                have s49 := (fh44 m 49 (fun q => absurd q.2 (by decide))).trans s41
                refine gz_s 3 (pc' := 103) (L' := [some (.ref m), some (.int (zi a)), some (.int (zi b)), some (.int (zi v)), some (.int (zi z33))]) (S' := [.ref m, .int (zi b), .ref m]) rfl ?_
                refine gs_gtk rfl (by decide) rfl sh44.1 tm rfl rfl s47 ?_
                by_cases hc50 : (b : Int) < ch
                · refine gy_icT (pc' := 115) rfl (by decide) (by decide) (by omega) (by omega) hc50 ?_
                  refine gz_s 1 (pc' := 116) (L' := [some (.ref m), some (.int (zi a)), some (.int (zi b)), some (.int (zi v)), some (.int (zi z33))]) (S' := [.ref m, .ref m]) rfl ?_
                  refine gs_gtk rfl (by decide) rfl sh44.1 tm rfl rfl s47 ?_
                  refine gs_put rfl (by decide) rfl sh44 tm rfl rfl rfl rfl (Or.inl rfl) (by decide) (by omega) (by omega) (fun h51 sh51 eh51 fh51 => ?_)
                  have pr52 := gRn.pt fh51 tm (by decide) pr45
                  have pr53 := gEl.pt fh51 tm (by decide) pr46
                  have s54 := (fh51 m 0 (fun q => absurd q.2 (by decide))).trans s48
                  have s55 := (fh51 m 49 (fun q => absurd q.2 (by decide))).trans s49
                  have s56 := (fh51 m 50 (fun q => absurd q.2 (by decide))).trans eh44
                  refine gz_s 1 (pc' := 124) (L' := [some (.ref m), some (.int (zi a)), some (.int (zi b)), some (.int (zi v)), some (.int (zi z33))]) (S' := [.int (zi z33)]) rfl ?_
                  have hrw57 : gRn 1024 ty 26 (gVp f a b v) h51 := gVp.y ⟨⟨by omega, by omega, by omega, by omega⟩, by omega, by omega⟩ (by omega) pr52
                  exact gz_end (I := .ireturn) (len := 1) rfl (Or.inl rfl) ⟨sh51, z33, cw, ch, 0, rfl, (by omega), (by omega), s56, (by omega), (by omega), eh51, (by omega), (by omega), s54, (by omega), (by omega), (by omega), (by omega), (by omega), (by omega), (by omega), (by omega), hrw57⟩
                · refine gy_icF rfl (by decide) (by decide) (by omega) (by omega) hc50 ?_
                  refine gy_s 4 (pc' := 119) (L' := [some (.ref m), some (.int (zi a)), some (.int (zi b)), some (.int (zi v)), some (.int (zi z33))]) (S' := [.int ((zi b) + (zi 1)), .ref m]) (L2 := [some (.ref m), some (.int (zi a)), some (.int (zi b)), some (.int (zi v)), some (.int (zi z33))]) (S2 := [.int (zi (b + 1)), .ref m]) rfl (by simp only [zi_add, zi_sub, zi_mul, zi_neg, zi_and1, zi_and7, zi_and15, zi_and31, zi_and255]) (by simp only [zi_add, zi_sub, zi_mul, zi_neg, zi_and1, zi_and7, zi_and15, zi_and31, zi_and255]) ?_
                  refine gs_put rfl (by decide) rfl sh44 tm rfl rfl rfl rfl (Or.inl rfl) (by decide) (by omega) (by omega) (fun h58 sh58 eh58 fh58 => ?_)
                  have pr59 := gRn.pt fh58 tm (by decide) pr45
                  have pr60 := gEl.pt fh58 tm (by decide) pr46
                  have s61 := (fh58 m 0 (fun q => absurd q.2 (by decide))).trans s48
                  have s62 := (fh58 m 49 (fun q => absurd q.2 (by decide))).trans s49
                  have s63 := (fh58 m 50 (fun q => absurd q.2 (by decide))).trans eh44
                  refine gz_s 1 (pc' := 124) (L' := [some (.ref m), some (.int (zi a)), some (.int (zi b)), some (.int (zi v)), some (.int (zi z33))]) (S' := [.int (zi z33)]) rfl ?_
                  have hrw64 : gRn 1024 ty 26 (gVp f a b v) h58 := gVp.y ⟨⟨by omega, by omega, by omega, by omega⟩, by omega, by omega⟩ (by omega) pr59
                  exact gz_end (I := .ireturn) (len := 1) rfl (Or.inl rfl) ⟨sh58, z33, cw, b + 1, 0, rfl, (by omega), (by omega), s63, (by omega), (by omega), eh58, (by omega), (by omega), s61, (by omega), (by omega), (by omega), (by omega), (by omega), (by omega), (by omega), (by omega), hrw64⟩
              · refine gy_icF rfl (by decide) (by decide) (by omega) (by omega) hc43 ?_
                refine gy_s 4 (pc' := 97) (L' := [some (.ref m), some (.int (zi a)), some (.int (zi b)), some (.int (zi v)), some (.int (zi z33))]) (S' := [.int ((zi a) + (zi 1)), .ref m]) (L2 := [some (.ref m), some (.int (zi a)), some (.int (zi b)), some (.int (zi v)), some (.int (zi z33))]) (S2 := [.int (zi (a + 1)), .ref m]) rfl (by simp only [zi_add, zi_sub, zi_mul, zi_neg, zi_and1, zi_and7, zi_and15, zi_and31, zi_and255]) (by simp only [zi_add, zi_sub, zi_mul, zi_neg, zi_and1, zi_and7, zi_and15, zi_and31, zi_and255]) ?_
                refine gs_put rfl (by decide) rfl sh36 tm rfl rfl rfl rfl (Or.inl rfl) (by decide) (by omega) (by omega) (fun h65 sh65 eh65 fh65 => ?_)
                have pr66 := gRn.pt fh65 tm (by decide) pr37
                have pr67 := gEl.pt fh65 tm (by decide) pr42
                have s68 := (fh65 m 51 (fun q => absurd q.2 (by decide))).trans s39
                have s69 := (fh65 m 0 (fun q => absurd q.2 (by decide))).trans s40
                have s70 := (fh65 m 49 (fun q => absurd q.2 (by decide))).trans s41
                refine gz_s 3 (pc' := 103) (L' := [some (.ref m), some (.int (zi a)), some (.int (zi b)), some (.int (zi v)), some (.int (zi z33))]) (S' := [.ref m, .int (zi b), .ref m]) rfl ?_
                refine gs_gtk rfl (by decide) rfl sh65.1 tm rfl rfl s68 ?_
                by_cases hc71 : (b : Int) < ch
                · refine gy_icT (pc' := 115) rfl (by decide) (by decide) (by omega) (by omega) hc71 ?_
                  refine gz_s 1 (pc' := 116) (L' := [some (.ref m), some (.int (zi a)), some (.int (zi b)), some (.int (zi v)), some (.int (zi z33))]) (S' := [.ref m, .ref m]) rfl ?_
                  refine gs_gtk rfl (by decide) rfl sh65.1 tm rfl rfl s68 ?_
                  refine gs_put rfl (by decide) rfl sh65 tm rfl rfl rfl rfl (Or.inl rfl) (by decide) (by omega) (by omega) (fun h72 sh72 eh72 fh72 => ?_)
                  have pr73 := gRn.pt fh72 tm (by decide) pr66
                  have pr74 := gEl.pt fh72 tm (by decide) pr67
                  have s75 := (fh72 m 0 (fun q => absurd q.2 (by decide))).trans s69
                  have s76 := (fh72 m 49 (fun q => absurd q.2 (by decide))).trans s70
                  have s77 := (fh72 m 50 (fun q => absurd q.2 (by decide))).trans eh65
                  refine gz_s 1 (pc' := 124) (L' := [some (.ref m), some (.int (zi a)), some (.int (zi b)), some (.int (zi v)), some (.int (zi z33))]) (S' := [.int (zi z33)]) rfl ?_
                  have hrw78 : gRn 1024 ty 26 (gVp f a b v) h72 := gVp.y ⟨⟨by omega, by omega, by omega, by omega⟩, by omega, by omega⟩ (by omega) pr73
                  exact gz_end (I := .ireturn) (len := 1) rfl (Or.inl rfl) ⟨sh72, z33, a + 1, ch, 0, rfl, (by omega), (by omega), s77, (by omega), (by omega), eh72, (by omega), (by omega), s75, (by omega), (by omega), (by omega), (by omega), (by omega), (by omega), (by omega), (by omega), hrw78⟩
                · refine gy_icF rfl (by decide) (by decide) (by omega) (by omega) hc71 ?_
                  refine gy_s 4 (pc' := 119) (L' := [some (.ref m), some (.int (zi a)), some (.int (zi b)), some (.int (zi v)), some (.int (zi z33))]) (S' := [.int ((zi b) + (zi 1)), .ref m]) (L2 := [some (.ref m), some (.int (zi a)), some (.int (zi b)), some (.int (zi v)), some (.int (zi z33))]) (S2 := [.int (zi (b + 1)), .ref m]) rfl (by simp only [zi_add, zi_sub, zi_mul, zi_neg, zi_and1, zi_and7, zi_and15, zi_and31, zi_and255]) (by simp only [zi_add, zi_sub, zi_mul, zi_neg, zi_and1, zi_and7, zi_and15, zi_and31, zi_and255]) ?_
                  refine gs_put rfl (by decide) rfl sh65 tm rfl rfl rfl rfl (Or.inl rfl) (by decide) (by omega) (by omega) (fun h79 sh79 eh79 fh79 => ?_)
                  have pr80 := gRn.pt fh79 tm (by decide) pr66
                  have pr81 := gEl.pt fh79 tm (by decide) pr67
                  have s82 := (fh79 m 0 (fun q => absurd q.2 (by decide))).trans s69
                  have s83 := (fh79 m 49 (fun q => absurd q.2 (by decide))).trans s70
                  have s84 := (fh79 m 50 (fun q => absurd q.2 (by decide))).trans eh65
                  refine gz_s 1 (pc' := 124) (L' := [some (.ref m), some (.int (zi a)), some (.int (zi b)), some (.int (zi v)), some (.int (zi z33))]) (S' := [.int (zi z33)]) rfl ?_
                  have hrw85 : gRn 1024 ty 26 (gVp f a b v) h79 := gVp.y ⟨⟨by omega, by omega, by omega, by omega⟩, by omega, by omega⟩ (by omega) pr80
                  exact gz_end (I := .ireturn) (len := 1) rfl (Or.inl rfl) ⟨sh79, z33, a + 1, b + 1, 0, rfl, (by omega), (by omega), s84, (by omega), (by omega), eh79, (by omega), (by omega), s82, (by omega), (by omega), (by omega), (by omega), (by omega), (by omega), (by omega), (by omega), hrw85⟩
            · refine gy_icF rfl (by decide) (by decide) (by omega) (by omega) hc26 ?_
              refine gz_s 2 (pc' := 41) (L' := [some (.ref m), some (.int (zi a)), some (.int (zi b)), some (.int (zi v)), none]) (S' := [.int (zi 2), .ref m]) rfl ?_
              refine gs_put rfl (by decide) rfl hS tm rfl rfl rfl rfl (Or.inl rfl) (by decide) (by omega) (by omega) (fun h86 sh86 eh86 fh86 => ?_)
              have pr87 := gRn.pt fh86 tm (by decide) hyf26
              have s88 := (fh86 m 50 (fun q => absurd q.2 (by decide))).trans ecw
              have s89 := (fh86 m 51 (fun q => absurd q.2 (by decide))).trans ech
              refine gz_s 1 (pc' := 45) (L' := [some (.ref m), some (.int (zi a)), some (.int (zi b)), some (.int (zi v)), none]) (S' := [.ref m]) rfl ?_
              refine gs_gtk rfl (by decide) rfl sh86.1 tm rfl rfl eh86 ?_
              refine gy_ifF rfl (by decide) (by decide) (by omega) (by first | (simp [zc]; done) | (simp only [zc]; omega)) ?_
              refine gz_s 1 (pc' := 52) (L' := [some (.ref m), some (.int (zi a)), some (.int (zi b)), some (.int (zi v)), none]) (S' := [.int (zi 0)]) rfl ?_
              have hrw90 : gRn 1024 ty 26 (gVp f a b v) h86 := gVp.n (by omega) pr87
              exact gz_end (I := .ireturn) (len := 1) rfl (Or.inl rfl) ⟨sh86, 0, cw, ch, 2, rfl, (by omega), (by omega), s88, (by omega), (by omega), s89, (by omega), (by omega), eh86, (by omega), (by omega), (by omega), (by omega), (by omega), (by omega), (by omega), (by omega), hrw90⟩
        · refine gy_icF rfl (by decide) (by decide) (by omega) (by omega) hc19 ?_
          refine gz_s 2 (pc' := 41) (L' := [some (.ref m), some (.int (zi a)), some (.int (zi b)), some (.int (zi v)), none]) (S' := [.int (zi 1), .ref m]) rfl ?_
          refine gs_put rfl (by decide) rfl hS tm rfl rfl rfl rfl (Or.inl rfl) (by decide) (by omega) (by omega) (fun h91 sh91 eh91 fh91 => ?_)
          have pr92 := gRn.pt fh91 tm (by decide) hyf26
          have s93 := (fh91 m 50 (fun q => absurd q.2 (by decide))).trans ecw
          have s94 := (fh91 m 51 (fun q => absurd q.2 (by decide))).trans ech
          refine gz_s 1 (pc' := 45) (L' := [some (.ref m), some (.int (zi a)), some (.int (zi b)), some (.int (zi v)), none]) (S' := [.ref m]) rfl ?_
          refine gs_gtk rfl (by decide) rfl sh91.1 tm rfl rfl eh91 ?_
          refine gy_ifF rfl (by decide) (by decide) (by omega) (by first | (simp [zc]; done) | (simp only [zc]; omega)) ?_
          refine gz_s 1 (pc' := 52) (L' := [some (.ref m), some (.int (zi a)), some (.int (zi b)), some (.int (zi v)), none]) (S' := [.int (zi 0)]) rfl ?_
          have hrw95 : gRn 1024 ty 26 (gVp f a b v) h91 := gVp.n (by omega) pr92
          exact gz_end (I := .ireturn) (len := 1) rfl (Or.inl rfl) ⟨sh91, 0, cw, ch, 1, rfl, (by omega), (by omega), s93, (by omega), (by omega), s94, (by omega), (by omega), eh91, (by omega), (by omega), (by omega), (by omega), (by omega), (by omega), (by omega), (by omega), hrw95⟩
set_option maxRecDepth 20000 in
set_option maxHeartbeats 4000000 in
theorem mm_scan3 (d : Nat) {ty : Nat → Nat} {h : gH} (hJ : gJ rT 1027 ty h) (m : Nat) (tm : ty m = 1) (a : Int) (ra : (-2147483648) ≤ a ∧ a ≤ 2147483647) (b : Int) (rb : (-2147483648) ≤ b ∧ b ≤ 2147483647) (t : Int) (rt : (-2147483648) ≤ t ∧ t ≤ 2147483647) (n0 : Int) (en0 : h.2.2.2.2 m 53 = .int (zi n0)) (rn0 : 0 ≤ n0 ∧ n0 ≤ 10) (S : gSS) (uq : gUq ty) (hyts : gTs ty n0 h) (hymw : gMw ty S h) : gz gPP gGG gcn (d + 0) gt181 0 (gent [.ref m, .int (zi a), .int (zi b), .int (zi t)] 7) [] h (fun q _ => gSs rT 1027 ty [1000, 1053, 27999, 28999, 29999, 30999, 31999] h q.2.2 ∧ ∃ z n1 : Int, gfin gt181 q.1 q.2.1 = some (some (.int (zi z))) ∧ 0 ≤ z ∧ z ≤ 10 ∧ q.2.2.2.2.2.2 m 53 = .int (zi n1) ∧ 0 ≤ n1 ∧ n1 ≤ 10 ∧ (gTs ty n1 q.2.2) ∧ (gSz S.1.2.2.2.2.2.2 n0 a b t z n1) ∧ (gMw ty (eQ2 n0 S a b t) q.2.2)) := by
  have hS : gSs rT 1027 ty [1000, 1053, 27999, 28999, 29999, 30999, 31999] h h := gSs.rf hJ
  refine gz_s 2 (pc' := 2) (L' := [some (.ref m), some (.int (zi a)), some (.int (zi b)), some (.int (zi t)), none, none, none]) (S' := [.int (zi 0), .ref m]) rfl ?_
  refine gs_put rfl (by decide) rfl hS tm rfl rfl rfl rfl (Or.inl rfl) (by decide) (by omega) (by omega) (fun h1 sh1 eh1 fh1 => ?_)
  have pr2 := gTs.pt fh1 tm (by decide) hyts
  have pr3 := gMw.pt fh1 tm (by decide) hymw
  have s4 := (fh1 m 53 (fun q => absurd q.2 (by decide))).trans en0
  have hts0 := pr2
  obtain ⟨tf, tt, cf, rf, rt, rc, tle, tsm⟩ := hts0
  obtain ⟨xr5, xr6, xr7, xr8, xr9, xr10, xr11⟩ := pr3
  obtain ⟨c12, ec12, tc12⟩ := gJ.ref (k := 54) (G := gGG) sh1.1 tm rfl rfl rfl
  have etf := gRow.eqn (N := 10) (by decide) rf xr7 tc12
  obtain ⟨c13, ec13, tc13⟩ := gJ.ref (k := 55) (G := gGG) sh1.1 tm rfl rfl rfl
  have ett := gRow.eqn (N := 10) (by decide) rt xr8 tc13
  obtain ⟨c14, ec14, tc14⟩ := gJ.ref (k := 58) (G := gGG) sh1.1 tm rfl rfl rfl
  have ecf := gRow.eqn (N := 64) (by decide) rc xr11 tc14
  refine gz_s 1 (pc' := 6) (L' := [some (.ref m), some (.int (zi a)), some (.int (zi b)), some (.int (zi t)), none, none, none]) (S' := [.int (zi a)]) rfl ?_
  have jn15 : ∀ (jn15v0 : Int), ((0 ≤ jn15v0) ∧ (jn15v0 ≤ 1) ∧ (jn15v0 = 1 ↔ ((a = 0 ∧ b = 0) ∨ (1 ≤ a ∧ a ≤ b ∧ b ≤ 63 ∧ 0 ≤ cf (0 : Int).toNat)))) → gz gPP gGG gcn (d + 0) gt181 44 [some (.ref m), some (.int (zi a)), some (.int (zi b)), some (.int (zi t)), none, none, none] [.int (zi jn15v0)] h1 (fun q _ => gSs rT 1027 ty [1000, 1053, 27999, 28999, 29999, 30999, 31999] h q.2.2 ∧ ∃ z n1 : Int, gfin gt181 q.1 q.2.1 = some (some (.int (zi z))) ∧ 0 ≤ z ∧ z ≤ 10 ∧ q.2.2.2.2.2.2 m 53 = .int (zi n1) ∧ 0 ≤ n1 ∧ n1 ≤ 10 ∧ (gTs ty n1 q.2.2) ∧ (gSz S.1.2.2.2.2.2.2 n0 a b t z n1) ∧ (gMw ty (eQ2 n0 S a b t) q.2.2)) := by
    intro jn15v0 jn15d
    refine gz_s 2 (pc' := 48) (L' := [some (.ref m), some (.int (zi a)), some (.int (zi b)), some (.int (zi t)), some (.int (zi jn15v0)), none, none]) (S' := [.int (zi jn15v0)]) rfl ?_
    by_cases hc16 : (jn15v0 : Int) = 0
    · refine gy_ifT (pc' := 69) rfl (by decide) (by decide) (by omega) hc16 ?_
      refine gz_s 1 (pc' := 70) (L' := [some (.ref m), some (.int (zi a)), some (.int (zi b)), some (.int (zi t)), some (.int (zi jn15v0)), none, none]) (S' := [.int (zi 0)]) rfl ?_
      have hsk17 : ¬ gSk S.1.2.2.2.2.2.2 n0 a b t := fun w => by obtain ⟨w1, w2, w3, w4, w5⟩ := gSk.cg ecf.sy w; omega
      have hsz18 : gSz S.1.2.2.2.2.2.2 n0 a b t 0 n0 := ⟨fun w => absurd w hsk17, fun _ => ⟨by omega, by omega⟩⟩
      have hxr19 : gMw ty (eQ2 n0 S a b t) h1 := by
        rw [eQ2_n hsk17]
        exact ⟨xr5, xr6, gRow.Rn (by decide) etf rf, gRow.Rn (by decide) ett rt, xr9, xr10, gRow.Rn (by decide) ecf rc⟩
      exact gz_end (I := .ireturn) (len := 1) rfl (Or.inl rfl) ⟨sh1, 0, n0, rfl, (by omega), (by omega), s4, (by omega), (by omega), pr2, hsz18, hxr19⟩
    · refine gy_ifF rfl (by decide) (by decide) (by omega) hc16 ?_
      refine gz_s 1 (pc' := 52) (L' := [some (.ref m), some (.int (zi a)), some (.int (zi b)), some (.int (zi t)), some (.int (zi jn15v0)), none, none]) (S' := [.int (zi t)]) rfl ?_
      by_cases hc20 : (t : Int) < 0
      · refine gy_ifT (pc' := 69) rfl (by decide) (by decide) (by omega) hc20 ?_
        refine gz_s 1 (pc' := 70) (L' := [some (.ref m), some (.int (zi a)), some (.int (zi b)), some (.int (zi t)), some (.int (zi jn15v0)), none, none]) (S' := [.int (zi 0)]) rfl ?_
        have hsk21 : ¬ gSk S.1.2.2.2.2.2.2 n0 a b t := fun w => by obtain ⟨w1, w2, w3, w4, w5⟩ := gSk.cg ecf.sy w; omega
        have hsz22 : gSz S.1.2.2.2.2.2.2 n0 a b t 0 n0 := ⟨fun w => absurd w hsk21, fun _ => ⟨by omega, by omega⟩⟩
        have hxr23 : gMw ty (eQ2 n0 S a b t) h1 := by
          rw [eQ2_n hsk21]
          exact ⟨xr5, xr6, gRow.Rn (by decide) etf rf, gRow.Rn (by decide) ett rt, xr9, xr10, gRow.Rn (by decide) ecf rc⟩
        exact gz_end (I := .ireturn) (len := 1) rfl (Or.inl rfl) ⟨sh1, 0, n0, rfl, (by omega), (by omega), s4, (by omega), (by omega), pr2, hsz22, hxr23⟩
      · refine gy_ifF rfl (by decide) (by decide) (by omega) hc20 ?_
        refine gz_s 2 (pc' := 57) (L' := [some (.ref m), some (.int (zi a)), some (.int (zi b)), some (.int (zi t)), some (.int (zi jn15v0)), none, none]) (S' := [.int (zi 3), .int (zi t)]) rfl ?_
        by_cases hc24 : (3 : Int) < t
        · refine gy_icT (pc' := 69) rfl (by decide) (by decide) (by omega) (by omega) hc24 ?_
          refine gz_s 1 (pc' := 70) (L' := [some (.ref m), some (.int (zi a)), some (.int (zi b)), some (.int (zi t)), some (.int (zi jn15v0)), none, none]) (S' := [.int (zi 0)]) rfl ?_
          have hsk25 : ¬ gSk S.1.2.2.2.2.2.2 n0 a b t := fun w => by obtain ⟨w1, w2, w3, w4, w5⟩ := gSk.cg ecf.sy w; omega
          have hsz26 : gSz S.1.2.2.2.2.2.2 n0 a b t 0 n0 := ⟨fun w => absurd w hsk25, fun _ => ⟨by omega, by omega⟩⟩
          have hxr27 : gMw ty (eQ2 n0 S a b t) h1 := by
            rw [eQ2_n hsk25]
            exact ⟨xr5, xr6, gRow.Rn (by decide) etf rf, gRow.Rn (by decide) ett rt, xr9, xr10, gRow.Rn (by decide) ecf rc⟩
          exact gz_end (I := .ireturn) (len := 1) rfl (Or.inl rfl) ⟨sh1, 0, n0, rfl, (by omega), (by omega), s4, (by omega), (by omega), pr2, hsz26, hxr27⟩
        · refine gy_icF rfl (by decide) (by decide) (by omega) (by omega) hc24 ?_
          refine gz_s 1 (pc' := 61) (L' := [some (.ref m), some (.int (zi a)), some (.int (zi b)), some (.int (zi t)), some (.int (zi jn15v0)), none, none]) (S' := [.ref m]) rfl ?_
          refine gs_gtk rfl (by decide) rfl sh1.1 tm rfl rfl s4 ?_
          refine gz_s 1 (pc' := 66) (L' := [some (.ref m), some (.int (zi a)), some (.int (zi b)), some (.int (zi t)), some (.int (zi jn15v0)), none, none]) (S' := [.int (zi 10), .int (zi n0)]) rfl ?_
          by_cases hc28 : ¬ (n0 : Int) = 10
          · refine gy_icT (pc' := 71) rfl (by decide) (by decide) (by omega) (by omega) hc28 ?_
            refine gz_s 2 (pc' := 74) (L' := [some (.ref m), some (.int (zi a)), some (.int (zi b)), some (.int (zi t)), some (.int (zi jn15v0)), some (.int (zi a)), none]) (S' := []) rfl ?_
            have lp29 : ∀ (fu : Nat) (h30 : gH) (k : Int), (65 - k).toNat < fu → gSs rT 1027 ty [1000, 1053, 27999, 28999, 29999, 30999, 31999] h h30 → (0 ≤ k ∧ k ≤ 64) → (a ≤ k) → h30.2.2.2.2 m 53 = .int (zi n0) → h30.2.2.2.2 m 0 = .int (zi 0) → h30.2.2.2.2 m 54 = .ref c12 → h30.2.2.2.2 m 55 = .ref c13 → h30.2.2.2.2 m 58 = .ref c14 → gTs ty n0 h30 → gRn 256 ty 8 S.1.1 h30 → gRn 1024 ty 26 S.1.2.1 h30 → gRow ty 27 tf h30 → gRow ty 28 tt h30 → gRn 10 ty 29 S.1.2.2.2.2.1 h30 → gRn 10 ty 30 S.1.2.2.2.2.2.1 h30 → gRow ty 31 cf h30 → (∀ j : Int, a ≤ j → j < k → cf j.toNat = cf a.toNat) → gz gPP gGG gcn (d + 0) gt181 74 [some (.ref m), some (.int (zi a)), some (.int (zi b)), some (.int (zi t)), some (.int (zi jn15v0)), some (.int (zi k)), none] [] h30 (fun q _ => gSs rT 1027 ty [1000, 1053, 27999, 28999, 29999, 30999, 31999] h q.2.2 ∧ ∃ z n1 : Int, gfin gt181 q.1 q.2.1 = some (some (.int (zi z))) ∧ 0 ≤ z ∧ z ≤ 10 ∧ q.2.2.2.2.2.2 m 53 = .int (zi n1) ∧ 0 ≤ n1 ∧ n1 ≤ 10 ∧ (gTs ty n1 q.2.2) ∧ (gSz S.1.2.2.2.2.2.2 n0 a b t z n1) ∧ (gMw ty (eQ2 n0 S a b t) q.2.2)) := by
              intro fu
              induction fu with
              | zero => intro h30 k hm; exact absurd hm (Nat.not_lt_zero _)
              | succ fu ihlp29 =>
                intro h30 k lp29m sh30 lp29f0 lp29f1 lp29k0 lp29k1 lp29k2 lp29k3 lp29k4 lp29k5 lp29k6 lp29k7 lp29k8 lp29k9 lp29k10 lp29k11 lp29k12 lp29k13
                refine gz_s 2 (pc' := 77) (L' := [some (.ref m), some (.int (zi a)), some (.int (zi b)), some (.int (zi t)), some (.int (zi jn15v0)), some (.int (zi k)), none]) (S' := [.int (zi b), .int (zi k)]) rfl ?_
                by_cases hc31 : (b : Int) < k
                · refine gy_icT (pc' := 104) rfl (by decide) (by decide) (by omega) (by omega) hc31 ?_
                  refine gz_s 1 (pc' := 105) (L' := [some (.ref m), some (.int (zi a)), some (.int (zi b)), some (.int (zi t)), some (.int (zi jn15v0)), some (.int (zi k)), none]) (S' := [.ref m]) rfl ?_
                  refine gs_gtk rfl (by decide) rfl sh30.1 tm rfl rfl lp29k4 ?_
                  refine gz_s 1 (pc' := 109) (L' := [some (.ref m), some (.int (zi a)), some (.int (zi b)), some (.int (zi t)), some (.int (zi jn15v0)), some (.int (zi k)), none]) (S' := [.int (zi a), .ref c14]) rfl ?_
                  have hl32 : 64 ≤ h30.2.2.2.1 c14 ∧ h30.2.2.2.1 c14 ≤ 64 := gJ.rowl (G := gGG) sh30.1 tc14 rfl
                  refine gs_ald rfl (by decide) sh30.1 tc14 rfl rfl rfl (by decide) (fun _ => rfl) (by omega) (by omega) (fun z33 ez33 az33 bz33 => ?_)
                  have hf34 := gRow.at (i := a) (z := z33) lp29k12 tc14 ez33 (by omega) (by omega) (by omega)
                  refine gz_s 3 (pc' := 115) (L' := [some (.ref m), some (.int (zi a)), some (.int (zi b)), some (.int (zi t)), some (.int (zi jn15v0)), some (.int (zi z33)), none]) (S' := [.int (zi (-1)), .int (zi z33)]) rfl ?_
                  by_cases hc35 : (z33 : Int) = (-1)
                  · refine gy_icT (pc' := 128) rfl (by decide) (by decide) (by omega) (by omega) hc35 ?_
                    refine gz_s 2 (pc' := 131) (L' := [some (.ref m), some (.int (zi a)), some (.int (zi b)), some (.int (zi t)), some (.int (zi jn15v0)), some (.int (zi z33)), some (.int (zi a))]) (S' := []) rfl ?_
                    have hcq37 : gCq ty cf a a t h30 := ⟨cf, lp29k12, gCm.zero⟩
                    have hcf : cf a.toNat = cf a.toNat := rfl
                    have lp36 : ∀ (fu : Nat) (h38 : gH) (kb : Int), (65 - kb).toNat < fu → gSs rT 1027 ty [1000, 1053, 27999, 28999, 29999, 30999, 31999] h h38 → (0 ≤ kb ∧ kb ≤ 64) → (a ≤ kb) → (kb ≤ b + 1) → h38.2.2.2.2 m 53 = .int (zi n0) → h38.2.2.2.2 m 0 = .int (zi 0) → h38.2.2.2.2 m 54 = .ref c12 → h38.2.2.2.2 m 55 = .ref c13 → h38.2.2.2.2 m 58 = .ref c14 → gRn 256 ty 8 S.1.1 h38 → gRn 1024 ty 26 S.1.2.1 h38 → gRow ty 27 tf h38 → gRow ty 28 tt h38 → gRn 10 ty 29 S.1.2.2.2.2.1 h38 → gRn 10 ty 30 S.1.2.2.2.2.2.1 h38 → (∀ j : Int, a ≤ j → j < k → cf j.toNat = cf a.toNat) → gCq ty cf a kb t h38 → gz gPP gGG gcn (d + 0) gt181 131 [some (.ref m), some (.int (zi a)), some (.int (zi b)), some (.int (zi t)), some (.int (zi jn15v0)), some (.int (zi z33)), some (.int (zi kb))] [] h38 (fun q _ => gSs rT 1027 ty [1000, 1053, 27999, 28999, 29999, 30999, 31999] h q.2.2 ∧ ∃ z n1 : Int, gfin gt181 q.1 q.2.1 = some (some (.int (zi z))) ∧ 0 ≤ z ∧ z ≤ 10 ∧ q.2.2.2.2.2.2 m 53 = .int (zi n1) ∧ 0 ≤ n1 ∧ n1 ≤ 10 ∧ (gTs ty n1 q.2.2) ∧ (gSz S.1.2.2.2.2.2.2 n0 a b t z n1) ∧ (gMw ty (eQ2 n0 S a b t) q.2.2)) := by
                      intro fu
                      induction fu with
                      | zero => intro h38 kb hm; exact absurd hm (Nat.not_lt_zero _)
                      | succ fu ihlp36 =>
                        intro h38 kb lp36m sh38 lp36f0 lp36f1 lp36f2 lp36k0 lp36k1 lp36k2 lp36k3 lp36k4 lp36k5 lp36k6 lp36k7 lp36k8 lp36k9 lp36k10 lp36k11 lp36k12
                        refine gz_s 2 (pc' := 134) (L' := [some (.ref m), some (.int (zi a)), some (.int (zi b)), some (.int (zi t)), some (.int (zi jn15v0)), some (.int (zi z33)), some (.int (zi kb))]) (S' := [.int (zi b), .int (zi kb)]) rfl ?_
                        by_cases hc39 : (b : Int) < kb
                        · refine gy_icT (pc' := 151) rfl (by decide) (by decide) (by omega) (by omega) hc39 ?_
                          refine gz_s 1 (pc' := 152) (L' := [some (.ref m), some (.int (zi a)), some (.int (zi b)), some (.int (zi t)), some (.int (zi jn15v0)), some (.int (zi z33)), some (.int (zi kb))]) (S' := [.ref m]) rfl ?_
                          refine gs_gtk rfl (by decide) rfl sh38.1 tm rfl rfl lp36k2 ?_
                          refine gz_s 1 (pc' := 156) (L' := [some (.ref m), some (.int (zi a)), some (.int (zi b)), some (.int (zi t)), some (.int (zi jn15v0)), some (.int (zi z33)), some (.int (zi kb))]) (S' := [.ref m, .ref c12]) rfl ?_
                          refine gs_gtk rfl (by decide) rfl sh38.1 tm rfl rfl lp36k0 ?_
                          refine gz_s 1 (pc' := 160) (L' := [some (.ref m), some (.int (zi a)), some (.int (zi b)), some (.int (zi t)), some (.int (zi jn15v0)), some (.int (zi z33)), some (.int (zi kb))]) (S' := [.int (zi a), .int (zi n0), .ref c12]) rfl ?_
                          have hl40 : 10 ≤ h38.2.2.2.1 c12 ∧ h38.2.2.2.1 c12 ≤ 10 := gJ.rowl (G := gGG) sh38.1 tc12 rfl
                          refine gs_ast rfl (by decide) sh38 tc12 rfl rfl rfl (by decide) (fun _ => rfl) (by omega) (by omega) (fun _ => (by decide : (27999 : Nat) ∈ ([1000, 1053, 27999, 28999, 29999, 30999, 31999] : List Nat))) (by omega) (by omega) (fun h41 sh41 eh41 fh41 => ?_)
                          have pr42 := gRn.pt fh41 tc12 (by decide) lp36k5
                          have pr43 := gRn.pt fh41 tc12 (by decide) lp36k6
                          have pr44 := gRow.put (i := n0) (z := a) uq tc12 (by decide) fh41 eh41 (by omega) (by omega) lp36k7
                          have pr45 := gRow.pt fh41 tc12 (by decide) lp36k8
                          have pr46 := gRn.pt fh41 tc12 (by decide) lp36k9
                          have pr47 := gRn.pt fh41 tc12 (by decide) lp36k10
                          have pr48 := gCq.pt fh41 tc12 (by decide) lp36k12
                          have s49 := (fh41 m 53 (fun q => absurd (((tm).symm.trans (congrArg ty q.1)).trans tc12) (by decide))).trans lp36k0
                          have s50 := (fh41 m 0 (fun q => absurd (((tm).symm.trans (congrArg ty q.1)).trans tc12) (by decide))).trans lp36k1
                          have s51 := (fh41 m 54 (fun q => absurd (((tm).symm.trans (congrArg ty q.1)).trans tc12) (by decide))).trans lp36k2
                          have s52 := (fh41 m 55 (fun q => absurd (((tm).symm.trans (congrArg ty q.1)).trans tc12) (by decide))).trans lp36k3
                          have s53 := (fh41 m 58 (fun q => absurd (((tm).symm.trans (congrArg ty q.1)).trans tc12) (by decide))).trans lp36k4
                          have pr54 := gEl.set (i := n0) (z := a) uq tc12 (by decide) eh41 (by omega) (by omega)
                          refine gz_s 1 (pc' := 162) (L' := [some (.ref m), some (.int (zi a)), some (.int (zi b)), some (.int (zi t)), some (.int (zi jn15v0)), some (.int (zi z33)), some (.int (zi kb))]) (S' := [.ref m]) rfl ?_
                          refine gs_gtk rfl (by decide) rfl sh41.1 tm rfl rfl s52 ?_
                          refine gz_s 1 (pc' := 166) (L' := [some (.ref m), some (.int (zi a)), some (.int (zi b)), some (.int (zi t)), some (.int (zi jn15v0)), some (.int (zi z33)), some (.int (zi kb))]) (S' := [.ref m, .ref c13]) rfl ?_
                          refine gs_gtk rfl (by decide) rfl sh41.1 tm rfl rfl s49 ?_
                          refine gz_s 1 (pc' := 170) (L' := [some (.ref m), some (.int (zi a)), some (.int (zi b)), some (.int (zi t)), some (.int (zi jn15v0)), some (.int (zi z33)), some (.int (zi kb))]) (S' := [.int (zi b), .int (zi n0), .ref c13]) rfl ?_
                          have hl55 : 10 ≤ h41.2.2.2.1 c13 ∧ h41.2.2.2.1 c13 ≤ 10 := gJ.rowl (G := gGG) sh41.1 tc13 rfl
                          refine gs_ast rfl (by decide) sh41 tc13 rfl rfl rfl (by decide) (fun _ => rfl) (by omega) (by omega) (fun _ => (by decide : (28999 : Nat) ∈ ([1000, 1053, 27999, 28999, 29999, 30999, 31999] : List Nat))) (by omega) (by omega) (fun h56 sh56 eh56 fh56 => ?_)
                          have pr57 := gRn.pt fh56 tc13 (by decide) pr42
                          have pr58 := gRn.pt fh56 tc13 (by decide) pr43
                          have pr59 := gRow.pt fh56 tc13 (by decide) pr44
                          have pr60 := gRow.put (i := n0) (z := b) uq tc13 (by decide) fh56 eh56 (by omega) (by omega) pr45
                          have pr61 := gRn.pt fh56 tc13 (by decide) pr46
                          have pr62 := gRn.pt fh56 tc13 (by decide) pr47
                          have pr63 := gCq.pt fh56 tc13 (by decide) pr48
                          have pr64 := gEl.pt fh56 tc13 (by decide) pr54
                          have s65 := (fh56 m 53 (fun q => absurd (((tm).symm.trans (congrArg ty q.1)).trans tc13) (by decide))).trans s49
                          have s66 := (fh56 m 0 (fun q => absurd (((tm).symm.trans (congrArg ty q.1)).trans tc13) (by decide))).trans s50
                          have s67 := (fh56 m 54 (fun q => absurd (((tm).symm.trans (congrArg ty q.1)).trans tc13) (by decide))).trans s51
                          have s68 := (fh56 m 55 (fun q => absurd (((tm).symm.trans (congrArg ty q.1)).trans tc13) (by decide))).trans s52
                          have s69 := (fh56 m 58 (fun q => absurd (((tm).symm.trans (congrArg ty q.1)).trans tc13) (by decide))).trans s53
                          have pr70 := gEl.set (i := n0) (z := b) uq tc13 (by decide) eh56 (by omega) (by omega)
                          refine gz_s 1 (pc' := 172) (L' := [some (.ref m), some (.int (zi a)), some (.int (zi b)), some (.int (zi t)), some (.int (zi jn15v0)), some (.int (zi z33)), some (.int (zi kb))]) (S' := [.ref m]) rfl ?_
                          refine gs_gtr rfl (by decide) rfl sh56.1 tm rfl rfl rfl (fun c71 ec71 tc71 => ?_)
                          refine gz_s 1 (pc' := 176) (L' := [some (.ref m), some (.int (zi a)), some (.int (zi b)), some (.int (zi t)), some (.int (zi jn15v0)), some (.int (zi z33)), some (.int (zi kb))]) (S' := [.ref m, .ref c71]) rfl ?_
                          refine gs_gtk rfl (by decide) rfl sh56.1 tm rfl rfl s65 ?_
                          refine gz_s 2 (pc' := 182) (L' := [some (.ref m), some (.int (zi a)), some (.int (zi b)), some (.int (zi t)), some (.int (zi jn15v0)), some (.int (zi z33)), some (.int (zi kb))]) (S' := [.int (zi (-1)), .int (zi z33), .int (zi n0), .ref c71]) rfl ?_
                          refine gy_icF rfl (by decide) (by decide) (by omega) (by omega) (by first | (simp [zc]; done) | (simp only [zc]; omega)) ?_
                          refine gz_s 2 (pc' := 191) (L' := [some (.ref m), some (.int (zi a)), some (.int (zi b)), some (.int (zi t)), some (.int (zi jn15v0)), some (.int (zi z33)), some (.int (zi kb))]) (S' := [.int (zi 0), .int (zi n0), .ref c71]) rfl ?_
                          have hl72 : 10 ≤ h56.2.2.2.1 c71 ∧ h56.2.2.2.1 c71 ≤ 10 := gJ.rowl (G := gGG) sh56.1 tc71 rfl
                          refine gs_ast rfl (by decide) sh56 tc71 rfl rfl rfl (by decide) (fun _ => rfl) (by omega) (by omega) (fun _ => (by decide : (29999 : Nat) ∈ ([1000, 1053, 27999, 28999, 29999, 30999, 31999] : List Nat))) (by omega) (by omega) (fun h73 sh73 eh73 fh73 => ?_)
                          have pr74 := gRn.pt fh73 tc71 (by decide) pr57
                          have pr75 := gRn.pt fh73 tc71 (by decide) pr58
                          have pr76 := gRow.pt fh73 tc71 (by decide) pr59
                          have pr77 := gRow.pt fh73 tc71 (by decide) pr60
                          have pr78 := gRn.put (i := n0) (z := 0) uq tc71 (by decide) fh73 eh73 (by omega) (by omega) pr61
                          have pr79 := gRn.pt fh73 tc71 (by decide) pr62
                          have pr80 := gCq.pt fh73 tc71 (by decide) pr63
                          have pr81 := gEl.pt fh73 tc71 (by decide) pr64
                          have pr82 := gEl.pt fh73 tc71 (by decide) pr70
                          have s83 := (fh73 m 53 (fun q => absurd (((tm).symm.trans (congrArg ty q.1)).trans tc71) (by decide))).trans s65
                          have s84 := (fh73 m 0 (fun q => absurd (((tm).symm.trans (congrArg ty q.1)).trans tc71) (by decide))).trans s66
                          have s85 := (fh73 m 54 (fun q => absurd (((tm).symm.trans (congrArg ty q.1)).trans tc71) (by decide))).trans s67
                          have s86 := (fh73 m 55 (fun q => absurd (((tm).symm.trans (congrArg ty q.1)).trans tc71) (by decide))).trans s68
                          have s87 := (fh73 m 58 (fun q => absurd (((tm).symm.trans (congrArg ty q.1)).trans tc71) (by decide))).trans s69
                          have s88 := (fh73 m 56 (fun q => absurd (((tm).symm.trans (congrArg ty q.1)).trans tc71) (by decide))).trans ec71
                          have pr89 := gEl.set (i := n0) (z := 0) uq tc71 (by decide) eh73 (by omega) (by omega)
                          refine gz_s 1 (pc' := 193) (L' := [some (.ref m), some (.int (zi a)), some (.int (zi b)), some (.int (zi t)), some (.int (zi jn15v0)), some (.int (zi z33)), some (.int (zi kb))]) (S' := [.ref m]) rfl ?_
                          refine gs_gtr rfl (by decide) rfl sh73.1 tm rfl rfl rfl (fun c90 ec90 tc90 => ?_)
                          refine gz_s 1 (pc' := 197) (L' := [some (.ref m), some (.int (zi a)), some (.int (zi b)), some (.int (zi t)), some (.int (zi jn15v0)), some (.int (zi z33)), some (.int (zi kb))]) (S' := [.ref m, .ref c90]) rfl ?_
                          refine gs_gtk rfl (by decide) rfl sh73.1 tm rfl rfl s83 ?_
                          refine gz_s 1 (pc' := 201) (L' := [some (.ref m), some (.int (zi a)), some (.int (zi b)), some (.int (zi t)), some (.int (zi jn15v0)), some (.int (zi z33)), some (.int (zi kb))]) (S' := [.int (zi t), .int (zi n0), .ref c90]) rfl ?_
                          have hl91 : 10 ≤ h73.2.2.2.1 c90 ∧ h73.2.2.2.1 c90 ≤ 10 := gJ.rowl (G := gGG) sh73.1 tc90 rfl
                          refine gs_ast rfl (by decide) sh73 tc90 rfl rfl rfl (by decide) (fun _ => rfl) (by omega) (by omega) (fun _ => (by decide : (30999 : Nat) ∈ ([1000, 1053, 27999, 28999, 29999, 30999, 31999] : List Nat))) (by omega) (by omega) (fun h92 sh92 eh92 fh92 => ?_)
                          have pr93 := gRn.pt fh92 tc90 (by decide) pr74
                          have pr94 := gRn.pt fh92 tc90 (by decide) pr75
                          have pr95 := gRow.pt fh92 tc90 (by decide) pr76
                          have pr96 := gRow.pt fh92 tc90 (by decide) pr77
                          have pr97 := gRn.pt fh92 tc90 (by decide) pr78
                          have pr98 := gRn.put (i := n0) (z := t) uq tc90 (by decide) fh92 eh92 (by omega) (by omega) pr79
                          have pr99 := gCq.pt fh92 tc90 (by decide) pr80
                          have pr100 := gEl.pt fh92 tc90 (by decide) pr81
                          have pr101 := gEl.pt fh92 tc90 (by decide) pr82
                          have pr102 := gEl.pt fh92 tc90 (by decide) pr89
                          have s103 := (fh92 m 53 (fun q => absurd (((tm).symm.trans (congrArg ty q.1)).trans tc90) (by decide))).trans s83
                          have s104 := (fh92 m 0 (fun q => absurd (((tm).symm.trans (congrArg ty q.1)).trans tc90) (by decide))).trans s84
                          have s105 := (fh92 m 54 (fun q => absurd (((tm).symm.trans (congrArg ty q.1)).trans tc90) (by decide))).trans s85
                          have s106 := (fh92 m 55 (fun q => absurd (((tm).symm.trans (congrArg ty q.1)).trans tc90) (by decide))).trans s86
                          have s107 := (fh92 m 58 (fun q => absurd (((tm).symm.trans (congrArg ty q.1)).trans tc90) (by decide))).trans s87
                          have s108 := (fh92 m 56 (fun q => absurd (((tm).symm.trans (congrArg ty q.1)).trans tc90) (by decide))).trans s88
                          have s109 := (fh92 m 57 (fun q => absurd (((tm).symm.trans (congrArg ty q.1)).trans tc90) (by decide))).trans ec90
                          have pr110 := gEl.set (i := n0) (z := t) uq tc90 (by decide) eh92 (by omega) (by omega)
                          refine gz_s 2 (pc' := 204) (L' := [some (.ref m), some (.int (zi a)), some (.int (zi b)), some (.int (zi t)), some (.int (zi jn15v0)), some (.int (zi z33)), some (.int (zi kb))]) (S' := [.ref m, .ref m]) rfl ?_
                          refine gs_gtk rfl (by decide) rfl sh92.1 tm rfl rfl s103 ?_
                          refine gy_s 2 (pc' := 209) (L' := [some (.ref m), some (.int (zi a)), some (.int (zi b)), some (.int (zi t)), some (.int (zi jn15v0)), some (.int (zi z33)), some (.int (zi kb))]) (S' := [.int ((zi n0) + (zi 1)), .ref m]) (L2 := [some (.ref m), some (.int (zi a)), some (.int (zi b)), some (.int (zi t)), some (.int (zi jn15v0)), some (.int (zi z33)), some (.int (zi kb))]) (S2 := [.int (zi (n0 + 1)), .ref m]) rfl (by simp only [zi_add, zi_sub, zi_mul, zi_neg, zi_and1, zi_and7, zi_and15, zi_and31, zi_and255]) (by simp only [zi_add, zi_sub, zi_mul, zi_neg, zi_and1, zi_and7, zi_and15, zi_and31, zi_and255]) ?_
                          obtain ⟨c2, rc2, hcm⟩ := pr99
                          have hts111 : gTs ty (n0 + 1) h92 := gTs.tell (by omega) pr95 pr96 rc2 tle tsm hcm (by omega) (by omega)
                          refine gs_put rfl (by decide) rfl sh92 tm rfl rfl rfl rfl (Or.inl rfl) (by decide) (by omega) (by omega) (fun h112 sh112 eh112 fh112 => ?_)
                          have pr113 := gRn.pt fh112 tm (by decide) pr93
                          have pr114 := gRn.pt fh112 tm (by decide) pr94
                          have pr115 := gRow.pt fh112 tm (by decide) pr95
                          have pr116 := gRow.pt fh112 tm (by decide) pr96
                          have pr117 := gRn.pt fh112 tm (by decide) pr97
                          have pr118 := gRn.pt fh112 tm (by decide) pr98
                          have pr119 := gEl.pt fh112 tm (by decide) pr100
                          have pr120 := gEl.pt fh112 tm (by decide) pr101
                          have pr121 := gEl.pt fh112 tm (by decide) pr102
                          have pr122 := gEl.pt fh112 tm (by decide) pr110
                          have pr123 := gTs.pt fh112 tm (by decide) hts111
                          have pr124 := gRow.pt fh112 tm (by decide) rc2
                          have s125 := (fh112 m 0 (fun q => absurd q.2 (by decide))).trans s104
                          have s126 := (fh112 m 54 (fun q => absurd q.2 (by decide))).trans s105
                          have s127 := (fh112 m 55 (fun q => absurd q.2 (by decide))).trans s106
                          have s128 := (fh112 m 58 (fun q => absurd q.2 (by decide))).trans s107
                          have s129 := (fh112 m 56 (fun q => absurd q.2 (by decide))).trans s108
                          have s130 := (fh112 m 57 (fun q => absurd q.2 (by decide))).trans s109
                          refine gz_s 1 (pc' := 213) (L' := [some (.ref m), some (.int (zi a)), some (.int (zi b)), some (.int (zi t)), some (.int (zi jn15v0)), some (.int (zi z33)), some (.int (zi kb))]) (S' := [.ref m]) rfl ?_
                          refine gs_gtk rfl (by decide) rfl sh112.1 tm rfl rfl eh112 ?_
                          have hsk131 : gSk S.1.2.2.2.2.2.2 n0 a b t := gSk.cg ecf (gSk.mk (by omega) ⟨by omega, by omega⟩ (by omega) (by omega) (fun j h1 h2 => lp36k11 j h1 (by omega)))
                          have hsz132 : gSz S.1.2.2.2.2.2.2 n0 a b t (n0 + 1) (n0 + 1) := ⟨fun _ => ⟨by omega, by omega⟩, fun w => absurd hsk131 w⟩
                          have hxr133v : 0 = if S.1.2.2.2.2.2.2 a.toNat = -1 then 0 else S.1.2.2.2.2.2.2 a.toNat := by have e9 := ecf a.toNat (by omega); rw [← e9]; split <;> omega
                          have hxr133h := pr117
                          rw [hxr133v] at hxr133h
                          have hxr133 : gMw ty (eQ2 n0 S a b t) h112 := by
                            rw [eQ2_y hsk131]
                            exact ⟨pr113, pr114, gRow.Rn (by decide) etf.fu pr115, gRow.Rn (by decide) ett.fu pr116, hxr133h, pr118, gRow.Rn (by decide) (fun j hj => by rw [hcm.2.2.2 (by omega) j, ecf j hj]; first | rfl | (rw [show kb = b + 1 by omega]; rfl)) pr124⟩
                          exact gz_end (I := .ireturn) (len := 1) rfl (Or.inl rfl) ⟨sh112, n0 + 1, n0 + 1, rfl, (by omega), (by omega), eh112, (by omega), (by omega), pr123, hsz132, hxr133⟩
                        · refine gy_icF rfl (by decide) (by decide) (by omega) (by omega) hc39 ?_
                          obtain ⟨c2, rc2, hcm⟩ := lp36k12
                          refine gz_s 1 (pc' := 138) (L' := [some (.ref m), some (.int (zi a)), some (.int (zi b)), some (.int (zi t)), some (.int (zi jn15v0)), some (.int (zi z33)), some (.int (zi kb))]) (S' := [.ref m]) rfl ?_
                          refine gs_gtk rfl (by decide) rfl sh38.1 tm rfl rfl lp36k4 ?_
                          refine gz_s 2 (pc' := 144) (L' := [some (.ref m), some (.int (zi a)), some (.int (zi b)), some (.int (zi t)), some (.int (zi jn15v0)), some (.int (zi z33)), some (.int (zi kb))]) (S' := [.int (zi t), .int (zi kb), .ref c14]) rfl ?_
                          have hl134 : 64 ≤ h38.2.2.2.1 c14 ∧ h38.2.2.2.1 c14 ≤ 64 := gJ.rowl (G := gGG) sh38.1 tc14 rfl
                          refine gs_ast rfl (by decide) sh38 tc14 rfl rfl rfl (by decide) (fun _ => rfl) (by omega) (by omega) (fun _ => (by decide : (31999 : Nat) ∈ ([1000, 1053, 27999, 28999, 29999, 30999, 31999] : List Nat))) (by omega) (by omega) (fun h135 sh135 eh135 fh135 => ?_)
                          have pr136 := gRn.pt fh135 tc14 (by decide) lp36k5
                          have pr137 := gRn.pt fh135 tc14 (by decide) lp36k6
                          have pr138 := gRow.pt fh135 tc14 (by decide) lp36k7
                          have pr139 := gRow.pt fh135 tc14 (by decide) lp36k8
                          have pr140 := gRn.pt fh135 tc14 (by decide) lp36k9
                          have pr141 := gRn.pt fh135 tc14 (by decide) lp36k10
                          have pr142 := gRow.put (i := kb) (z := t) uq tc14 (by decide) fh135 eh135 (by omega) (by omega) rc2
                          have s143 := (fh135 m 53 (fun q => absurd (((tm).symm.trans (congrArg ty q.1)).trans tc14) (by decide))).trans lp36k0
                          have s144 := (fh135 m 0 (fun q => absurd (((tm).symm.trans (congrArg ty q.1)).trans tc14) (by decide))).trans lp36k1
                          have s145 := (fh135 m 54 (fun q => absurd (((tm).symm.trans (congrArg ty q.1)).trans tc14) (by decide))).trans lp36k2
                          have s146 := (fh135 m 55 (fun q => absurd (((tm).symm.trans (congrArg ty q.1)).trans tc14) (by decide))).trans lp36k3
                          have s147 := (fh135 m 58 (fun q => absurd (((tm).symm.trans (congrArg ty q.1)).trans tc14) (by decide))).trans lp36k4
                          have pr148 := gEl.set (i := kb) (z := t) uq tc14 (by decide) eh135 (by omega) (by omega)
                          have e6 : cf (kb).toNat = cf a.toNat := lp36k11 kb (by omega) (by omega)
                          have e7 : t + 1 ≤ gcr (cf (kb).toNat) := by rw [e6]; unfold gcr; split <;> omega
                          have hcq149 : gCq ty cf a (kb + 1) t h135 := ⟨_, pr142, hcm.step (by omega) (by omega) e7 (by omega)⟩
                          refine gy_s 2 (pc' := 131) (L' := [some (.ref m), some (.int (zi a)), some (.int (zi b)), some (.int (zi t)), some (.int (zi jn15v0)), some (.int (zi z33)), some (.int ((zi kb) + zi 1))]) (S' := []) (L2 := [some (.ref m), some (.int (zi a)), some (.int (zi b)), some (.int (zi t)), some (.int (zi jn15v0)), some (.int (zi z33)), some (.int (zi (kb + 1)))]) (S2 := []) rfl (by simp only [zi_add, zi_sub, zi_mul, zi_neg, zi_and1, zi_and7, zi_and15, zi_and31, zi_and255]) (by simp only [zi_add, zi_sub, zi_mul, zi_neg, zi_and1, zi_and7, zi_and15, zi_and31, zi_and255]) ?_
                          exact gz_wk (ihlp36 h135 (kb + 1) (by omega) sh135 (by omega) (by omega) (by omega) s143 s144 s145 s146 s147 pr136 pr137 pr138 pr139 pr140 pr141 lp36k11 hcq149) (gLw.s (gLw.s (gLw.s (gLw.s (gLw.s (gLw.s (gLw.s gLw.z)))))))
                    exact gz_wk (lp36 _ h30 a (Nat.lt_succ_self _) sh30 (by omega) (by omega) (by omega) lp29k0 lp29k1 lp29k2 lp29k3 lp29k4 lp29k6 lp29k7 lp29k8 lp29k9 lp29k10 lp29k11 lp29k13 hcq37) (gLw.s (gLw.s (gLw.s (gLw.s (gLw.s (gLw.s (gLw.s gLw.z)))))))
                  · refine gy_icF rfl (by decide) (by decide) (by omega) (by omega) hc35 ?_
                    refine gy_s 4 (pc' := 123) (L' := [some (.ref m), some (.int (zi a)), some (.int (zi b)), some (.int (zi t)), some (.int (zi jn15v0)), some (.int (zi z33)), none]) (S' := [.int ((zi t) + (zi 1)), .int (zi z33)]) (L2 := [some (.ref m), some (.int (zi a)), some (.int (zi b)), some (.int (zi t)), some (.int (zi jn15v0)), some (.int (zi z33)), none]) (S2 := [.int (zi (t + 1)), .int (zi z33)]) rfl (by simp only [zi_add, zi_sub, zi_mul, zi_neg, zi_and1, zi_and7, zi_and15, zi_and31, zi_and255]) (by simp only [zi_add, zi_sub, zi_mul, zi_neg, zi_and1, zi_and7, zi_and15, zi_and31, zi_and255]) ?_
                    by_cases hc150 : (z33 : Int) = t + 1
                    · refine gy_icT (pc' := 128) rfl (by decide) (by decide) (by omega) (by omega) hc150 ?_
                      refine gz_s 2 (pc' := 131) (L' := [some (.ref m), some (.int (zi a)), some (.int (zi b)), some (.int (zi t)), some (.int (zi jn15v0)), some (.int (zi z33)), some (.int (zi a))]) (S' := []) rfl ?_
                      have hcq152 : gCq ty cf a a t h30 := ⟨cf, lp29k12, gCm.zero⟩
                      have hcf : cf a.toNat = cf a.toNat := rfl
                      have lp151 : ∀ (fu : Nat) (h153 : gH) (kb : Int), (65 - kb).toNat < fu → gSs rT 1027 ty [1000, 1053, 27999, 28999, 29999, 30999, 31999] h h153 → (0 ≤ kb ∧ kb ≤ 64) → (a ≤ kb) → (kb ≤ b + 1) → h153.2.2.2.2 m 53 = .int (zi n0) → h153.2.2.2.2 m 0 = .int (zi 0) → h153.2.2.2.2 m 54 = .ref c12 → h153.2.2.2.2 m 55 = .ref c13 → h153.2.2.2.2 m 58 = .ref c14 → gRn 256 ty 8 S.1.1 h153 → gRn 1024 ty 26 S.1.2.1 h153 → gRow ty 27 tf h153 → gRow ty 28 tt h153 → gRn 10 ty 29 S.1.2.2.2.2.1 h153 → gRn 10 ty 30 S.1.2.2.2.2.2.1 h153 → (∀ j : Int, a ≤ j → j < k → cf j.toNat = cf a.toNat) → gCq ty cf a kb t h153 → gz gPP gGG gcn (d + 0) gt181 131 [some (.ref m), some (.int (zi a)), some (.int (zi b)), some (.int (zi t)), some (.int (zi jn15v0)), some (.int (zi z33)), some (.int (zi kb))] [] h153 (fun q _ => gSs rT 1027 ty [1000, 1053, 27999, 28999, 29999, 30999, 31999] h q.2.2 ∧ ∃ z n1 : Int, gfin gt181 q.1 q.2.1 = some (some (.int (zi z))) ∧ 0 ≤ z ∧ z ≤ 10 ∧ q.2.2.2.2.2.2 m 53 = .int (zi n1) ∧ 0 ≤ n1 ∧ n1 ≤ 10 ∧ (gTs ty n1 q.2.2) ∧ (gSz S.1.2.2.2.2.2.2 n0 a b t z n1) ∧ (gMw ty (eQ2 n0 S a b t) q.2.2)) := by
                        intro fu
                        induction fu with
                        | zero => intro h153 kb hm; exact absurd hm (Nat.not_lt_zero _)
                        | succ fu ihlp151 =>
                          intro h153 kb lp151m sh153 lp151f0 lp151f1 lp151f2 lp151k0 lp151k1 lp151k2 lp151k3 lp151k4 lp151k5 lp151k6 lp151k7 lp151k8 lp151k9 lp151k10 lp151k11 lp151k12
                          refine gz_s 2 (pc' := 134) (L' := [some (.ref m), some (.int (zi a)), some (.int (zi b)), some (.int (zi t)), some (.int (zi jn15v0)), some (.int (zi z33)), some (.int (zi kb))]) (S' := [.int (zi b), .int (zi kb)]) rfl ?_
                          by_cases hc154 : (b : Int) < kb
                          · refine gy_icT (pc' := 151) rfl (by decide) (by decide) (by omega) (by omega) hc154 ?_
                            refine gz_s 1 (pc' := 152) (L' := [some (.ref m), some (.int (zi a)), some (.int (zi b)), some (.int (zi t)), some (.int (zi jn15v0)), some (.int (zi z33)), some (.int (zi kb))]) (S' := [.ref m]) rfl ?_
                            refine gs_gtk rfl (by decide) rfl sh153.1 tm rfl rfl lp151k2 ?_
                            refine gz_s 1 (pc' := 156) (L' := [some (.ref m), some (.int (zi a)), some (.int (zi b)), some (.int (zi t)), some (.int (zi jn15v0)), some (.int (zi z33)), some (.int (zi kb))]) (S' := [.ref m, .ref c12]) rfl ?_
                            refine gs_gtk rfl (by decide) rfl sh153.1 tm rfl rfl lp151k0 ?_
                            refine gz_s 1 (pc' := 160) (L' := [some (.ref m), some (.int (zi a)), some (.int (zi b)), some (.int (zi t)), some (.int (zi jn15v0)), some (.int (zi z33)), some (.int (zi kb))]) (S' := [.int (zi a), .int (zi n0), .ref c12]) rfl ?_
                            have hl155 : 10 ≤ h153.2.2.2.1 c12 ∧ h153.2.2.2.1 c12 ≤ 10 := gJ.rowl (G := gGG) sh153.1 tc12 rfl
                            refine gs_ast rfl (by decide) sh153 tc12 rfl rfl rfl (by decide) (fun _ => rfl) (by omega) (by omega) (fun _ => (by decide : (27999 : Nat) ∈ ([1000, 1053, 27999, 28999, 29999, 30999, 31999] : List Nat))) (by omega) (by omega) (fun h156 sh156 eh156 fh156 => ?_)
                            have pr157 := gRn.pt fh156 tc12 (by decide) lp151k5
                            have pr158 := gRn.pt fh156 tc12 (by decide) lp151k6
                            have pr159 := gRow.put (i := n0) (z := a) uq tc12 (by decide) fh156 eh156 (by omega) (by omega) lp151k7
                            have pr160 := gRow.pt fh156 tc12 (by decide) lp151k8
                            have pr161 := gRn.pt fh156 tc12 (by decide) lp151k9
                            have pr162 := gRn.pt fh156 tc12 (by decide) lp151k10
                            have pr163 := gCq.pt fh156 tc12 (by decide) lp151k12
                            have s164 := (fh156 m 53 (fun q => absurd (((tm).symm.trans (congrArg ty q.1)).trans tc12) (by decide))).trans lp151k0
                            have s165 := (fh156 m 0 (fun q => absurd (((tm).symm.trans (congrArg ty q.1)).trans tc12) (by decide))).trans lp151k1
                            have s166 := (fh156 m 54 (fun q => absurd (((tm).symm.trans (congrArg ty q.1)).trans tc12) (by decide))).trans lp151k2
                            have s167 := (fh156 m 55 (fun q => absurd (((tm).symm.trans (congrArg ty q.1)).trans tc12) (by decide))).trans lp151k3
                            have s168 := (fh156 m 58 (fun q => absurd (((tm).symm.trans (congrArg ty q.1)).trans tc12) (by decide))).trans lp151k4
                            have pr169 := gEl.set (i := n0) (z := a) uq tc12 (by decide) eh156 (by omega) (by omega)
                            refine gz_s 1 (pc' := 162) (L' := [some (.ref m), some (.int (zi a)), some (.int (zi b)), some (.int (zi t)), some (.int (zi jn15v0)), some (.int (zi z33)), some (.int (zi kb))]) (S' := [.ref m]) rfl ?_
                            refine gs_gtk rfl (by decide) rfl sh156.1 tm rfl rfl s167 ?_
                            refine gz_s 1 (pc' := 166) (L' := [some (.ref m), some (.int (zi a)), some (.int (zi b)), some (.int (zi t)), some (.int (zi jn15v0)), some (.int (zi z33)), some (.int (zi kb))]) (S' := [.ref m, .ref c13]) rfl ?_
                            refine gs_gtk rfl (by decide) rfl sh156.1 tm rfl rfl s164 ?_
                            refine gz_s 1 (pc' := 170) (L' := [some (.ref m), some (.int (zi a)), some (.int (zi b)), some (.int (zi t)), some (.int (zi jn15v0)), some (.int (zi z33)), some (.int (zi kb))]) (S' := [.int (zi b), .int (zi n0), .ref c13]) rfl ?_
                            have hl170 : 10 ≤ h156.2.2.2.1 c13 ∧ h156.2.2.2.1 c13 ≤ 10 := gJ.rowl (G := gGG) sh156.1 tc13 rfl
                            refine gs_ast rfl (by decide) sh156 tc13 rfl rfl rfl (by decide) (fun _ => rfl) (by omega) (by omega) (fun _ => (by decide : (28999 : Nat) ∈ ([1000, 1053, 27999, 28999, 29999, 30999, 31999] : List Nat))) (by omega) (by omega) (fun h171 sh171 eh171 fh171 => ?_)
                            have pr172 := gRn.pt fh171 tc13 (by decide) pr157
                            have pr173 := gRn.pt fh171 tc13 (by decide) pr158
                            have pr174 := gRow.pt fh171 tc13 (by decide) pr159
                            have pr175 := gRow.put (i := n0) (z := b) uq tc13 (by decide) fh171 eh171 (by omega) (by omega) pr160
                            have pr176 := gRn.pt fh171 tc13 (by decide) pr161
                            have pr177 := gRn.pt fh171 tc13 (by decide) pr162
                            have pr178 := gCq.pt fh171 tc13 (by decide) pr163
                            have pr179 := gEl.pt fh171 tc13 (by decide) pr169
                            have s180 := (fh171 m 53 (fun q => absurd (((tm).symm.trans (congrArg ty q.1)).trans tc13) (by decide))).trans s164
                            have s181 := (fh171 m 0 (fun q => absurd (((tm).symm.trans (congrArg ty q.1)).trans tc13) (by decide))).trans s165
                            have s182 := (fh171 m 54 (fun q => absurd (((tm).symm.trans (congrArg ty q.1)).trans tc13) (by decide))).trans s166
                            have s183 := (fh171 m 55 (fun q => absurd (((tm).symm.trans (congrArg ty q.1)).trans tc13) (by decide))).trans s167
                            have s184 := (fh171 m 58 (fun q => absurd (((tm).symm.trans (congrArg ty q.1)).trans tc13) (by decide))).trans s168
                            have pr185 := gEl.set (i := n0) (z := b) uq tc13 (by decide) eh171 (by omega) (by omega)
                            refine gz_s 1 (pc' := 172) (L' := [some (.ref m), some (.int (zi a)), some (.int (zi b)), some (.int (zi t)), some (.int (zi jn15v0)), some (.int (zi z33)), some (.int (zi kb))]) (S' := [.ref m]) rfl ?_
                            refine gs_gtr rfl (by decide) rfl sh171.1 tm rfl rfl rfl (fun c186 ec186 tc186 => ?_)
                            refine gz_s 1 (pc' := 176) (L' := [some (.ref m), some (.int (zi a)), some (.int (zi b)), some (.int (zi t)), some (.int (zi jn15v0)), some (.int (zi z33)), some (.int (zi kb))]) (S' := [.ref m, .ref c186]) rfl ?_
                            refine gs_gtk rfl (by decide) rfl sh171.1 tm rfl rfl s180 ?_
                            refine gz_s 2 (pc' := 182) (L' := [some (.ref m), some (.int (zi a)), some (.int (zi b)), some (.int (zi t)), some (.int (zi jn15v0)), some (.int (zi z33)), some (.int (zi kb))]) (S' := [.int (zi (-1)), .int (zi z33), .int (zi n0), .ref c186]) rfl ?_
                            refine gy_icT (pc' := 189) rfl (by decide) (by decide) (by omega) (by omega) (by first | (simp [zc]; done) | (simp only [zc]; omega)) ?_
                            refine gz_s 1 (pc' := 191) (L' := [some (.ref m), some (.int (zi a)), some (.int (zi b)), some (.int (zi t)), some (.int (zi jn15v0)), some (.int (zi z33)), some (.int (zi kb))]) (S' := [.int (zi z33), .int (zi n0), .ref c186]) rfl ?_
                            have hl187 : 10 ≤ h171.2.2.2.1 c186 ∧ h171.2.2.2.1 c186 ≤ 10 := gJ.rowl (G := gGG) sh171.1 tc186 rfl
                            refine gs_ast rfl (by decide) sh171 tc186 rfl rfl rfl (by decide) (fun _ => rfl) (by omega) (by omega) (fun _ => (by decide : (29999 : Nat) ∈ ([1000, 1053, 27999, 28999, 29999, 30999, 31999] : List Nat))) (by omega) (by omega) (fun h188 sh188 eh188 fh188 => ?_)
                            have pr189 := gRn.pt fh188 tc186 (by decide) pr172
                            have pr190 := gRn.pt fh188 tc186 (by decide) pr173
                            have pr191 := gRow.pt fh188 tc186 (by decide) pr174
                            have pr192 := gRow.pt fh188 tc186 (by decide) pr175
                            have pr193 := gRn.put (i := n0) (z := z33) uq tc186 (by decide) fh188 eh188 (by omega) (by omega) pr176
                            have pr194 := gRn.pt fh188 tc186 (by decide) pr177
                            have pr195 := gCq.pt fh188 tc186 (by decide) pr178
                            have pr196 := gEl.pt fh188 tc186 (by decide) pr179
                            have pr197 := gEl.pt fh188 tc186 (by decide) pr185
                            have s198 := (fh188 m 53 (fun q => absurd (((tm).symm.trans (congrArg ty q.1)).trans tc186) (by decide))).trans s180
                            have s199 := (fh188 m 0 (fun q => absurd (((tm).symm.trans (congrArg ty q.1)).trans tc186) (by decide))).trans s181
                            have s200 := (fh188 m 54 (fun q => absurd (((tm).symm.trans (congrArg ty q.1)).trans tc186) (by decide))).trans s182
                            have s201 := (fh188 m 55 (fun q => absurd (((tm).symm.trans (congrArg ty q.1)).trans tc186) (by decide))).trans s183
                            have s202 := (fh188 m 58 (fun q => absurd (((tm).symm.trans (congrArg ty q.1)).trans tc186) (by decide))).trans s184
                            have s203 := (fh188 m 56 (fun q => absurd (((tm).symm.trans (congrArg ty q.1)).trans tc186) (by decide))).trans ec186
                            have pr204 := gEl.set (i := n0) (z := z33) uq tc186 (by decide) eh188 (by omega) (by omega)
                            refine gz_s 1 (pc' := 193) (L' := [some (.ref m), some (.int (zi a)), some (.int (zi b)), some (.int (zi t)), some (.int (zi jn15v0)), some (.int (zi z33)), some (.int (zi kb))]) (S' := [.ref m]) rfl ?_
                            refine gs_gtr rfl (by decide) rfl sh188.1 tm rfl rfl rfl (fun c205 ec205 tc205 => ?_)
                            refine gz_s 1 (pc' := 197) (L' := [some (.ref m), some (.int (zi a)), some (.int (zi b)), some (.int (zi t)), some (.int (zi jn15v0)), some (.int (zi z33)), some (.int (zi kb))]) (S' := [.ref m, .ref c205]) rfl ?_
                            refine gs_gtk rfl (by decide) rfl sh188.1 tm rfl rfl s198 ?_
                            refine gz_s 1 (pc' := 201) (L' := [some (.ref m), some (.int (zi a)), some (.int (zi b)), some (.int (zi t)), some (.int (zi jn15v0)), some (.int (zi z33)), some (.int (zi kb))]) (S' := [.int (zi t), .int (zi n0), .ref c205]) rfl ?_
                            have hl206 : 10 ≤ h188.2.2.2.1 c205 ∧ h188.2.2.2.1 c205 ≤ 10 := gJ.rowl (G := gGG) sh188.1 tc205 rfl
                            refine gs_ast rfl (by decide) sh188 tc205 rfl rfl rfl (by decide) (fun _ => rfl) (by omega) (by omega) (fun _ => (by decide : (30999 : Nat) ∈ ([1000, 1053, 27999, 28999, 29999, 30999, 31999] : List Nat))) (by omega) (by omega) (fun h207 sh207 eh207 fh207 => ?_)
                            have pr208 := gRn.pt fh207 tc205 (by decide) pr189
                            have pr209 := gRn.pt fh207 tc205 (by decide) pr190
                            have pr210 := gRow.pt fh207 tc205 (by decide) pr191
                            have pr211 := gRow.pt fh207 tc205 (by decide) pr192
                            have pr212 := gRn.pt fh207 tc205 (by decide) pr193
                            have pr213 := gRn.put (i := n0) (z := t) uq tc205 (by decide) fh207 eh207 (by omega) (by omega) pr194
                            have pr214 := gCq.pt fh207 tc205 (by decide) pr195
                            have pr215 := gEl.pt fh207 tc205 (by decide) pr196
                            have pr216 := gEl.pt fh207 tc205 (by decide) pr197
                            have pr217 := gEl.pt fh207 tc205 (by decide) pr204
                            have s218 := (fh207 m 53 (fun q => absurd (((tm).symm.trans (congrArg ty q.1)).trans tc205) (by decide))).trans s198
                            have s219 := (fh207 m 0 (fun q => absurd (((tm).symm.trans (congrArg ty q.1)).trans tc205) (by decide))).trans s199
                            have s220 := (fh207 m 54 (fun q => absurd (((tm).symm.trans (congrArg ty q.1)).trans tc205) (by decide))).trans s200
                            have s221 := (fh207 m 55 (fun q => absurd (((tm).symm.trans (congrArg ty q.1)).trans tc205) (by decide))).trans s201
                            have s222 := (fh207 m 58 (fun q => absurd (((tm).symm.trans (congrArg ty q.1)).trans tc205) (by decide))).trans s202
                            have s223 := (fh207 m 56 (fun q => absurd (((tm).symm.trans (congrArg ty q.1)).trans tc205) (by decide))).trans s203
                            have s224 := (fh207 m 57 (fun q => absurd (((tm).symm.trans (congrArg ty q.1)).trans tc205) (by decide))).trans ec205
                            have pr225 := gEl.set (i := n0) (z := t) uq tc205 (by decide) eh207 (by omega) (by omega)
                            refine gz_s 2 (pc' := 204) (L' := [some (.ref m), some (.int (zi a)), some (.int (zi b)), some (.int (zi t)), some (.int (zi jn15v0)), some (.int (zi z33)), some (.int (zi kb))]) (S' := [.ref m, .ref m]) rfl ?_
                            refine gs_gtk rfl (by decide) rfl sh207.1 tm rfl rfl s218 ?_
                            refine gy_s 2 (pc' := 209) (L' := [some (.ref m), some (.int (zi a)), some (.int (zi b)), some (.int (zi t)), some (.int (zi jn15v0)), some (.int (zi z33)), some (.int (zi kb))]) (S' := [.int ((zi n0) + (zi 1)), .ref m]) (L2 := [some (.ref m), some (.int (zi a)), some (.int (zi b)), some (.int (zi t)), some (.int (zi jn15v0)), some (.int (zi z33)), some (.int (zi kb))]) (S2 := [.int (zi (n0 + 1)), .ref m]) rfl (by simp only [zi_add, zi_sub, zi_mul, zi_neg, zi_and1, zi_and7, zi_and15, zi_and31, zi_and255]) (by simp only [zi_add, zi_sub, zi_mul, zi_neg, zi_and1, zi_and7, zi_and15, zi_and31, zi_and255]) ?_
                            obtain ⟨c2, rc2, hcm⟩ := pr214
                            have hts226 : gTs ty (n0 + 1) h207 := gTs.tell (by omega) pr210 pr211 rc2 tle tsm hcm (by omega) (by omega)
                            refine gs_put rfl (by decide) rfl sh207 tm rfl rfl rfl rfl (Or.inl rfl) (by decide) (by omega) (by omega) (fun h227 sh227 eh227 fh227 => ?_)
                            have pr228 := gRn.pt fh227 tm (by decide) pr208
                            have pr229 := gRn.pt fh227 tm (by decide) pr209
                            have pr230 := gRow.pt fh227 tm (by decide) pr210
                            have pr231 := gRow.pt fh227 tm (by decide) pr211
                            have pr232 := gRn.pt fh227 tm (by decide) pr212
                            have pr233 := gRn.pt fh227 tm (by decide) pr213
                            have pr234 := gEl.pt fh227 tm (by decide) pr215
                            have pr235 := gEl.pt fh227 tm (by decide) pr216
                            have pr236 := gEl.pt fh227 tm (by decide) pr217
                            have pr237 := gEl.pt fh227 tm (by decide) pr225
                            have pr238 := gTs.pt fh227 tm (by decide) hts226
                            have pr239 := gRow.pt fh227 tm (by decide) rc2
                            have s240 := (fh227 m 0 (fun q => absurd q.2 (by decide))).trans s219
                            have s241 := (fh227 m 54 (fun q => absurd q.2 (by decide))).trans s220
                            have s242 := (fh227 m 55 (fun q => absurd q.2 (by decide))).trans s221
                            have s243 := (fh227 m 58 (fun q => absurd q.2 (by decide))).trans s222
                            have s244 := (fh227 m 56 (fun q => absurd q.2 (by decide))).trans s223
                            have s245 := (fh227 m 57 (fun q => absurd q.2 (by decide))).trans s224
                            refine gz_s 1 (pc' := 213) (L' := [some (.ref m), some (.int (zi a)), some (.int (zi b)), some (.int (zi t)), some (.int (zi jn15v0)), some (.int (zi z33)), some (.int (zi kb))]) (S' := [.ref m]) rfl ?_
                            refine gs_gtk rfl (by decide) rfl sh227.1 tm rfl rfl eh227 ?_
                            have hsk246 : gSk S.1.2.2.2.2.2.2 n0 a b t := gSk.cg ecf (gSk.mk (by omega) ⟨by omega, by omega⟩ (by omega) (by omega) (fun j h1 h2 => lp151k11 j h1 (by omega)))
                            have hsz247 : gSz S.1.2.2.2.2.2.2 n0 a b t (n0 + 1) (n0 + 1) := ⟨fun _ => ⟨by omega, by omega⟩, fun w => absurd hsk246 w⟩
                            have hxr248v : z33 = if S.1.2.2.2.2.2.2 a.toNat = -1 then 0 else S.1.2.2.2.2.2.2 a.toNat := by have e9 := ecf a.toNat (by omega); rw [← e9]; split <;> omega
                            have hxr248h := pr232
                            rw [hxr248v] at hxr248h
                            have hxr248 : gMw ty (eQ2 n0 S a b t) h227 := by
                              rw [eQ2_y hsk246]
                              exact ⟨pr228, pr229, gRow.Rn (by decide) etf.fu pr230, gRow.Rn (by decide) ett.fu pr231, hxr248h, pr233, gRow.Rn (by decide) (fun j hj => by rw [hcm.2.2.2 (by omega) j, ecf j hj]; first | rfl | (rw [show kb = b + 1 by omega]; rfl)) pr239⟩
                            exact gz_end (I := .ireturn) (len := 1) rfl (Or.inl rfl) ⟨sh227, n0 + 1, n0 + 1, rfl, (by omega), (by omega), eh227, (by omega), (by omega), pr238, hsz247, hxr248⟩
                          · refine gy_icF rfl (by decide) (by decide) (by omega) (by omega) hc154 ?_
                            obtain ⟨c2, rc2, hcm⟩ := lp151k12
                            refine gz_s 1 (pc' := 138) (L' := [some (.ref m), some (.int (zi a)), some (.int (zi b)), some (.int (zi t)), some (.int (zi jn15v0)), some (.int (zi z33)), some (.int (zi kb))]) (S' := [.ref m]) rfl ?_
                            refine gs_gtk rfl (by decide) rfl sh153.1 tm rfl rfl lp151k4 ?_
                            refine gz_s 2 (pc' := 144) (L' := [some (.ref m), some (.int (zi a)), some (.int (zi b)), some (.int (zi t)), some (.int (zi jn15v0)), some (.int (zi z33)), some (.int (zi kb))]) (S' := [.int (zi t), .int (zi kb), .ref c14]) rfl ?_
                            have hl249 : 64 ≤ h153.2.2.2.1 c14 ∧ h153.2.2.2.1 c14 ≤ 64 := gJ.rowl (G := gGG) sh153.1 tc14 rfl
                            refine gs_ast rfl (by decide) sh153 tc14 rfl rfl rfl (by decide) (fun _ => rfl) (by omega) (by omega) (fun _ => (by decide : (31999 : Nat) ∈ ([1000, 1053, 27999, 28999, 29999, 30999, 31999] : List Nat))) (by omega) (by omega) (fun h250 sh250 eh250 fh250 => ?_)
                            have pr251 := gRn.pt fh250 tc14 (by decide) lp151k5
                            have pr252 := gRn.pt fh250 tc14 (by decide) lp151k6
                            have pr253 := gRow.pt fh250 tc14 (by decide) lp151k7
                            have pr254 := gRow.pt fh250 tc14 (by decide) lp151k8
                            have pr255 := gRn.pt fh250 tc14 (by decide) lp151k9
                            have pr256 := gRn.pt fh250 tc14 (by decide) lp151k10
                            have pr257 := gRow.put (i := kb) (z := t) uq tc14 (by decide) fh250 eh250 (by omega) (by omega) rc2
                            have s258 := (fh250 m 53 (fun q => absurd (((tm).symm.trans (congrArg ty q.1)).trans tc14) (by decide))).trans lp151k0
                            have s259 := (fh250 m 0 (fun q => absurd (((tm).symm.trans (congrArg ty q.1)).trans tc14) (by decide))).trans lp151k1
                            have s260 := (fh250 m 54 (fun q => absurd (((tm).symm.trans (congrArg ty q.1)).trans tc14) (by decide))).trans lp151k2
                            have s261 := (fh250 m 55 (fun q => absurd (((tm).symm.trans (congrArg ty q.1)).trans tc14) (by decide))).trans lp151k3
                            have s262 := (fh250 m 58 (fun q => absurd (((tm).symm.trans (congrArg ty q.1)).trans tc14) (by decide))).trans lp151k4
                            have pr263 := gEl.set (i := kb) (z := t) uq tc14 (by decide) eh250 (by omega) (by omega)
                            have e6 : cf (kb).toNat = cf a.toNat := lp151k11 kb (by omega) (by omega)
                            have e7 : t + 1 ≤ gcr (cf (kb).toNat) := by rw [e6]; unfold gcr; split <;> omega
                            have hcq264 : gCq ty cf a (kb + 1) t h250 := ⟨_, pr257, hcm.step (by omega) (by omega) e7 (by omega)⟩
                            refine gy_s 2 (pc' := 131) (L' := [some (.ref m), some (.int (zi a)), some (.int (zi b)), some (.int (zi t)), some (.int (zi jn15v0)), some (.int (zi z33)), some (.int ((zi kb) + zi 1))]) (S' := []) (L2 := [some (.ref m), some (.int (zi a)), some (.int (zi b)), some (.int (zi t)), some (.int (zi jn15v0)), some (.int (zi z33)), some (.int (zi (kb + 1)))]) (S2 := []) rfl (by simp only [zi_add, zi_sub, zi_mul, zi_neg, zi_and1, zi_and7, zi_and15, zi_and31, zi_and255]) (by simp only [zi_add, zi_sub, zi_mul, zi_neg, zi_and1, zi_and7, zi_and15, zi_and31, zi_and255]) ?_
                            exact gz_wk (ihlp151 h250 (kb + 1) (by omega) sh250 (by omega) (by omega) (by omega) s258 s259 s260 s261 s262 pr251 pr252 pr253 pr254 pr255 pr256 lp151k11 hcq264) (gLw.s (gLw.s (gLw.s (gLw.s (gLw.s (gLw.s (gLw.s gLw.z)))))))
                      exact gz_wk (lp151 _ h30 a (Nat.lt_succ_self _) sh30 (by omega) (by omega) (by omega) lp29k0 lp29k1 lp29k2 lp29k3 lp29k4 lp29k6 lp29k7 lp29k8 lp29k9 lp29k10 lp29k11 lp29k13 hcq152) (gLw.s (gLw.s (gLw.s (gLw.s (gLw.s (gLw.s (gLw.s gLw.z)))))))
                    · refine gy_icF rfl (by decide) (by decide) (by omega) (by omega) hc150 ?_
                      refine gz_s 1 (pc' := 127) (L' := [some (.ref m), some (.int (zi a)), some (.int (zi b)), some (.int (zi t)), some (.int (zi jn15v0)), some (.int (zi z33)), none]) (S' := [.int (zi 0)]) rfl ?_
                      have hsk265 : ¬ gSk S.1.2.2.2.2.2.2 n0 a b t := fun w => by obtain ⟨w1, w2, w3, w4, w5⟩ := gSk.cg ecf.sy w; omega
                      have hsz266 : gSz S.1.2.2.2.2.2.2 n0 a b t 0 n0 := ⟨fun w => absurd w hsk265, fun _ => ⟨by omega, by omega⟩⟩
                      have hxr267 : gMw ty (eQ2 n0 S a b t) h30 := by
                        rw [eQ2_n hsk265]
                        exact ⟨lp29k6, lp29k7, gRow.Rn (by decide) etf lp29k8, gRow.Rn (by decide) ett lp29k9, lp29k10, lp29k11, gRow.Rn (by decide) ecf lp29k12⟩
                      exact gz_end (I := .ireturn) (len := 1) rfl (Or.inl rfl) ⟨sh30, 0, n0, rfl, (by omega), (by omega), lp29k0, (by omega), (by omega), lp29k5, hsz266, hxr267⟩
                · refine gy_icF rfl (by decide) (by decide) (by omega) (by omega) hc31 ?_
                  refine gz_s 1 (pc' := 81) (L' := [some (.ref m), some (.int (zi a)), some (.int (zi b)), some (.int (zi t)), some (.int (zi jn15v0)), some (.int (zi k)), none]) (S' := [.ref m]) rfl ?_
                  refine gs_gtk rfl (by decide) rfl sh30.1 tm rfl rfl lp29k4 ?_
                  refine gz_s 1 (pc' := 86) (L' := [some (.ref m), some (.int (zi a)), some (.int (zi b)), some (.int (zi t)), some (.int (zi jn15v0)), some (.int (zi k)), none]) (S' := [.int (zi k), .ref c14]) rfl ?_
                  have hl268 : 64 ≤ h30.2.2.2.1 c14 ∧ h30.2.2.2.1 c14 ≤ 64 := gJ.rowl (G := gGG) sh30.1 tc14 rfl
                  refine gs_ald rfl (by decide) sh30.1 tc14 rfl rfl rfl (by decide) (fun _ => rfl) (by omega) (by omega) (fun z269 ez269 az269 bz269 => ?_)
                  have hf270 := gRow.at (i := k) (z := z269) lp29k12 tc14 ez269 (by omega) (by omega) (by omega)
                  refine gz_s 1 (pc' := 88) (L' := [some (.ref m), some (.int (zi a)), some (.int (zi b)), some (.int (zi t)), some (.int (zi jn15v0)), some (.int (zi k)), none]) (S' := [.ref m, .int (zi z269)]) rfl ?_
                  refine gs_gtk rfl (by decide) rfl sh30.1 tm rfl rfl lp29k4 ?_
                  refine gz_s 1 (pc' := 92) (L' := [some (.ref m), some (.int (zi a)), some (.int (zi b)), some (.int (zi t)), some (.int (zi jn15v0)), some (.int (zi k)), none]) (S' := [.int (zi a), .ref c14, .int (zi z269)]) rfl ?_
                  have hl271 : 64 ≤ h30.2.2.2.1 c14 ∧ h30.2.2.2.1 c14 ≤ 64 := gJ.rowl (G := gGG) sh30.1 tc14 rfl
                  refine gs_ald rfl (by decide) sh30.1 tc14 rfl rfl rfl (by decide) (fun _ => rfl) (by omega) (by omega) (fun z272 ez272 az272 bz272 => ?_)
                  have hf273 := gRow.at (i := a) (z := z272) lp29k12 tc14 ez272 (by omega) (by omega) (by omega)
                  by_cases hc274 : (z269 : Int) = z272
                  · refine gy_icT (pc' := 98) rfl (by decide) (by decide) (by omega) (by omega) hc274 ?_
                    have hce275 : ∀ j : Int, a ≤ j → j < k + 1 → cf j.toNat = cf a.toNat := fun j h1 h2 => by
                      by_cases e : j = k
                      · subst e; omega
                      · exact lp29k13 j h1 (by omega)
                    refine gy_s 2 (pc' := 74) (L' := [some (.ref m), some (.int (zi a)), some (.int (zi b)), some (.int (zi t)), some (.int (zi jn15v0)), some (.int ((zi k) + zi 1)), none]) (S' := []) (L2 := [some (.ref m), some (.int (zi a)), some (.int (zi b)), some (.int (zi t)), some (.int (zi jn15v0)), some (.int (zi (k + 1))), none]) (S2 := []) rfl (by simp only [zi_add, zi_sub, zi_mul, zi_neg, zi_and1, zi_and7, zi_and15, zi_and31, zi_and255]) (by simp only [zi_add, zi_sub, zi_mul, zi_neg, zi_and1, zi_and7, zi_and15, zi_and31, zi_and255]) ?_
                    exact gz_wk (ihlp29 h30 (k + 1) (by omega) sh30 (by omega) (by omega) lp29k0 lp29k1 lp29k2 lp29k3 lp29k4 lp29k5 lp29k6 lp29k7 lp29k8 lp29k9 lp29k10 lp29k11 lp29k12 hce275) (gLw.s (gLw.s (gLw.s (gLw.s (gLw.s (gLw.s (gLw.n gLw.z)))))))
                  · refine gy_icF rfl (by decide) (by decide) (by omega) (by omega) hc274 ?_
                    refine gz_s 1 (pc' := 97) (L' := [some (.ref m), some (.int (zi a)), some (.int (zi b)), some (.int (zi t)), some (.int (zi jn15v0)), some (.int (zi k)), none]) (S' := [.int (zi 0)]) rfl ?_
                    have hsk276 : ¬ gSk S.1.2.2.2.2.2.2 n0 a b t := fun w => by have w5 := (gSk.cg ecf.sy w).at (j := k) (by omega) (by omega); omega
                    have hsz277 : gSz S.1.2.2.2.2.2.2 n0 a b t 0 n0 := ⟨fun w => absurd w hsk276, fun _ => ⟨by omega, by omega⟩⟩
                    have hxr278 : gMw ty (eQ2 n0 S a b t) h30 := by
                      rw [eQ2_n hsk276]
                      exact ⟨lp29k6, lp29k7, gRow.Rn (by decide) etf lp29k8, gRow.Rn (by decide) ett lp29k9, lp29k10, lp29k11, gRow.Rn (by decide) ecf lp29k12⟩
                    exact gz_end (I := .ireturn) (len := 1) rfl (Or.inl rfl) ⟨sh30, 0, n0, rfl, (by omega), (by omega), lp29k0, (by omega), (by omega), lp29k5, hsz277, hxr278⟩
            exact gz_wk (lp29 _ h1 a (Nat.lt_succ_self _) sh1 (by omega) (by omega) s4 eh1 ec12 ec13 ec14 pr2 xr5 xr6 rf rt xr9 xr10 rc (fun j h1 h2 => absurd h2 (by omega))) (gLw.s (gLw.s (gLw.s (gLw.s (gLw.s (gLw.s (gLw.n gLw.z)))))))
          · refine gy_icF rfl (by decide) (by decide) (by omega) (by omega) hc28 ?_
            refine gz_s 1 (pc' := 70) (L' := [some (.ref m), some (.int (zi a)), some (.int (zi b)), some (.int (zi t)), some (.int (zi jn15v0)), none, none]) (S' := [.int (zi 0)]) rfl ?_
            have hsk279 : ¬ gSk S.1.2.2.2.2.2.2 n0 a b t := fun w => by obtain ⟨w1, w2, w3, w4, w5⟩ := gSk.cg ecf.sy w; omega
            have hsz280 : gSz S.1.2.2.2.2.2.2 n0 a b t 0 n0 := ⟨fun w => absurd w hsk279, fun _ => ⟨by omega, by omega⟩⟩
            have hxr281 : gMw ty (eQ2 n0 S a b t) h1 := by
              rw [eQ2_n hsk279]
              exact ⟨xr5, xr6, gRow.Rn (by decide) etf rf, gRow.Rn (by decide) ett rt, xr9, xr10, gRow.Rn (by decide) ecf rc⟩
            exact gz_end (I := .ireturn) (len := 1) rfl (Or.inl rfl) ⟨sh1, 0, n0, rfl, (by omega), (by omega), s4, (by omega), (by omega), pr2, hsz280, hxr281⟩
  by_cases hc282 : ¬ (a : Int) = 0
  · refine gy_ifT (pc' := 13) rfl (by decide) (by decide) (by omega) hc282 ?_
    refine gz_s 2 (pc' := 15) (L' := [some (.ref m), some (.int (zi a)), some (.int (zi b)), some (.int (zi t)), none, none, none]) (S' := [.int (zi 1), .int (zi a)]) rfl ?_
    by_cases hc283 : (a : Int) < 1
    · refine gy_icT (pc' := 43) rfl (by decide) (by decide) (by omega) (by omega) hc283 ?_
      refine gz_s 1 (pc' := 44) (L' := [some (.ref m), some (.int (zi a)), some (.int (zi b)), some (.int (zi t)), none, none, none]) (S' := [.int (zi 0)]) rfl ?_
      exact jn15 0 (by omega)
    · refine gy_icF rfl (by decide) (by decide) (by omega) (by omega) hc283 ?_
      refine gz_s 2 (pc' := 20) (L' := [some (.ref m), some (.int (zi a)), some (.int (zi b)), some (.int (zi t)), none, none, none]) (S' := [.int (zi b), .int (zi a)]) rfl ?_
      by_cases hc284 : (b : Int) < a
      · refine gy_icT (pc' := 43) rfl (by decide) (by decide) (by omega) (by omega) hc284 ?_
        refine gz_s 1 (pc' := 44) (L' := [some (.ref m), some (.int (zi a)), some (.int (zi b)), some (.int (zi t)), none, none, none]) (S' := [.int (zi 0)]) rfl ?_
        exact jn15 0 (by omega)
      · refine gy_icF rfl (by decide) (by decide) (by omega) (by omega) hc284 ?_
        refine gz_s 2 (pc' := 26) (L' := [some (.ref m), some (.int (zi a)), some (.int (zi b)), some (.int (zi t)), none, none, none]) (S' := [.int (zi 63), .int (zi b)]) rfl ?_
        by_cases hc285 : (63 : Int) < b
        · refine gy_icT (pc' := 43) rfl (by decide) (by decide) (by omega) (by omega) hc285 ?_
          refine gz_s 1 (pc' := 44) (L' := [some (.ref m), some (.int (zi a)), some (.int (zi b)), some (.int (zi t)), none, none, none]) (S' := [.int (zi 0)]) rfl ?_
          exact jn15 0 (by omega)
        · refine gy_icF rfl (by decide) (by decide) (by omega) (by omega) hc285 ?_
          refine gz_s 1 (pc' := 30) (L' := [some (.ref m), some (.int (zi a)), some (.int (zi b)), some (.int (zi t)), none, none, none]) (S' := [.ref m]) rfl ?_
          refine gs_gtk rfl (by decide) rfl sh1.1 tm rfl rfl ec14 ?_
          refine gz_s 1 (pc' := 34) (L' := [some (.ref m), some (.int (zi a)), some (.int (zi b)), some (.int (zi t)), none, none, none]) (S' := [.int (zi 0), .ref c14]) rfl ?_
          have hl286 : 64 ≤ h1.2.2.2.1 c14 ∧ h1.2.2.2.1 c14 ≤ 64 := gJ.rowl (G := gGG) sh1.1 tc14 rfl
          refine gs_ald rfl (by decide) sh1.1 tc14 rfl rfl rfl (by decide) (fun _ => rfl) (by omega) (by omega) (fun z287 ez287 az287 bz287 => ?_)
          have hf288 := gRow.at (i := 0) (z := z287) rc tc14 ez287 (by omega) (by omega) (by omega)
          refine gz_s 1 (pc' := 36) (L' := [some (.ref m), some (.int (zi a)), some (.int (zi b)), some (.int (zi t)), none, none, none]) (S' := [.int (zi (-1)), .int (zi z287)]) rfl ?_
          by_cases hc289 : (z287 : Int) = (-1)
          · refine gy_icT (pc' := 43) rfl (by decide) (by decide) (by omega) (by omega) hc289 ?_
            refine gz_s 1 (pc' := 44) (L' := [some (.ref m), some (.int (zi a)), some (.int (zi b)), some (.int (zi t)), none, none, none]) (S' := [.int (zi 0)]) rfl ?_
            exact jn15 0 (by omega)
          · refine gy_icF rfl (by decide) (by decide) (by omega) (by omega) hc289 ?_
            refine gz_s 2 (pc' := 44) (L' := [some (.ref m), some (.int (zi a)), some (.int (zi b)), some (.int (zi t)), none, none, none]) (S' := [.int (zi 1)]) rfl ?_
            exact jn15 1 (by omega)
  · refine gy_ifF rfl (by decide) (by decide) (by omega) hc282 ?_
    refine gz_s 1 (pc' := 10) (L' := [some (.ref m), some (.int (zi a)), some (.int (zi b)), some (.int (zi t)), none, none, none]) (S' := [.int (zi b)]) rfl ?_
    by_cases hc290 : (b : Int) = 0
    · refine gy_ifT (pc' := 39) rfl (by decide) (by decide) (by omega) hc290 ?_
      refine gz_s 2 (pc' := 44) (L' := [some (.ref m), some (.int (zi a)), some (.int (zi b)), some (.int (zi t)), none, none, none]) (S' := [.int (zi 1)]) rfl ?_
      exact jn15 1 (by omega)
    · refine gy_ifF rfl (by decide) (by decide) (by omega) hc290 ?_
      refine gz_s 2 (pc' := 15) (L' := [some (.ref m), some (.int (zi a)), some (.int (zi b)), some (.int (zi t)), none, none, none]) (S' := [.int (zi 1), .int (zi a)]) rfl ?_
      refine gy_icT (pc' := 43) rfl (by decide) (by decide) (by omega) (by omega) (by first | (simp [zc]; done) | (simp only [zc]; omega)) ?_
      refine gz_s 1 (pc' := 44) (L' := [some (.ref m), some (.int (zi a)), some (.int (zi b)), some (.int (zi t)), none, none, none]) (S' := [.int (zi 0)]) rfl ?_
      exact jn15 0 (by omega)
set_option maxRecDepth 20000 in
set_option maxHeartbeats 4000000 in
theorem mm_restart2 (d : Nat) {ty : Nat → Nat} {h : gH} (hJ : gJ rT 1027 ty h) (m : Nat) (tm : ty m = 1) (n : Int) (rn : (-2147483648) ≤ n ∧ n ≤ 2147483647) (i0 : Int) (ei0 : h.2.2.2.2 m 52 = .int (zi i0)) (ri0 : 0 ≤ i0 ∧ i0 ≤ 100) : gz gPP gGG gcn (d + 0) gt182 0 (gent [.ref m, .int (zi n)] 3) [] h (fun q _ => gSs rT 1027 ty [1000, 1052] h q.2.2 ∧ ∃ z i1 th : Int, gfin gt182 q.1 q.2.1 = some (some (.int (zi z))) ∧ 0 ≤ z ∧ z ≤ 100 ∧ q.2.2.2.2.2.2 m 52 = .int (zi i1) ∧ 0 ≤ i1 ∧ i1 ≤ 100 ∧ q.2.2.2.2.2.2 m 0 = .int (zi th) ∧ 0 ≤ th ∧ th ≤ 2 ∧ ((0 ≤ n ∧ n ≤ 100) → (z = i0 ∧ i1 = n ∧ th = 0)) ∧ (¬ (0 ≤ n ∧ n ≤ 100) → (i1 = i0 ∧ th = 1))) := by
  have hS : gSs rT 1027 ty [1000, 1052] h h := gSs.rf hJ
  refine gz_s 2 (pc' := 2) (L' := [some (.ref m), some (.int (zi n)), none]) (S' := [.int (zi n), .ref m]) rfl ?_
  by_cases hc1 : (n : Int) < 0
  · refine gy_ifT (pc' := 11) rfl (by decide) (by decide) (by omega) hc1 ?_
    refine gz_s 2 (pc' := 16) (L' := [some (.ref m), some (.int (zi n)), none]) (S' := [.int (zi 1), .ref m]) rfl ?_
    refine gs_put rfl (by decide) rfl hS tm rfl rfl rfl rfl (Or.inl rfl) (by decide) (by omega) (by omega) (fun h2 sh2 eh2 fh2 => ?_)
    have s3 := (fh2 m 52 (fun q => absurd q.2 (by decide))).trans ei0
    refine gz_s 1 (pc' := 20) (L' := [some (.ref m), some (.int (zi n)), none]) (S' := [.ref m]) rfl ?_
    refine gs_gtk rfl (by decide) rfl sh2.1 tm rfl rfl eh2 ?_
    refine gy_ifF rfl (by decide) (by decide) (by omega) (by first | (simp [zc]; done) | (simp only [zc]; omega)) ?_
    refine gz_s 1 (pc' := 27) (L' := [some (.ref m), some (.int (zi n)), none]) (S' := [.int (zi 0)]) rfl ?_
    exact gz_end (I := .ireturn) (len := 1) rfl (Or.inl rfl) ⟨sh2, 0, i0, 1, rfl, (by omega), (by omega), s3, (by omega), (by omega), eh2, (by omega), (by omega), (by omega), (by omega)⟩
  · refine gy_ifF rfl (by decide) (by decide) (by omega) hc1 ?_
    refine gz_s 2 (pc' := 8) (L' := [some (.ref m), some (.int (zi n)), none]) (S' := [.int (zi 100), .int (zi n), .ref m]) rfl ?_
    by_cases hc4 : (n : Int) ≤ 100
    · refine gy_icT (pc' := 15) rfl (by decide) (by decide) (by omega) (by omega) hc4 ?_
      refine gz_s 1 (pc' := 16) (L' := [some (.ref m), some (.int (zi n)), none]) (S' := [.int (zi 0), .ref m]) rfl ?_
      refine gs_put rfl (by decide) rfl hS tm rfl rfl rfl rfl (Or.inl rfl) (by decide) (by omega) (by omega) (fun h5 sh5 eh5 fh5 => ?_)
      have s6 := (fh5 m 52 (fun q => absurd q.2 (by decide))).trans ei0
      refine gz_s 1 (pc' := 20) (L' := [some (.ref m), some (.int (zi n)), none]) (S' := [.ref m]) rfl ?_
      refine gs_gtk rfl (by decide) rfl sh5.1 tm rfl rfl eh5 ?_
      refine gy_ifT (pc' := 28) rfl (by decide) (by decide) (by omega) (by first | (simp [zc]; done) | (simp only [zc]; omega)) ?_
      refine gz_s 1 (pc' := 29) (L' := [some (.ref m), some (.int (zi n)), none]) (S' := [.ref m]) rfl ?_
      refine gs_gtk rfl (by decide) rfl sh5.1 tm rfl rfl s6 ?_
      refine gz_s 3 (pc' := 35) (L' := [some (.ref m), some (.int (zi n)), some (.int (zi i0))]) (S' := [.int (zi n), .ref m]) rfl ?_
      refine gs_put rfl (by decide) rfl sh5 tm rfl rfl rfl rfl (Or.inl rfl) (by decide) (by omega) (by omega) (fun h7 sh7 eh7 fh7 => ?_)
      have s8 := (fh7 m 0 (fun q => absurd q.2 (by decide))).trans eh5
      refine gz_s 1 (pc' := 39) (L' := [some (.ref m), some (.int (zi n)), some (.int (zi i0))]) (S' := [.int (zi i0)]) rfl ?_
      exact gz_end (I := .ireturn) (len := 1) rfl (Or.inl rfl) ⟨sh7, i0, n, 0, rfl, (by omega), (by omega), eh7, (by omega), (by omega), s8, (by omega), (by omega), (by omega), (by omega)⟩
    · refine gy_icF rfl (by decide) (by decide) (by omega) (by omega) hc4 ?_
      refine gz_s 2 (pc' := 16) (L' := [some (.ref m), some (.int (zi n)), none]) (S' := [.int (zi 1), .ref m]) rfl ?_
      refine gs_put rfl (by decide) rfl hS tm rfl rfl rfl rfl (Or.inl rfl) (by decide) (by omega) (by omega) (fun h9 sh9 eh9 fh9 => ?_)
      have s10 := (fh9 m 52 (fun q => absurd q.2 (by decide))).trans ei0
      refine gz_s 1 (pc' := 20) (L' := [some (.ref m), some (.int (zi n)), none]) (S' := [.ref m]) rfl ?_
      refine gs_gtk rfl (by decide) rfl sh9.1 tm rfl rfl eh9 ?_
      refine gy_ifF rfl (by decide) (by decide) (by omega) (by first | (simp [zc]; done) | (simp only [zc]; omega)) ?_
      refine gz_s 1 (pc' := 27) (L' := [some (.ref m), some (.int (zi n)), none]) (S' := [.int (zi 0)]) rfl ?_
      exact gz_end (I := .ireturn) (len := 1) rfl (Or.inl rfl) ⟨sh9, 0, i0, 1, rfl, (by omega), (by omega), s10, (by omega), (by omega), eh9, (by omega), (by omega), (by omega), (by omega)⟩
set_option maxRecDepth 20000 in
set_option maxHeartbeats 4000000 in
theorem mm_octet2 (d : Nat) {ty : Nat → Nat} {h : gH} (hJ : gJ rT 1027 ty h) (m : Nat) (tm : ty m = 1) (i : Int) (ri : (-2147483648) ≤ i ∧ i ≤ 2147483647) (w0 : Int) (ew0 : h.2.2.2.2 m 59 = .int (zi w0)) (rw0 : 0 ≤ w0 ∧ w0 ≤ 60000) (sg : gWt) (pp0 : w0 = sg.1) (hyso : gSO ty sg h) : gz gPP gGG gcn (d + 0) gt204 0 (gent [.ref m, .int (zi i)] 2) [] h (fun q _ => gSs rT 1027 ty [1000] h q.2.2 ∧ ∃ z th : Int, gfin gt204 q.1 q.2.1 = some (some (.int (zi z))) ∧ (-128) ≤ z ∧ z ≤ 127 ∧ q.2.2.2.2.2.2 m 0 = .int (zi th) ∧ 0 ≤ th ∧ th ≤ 2 ∧ ((0 ≤ i ∧ i < w0) → (z = eeS (sg.2.2.2 i.toNat) ∧ th = 0)) ∧ (¬ (0 ≤ i ∧ i < w0) → th = 1)) := by
  have hS : gSs rT 1027 ty [1000] h h := gSs.rf hJ
  refine gz_s 2 (pc' := 2) (L' := [some (.ref m), some (.int (zi i))]) (S' := [.int (zi i), .ref m]) rfl ?_
  by_cases hc1 : (i : Int) < 0
  · refine gy_ifT (pc' := 13) rfl (by decide) (by decide) (by omega) hc1 ?_
    refine gz_s 2 (pc' := 18) (L' := [some (.ref m), some (.int (zi i))]) (S' := [.int (zi 1), .ref m]) rfl ?_
    refine gs_put rfl (by decide) rfl hS tm rfl rfl rfl rfl (Or.inl rfl) (by decide) (by omega) (by omega) (fun h2 sh2 eh2 fh2 => ?_)
    have pr3 := gSO.pt fh2 tm (by decide) hyso
    have s4 := (fh2 m 59 (fun q => absurd q.2 (by decide))).trans ew0
    refine gz_s 1 (pc' := 22) (L' := [some (.ref m), some (.int (zi i))]) (S' := [.ref m]) rfl ?_
    refine gs_gtk rfl (by decide) rfl sh2.1 tm rfl rfl eh2 ?_
    refine gy_ifF rfl (by decide) (by decide) ⟨by omega, by omega⟩ (by first | (simp [zc]; done) | (simp only [zc]; omega)) ?_
    refine gz_s 2 (pc' := 39) (L' := [some (.ref m), some (.int (zi i))]) (S' := [.int (zi 0)]) rfl ?_
    exact gz_end (I := .ireturn) (len := 1) rfl (Or.inl rfl) ⟨sh2, 0, 1, (gfin_b rfl rfl rfl), (by omega), (by omega), eh2, (by omega), (by omega), (by omega), (by omega)⟩
  · refine gy_ifF rfl (by decide) (by decide) (by omega) hc1 ?_
    refine gz_s 2 (pc' := 7) (L' := [some (.ref m), some (.int (zi i))]) (S' := [.ref m, .int (zi i), .ref m]) rfl ?_
    refine gs_gtk rfl (by decide) rfl hS.1 tm rfl rfl ew0 ?_
    by_cases hc5 : (i : Int) < w0
    · refine gy_icT (pc' := 17) rfl (by decide) (by decide) (by omega) (by omega) hc5 ?_
      refine gz_s 1 (pc' := 18) (L' := [some (.ref m), some (.int (zi i))]) (S' := [.int (zi 0), .ref m]) rfl ?_
      refine gs_put rfl (by decide) rfl hS tm rfl rfl rfl rfl (Or.inl rfl) (by decide) (by omega) (by omega) (fun h6 sh6 eh6 fh6 => ?_)
      have pr7 := gSO.pt fh6 tm (by decide) hyso
      have s8 := (fh6 m 59 (fun q => absurd q.2 (by decide))).trans ew0
      refine gz_s 1 (pc' := 22) (L' := [some (.ref m), some (.int (zi i))]) (S' := [.ref m]) rfl ?_
      refine gs_gtk rfl (by decide) rfl sh6.1 tm rfl rfl eh6 ?_
      refine gy_ifT (pc' := 32) rfl (by decide) (by decide) ⟨by omega, by omega⟩ (by first | (simp [zc]; done) | (simp only [zc]; omega)) ?_
      refine gz_s 1 (pc' := 33) (L' := [some (.ref m), some (.int (zi i))]) (S' := [.ref m]) rfl ?_
      refine gs_gtr rfl (by decide) rfl sh6.1 tm rfl rfl rfl (fun c9 ec9 tc9 => ?_)
      refine gz_s 1 (pc' := 37) (L' := [some (.ref m), some (.int (zi i))]) (S' := [.int (zi i), .ref c9]) rfl ?_
      have hl10 : 60000 ≤ h6.2.2.2.1 c9 ∧ h6.2.2.2.1 c9 ≤ 60000 := gJ.rowl (G := gGG) sh6.1 tc9 rfl
      refine gs_ald rfl (by decide) sh6.1 tc9 rfl rfl rfl (by decide) (fun _ => rfl) (by omega) (by omega) (fun z11 ez11 az11 bz11 => ?_)
      have hoc := gSO.rd (i := i) (z := z11) pr7 tc9 ez11 (by omega) (by omega) ⟨by omega, by omega⟩
      refine gy_i2bx rfl (by decide) ?_
      have hb12 := eeS_b (y := z11 % 256) ⟨by omega, by omega⟩
      have hoc2 : eeS (z11 % 256) = eeS (sg.2.2.2 i.toNat) := by rw [Int.emod_eq_of_lt (by omega) (by omega), hoc]
      exact gz_end (I := .ireturn) (len := 1) rfl (Or.inl rfl) ⟨sh6, eeS (z11 % 256), 0, (gfin_b rfl rfl (zi_in8 (by omega) (by omega))), (by omega), (by omega), eh6, (by omega), (by omega), (by omega), (by omega)⟩
    · refine gy_icF rfl (by decide) (by decide) (by omega) (by omega) hc5 ?_
      refine gz_s 2 (pc' := 18) (L' := [some (.ref m), some (.int (zi i))]) (S' := [.int (zi 1), .ref m]) rfl ?_
      refine gs_put rfl (by decide) rfl hS tm rfl rfl rfl rfl (Or.inl rfl) (by decide) (by omega) (by omega) (fun h13 sh13 eh13 fh13 => ?_)
      have pr14 := gSO.pt fh13 tm (by decide) hyso
      have s15 := (fh13 m 59 (fun q => absurd q.2 (by decide))).trans ew0
      refine gz_s 1 (pc' := 22) (L' := [some (.ref m), some (.int (zi i))]) (S' := [.ref m]) rfl ?_
      refine gs_gtk rfl (by decide) rfl sh13.1 tm rfl rfl eh13 ?_
      refine gy_ifF rfl (by decide) (by decide) ⟨by omega, by omega⟩ (by first | (simp [zc]; done) | (simp only [zc]; omega)) ?_
      refine gz_s 2 (pc' := 39) (L' := [some (.ref m), some (.int (zi i))]) (S' := [.int (zi 0)]) rfl ?_
      exact gz_end (I := .ireturn) (len := 1) rfl (Or.inl rfl) ⟨sh13, 0, 1, (gfin_b rfl rfl rfl), (by omega), (by omega), eh13, (by omega), (by omega), (by omega), (by omega)⟩
set_option maxRecDepth 20000 in
set_option maxHeartbeats 4000000 in
theorem mm_take2 (d : Nat) {ty : Nat → Nat} {h : gH} (hJ : gJ rT 1027 ty h) (m : Nat) (tm : ty m = 1) (w0 : Int) (ew0 : h.2.2.2.2 m 59 = .int (zi w0)) (rw0 : 0 ≤ w0 ∧ w0 ≤ 60000) : gz gPP gGG gcn (d + 0) gt205 0 (gent [.ref m] 2) [] h (fun q _ => gSs rT 1027 ty [1000, 1001, 2999] h q.2.2 ∧ ∃ z : Int, gfin gt205 q.1 q.2.1 = some (some (.int (zi z))) ∧ 0 ≤ z ∧ z ≤ 2000 ∧ (z = if w0 < 2000 then w0 else 2000)) := by
  have hS : gSs rT 1027 ty [1000, 1001, 2999] h h := gSs.rf hJ
  refine gz_s 2 (pc' := 2) (L' := [some (.ref m), none]) (S' := [.int (zi 0), .ref m]) rfl ?_
  refine gs_put rfl (by decide) rfl hS tm rfl rfl rfl rfl (Or.inl rfl) (by decide) (by omega) (by omega) (fun h1 sh1 eh1 fh1 => ?_)
  have s2 := (fh1 m 59 (fun q => absurd q.2 (by decide))).trans ew0
  refine gz_s 2 (pc' := 7) (L' := [some (.ref m), none]) (S' := [.ref m, .ref m]) rfl ?_
  refine gs_gtk rfl (by decide) rfl sh1.1 tm rfl rfl s2 ?_
  refine gz_s 1 (pc' := 13) (L' := [some (.ref m), none]) (S' := [.int (zi 2000), .int (zi w0), .ref m]) rfl ?_
  by_cases hc3 : (2000 : Int) ≤ w0
  · refine gy_icT (pc' := 23) rfl (by decide) (by decide) (by omega) (by omega) hc3 ?_
    refine gz_s 1 (pc' := 26) (L' := [some (.ref m), none]) (S' := [.int (zi 2000), .ref m]) rfl ?_
    refine gs_put rfl (by decide) rfl sh1 tm rfl rfl rfl rfl (Or.inl rfl) (by decide) (by omega) (by omega) (fun h4 sh4 eh4 fh4 => ?_)
    have s5 := (fh4 m 59 (fun q => absurd q.2 (by decide))).trans s2
    have s6 := (fh4 m 0 (fun q => absurd q.2 (by decide))).trans eh1
    refine gz_s 2 (pc' := 31) (L' := [some (.ref m), some (.int (zi 0))]) (S' := []) rfl ?_
    have lp7 : ∀ (fu : Nat) (h8 : gH) (k : Int), (2000 - k).toNat < fu → gSs rT 1027 ty [1000, 1001, 2999] h h8 → (0 ≤ k ∧ k ≤ 2000) → h8.2.2.2.2 m 59 = .int (zi w0) → h8.2.2.2.2 m 0 = .int (zi 0) → h8.2.2.2.2 m 1 = .int (zi 2000) → gz gPP gGG gcn (d + 0) gt205 31 [some (.ref m), some (.int (zi k))] [] h8 (fun q _ => gSs rT 1027 ty [1000, 1001, 2999] h q.2.2 ∧ ∃ z : Int, gfin gt205 q.1 q.2.1 = some (some (.int (zi z))) ∧ 0 ≤ z ∧ z ≤ 2000 ∧ (z = if w0 < 2000 then w0 else 2000)) := by
      intro fu
      induction fu with
      | zero => intro h8 k hm; exact absurd hm (Nat.not_lt_zero _)
      | succ fu ihlp7 =>
        intro h8 k lp7m sh8 lp7f0 lp7k0 lp7k1 lp7k2
        refine gz_s 2 (pc' := 33) (L' := [some (.ref m), some (.int (zi k))]) (S' := [.ref m, .int (zi k)]) rfl ?_
        refine gs_gtk rfl (by decide) rfl sh8.1 tm rfl rfl lp7k2 ?_
        by_cases hc9 : (2000 : Int) ≤ k
        · refine gy_icT (pc' := 57) rfl (by decide) (by decide) (by omega) (by omega) hc9 ?_
          refine gz_s 1 (pc' := 58) (L' := [some (.ref m), some (.int (zi k))]) (S' := [.ref m]) rfl ?_
          refine gs_gtk rfl (by decide) rfl sh8.1 tm rfl rfl lp7k2 ?_
          exact gz_end (I := .ireturn) (len := 1) rfl (Or.inl rfl) ⟨sh8, 2000, rfl, (by omega), (by omega), (by omega)⟩
        · refine gy_icF rfl (by decide) (by decide) (by omega) (by omega) hc9 ?_
          refine gz_s 1 (pc' := 40) (L' := [some (.ref m), some (.int (zi k))]) (S' := [.ref m]) rfl ?_
          refine gs_gtr rfl (by decide) rfl sh8.1 tm rfl rfl rfl (fun c10 ec10 tc10 => ?_)
          refine gz_s 2 (pc' := 45) (L' := [some (.ref m), some (.int (zi k))]) (S' := [.ref m, .int (zi k), .ref c10]) rfl ?_
          refine gs_gtr rfl (by decide) rfl sh8.1 tm rfl rfl rfl (fun c11 ec11 tc11 => ?_)
          refine gz_s 1 (pc' := 49) (L' := [some (.ref m), some (.int (zi k))]) (S' := [.int (zi k), .ref c11, .int (zi k), .ref c10]) rfl ?_
          have hl12 : 60000 ≤ h8.2.2.2.1 c11 ∧ h8.2.2.2.1 c11 ≤ 60000 := gJ.rowl (G := gGG) sh8.1 tc11 rfl
          refine gs_ald rfl (by decide) sh8.1 tc11 rfl rfl rfl (by decide) (fun _ => rfl) (by omega) (by omega) (fun z13 ez13 az13 bz13 => ?_)
          have hl14 : 2000 ≤ h8.2.2.2.1 c10 ∧ h8.2.2.2.1 c10 ≤ 2000 := gJ.rowl (G := gGG) sh8.1 tc10 rfl
          refine gs_ast rfl (by decide) sh8 tc10 rfl rfl rfl (by decide) (fun _ => rfl) (by omega) (by omega) (fun _ => (by decide : (2999 : Nat) ∈ ([1000, 1001, 2999] : List Nat))) (by omega) (by omega) (fun h15 sh15 eh15 fh15 => ?_)
          have s16 := (fh15 m 59 (fun q => absurd (((tm).symm.trans (congrArg ty q.1)).trans tc10) (by decide))).trans lp7k0
          have s17 := (fh15 m 0 (fun q => absurd (((tm).symm.trans (congrArg ty q.1)).trans tc10) (by decide))).trans lp7k1
          have s18 := (fh15 m 1 (fun q => absurd (((tm).symm.trans (congrArg ty q.1)).trans tc10) (by decide))).trans lp7k2
          have s19 := (fh15 m 2 (fun q => absurd (((tm).symm.trans (congrArg ty q.1)).trans tc10) (by decide))).trans ec10
          have s20 := (fh15 m 60 (fun q => absurd (((tm).symm.trans (congrArg ty q.1)).trans tc10) (by decide))).trans ec11
          refine gy_s 2 (pc' := 31) (L' := [some (.ref m), some (.int ((zi k) + zi 1))]) (S' := []) (L2 := [some (.ref m), some (.int (zi (k + 1)))]) (S2 := []) rfl (by simp only [zi_add, zi_sub, zi_mul, zi_neg, zi_and1, zi_and7, zi_and15, zi_and31, zi_and255]) (by simp only [zi_add, zi_sub, zi_mul, zi_neg, zi_and1, zi_and7, zi_and15, zi_and31, zi_and255]) ?_
          exact gz_wk (ihlp7 h15 (k + 1) (by omega) sh15 (by omega) s16 s17 s18) (gLw.s (gLw.s gLw.z))
    exact gz_wk (lp7 _ h4 0 (Nat.lt_succ_self _) sh4 (by omega) s5 s6 eh4) (gLw.s (gLw.s gLw.z))
  · refine gy_icF rfl (by decide) (by decide) (by omega) (by omega) hc3 ?_
    refine gz_s 1 (pc' := 17) (L' := [some (.ref m), none]) (S' := [.ref m, .ref m]) rfl ?_
    refine gs_gtk rfl (by decide) rfl sh1.1 tm rfl rfl s2 ?_
    refine gz_s 1 (pc' := 26) (L' := [some (.ref m), none]) (S' := [.int (zi w0), .ref m]) rfl ?_
    refine gs_put rfl (by decide) rfl sh1 tm rfl rfl rfl rfl (Or.inl rfl) (by decide) (by omega) (by omega) (fun h21 sh21 eh21 fh21 => ?_)
    have s22 := (fh21 m 59 (fun q => absurd q.2 (by decide))).trans s2
    have s23 := (fh21 m 0 (fun q => absurd q.2 (by decide))).trans eh1
    refine gz_s 2 (pc' := 31) (L' := [some (.ref m), some (.int (zi 0))]) (S' := []) rfl ?_
    have lp24 : ∀ (fu : Nat) (h25 : gH) (k : Int), (2000 - k).toNat < fu → gSs rT 1027 ty [1000, 1001, 2999] h h25 → (0 ≤ k ∧ k ≤ 2000) → h25.2.2.2.2 m 59 = .int (zi w0) → h25.2.2.2.2 m 0 = .int (zi 0) → h25.2.2.2.2 m 1 = .int (zi w0) → gz gPP gGG gcn (d + 0) gt205 31 [some (.ref m), some (.int (zi k))] [] h25 (fun q _ => gSs rT 1027 ty [1000, 1001, 2999] h q.2.2 ∧ ∃ z : Int, gfin gt205 q.1 q.2.1 = some (some (.int (zi z))) ∧ 0 ≤ z ∧ z ≤ 2000 ∧ (z = if w0 < 2000 then w0 else 2000)) := by
      intro fu
      induction fu with
      | zero => intro h25 k hm; exact absurd hm (Nat.not_lt_zero _)
      | succ fu ihlp24 =>
        intro h25 k lp24m sh25 lp24f0 lp24k0 lp24k1 lp24k2
        refine gz_s 2 (pc' := 33) (L' := [some (.ref m), some (.int (zi k))]) (S' := [.ref m, .int (zi k)]) rfl ?_
        refine gs_gtk rfl (by decide) rfl sh25.1 tm rfl rfl lp24k2 ?_
        by_cases hc26 : (w0 : Int) ≤ k
        · refine gy_icT (pc' := 57) rfl (by decide) (by decide) (by omega) (by omega) hc26 ?_
          refine gz_s 1 (pc' := 58) (L' := [some (.ref m), some (.int (zi k))]) (S' := [.ref m]) rfl ?_
          refine gs_gtk rfl (by decide) rfl sh25.1 tm rfl rfl lp24k2 ?_
          exact gz_end (I := .ireturn) (len := 1) rfl (Or.inl rfl) ⟨sh25, w0, rfl, (by omega), (by omega), (by omega)⟩
        · refine gy_icF rfl (by decide) (by decide) (by omega) (by omega) hc26 ?_
          refine gz_s 1 (pc' := 40) (L' := [some (.ref m), some (.int (zi k))]) (S' := [.ref m]) rfl ?_
          refine gs_gtr rfl (by decide) rfl sh25.1 tm rfl rfl rfl (fun c27 ec27 tc27 => ?_)
          refine gz_s 2 (pc' := 45) (L' := [some (.ref m), some (.int (zi k))]) (S' := [.ref m, .int (zi k), .ref c27]) rfl ?_
          refine gs_gtr rfl (by decide) rfl sh25.1 tm rfl rfl rfl (fun c28 ec28 tc28 => ?_)
          refine gz_s 1 (pc' := 49) (L' := [some (.ref m), some (.int (zi k))]) (S' := [.int (zi k), .ref c28, .int (zi k), .ref c27]) rfl ?_
          have hl29 : 60000 ≤ h25.2.2.2.1 c28 ∧ h25.2.2.2.1 c28 ≤ 60000 := gJ.rowl (G := gGG) sh25.1 tc28 rfl
          refine gs_ald rfl (by decide) sh25.1 tc28 rfl rfl rfl (by decide) (fun _ => rfl) (by omega) (by omega) (fun z30 ez30 az30 bz30 => ?_)
          have hl31 : 2000 ≤ h25.2.2.2.1 c27 ∧ h25.2.2.2.1 c27 ≤ 2000 := gJ.rowl (G := gGG) sh25.1 tc27 rfl
          refine gs_ast rfl (by decide) sh25 tc27 rfl rfl rfl (by decide) (fun _ => rfl) (by omega) (by omega) (fun _ => (by decide : (2999 : Nat) ∈ ([1000, 1001, 2999] : List Nat))) (by omega) (by omega) (fun h32 sh32 eh32 fh32 => ?_)
          have s33 := (fh32 m 59 (fun q => absurd (((tm).symm.trans (congrArg ty q.1)).trans tc27) (by decide))).trans lp24k0
          have s34 := (fh32 m 0 (fun q => absurd (((tm).symm.trans (congrArg ty q.1)).trans tc27) (by decide))).trans lp24k1
          have s35 := (fh32 m 1 (fun q => absurd (((tm).symm.trans (congrArg ty q.1)).trans tc27) (by decide))).trans lp24k2
          have s36 := (fh32 m 2 (fun q => absurd (((tm).symm.trans (congrArg ty q.1)).trans tc27) (by decide))).trans ec27
          have s37 := (fh32 m 60 (fun q => absurd (((tm).symm.trans (congrArg ty q.1)).trans tc27) (by decide))).trans ec28
          refine gy_s 2 (pc' := 31) (L' := [some (.ref m), some (.int ((zi k) + zi 1))]) (S' := []) (L2 := [some (.ref m), some (.int (zi (k + 1)))]) (S2 := []) rfl (by simp only [zi_add, zi_sub, zi_mul, zi_neg, zi_and1, zi_and7, zi_and15, zi_and31, zi_and255]) (by simp only [zi_add, zi_sub, zi_mul, zi_neg, zi_and1, zi_and7, zi_and15, zi_and31, zi_and255]) ?_
          exact gz_wk (ihlp24 h32 (k + 1) (by omega) sh32 (by omega) s33 s34 s35) (gLw.s (gLw.s gLw.z))
    exact gz_wk (lp24 _ h21 0 (Nat.lt_succ_self _) sh21 (by omega) s22 s23 eh21) (gLw.s (gLw.s gLw.z))
