/-! ===== methods of the landed text (by program) ===== -/
set_option maxRecDepth 20000 in
set_option maxHeartbeats 4000000 in
theorem cl_Writer_putBlocks (d : Nat) {ty : Nat → Nat} {h : gH} (hJ : gJ rT 1027 ty h) (x : Nat) (tx : ty x = 71) (sk : Nat) (esk : h.2.2.2.2 x 0 = .ref sk) (tsk : ty sk = 56) (bt : Nat) (ebt : h.2.2.2.2 sk 0 = .ref bt) (tbt : ty bt = 114) (c0 : Int) (ec0 : h.2.2.2.2 sk 1 = .int (zi c0)) (rc0 : 0 ≤ c0 ∧ c0 ≤ 499999) (h0 : Int) (eh0 : h.2.2.2.2 sk 3 = .int (zi h0)) (rh0 : 0 ≤ h0 ∧ h0 ≤ 7) (cg : Int) (ecg : h.2.2.2.2 x 11 = .int (zi cg)) (rcg : 0 ≤ cg ∧ cg ≤ 1) (fr : Int) (efr : h.2.2.2.2 x 7 = .int (zi fr)) (rfr : 0 ≤ fr ∧ fr ≤ 63) (tt : Int) (ett : h.2.2.2.2 x 8 = .int (zi tt)) (rtt : 0 ≤ tt ∧ tt ≤ 63) (bs : Int) (ebs : h.2.2.2.2 x 5 = .int (zi bs)) (rbs : 0 ≤ bs ∧ bs ≤ 16) (iv : Int) (eiv : h.2.2.2.2 x 6 = .int (zi iv)) (riv : 0 ≤ iv ∧ iv ≤ 100) (pp0 : 4 * c0 + h0 + 16 * (656 + 320 * (tt - fr)) ≤ 1997990) (pp1 : fr ≤ tt) (pp2 : c0 ≤ (h.2.2.2.1 bt : Int)) (uq : gUq ty) : gz gPP gGG gcn (d + 6) gt106 0 (gent [.ref x] 2) [] h (fun q _ => ∃ ty9 : Nat → Nat, gSg [114] [] [56000, 56001, 56002, 56003, 71012, 71013, 71014, 80999, 97999, 114999] ty h ty9 q.2.2 ∧ ∃ bt2 : Nat, True ∧ ∃ c1 h1 : Int, q.2.2.2.2.2.2 sk 0 = .ref bt2 ∧ ty9 bt2 = 114 ∧ gfin gt106 q.1 q.2.1 = some none ∧ q.2.2.2.2.2.2 sk 1 = .int (zi c1) ∧ 0 ≤ c1 ∧ c1 ≤ 500000 ∧ q.2.2.2.2.2.2 sk 3 = .int (zi h1) ∧ 0 ≤ h1 ∧ h1 ≤ 7 ∧ (4 * c1 + h1 ≤ 4 * c0 + h0 + 16 * (656 + 320 * (tt - fr))) ∧ (c0 ≤ c1) ∧ (cg = 1 → (c1 = c0 ∧ h1 = h0)) ∧ (1024 * ((q.2.2.1 : Int) - h.1) ≤ (q.2.2.2.2.2.1 bt2 : Int) - h.2.2.2.1 bt) ∧ (((q.2.2.2.1 : Int) - h.2.1) ≤ 2 * ((q.2.2.2.2.2.1 bt2 : Int) - h.2.2.2.1 bt)) ∧ ((h.2.2.2.1 bt : Int) ≤ (q.2.2.2.2.2.1 bt2 : Int)) ∧ (c1 ≤ (q.2.2.2.2.2.1 bt2 : Int))) := by
  have hS : gSs rT 1027 ty [56000, 56001, 56002, 56003, 71012, 71013, 71014, 80999, 97999, 114999] h h := gSs.rf hJ
  have G0 : gSg [114] [] [56000, 56001, 56002, 56003, 71012, 71013, 71014, 80999, 97999, 114999] ty h ty h := gSg.rf hJ (fun x hx => by cases hx)
  refine gz_s 2 (pc' := 2) (L' := [some (.ref x), none]) (S' := [.int (zi 0), .ref x]) rfl ?_
  refine gs_put rfl (by decide) rfl hS tx rfl rfl rfl rfl (Or.inl rfl) (by decide) (by omega) (by omega) (fun h1 sh1 eh1 fh1 => ?_)
  have s2 := (fh1 x 0 (fun q => absurd q.2 (by decide))).trans esk
  have s3 := (fh1 sk 0 (fun q => absurd q.2 (by decide))).trans ebt
  have s4 := (fh1 sk 1 (fun q => absurd q.2 (by decide))).trans ec0
  have s5 := (fh1 sk 3 (fun q => absurd q.2 (by decide))).trans eh0
  have s6 := (fh1 x 11 (fun q => absurd q.2 (by decide))).trans ecg
  have s7 := (fh1 x 7 (fun q => absurd q.2 (by decide))).trans efr
  have s8 := (fh1 x 8 (fun q => absurd q.2 (by decide))).trans ett
  have s9 := (fh1 x 5 (fun q => absurd q.2 (by decide))).trans ebs
  have s10 := (fh1 x 6 (fun q => absurd q.2 (by decide))).trans eiv
  refine gz_s 2 (pc' := 7) (L' := [some (.ref x), some (.int (zi 0))]) (S' := []) rfl ?_
  have lp11 : ∀ (fu : Nat) (ty13 : Nat → Nat) (h12 : gH) (bv : Nat) (b : Int) (cv : Int) (hv : Int), (17 - b).toNat < fu → gSg [114] [] [56000, 56001, 56002, 56003, 71012, 71013, 71014, 80999, 97999, 114999] ty h ty13 h12 → gUq ty13 → ty13 x = 71 → ty13 sk = 56 → h12.2.2.2.2 sk 0 = .ref bv → ty13 bv = 114 → (0 ≤ b ∧ b ≤ 16) → (0 ≤ cv ∧ cv ≤ 499999) → (0 ≤ hv ∧ hv ≤ 7) → (4 * cv + hv ≤ 4 * c0 + h0 + b * (656 + 320 * (tt - fr))) → (c0 ≤ cv) → (cg = 1 → (cv = c0 ∧ hv = h0)) → (b ≤ bs) → (1024 * ((h12.1 : Int) - h.1) ≤ (h12.2.2.2.1 bv : Int) - h.2.2.2.1 bt) → (((h12.2.1 : Int) - h.2.1) ≤ 2 * ((h12.2.2.2.1 bv : Int) - h.2.2.2.1 bt)) → ((h.2.2.2.1 bt : Int) ≤ (h12.2.2.2.1 bv : Int)) → (cv ≤ (h12.2.2.2.1 bv : Int)) → h12.2.2.2.2 x 0 = .ref sk → h12.2.2.2.2 x 11 = .int (zi cg) → h12.2.2.2.2 x 7 = .int (zi fr) → h12.2.2.2.2 x 8 = .int (zi tt) → h12.2.2.2.2 x 5 = .int (zi bs) → h12.2.2.2.2 x 6 = .int (zi iv) → h12.2.2.2.2 sk 1 = .int (zi cv) → h12.2.2.2.2 sk 3 = .int (zi hv) → gz gPP gGG gcn (d + 6) gt106 7 [some (.ref x), some (.int (zi b))] [] h12 (fun q _ => ∃ ty9 : Nat → Nat, gSg [114] [] [56000, 56001, 56002, 56003, 71012, 71013, 71014, 80999, 97999, 114999] ty h ty9 q.2.2 ∧ ∃ bt2 : Nat, True ∧ ∃ c1 h1 : Int, q.2.2.2.2.2.2 sk 0 = .ref bt2 ∧ ty9 bt2 = 114 ∧ gfin gt106 q.1 q.2.1 = some none ∧ q.2.2.2.2.2.2 sk 1 = .int (zi c1) ∧ 0 ≤ c1 ∧ c1 ≤ 500000 ∧ q.2.2.2.2.2.2 sk 3 = .int (zi h1) ∧ 0 ≤ h1 ∧ h1 ≤ 7 ∧ (4 * c1 + h1 ≤ 4 * c0 + h0 + 16 * (656 + 320 * (tt - fr))) ∧ (c0 ≤ c1) ∧ (cg = 1 → (c1 = c0 ∧ h1 = h0)) ∧ (1024 * ((q.2.2.1 : Int) - h.1) ≤ (q.2.2.2.2.2.1 bt2 : Int) - h.2.2.2.1 bt) ∧ (((q.2.2.2.1 : Int) - h.2.1) ≤ 2 * ((q.2.2.2.2.2.1 bt2 : Int) - h.2.2.2.1 bt)) ∧ ((h.2.2.2.1 bt : Int) ≤ (q.2.2.2.2.2.1 bt2 : Int)) ∧ (c1 ≤ (q.2.2.2.2.2.1 bt2 : Int))) := by
    intro fu
    induction fu with
    | zero => intro ty13 h12 bv b cv hv hm; exact absurd hm (Nat.not_lt_zero _)
    | succ fu ihlp11 =>
      intro ty13 h12 bv b cv hv lp11m lp11G lp11u lp11c0 lp11c1 lp11r0 lp11r1 lp11f0 lp11f1 lp11f2 lp11f3 lp11f4 lp11f5 lp11f6 lp11f7 lp11f8 lp11f9 lp11f10 lp11k0 lp11k1 lp11k2 lp11k3 lp11k4 lp11k5 lp11k6 lp11k7
      have sh12 : gSs rT 1027 ty13 [56000, 56001, 56002, 56003, 71012, 71013, 71014, 80999, 97999, 114999] h12 h12 := gSs.rf lp11G.1
      have hx1 : (b + 1) * (656 + 320 * (tt - fr)) = b * (656 + 320 * (tt - fr)) + (656 + 320 * (tt - fr)) := by rw [Int.add_mul, Int.one_mul]
      have hx2 : b * (656 + 320 * (tt - fr)) ≤ 16 * (656 + 320 * (tt - fr)) := Int.mul_le_mul_of_nonneg_right (by omega) (by omega)
      have hx3 : b < bs → (b + 1) * (656 + 320 * (tt - fr)) ≤ 16 * (656 + 320 * (tt - fr)) := fun _ => Int.mul_le_mul_of_nonneg_right (by omega) (by omega)
      refine gz_s 2 (pc' := 9) (L' := [some (.ref x), some (.int (zi b))]) (S' := [.ref x, .int (zi b)]) rfl ?_
      refine gs_gtk rfl (by decide) rfl sh12.1 lp11c0 rfl rfl lp11k4 ?_
      by_cases hc14 : (bs : Int) ≤ b
      · refine gy_icT (pc' := 113) rfl (by decide) (by decide) (by omega) (by omega) hc14 ?_
        have hl15 : 1024 ≤ h12.2.2.2.1 bv ∧ h12.2.2.2.1 bv ≤ 1000000 := gJ.rowl (G := gGG) sh12.1 lp11r1 rfl
        have G16 : gSg [114] [] [56000, 56001, 56002, 56003, 71012, 71013, 71014, 80999, 97999, 114999] ty h ty13 h12 := gSg.ss lp11G sh12 (by decide)
        exact gz_end (I := .return_) (len := 1) rfl (Or.inl rfl) ⟨ty13, G16, bv, trivial, cv, hv, lp11r0, lp11r1, rfl, lp11k6, (by omega), (by omega), lp11k7, (by omega), (by omega), (by omega), (by omega), (fun hcg9 => by (try have i0 := lp11f5 hcg9); exact ⟨Int.le_antisymm (by omega) (by omega), Int.le_antisymm (by omega) (by omega)⟩), (by dsimp only; omega), (by dsimp only; omega), (by dsimp only; omega), (by dsimp only; omega)⟩
      · refine gy_icF rfl (by decide) (by decide) (by omega) (by omega) hc14 ?_
        refine gz_s 1 (pc' := 16) (L' := [some (.ref x), some (.int (zi b))]) (S' := [.ref x]) rfl ?_
        refine gs_gtk rfl (by decide) rfl sh12.1 lp11c0 rfl rfl lp11k5 ?_
        by_cases hc17 : (iv : Int) ≤ 0
        · refine gy_ifT (pc' := 52) rfl (by decide) (by decide) (by omega) hc17 ?_
          refine gz_s 1 (pc' := 53) (L' := [some (.ref x), some (.int (zi b))]) (S' := [.ref x]) rfl ?_
          refine gs_gtk rfl (by decide) rfl sh12.1 lp11c0 rfl rfl lp11k2 ?_
          by_cases hc18 : ¬ (fr : Int) = 0
          · refine gy_ifT (pc' := 67) rfl (by decide) (by decide) (by omega) hc18 ?_
            refine gz_s 1 (pc' := 68) (L' := [some (.ref x), some (.int (zi b))]) (S' := [.ref x]) rfl ?_
            refine gs_gtk rfl (by decide) rfl sh12.1 lp11c0 rfl rfl lp11k3 ?_
            by_cases hc19 : (tt : Int) ≤ 0
            · refine gy_ifT (pc' := 92) rfl (by decide) (by decide) (by omega) hc19 ?_
              refine gz_s 1 (pc' := 93) (L' := [some (.ref x), some (.int (zi b))]) (S' := [.ref x]) rfl ?_
              refine gs_gtk rfl (by decide) rfl sh12.1 lp11c0 rfl rfl lp11k3 ?_
              refine gy_ifT (pc' := 107) rfl (by decide) (by decide) ⟨by omega, by omega⟩ (by first | (simp [zc]; done) | (simp only [zc]; omega)) ?_
              refine gy_s 2 (pc' := 7) (L' := [some (.ref x), some (.int ((zi b) + zi 1))]) (S' := []) (L2 := [some (.ref x), some (.int (zi (b + 1)))]) (S2 := []) rfl (by simp only [zi_add, zi_sub, zi_mul, zi_neg, zi_and1, zi_and7, zi_and15, zi_and31, zi_and255]) (by simp only [zi_add, zi_sub, zi_mul, zi_neg, zi_and1, zi_and7, zi_and15, zi_and31, zi_and255]) ?_
              have hl20 : 1024 ≤ h12.2.2.2.1 bv ∧ h12.2.2.2.1 bv ≤ 1000000 := gJ.rowl (G := gGG) sh12.1 lp11r1 rfl
              have G21 : gSg [114] [] [56000, 56001, 56002, 56003, 71012, 71013, 71014, 80999, 97999, 114999] ty h ty13 h12 := gSg.ss lp11G sh12 (by decide)
              exact gz_wk (ihlp11 ty13 h12 bv (b + 1) cv hv (gms lp11m (by omega) (by omega)) G21 lp11u lp11c0 lp11c1 lp11r0 lp11r1 ⟨by omega, by omega⟩ ⟨by omega, by omega⟩ ⟨by omega, by omega⟩ (by omega) (by omega) (fun hcg9 => by (try have i0 := lp11f5 hcg9); exact ⟨Int.le_antisymm (by omega) (by omega), Int.le_antisymm (by omega) (by omega)⟩) (by omega) (by omega) (by omega) (by omega) (by omega) lp11k0 lp11k1 lp11k2 lp11k3 lp11k4 lp11k5 lp11k6 lp11k7) (gLw.s (gLw.s gLw.z))
            · refine gy_ifF rfl (by decide) (by decide) (by omega) hc19 ?_
              refine gz_s 1 (pc' := 75) (L' := [some (.ref x), some (.int (zi b))]) (S' := [.ref x]) rfl ?_
              refine gs_get rfl (by decide) rfl sh12.1 lp11c0 rfl rfl rfl (fun z22 ez22 az22 bz22 => ?_)
              by_cases hc23 : (z22 : Int) ≤ 0
              · refine gy_ifT (pc' := 92) rfl (by decide) (by decide) (by omega) hc23 ?_
                refine gz_s 1 (pc' := 93) (L' := [some (.ref x), some (.int (zi b))]) (S' := [.ref x]) rfl ?_
                refine gs_gtk rfl (by decide) rfl sh12.1 lp11c0 rfl rfl lp11k3 ?_
                refine gy_ifF rfl (by decide) (by decide) ⟨by omega, by omega⟩ (by first | (simp [zc]; done) | (simp only [zc]; omega)) ?_
                refine gy_s 4 (pc' := 104) (L' := [some (.ref x), some (.int (zi b))]) (S' := [.int ((zi b) * (zi 64)), .ref x]) (L2 := [some (.ref x), some (.int (zi b))]) (S2 := [.int (zi (b * 64)), .ref x]) rfl (by simp only [zi_add, zi_sub, zi_mul, zi_neg, zi_and1, zi_and7, zi_and15, zi_and31, zi_and255]) (by simp only [zi_add, zi_sub, zi_mul, zi_neg, zi_and1, zi_and7, zi_and15, zi_and31, zi_and255]) ?_
                have hl24 : h12.2.2.2.1 bv = h12.2.2.2.1 bv := congrFun sh12.2.2.2.2.1 bv
                refine gz_call rfl (by decide) rfl (by decide) (by decide) (gcal_of rfl rfl rfl (Nat.le_of_ble_eq_true rfl) (gJ.recv (G := gGG) sh12.1 lp11c0 rfl rfl)) (cl_Writer_putOthers _ sh12.1 x lp11c0 (b * 64) ⟨by omega, by omega⟩ sk lp11k0 lp11c1 bv lp11r0 lp11r1 cv lp11k6 ⟨by omega, by omega⟩ hv lp11k7 ⟨by omega, by omega⟩ cg lp11k1 ⟨by omega, by omega⟩ fr lp11k2 ⟨by omega, by omega⟩ tt lp11k3 ⟨by omega, by omega⟩ (by omega) (by omega) (by omega) (by omega) lp11u) (fun q25 _ wq25 => ?_)
                obtain ⟨pq25, oq25, hq25⟩ := q25
                obtain ⟨tyq25, xq25, cq25_0, ttq25, fq25_0, fq25_1, ecq25_0, tcq25_0, gq25, efq25_0, afq25_0, bfq25_0, efq25_1, afq25_1, bfq25_1, uq25_0, uq25_1, uq25_2, uq25_3, uq25_4, uq25_5, uq25_6⟩ := wq25
                dsimp only at uq25_3 uq25_4 uq25_5 uq25_6
                refine ⟨_, gq25, ?_⟩
                show gz gPP gGG gcn _ _ 107 [some (.ref x), some (.int (zi b))] [] hq25 _
                have G26 : gSg [114] [] [56000, 56001, 56002, 56003, 71012, 71013, 71014, 80999, 97999, 114999] ty h tyq25 hq25 := gSg.tr (gSg.ss lp11G sh12 (by decide)) xq25 (by decide) (by decide) (fun x hx => by cases hx)
                have t27 : tyq25 x = 71 := gSg.typ xq25 sh12.1 lp11c0 rfl
                have t28 : tyq25 sk = 56 := gSg.typ xq25 sh12.1 lp11c1 rfl
                have t29 : tyq25 bv = 114 := gSg.typ xq25 sh12.1 lp11r1 rfl
                have hl30 : hq25.2.2.2.1 bv = h12.2.2.2.1 bv := gSg.len xq25 sh12.1 lp11r1 rfl
                have s31 := gSg.at xq25 sh12.1 lp11c0 rfl (by decide) lp11k0
                have s32 := gSg.at xq25 sh12.1 lp11c0 rfl (by decide) lp11k1
                have s33 := gSg.at xq25 sh12.1 lp11c0 rfl (by decide) lp11k2
                have s34 := gSg.at xq25 sh12.1 lp11c0 rfl (by decide) lp11k3
                have s35 := gSg.at xq25 sh12.1 lp11c0 rfl (by decide) lp11k4
                have s36 := gSg.at xq25 sh12.1 lp11c0 rfl (by decide) lp11k5
                have s37 := gSg.at xq25 sh12.1 lp11c0 rfl (by decide) ez22
                have uq38 := gSg.uq xq25 lp11u (by decide)
                have sS39 : gSs rT 1027 tyq25 [56000, 56001, 56002, 56003, 71012, 71013, 71014, 80999, 97999, 114999] hq25 hq25 := gSs.rf xq25.1
                refine gy_s 2 (pc' := 7) (L' := [some (.ref x), some (.int ((zi b) + zi 1))]) (S' := []) (L2 := [some (.ref x), some (.int (zi (b + 1)))]) (S2 := []) rfl (by simp only [zi_add, zi_sub, zi_mul, zi_neg, zi_and1, zi_and7, zi_and15, zi_and31, zi_and255]) (by simp only [zi_add, zi_sub, zi_mul, zi_neg, zi_and1, zi_and7, zi_and15, zi_and31, zi_and255]) ?_
                have hl40 : 1024 ≤ hq25.2.2.2.1 bv ∧ hq25.2.2.2.1 bv ≤ 1000000 := gJ.rowl (G := gGG) sS39.1 t29 rfl
                have hl41 : 1024 ≤ hq25.2.2.2.1 cq25_0 ∧ hq25.2.2.2.1 cq25_0 ≤ 1000000 := gJ.rowl (G := gGG) sS39.1 tcq25_0 rfl
                have G42 : gSg [114] [] [56000, 56001, 56002, 56003, 71012, 71013, 71014, 80999, 97999, 114999] ty h tyq25 hq25 := gSg.ss G26 sS39 (by decide)
                exact gz_wk (ihlp11 tyq25 hq25 cq25_0 (b + 1) fq25_0 fq25_1 (gms lp11m (by omega) (by omega)) G42 uq38 t27 t28 ecq25_0 tcq25_0 ⟨by omega, by omega⟩ ⟨by omega, by omega⟩ ⟨by omega, by omega⟩ (by omega) (by omega) (fun hcg9 => by (try have i0 := lp11f5 hcg9); (try have i1 := uq25_2 hcg9); exact ⟨Int.le_antisymm (by omega) (by omega), Int.le_antisymm (by omega) (by omega)⟩) (by omega) (by omega) (by omega) (by omega) (by omega) s31 s32 s33 s34 s35 s36 efq25_0 efq25_1) (gLw.s (gLw.s gLw.z))
              · refine gy_ifF rfl (by decide) (by decide) (by omega) hc23 ?_
                refine gy_s 4 (pc' := 86) (L' := [some (.ref x), some (.int (zi b))]) (S' := [.int ((zi b) * (zi 64)), .ref x]) (L2 := [some (.ref x), some (.int (zi b))]) (S2 := [.int (zi (b * 64)), .ref x]) rfl (by simp only [zi_add, zi_sub, zi_mul, zi_neg, zi_and1, zi_and7, zi_and15, zi_and31, zi_and255]) (by simp only [zi_add, zi_sub, zi_mul, zi_neg, zi_and1, zi_and7, zi_and15, zi_and31, zi_and255]) ?_
                have hl43 : h12.2.2.2.1 bv = h12.2.2.2.1 bv := congrFun sh12.2.2.2.2.1 bv
                obtain ⟨z44, ez44, az44, bz44⟩ := gJ.int (k := 10) (G := gGG) sh12.1 lp11c0 rfl rfl rfl
                refine gz_call rfl (by decide) rfl (by decide) (by decide) (gcal_of rfl rfl rfl (Nat.le_of_ble_eq_true rfl) (gJ.recv (G := gGG) sh12.1 lp11c0 rfl rfl)) (cl_Writer_refineOthers _ sh12.1 x lp11c0 (b * 64) ⟨by omega, by omega⟩ sk lp11k0 lp11c1 bv lp11r0 lp11r1 cv lp11k6 ⟨by omega, by omega⟩ hv lp11k7 ⟨by omega, by omega⟩ cg lp11k1 ⟨by omega, by omega⟩ fr lp11k2 ⟨by omega, by omega⟩ tt lp11k3 ⟨by omega, by omega⟩ z44 ez44 ⟨by omega, by omega⟩ (by omega) (by omega) (by omega) lp11u) (fun q45 _ wq45 => ?_)
                obtain ⟨pq45, oq45, hq45⟩ := q45
                obtain ⟨tyq45, xq45, cq45_0, ttq45, fq45_0, fq45_1, ecq45_0, tcq45_0, gq45, efq45_0, afq45_0, bfq45_0, efq45_1, afq45_1, bfq45_1, uq45_0, uq45_1, uq45_2, uq45_3, uq45_4, uq45_5, uq45_6⟩ := wq45
                dsimp only at uq45_3 uq45_4 uq45_5 uq45_6
                refine ⟨_, gq45, ?_⟩
                show gz gPP gGG gcn _ _ 89 [some (.ref x), some (.int (zi b))] [] hq45 _
                have G46 : gSg [114] [] [56000, 56001, 56002, 56003, 71012, 71013, 71014, 80999, 97999, 114999] ty h tyq45 hq45 := gSg.tr (gSg.ss lp11G sh12 (by decide)) xq45 (by decide) (by decide) (fun x hx => by cases hx)
                have t47 : tyq45 x = 71 := gSg.typ xq45 sh12.1 lp11c0 rfl
                have t48 : tyq45 sk = 56 := gSg.typ xq45 sh12.1 lp11c1 rfl
                have t49 : tyq45 bv = 114 := gSg.typ xq45 sh12.1 lp11r1 rfl
                have hl50 : hq45.2.2.2.1 bv = h12.2.2.2.1 bv := gSg.len xq45 sh12.1 lp11r1 rfl
                have s51 := gSg.at xq45 sh12.1 lp11c0 rfl (by decide) lp11k0
                have s52 := gSg.at xq45 sh12.1 lp11c0 rfl (by decide) lp11k1
                have s53 := gSg.at xq45 sh12.1 lp11c0 rfl (by decide) lp11k2
                have s54 := gSg.at xq45 sh12.1 lp11c0 rfl (by decide) lp11k3
                have s55 := gSg.at xq45 sh12.1 lp11c0 rfl (by decide) lp11k4
                have s56 := gSg.at xq45 sh12.1 lp11c0 rfl (by decide) lp11k5
                have s57 := gSg.at xq45 sh12.1 lp11c0 rfl (by decide) ez22
                have s58 := gSg.at xq45 sh12.1 lp11c0 rfl (by decide) ez44
                have uq59 := gSg.uq xq45 lp11u (by decide)
                have sS60 : gSs rT 1027 tyq45 [56000, 56001, 56002, 56003, 71012, 71013, 71014, 80999, 97999, 114999] hq45 hq45 := gSs.rf xq45.1
                refine gy_s 3 (pc' := 7) (L' := [some (.ref x), some (.int ((zi b) + zi 1))]) (S' := []) (L2 := [some (.ref x), some (.int (zi (b + 1)))]) (S2 := []) rfl (by simp only [zi_add, zi_sub, zi_mul, zi_neg, zi_and1, zi_and7, zi_and15, zi_and31, zi_and255]) (by simp only [zi_add, zi_sub, zi_mul, zi_neg, zi_and1, zi_and7, zi_and15, zi_and31, zi_and255]) ?_
                have hl61 : 1024 ≤ hq45.2.2.2.1 bv ∧ hq45.2.2.2.1 bv ≤ 1000000 := gJ.rowl (G := gGG) sS60.1 t49 rfl
                have hl62 : 1024 ≤ hq45.2.2.2.1 cq45_0 ∧ hq45.2.2.2.1 cq45_0 ≤ 1000000 := gJ.rowl (G := gGG) sS60.1 tcq45_0 rfl
                have G63 : gSg [114] [] [56000, 56001, 56002, 56003, 71012, 71013, 71014, 80999, 97999, 114999] ty h tyq45 hq45 := gSg.ss G46 sS60 (by decide)
                exact gz_wk (ihlp11 tyq45 hq45 cq45_0 (b + 1) fq45_0 fq45_1 (gms lp11m (by omega) (by omega)) G63 uq59 t47 t48 ecq45_0 tcq45_0 ⟨by omega, by omega⟩ ⟨by omega, by omega⟩ ⟨by omega, by omega⟩ (by omega) (by omega) (fun hcg9 => by (try have i0 := lp11f5 hcg9); (try have i1 := uq45_2 hcg9); exact ⟨Int.le_antisymm (by omega) (by omega), Int.le_antisymm (by omega) (by omega)⟩) (by omega) (by omega) (by omega) (by omega) (by omega) s51 s52 s53 s54 s55 s56 efq45_0 efq45_1) (gLw.s (gLw.s gLw.z))
          · refine gy_ifF rfl (by decide) (by decide) (by omega) hc18 ?_
            refine gy_s 4 (pc' := 64) (L' := [some (.ref x), some (.int (zi b))]) (S' := [.int ((zi b) * (zi 64)), .ref x]) (L2 := [some (.ref x), some (.int (zi b))]) (S2 := [.int (zi (b * 64)), .ref x]) rfl (by simp only [zi_add, zi_sub, zi_mul, zi_neg, zi_and1, zi_and7, zi_and15, zi_and31, zi_and255]) (by simp only [zi_add, zi_sub, zi_mul, zi_neg, zi_and1, zi_and7, zi_and15, zi_and31, zi_and255]) ?_
            have hl64 : h12.2.2.2.1 bv = h12.2.2.2.1 bv := congrFun sh12.2.2.2.2.1 bv
            refine gz_call rfl (by decide) rfl (by decide) (by decide) (gcal_of rfl rfl rfl (Nat.le_of_ble_eq_true rfl) (gJ.recv (G := gGG) sh12.1 lp11c0 rfl rfl)) (cl_Writer_putFirst _ sh12.1 x lp11c0 (b * 64) ⟨by omega, by omega⟩ sk lp11k0 lp11c1 bv lp11r0 lp11r1 cv lp11k6 ⟨by omega, by omega⟩ hv lp11k7 ⟨by omega, by omega⟩ cg lp11k1 ⟨by omega, by omega⟩ (by omega) (by omega) lp11u) (fun q65 _ wq65 => ?_)
            obtain ⟨pq65, oq65, hq65⟩ := q65
            obtain ⟨tyq65, xq65, cq65_0, ttq65, fq65_0, fq65_1, ecq65_0, tcq65_0, gq65, efq65_0, afq65_0, bfq65_0, efq65_1, afq65_1, bfq65_1, uq65_0, uq65_1, uq65_2, uq65_3, uq65_4, uq65_5, uq65_6⟩ := wq65
            dsimp only at uq65_3 uq65_4 uq65_5 uq65_6
            refine ⟨_, gq65, ?_⟩
            show gz gPP gGG gcn _ _ 67 [some (.ref x), some (.int (zi b))] [] hq65 _
            have G66 : gSg [114] [] [56000, 56001, 56002, 56003, 71012, 71013, 71014, 80999, 97999, 114999] ty h tyq65 hq65 := gSg.tr (gSg.ss lp11G sh12 (by decide)) xq65 (by decide) (by decide) (fun x hx => by cases hx)
            have t67 : tyq65 x = 71 := gSg.typ xq65 sh12.1 lp11c0 rfl
            have t68 : tyq65 sk = 56 := gSg.typ xq65 sh12.1 lp11c1 rfl
            have t69 : tyq65 bv = 114 := gSg.typ xq65 sh12.1 lp11r1 rfl
            have hl70 : hq65.2.2.2.1 bv = h12.2.2.2.1 bv := gSg.len xq65 sh12.1 lp11r1 rfl
            have s71 := gSg.at xq65 sh12.1 lp11c0 rfl (by decide) lp11k0
            have s72 := gSg.at xq65 sh12.1 lp11c0 rfl (by decide) lp11k1
            have s73 := gSg.at xq65 sh12.1 lp11c0 rfl (by decide) lp11k2
            have s74 := gSg.at xq65 sh12.1 lp11c0 rfl (by decide) lp11k3
            have s75 := gSg.at xq65 sh12.1 lp11c0 rfl (by decide) lp11k4
            have s76 := gSg.at xq65 sh12.1 lp11c0 rfl (by decide) lp11k5
            have uq77 := gSg.uq xq65 lp11u (by decide)
            have sS78 : gSs rT 1027 tyq65 [56000, 56001, 56002, 56003, 71012, 71013, 71014, 80999, 97999, 114999] hq65 hq65 := gSs.rf xq65.1
            refine gz_s 1 (pc' := 68) (L' := [some (.ref x), some (.int (zi b))]) (S' := [.ref x]) rfl ?_
            refine gs_gtk rfl (by decide) rfl sS78.1 t67 rfl rfl s74 ?_
            by_cases hc79 : (tt : Int) ≤ 0
            · refine gy_ifT (pc' := 92) rfl (by decide) (by decide) (by omega) hc79 ?_
              refine gz_s 1 (pc' := 93) (L' := [some (.ref x), some (.int (zi b))]) (S' := [.ref x]) rfl ?_
              refine gs_gtk rfl (by decide) rfl sS78.1 t67 rfl rfl s74 ?_
              refine gy_ifT (pc' := 107) rfl (by decide) (by decide) ⟨by omega, by omega⟩ (by first | (simp [zc]; done) | (simp only [zc]; omega)) ?_
              refine gy_s 2 (pc' := 7) (L' := [some (.ref x), some (.int ((zi b) + zi 1))]) (S' := []) (L2 := [some (.ref x), some (.int (zi (b + 1)))]) (S2 := []) rfl (by simp only [zi_add, zi_sub, zi_mul, zi_neg, zi_and1, zi_and7, zi_and15, zi_and31, zi_and255]) (by simp only [zi_add, zi_sub, zi_mul, zi_neg, zi_and1, zi_and7, zi_and15, zi_and31, zi_and255]) ?_
              have hl80 : 1024 ≤ hq65.2.2.2.1 bv ∧ hq65.2.2.2.1 bv ≤ 1000000 := gJ.rowl (G := gGG) sS78.1 t69 rfl
              have hl81 : 1024 ≤ hq65.2.2.2.1 cq65_0 ∧ hq65.2.2.2.1 cq65_0 ≤ 1000000 := gJ.rowl (G := gGG) sS78.1 tcq65_0 rfl
              have G82 : gSg [114] [] [56000, 56001, 56002, 56003, 71012, 71013, 71014, 80999, 97999, 114999] ty h tyq65 hq65 := gSg.ss G66 sS78 (by decide)
              exact gz_wk (ihlp11 tyq65 hq65 cq65_0 (b + 1) fq65_0 fq65_1 (gms lp11m (by omega) (by omega)) G82 uq77 t67 t68 ecq65_0 tcq65_0 ⟨by omega, by omega⟩ ⟨by omega, by omega⟩ ⟨by omega, by omega⟩ (by omega) (by omega) (fun hcg9 => by (try have i0 := lp11f5 hcg9); (try have i1 := uq65_2 hcg9); exact ⟨Int.le_antisymm (by omega) (by omega), Int.le_antisymm (by omega) (by omega)⟩) (by omega) (by omega) (by omega) (by omega) (by omega) s71 s72 s73 s74 s75 s76 efq65_0 efq65_1) (gLw.s (gLw.s gLw.z))
            · refine gy_ifF rfl (by decide) (by decide) (by omega) hc79 ?_
              refine gz_s 1 (pc' := 75) (L' := [some (.ref x), some (.int (zi b))]) (S' := [.ref x]) rfl ?_
              refine gs_get rfl (by decide) rfl sS78.1 t67 rfl rfl rfl (fun z83 ez83 az83 bz83 => ?_)
              by_cases hc84 : (z83 : Int) ≤ 0
              · refine gy_ifT (pc' := 92) rfl (by decide) (by decide) (by omega) hc84 ?_
                refine gz_s 1 (pc' := 93) (L' := [some (.ref x), some (.int (zi b))]) (S' := [.ref x]) rfl ?_
                refine gs_gtk rfl (by decide) rfl sS78.1 t67 rfl rfl s74 ?_
                refine gy_ifF rfl (by decide) (by decide) ⟨by omega, by omega⟩ (by first | (simp [zc]; done) | (simp only [zc]; omega)) ?_
                refine gy_s 4 (pc' := 104) (L' := [some (.ref x), some (.int (zi b))]) (S' := [.int ((zi b) * (zi 64)), .ref x]) (L2 := [some (.ref x), some (.int (zi b))]) (S2 := [.int (zi (b * 64)), .ref x]) rfl (by simp only [zi_add, zi_sub, zi_mul, zi_neg, zi_and1, zi_and7, zi_and15, zi_and31, zi_and255]) (by simp only [zi_add, zi_sub, zi_mul, zi_neg, zi_and1, zi_and7, zi_and15, zi_and31, zi_and255]) ?_
                have hl85 : hq65.2.2.2.1 cq65_0 = hq65.2.2.2.1 cq65_0 := congrFun sS78.2.2.2.2.1 cq65_0
                refine gz_call rfl (by decide) rfl (by decide) (by decide) (gcal_of rfl rfl rfl (Nat.le_of_ble_eq_true rfl) (gJ.recv (G := gGG) sS78.1 t67 rfl rfl)) (cl_Writer_putOthers _ sS78.1 x t67 (b * 64) ⟨by omega, by omega⟩ sk s71 t68 cq65_0 ecq65_0 tcq65_0 fq65_0 efq65_0 ⟨by omega, by omega⟩ fq65_1 efq65_1 ⟨by omega, by omega⟩ cg s72 ⟨by omega, by omega⟩ fr s73 ⟨by omega, by omega⟩ tt s74 ⟨by omega, by omega⟩ (by omega) (by omega) (by omega) (by omega) uq77) (fun q86 _ wq86 => ?_)
                obtain ⟨pq86, oq86, hq86⟩ := q86
                obtain ⟨tyq86, xq86, cq86_0, ttq86, fq86_0, fq86_1, ecq86_0, tcq86_0, gq86, efq86_0, afq86_0, bfq86_0, efq86_1, afq86_1, bfq86_1, uq86_0, uq86_1, uq86_2, uq86_3, uq86_4, uq86_5, uq86_6⟩ := wq86
                dsimp only at uq86_3 uq86_4 uq86_5 uq86_6
                refine ⟨_, gq86, ?_⟩
                show gz gPP gGG gcn _ _ 107 [some (.ref x), some (.int (zi b))] [] hq86 _
                have G87 : gSg [114] [] [56000, 56001, 56002, 56003, 71012, 71013, 71014, 80999, 97999, 114999] ty h tyq86 hq86 := gSg.tr (gSg.ss G66 sS78 (by decide)) xq86 (by decide) (by decide) (fun x hx => by cases hx)
                have t88 : tyq86 x = 71 := gSg.typ xq86 sS78.1 t67 rfl
                have t89 : tyq86 sk = 56 := gSg.typ xq86 sS78.1 t68 rfl
                have t90 : tyq86 bv = 114 := gSg.typ xq86 sS78.1 t69 rfl
                have hl91 : hq86.2.2.2.1 bv = hq65.2.2.2.1 bv := gSg.len xq86 sS78.1 t69 rfl
                have t92 : tyq86 cq65_0 = 114 := gSg.typ xq86 sS78.1 tcq65_0 rfl
                have hl93 : hq86.2.2.2.1 cq65_0 = hq65.2.2.2.1 cq65_0 := gSg.len xq86 sS78.1 tcq65_0 rfl
                have s94 := gSg.at xq86 sS78.1 t67 rfl (by decide) s71
                have s95 := gSg.at xq86 sS78.1 t67 rfl (by decide) s72
                have s96 := gSg.at xq86 sS78.1 t67 rfl (by decide) s73
                have s97 := gSg.at xq86 sS78.1 t67 rfl (by decide) s74
                have s98 := gSg.at xq86 sS78.1 t67 rfl (by decide) s75
                have s99 := gSg.at xq86 sS78.1 t67 rfl (by decide) s76
                have s100 := gSg.at xq86 sS78.1 t67 rfl (by decide) ez83
                have uq101 := gSg.uq xq86 uq77 (by decide)
                have sS102 : gSs rT 1027 tyq86 [56000, 56001, 56002, 56003, 71012, 71013, 71014, 80999, 97999, 114999] hq86 hq86 := gSs.rf xq86.1
                refine gy_s 2 (pc' := 7) (L' := [some (.ref x), some (.int ((zi b) + zi 1))]) (S' := []) (L2 := [some (.ref x), some (.int (zi (b + 1)))]) (S2 := []) rfl (by simp only [zi_add, zi_sub, zi_mul, zi_neg, zi_and1, zi_and7, zi_and15, zi_and31, zi_and255]) (by simp only [zi_add, zi_sub, zi_mul, zi_neg, zi_and1, zi_and7, zi_and15, zi_and31, zi_and255]) ?_
                have hl103 : 1024 ≤ hq86.2.2.2.1 bv ∧ hq86.2.2.2.1 bv ≤ 1000000 := gJ.rowl (G := gGG) sS102.1 t90 rfl
                have hl104 : 1024 ≤ hq86.2.2.2.1 cq65_0 ∧ hq86.2.2.2.1 cq65_0 ≤ 1000000 := gJ.rowl (G := gGG) sS102.1 t92 rfl
                have hl105 : 1024 ≤ hq86.2.2.2.1 cq86_0 ∧ hq86.2.2.2.1 cq86_0 ≤ 1000000 := gJ.rowl (G := gGG) sS102.1 tcq86_0 rfl
                have G106 : gSg [114] [] [56000, 56001, 56002, 56003, 71012, 71013, 71014, 80999, 97999, 114999] ty h tyq86 hq86 := gSg.ss G87 sS102 (by decide)
                exact gz_wk (ihlp11 tyq86 hq86 cq86_0 (b + 1) fq86_0 fq86_1 (gms lp11m (by omega) (by omega)) G106 uq101 t88 t89 ecq86_0 tcq86_0 ⟨by omega, by omega⟩ ⟨by omega, by omega⟩ ⟨by omega, by omega⟩ (by omega) (by omega) (fun hcg9 => by (try have i0 := lp11f5 hcg9); (try have i1 := uq65_2 hcg9); (try have i2 := uq86_2 hcg9); exact ⟨Int.le_antisymm (by omega) (by omega), Int.le_antisymm (by omega) (by omega)⟩) (by omega) (by omega) (by omega) (by omega) (by omega) s94 s95 s96 s97 s98 s99 efq86_0 efq86_1) (gLw.s (gLw.s gLw.z))
              · refine gy_ifF rfl (by decide) (by decide) (by omega) hc84 ?_
                refine gy_s 4 (pc' := 86) (L' := [some (.ref x), some (.int (zi b))]) (S' := [.int ((zi b) * (zi 64)), .ref x]) (L2 := [some (.ref x), some (.int (zi b))]) (S2 := [.int (zi (b * 64)), .ref x]) rfl (by simp only [zi_add, zi_sub, zi_mul, zi_neg, zi_and1, zi_and7, zi_and15, zi_and31, zi_and255]) (by simp only [zi_add, zi_sub, zi_mul, zi_neg, zi_and1, zi_and7, zi_and15, zi_and31, zi_and255]) ?_
                have hl107 : hq65.2.2.2.1 cq65_0 = hq65.2.2.2.1 cq65_0 := congrFun sS78.2.2.2.2.1 cq65_0
                obtain ⟨z108, ez108, az108, bz108⟩ := gJ.int (k := 10) (G := gGG) sS78.1 t67 rfl rfl rfl
                refine gz_call rfl (by decide) rfl (by decide) (by decide) (gcal_of rfl rfl rfl (Nat.le_of_ble_eq_true rfl) (gJ.recv (G := gGG) sS78.1 t67 rfl rfl)) (cl_Writer_refineOthers _ sS78.1 x t67 (b * 64) ⟨by omega, by omega⟩ sk s71 t68 cq65_0 ecq65_0 tcq65_0 fq65_0 efq65_0 ⟨by omega, by omega⟩ fq65_1 efq65_1 ⟨by omega, by omega⟩ cg s72 ⟨by omega, by omega⟩ fr s73 ⟨by omega, by omega⟩ tt s74 ⟨by omega, by omega⟩ z108 ez108 ⟨by omega, by omega⟩ (by omega) (by omega) (by omega) uq77) (fun q109 _ wq109 => ?_)
                obtain ⟨pq109, oq109, hq109⟩ := q109
                obtain ⟨tyq109, xq109, cq109_0, ttq109, fq109_0, fq109_1, ecq109_0, tcq109_0, gq109, efq109_0, afq109_0, bfq109_0, efq109_1, afq109_1, bfq109_1, uq109_0, uq109_1, uq109_2, uq109_3, uq109_4, uq109_5, uq109_6⟩ := wq109
                dsimp only at uq109_3 uq109_4 uq109_5 uq109_6
                refine ⟨_, gq109, ?_⟩
                show gz gPP gGG gcn _ _ 89 [some (.ref x), some (.int (zi b))] [] hq109 _
                have G110 : gSg [114] [] [56000, 56001, 56002, 56003, 71012, 71013, 71014, 80999, 97999, 114999] ty h tyq109 hq109 := gSg.tr (gSg.ss G66 sS78 (by decide)) xq109 (by decide) (by decide) (fun x hx => by cases hx)
                have t111 : tyq109 x = 71 := gSg.typ xq109 sS78.1 t67 rfl
                have t112 : tyq109 sk = 56 := gSg.typ xq109 sS78.1 t68 rfl
                have t113 : tyq109 bv = 114 := gSg.typ xq109 sS78.1 t69 rfl
                have hl114 : hq109.2.2.2.1 bv = hq65.2.2.2.1 bv := gSg.len xq109 sS78.1 t69 rfl
                have t115 : tyq109 cq65_0 = 114 := gSg.typ xq109 sS78.1 tcq65_0 rfl
                have hl116 : hq109.2.2.2.1 cq65_0 = hq65.2.2.2.1 cq65_0 := gSg.len xq109 sS78.1 tcq65_0 rfl
                have s117 := gSg.at xq109 sS78.1 t67 rfl (by decide) s71
                have s118 := gSg.at xq109 sS78.1 t67 rfl (by decide) s72
                have s119 := gSg.at xq109 sS78.1 t67 rfl (by decide) s73
                have s120 := gSg.at xq109 sS78.1 t67 rfl (by decide) s74
                have s121 := gSg.at xq109 sS78.1 t67 rfl (by decide) s75
                have s122 := gSg.at xq109 sS78.1 t67 rfl (by decide) s76
                have s123 := gSg.at xq109 sS78.1 t67 rfl (by decide) ez83
                have s124 := gSg.at xq109 sS78.1 t67 rfl (by decide) ez108
                have uq125 := gSg.uq xq109 uq77 (by decide)
                have sS126 : gSs rT 1027 tyq109 [56000, 56001, 56002, 56003, 71012, 71013, 71014, 80999, 97999, 114999] hq109 hq109 := gSs.rf xq109.1
                refine gy_s 3 (pc' := 7) (L' := [some (.ref x), some (.int ((zi b) + zi 1))]) (S' := []) (L2 := [some (.ref x), some (.int (zi (b + 1)))]) (S2 := []) rfl (by simp only [zi_add, zi_sub, zi_mul, zi_neg, zi_and1, zi_and7, zi_and15, zi_and31, zi_and255]) (by simp only [zi_add, zi_sub, zi_mul, zi_neg, zi_and1, zi_and7, zi_and15, zi_and31, zi_and255]) ?_
                have hl127 : 1024 ≤ hq109.2.2.2.1 bv ∧ hq109.2.2.2.1 bv ≤ 1000000 := gJ.rowl (G := gGG) sS126.1 t113 rfl
                have hl128 : 1024 ≤ hq109.2.2.2.1 cq65_0 ∧ hq109.2.2.2.1 cq65_0 ≤ 1000000 := gJ.rowl (G := gGG) sS126.1 t115 rfl
                have hl129 : 1024 ≤ hq109.2.2.2.1 cq109_0 ∧ hq109.2.2.2.1 cq109_0 ≤ 1000000 := gJ.rowl (G := gGG) sS126.1 tcq109_0 rfl
                have G130 : gSg [114] [] [56000, 56001, 56002, 56003, 71012, 71013, 71014, 80999, 97999, 114999] ty h tyq109 hq109 := gSg.ss G110 sS126 (by decide)
                exact gz_wk (ihlp11 tyq109 hq109 cq109_0 (b + 1) fq109_0 fq109_1 (gms lp11m (by omega) (by omega)) G130 uq125 t111 t112 ecq109_0 tcq109_0 ⟨by omega, by omega⟩ ⟨by omega, by omega⟩ ⟨by omega, by omega⟩ (by omega) (by omega) (fun hcg9 => by (try have i0 := lp11f5 hcg9); (try have i1 := uq65_2 hcg9); (try have i2 := uq109_2 hcg9); exact ⟨Int.le_antisymm (by omega) (by omega), Int.le_antisymm (by omega) (by omega)⟩) (by omega) (by omega) (by omega) (by omega) (by omega) s117 s118 s119 s120 s121 s122 efq109_0 efq109_1) (gLw.s (gLw.s gLw.z))
        · refine gy_ifF rfl (by decide) (by decide) (by omega) hc17 ?_
          refine gz_s 1 (pc' := 23) (L' := [some (.ref x), some (.int (zi b))]) (S' := [.int (zi b)]) rfl ?_
          by_cases hc131 : (b : Int) ≤ 0
          · refine gy_ifT (pc' := 52) rfl (by decide) (by decide) (by omega) hc131 ?_
            refine gz_s 1 (pc' := 53) (L' := [some (.ref x), some (.int (zi b))]) (S' := [.ref x]) rfl ?_
            refine gs_gtk rfl (by decide) rfl sh12.1 lp11c0 rfl rfl lp11k2 ?_
            by_cases hc132 : ¬ (fr : Int) = 0
            · refine gy_ifT (pc' := 67) rfl (by decide) (by decide) (by omega) hc132 ?_
              refine gz_s 1 (pc' := 68) (L' := [some (.ref x), some (.int (zi b))]) (S' := [.ref x]) rfl ?_
              refine gs_gtk rfl (by decide) rfl sh12.1 lp11c0 rfl rfl lp11k3 ?_
              by_cases hc133 : (tt : Int) ≤ 0
              · refine gy_ifT (pc' := 92) rfl (by decide) (by decide) (by omega) hc133 ?_
                refine gz_s 1 (pc' := 93) (L' := [some (.ref x), some (.int (zi b))]) (S' := [.ref x]) rfl ?_
                refine gs_gtk rfl (by decide) rfl sh12.1 lp11c0 rfl rfl lp11k3 ?_
                refine gy_ifT (pc' := 107) rfl (by decide) (by decide) ⟨by omega, by omega⟩ (by first | (simp [zc]; done) | (simp only [zc]; omega)) ?_
                refine gy_s 2 (pc' := 7) (L' := [some (.ref x), some (.int ((zi b) + zi 1))]) (S' := []) (L2 := [some (.ref x), some (.int (zi (b + 1)))]) (S2 := []) rfl (by simp only [zi_add, zi_sub, zi_mul, zi_neg, zi_and1, zi_and7, zi_and15, zi_and31, zi_and255]) (by simp only [zi_add, zi_sub, zi_mul, zi_neg, zi_and1, zi_and7, zi_and15, zi_and31, zi_and255]) ?_
                have hl134 : 1024 ≤ h12.2.2.2.1 bv ∧ h12.2.2.2.1 bv ≤ 1000000 := gJ.rowl (G := gGG) sh12.1 lp11r1 rfl
                have G135 : gSg [114] [] [56000, 56001, 56002, 56003, 71012, 71013, 71014, 80999, 97999, 114999] ty h ty13 h12 := gSg.ss lp11G sh12 (by decide)
                exact gz_wk (ihlp11 ty13 h12 bv (b + 1) cv hv (gms lp11m (by omega) (by omega)) G135 lp11u lp11c0 lp11c1 lp11r0 lp11r1 ⟨by omega, by omega⟩ ⟨by omega, by omega⟩ ⟨by omega, by omega⟩ (by omega) (by omega) (fun hcg9 => by (try have i0 := lp11f5 hcg9); exact ⟨Int.le_antisymm (by omega) (by omega), Int.le_antisymm (by omega) (by omega)⟩) (by omega) (by omega) (by omega) (by omega) (by omega) lp11k0 lp11k1 lp11k2 lp11k3 lp11k4 lp11k5 lp11k6 lp11k7) (gLw.s (gLw.s gLw.z))
              · refine gy_ifF rfl (by decide) (by decide) (by omega) hc133 ?_
                refine gz_s 1 (pc' := 75) (L' := [some (.ref x), some (.int (zi b))]) (S' := [.ref x]) rfl ?_
                refine gs_get rfl (by decide) rfl sh12.1 lp11c0 rfl rfl rfl (fun z136 ez136 az136 bz136 => ?_)
                by_cases hc137 : (z136 : Int) ≤ 0
                · refine gy_ifT (pc' := 92) rfl (by decide) (by decide) (by omega) hc137 ?_
                  refine gz_s 1 (pc' := 93) (L' := [some (.ref x), some (.int (zi b))]) (S' := [.ref x]) rfl ?_
                  refine gs_gtk rfl (by decide) rfl sh12.1 lp11c0 rfl rfl lp11k3 ?_
                  refine gy_ifF rfl (by decide) (by decide) ⟨by omega, by omega⟩ (by first | (simp [zc]; done) | (simp only [zc]; omega)) ?_
                  refine gy_s 4 (pc' := 104) (L' := [some (.ref x), some (.int (zi b))]) (S' := [.int ((zi b) * (zi 64)), .ref x]) (L2 := [some (.ref x), some (.int (zi b))]) (S2 := [.int (zi (b * 64)), .ref x]) rfl (by simp only [zi_add, zi_sub, zi_mul, zi_neg, zi_and1, zi_and7, zi_and15, zi_and31, zi_and255]) (by simp only [zi_add, zi_sub, zi_mul, zi_neg, zi_and1, zi_and7, zi_and15, zi_and31, zi_and255]) ?_
                  have hl138 : h12.2.2.2.1 bv = h12.2.2.2.1 bv := congrFun sh12.2.2.2.2.1 bv
                  refine gz_call rfl (by decide) rfl (by decide) (by decide) (gcal_of rfl rfl rfl (Nat.le_of_ble_eq_true rfl) (gJ.recv (G := gGG) sh12.1 lp11c0 rfl rfl)) (cl_Writer_putOthers _ sh12.1 x lp11c0 (b * 64) ⟨by omega, by omega⟩ sk lp11k0 lp11c1 bv lp11r0 lp11r1 cv lp11k6 ⟨by omega, by omega⟩ hv lp11k7 ⟨by omega, by omega⟩ cg lp11k1 ⟨by omega, by omega⟩ fr lp11k2 ⟨by omega, by omega⟩ tt lp11k3 ⟨by omega, by omega⟩ (by omega) (by omega) (by omega) (by omega) lp11u) (fun q139 _ wq139 => ?_)
                  obtain ⟨pq139, oq139, hq139⟩ := q139
                  obtain ⟨tyq139, xq139, cq139_0, ttq139, fq139_0, fq139_1, ecq139_0, tcq139_0, gq139, efq139_0, afq139_0, bfq139_0, efq139_1, afq139_1, bfq139_1, uq139_0, uq139_1, uq139_2, uq139_3, uq139_4, uq139_5, uq139_6⟩ := wq139
                  dsimp only at uq139_3 uq139_4 uq139_5 uq139_6
                  refine ⟨_, gq139, ?_⟩
                  show gz gPP gGG gcn _ _ 107 [some (.ref x), some (.int (zi b))] [] hq139 _
                  have G140 : gSg [114] [] [56000, 56001, 56002, 56003, 71012, 71013, 71014, 80999, 97999, 114999] ty h tyq139 hq139 := gSg.tr (gSg.ss lp11G sh12 (by decide)) xq139 (by decide) (by decide) (fun x hx => by cases hx)
                  have t141 : tyq139 x = 71 := gSg.typ xq139 sh12.1 lp11c0 rfl
                  have t142 : tyq139 sk = 56 := gSg.typ xq139 sh12.1 lp11c1 rfl
                  have t143 : tyq139 bv = 114 := gSg.typ xq139 sh12.1 lp11r1 rfl
                  have hl144 : hq139.2.2.2.1 bv = h12.2.2.2.1 bv := gSg.len xq139 sh12.1 lp11r1 rfl
                  have s145 := gSg.at xq139 sh12.1 lp11c0 rfl (by decide) lp11k0
                  have s146 := gSg.at xq139 sh12.1 lp11c0 rfl (by decide) lp11k1
                  have s147 := gSg.at xq139 sh12.1 lp11c0 rfl (by decide) lp11k2
                  have s148 := gSg.at xq139 sh12.1 lp11c0 rfl (by decide) lp11k3
                  have s149 := gSg.at xq139 sh12.1 lp11c0 rfl (by decide) lp11k4
                  have s150 := gSg.at xq139 sh12.1 lp11c0 rfl (by decide) lp11k5
                  have s151 := gSg.at xq139 sh12.1 lp11c0 rfl (by decide) ez136
                  have uq152 := gSg.uq xq139 lp11u (by decide)
                  have sS153 : gSs rT 1027 tyq139 [56000, 56001, 56002, 56003, 71012, 71013, 71014, 80999, 97999, 114999] hq139 hq139 := gSs.rf xq139.1
                  refine gy_s 2 (pc' := 7) (L' := [some (.ref x), some (.int ((zi b) + zi 1))]) (S' := []) (L2 := [some (.ref x), some (.int (zi (b + 1)))]) (S2 := []) rfl (by simp only [zi_add, zi_sub, zi_mul, zi_neg, zi_and1, zi_and7, zi_and15, zi_and31, zi_and255]) (by simp only [zi_add, zi_sub, zi_mul, zi_neg, zi_and1, zi_and7, zi_and15, zi_and31, zi_and255]) ?_
                  have hl154 : 1024 ≤ hq139.2.2.2.1 bv ∧ hq139.2.2.2.1 bv ≤ 1000000 := gJ.rowl (G := gGG) sS153.1 t143 rfl
                  have hl155 : 1024 ≤ hq139.2.2.2.1 cq139_0 ∧ hq139.2.2.2.1 cq139_0 ≤ 1000000 := gJ.rowl (G := gGG) sS153.1 tcq139_0 rfl
                  have G156 : gSg [114] [] [56000, 56001, 56002, 56003, 71012, 71013, 71014, 80999, 97999, 114999] ty h tyq139 hq139 := gSg.ss G140 sS153 (by decide)
                  exact gz_wk (ihlp11 tyq139 hq139 cq139_0 (b + 1) fq139_0 fq139_1 (gms lp11m (by omega) (by omega)) G156 uq152 t141 t142 ecq139_0 tcq139_0 ⟨by omega, by omega⟩ ⟨by omega, by omega⟩ ⟨by omega, by omega⟩ (by omega) (by omega) (fun hcg9 => by (try have i0 := lp11f5 hcg9); (try have i1 := uq139_2 hcg9); exact ⟨Int.le_antisymm (by omega) (by omega), Int.le_antisymm (by omega) (by omega)⟩) (by omega) (by omega) (by omega) (by omega) (by omega) s145 s146 s147 s148 s149 s150 efq139_0 efq139_1) (gLw.s (gLw.s gLw.z))
                · refine gy_ifF rfl (by decide) (by decide) (by omega) hc137 ?_
                  refine gy_s 4 (pc' := 86) (L' := [some (.ref x), some (.int (zi b))]) (S' := [.int ((zi b) * (zi 64)), .ref x]) (L2 := [some (.ref x), some (.int (zi b))]) (S2 := [.int (zi (b * 64)), .ref x]) rfl (by simp only [zi_add, zi_sub, zi_mul, zi_neg, zi_and1, zi_and7, zi_and15, zi_and31, zi_and255]) (by simp only [zi_add, zi_sub, zi_mul, zi_neg, zi_and1, zi_and7, zi_and15, zi_and31, zi_and255]) ?_
                  have hl157 : h12.2.2.2.1 bv = h12.2.2.2.1 bv := congrFun sh12.2.2.2.2.1 bv
                  obtain ⟨z158, ez158, az158, bz158⟩ := gJ.int (k := 10) (G := gGG) sh12.1 lp11c0 rfl rfl rfl
                  refine gz_call rfl (by decide) rfl (by decide) (by decide) (gcal_of rfl rfl rfl (Nat.le_of_ble_eq_true rfl) (gJ.recv (G := gGG) sh12.1 lp11c0 rfl rfl)) (cl_Writer_refineOthers _ sh12.1 x lp11c0 (b * 64) ⟨by omega, by omega⟩ sk lp11k0 lp11c1 bv lp11r0 lp11r1 cv lp11k6 ⟨by omega, by omega⟩ hv lp11k7 ⟨by omega, by omega⟩ cg lp11k1 ⟨by omega, by omega⟩ fr lp11k2 ⟨by omega, by omega⟩ tt lp11k3 ⟨by omega, by omega⟩ z158 ez158 ⟨by omega, by omega⟩ (by omega) (by omega) (by omega) lp11u) (fun q159 _ wq159 => ?_)
                  obtain ⟨pq159, oq159, hq159⟩ := q159
                  obtain ⟨tyq159, xq159, cq159_0, ttq159, fq159_0, fq159_1, ecq159_0, tcq159_0, gq159, efq159_0, afq159_0, bfq159_0, efq159_1, afq159_1, bfq159_1, uq159_0, uq159_1, uq159_2, uq159_3, uq159_4, uq159_5, uq159_6⟩ := wq159
                  dsimp only at uq159_3 uq159_4 uq159_5 uq159_6
                  refine ⟨_, gq159, ?_⟩
                  show gz gPP gGG gcn _ _ 89 [some (.ref x), some (.int (zi b))] [] hq159 _
                  have G160 : gSg [114] [] [56000, 56001, 56002, 56003, 71012, 71013, 71014, 80999, 97999, 114999] ty h tyq159 hq159 := gSg.tr (gSg.ss lp11G sh12 (by decide)) xq159 (by decide) (by decide) (fun x hx => by cases hx)
                  have t161 : tyq159 x = 71 := gSg.typ xq159 sh12.1 lp11c0 rfl
                  have t162 : tyq159 sk = 56 := gSg.typ xq159 sh12.1 lp11c1 rfl
                  have t163 : tyq159 bv = 114 := gSg.typ xq159 sh12.1 lp11r1 rfl
                  have hl164 : hq159.2.2.2.1 bv = h12.2.2.2.1 bv := gSg.len xq159 sh12.1 lp11r1 rfl
                  have s165 := gSg.at xq159 sh12.1 lp11c0 rfl (by decide) lp11k0
                  have s166 := gSg.at xq159 sh12.1 lp11c0 rfl (by decide) lp11k1
                  have s167 := gSg.at xq159 sh12.1 lp11c0 rfl (by decide) lp11k2
                  have s168 := gSg.at xq159 sh12.1 lp11c0 rfl (by decide) lp11k3
                  have s169 := gSg.at xq159 sh12.1 lp11c0 rfl (by decide) lp11k4
                  have s170 := gSg.at xq159 sh12.1 lp11c0 rfl (by decide) lp11k5
                  have s171 := gSg.at xq159 sh12.1 lp11c0 rfl (by decide) ez136
                  have s172 := gSg.at xq159 sh12.1 lp11c0 rfl (by decide) ez158
                  have uq173 := gSg.uq xq159 lp11u (by decide)
                  have sS174 : gSs rT 1027 tyq159 [56000, 56001, 56002, 56003, 71012, 71013, 71014, 80999, 97999, 114999] hq159 hq159 := gSs.rf xq159.1
                  refine gy_s 3 (pc' := 7) (L' := [some (.ref x), some (.int ((zi b) + zi 1))]) (S' := []) (L2 := [some (.ref x), some (.int (zi (b + 1)))]) (S2 := []) rfl (by simp only [zi_add, zi_sub, zi_mul, zi_neg, zi_and1, zi_and7, zi_and15, zi_and31, zi_and255]) (by simp only [zi_add, zi_sub, zi_mul, zi_neg, zi_and1, zi_and7, zi_and15, zi_and31, zi_and255]) ?_
                  have hl175 : 1024 ≤ hq159.2.2.2.1 bv ∧ hq159.2.2.2.1 bv ≤ 1000000 := gJ.rowl (G := gGG) sS174.1 t163 rfl
                  have hl176 : 1024 ≤ hq159.2.2.2.1 cq159_0 ∧ hq159.2.2.2.1 cq159_0 ≤ 1000000 := gJ.rowl (G := gGG) sS174.1 tcq159_0 rfl
                  have G177 : gSg [114] [] [56000, 56001, 56002, 56003, 71012, 71013, 71014, 80999, 97999, 114999] ty h tyq159 hq159 := gSg.ss G160 sS174 (by decide)
                  exact gz_wk (ihlp11 tyq159 hq159 cq159_0 (b + 1) fq159_0 fq159_1 (gms lp11m (by omega) (by omega)) G177 uq173 t161 t162 ecq159_0 tcq159_0 ⟨by omega, by omega⟩ ⟨by omega, by omega⟩ ⟨by omega, by omega⟩ (by omega) (by omega) (fun hcg9 => by (try have i0 := lp11f5 hcg9); (try have i1 := uq159_2 hcg9); exact ⟨Int.le_antisymm (by omega) (by omega), Int.le_antisymm (by omega) (by omega)⟩) (by omega) (by omega) (by omega) (by omega) (by omega) s165 s166 s167 s168 s169 s170 efq159_0 efq159_1) (gLw.s (gLw.s gLw.z))
            · refine gy_ifF rfl (by decide) (by decide) (by omega) hc132 ?_
              refine gy_s 4 (pc' := 64) (L' := [some (.ref x), some (.int (zi b))]) (S' := [.int ((zi b) * (zi 64)), .ref x]) (L2 := [some (.ref x), some (.int (zi b))]) (S2 := [.int (zi (b * 64)), .ref x]) rfl (by simp only [zi_add, zi_sub, zi_mul, zi_neg, zi_and1, zi_and7, zi_and15, zi_and31, zi_and255]) (by simp only [zi_add, zi_sub, zi_mul, zi_neg, zi_and1, zi_and7, zi_and15, zi_and31, zi_and255]) ?_
              have hl178 : h12.2.2.2.1 bv = h12.2.2.2.1 bv := congrFun sh12.2.2.2.2.1 bv
              refine gz_call rfl (by decide) rfl (by decide) (by decide) (gcal_of rfl rfl rfl (Nat.le_of_ble_eq_true rfl) (gJ.recv (G := gGG) sh12.1 lp11c0 rfl rfl)) (cl_Writer_putFirst _ sh12.1 x lp11c0 (b * 64) ⟨by omega, by omega⟩ sk lp11k0 lp11c1 bv lp11r0 lp11r1 cv lp11k6 ⟨by omega, by omega⟩ hv lp11k7 ⟨by omega, by omega⟩ cg lp11k1 ⟨by omega, by omega⟩ (by omega) (by omega) lp11u) (fun q179 _ wq179 => ?_)
              obtain ⟨pq179, oq179, hq179⟩ := q179
              obtain ⟨tyq179, xq179, cq179_0, ttq179, fq179_0, fq179_1, ecq179_0, tcq179_0, gq179, efq179_0, afq179_0, bfq179_0, efq179_1, afq179_1, bfq179_1, uq179_0, uq179_1, uq179_2, uq179_3, uq179_4, uq179_5, uq179_6⟩ := wq179
              dsimp only at uq179_3 uq179_4 uq179_5 uq179_6
              refine ⟨_, gq179, ?_⟩
              show gz gPP gGG gcn _ _ 67 [some (.ref x), some (.int (zi b))] [] hq179 _
              have G180 : gSg [114] [] [56000, 56001, 56002, 56003, 71012, 71013, 71014, 80999, 97999, 114999] ty h tyq179 hq179 := gSg.tr (gSg.ss lp11G sh12 (by decide)) xq179 (by decide) (by decide) (fun x hx => by cases hx)
              have t181 : tyq179 x = 71 := gSg.typ xq179 sh12.1 lp11c0 rfl
              have t182 : tyq179 sk = 56 := gSg.typ xq179 sh12.1 lp11c1 rfl
              have t183 : tyq179 bv = 114 := gSg.typ xq179 sh12.1 lp11r1 rfl
              have hl184 : hq179.2.2.2.1 bv = h12.2.2.2.1 bv := gSg.len xq179 sh12.1 lp11r1 rfl
              have s185 := gSg.at xq179 sh12.1 lp11c0 rfl (by decide) lp11k0
              have s186 := gSg.at xq179 sh12.1 lp11c0 rfl (by decide) lp11k1
              have s187 := gSg.at xq179 sh12.1 lp11c0 rfl (by decide) lp11k2
              have s188 := gSg.at xq179 sh12.1 lp11c0 rfl (by decide) lp11k3
              have s189 := gSg.at xq179 sh12.1 lp11c0 rfl (by decide) lp11k4
              have s190 := gSg.at xq179 sh12.1 lp11c0 rfl (by decide) lp11k5
              have uq191 := gSg.uq xq179 lp11u (by decide)
              have sS192 : gSs rT 1027 tyq179 [56000, 56001, 56002, 56003, 71012, 71013, 71014, 80999, 97999, 114999] hq179 hq179 := gSs.rf xq179.1
              refine gz_s 1 (pc' := 68) (L' := [some (.ref x), some (.int (zi b))]) (S' := [.ref x]) rfl ?_
              refine gs_gtk rfl (by decide) rfl sS192.1 t181 rfl rfl s188 ?_
              by_cases hc193 : (tt : Int) ≤ 0
              · refine gy_ifT (pc' := 92) rfl (by decide) (by decide) (by omega) hc193 ?_
                refine gz_s 1 (pc' := 93) (L' := [some (.ref x), some (.int (zi b))]) (S' := [.ref x]) rfl ?_
                refine gs_gtk rfl (by decide) rfl sS192.1 t181 rfl rfl s188 ?_
                refine gy_ifT (pc' := 107) rfl (by decide) (by decide) ⟨by omega, by omega⟩ (by first | (simp [zc]; done) | (simp only [zc]; omega)) ?_
                refine gy_s 2 (pc' := 7) (L' := [some (.ref x), some (.int ((zi b) + zi 1))]) (S' := []) (L2 := [some (.ref x), some (.int (zi (b + 1)))]) (S2 := []) rfl (by simp only [zi_add, zi_sub, zi_mul, zi_neg, zi_and1, zi_and7, zi_and15, zi_and31, zi_and255]) (by simp only [zi_add, zi_sub, zi_mul, zi_neg, zi_and1, zi_and7, zi_and15, zi_and31, zi_and255]) ?_
                have hl194 : 1024 ≤ hq179.2.2.2.1 bv ∧ hq179.2.2.2.1 bv ≤ 1000000 := gJ.rowl (G := gGG) sS192.1 t183 rfl
                have hl195 : 1024 ≤ hq179.2.2.2.1 cq179_0 ∧ hq179.2.2.2.1 cq179_0 ≤ 1000000 := gJ.rowl (G := gGG) sS192.1 tcq179_0 rfl
                have G196 : gSg [114] [] [56000, 56001, 56002, 56003, 71012, 71013, 71014, 80999, 97999, 114999] ty h tyq179 hq179 := gSg.ss G180 sS192 (by decide)
                exact gz_wk (ihlp11 tyq179 hq179 cq179_0 (b + 1) fq179_0 fq179_1 (gms lp11m (by omega) (by omega)) G196 uq191 t181 t182 ecq179_0 tcq179_0 ⟨by omega, by omega⟩ ⟨by omega, by omega⟩ ⟨by omega, by omega⟩ (by omega) (by omega) (fun hcg9 => by (try have i0 := lp11f5 hcg9); (try have i1 := uq179_2 hcg9); exact ⟨Int.le_antisymm (by omega) (by omega), Int.le_antisymm (by omega) (by omega)⟩) (by omega) (by omega) (by omega) (by omega) (by omega) s185 s186 s187 s188 s189 s190 efq179_0 efq179_1) (gLw.s (gLw.s gLw.z))
              · refine gy_ifF rfl (by decide) (by decide) (by omega) hc193 ?_
                refine gz_s 1 (pc' := 75) (L' := [some (.ref x), some (.int (zi b))]) (S' := [.ref x]) rfl ?_
                refine gs_get rfl (by decide) rfl sS192.1 t181 rfl rfl rfl (fun z197 ez197 az197 bz197 => ?_)
                by_cases hc198 : (z197 : Int) ≤ 0
                · refine gy_ifT (pc' := 92) rfl (by decide) (by decide) (by omega) hc198 ?_
                  refine gz_s 1 (pc' := 93) (L' := [some (.ref x), some (.int (zi b))]) (S' := [.ref x]) rfl ?_
                  refine gs_gtk rfl (by decide) rfl sS192.1 t181 rfl rfl s188 ?_
                  refine gy_ifF rfl (by decide) (by decide) ⟨by omega, by omega⟩ (by first | (simp [zc]; done) | (simp only [zc]; omega)) ?_
                  refine gy_s 4 (pc' := 104) (L' := [some (.ref x), some (.int (zi b))]) (S' := [.int ((zi b) * (zi 64)), .ref x]) (L2 := [some (.ref x), some (.int (zi b))]) (S2 := [.int (zi (b * 64)), .ref x]) rfl (by simp only [zi_add, zi_sub, zi_mul, zi_neg, zi_and1, zi_and7, zi_and15, zi_and31, zi_and255]) (by simp only [zi_add, zi_sub, zi_mul, zi_neg, zi_and1, zi_and7, zi_and15, zi_and31, zi_and255]) ?_
                  have hl199 : hq179.2.2.2.1 cq179_0 = hq179.2.2.2.1 cq179_0 := congrFun sS192.2.2.2.2.1 cq179_0
                  refine gz_call rfl (by decide) rfl (by decide) (by decide) (gcal_of rfl rfl rfl (Nat.le_of_ble_eq_true rfl) (gJ.recv (G := gGG) sS192.1 t181 rfl rfl)) (cl_Writer_putOthers _ sS192.1 x t181 (b * 64) ⟨by omega, by omega⟩ sk s185 t182 cq179_0 ecq179_0 tcq179_0 fq179_0 efq179_0 ⟨by omega, by omega⟩ fq179_1 efq179_1 ⟨by omega, by omega⟩ cg s186 ⟨by omega, by omega⟩ fr s187 ⟨by omega, by omega⟩ tt s188 ⟨by omega, by omega⟩ (by omega) (by omega) (by omega) (by omega) uq191) (fun q200 _ wq200 => ?_)
                  obtain ⟨pq200, oq200, hq200⟩ := q200
                  obtain ⟨tyq200, xq200, cq200_0, ttq200, fq200_0, fq200_1, ecq200_0, tcq200_0, gq200, efq200_0, afq200_0, bfq200_0, efq200_1, afq200_1, bfq200_1, uq200_0, uq200_1, uq200_2, uq200_3, uq200_4, uq200_5, uq200_6⟩ := wq200
                  dsimp only at uq200_3 uq200_4 uq200_5 uq200_6
                  refine ⟨_, gq200, ?_⟩
                  show gz gPP gGG gcn _ _ 107 [some (.ref x), some (.int (zi b))] [] hq200 _
                  have G201 : gSg [114] [] [56000, 56001, 56002, 56003, 71012, 71013, 71014, 80999, 97999, 114999] ty h tyq200 hq200 := gSg.tr (gSg.ss G180 sS192 (by decide)) xq200 (by decide) (by decide) (fun x hx => by cases hx)
                  have t202 : tyq200 x = 71 := gSg.typ xq200 sS192.1 t181 rfl
                  have t203 : tyq200 sk = 56 := gSg.typ xq200 sS192.1 t182 rfl
                  have t204 : tyq200 bv = 114 := gSg.typ xq200 sS192.1 t183 rfl
                  have hl205 : hq200.2.2.2.1 bv = hq179.2.2.2.1 bv := gSg.len xq200 sS192.1 t183 rfl
                  have t206 : tyq200 cq179_0 = 114 := gSg.typ xq200 sS192.1 tcq179_0 rfl
                  have hl207 : hq200.2.2.2.1 cq179_0 = hq179.2.2.2.1 cq179_0 := gSg.len xq200 sS192.1 tcq179_0 rfl
                  have s208 := gSg.at xq200 sS192.1 t181 rfl (by decide) s185
                  have s209 := gSg.at xq200 sS192.1 t181 rfl (by decide) s186
                  have s210 := gSg.at xq200 sS192.1 t181 rfl (by decide) s187
                  have s211 := gSg.at xq200 sS192.1 t181 rfl (by decide) s188
                  have s212 := gSg.at xq200 sS192.1 t181 rfl (by decide) s189
                  have s213 := gSg.at xq200 sS192.1 t181 rfl (by decide) s190
                  have s214 := gSg.at xq200 sS192.1 t181 rfl (by decide) ez197
                  have uq215 := gSg.uq xq200 uq191 (by decide)
                  have sS216 : gSs rT 1027 tyq200 [56000, 56001, 56002, 56003, 71012, 71013, 71014, 80999, 97999, 114999] hq200 hq200 := gSs.rf xq200.1
                  refine gy_s 2 (pc' := 7) (L' := [some (.ref x), some (.int ((zi b) + zi 1))]) (S' := []) (L2 := [some (.ref x), some (.int (zi (b + 1)))]) (S2 := []) rfl (by simp only [zi_add, zi_sub, zi_mul, zi_neg, zi_and1, zi_and7, zi_and15, zi_and31, zi_and255]) (by simp only [zi_add, zi_sub, zi_mul, zi_neg, zi_and1, zi_and7, zi_and15, zi_and31, zi_and255]) ?_
                  have hl217 : 1024 ≤ hq200.2.2.2.1 bv ∧ hq200.2.2.2.1 bv ≤ 1000000 := gJ.rowl (G := gGG) sS216.1 t204 rfl
                  have hl218 : 1024 ≤ hq200.2.2.2.1 cq179_0 ∧ hq200.2.2.2.1 cq179_0 ≤ 1000000 := gJ.rowl (G := gGG) sS216.1 t206 rfl
                  have hl219 : 1024 ≤ hq200.2.2.2.1 cq200_0 ∧ hq200.2.2.2.1 cq200_0 ≤ 1000000 := gJ.rowl (G := gGG) sS216.1 tcq200_0 rfl
                  have G220 : gSg [114] [] [56000, 56001, 56002, 56003, 71012, 71013, 71014, 80999, 97999, 114999] ty h tyq200 hq200 := gSg.ss G201 sS216 (by decide)
                  exact gz_wk (ihlp11 tyq200 hq200 cq200_0 (b + 1) fq200_0 fq200_1 (gms lp11m (by omega) (by omega)) G220 uq215 t202 t203 ecq200_0 tcq200_0 ⟨by omega, by omega⟩ ⟨by omega, by omega⟩ ⟨by omega, by omega⟩ (by omega) (by omega) (fun hcg9 => by (try have i0 := lp11f5 hcg9); (try have i1 := uq179_2 hcg9); (try have i2 := uq200_2 hcg9); exact ⟨Int.le_antisymm (by omega) (by omega), Int.le_antisymm (by omega) (by omega)⟩) (by omega) (by omega) (by omega) (by omega) (by omega) s208 s209 s210 s211 s212 s213 efq200_0 efq200_1) (gLw.s (gLw.s gLw.z))
                · refine gy_ifF rfl (by decide) (by decide) (by omega) hc198 ?_
                  refine gy_s 4 (pc' := 86) (L' := [some (.ref x), some (.int (zi b))]) (S' := [.int ((zi b) * (zi 64)), .ref x]) (L2 := [some (.ref x), some (.int (zi b))]) (S2 := [.int (zi (b * 64)), .ref x]) rfl (by simp only [zi_add, zi_sub, zi_mul, zi_neg, zi_and1, zi_and7, zi_and15, zi_and31, zi_and255]) (by simp only [zi_add, zi_sub, zi_mul, zi_neg, zi_and1, zi_and7, zi_and15, zi_and31, zi_and255]) ?_
                  have hl221 : hq179.2.2.2.1 cq179_0 = hq179.2.2.2.1 cq179_0 := congrFun sS192.2.2.2.2.1 cq179_0
                  obtain ⟨z222, ez222, az222, bz222⟩ := gJ.int (k := 10) (G := gGG) sS192.1 t181 rfl rfl rfl
                  refine gz_call rfl (by decide) rfl (by decide) (by decide) (gcal_of rfl rfl rfl (Nat.le_of_ble_eq_true rfl) (gJ.recv (G := gGG) sS192.1 t181 rfl rfl)) (cl_Writer_refineOthers _ sS192.1 x t181 (b * 64) ⟨by omega, by omega⟩ sk s185 t182 cq179_0 ecq179_0 tcq179_0 fq179_0 efq179_0 ⟨by omega, by omega⟩ fq179_1 efq179_1 ⟨by omega, by omega⟩ cg s186 ⟨by omega, by omega⟩ fr s187 ⟨by omega, by omega⟩ tt s188 ⟨by omega, by omega⟩ z222 ez222 ⟨by omega, by omega⟩ (by omega) (by omega) (by omega) uq191) (fun q223 _ wq223 => ?_)
                  obtain ⟨pq223, oq223, hq223⟩ := q223
                  obtain ⟨tyq223, xq223, cq223_0, ttq223, fq223_0, fq223_1, ecq223_0, tcq223_0, gq223, efq223_0, afq223_0, bfq223_0, efq223_1, afq223_1, bfq223_1, uq223_0, uq223_1, uq223_2, uq223_3, uq223_4, uq223_5, uq223_6⟩ := wq223
                  dsimp only at uq223_3 uq223_4 uq223_5 uq223_6
                  refine ⟨_, gq223, ?_⟩
                  show gz gPP gGG gcn _ _ 89 [some (.ref x), some (.int (zi b))] [] hq223 _
                  have G224 : gSg [114] [] [56000, 56001, 56002, 56003, 71012, 71013, 71014, 80999, 97999, 114999] ty h tyq223 hq223 := gSg.tr (gSg.ss G180 sS192 (by decide)) xq223 (by decide) (by decide) (fun x hx => by cases hx)
                  have t225 : tyq223 x = 71 := gSg.typ xq223 sS192.1 t181 rfl
                  have t226 : tyq223 sk = 56 := gSg.typ xq223 sS192.1 t182 rfl
                  have t227 : tyq223 bv = 114 := gSg.typ xq223 sS192.1 t183 rfl
                  have hl228 : hq223.2.2.2.1 bv = hq179.2.2.2.1 bv := gSg.len xq223 sS192.1 t183 rfl
                  have t229 : tyq223 cq179_0 = 114 := gSg.typ xq223 sS192.1 tcq179_0 rfl
                  have hl230 : hq223.2.2.2.1 cq179_0 = hq179.2.2.2.1 cq179_0 := gSg.len xq223 sS192.1 tcq179_0 rfl
                  have s231 := gSg.at xq223 sS192.1 t181 rfl (by decide) s185
                  have s232 := gSg.at xq223 sS192.1 t181 rfl (by decide) s186
                  have s233 := gSg.at xq223 sS192.1 t181 rfl (by decide) s187
                  have s234 := gSg.at xq223 sS192.1 t181 rfl (by decide) s188
                  have s235 := gSg.at xq223 sS192.1 t181 rfl (by decide) s189
                  have s236 := gSg.at xq223 sS192.1 t181 rfl (by decide) s190
                  have s237 := gSg.at xq223 sS192.1 t181 rfl (by decide) ez197
                  have s238 := gSg.at xq223 sS192.1 t181 rfl (by decide) ez222
                  have uq239 := gSg.uq xq223 uq191 (by decide)
                  have sS240 : gSs rT 1027 tyq223 [56000, 56001, 56002, 56003, 71012, 71013, 71014, 80999, 97999, 114999] hq223 hq223 := gSs.rf xq223.1
                  refine gy_s 3 (pc' := 7) (L' := [some (.ref x), some (.int ((zi b) + zi 1))]) (S' := []) (L2 := [some (.ref x), some (.int (zi (b + 1)))]) (S2 := []) rfl (by simp only [zi_add, zi_sub, zi_mul, zi_neg, zi_and1, zi_and7, zi_and15, zi_and31, zi_and255]) (by simp only [zi_add, zi_sub, zi_mul, zi_neg, zi_and1, zi_and7, zi_and15, zi_and31, zi_and255]) ?_
                  have hl241 : 1024 ≤ hq223.2.2.2.1 bv ∧ hq223.2.2.2.1 bv ≤ 1000000 := gJ.rowl (G := gGG) sS240.1 t227 rfl
                  have hl242 : 1024 ≤ hq223.2.2.2.1 cq179_0 ∧ hq223.2.2.2.1 cq179_0 ≤ 1000000 := gJ.rowl (G := gGG) sS240.1 t229 rfl
                  have hl243 : 1024 ≤ hq223.2.2.2.1 cq223_0 ∧ hq223.2.2.2.1 cq223_0 ≤ 1000000 := gJ.rowl (G := gGG) sS240.1 tcq223_0 rfl
                  have G244 : gSg [114] [] [56000, 56001, 56002, 56003, 71012, 71013, 71014, 80999, 97999, 114999] ty h tyq223 hq223 := gSg.ss G224 sS240 (by decide)
                  exact gz_wk (ihlp11 tyq223 hq223 cq223_0 (b + 1) fq223_0 fq223_1 (gms lp11m (by omega) (by omega)) G244 uq239 t225 t226 ecq223_0 tcq223_0 ⟨by omega, by omega⟩ ⟨by omega, by omega⟩ ⟨by omega, by omega⟩ (by omega) (by omega) (fun hcg9 => by (try have i0 := lp11f5 hcg9); (try have i1 := uq179_2 hcg9); (try have i2 := uq223_2 hcg9); exact ⟨Int.le_antisymm (by omega) (by omega), Int.le_antisymm (by omega) (by omega)⟩) (by omega) (by omega) (by omega) (by omega) (by omega) s231 s232 s233 s234 s235 s236 efq223_0 efq223_1) (gLw.s (gLw.s gLw.z))
          · refine gy_ifF rfl (by decide) (by decide) (by omega) hc131 ?_
            refine gz_s 2 (pc' := 28) (L' := [some (.ref x), some (.int (zi b))]) (S' := [.ref x, .int (zi b)]) rfl ?_
            refine gs_gtk rfl (by decide) rfl sh12.1 lp11c0 rfl rfl lp11k5 ?_
            refine gy_rem rfl (by decide) (by omega) (by omega) ?_
            have hd245 := zm_f (x := b) (y := iv) (by omega) (by omega)
            by_cases hc246 : ¬ (b % iv : Int) = 0
            · refine gy_ifT (pc' := 52) rfl (by decide) (by decide) (by omega) hc246 ?_
              refine gz_s 1 (pc' := 53) (L' := [some (.ref x), some (.int (zi b))]) (S' := [.ref x]) rfl ?_
              refine gs_gtk rfl (by decide) rfl sh12.1 lp11c0 rfl rfl lp11k2 ?_
              by_cases hc247 : ¬ (fr : Int) = 0
              · refine gy_ifT (pc' := 67) rfl (by decide) (by decide) (by omega) hc247 ?_
                refine gz_s 1 (pc' := 68) (L' := [some (.ref x), some (.int (zi b))]) (S' := [.ref x]) rfl ?_
                refine gs_gtk rfl (by decide) rfl sh12.1 lp11c0 rfl rfl lp11k3 ?_
                by_cases hc248 : (tt : Int) ≤ 0
                · refine gy_ifT (pc' := 92) rfl (by decide) (by decide) (by omega) hc248 ?_
                  refine gz_s 1 (pc' := 93) (L' := [some (.ref x), some (.int (zi b))]) (S' := [.ref x]) rfl ?_
                  refine gs_gtk rfl (by decide) rfl sh12.1 lp11c0 rfl rfl lp11k3 ?_
                  refine gy_ifT (pc' := 107) rfl (by decide) (by decide) ⟨by omega, by omega⟩ (by first | (simp [zc]; done) | (simp only [zc]; omega)) ?_
                  refine gy_s 2 (pc' := 7) (L' := [some (.ref x), some (.int ((zi b) + zi 1))]) (S' := []) (L2 := [some (.ref x), some (.int (zi (b + 1)))]) (S2 := []) rfl (by simp only [zi_add, zi_sub, zi_mul, zi_neg, zi_and1, zi_and7, zi_and15, zi_and31, zi_and255]) (by simp only [zi_add, zi_sub, zi_mul, zi_neg, zi_and1, zi_and7, zi_and15, zi_and31, zi_and255]) ?_
                  have hl249 : 1024 ≤ h12.2.2.2.1 bv ∧ h12.2.2.2.1 bv ≤ 1000000 := gJ.rowl (G := gGG) sh12.1 lp11r1 rfl
                  have G250 : gSg [114] [] [56000, 56001, 56002, 56003, 71012, 71013, 71014, 80999, 97999, 114999] ty h ty13 h12 := gSg.ss lp11G sh12 (by decide)
                  exact gz_wk (ihlp11 ty13 h12 bv (b + 1) cv hv (gms lp11m (by omega) (by omega)) G250 lp11u lp11c0 lp11c1 lp11r0 lp11r1 ⟨by omega, by omega⟩ ⟨by omega, by omega⟩ ⟨by omega, by omega⟩ (by omega) (by omega) (fun hcg9 => by (try have i0 := lp11f5 hcg9); exact ⟨Int.le_antisymm (by omega) (by omega), Int.le_antisymm (by omega) (by omega)⟩) (by omega) (by omega) (by omega) (by omega) (by omega) lp11k0 lp11k1 lp11k2 lp11k3 lp11k4 lp11k5 lp11k6 lp11k7) (gLw.s (gLw.s gLw.z))
                · refine gy_ifF rfl (by decide) (by decide) (by omega) hc248 ?_
                  refine gz_s 1 (pc' := 75) (L' := [some (.ref x), some (.int (zi b))]) (S' := [.ref x]) rfl ?_
                  refine gs_get rfl (by decide) rfl sh12.1 lp11c0 rfl rfl rfl (fun z251 ez251 az251 bz251 => ?_)
                  by_cases hc252 : (z251 : Int) ≤ 0
                  · refine gy_ifT (pc' := 92) rfl (by decide) (by decide) (by omega) hc252 ?_
                    refine gz_s 1 (pc' := 93) (L' := [some (.ref x), some (.int (zi b))]) (S' := [.ref x]) rfl ?_
                    refine gs_gtk rfl (by decide) rfl sh12.1 lp11c0 rfl rfl lp11k3 ?_
                    refine gy_ifF rfl (by decide) (by decide) ⟨by omega, by omega⟩ (by first | (simp [zc]; done) | (simp only [zc]; omega)) ?_
                    refine gy_s 4 (pc' := 104) (L' := [some (.ref x), some (.int (zi b))]) (S' := [.int ((zi b) * (zi 64)), .ref x]) (L2 := [some (.ref x), some (.int (zi b))]) (S2 := [.int (zi (b * 64)), .ref x]) rfl (by simp only [zi_add, zi_sub, zi_mul, zi_neg, zi_and1, zi_and7, zi_and15, zi_and31, zi_and255]) (by simp only [zi_add, zi_sub, zi_mul, zi_neg, zi_and1, zi_and7, zi_and15, zi_and31, zi_and255]) ?_
                    have hl253 : h12.2.2.2.1 bv = h12.2.2.2.1 bv := congrFun sh12.2.2.2.2.1 bv
                    refine gz_call rfl (by decide) rfl (by decide) (by decide) (gcal_of rfl rfl rfl (Nat.le_of_ble_eq_true rfl) (gJ.recv (G := gGG) sh12.1 lp11c0 rfl rfl)) (cl_Writer_putOthers _ sh12.1 x lp11c0 (b * 64) ⟨by omega, by omega⟩ sk lp11k0 lp11c1 bv lp11r0 lp11r1 cv lp11k6 ⟨by omega, by omega⟩ hv lp11k7 ⟨by omega, by omega⟩ cg lp11k1 ⟨by omega, by omega⟩ fr lp11k2 ⟨by omega, by omega⟩ tt lp11k3 ⟨by omega, by omega⟩ (by omega) (by omega) (by omega) (by omega) lp11u) (fun q254 _ wq254 => ?_)
                    obtain ⟨pq254, oq254, hq254⟩ := q254
                    obtain ⟨tyq254, xq254, cq254_0, ttq254, fq254_0, fq254_1, ecq254_0, tcq254_0, gq254, efq254_0, afq254_0, bfq254_0, efq254_1, afq254_1, bfq254_1, uq254_0, uq254_1, uq254_2, uq254_3, uq254_4, uq254_5, uq254_6⟩ := wq254
                    dsimp only at uq254_3 uq254_4 uq254_5 uq254_6
                    refine ⟨_, gq254, ?_⟩
                    show gz gPP gGG gcn _ _ 107 [some (.ref x), some (.int (zi b))] [] hq254 _
                    have G255 : gSg [114] [] [56000, 56001, 56002, 56003, 71012, 71013, 71014, 80999, 97999, 114999] ty h tyq254 hq254 := gSg.tr (gSg.ss lp11G sh12 (by decide)) xq254 (by decide) (by decide) (fun x hx => by cases hx)
                    have t256 : tyq254 x = 71 := gSg.typ xq254 sh12.1 lp11c0 rfl
                    have t257 : tyq254 sk = 56 := gSg.typ xq254 sh12.1 lp11c1 rfl
                    have t258 : tyq254 bv = 114 := gSg.typ xq254 sh12.1 lp11r1 rfl
                    have hl259 : hq254.2.2.2.1 bv = h12.2.2.2.1 bv := gSg.len xq254 sh12.1 lp11r1 rfl
                    have s260 := gSg.at xq254 sh12.1 lp11c0 rfl (by decide) lp11k0
                    have s261 := gSg.at xq254 sh12.1 lp11c0 rfl (by decide) lp11k1
                    have s262 := gSg.at xq254 sh12.1 lp11c0 rfl (by decide) lp11k2
                    have s263 := gSg.at xq254 sh12.1 lp11c0 rfl (by decide) lp11k3
                    have s264 := gSg.at xq254 sh12.1 lp11c0 rfl (by decide) lp11k4
                    have s265 := gSg.at xq254 sh12.1 lp11c0 rfl (by decide) lp11k5
                    have s266 := gSg.at xq254 sh12.1 lp11c0 rfl (by decide) ez251
                    have uq267 := gSg.uq xq254 lp11u (by decide)
                    have sS268 : gSs rT 1027 tyq254 [56000, 56001, 56002, 56003, 71012, 71013, 71014, 80999, 97999, 114999] hq254 hq254 := gSs.rf xq254.1
                    refine gy_s 2 (pc' := 7) (L' := [some (.ref x), some (.int ((zi b) + zi 1))]) (S' := []) (L2 := [some (.ref x), some (.int (zi (b + 1)))]) (S2 := []) rfl (by simp only [zi_add, zi_sub, zi_mul, zi_neg, zi_and1, zi_and7, zi_and15, zi_and31, zi_and255]) (by simp only [zi_add, zi_sub, zi_mul, zi_neg, zi_and1, zi_and7, zi_and15, zi_and31, zi_and255]) ?_
                    have hl269 : 1024 ≤ hq254.2.2.2.1 bv ∧ hq254.2.2.2.1 bv ≤ 1000000 := gJ.rowl (G := gGG) sS268.1 t258 rfl
                    have hl270 : 1024 ≤ hq254.2.2.2.1 cq254_0 ∧ hq254.2.2.2.1 cq254_0 ≤ 1000000 := gJ.rowl (G := gGG) sS268.1 tcq254_0 rfl
                    have G271 : gSg [114] [] [56000, 56001, 56002, 56003, 71012, 71013, 71014, 80999, 97999, 114999] ty h tyq254 hq254 := gSg.ss G255 sS268 (by decide)
                    exact gz_wk (ihlp11 tyq254 hq254 cq254_0 (b + 1) fq254_0 fq254_1 (gms lp11m (by omega) (by omega)) G271 uq267 t256 t257 ecq254_0 tcq254_0 ⟨by omega, by omega⟩ ⟨by omega, by omega⟩ ⟨by omega, by omega⟩ (by omega) (by omega) (fun hcg9 => by (try have i0 := lp11f5 hcg9); (try have i1 := uq254_2 hcg9); exact ⟨Int.le_antisymm (by omega) (by omega), Int.le_antisymm (by omega) (by omega)⟩) (by omega) (by omega) (by omega) (by omega) (by omega) s260 s261 s262 s263 s264 s265 efq254_0 efq254_1) (gLw.s (gLw.s gLw.z))
                  · refine gy_ifF rfl (by decide) (by decide) (by omega) hc252 ?_
                    refine gy_s 4 (pc' := 86) (L' := [some (.ref x), some (.int (zi b))]) (S' := [.int ((zi b) * (zi 64)), .ref x]) (L2 := [some (.ref x), some (.int (zi b))]) (S2 := [.int (zi (b * 64)), .ref x]) rfl (by simp only [zi_add, zi_sub, zi_mul, zi_neg, zi_and1, zi_and7, zi_and15, zi_and31, zi_and255]) (by simp only [zi_add, zi_sub, zi_mul, zi_neg, zi_and1, zi_and7, zi_and15, zi_and31, zi_and255]) ?_
                    have hl272 : h12.2.2.2.1 bv = h12.2.2.2.1 bv := congrFun sh12.2.2.2.2.1 bv
                    obtain ⟨z273, ez273, az273, bz273⟩ := gJ.int (k := 10) (G := gGG) sh12.1 lp11c0 rfl rfl rfl
                    refine gz_call rfl (by decide) rfl (by decide) (by decide) (gcal_of rfl rfl rfl (Nat.le_of_ble_eq_true rfl) (gJ.recv (G := gGG) sh12.1 lp11c0 rfl rfl)) (cl_Writer_refineOthers _ sh12.1 x lp11c0 (b * 64) ⟨by omega, by omega⟩ sk lp11k0 lp11c1 bv lp11r0 lp11r1 cv lp11k6 ⟨by omega, by omega⟩ hv lp11k7 ⟨by omega, by omega⟩ cg lp11k1 ⟨by omega, by omega⟩ fr lp11k2 ⟨by omega, by omega⟩ tt lp11k3 ⟨by omega, by omega⟩ z273 ez273 ⟨by omega, by omega⟩ (by omega) (by omega) (by omega) lp11u) (fun q274 _ wq274 => ?_)
                    obtain ⟨pq274, oq274, hq274⟩ := q274
                    obtain ⟨tyq274, xq274, cq274_0, ttq274, fq274_0, fq274_1, ecq274_0, tcq274_0, gq274, efq274_0, afq274_0, bfq274_0, efq274_1, afq274_1, bfq274_1, uq274_0, uq274_1, uq274_2, uq274_3, uq274_4, uq274_5, uq274_6⟩ := wq274
                    dsimp only at uq274_3 uq274_4 uq274_5 uq274_6
                    refine ⟨_, gq274, ?_⟩
                    show gz gPP gGG gcn _ _ 89 [some (.ref x), some (.int (zi b))] [] hq274 _
                    have G275 : gSg [114] [] [56000, 56001, 56002, 56003, 71012, 71013, 71014, 80999, 97999, 114999] ty h tyq274 hq274 := gSg.tr (gSg.ss lp11G sh12 (by decide)) xq274 (by decide) (by decide) (fun x hx => by cases hx)
                    have t276 : tyq274 x = 71 := gSg.typ xq274 sh12.1 lp11c0 rfl
                    have t277 : tyq274 sk = 56 := gSg.typ xq274 sh12.1 lp11c1 rfl
                    have t278 : tyq274 bv = 114 := gSg.typ xq274 sh12.1 lp11r1 rfl
                    have hl279 : hq274.2.2.2.1 bv = h12.2.2.2.1 bv := gSg.len xq274 sh12.1 lp11r1 rfl
                    have s280 := gSg.at xq274 sh12.1 lp11c0 rfl (by decide) lp11k0
                    have s281 := gSg.at xq274 sh12.1 lp11c0 rfl (by decide) lp11k1
                    have s282 := gSg.at xq274 sh12.1 lp11c0 rfl (by decide) lp11k2
                    have s283 := gSg.at xq274 sh12.1 lp11c0 rfl (by decide) lp11k3
                    have s284 := gSg.at xq274 sh12.1 lp11c0 rfl (by decide) lp11k4
                    have s285 := gSg.at xq274 sh12.1 lp11c0 rfl (by decide) lp11k5
                    have s286 := gSg.at xq274 sh12.1 lp11c0 rfl (by decide) ez251
                    have s287 := gSg.at xq274 sh12.1 lp11c0 rfl (by decide) ez273
                    have uq288 := gSg.uq xq274 lp11u (by decide)
                    have sS289 : gSs rT 1027 tyq274 [56000, 56001, 56002, 56003, 71012, 71013, 71014, 80999, 97999, 114999] hq274 hq274 := gSs.rf xq274.1
                    refine gy_s 3 (pc' := 7) (L' := [some (.ref x), some (.int ((zi b) + zi 1))]) (S' := []) (L2 := [some (.ref x), some (.int (zi (b + 1)))]) (S2 := []) rfl (by simp only [zi_add, zi_sub, zi_mul, zi_neg, zi_and1, zi_and7, zi_and15, zi_and31, zi_and255]) (by simp only [zi_add, zi_sub, zi_mul, zi_neg, zi_and1, zi_and7, zi_and15, zi_and31, zi_and255]) ?_
                    have hl290 : 1024 ≤ hq274.2.2.2.1 bv ∧ hq274.2.2.2.1 bv ≤ 1000000 := gJ.rowl (G := gGG) sS289.1 t278 rfl
                    have hl291 : 1024 ≤ hq274.2.2.2.1 cq274_0 ∧ hq274.2.2.2.1 cq274_0 ≤ 1000000 := gJ.rowl (G := gGG) sS289.1 tcq274_0 rfl
                    have G292 : gSg [114] [] [56000, 56001, 56002, 56003, 71012, 71013, 71014, 80999, 97999, 114999] ty h tyq274 hq274 := gSg.ss G275 sS289 (by decide)
                    exact gz_wk (ihlp11 tyq274 hq274 cq274_0 (b + 1) fq274_0 fq274_1 (gms lp11m (by omega) (by omega)) G292 uq288 t276 t277 ecq274_0 tcq274_0 ⟨by omega, by omega⟩ ⟨by omega, by omega⟩ ⟨by omega, by omega⟩ (by omega) (by omega) (fun hcg9 => by (try have i0 := lp11f5 hcg9); (try have i1 := uq274_2 hcg9); exact ⟨Int.le_antisymm (by omega) (by omega), Int.le_antisymm (by omega) (by omega)⟩) (by omega) (by omega) (by omega) (by omega) (by omega) s280 s281 s282 s283 s284 s285 efq274_0 efq274_1) (gLw.s (gLw.s gLw.z))
              · refine gy_ifF rfl (by decide) (by decide) (by omega) hc247 ?_
                refine gy_s 4 (pc' := 64) (L' := [some (.ref x), some (.int (zi b))]) (S' := [.int ((zi b) * (zi 64)), .ref x]) (L2 := [some (.ref x), some (.int (zi b))]) (S2 := [.int (zi (b * 64)), .ref x]) rfl (by simp only [zi_add, zi_sub, zi_mul, zi_neg, zi_and1, zi_and7, zi_and15, zi_and31, zi_and255]) (by simp only [zi_add, zi_sub, zi_mul, zi_neg, zi_and1, zi_and7, zi_and15, zi_and31, zi_and255]) ?_
                have hl293 : h12.2.2.2.1 bv = h12.2.2.2.1 bv := congrFun sh12.2.2.2.2.1 bv
                refine gz_call rfl (by decide) rfl (by decide) (by decide) (gcal_of rfl rfl rfl (Nat.le_of_ble_eq_true rfl) (gJ.recv (G := gGG) sh12.1 lp11c0 rfl rfl)) (cl_Writer_putFirst _ sh12.1 x lp11c0 (b * 64) ⟨by omega, by omega⟩ sk lp11k0 lp11c1 bv lp11r0 lp11r1 cv lp11k6 ⟨by omega, by omega⟩ hv lp11k7 ⟨by omega, by omega⟩ cg lp11k1 ⟨by omega, by omega⟩ (by omega) (by omega) lp11u) (fun q294 _ wq294 => ?_)
                obtain ⟨pq294, oq294, hq294⟩ := q294
                obtain ⟨tyq294, xq294, cq294_0, ttq294, fq294_0, fq294_1, ecq294_0, tcq294_0, gq294, efq294_0, afq294_0, bfq294_0, efq294_1, afq294_1, bfq294_1, uq294_0, uq294_1, uq294_2, uq294_3, uq294_4, uq294_5, uq294_6⟩ := wq294
                dsimp only at uq294_3 uq294_4 uq294_5 uq294_6
                refine ⟨_, gq294, ?_⟩
                show gz gPP gGG gcn _ _ 67 [some (.ref x), some (.int (zi b))] [] hq294 _
                have G295 : gSg [114] [] [56000, 56001, 56002, 56003, 71012, 71013, 71014, 80999, 97999, 114999] ty h tyq294 hq294 := gSg.tr (gSg.ss lp11G sh12 (by decide)) xq294 (by decide) (by decide) (fun x hx => by cases hx)
                have t296 : tyq294 x = 71 := gSg.typ xq294 sh12.1 lp11c0 rfl
                have t297 : tyq294 sk = 56 := gSg.typ xq294 sh12.1 lp11c1 rfl
                have t298 : tyq294 bv = 114 := gSg.typ xq294 sh12.1 lp11r1 rfl
                have hl299 : hq294.2.2.2.1 bv = h12.2.2.2.1 bv := gSg.len xq294 sh12.1 lp11r1 rfl
                have s300 := gSg.at xq294 sh12.1 lp11c0 rfl (by decide) lp11k0
                have s301 := gSg.at xq294 sh12.1 lp11c0 rfl (by decide) lp11k1
                have s302 := gSg.at xq294 sh12.1 lp11c0 rfl (by decide) lp11k2
                have s303 := gSg.at xq294 sh12.1 lp11c0 rfl (by decide) lp11k3
                have s304 := gSg.at xq294 sh12.1 lp11c0 rfl (by decide) lp11k4
                have s305 := gSg.at xq294 sh12.1 lp11c0 rfl (by decide) lp11k5
                have uq306 := gSg.uq xq294 lp11u (by decide)
                have sS307 : gSs rT 1027 tyq294 [56000, 56001, 56002, 56003, 71012, 71013, 71014, 80999, 97999, 114999] hq294 hq294 := gSs.rf xq294.1
                refine gz_s 1 (pc' := 68) (L' := [some (.ref x), some (.int (zi b))]) (S' := [.ref x]) rfl ?_
                refine gs_gtk rfl (by decide) rfl sS307.1 t296 rfl rfl s303 ?_
                by_cases hc308 : (tt : Int) ≤ 0
                · refine gy_ifT (pc' := 92) rfl (by decide) (by decide) (by omega) hc308 ?_
                  refine gz_s 1 (pc' := 93) (L' := [some (.ref x), some (.int (zi b))]) (S' := [.ref x]) rfl ?_
                  refine gs_gtk rfl (by decide) rfl sS307.1 t296 rfl rfl s303 ?_
                  refine gy_ifT (pc' := 107) rfl (by decide) (by decide) ⟨by omega, by omega⟩ (by first | (simp [zc]; done) | (simp only [zc]; omega)) ?_
                  refine gy_s 2 (pc' := 7) (L' := [some (.ref x), some (.int ((zi b) + zi 1))]) (S' := []) (L2 := [some (.ref x), some (.int (zi (b + 1)))]) (S2 := []) rfl (by simp only [zi_add, zi_sub, zi_mul, zi_neg, zi_and1, zi_and7, zi_and15, zi_and31, zi_and255]) (by simp only [zi_add, zi_sub, zi_mul, zi_neg, zi_and1, zi_and7, zi_and15, zi_and31, zi_and255]) ?_
                  have hl309 : 1024 ≤ hq294.2.2.2.1 bv ∧ hq294.2.2.2.1 bv ≤ 1000000 := gJ.rowl (G := gGG) sS307.1 t298 rfl
                  have hl310 : 1024 ≤ hq294.2.2.2.1 cq294_0 ∧ hq294.2.2.2.1 cq294_0 ≤ 1000000 := gJ.rowl (G := gGG) sS307.1 tcq294_0 rfl
                  have G311 : gSg [114] [] [56000, 56001, 56002, 56003, 71012, 71013, 71014, 80999, 97999, 114999] ty h tyq294 hq294 := gSg.ss G295 sS307 (by decide)
                  exact gz_wk (ihlp11 tyq294 hq294 cq294_0 (b + 1) fq294_0 fq294_1 (gms lp11m (by omega) (by omega)) G311 uq306 t296 t297 ecq294_0 tcq294_0 ⟨by omega, by omega⟩ ⟨by omega, by omega⟩ ⟨by omega, by omega⟩ (by omega) (by omega) (fun hcg9 => by (try have i0 := lp11f5 hcg9); (try have i1 := uq294_2 hcg9); exact ⟨Int.le_antisymm (by omega) (by omega), Int.le_antisymm (by omega) (by omega)⟩) (by omega) (by omega) (by omega) (by omega) (by omega) s300 s301 s302 s303 s304 s305 efq294_0 efq294_1) (gLw.s (gLw.s gLw.z))
                · refine gy_ifF rfl (by decide) (by decide) (by omega) hc308 ?_
                  refine gz_s 1 (pc' := 75) (L' := [some (.ref x), some (.int (zi b))]) (S' := [.ref x]) rfl ?_
                  refine gs_get rfl (by decide) rfl sS307.1 t296 rfl rfl rfl (fun z312 ez312 az312 bz312 => ?_)
                  by_cases hc313 : (z312 : Int) ≤ 0
                  · refine gy_ifT (pc' := 92) rfl (by decide) (by decide) (by omega) hc313 ?_
                    refine gz_s 1 (pc' := 93) (L' := [some (.ref x), some (.int (zi b))]) (S' := [.ref x]) rfl ?_
                    refine gs_gtk rfl (by decide) rfl sS307.1 t296 rfl rfl s303 ?_
                    refine gy_ifF rfl (by decide) (by decide) ⟨by omega, by omega⟩ (by first | (simp [zc]; done) | (simp only [zc]; omega)) ?_
                    refine gy_s 4 (pc' := 104) (L' := [some (.ref x), some (.int (zi b))]) (S' := [.int ((zi b) * (zi 64)), .ref x]) (L2 := [some (.ref x), some (.int (zi b))]) (S2 := [.int (zi (b * 64)), .ref x]) rfl (by simp only [zi_add, zi_sub, zi_mul, zi_neg, zi_and1, zi_and7, zi_and15, zi_and31, zi_and255]) (by simp only [zi_add, zi_sub, zi_mul, zi_neg, zi_and1, zi_and7, zi_and15, zi_and31, zi_and255]) ?_
                    have hl314 : hq294.2.2.2.1 cq294_0 = hq294.2.2.2.1 cq294_0 := congrFun sS307.2.2.2.2.1 cq294_0
                    refine gz_call rfl (by decide) rfl (by decide) (by decide) (gcal_of rfl rfl rfl (Nat.le_of_ble_eq_true rfl) (gJ.recv (G := gGG) sS307.1 t296 rfl rfl)) (cl_Writer_putOthers _ sS307.1 x t296 (b * 64) ⟨by omega, by omega⟩ sk s300 t297 cq294_0 ecq294_0 tcq294_0 fq294_0 efq294_0 ⟨by omega, by omega⟩ fq294_1 efq294_1 ⟨by omega, by omega⟩ cg s301 ⟨by omega, by omega⟩ fr s302 ⟨by omega, by omega⟩ tt s303 ⟨by omega, by omega⟩ (by omega) (by omega) (by omega) (by omega) uq306) (fun q315 _ wq315 => ?_)
                    obtain ⟨pq315, oq315, hq315⟩ := q315
                    obtain ⟨tyq315, xq315, cq315_0, ttq315, fq315_0, fq315_1, ecq315_0, tcq315_0, gq315, efq315_0, afq315_0, bfq315_0, efq315_1, afq315_1, bfq315_1, uq315_0, uq315_1, uq315_2, uq315_3, uq315_4, uq315_5, uq315_6⟩ := wq315
                    dsimp only at uq315_3 uq315_4 uq315_5 uq315_6
                    refine ⟨_, gq315, ?_⟩
                    show gz gPP gGG gcn _ _ 107 [some (.ref x), some (.int (zi b))] [] hq315 _
                    have G316 : gSg [114] [] [56000, 56001, 56002, 56003, 71012, 71013, 71014, 80999, 97999, 114999] ty h tyq315 hq315 := gSg.tr (gSg.ss G295 sS307 (by decide)) xq315 (by decide) (by decide) (fun x hx => by cases hx)
                    have t317 : tyq315 x = 71 := gSg.typ xq315 sS307.1 t296 rfl
                    have t318 : tyq315 sk = 56 := gSg.typ xq315 sS307.1 t297 rfl
                    have t319 : tyq315 bv = 114 := gSg.typ xq315 sS307.1 t298 rfl
                    have hl320 : hq315.2.2.2.1 bv = hq294.2.2.2.1 bv := gSg.len xq315 sS307.1 t298 rfl
                    have t321 : tyq315 cq294_0 = 114 := gSg.typ xq315 sS307.1 tcq294_0 rfl
                    have hl322 : hq315.2.2.2.1 cq294_0 = hq294.2.2.2.1 cq294_0 := gSg.len xq315 sS307.1 tcq294_0 rfl
                    have s323 := gSg.at xq315 sS307.1 t296 rfl (by decide) s300
                    have s324 := gSg.at xq315 sS307.1 t296 rfl (by decide) s301
                    have s325 := gSg.at xq315 sS307.1 t296 rfl (by decide) s302
                    have s326 := gSg.at xq315 sS307.1 t296 rfl (by decide) s303
                    have s327 := gSg.at xq315 sS307.1 t296 rfl (by decide) s304
                    have s328 := gSg.at xq315 sS307.1 t296 rfl (by decide) s305
                    have s329 := gSg.at xq315 sS307.1 t296 rfl (by decide) ez312
                    have uq330 := gSg.uq xq315 uq306 (by decide)
                    have sS331 : gSs rT 1027 tyq315 [56000, 56001, 56002, 56003, 71012, 71013, 71014, 80999, 97999, 114999] hq315 hq315 := gSs.rf xq315.1
                    refine gy_s 2 (pc' := 7) (L' := [some (.ref x), some (.int ((zi b) + zi 1))]) (S' := []) (L2 := [some (.ref x), some (.int (zi (b + 1)))]) (S2 := []) rfl (by simp only [zi_add, zi_sub, zi_mul, zi_neg, zi_and1, zi_and7, zi_and15, zi_and31, zi_and255]) (by simp only [zi_add, zi_sub, zi_mul, zi_neg, zi_and1, zi_and7, zi_and15, zi_and31, zi_and255]) ?_
                    have hl332 : 1024 ≤ hq315.2.2.2.1 bv ∧ hq315.2.2.2.1 bv ≤ 1000000 := gJ.rowl (G := gGG) sS331.1 t319 rfl
                    have hl333 : 1024 ≤ hq315.2.2.2.1 cq294_0 ∧ hq315.2.2.2.1 cq294_0 ≤ 1000000 := gJ.rowl (G := gGG) sS331.1 t321 rfl
                    have hl334 : 1024 ≤ hq315.2.2.2.1 cq315_0 ∧ hq315.2.2.2.1 cq315_0 ≤ 1000000 := gJ.rowl (G := gGG) sS331.1 tcq315_0 rfl
                    have G335 : gSg [114] [] [56000, 56001, 56002, 56003, 71012, 71013, 71014, 80999, 97999, 114999] ty h tyq315 hq315 := gSg.ss G316 sS331 (by decide)
                    exact gz_wk (ihlp11 tyq315 hq315 cq315_0 (b + 1) fq315_0 fq315_1 (gms lp11m (by omega) (by omega)) G335 uq330 t317 t318 ecq315_0 tcq315_0 ⟨by omega, by omega⟩ ⟨by omega, by omega⟩ ⟨by omega, by omega⟩ (by omega) (by omega) (fun hcg9 => by (try have i0 := lp11f5 hcg9); (try have i1 := uq294_2 hcg9); (try have i2 := uq315_2 hcg9); exact ⟨Int.le_antisymm (by omega) (by omega), Int.le_antisymm (by omega) (by omega)⟩) (by omega) (by omega) (by omega) (by omega) (by omega) s323 s324 s325 s326 s327 s328 efq315_0 efq315_1) (gLw.s (gLw.s gLw.z))
                  · refine gy_ifF rfl (by decide) (by decide) (by omega) hc313 ?_
                    refine gy_s 4 (pc' := 86) (L' := [some (.ref x), some (.int (zi b))]) (S' := [.int ((zi b) * (zi 64)), .ref x]) (L2 := [some (.ref x), some (.int (zi b))]) (S2 := [.int (zi (b * 64)), .ref x]) rfl (by simp only [zi_add, zi_sub, zi_mul, zi_neg, zi_and1, zi_and7, zi_and15, zi_and31, zi_and255]) (by simp only [zi_add, zi_sub, zi_mul, zi_neg, zi_and1, zi_and7, zi_and15, zi_and31, zi_and255]) ?_
                    have hl336 : hq294.2.2.2.1 cq294_0 = hq294.2.2.2.1 cq294_0 := congrFun sS307.2.2.2.2.1 cq294_0
                    obtain ⟨z337, ez337, az337, bz337⟩ := gJ.int (k := 10) (G := gGG) sS307.1 t296 rfl rfl rfl
                    refine gz_call rfl (by decide) rfl (by decide) (by decide) (gcal_of rfl rfl rfl (Nat.le_of_ble_eq_true rfl) (gJ.recv (G := gGG) sS307.1 t296 rfl rfl)) (cl_Writer_refineOthers _ sS307.1 x t296 (b * 64) ⟨by omega, by omega⟩ sk s300 t297 cq294_0 ecq294_0 tcq294_0 fq294_0 efq294_0 ⟨by omega, by omega⟩ fq294_1 efq294_1 ⟨by omega, by omega⟩ cg s301 ⟨by omega, by omega⟩ fr s302 ⟨by omega, by omega⟩ tt s303 ⟨by omega, by omega⟩ z337 ez337 ⟨by omega, by omega⟩ (by omega) (by omega) (by omega) uq306) (fun q338 _ wq338 => ?_)
                    obtain ⟨pq338, oq338, hq338⟩ := q338
                    obtain ⟨tyq338, xq338, cq338_0, ttq338, fq338_0, fq338_1, ecq338_0, tcq338_0, gq338, efq338_0, afq338_0, bfq338_0, efq338_1, afq338_1, bfq338_1, uq338_0, uq338_1, uq338_2, uq338_3, uq338_4, uq338_5, uq338_6⟩ := wq338
                    dsimp only at uq338_3 uq338_4 uq338_5 uq338_6
                    refine ⟨_, gq338, ?_⟩
                    show gz gPP gGG gcn _ _ 89 [some (.ref x), some (.int (zi b))] [] hq338 _
                    have G339 : gSg [114] [] [56000, 56001, 56002, 56003, 71012, 71013, 71014, 80999, 97999, 114999] ty h tyq338 hq338 := gSg.tr (gSg.ss G295 sS307 (by decide)) xq338 (by decide) (by decide) (fun x hx => by cases hx)
                    have t340 : tyq338 x = 71 := gSg.typ xq338 sS307.1 t296 rfl
                    have t341 : tyq338 sk = 56 := gSg.typ xq338 sS307.1 t297 rfl
                    have t342 : tyq338 bv = 114 := gSg.typ xq338 sS307.1 t298 rfl
                    have hl343 : hq338.2.2.2.1 bv = hq294.2.2.2.1 bv := gSg.len xq338 sS307.1 t298 rfl
                    have t344 : tyq338 cq294_0 = 114 := gSg.typ xq338 sS307.1 tcq294_0 rfl
                    have hl345 : hq338.2.2.2.1 cq294_0 = hq294.2.2.2.1 cq294_0 := gSg.len xq338 sS307.1 tcq294_0 rfl
                    have s346 := gSg.at xq338 sS307.1 t296 rfl (by decide) s300
                    have s347 := gSg.at xq338 sS307.1 t296 rfl (by decide) s301
                    have s348 := gSg.at xq338 sS307.1 t296 rfl (by decide) s302
                    have s349 := gSg.at xq338 sS307.1 t296 rfl (by decide) s303
                    have s350 := gSg.at xq338 sS307.1 t296 rfl (by decide) s304
                    have s351 := gSg.at xq338 sS307.1 t296 rfl (by decide) s305
                    have s352 := gSg.at xq338 sS307.1 t296 rfl (by decide) ez312
                    have s353 := gSg.at xq338 sS307.1 t296 rfl (by decide) ez337
                    have uq354 := gSg.uq xq338 uq306 (by decide)
                    have sS355 : gSs rT 1027 tyq338 [56000, 56001, 56002, 56003, 71012, 71013, 71014, 80999, 97999, 114999] hq338 hq338 := gSs.rf xq338.1
                    refine gy_s 3 (pc' := 7) (L' := [some (.ref x), some (.int ((zi b) + zi 1))]) (S' := []) (L2 := [some (.ref x), some (.int (zi (b + 1)))]) (S2 := []) rfl (by simp only [zi_add, zi_sub, zi_mul, zi_neg, zi_and1, zi_and7, zi_and15, zi_and31, zi_and255]) (by simp only [zi_add, zi_sub, zi_mul, zi_neg, zi_and1, zi_and7, zi_and15, zi_and31, zi_and255]) ?_
                    have hl356 : 1024 ≤ hq338.2.2.2.1 bv ∧ hq338.2.2.2.1 bv ≤ 1000000 := gJ.rowl (G := gGG) sS355.1 t342 rfl
                    have hl357 : 1024 ≤ hq338.2.2.2.1 cq294_0 ∧ hq338.2.2.2.1 cq294_0 ≤ 1000000 := gJ.rowl (G := gGG) sS355.1 t344 rfl
                    have hl358 : 1024 ≤ hq338.2.2.2.1 cq338_0 ∧ hq338.2.2.2.1 cq338_0 ≤ 1000000 := gJ.rowl (G := gGG) sS355.1 tcq338_0 rfl
                    have G359 : gSg [114] [] [56000, 56001, 56002, 56003, 71012, 71013, 71014, 80999, 97999, 114999] ty h tyq338 hq338 := gSg.ss G339 sS355 (by decide)
                    exact gz_wk (ihlp11 tyq338 hq338 cq338_0 (b + 1) fq338_0 fq338_1 (gms lp11m (by omega) (by omega)) G359 uq354 t340 t341 ecq338_0 tcq338_0 ⟨by omega, by omega⟩ ⟨by omega, by omega⟩ ⟨by omega, by omega⟩ (by omega) (by omega) (fun hcg9 => by (try have i0 := lp11f5 hcg9); (try have i1 := uq294_2 hcg9); (try have i2 := uq338_2 hcg9); exact ⟨Int.le_antisymm (by omega) (by omega), Int.le_antisymm (by omega) (by omega)⟩) (by omega) (by omega) (by omega) (by omega) (by omega) s346 s347 s348 s349 s350 s351 efq338_0 efq338_1) (gLw.s (gLw.s gLw.z))
            · refine gy_ifF rfl (by decide) (by decide) (by omega) hc246 ?_
              refine gz_s 2 (pc' := 37) (L' := [some (.ref x), some (.int (zi b))]) (S' := [.int (zi 0), .ref x]) rfl ?_
              refine gs_put rfl (by decide) rfl sh12 lp11c0 rfl rfl rfl rfl (Or.inl rfl) (by decide) (by omega) (by omega) (fun h360 sh360 eh360 fh360 => ?_)
              have s361 := (fh360 x 0 (fun q => absurd q.2 (by decide))).trans lp11k0
              have s362 := (fh360 x 11 (fun q => absurd q.2 (by decide))).trans lp11k1
              have s363 := (fh360 x 7 (fun q => absurd q.2 (by decide))).trans lp11k2
              have s364 := (fh360 x 8 (fun q => absurd q.2 (by decide))).trans lp11k3
              have s365 := (fh360 x 5 (fun q => absurd q.2 (by decide))).trans lp11k4
              have s366 := (fh360 x 6 (fun q => absurd q.2 (by decide))).trans lp11k5
              have s367 := (fh360 sk 1 (fun q => absurd q.2 (by decide))).trans lp11k6
              have s368 := (fh360 sk 3 (fun q => absurd q.2 (by decide))).trans lp11k7
              have s369 := (fh360 sk 0 (fun q => absurd q.2 (by decide))).trans lp11r0
              refine gz_s 3 (pc' := 43) (L' := [some (.ref x), some (.int (zi b))]) (S' := [.ref x, .int (zi b), .ref x]) rfl ?_
              refine gs_gtk rfl (by decide) rfl sh360.1 lp11c0 rfl rfl s366 ?_
              refine gy_div rfl (by decide) (by omega) (by omega) ?_
              have hd370 := zd_f (x := b) (y := iv) (by omega) (by omega)
              refine gy_s 2 (pc' := 49) (L' := [some (.ref x), some (.int (zi b))]) (S' := [.int ((zi (b / iv)) - (zi 1)), .ref x]) (L2 := [some (.ref x), some (.int (zi b))]) (S2 := [.int (zi ((b / iv) - 1)), .ref x]) rfl (by simp only [zi_add, zi_sub, zi_mul, zi_neg, zi_and1, zi_and7, zi_and15, zi_and31, zi_and255]) (by simp only [zi_add, zi_sub, zi_mul, zi_neg, zi_and1, zi_and7, zi_and15, zi_and31, zi_and255]) ?_
              have k371 := sh360.2.1
              have k371b := sh360.2.2.1
              have hl372 : h360.2.2.2.1 bv = h12.2.2.2.1 bv := congrFun sh360.2.2.2.2.1 bv
              have hl373 : h360.2.2.2.1 bv = h12.2.2.2.1 bv := congrFun sh360.2.2.2.2.1 bv
              refine gz_call rfl (by decide) rfl (by decide) (by decide) (gcal_of rfl rfl rfl (Nat.le_of_ble_eq_true rfl) (gJ.recv (G := gGG) sh360.1 lp11c0 rfl rfl)) (cl_Writer_putRestart _ sh360.1 x lp11c0 ((b / iv) - 1) ⟨by omega, by omega⟩ sk s361 lp11c1 bv s369 lp11r1 cv s367 ⟨by omega, by omega⟩ hv s368 ⟨by omega, by omega⟩ cg s362 ⟨by omega, by omega⟩ (by omega) (by omega) lp11u) (fun q374 _ wq374 => ?_)
              obtain ⟨pq374, oq374, hq374⟩ := q374
              obtain ⟨tyq374, xq374, cq374_0, ttq374, fq374_0, fq374_1, ecq374_0, tcq374_0, gq374, efq374_0, afq374_0, bfq374_0, efq374_1, afq374_1, bfq374_1, uq374_0, uq374_1, uq374_2, uq374_3, uq374_4, uq374_5, uq374_6⟩ := wq374
              dsimp only at uq374_3 uq374_4 uq374_5 uq374_6
              refine ⟨_, gq374, ?_⟩
              show gz gPP gGG gcn _ _ 52 [some (.ref x), some (.int (zi b))] [] hq374 _
              have G375 : gSg [114] [] [56000, 56001, 56002, 56003, 71012, 71013, 71014, 80999, 97999, 114999] ty h tyq374 hq374 := gSg.tr (gSg.ss lp11G sh360 (by decide)) xq374 (by decide) (by decide) (fun x hx => by cases hx)
              have t376 : tyq374 x = 71 := gSg.typ xq374 sh360.1 lp11c0 rfl
              have t377 : tyq374 sk = 56 := gSg.typ xq374 sh360.1 lp11c1 rfl
              have t378 : tyq374 bv = 114 := gSg.typ xq374 sh360.1 lp11r1 rfl
              have hl379 : hq374.2.2.2.1 bv = h360.2.2.2.1 bv := gSg.len xq374 sh360.1 lp11r1 rfl
              have s380 := gSg.at xq374 sh360.1 lp11c0 rfl (by decide) s361
              have s381 := gSg.at xq374 sh360.1 lp11c0 rfl (by decide) s362
              have s382 := gSg.at xq374 sh360.1 lp11c0 rfl (by decide) s363
              have s383 := gSg.at xq374 sh360.1 lp11c0 rfl (by decide) s364
              have s384 := gSg.at xq374 sh360.1 lp11c0 rfl (by decide) s365
              have s385 := gSg.at xq374 sh360.1 lp11c0 rfl (by decide) s366
              have s386 := gSg.at xq374 sh360.1 lp11c0 rfl (by decide) eh360
              have uq387 := gSg.uq xq374 lp11u (by decide)
              have sS388 : gSs rT 1027 tyq374 [56000, 56001, 56002, 56003, 71012, 71013, 71014, 80999, 97999, 114999] hq374 hq374 := gSs.rf xq374.1
              refine gz_s 1 (pc' := 53) (L' := [some (.ref x), some (.int (zi b))]) (S' := [.ref x]) rfl ?_
              refine gs_gtk rfl (by decide) rfl sS388.1 t376 rfl rfl s382 ?_
              by_cases hc389 : ¬ (fr : Int) = 0
              · refine gy_ifT (pc' := 67) rfl (by decide) (by decide) (by omega) hc389 ?_
                refine gz_s 1 (pc' := 68) (L' := [some (.ref x), some (.int (zi b))]) (S' := [.ref x]) rfl ?_
                refine gs_gtk rfl (by decide) rfl sS388.1 t376 rfl rfl s383 ?_
                by_cases hc390 : (tt : Int) ≤ 0
                · refine gy_ifT (pc' := 92) rfl (by decide) (by decide) (by omega) hc390 ?_
                  refine gz_s 1 (pc' := 93) (L' := [some (.ref x), some (.int (zi b))]) (S' := [.ref x]) rfl ?_
                  refine gs_gtk rfl (by decide) rfl sS388.1 t376 rfl rfl s383 ?_
                  refine gy_ifT (pc' := 107) rfl (by decide) (by decide) ⟨by omega, by omega⟩ (by first | (simp [zc]; done) | (simp only [zc]; omega)) ?_
                  refine gy_s 2 (pc' := 7) (L' := [some (.ref x), some (.int ((zi b) + zi 1))]) (S' := []) (L2 := [some (.ref x), some (.int (zi (b + 1)))]) (S2 := []) rfl (by simp only [zi_add, zi_sub, zi_mul, zi_neg, zi_and1, zi_and7, zi_and15, zi_and31, zi_and255]) (by simp only [zi_add, zi_sub, zi_mul, zi_neg, zi_and1, zi_and7, zi_and15, zi_and31, zi_and255]) ?_
                  have hl391 : 1024 ≤ hq374.2.2.2.1 bv ∧ hq374.2.2.2.1 bv ≤ 1000000 := gJ.rowl (G := gGG) sS388.1 t378 rfl
                  have hl392 : 1024 ≤ hq374.2.2.2.1 cq374_0 ∧ hq374.2.2.2.1 cq374_0 ≤ 1000000 := gJ.rowl (G := gGG) sS388.1 tcq374_0 rfl
                  have G393 : gSg [114] [] [56000, 56001, 56002, 56003, 71012, 71013, 71014, 80999, 97999, 114999] ty h tyq374 hq374 := gSg.ss G375 sS388 (by decide)
                  exact gz_wk (ihlp11 tyq374 hq374 cq374_0 (b + 1) fq374_0 fq374_1 (gms lp11m (by omega) (by omega)) G393 uq387 t376 t377 ecq374_0 tcq374_0 ⟨by omega, by omega⟩ ⟨by omega, by omega⟩ ⟨by omega, by omega⟩ (by omega) (by omega) (fun hcg9 => by (try have i0 := lp11f5 hcg9); (try have i1 := uq374_2 hcg9); exact ⟨Int.le_antisymm (by omega) (by omega), Int.le_antisymm (by omega) (by omega)⟩) (by omega) (by omega) (by omega) (by omega) (by omega) s380 s381 s382 s383 s384 s385 efq374_0 efq374_1) (gLw.s (gLw.s gLw.z))
                · refine gy_ifF rfl (by decide) (by decide) (by omega) hc390 ?_
                  refine gz_s 1 (pc' := 75) (L' := [some (.ref x), some (.int (zi b))]) (S' := [.ref x]) rfl ?_
                  refine gs_get rfl (by decide) rfl sS388.1 t376 rfl rfl rfl (fun z394 ez394 az394 bz394 => ?_)
                  by_cases hc395 : (z394 : Int) ≤ 0
                  · refine gy_ifT (pc' := 92) rfl (by decide) (by decide) (by omega) hc395 ?_
                    refine gz_s 1 (pc' := 93) (L' := [some (.ref x), some (.int (zi b))]) (S' := [.ref x]) rfl ?_
                    refine gs_gtk rfl (by decide) rfl sS388.1 t376 rfl rfl s383 ?_
                    refine gy_ifF rfl (by decide) (by decide) ⟨by omega, by omega⟩ (by first | (simp [zc]; done) | (simp only [zc]; omega)) ?_
                    refine gy_s 4 (pc' := 104) (L' := [some (.ref x), some (.int (zi b))]) (S' := [.int ((zi b) * (zi 64)), .ref x]) (L2 := [some (.ref x), some (.int (zi b))]) (S2 := [.int (zi (b * 64)), .ref x]) rfl (by simp only [zi_add, zi_sub, zi_mul, zi_neg, zi_and1, zi_and7, zi_and15, zi_and31, zi_and255]) (by simp only [zi_add, zi_sub, zi_mul, zi_neg, zi_and1, zi_and7, zi_and15, zi_and31, zi_and255]) ?_
                    have hl396 : hq374.2.2.2.1 cq374_0 = hq374.2.2.2.1 cq374_0 := congrFun sS388.2.2.2.2.1 cq374_0
                    refine gz_call rfl (by decide) rfl (by decide) (by decide) (gcal_of rfl rfl rfl (Nat.le_of_ble_eq_true rfl) (gJ.recv (G := gGG) sS388.1 t376 rfl rfl)) (cl_Writer_putOthers _ sS388.1 x t376 (b * 64) ⟨by omega, by omega⟩ sk s380 t377 cq374_0 ecq374_0 tcq374_0 fq374_0 efq374_0 ⟨by omega, by omega⟩ fq374_1 efq374_1 ⟨by omega, by omega⟩ cg s381 ⟨by omega, by omega⟩ fr s382 ⟨by omega, by omega⟩ tt s383 ⟨by omega, by omega⟩ (by omega) (by omega) (by omega) (by omega) uq387) (fun q397 _ wq397 => ?_)
                    obtain ⟨pq397, oq397, hq397⟩ := q397
                    obtain ⟨tyq397, xq397, cq397_0, ttq397, fq397_0, fq397_1, ecq397_0, tcq397_0, gq397, efq397_0, afq397_0, bfq397_0, efq397_1, afq397_1, bfq397_1, uq397_0, uq397_1, uq397_2, uq397_3, uq397_4, uq397_5, uq397_6⟩ := wq397
                    dsimp only at uq397_3 uq397_4 uq397_5 uq397_6
                    refine ⟨_, gq397, ?_⟩
                    show gz gPP gGG gcn _ _ 107 [some (.ref x), some (.int (zi b))] [] hq397 _
                    have G398 : gSg [114] [] [56000, 56001, 56002, 56003, 71012, 71013, 71014, 80999, 97999, 114999] ty h tyq397 hq397 := gSg.tr (gSg.ss G375 sS388 (by decide)) xq397 (by decide) (by decide) (fun x hx => by cases hx)
                    have t399 : tyq397 x = 71 := gSg.typ xq397 sS388.1 t376 rfl
                    have t400 : tyq397 sk = 56 := gSg.typ xq397 sS388.1 t377 rfl
                    have t401 : tyq397 bv = 114 := gSg.typ xq397 sS388.1 t378 rfl
                    have hl402 : hq397.2.2.2.1 bv = hq374.2.2.2.1 bv := gSg.len xq397 sS388.1 t378 rfl
                    have t403 : tyq397 cq374_0 = 114 := gSg.typ xq397 sS388.1 tcq374_0 rfl
                    have hl404 : hq397.2.2.2.1 cq374_0 = hq374.2.2.2.1 cq374_0 := gSg.len xq397 sS388.1 tcq374_0 rfl
                    have s405 := gSg.at xq397 sS388.1 t376 rfl (by decide) s380
                    have s406 := gSg.at xq397 sS388.1 t376 rfl (by decide) s381
                    have s407 := gSg.at xq397 sS388.1 t376 rfl (by decide) s382
                    have s408 := gSg.at xq397 sS388.1 t376 rfl (by decide) s383
                    have s409 := gSg.at xq397 sS388.1 t376 rfl (by decide) s384
                    have s410 := gSg.at xq397 sS388.1 t376 rfl (by decide) s385
                    have s411 := gSg.at xq397 sS388.1 t376 rfl (by decide) s386
                    have s412 := gSg.at xq397 sS388.1 t376 rfl (by decide) ez394
                    have uq413 := gSg.uq xq397 uq387 (by decide)
                    have sS414 : gSs rT 1027 tyq397 [56000, 56001, 56002, 56003, 71012, 71013, 71014, 80999, 97999, 114999] hq397 hq397 := gSs.rf xq397.1
                    refine gy_s 2 (pc' := 7) (L' := [some (.ref x), some (.int ((zi b) + zi 1))]) (S' := []) (L2 := [some (.ref x), some (.int (zi (b + 1)))]) (S2 := []) rfl (by simp only [zi_add, zi_sub, zi_mul, zi_neg, zi_and1, zi_and7, zi_and15, zi_and31, zi_and255]) (by simp only [zi_add, zi_sub, zi_mul, zi_neg, zi_and1, zi_and7, zi_and15, zi_and31, zi_and255]) ?_
                    have hl415 : 1024 ≤ hq397.2.2.2.1 bv ∧ hq397.2.2.2.1 bv ≤ 1000000 := gJ.rowl (G := gGG) sS414.1 t401 rfl
                    have hl416 : 1024 ≤ hq397.2.2.2.1 cq374_0 ∧ hq397.2.2.2.1 cq374_0 ≤ 1000000 := gJ.rowl (G := gGG) sS414.1 t403 rfl
                    have hl417 : 1024 ≤ hq397.2.2.2.1 cq397_0 ∧ hq397.2.2.2.1 cq397_0 ≤ 1000000 := gJ.rowl (G := gGG) sS414.1 tcq397_0 rfl
                    have G418 : gSg [114] [] [56000, 56001, 56002, 56003, 71012, 71013, 71014, 80999, 97999, 114999] ty h tyq397 hq397 := gSg.ss G398 sS414 (by decide)
                    exact gz_wk (ihlp11 tyq397 hq397 cq397_0 (b + 1) fq397_0 fq397_1 (gms lp11m (by omega) (by omega)) G418 uq413 t399 t400 ecq397_0 tcq397_0 ⟨by omega, by omega⟩ ⟨by omega, by omega⟩ ⟨by omega, by omega⟩ (by omega) (by omega) (fun hcg9 => by (try have i0 := lp11f5 hcg9); (try have i1 := uq374_2 hcg9); (try have i2 := uq397_2 hcg9); exact ⟨Int.le_antisymm (by omega) (by omega), Int.le_antisymm (by omega) (by omega)⟩) (by omega) (by omega) (by omega) (by omega) (by omega) s405 s406 s407 s408 s409 s410 efq397_0 efq397_1) (gLw.s (gLw.s gLw.z))
                  · refine gy_ifF rfl (by decide) (by decide) (by omega) hc395 ?_
                    refine gy_s 4 (pc' := 86) (L' := [some (.ref x), some (.int (zi b))]) (S' := [.int ((zi b) * (zi 64)), .ref x]) (L2 := [some (.ref x), some (.int (zi b))]) (S2 := [.int (zi (b * 64)), .ref x]) rfl (by simp only [zi_add, zi_sub, zi_mul, zi_neg, zi_and1, zi_and7, zi_and15, zi_and31, zi_and255]) (by simp only [zi_add, zi_sub, zi_mul, zi_neg, zi_and1, zi_and7, zi_and15, zi_and31, zi_and255]) ?_
                    have hl419 : hq374.2.2.2.1 cq374_0 = hq374.2.2.2.1 cq374_0 := congrFun sS388.2.2.2.2.1 cq374_0
                    obtain ⟨z420, ez420, az420, bz420⟩ := gJ.int (k := 10) (G := gGG) sS388.1 t376 rfl rfl rfl
                    refine gz_call rfl (by decide) rfl (by decide) (by decide) (gcal_of rfl rfl rfl (Nat.le_of_ble_eq_true rfl) (gJ.recv (G := gGG) sS388.1 t376 rfl rfl)) (cl_Writer_refineOthers _ sS388.1 x t376 (b * 64) ⟨by omega, by omega⟩ sk s380 t377 cq374_0 ecq374_0 tcq374_0 fq374_0 efq374_0 ⟨by omega, by omega⟩ fq374_1 efq374_1 ⟨by omega, by omega⟩ cg s381 ⟨by omega, by omega⟩ fr s382 ⟨by omega, by omega⟩ tt s383 ⟨by omega, by omega⟩ z420 ez420 ⟨by omega, by omega⟩ (by omega) (by omega) (by omega) uq387) (fun q421 _ wq421 => ?_)
                    obtain ⟨pq421, oq421, hq421⟩ := q421
                    obtain ⟨tyq421, xq421, cq421_0, ttq421, fq421_0, fq421_1, ecq421_0, tcq421_0, gq421, efq421_0, afq421_0, bfq421_0, efq421_1, afq421_1, bfq421_1, uq421_0, uq421_1, uq421_2, uq421_3, uq421_4, uq421_5, uq421_6⟩ := wq421
                    dsimp only at uq421_3 uq421_4 uq421_5 uq421_6
                    refine ⟨_, gq421, ?_⟩
                    show gz gPP gGG gcn _ _ 89 [some (.ref x), some (.int (zi b))] [] hq421 _
                    have G422 : gSg [114] [] [56000, 56001, 56002, 56003, 71012, 71013, 71014, 80999, 97999, 114999] ty h tyq421 hq421 := gSg.tr (gSg.ss G375 sS388 (by decide)) xq421 (by decide) (by decide) (fun x hx => by cases hx)
                    have t423 : tyq421 x = 71 := gSg.typ xq421 sS388.1 t376 rfl
                    have t424 : tyq421 sk = 56 := gSg.typ xq421 sS388.1 t377 rfl
                    have t425 : tyq421 bv = 114 := gSg.typ xq421 sS388.1 t378 rfl
                    have hl426 : hq421.2.2.2.1 bv = hq374.2.2.2.1 bv := gSg.len xq421 sS388.1 t378 rfl
                    have t427 : tyq421 cq374_0 = 114 := gSg.typ xq421 sS388.1 tcq374_0 rfl
                    have hl428 : hq421.2.2.2.1 cq374_0 = hq374.2.2.2.1 cq374_0 := gSg.len xq421 sS388.1 tcq374_0 rfl
                    have s429 := gSg.at xq421 sS388.1 t376 rfl (by decide) s380
                    have s430 := gSg.at xq421 sS388.1 t376 rfl (by decide) s381
                    have s431 := gSg.at xq421 sS388.1 t376 rfl (by decide) s382
                    have s432 := gSg.at xq421 sS388.1 t376 rfl (by decide) s383
                    have s433 := gSg.at xq421 sS388.1 t376 rfl (by decide) s384
                    have s434 := gSg.at xq421 sS388.1 t376 rfl (by decide) s385
                    have s435 := gSg.at xq421 sS388.1 t376 rfl (by decide) s386
                    have s436 := gSg.at xq421 sS388.1 t376 rfl (by decide) ez394
                    have s437 := gSg.at xq421 sS388.1 t376 rfl (by decide) ez420
                    have uq438 := gSg.uq xq421 uq387 (by decide)
                    have sS439 : gSs rT 1027 tyq421 [56000, 56001, 56002, 56003, 71012, 71013, 71014, 80999, 97999, 114999] hq421 hq421 := gSs.rf xq421.1
                    refine gy_s 3 (pc' := 7) (L' := [some (.ref x), some (.int ((zi b) + zi 1))]) (S' := []) (L2 := [some (.ref x), some (.int (zi (b + 1)))]) (S2 := []) rfl (by simp only [zi_add, zi_sub, zi_mul, zi_neg, zi_and1, zi_and7, zi_and15, zi_and31, zi_and255]) (by simp only [zi_add, zi_sub, zi_mul, zi_neg, zi_and1, zi_and7, zi_and15, zi_and31, zi_and255]) ?_
                    have hl440 : 1024 ≤ hq421.2.2.2.1 bv ∧ hq421.2.2.2.1 bv ≤ 1000000 := gJ.rowl (G := gGG) sS439.1 t425 rfl
                    have hl441 : 1024 ≤ hq421.2.2.2.1 cq374_0 ∧ hq421.2.2.2.1 cq374_0 ≤ 1000000 := gJ.rowl (G := gGG) sS439.1 t427 rfl
                    have hl442 : 1024 ≤ hq421.2.2.2.1 cq421_0 ∧ hq421.2.2.2.1 cq421_0 ≤ 1000000 := gJ.rowl (G := gGG) sS439.1 tcq421_0 rfl
                    have G443 : gSg [114] [] [56000, 56001, 56002, 56003, 71012, 71013, 71014, 80999, 97999, 114999] ty h tyq421 hq421 := gSg.ss G422 sS439 (by decide)
                    exact gz_wk (ihlp11 tyq421 hq421 cq421_0 (b + 1) fq421_0 fq421_1 (gms lp11m (by omega) (by omega)) G443 uq438 t423 t424 ecq421_0 tcq421_0 ⟨by omega, by omega⟩ ⟨by omega, by omega⟩ ⟨by omega, by omega⟩ (by omega) (by omega) (fun hcg9 => by (try have i0 := lp11f5 hcg9); (try have i1 := uq374_2 hcg9); (try have i2 := uq421_2 hcg9); exact ⟨Int.le_antisymm (by omega) (by omega), Int.le_antisymm (by omega) (by omega)⟩) (by omega) (by omega) (by omega) (by omega) (by omega) s429 s430 s431 s432 s433 s434 efq421_0 efq421_1) (gLw.s (gLw.s gLw.z))
              · refine gy_ifF rfl (by decide) (by decide) (by omega) hc389 ?_
                refine gy_s 4 (pc' := 64) (L' := [some (.ref x), some (.int (zi b))]) (S' := [.int ((zi b) * (zi 64)), .ref x]) (L2 := [some (.ref x), some (.int (zi b))]) (S2 := [.int (zi (b * 64)), .ref x]) rfl (by simp only [zi_add, zi_sub, zi_mul, zi_neg, zi_and1, zi_and7, zi_and15, zi_and31, zi_and255]) (by simp only [zi_add, zi_sub, zi_mul, zi_neg, zi_and1, zi_and7, zi_and15, zi_and31, zi_and255]) ?_
                have hl444 : hq374.2.2.2.1 cq374_0 = hq374.2.2.2.1 cq374_0 := congrFun sS388.2.2.2.2.1 cq374_0
                refine gz_call rfl (by decide) rfl (by decide) (by decide) (gcal_of rfl rfl rfl (Nat.le_of_ble_eq_true rfl) (gJ.recv (G := gGG) sS388.1 t376 rfl rfl)) (cl_Writer_putFirst _ sS388.1 x t376 (b * 64) ⟨by omega, by omega⟩ sk s380 t377 cq374_0 ecq374_0 tcq374_0 fq374_0 efq374_0 ⟨by omega, by omega⟩ fq374_1 efq374_1 ⟨by omega, by omega⟩ cg s381 ⟨by omega, by omega⟩ (by omega) (by omega) uq387) (fun q445 _ wq445 => ?_)
                obtain ⟨pq445, oq445, hq445⟩ := q445
                obtain ⟨tyq445, xq445, cq445_0, ttq445, fq445_0, fq445_1, ecq445_0, tcq445_0, gq445, efq445_0, afq445_0, bfq445_0, efq445_1, afq445_1, bfq445_1, uq445_0, uq445_1, uq445_2, uq445_3, uq445_4, uq445_5, uq445_6⟩ := wq445
                dsimp only at uq445_3 uq445_4 uq445_5 uq445_6
                refine ⟨_, gq445, ?_⟩
                show gz gPP gGG gcn _ _ 67 [some (.ref x), some (.int (zi b))] [] hq445 _
                have G446 : gSg [114] [] [56000, 56001, 56002, 56003, 71012, 71013, 71014, 80999, 97999, 114999] ty h tyq445 hq445 := gSg.tr (gSg.ss G375 sS388 (by decide)) xq445 (by decide) (by decide) (fun x hx => by cases hx)
                have t447 : tyq445 x = 71 := gSg.typ xq445 sS388.1 t376 rfl
                have t448 : tyq445 sk = 56 := gSg.typ xq445 sS388.1 t377 rfl
                have t449 : tyq445 bv = 114 := gSg.typ xq445 sS388.1 t378 rfl
                have hl450 : hq445.2.2.2.1 bv = hq374.2.2.2.1 bv := gSg.len xq445 sS388.1 t378 rfl
                have t451 : tyq445 cq374_0 = 114 := gSg.typ xq445 sS388.1 tcq374_0 rfl
                have hl452 : hq445.2.2.2.1 cq374_0 = hq374.2.2.2.1 cq374_0 := gSg.len xq445 sS388.1 tcq374_0 rfl
                have s453 := gSg.at xq445 sS388.1 t376 rfl (by decide) s380
                have s454 := gSg.at xq445 sS388.1 t376 rfl (by decide) s381
                have s455 := gSg.at xq445 sS388.1 t376 rfl (by decide) s382
                have s456 := gSg.at xq445 sS388.1 t376 rfl (by decide) s383
                have s457 := gSg.at xq445 sS388.1 t376 rfl (by decide) s384
                have s458 := gSg.at xq445 sS388.1 t376 rfl (by decide) s385
                have uq459 := gSg.uq xq445 uq387 (by decide)
                have sS460 : gSs rT 1027 tyq445 [56000, 56001, 56002, 56003, 71012, 71013, 71014, 80999, 97999, 114999] hq445 hq445 := gSs.rf xq445.1
                refine gz_s 1 (pc' := 68) (L' := [some (.ref x), some (.int (zi b))]) (S' := [.ref x]) rfl ?_
                refine gs_gtk rfl (by decide) rfl sS460.1 t447 rfl rfl s456 ?_
                by_cases hc461 : (tt : Int) ≤ 0
                · refine gy_ifT (pc' := 92) rfl (by decide) (by decide) (by omega) hc461 ?_
                  refine gz_s 1 (pc' := 93) (L' := [some (.ref x), some (.int (zi b))]) (S' := [.ref x]) rfl ?_
                  refine gs_gtk rfl (by decide) rfl sS460.1 t447 rfl rfl s456 ?_
                  refine gy_ifT (pc' := 107) rfl (by decide) (by decide) ⟨by omega, by omega⟩ (by first | (simp [zc]; done) | (simp only [zc]; omega)) ?_
                  refine gy_s 2 (pc' := 7) (L' := [some (.ref x), some (.int ((zi b) + zi 1))]) (S' := []) (L2 := [some (.ref x), some (.int (zi (b + 1)))]) (S2 := []) rfl (by simp only [zi_add, zi_sub, zi_mul, zi_neg, zi_and1, zi_and7, zi_and15, zi_and31, zi_and255]) (by simp only [zi_add, zi_sub, zi_mul, zi_neg, zi_and1, zi_and7, zi_and15, zi_and31, zi_and255]) ?_
                  have hl462 : 1024 ≤ hq445.2.2.2.1 bv ∧ hq445.2.2.2.1 bv ≤ 1000000 := gJ.rowl (G := gGG) sS460.1 t449 rfl
                  have hl463 : 1024 ≤ hq445.2.2.2.1 cq374_0 ∧ hq445.2.2.2.1 cq374_0 ≤ 1000000 := gJ.rowl (G := gGG) sS460.1 t451 rfl
                  have hl464 : 1024 ≤ hq445.2.2.2.1 cq445_0 ∧ hq445.2.2.2.1 cq445_0 ≤ 1000000 := gJ.rowl (G := gGG) sS460.1 tcq445_0 rfl
                  have G465 : gSg [114] [] [56000, 56001, 56002, 56003, 71012, 71013, 71014, 80999, 97999, 114999] ty h tyq445 hq445 := gSg.ss G446 sS460 (by decide)
                  exact gz_wk (ihlp11 tyq445 hq445 cq445_0 (b + 1) fq445_0 fq445_1 (gms lp11m (by omega) (by omega)) G465 uq459 t447 t448 ecq445_0 tcq445_0 ⟨by omega, by omega⟩ ⟨by omega, by omega⟩ ⟨by omega, by omega⟩ (by omega) (by omega) (fun hcg9 => by (try have i0 := lp11f5 hcg9); (try have i1 := uq374_2 hcg9); (try have i2 := uq445_2 hcg9); exact ⟨Int.le_antisymm (by omega) (by omega), Int.le_antisymm (by omega) (by omega)⟩) (by omega) (by omega) (by omega) (by omega) (by omega) s453 s454 s455 s456 s457 s458 efq445_0 efq445_1) (gLw.s (gLw.s gLw.z))
                · refine gy_ifF rfl (by decide) (by decide) (by omega) hc461 ?_
                  refine gz_s 1 (pc' := 75) (L' := [some (.ref x), some (.int (zi b))]) (S' := [.ref x]) rfl ?_
                  refine gs_get rfl (by decide) rfl sS460.1 t447 rfl rfl rfl (fun z466 ez466 az466 bz466 => ?_)
                  by_cases hc467 : (z466 : Int) ≤ 0
                  · refine gy_ifT (pc' := 92) rfl (by decide) (by decide) (by omega) hc467 ?_
                    refine gz_s 1 (pc' := 93) (L' := [some (.ref x), some (.int (zi b))]) (S' := [.ref x]) rfl ?_
                    refine gs_gtk rfl (by decide) rfl sS460.1 t447 rfl rfl s456 ?_
                    refine gy_ifF rfl (by decide) (by decide) ⟨by omega, by omega⟩ (by first | (simp [zc]; done) | (simp only [zc]; omega)) ?_
                    refine gy_s 4 (pc' := 104) (L' := [some (.ref x), some (.int (zi b))]) (S' := [.int ((zi b) * (zi 64)), .ref x]) (L2 := [some (.ref x), some (.int (zi b))]) (S2 := [.int (zi (b * 64)), .ref x]) rfl (by simp only [zi_add, zi_sub, zi_mul, zi_neg, zi_and1, zi_and7, zi_and15, zi_and31, zi_and255]) (by simp only [zi_add, zi_sub, zi_mul, zi_neg, zi_and1, zi_and7, zi_and15, zi_and31, zi_and255]) ?_
                    have hl468 : hq445.2.2.2.1 cq445_0 = hq445.2.2.2.1 cq445_0 := congrFun sS460.2.2.2.2.1 cq445_0
                    refine gz_call rfl (by decide) rfl (by decide) (by decide) (gcal_of rfl rfl rfl (Nat.le_of_ble_eq_true rfl) (gJ.recv (G := gGG) sS460.1 t447 rfl rfl)) (cl_Writer_putOthers _ sS460.1 x t447 (b * 64) ⟨by omega, by omega⟩ sk s453 t448 cq445_0 ecq445_0 tcq445_0 fq445_0 efq445_0 ⟨by omega, by omega⟩ fq445_1 efq445_1 ⟨by omega, by omega⟩ cg s454 ⟨by omega, by omega⟩ fr s455 ⟨by omega, by omega⟩ tt s456 ⟨by omega, by omega⟩ (by omega) (by omega) (by omega) (by omega) uq459) (fun q469 _ wq469 => ?_)
                    obtain ⟨pq469, oq469, hq469⟩ := q469
                    obtain ⟨tyq469, xq469, cq469_0, ttq469, fq469_0, fq469_1, ecq469_0, tcq469_0, gq469, efq469_0, afq469_0, bfq469_0, efq469_1, afq469_1, bfq469_1, uq469_0, uq469_1, uq469_2, uq469_3, uq469_4, uq469_5, uq469_6⟩ := wq469
                    dsimp only at uq469_3 uq469_4 uq469_5 uq469_6
                    refine ⟨_, gq469, ?_⟩
                    show gz gPP gGG gcn _ _ 107 [some (.ref x), some (.int (zi b))] [] hq469 _
                    have G470 : gSg [114] [] [56000, 56001, 56002, 56003, 71012, 71013, 71014, 80999, 97999, 114999] ty h tyq469 hq469 := gSg.tr (gSg.ss G446 sS460 (by decide)) xq469 (by decide) (by decide) (fun x hx => by cases hx)
                    have t471 : tyq469 x = 71 := gSg.typ xq469 sS460.1 t447 rfl
                    have t472 : tyq469 sk = 56 := gSg.typ xq469 sS460.1 t448 rfl
                    have t473 : tyq469 bv = 114 := gSg.typ xq469 sS460.1 t449 rfl
                    have hl474 : hq469.2.2.2.1 bv = hq445.2.2.2.1 bv := gSg.len xq469 sS460.1 t449 rfl
                    have t475 : tyq469 cq374_0 = 114 := gSg.typ xq469 sS460.1 t451 rfl
                    have hl476 : hq469.2.2.2.1 cq374_0 = hq445.2.2.2.1 cq374_0 := gSg.len xq469 sS460.1 t451 rfl
                    have t477 : tyq469 cq445_0 = 114 := gSg.typ xq469 sS460.1 tcq445_0 rfl
                    have hl478 : hq469.2.2.2.1 cq445_0 = hq445.2.2.2.1 cq445_0 := gSg.len xq469 sS460.1 tcq445_0 rfl
                    have s479 := gSg.at xq469 sS460.1 t447 rfl (by decide) s453
                    have s480 := gSg.at xq469 sS460.1 t447 rfl (by decide) s454
                    have s481 := gSg.at xq469 sS460.1 t447 rfl (by decide) s455
                    have s482 := gSg.at xq469 sS460.1 t447 rfl (by decide) s456
                    have s483 := gSg.at xq469 sS460.1 t447 rfl (by decide) s457
                    have s484 := gSg.at xq469 sS460.1 t447 rfl (by decide) s458
                    have s485 := gSg.at xq469 sS460.1 t447 rfl (by decide) ez466
                    have uq486 := gSg.uq xq469 uq459 (by decide)
                    have sS487 : gSs rT 1027 tyq469 [56000, 56001, 56002, 56003, 71012, 71013, 71014, 80999, 97999, 114999] hq469 hq469 := gSs.rf xq469.1
                    refine gy_s 2 (pc' := 7) (L' := [some (.ref x), some (.int ((zi b) + zi 1))]) (S' := []) (L2 := [some (.ref x), some (.int (zi (b + 1)))]) (S2 := []) rfl (by simp only [zi_add, zi_sub, zi_mul, zi_neg, zi_and1, zi_and7, zi_and15, zi_and31, zi_and255]) (by simp only [zi_add, zi_sub, zi_mul, zi_neg, zi_and1, zi_and7, zi_and15, zi_and31, zi_and255]) ?_
                    have hl488 : 1024 ≤ hq469.2.2.2.1 bv ∧ hq469.2.2.2.1 bv ≤ 1000000 := gJ.rowl (G := gGG) sS487.1 t473 rfl
                    have hl489 : 1024 ≤ hq469.2.2.2.1 cq374_0 ∧ hq469.2.2.2.1 cq374_0 ≤ 1000000 := gJ.rowl (G := gGG) sS487.1 t475 rfl
                    have hl490 : 1024 ≤ hq469.2.2.2.1 cq445_0 ∧ hq469.2.2.2.1 cq445_0 ≤ 1000000 := gJ.rowl (G := gGG) sS487.1 t477 rfl
                    have hl491 : 1024 ≤ hq469.2.2.2.1 cq469_0 ∧ hq469.2.2.2.1 cq469_0 ≤ 1000000 := gJ.rowl (G := gGG) sS487.1 tcq469_0 rfl
                    have G492 : gSg [114] [] [56000, 56001, 56002, 56003, 71012, 71013, 71014, 80999, 97999, 114999] ty h tyq469 hq469 := gSg.ss G470 sS487 (by decide)
                    exact gz_wk (ihlp11 tyq469 hq469 cq469_0 (b + 1) fq469_0 fq469_1 (gms lp11m (by omega) (by omega)) G492 uq486 t471 t472 ecq469_0 tcq469_0 ⟨by omega, by omega⟩ ⟨by omega, by omega⟩ ⟨by omega, by omega⟩ (by omega) (by omega) (fun hcg9 => by (try have i0 := lp11f5 hcg9); (try have i1 := uq374_2 hcg9); (try have i2 := uq445_2 hcg9); (try have i3 := uq469_2 hcg9); exact ⟨Int.le_antisymm (by omega) (by omega), Int.le_antisymm (by omega) (by omega)⟩) (by omega) (by omega) (by omega) (by omega) (by omega) s479 s480 s481 s482 s483 s484 efq469_0 efq469_1) (gLw.s (gLw.s gLw.z))
                  · refine gy_ifF rfl (by decide) (by decide) (by omega) hc467 ?_
                    refine gy_s 4 (pc' := 86) (L' := [some (.ref x), some (.int (zi b))]) (S' := [.int ((zi b) * (zi 64)), .ref x]) (L2 := [some (.ref x), some (.int (zi b))]) (S2 := [.int (zi (b * 64)), .ref x]) rfl (by simp only [zi_add, zi_sub, zi_mul, zi_neg, zi_and1, zi_and7, zi_and15, zi_and31, zi_and255]) (by simp only [zi_add, zi_sub, zi_mul, zi_neg, zi_and1, zi_and7, zi_and15, zi_and31, zi_and255]) ?_
                    have hl493 : hq445.2.2.2.1 cq445_0 = hq445.2.2.2.1 cq445_0 := congrFun sS460.2.2.2.2.1 cq445_0
                    obtain ⟨z494, ez494, az494, bz494⟩ := gJ.int (k := 10) (G := gGG) sS460.1 t447 rfl rfl rfl
                    refine gz_call rfl (by decide) rfl (by decide) (by decide) (gcal_of rfl rfl rfl (Nat.le_of_ble_eq_true rfl) (gJ.recv (G := gGG) sS460.1 t447 rfl rfl)) (cl_Writer_refineOthers _ sS460.1 x t447 (b * 64) ⟨by omega, by omega⟩ sk s453 t448 cq445_0 ecq445_0 tcq445_0 fq445_0 efq445_0 ⟨by omega, by omega⟩ fq445_1 efq445_1 ⟨by omega, by omega⟩ cg s454 ⟨by omega, by omega⟩ fr s455 ⟨by omega, by omega⟩ tt s456 ⟨by omega, by omega⟩ z494 ez494 ⟨by omega, by omega⟩ (by omega) (by omega) (by omega) uq459) (fun q495 _ wq495 => ?_)
                    obtain ⟨pq495, oq495, hq495⟩ := q495
                    obtain ⟨tyq495, xq495, cq495_0, ttq495, fq495_0, fq495_1, ecq495_0, tcq495_0, gq495, efq495_0, afq495_0, bfq495_0, efq495_1, afq495_1, bfq495_1, uq495_0, uq495_1, uq495_2, uq495_3, uq495_4, uq495_5, uq495_6⟩ := wq495
                    dsimp only at uq495_3 uq495_4 uq495_5 uq495_6
                    refine ⟨_, gq495, ?_⟩
                    show gz gPP gGG gcn _ _ 89 [some (.ref x), some (.int (zi b))] [] hq495 _
                    have G496 : gSg [114] [] [56000, 56001, 56002, 56003, 71012, 71013, 71014, 80999, 97999, 114999] ty h tyq495 hq495 := gSg.tr (gSg.ss G446 sS460 (by decide)) xq495 (by decide) (by decide) (fun x hx => by cases hx)
                    have t497 : tyq495 x = 71 := gSg.typ xq495 sS460.1 t447 rfl
                    have t498 : tyq495 sk = 56 := gSg.typ xq495 sS460.1 t448 rfl
                    have t499 : tyq495 bv = 114 := gSg.typ xq495 sS460.1 t449 rfl
                    have hl500 : hq495.2.2.2.1 bv = hq445.2.2.2.1 bv := gSg.len xq495 sS460.1 t449 rfl
                    have t501 : tyq495 cq374_0 = 114 := gSg.typ xq495 sS460.1 t451 rfl
                    have hl502 : hq495.2.2.2.1 cq374_0 = hq445.2.2.2.1 cq374_0 := gSg.len xq495 sS460.1 t451 rfl
                    have t503 : tyq495 cq445_0 = 114 := gSg.typ xq495 sS460.1 tcq445_0 rfl
                    have hl504 : hq495.2.2.2.1 cq445_0 = hq445.2.2.2.1 cq445_0 := gSg.len xq495 sS460.1 tcq445_0 rfl
                    have s505 := gSg.at xq495 sS460.1 t447 rfl (by decide) s453
                    have s506 := gSg.at xq495 sS460.1 t447 rfl (by decide) s454
                    have s507 := gSg.at xq495 sS460.1 t447 rfl (by decide) s455
                    have s508 := gSg.at xq495 sS460.1 t447 rfl (by decide) s456
                    have s509 := gSg.at xq495 sS460.1 t447 rfl (by decide) s457
                    have s510 := gSg.at xq495 sS460.1 t447 rfl (by decide) s458
                    have s511 := gSg.at xq495 sS460.1 t447 rfl (by decide) ez466
                    have s512 := gSg.at xq495 sS460.1 t447 rfl (by decide) ez494
                    have uq513 := gSg.uq xq495 uq459 (by decide)
                    have sS514 : gSs rT 1027 tyq495 [56000, 56001, 56002, 56003, 71012, 71013, 71014, 80999, 97999, 114999] hq495 hq495 := gSs.rf xq495.1
                    refine gy_s 3 (pc' := 7) (L' := [some (.ref x), some (.int ((zi b) + zi 1))]) (S' := []) (L2 := [some (.ref x), some (.int (zi (b + 1)))]) (S2 := []) rfl (by simp only [zi_add, zi_sub, zi_mul, zi_neg, zi_and1, zi_and7, zi_and15, zi_and31, zi_and255]) (by simp only [zi_add, zi_sub, zi_mul, zi_neg, zi_and1, zi_and7, zi_and15, zi_and31, zi_and255]) ?_
                    have hl515 : 1024 ≤ hq495.2.2.2.1 bv ∧ hq495.2.2.2.1 bv ≤ 1000000 := gJ.rowl (G := gGG) sS514.1 t499 rfl
                    have hl516 : 1024 ≤ hq495.2.2.2.1 cq374_0 ∧ hq495.2.2.2.1 cq374_0 ≤ 1000000 := gJ.rowl (G := gGG) sS514.1 t501 rfl
                    have hl517 : 1024 ≤ hq495.2.2.2.1 cq445_0 ∧ hq495.2.2.2.1 cq445_0 ≤ 1000000 := gJ.rowl (G := gGG) sS514.1 t503 rfl
                    have hl518 : 1024 ≤ hq495.2.2.2.1 cq495_0 ∧ hq495.2.2.2.1 cq495_0 ≤ 1000000 := gJ.rowl (G := gGG) sS514.1 tcq495_0 rfl
                    have G519 : gSg [114] [] [56000, 56001, 56002, 56003, 71012, 71013, 71014, 80999, 97999, 114999] ty h tyq495 hq495 := gSg.ss G496 sS514 (by decide)
                    exact gz_wk (ihlp11 tyq495 hq495 cq495_0 (b + 1) fq495_0 fq495_1 (gms lp11m (by omega) (by omega)) G519 uq513 t497 t498 ecq495_0 tcq495_0 ⟨by omega, by omega⟩ ⟨by omega, by omega⟩ ⟨by omega, by omega⟩ (by omega) (by omega) (fun hcg9 => by (try have i0 := lp11f5 hcg9); (try have i1 := uq374_2 hcg9); (try have i2 := uq445_2 hcg9); (try have i3 := uq495_2 hcg9); exact ⟨Int.le_antisymm (by omega) (by omega), Int.le_antisymm (by omega) (by omega)⟩) (by omega) (by omega) (by omega) (by omega) (by omega) s505 s506 s507 s508 s509 s510 efq495_0 efq495_1) (gLw.s (gLw.s gLw.z))
  have hx0 : (0 : Int) * (656 + 320 * (tt - fr)) = 0 := Int.zero_mul _
  have k520 := sh1.2.1
  have k520b := sh1.2.2.1
  have hl521 : h1.2.2.2.1 bt = h.2.2.2.1 bt := congrFun sh1.2.2.2.2.1 bt
  have hl522 : 1024 ≤ h1.2.2.2.1 bt ∧ h1.2.2.2.1 bt ≤ 1000000 := gJ.rowl (G := gGG) sh1.1 tbt rfl
  have G523 : gSg [114] [] [56000, 56001, 56002, 56003, 71012, 71013, 71014, 80999, 97999, 114999] ty h ty h1 := gSg.ss G0 sh1 (by decide)
  exact gz_wk (lp11 _ ty h1 bt 0 c0 h0 (Nat.lt_succ_self _) G523 uq tx tsk s3 tbt ⟨by omega, by omega⟩ ⟨by omega, by omega⟩ ⟨by omega, by omega⟩ (by omega) (by omega) (fun hcg9 => by exact ⟨Int.le_antisymm (by omega) (by omega), Int.le_antisymm (by omega) (by omega)⟩) (by omega) (by omega) (by omega) (by omega) (by omega) s2 s6 s7 s8 s9 s10 s4 s5) (gLw.s (gLw.s gLw.z))
