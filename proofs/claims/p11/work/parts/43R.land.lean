/-! ===== methods of the landed text (by program) ===== -/
set_option maxRecDepth 20000 in
set_option maxHeartbeats 4000000 in
theorem cl_Writer_putBlocks (d : Nat) {ty : Nat → Nat} {h : gH} (hJ : gJ rT 1027 ty h) (x : Nat) (tx : ty x = 71) (sk : Nat) (esk : h.2.2.2.2 x 0 = .ref sk) (tsk : ty sk = 56) (bt : Nat) (ebt : h.2.2.2.2 sk 0 = .ref bt) (tbt : ty bt = 114) (c0 : Int) (ec0 : h.2.2.2.2 sk 1 = .int (zi c0)) (rc0 : 0 ≤ c0 ∧ c0 ≤ 499999) (h0 : Int) (eh0 : h.2.2.2.2 sk 3 = .int (zi h0)) (rh0 : 0 ≤ h0 ∧ h0 ≤ 7) (cg : Int) (ecg : h.2.2.2.2 x 11 = .int (zi cg)) (rcg : 0 ≤ cg ∧ cg ≤ 1) (fr : Int) (efr : h.2.2.2.2 x 7 = .int (zi fr)) (rfr : 0 ≤ fr ∧ fr ≤ 63) (tt : Int) (ett : h.2.2.2.2 x 8 = .int (zi tt)) (rtt : 0 ≤ tt ∧ tt ≤ 63) (bs : Int) (ebs : h.2.2.2.2 x 5 = .int (zi bs)) (rbs : 0 ≤ bs ∧ bs ≤ 16) (iv : Int) (eiv : h.2.2.2.2 x 6 = .int (zi iv)) (riv : 0 ≤ iv ∧ iv ≤ 100) (pp0 : 4 * c0 + h0 + 16 * (656 + 320 * (tt - fr)) ≤ 1997990) (pp1 : fr ≤ tt) (pp2 : c0 ≤ (h.2.2.2.1 bt : Int)) (uq : gUq ty) : gz gPP gGG gcn (d + 6) gt106 0 (gent [.ref x] 2) [] h (fun q _ => ∃ ty9 : Nat → Nat, gSg [114] [] [56000, 56001, 56002, 56003, 71012, 71013, 71014, 80999, 97999, 114999] ty h ty9 q.2.2 ∧ ∃ bt2 : Nat, True ∧ ∃ c1 h1 : Int, q.2.2.2.2.2.2 sk 0 = .ref bt2 ∧ ty9 bt2 = 114 ∧ gfin gt106 q.1 q.2.1 = some none ∧ q.2.2.2.2.2.2 sk 1 = .int (zi c1) ∧ 0 ≤ c1 ∧ c1 ≤ 500000 ∧ q.2.2.2.2.2.2 sk 3 = .int (zi h1) ∧ 0 ≤ h1 ∧ h1 ≤ 7 ∧ (4 * c1 + h1 ≤ 4 * c0 + h0 + 16 * (656 + 320 * (tt - fr))) ∧ (c0 ≤ c1) ∧ (cg = 1 → (c1 = c0 ∧ h1 = h0)) ∧ (1024 * ((q.2.2.1 : Int) - h.1) ≤ (q.2.2.2.2.2.1 bt2 : Int) - h.2.2.2.1 bt) ∧ (((q.2.2.2.1 : Int) - h.2.1) ≤ 2 * ((q.2.2.2.2.2.1 bt2 : Int) - h.2.2.2.1 bt)) ∧ ((h.2.2.2.1 bt : Int) ≤ (q.2.2.2.2.2.1 bt2 : Int)) ∧ (c1 ≤ (q.2.2.2.2.2.1 bt2 : Int))) := by
  have hS : gSs rT 1027 ty [56000, 56001, 56002, 56003, 71012, 71013, 71014, 80999, 97999, 114999] h h := gSs.rf hJ
  have G0 : gSg [114] [] [56000, 56001, 56002, 56003, 71012, 71013, 71014, 80999, 97999, 114999] ty h ty h := gSg.rf hJ (fun x hx => by cases hx)
  refine gz_s 2 (pc' := 2) (L' := [some (.ref x), none]) (S' := [.int (zi 0), .ref x]) rfl ?_
  refine gs_put rfl (by decide) rfl hS tx rfl rfl rfl rfl (Or.inl rfl) (by decide) (by omega) (by omega) (fun h1 sh1 eh1 fh1 => ?_)
  have s2 := (fh1 x 0 (fun q => absurd q.2 (by decide))).trans esk
  have s3 := (fh1 sk 0 (fun q => absurd q.2 (by decide))).trans ebt
  have s4 := (fh1 sk 1 (fun q => absurd q.2 (by decide))).trans ec0
  have s5 := (fh1 sk 3 (fun q => absurd q.2 (by decide))).trans eh0
  have s6 := (fh1 x 11 (fun q => absurd q.2 (by decide))).trans ecg
  have s7 := (fh1 x 7 (fun q => absurd q.2 (by decide))).trans efr
  have s8 := (fh1 x 8 (fun q => absurd q.2 (by decide))).trans ett
  have s9 := (fh1 x 5 (fun q => absurd q.2 (by decide))).trans ebs
  have s10 := (fh1 x 6 (fun q => absurd q.2 (by decide))).trans eiv
  refine gz_s 2 (pc' := 7) (L' := [some (.ref x), some (.int (zi 0))]) (S' := []) rfl ?_
  have lp11 : ∀ (fu : Nat) (ty13 : Nat → Nat) (h12 : gH) (bv : Nat) (b : Int) (cv : Int) (hv : Int), (17 - b).toNat < fu → gSg [114] [] [56000, 56001, 56002, 56003, 71012, 71013, 71014, 80999, 97999, 114999] ty h ty13 h12 → gUq ty13 → ty13 x = 71 → ty13 sk = 56 → h12.2.2.2.2 sk 0 = .ref bv → ty13 bv = 114 → (0 ≤ b ∧ b ≤ 16) → (0 ≤ cv ∧ cv ≤ 499999) → (0 ≤ hv ∧ hv ≤ 7) → (4 * cv + hv ≤ 4 * c0 + h0 + b * (656 + 320 * (tt - fr))) → (c0 ≤ cv) → (cg = 1 → (cv = c0 ∧ hv = h0)) → (b ≤ bs) → (1024 * ((h12.1 : Int) - h.1) ≤ (h12.2.2.2.1 bv : Int) - h.2.2.2.1 bt) → (((h12.2.1 : Int) - h.2.1) ≤ 2 * ((h12.2.2.2.1 bv : Int) - h.2.2.2.1 bt)) → ((h.2.2.2.1 bt : Int) ≤ (h12.2.2.2.1 bv : Int)) → (cv ≤ (h12.2.2.2.1 bv : Int)) → h12.2.2.2.2 x 0 = .ref sk → h12.2.2.2.2 x 11 = .int (zi cg) → h12.2.2.2.2 x 7 = .int (zi fr) → h12.2.2.2.2 x 8 = .int (zi tt) → h12.2.2.2.2 x 5 = .int (zi bs) → h12.2.2.2.2 x 6 = .int (zi iv) → h12.2.2.2.2 sk 1 = .int (zi cv) → h12.2.2.2.2 sk 3 = .int (zi hv) → gz gPP gGG gcn (d + 6) gt106 7 [some (.ref x), some (.int (zi b))] [] h12 (fun q _ => ∃ ty9 : Nat → Nat, gSg [114] [] [56000, 56001, 56002, 56003, 71012, 71013, 71014, 80999, 97999, 114999] ty h ty9 q.2.2 ∧ ∃ bt2 : Nat, True ∧ ∃ c1 h1 : Int, q.2.2.2.2.2.2 sk 0 = .ref bt2 ∧ ty9 bt2 = 114 ∧ gfin gt106 q.1 q.2.1 = some none ∧ q.2.2.2.2.2.2 sk 1 = .int (zi c1) ∧ 0 ≤ c1 ∧ c1 ≤ 500000 ∧ q.2.2.2.2.2.2 sk 3 = .int (zi h1) ∧ 0 ≤ h1 ∧ h1 ≤ 7 ∧ (4 * c1 + h1 ≤ 4 * c0 + h0 + 16 * (656 + 320 * (tt - fr))) ∧ (c0 ≤ c1) ∧ (cg = 1 → (c1 = c0 ∧ h1 = h0)) ∧ (1024 * ((q.2.2.1 : Int) - h.1) ≤ (q.2.2.2.2.2.1 bt2 : Int) - h.2.2.2.1 bt) ∧ (((q.2.2.2.1 : Int) - h.2.1) ≤ 2 * ((q.2.2.2.2.2.1 bt2 : Int) - h.2.2.2.1 bt)) ∧ ((h.2.2.2.1 bt : Int) ≤ (q.2.2.2.2.2.1 bt2 : Int)) ∧ (c1 ≤ (q.2.2.2.2.2.1 bt2 : Int))) := by
    intro fu
    induction fu with
    | zero => intro ty13 h12 bv b cv hv hm; exact absurd hm (Nat.not_lt_zero _)
    | succ fu ihlp11 =>
      intro ty13 h12 bv b cv hv lp11m lp11G lp11u lp11c0 lp11c1 lp11r0 lp11r1 lp11f0 lp11f1 lp11f2 lp11f3 lp11f4 lp11f5 lp11f6 lp11f7 lp11f8 lp11f9 lp11f10 lp11k0 lp11k1 lp11k2 lp11k3 lp11k4 lp11k5 lp11k6 lp11k7
      have sh12 : gSs rT 1027 ty13 [56000, 56001, 56002, 56003, 71012, 71013, 71014, 80999, 97999, 114999] h12 h12 := gSs.rf lp11G.1
      have hx1 : (b + 1) * (656 + 320 * (tt - fr)) = b * (656 + 320 * (tt - fr)) + (656 + 320 * (tt - fr)) := by rw [Int.add_mul, Int.one_mul]
      have hx2 : b * (656 + 320 * (tt - fr)) ≤ 16 * (656 + 320 * (tt - fr)) := Int.mul_le_mul_of_nonneg_right (by omega) (by omega)
      have hx3 : b < bs → (b + 1) * (656 + 320 * (tt - fr)) ≤ 16 * (656 + 320 * (tt - fr)) := fun _ => Int.mul_le_mul_of_nonneg_right (by omega) (by omega)
      refine gz_s 2 (pc' := 9) (L' := [some (.ref x), some (.int (zi b))]) (S' := [.ref x, .int (zi b)]) rfl ?_
      refine gs_gtk rfl (by decide) rfl sh12.1 lp11c0 rfl rfl lp11k4 ?_
      by_cases hc14 : (bs : Int) ≤ b
      · refine gy_icT (pc' := 113) rfl (by decide) (by decide) (by omega) (by omega) hc14 ?_
        have G15 : gSg [114] [] [56000, 56001, 56002, 56003, 71012, 71013, 71014, 80999, 97999, 114999] ty h ty13 h12 := gSg.ss lp11G sh12 (by decide)
        exact gz_end (I := .return_) (len := 1) rfl (Or.inl rfl) ⟨ty13, G15, bv, trivial, cv, hv, lp11r0, lp11r1, rfl, lp11k6, (by omega), (by omega), lp11k7, (by omega), (by omega), (by omega), (by omega), (by omega), (by dsimp only; omega), (by dsimp only; omega), (by dsimp only; omega), (by dsimp only; omega)⟩
      · refine gy_icF rfl (by decide) (by decide) (by omega) (by omega) hc14 ?_
        refine gz_s 1 (pc' := 16) (L' := [some (.ref x), some (.int (zi b))]) (S' := [.ref x]) rfl ?_
        refine gs_gtk rfl (by decide) rfl sh12.1 lp11c0 rfl rfl lp11k5 ?_
        by_cases hc16 : (iv : Int) ≤ 0
        · refine gy_ifT (pc' := 52) rfl (by decide) (by decide) (by omega) hc16 ?_
          refine gz_s 1 (pc' := 53) (L' := [some (.ref x), some (.int (zi b))]) (S' := [.ref x]) rfl ?_
          refine gs_gtk rfl (by decide) rfl sh12.1 lp11c0 rfl rfl lp11k2 ?_
          by_cases hc17 : ¬ (fr : Int) = 0
          · refine gy_ifT (pc' := 67) rfl (by decide) (by decide) (by omega) hc17 ?_
            refine gz_s 1 (pc' := 68) (L' := [some (.ref x), some (.int (zi b))]) (S' := [.ref x]) rfl ?_
            refine gs_gtk rfl (by decide) rfl sh12.1 lp11c0 rfl rfl lp11k3 ?_
            by_cases hc18 : (tt : Int) ≤ 0
            · refine gy_ifT (pc' := 92) rfl (by decide) (by decide) (by omega) hc18 ?_
              refine gz_s 1 (pc' := 93) (L' := [some (.ref x), some (.int (zi b))]) (S' := [.ref x]) rfl ?_
              refine gs_gtk rfl (by decide) rfl sh12.1 lp11c0 rfl rfl lp11k3 ?_
              refine gy_ifT (pc' := 107) rfl (by decide) (by decide) (by omega) (by first | (simp [zc]; done) | (simp only [zc]; omega)) ?_
              refine gy_s 2 (pc' := 7) (L' := [some (.ref x), some (.int ((zi b) + zi 1))]) (S' := []) (L2 := [some (.ref x), some (.int (zi (b + 1)))]) (S2 := []) rfl (by simp only [zi_add, zi_sub, zi_mul, zi_neg, zi_and1, zi_and7, zi_and15, zi_and31, zi_and255]) (by simp only [zi_add, zi_sub, zi_mul, zi_neg, zi_and1, zi_and7, zi_and15, zi_and31, zi_and255]) ?_
              have G19 : gSg [114] [] [56000, 56001, 56002, 56003, 71012, 71013, 71014, 80999, 97999, 114999] ty h ty13 h12 := gSg.ss lp11G sh12 (by decide)
              exact gz_wk (ihlp11 ty13 h12 bv (b + 1) cv hv (by omega) G19 lp11u lp11c0 lp11c1 lp11r0 lp11r1 (by omega) (by omega) (by omega) (by omega) (by omega) (by omega) (by omega) (by omega) (by omega) (by omega) (by omega) lp11k0 lp11k1 lp11k2 lp11k3 lp11k4 lp11k5 lp11k6 lp11k7) (gLw.s (gLw.s gLw.z))
            · refine gy_ifF rfl (by decide) (by decide) (by omega) hc18 ?_
              refine gz_s 1 (pc' := 75) (L' := [some (.ref x), some (.int (zi b))]) (S' := [.ref x]) rfl ?_
              refine gs_get rfl (by decide) rfl sh12.1 lp11c0 rfl rfl rfl (fun z20 ez20 az20 bz20 => ?_)
              by_cases hc21 : (z20 : Int) ≤ 0
              · refine gy_ifT (pc' := 92) rfl (by decide) (by decide) (by omega) hc21 ?_
                refine gz_s 1 (pc' := 93) (L' := [some (.ref x), some (.int (zi b))]) (S' := [.ref x]) rfl ?_
                refine gs_gtk rfl (by decide) rfl sh12.1 lp11c0 rfl rfl lp11k3 ?_
                refine gy_ifF rfl (by decide) (by decide) (by omega) (by first | (simp [zc]; done) | (simp only [zc]; omega)) ?_
                refine gy_s 4 (pc' := 104) (L' := [some (.ref x), some (.int (zi b))]) (S' := [.int ((zi b) * (zi 64)), .ref x]) (L2 := [some (.ref x), some (.int (zi b))]) (S2 := [.int (zi (b * 64)), .ref x]) rfl (by simp only [zi_add, zi_sub, zi_mul, zi_neg, zi_and1, zi_and7, zi_and15, zi_and31, zi_and255]) (by simp only [zi_add, zi_sub, zi_mul, zi_neg, zi_and1, zi_and7, zi_and15, zi_and31, zi_and255]) ?_
                have hl22 : h12.2.2.2.1 bv = h12.2.2.2.1 bv := congrFun sh12.2.2.2.2.1 bv
                refine gz_call rfl (by decide) rfl (by decide) (by decide) (gcal_of rfl rfl rfl (Nat.le_of_ble_eq_true rfl) (gJ.recv (G := gGG) sh12.1 lp11c0 rfl rfl)) (cl_Writer_putOthers _ sh12.1 x lp11c0 (b * 64) (by omega) sk lp11k0 lp11c1 bv lp11r0 lp11r1 cv lp11k6 (by omega) hv lp11k7 (by omega) cg lp11k1 (by omega) fr lp11k2 (by omega) tt lp11k3 (by omega) (by omega) (by omega) (by omega) (by omega) lp11u) (fun q23 _ wq23 => ?_)
                obtain ⟨pq23, oq23, hq23⟩ := q23
                obtain ⟨tyq23, xq23, cq23_0, ttq23, fq23_0, fq23_1, ecq23_0, tcq23_0, gq23, efq23_0, afq23_0, bfq23_0, efq23_1, afq23_1, bfq23_1, uq23_0, uq23_1, uq23_2, uq23_3, uq23_4, uq23_5, uq23_6⟩ := wq23
                dsimp only at uq23_3 uq23_4 uq23_5 uq23_6
                refine ⟨_, gq23, ?_⟩
                show gz gPP gGG gcn _ _ 107 [some (.ref x), some (.int (zi b))] [] hq23 _
                have G24 : gSg [114] [] [56000, 56001, 56002, 56003, 71012, 71013, 71014, 80999, 97999, 114999] ty h tyq23 hq23 := gSg.tr (gSg.ss lp11G sh12 (by decide)) xq23 (by decide) (by decide) (fun x hx => by cases hx)
                have t25 : tyq23 x = 71 := gSg.typ xq23 sh12.1 lp11c0 rfl
                have t26 : tyq23 sk = 56 := gSg.typ xq23 sh12.1 lp11c1 rfl
                have t27 : tyq23 bv = 114 := gSg.typ xq23 sh12.1 lp11r1 rfl
                have hl28 : hq23.2.2.2.1 bv = h12.2.2.2.1 bv := gSg.len xq23 sh12.1 lp11r1 rfl
                have s29 := gSg.at xq23 sh12.1 lp11c0 rfl (by decide) lp11k0
                have s30 := gSg.at xq23 sh12.1 lp11c0 rfl (by decide) lp11k1
                have s31 := gSg.at xq23 sh12.1 lp11c0 rfl (by decide) lp11k2
                have s32 := gSg.at xq23 sh12.1 lp11c0 rfl (by decide) lp11k3
                have s33 := gSg.at xq23 sh12.1 lp11c0 rfl (by decide) lp11k4
                have s34 := gSg.at xq23 sh12.1 lp11c0 rfl (by decide) lp11k5
                have s35 := gSg.at xq23 sh12.1 lp11c0 rfl (by decide) ez20
                have uq36 := gSg.uq xq23 lp11u (by decide)
                have sS37 : gSs rT 1027 tyq23 [56000, 56001, 56002, 56003, 71012, 71013, 71014, 80999, 97999, 114999] hq23 hq23 := gSs.rf xq23.1
                refine gy_s 2 (pc' := 7) (L' := [some (.ref x), some (.int ((zi b) + zi 1))]) (S' := []) (L2 := [some (.ref x), some (.int (zi (b + 1)))]) (S2 := []) rfl (by simp only [zi_add, zi_sub, zi_mul, zi_neg, zi_and1, zi_and7, zi_and15, zi_and31, zi_and255]) (by simp only [zi_add, zi_sub, zi_mul, zi_neg, zi_and1, zi_and7, zi_and15, zi_and31, zi_and255]) ?_
                have G38 : gSg [114] [] [56000, 56001, 56002, 56003, 71012, 71013, 71014, 80999, 97999, 114999] ty h tyq23 hq23 := gSg.ss G24 sS37 (by decide)
                exact gz_wk (ihlp11 tyq23 hq23 cq23_0 (b + 1) fq23_0 fq23_1 (by omega) G38 uq36 t25 t26 ecq23_0 tcq23_0 (by omega) (by omega) (by omega) (by omega) (by omega) (by omega) (by omega) (by omega) (by omega) (by omega) (by omega) s29 s30 s31 s32 s33 s34 efq23_0 efq23_1) (gLw.s (gLw.s gLw.z))
              · refine gy_ifF rfl (by decide) (by decide) (by omega) hc21 ?_
                refine gy_s 4 (pc' := 86) (L' := [some (.ref x), some (.int (zi b))]) (S' := [.int ((zi b) * (zi 64)), .ref x]) (L2 := [some (.ref x), some (.int (zi b))]) (S2 := [.int (zi (b * 64)), .ref x]) rfl (by simp only [zi_add, zi_sub, zi_mul, zi_neg, zi_and1, zi_and7, zi_and15, zi_and31, zi_and255]) (by simp only [zi_add, zi_sub, zi_mul, zi_neg, zi_and1, zi_and7, zi_and15, zi_and31, zi_and255]) ?_
                have hl39 : h12.2.2.2.1 bv = h12.2.2.2.1 bv := congrFun sh12.2.2.2.2.1 bv
                obtain ⟨z40, ez40, az40, bz40⟩ := gJ.int (k := 10) (G := gGG) sh12.1 lp11c0 rfl rfl rfl
                refine gz_call rfl (by decide) rfl (by decide) (by decide) (gcal_of rfl rfl rfl (Nat.le_of_ble_eq_true rfl) (gJ.recv (G := gGG) sh12.1 lp11c0 rfl rfl)) (cl_Writer_refineOthers _ sh12.1 x lp11c0 (b * 64) (by omega) sk lp11k0 lp11c1 bv lp11r0 lp11r1 cv lp11k6 (by omega) hv lp11k7 (by omega) cg lp11k1 (by omega) fr lp11k2 (by omega) tt lp11k3 (by omega) z40 ez40 (by omega) (by omega) (by omega) (by omega) lp11u) (fun q41 _ wq41 => ?_)
                obtain ⟨pq41, oq41, hq41⟩ := q41
                obtain ⟨tyq41, xq41, cq41_0, ttq41, fq41_0, fq41_1, ecq41_0, tcq41_0, gq41, efq41_0, afq41_0, bfq41_0, efq41_1, afq41_1, bfq41_1, uq41_0, uq41_1, uq41_2, uq41_3, uq41_4, uq41_5, uq41_6⟩ := wq41
                dsimp only at uq41_3 uq41_4 uq41_5 uq41_6
                refine ⟨_, gq41, ?_⟩
                show gz gPP gGG gcn _ _ 89 [some (.ref x), some (.int (zi b))] [] hq41 _
                have G42 : gSg [114] [] [56000, 56001, 56002, 56003, 71012, 71013, 71014, 80999, 97999, 114999] ty h tyq41 hq41 := gSg.tr (gSg.ss lp11G sh12 (by decide)) xq41 (by decide) (by decide) (fun x hx => by cases hx)
                have t43 : tyq41 x = 71 := gSg.typ xq41 sh12.1 lp11c0 rfl
                have t44 : tyq41 sk = 56 := gSg.typ xq41 sh12.1 lp11c1 rfl
                have t45 : tyq41 bv = 114 := gSg.typ xq41 sh12.1 lp11r1 rfl
                have hl46 : hq41.2.2.2.1 bv = h12.2.2.2.1 bv := gSg.len xq41 sh12.1 lp11r1 rfl
                have s47 := gSg.at xq41 sh12.1 lp11c0 rfl (by decide) lp11k0
                have s48 := gSg.at xq41 sh12.1 lp11c0 rfl (by decide) lp11k1
                have s49 := gSg.at xq41 sh12.1 lp11c0 rfl (by decide) lp11k2
                have s50 := gSg.at xq41 sh12.1 lp11c0 rfl (by decide) lp11k3
                have s51 := gSg.at xq41 sh12.1 lp11c0 rfl (by decide) lp11k4
                have s52 := gSg.at xq41 sh12.1 lp11c0 rfl (by decide) lp11k5
                have s53 := gSg.at xq41 sh12.1 lp11c0 rfl (by decide) ez20
                have s54 := gSg.at xq41 sh12.1 lp11c0 rfl (by decide) ez40
                have uq55 := gSg.uq xq41 lp11u (by decide)
                have sS56 : gSs rT 1027 tyq41 [56000, 56001, 56002, 56003, 71012, 71013, 71014, 80999, 97999, 114999] hq41 hq41 := gSs.rf xq41.1
                refine gy_s 3 (pc' := 7) (L' := [some (.ref x), some (.int ((zi b) + zi 1))]) (S' := []) (L2 := [some (.ref x), some (.int (zi (b + 1)))]) (S2 := []) rfl (by simp only [zi_add, zi_sub, zi_mul, zi_neg, zi_and1, zi_and7, zi_and15, zi_and31, zi_and255]) (by simp only [zi_add, zi_sub, zi_mul, zi_neg, zi_and1, zi_and7, zi_and15, zi_and31, zi_and255]) ?_
                have G57 : gSg [114] [] [56000, 56001, 56002, 56003, 71012, 71013, 71014, 80999, 97999, 114999] ty h tyq41 hq41 := gSg.ss G42 sS56 (by decide)
                exact gz_wk (ihlp11 tyq41 hq41 cq41_0 (b + 1) fq41_0 fq41_1 (by omega) G57 uq55 t43 t44 ecq41_0 tcq41_0 (by omega) (by omega) (by omega) (by omega) (by omega) (by omega) (by omega) (by omega) (by omega) (by omega) (by omega) s47 s48 s49 s50 s51 s52 efq41_0 efq41_1) (gLw.s (gLw.s gLw.z))
          · refine gy_ifF rfl (by decide) (by decide) (by omega) hc17 ?_
            refine gy_s 4 (pc' := 64) (L' := [some (.ref x), some (.int (zi b))]) (S' := [.int ((zi b) * (zi 64)), .ref x]) (L2 := [some (.ref x), some (.int (zi b))]) (S2 := [.int (zi (b * 64)), .ref x]) rfl (by simp only [zi_add, zi_sub, zi_mul, zi_neg, zi_and1, zi_and7, zi_and15, zi_and31, zi_and255]) (by simp only [zi_add, zi_sub, zi_mul, zi_neg, zi_and1, zi_and7, zi_and15, zi_and31, zi_and255]) ?_
            have hl58 : h12.2.2.2.1 bv = h12.2.2.2.1 bv := congrFun sh12.2.2.2.2.1 bv
            refine gz_call rfl (by decide) rfl (by decide) (by decide) (gcal_of rfl rfl rfl (Nat.le_of_ble_eq_true rfl) (gJ.recv (G := gGG) sh12.1 lp11c0 rfl rfl)) (cl_Writer_putFirst _ sh12.1 x lp11c0 (b * 64) (by omega) sk lp11k0 lp11c1 bv lp11r0 lp11r1 cv lp11k6 (by omega) hv lp11k7 (by omega) cg lp11k1 (by omega) (by omega) (by omega) lp11u) (fun q59 _ wq59 => ?_)
            obtain ⟨pq59, oq59, hq59⟩ := q59
            obtain ⟨tyq59, xq59, cq59_0, ttq59, fq59_0, fq59_1, ecq59_0, tcq59_0, gq59, efq59_0, afq59_0, bfq59_0, efq59_1, afq59_1, bfq59_1, uq59_0, uq59_1, uq59_2, uq59_3, uq59_4, uq59_5, uq59_6⟩ := wq59
            dsimp only at uq59_3 uq59_4 uq59_5 uq59_6
            refine ⟨_, gq59, ?_⟩
            show gz gPP gGG gcn _ _ 67 [some (.ref x), some (.int (zi b))] [] hq59 _
            have G60 : gSg [114] [] [56000, 56001, 56002, 56003, 71012, 71013, 71014, 80999, 97999, 114999] ty h tyq59 hq59 := gSg.tr (gSg.ss lp11G sh12 (by decide)) xq59 (by decide) (by decide) (fun x hx => by cases hx)
            have t61 : tyq59 x = 71 := gSg.typ xq59 sh12.1 lp11c0 rfl
            have t62 : tyq59 sk = 56 := gSg.typ xq59 sh12.1 lp11c1 rfl
            have t63 : tyq59 bv = 114 := gSg.typ xq59 sh12.1 lp11r1 rfl
            have hl64 : hq59.2.2.2.1 bv = h12.2.2.2.1 bv := gSg.len xq59 sh12.1 lp11r1 rfl
            have s65 := gSg.at xq59 sh12.1 lp11c0 rfl (by decide) lp11k0
            have s66 := gSg.at xq59 sh12.1 lp11c0 rfl (by decide) lp11k1
            have s67 := gSg.at xq59 sh12.1 lp11c0 rfl (by decide) lp11k2
            have s68 := gSg.at xq59 sh12.1 lp11c0 rfl (by decide) lp11k3
            have s69 := gSg.at xq59 sh12.1 lp11c0 rfl (by decide) lp11k4
            have s70 := gSg.at xq59 sh12.1 lp11c0 rfl (by decide) lp11k5
            have uq71 := gSg.uq xq59 lp11u (by decide)
            have sS72 : gSs rT 1027 tyq59 [56000, 56001, 56002, 56003, 71012, 71013, 71014, 80999, 97999, 114999] hq59 hq59 := gSs.rf xq59.1
            refine gz_s 1 (pc' := 68) (L' := [some (.ref x), some (.int (zi b))]) (S' := [.ref x]) rfl ?_
            refine gs_gtk rfl (by decide) rfl sS72.1 t61 rfl rfl s68 ?_
            by_cases hc73 : (tt : Int) ≤ 0
            · refine gy_ifT (pc' := 92) rfl (by decide) (by decide) (by omega) hc73 ?_
              refine gz_s 1 (pc' := 93) (L' := [some (.ref x), some (.int (zi b))]) (S' := [.ref x]) rfl ?_
              refine gs_gtk rfl (by decide) rfl sS72.1 t61 rfl rfl s68 ?_
              refine gy_ifT (pc' := 107) rfl (by decide) (by decide) (by omega) (by first | (simp [zc]; done) | (simp only [zc]; omega)) ?_
              refine gy_s 2 (pc' := 7) (L' := [some (.ref x), some (.int ((zi b) + zi 1))]) (S' := []) (L2 := [some (.ref x), some (.int (zi (b + 1)))]) (S2 := []) rfl (by simp only [zi_add, zi_sub, zi_mul, zi_neg, zi_and1, zi_and7, zi_and15, zi_and31, zi_and255]) (by simp only [zi_add, zi_sub, zi_mul, zi_neg, zi_and1, zi_and7, zi_and15, zi_and31, zi_and255]) ?_
              have G74 : gSg [114] [] [56000, 56001, 56002, 56003, 71012, 71013, 71014, 80999, 97999, 114999] ty h tyq59 hq59 := gSg.ss G60 sS72 (by decide)
              exact gz_wk (ihlp11 tyq59 hq59 cq59_0 (b + 1) fq59_0 fq59_1 (by omega) G74 uq71 t61 t62 ecq59_0 tcq59_0 (by omega) (by omega) (by omega) (by omega) (by omega) (by omega) (by omega) (by omega) (by omega) (by omega) (by omega) s65 s66 s67 s68 s69 s70 efq59_0 efq59_1) (gLw.s (gLw.s gLw.z))
            · refine gy_ifF rfl (by decide) (by decide) (by omega) hc73 ?_
              refine gz_s 1 (pc' := 75) (L' := [some (.ref x), some (.int (zi b))]) (S' := [.ref x]) rfl ?_
              refine gs_get rfl (by decide) rfl sS72.1 t61 rfl rfl rfl (fun z75 ez75 az75 bz75 => ?_)
              by_cases hc76 : (z75 : Int) ≤ 0
              · refine gy_ifT (pc' := 92) rfl (by decide) (by decide) (by omega) hc76 ?_
                refine gz_s 1 (pc' := 93) (L' := [some (.ref x), some (.int (zi b))]) (S' := [.ref x]) rfl ?_
                refine gs_gtk rfl (by decide) rfl sS72.1 t61 rfl rfl s68 ?_
                refine gy_ifF rfl (by decide) (by decide) (by omega) (by first | (simp [zc]; done) | (simp only [zc]; omega)) ?_
                refine gy_s 4 (pc' := 104) (L' := [some (.ref x), some (.int (zi b))]) (S' := [.int ((zi b) * (zi 64)), .ref x]) (L2 := [some (.ref x), some (.int (zi b))]) (S2 := [.int (zi (b * 64)), .ref x]) rfl (by simp only [zi_add, zi_sub, zi_mul, zi_neg, zi_and1, zi_and7, zi_and15, zi_and31, zi_and255]) (by simp only [zi_add, zi_sub, zi_mul, zi_neg, zi_and1, zi_and7, zi_and15, zi_and31, zi_and255]) ?_
                have hl77 : hq59.2.2.2.1 cq59_0 = hq59.2.2.2.1 cq59_0 := congrFun sS72.2.2.2.2.1 cq59_0
                refine gz_call rfl (by decide) rfl (by decide) (by decide) (gcal_of rfl rfl rfl (Nat.le_of_ble_eq_true rfl) (gJ.recv (G := gGG) sS72.1 t61 rfl rfl)) (cl_Writer_putOthers _ sS72.1 x t61 (b * 64) (by omega) sk s65 t62 cq59_0 ecq59_0 tcq59_0 fq59_0 efq59_0 (by omega) fq59_1 efq59_1 (by omega) cg s66 (by omega) fr s67 (by omega) tt s68 (by omega) (by omega) (by omega) (by omega) (by omega) uq71) (fun q78 _ wq78 => ?_)
                obtain ⟨pq78, oq78, hq78⟩ := q78
                obtain ⟨tyq78, xq78, cq78_0, ttq78, fq78_0, fq78_1, ecq78_0, tcq78_0, gq78, efq78_0, afq78_0, bfq78_0, efq78_1, afq78_1, bfq78_1, uq78_0, uq78_1, uq78_2, uq78_3, uq78_4, uq78_5, uq78_6⟩ := wq78
                dsimp only at uq78_3 uq78_4 uq78_5 uq78_6
                refine ⟨_, gq78, ?_⟩
                show gz gPP gGG gcn _ _ 107 [some (.ref x), some (.int (zi b))] [] hq78 _
                have G79 : gSg [114] [] [56000, 56001, 56002, 56003, 71012, 71013, 71014, 80999, 97999, 114999] ty h tyq78 hq78 := gSg.tr (gSg.ss G60 sS72 (by decide)) xq78 (by decide) (by decide) (fun x hx => by cases hx)
                have t80 : tyq78 x = 71 := gSg.typ xq78 sS72.1 t61 rfl
                have t81 : tyq78 sk = 56 := gSg.typ xq78 sS72.1 t62 rfl
                have t82 : tyq78 bv = 114 := gSg.typ xq78 sS72.1 t63 rfl
                have hl83 : hq78.2.2.2.1 bv = hq59.2.2.2.1 bv := gSg.len xq78 sS72.1 t63 rfl
                have t84 : tyq78 cq59_0 = 114 := gSg.typ xq78 sS72.1 tcq59_0 rfl
                have hl85 : hq78.2.2.2.1 cq59_0 = hq59.2.2.2.1 cq59_0 := gSg.len xq78 sS72.1 tcq59_0 rfl
                have s86 := gSg.at xq78 sS72.1 t61 rfl (by decide) s65
                have s87 := gSg.at xq78 sS72.1 t61 rfl (by decide) s66
                have s88 := gSg.at xq78 sS72.1 t61 rfl (by decide) s67
                have s89 := gSg.at xq78 sS72.1 t61 rfl (by decide) s68
                have s90 := gSg.at xq78 sS72.1 t61 rfl (by decide) s69
                have s91 := gSg.at xq78 sS72.1 t61 rfl (by decide) s70
                have s92 := gSg.at xq78 sS72.1 t61 rfl (by decide) ez75
                have uq93 := gSg.uq xq78 uq71 (by decide)
                have sS94 : gSs rT 1027 tyq78 [56000, 56001, 56002, 56003, 71012, 71013, 71014, 80999, 97999, 114999] hq78 hq78 := gSs.rf xq78.1
                refine gy_s 2 (pc' := 7) (L' := [some (.ref x), some (.int ((zi b) + zi 1))]) (S' := []) (L2 := [some (.ref x), some (.int (zi (b + 1)))]) (S2 := []) rfl (by simp only [zi_add, zi_sub, zi_mul, zi_neg, zi_and1, zi_and7, zi_and15, zi_and31, zi_and255]) (by simp only [zi_add, zi_sub, zi_mul, zi_neg, zi_and1, zi_and7, zi_and15, zi_and31, zi_and255]) ?_
                have G95 : gSg [114] [] [56000, 56001, 56002, 56003, 71012, 71013, 71014, 80999, 97999, 114999] ty h tyq78 hq78 := gSg.ss G79 sS94 (by decide)
                exact gz_wk (ihlp11 tyq78 hq78 cq78_0 (b + 1) fq78_0 fq78_1 (by omega) G95 uq93 t80 t81 ecq78_0 tcq78_0 (by omega) (by omega) (by omega) (by omega) (by omega) (by omega) (by omega) (by omega) (by omega) (by omega) (by omega) s86 s87 s88 s89 s90 s91 efq78_0 efq78_1) (gLw.s (gLw.s gLw.z))
              · refine gy_ifF rfl (by decide) (by decide) (by omega) hc76 ?_
                refine gy_s 4 (pc' := 86) (L' := [some (.ref x), some (.int (zi b))]) (S' := [.int ((zi b) * (zi 64)), .ref x]) (L2 := [some (.ref x), some (.int (zi b))]) (S2 := [.int (zi (b * 64)), .ref x]) rfl (by simp only [zi_add, zi_sub, zi_mul, zi_neg, zi_and1, zi_and7, zi_and15, zi_and31, zi_and255]) (by simp only [zi_add, zi_sub, zi_mul, zi_neg, zi_and1, zi_and7, zi_and15, zi_and31, zi_and255]) ?_
                have hl96 : hq59.2.2.2.1 cq59_0 = hq59.2.2.2.1 cq59_0 := congrFun sS72.2.2.2.2.1 cq59_0
                obtain ⟨z97, ez97, az97, bz97⟩ := gJ.int (k := 10) (G := gGG) sS72.1 t61 rfl rfl rfl
                refine gz_call rfl (by decide) rfl (by decide) (by decide) (gcal_of rfl rfl rfl (Nat.le_of_ble_eq_true rfl) (gJ.recv (G := gGG) sS72.1 t61 rfl rfl)) (cl_Writer_refineOthers _ sS72.1 x t61 (b * 64) (by omega) sk s65 t62 cq59_0 ecq59_0 tcq59_0 fq59_0 efq59_0 (by omega) fq59_1 efq59_1 (by omega) cg s66 (by omega) fr s67 (by omega) tt s68 (by omega) z97 ez97 (by omega) (by omega) (by omega) (by omega) uq71) (fun q98 _ wq98 => ?_)
                obtain ⟨pq98, oq98, hq98⟩ := q98
                obtain ⟨tyq98, xq98, cq98_0, ttq98, fq98_0, fq98_1, ecq98_0, tcq98_0, gq98, efq98_0, afq98_0, bfq98_0, efq98_1, afq98_1, bfq98_1, uq98_0, uq98_1, uq98_2, uq98_3, uq98_4, uq98_5, uq98_6⟩ := wq98
                dsimp only at uq98_3 uq98_4 uq98_5 uq98_6
                refine ⟨_, gq98, ?_⟩
                show gz gPP gGG gcn _ _ 89 [some (.ref x), some (.int (zi b))] [] hq98 _
                have G99 : gSg [114] [] [56000, 56001, 56002, 56003, 71012, 71013, 71014, 80999, 97999, 114999] ty h tyq98 hq98 := gSg.tr (gSg.ss G60 sS72 (by decide)) xq98 (by decide) (by decide) (fun x hx => by cases hx)
                have t100 : tyq98 x = 71 := gSg.typ xq98 sS72.1 t61 rfl
                have t101 : tyq98 sk = 56 := gSg.typ xq98 sS72.1 t62 rfl
                have t102 : tyq98 bv = 114 := gSg.typ xq98 sS72.1 t63 rfl
                have hl103 : hq98.2.2.2.1 bv = hq59.2.2.2.1 bv := gSg.len xq98 sS72.1 t63 rfl
                have t104 : tyq98 cq59_0 = 114 := gSg.typ xq98 sS72.1 tcq59_0 rfl
                have hl105 : hq98.2.2.2.1 cq59_0 = hq59.2.2.2.1 cq59_0 := gSg.len xq98 sS72.1 tcq59_0 rfl
                have s106 := gSg.at xq98 sS72.1 t61 rfl (by decide) s65
                have s107 := gSg.at xq98 sS72.1 t61 rfl (by decide) s66
                have s108 := gSg.at xq98 sS72.1 t61 rfl (by decide) s67
                have s109 := gSg.at xq98 sS72.1 t61 rfl (by decide) s68
                have s110 := gSg.at xq98 sS72.1 t61 rfl (by decide) s69
                have s111 := gSg.at xq98 sS72.1 t61 rfl (by decide) s70
                have s112 := gSg.at xq98 sS72.1 t61 rfl (by decide) ez75
                have s113 := gSg.at xq98 sS72.1 t61 rfl (by decide) ez97
                have uq114 := gSg.uq xq98 uq71 (by decide)
                have sS115 : gSs rT 1027 tyq98 [56000, 56001, 56002, 56003, 71012, 71013, 71014, 80999, 97999, 114999] hq98 hq98 := gSs.rf xq98.1
                refine gy_s 3 (pc' := 7) (L' := [some (.ref x), some (.int ((zi b) + zi 1))]) (S' := []) (L2 := [some (.ref x), some (.int (zi (b + 1)))]) (S2 := []) rfl (by simp only [zi_add, zi_sub, zi_mul, zi_neg, zi_and1, zi_and7, zi_and15, zi_and31, zi_and255]) (by simp only [zi_add, zi_sub, zi_mul, zi_neg, zi_and1, zi_and7, zi_and15, zi_and31, zi_and255]) ?_
                have G116 : gSg [114] [] [56000, 56001, 56002, 56003, 71012, 71013, 71014, 80999, 97999, 114999] ty h tyq98 hq98 := gSg.ss G99 sS115 (by decide)
                exact gz_wk (ihlp11 tyq98 hq98 cq98_0 (b + 1) fq98_0 fq98_1 (by omega) G116 uq114 t100 t101 ecq98_0 tcq98_0 (by omega) (by omega) (by omega) (by omega) (by omega) (by omega) (by omega) (by omega) (by omega) (by omega) (by omega) s106 s107 s108 s109 s110 s111 efq98_0 efq98_1) (gLw.s (gLw.s gLw.z))
        · refine gy_ifF rfl (by decide) (by decide) (by omega) hc16 ?_
          refine gz_s 1 (pc' := 23) (L' := [some (.ref x), some (.int (zi b))]) (S' := [.int (zi b)]) rfl ?_
          by_cases hc117 : (b : Int) ≤ 0
          · refine gy_ifT (pc' := 52) rfl (by decide) (by decide) (by omega) hc117 ?_
            refine gz_s 1 (pc' := 53) (L' := [some (.ref x), some (.int (zi b))]) (S' := [.ref x]) rfl ?_
            refine gs_gtk rfl (by decide) rfl sh12.1 lp11c0 rfl rfl lp11k2 ?_
            by_cases hc118 : ¬ (fr : Int) = 0
            · refine gy_ifT (pc' := 67) rfl (by decide) (by decide) (by omega) hc118 ?_
              refine gz_s 1 (pc' := 68) (L' := [some (.ref x), some (.int (zi b))]) (S' := [.ref x]) rfl ?_
              refine gs_gtk rfl (by decide) rfl sh12.1 lp11c0 rfl rfl lp11k3 ?_
              by_cases hc119 : (tt : Int) ≤ 0
              · refine gy_ifT (pc' := 92) rfl (by decide) (by decide) (by omega) hc119 ?_
                refine gz_s 1 (pc' := 93) (L' := [some (.ref x), some (.int (zi b))]) (S' := [.ref x]) rfl ?_
                refine gs_gtk rfl (by decide) rfl sh12.1 lp11c0 rfl rfl lp11k3 ?_
                refine gy_ifT (pc' := 107) rfl (by decide) (by decide) (by omega) (by first | (simp [zc]; done) | (simp only [zc]; omega)) ?_
                refine gy_s 2 (pc' := 7) (L' := [some (.ref x), some (.int ((zi b) + zi 1))]) (S' := []) (L2 := [some (.ref x), some (.int (zi (b + 1)))]) (S2 := []) rfl (by simp only [zi_add, zi_sub, zi_mul, zi_neg, zi_and1, zi_and7, zi_and15, zi_and31, zi_and255]) (by simp only [zi_add, zi_sub, zi_mul, zi_neg, zi_and1, zi_and7, zi_and15, zi_and31, zi_and255]) ?_
                have G120 : gSg [114] [] [56000, 56001, 56002, 56003, 71012, 71013, 71014, 80999, 97999, 114999] ty h ty13 h12 := gSg.ss lp11G sh12 (by decide)
                exact gz_wk (ihlp11 ty13 h12 bv (b + 1) cv hv (by omega) G120 lp11u lp11c0 lp11c1 lp11r0 lp11r1 (by omega) (by omega) (by omega) (by omega) (by omega) (by omega) (by omega) (by omega) (by omega) (by omega) (by omega) lp11k0 lp11k1 lp11k2 lp11k3 lp11k4 lp11k5 lp11k6 lp11k7) (gLw.s (gLw.s gLw.z))
              · refine gy_ifF rfl (by decide) (by decide) (by omega) hc119 ?_
                refine gz_s 1 (pc' := 75) (L' := [some (.ref x), some (.int (zi b))]) (S' := [.ref x]) rfl ?_
                refine gs_get rfl (by decide) rfl sh12.1 lp11c0 rfl rfl rfl (fun z121 ez121 az121 bz121 => ?_)
                by_cases hc122 : (z121 : Int) ≤ 0
                · refine gy_ifT (pc' := 92) rfl (by decide) (by decide) (by omega) hc122 ?_
                  refine gz_s 1 (pc' := 93) (L' := [some (.ref x), some (.int (zi b))]) (S' := [.ref x]) rfl ?_
                  refine gs_gtk rfl (by decide) rfl sh12.1 lp11c0 rfl rfl lp11k3 ?_
                  refine gy_ifF rfl (by decide) (by decide) (by omega) (by first | (simp [zc]; done) | (simp only [zc]; omega)) ?_
                  refine gy_s 4 (pc' := 104) (L' := [some (.ref x), some (.int (zi b))]) (S' := [.int ((zi b) * (zi 64)), .ref x]) (L2 := [some (.ref x), some (.int (zi b))]) (S2 := [.int (zi (b * 64)), .ref x]) rfl (by simp only [zi_add, zi_sub, zi_mul, zi_neg, zi_and1, zi_and7, zi_and15, zi_and31, zi_and255]) (by simp only [zi_add, zi_sub, zi_mul, zi_neg, zi_and1, zi_and7, zi_and15, zi_and31, zi_and255]) ?_
                  have hl123 : h12.2.2.2.1 bv = h12.2.2.2.1 bv := congrFun sh12.2.2.2.2.1 bv
                  refine gz_call rfl (by decide) rfl (by decide) (by decide) (gcal_of rfl rfl rfl (Nat.le_of_ble_eq_true rfl) (gJ.recv (G := gGG) sh12.1 lp11c0 rfl rfl)) (cl_Writer_putOthers _ sh12.1 x lp11c0 (b * 64) (by omega) sk lp11k0 lp11c1 bv lp11r0 lp11r1 cv lp11k6 (by omega) hv lp11k7 (by omega) cg lp11k1 (by omega) fr lp11k2 (by omega) tt lp11k3 (by omega) (by omega) (by omega) (by omega) (by omega) lp11u) (fun q124 _ wq124 => ?_)
                  obtain ⟨pq124, oq124, hq124⟩ := q124
                  obtain ⟨tyq124, xq124, cq124_0, ttq124, fq124_0, fq124_1, ecq124_0, tcq124_0, gq124, efq124_0, afq124_0, bfq124_0, efq124_1, afq124_1, bfq124_1, uq124_0, uq124_1, uq124_2, uq124_3, uq124_4, uq124_5, uq124_6⟩ := wq124
                  dsimp only at uq124_3 uq124_4 uq124_5 uq124_6
                  refine ⟨_, gq124, ?_⟩
                  show gz gPP gGG gcn _ _ 107 [some (.ref x), some (.int (zi b))] [] hq124 _
                  have G125 : gSg [114] [] [56000, 56001, 56002, 56003, 71012, 71013, 71014, 80999, 97999, 114999] ty h tyq124 hq124 := gSg.tr (gSg.ss lp11G sh12 (by decide)) xq124 (by decide) (by decide) (fun x hx => by cases hx)
                  have t126 : tyq124 x = 71 := gSg.typ xq124 sh12.1 lp11c0 rfl
                  have t127 : tyq124 sk = 56 := gSg.typ xq124 sh12.1 lp11c1 rfl
                  have t128 : tyq124 bv = 114 := gSg.typ xq124 sh12.1 lp11r1 rfl
                  have hl129 : hq124.2.2.2.1 bv = h12.2.2.2.1 bv := gSg.len xq124 sh12.1 lp11r1 rfl
                  have s130 := gSg.at xq124 sh12.1 lp11c0 rfl (by decide) lp11k0
                  have s131 := gSg.at xq124 sh12.1 lp11c0 rfl (by decide) lp11k1
                  have s132 := gSg.at xq124 sh12.1 lp11c0 rfl (by decide) lp11k2
                  have s133 := gSg.at xq124 sh12.1 lp11c0 rfl (by decide) lp11k3
                  have s134 := gSg.at xq124 sh12.1 lp11c0 rfl (by decide) lp11k4
                  have s135 := gSg.at xq124 sh12.1 lp11c0 rfl (by decide) lp11k5
                  have s136 := gSg.at xq124 sh12.1 lp11c0 rfl (by decide) ez121
                  have uq137 := gSg.uq xq124 lp11u (by decide)
                  have sS138 : gSs rT 1027 tyq124 [56000, 56001, 56002, 56003, 71012, 71013, 71014, 80999, 97999, 114999] hq124 hq124 := gSs.rf xq124.1
                  refine gy_s 2 (pc' := 7) (L' := [some (.ref x), some (.int ((zi b) + zi 1))]) (S' := []) (L2 := [some (.ref x), some (.int (zi (b + 1)))]) (S2 := []) rfl (by simp only [zi_add, zi_sub, zi_mul, zi_neg, zi_and1, zi_and7, zi_and15, zi_and31, zi_and255]) (by simp only [zi_add, zi_sub, zi_mul, zi_neg, zi_and1, zi_and7, zi_and15, zi_and31, zi_and255]) ?_
                  have G139 : gSg [114] [] [56000, 56001, 56002, 56003, 71012, 71013, 71014, 80999, 97999, 114999] ty h tyq124 hq124 := gSg.ss G125 sS138 (by decide)
                  exact gz_wk (ihlp11 tyq124 hq124 cq124_0 (b + 1) fq124_0 fq124_1 (by omega) G139 uq137 t126 t127 ecq124_0 tcq124_0 (by omega) (by omega) (by omega) (by omega) (by omega) (by omega) (by omega) (by omega) (by omega) (by omega) (by omega) s130 s131 s132 s133 s134 s135 efq124_0 efq124_1) (gLw.s (gLw.s gLw.z))
                · refine gy_ifF rfl (by decide) (by decide) (by omega) hc122 ?_
                  refine gy_s 4 (pc' := 86) (L' := [some (.ref x), some (.int (zi b))]) (S' := [.int ((zi b) * (zi 64)), .ref x]) (L2 := [some (.ref x), some (.int (zi b))]) (S2 := [.int (zi (b * 64)), .ref x]) rfl (by simp only [zi_add, zi_sub, zi_mul, zi_neg, zi_and1, zi_and7, zi_and15, zi_and31, zi_and255]) (by simp only [zi_add, zi_sub, zi_mul, zi_neg, zi_and1, zi_and7, zi_and15, zi_and31, zi_and255]) ?_
                  have hl140 : h12.2.2.2.1 bv = h12.2.2.2.1 bv := congrFun sh12.2.2.2.2.1 bv
                  obtain ⟨z141, ez141, az141, bz141⟩ := gJ.int (k := 10) (G := gGG) sh12.1 lp11c0 rfl rfl rfl
                  refine gz_call rfl (by decide) rfl (by decide) (by decide) (gcal_of rfl rfl rfl (Nat.le_of_ble_eq_true rfl) (gJ.recv (G := gGG) sh12.1 lp11c0 rfl rfl)) (cl_Writer_refineOthers _ sh12.1 x lp11c0 (b * 64) (by omega) sk lp11k0 lp11c1 bv lp11r0 lp11r1 cv lp11k6 (by omega) hv lp11k7 (by omega) cg lp11k1 (by omega) fr lp11k2 (by omega) tt lp11k3 (by omega) z141 ez141 (by omega) (by omega) (by omega) (by omega) lp11u) (fun q142 _ wq142 => ?_)
                  obtain ⟨pq142, oq142, hq142⟩ := q142
                  obtain ⟨tyq142, xq142, cq142_0, ttq142, fq142_0, fq142_1, ecq142_0, tcq142_0, gq142, efq142_0, afq142_0, bfq142_0, efq142_1, afq142_1, bfq142_1, uq142_0, uq142_1, uq142_2, uq142_3, uq142_4, uq142_5, uq142_6⟩ := wq142
                  dsimp only at uq142_3 uq142_4 uq142_5 uq142_6
                  refine ⟨_, gq142, ?_⟩
                  show gz gPP gGG gcn _ _ 89 [some (.ref x), some (.int (zi b))] [] hq142 _
                  have G143 : gSg [114] [] [56000, 56001, 56002, 56003, 71012, 71013, 71014, 80999, 97999, 114999] ty h tyq142 hq142 := gSg.tr (gSg.ss lp11G sh12 (by decide)) xq142 (by decide) (by decide) (fun x hx => by cases hx)
                  have t144 : tyq142 x = 71 := gSg.typ xq142 sh12.1 lp11c0 rfl
                  have t145 : tyq142 sk = 56 := gSg.typ xq142 sh12.1 lp11c1 rfl
                  have t146 : tyq142 bv = 114 := gSg.typ xq142 sh12.1 lp11r1 rfl
                  have hl147 : hq142.2.2.2.1 bv = h12.2.2.2.1 bv := gSg.len xq142 sh12.1 lp11r1 rfl
                  have s148 := gSg.at xq142 sh12.1 lp11c0 rfl (by decide) lp11k0
                  have s149 := gSg.at xq142 sh12.1 lp11c0 rfl (by decide) lp11k1
                  have s150 := gSg.at xq142 sh12.1 lp11c0 rfl (by decide) lp11k2
                  have s151 := gSg.at xq142 sh12.1 lp11c0 rfl (by decide) lp11k3
                  have s152 := gSg.at xq142 sh12.1 lp11c0 rfl (by decide) lp11k4
                  have s153 := gSg.at xq142 sh12.1 lp11c0 rfl (by decide) lp11k5
                  have s154 := gSg.at xq142 sh12.1 lp11c0 rfl (by decide) ez121
                  have s155 := gSg.at xq142 sh12.1 lp11c0 rfl (by decide) ez141
                  have uq156 := gSg.uq xq142 lp11u (by decide)
                  have sS157 : gSs rT 1027 tyq142 [56000, 56001, 56002, 56003, 71012, 71013, 71014, 80999, 97999, 114999] hq142 hq142 := gSs.rf xq142.1
                  refine gy_s 3 (pc' := 7) (L' := [some (.ref x), some (.int ((zi b) + zi 1))]) (S' := []) (L2 := [some (.ref x), some (.int (zi (b + 1)))]) (S2 := []) rfl (by simp only [zi_add, zi_sub, zi_mul, zi_neg, zi_and1, zi_and7, zi_and15, zi_and31, zi_and255]) (by simp only [zi_add, zi_sub, zi_mul, zi_neg, zi_and1, zi_and7, zi_and15, zi_and31, zi_and255]) ?_
                  have G158 : gSg [114] [] [56000, 56001, 56002, 56003, 71012, 71013, 71014, 80999, 97999, 114999] ty h tyq142 hq142 := gSg.ss G143 sS157 (by decide)
                  exact gz_wk (ihlp11 tyq142 hq142 cq142_0 (b + 1) fq142_0 fq142_1 (by omega) G158 uq156 t144 t145 ecq142_0 tcq142_0 (by omega) (by omega) (by omega) (by omega) (by omega) (by omega) (by omega) (by omega) (by omega) (by omega) (by omega) s148 s149 s150 s151 s152 s153 efq142_0 efq142_1) (gLw.s (gLw.s gLw.z))
            · refine gy_ifF rfl (by decide) (by decide) (by omega) hc118 ?_
              refine gy_s 4 (pc' := 64) (L' := [some (.ref x), some (.int (zi b))]) (S' := [.int ((zi b) * (zi 64)), .ref x]) (L2 := [some (.ref x), some (.int (zi b))]) (S2 := [.int (zi (b * 64)), .ref x]) rfl (by simp only [zi_add, zi_sub, zi_mul, zi_neg, zi_and1, zi_and7, zi_and15, zi_and31, zi_and255]) (by simp only [zi_add, zi_sub, zi_mul, zi_neg, zi_and1, zi_and7, zi_and15, zi_and31, zi_and255]) ?_
              have hl159 : h12.2.2.2.1 bv = h12.2.2.2.1 bv := congrFun sh12.2.2.2.2.1 bv
              refine gz_call rfl (by decide) rfl (by decide) (by decide) (gcal_of rfl rfl rfl (Nat.le_of_ble_eq_true rfl) (gJ.recv (G := gGG) sh12.1 lp11c0 rfl rfl)) (cl_Writer_putFirst _ sh12.1 x lp11c0 (b * 64) (by omega) sk lp11k0 lp11c1 bv lp11r0 lp11r1 cv lp11k6 (by omega) hv lp11k7 (by omega) cg lp11k1 (by omega) (by omega) (by omega) lp11u) (fun q160 _ wq160 => ?_)
              obtain ⟨pq160, oq160, hq160⟩ := q160
              obtain ⟨tyq160, xq160, cq160_0, ttq160, fq160_0, fq160_1, ecq160_0, tcq160_0, gq160, efq160_0, afq160_0, bfq160_0, efq160_1, afq160_1, bfq160_1, uq160_0, uq160_1, uq160_2, uq160_3, uq160_4, uq160_5, uq160_6⟩ := wq160
              dsimp only at uq160_3 uq160_4 uq160_5 uq160_6
              refine ⟨_, gq160, ?_⟩
              show gz gPP gGG gcn _ _ 67 [some (.ref x), some (.int (zi b))] [] hq160 _
              have G161 : gSg [114] [] [56000, 56001, 56002, 56003, 71012, 71013, 71014, 80999, 97999, 114999] ty h tyq160 hq160 := gSg.tr (gSg.ss lp11G sh12 (by decide)) xq160 (by decide) (by decide) (fun x hx => by cases hx)
              have t162 : tyq160 x = 71 := gSg.typ xq160 sh12.1 lp11c0 rfl
              have t163 : tyq160 sk = 56 := gSg.typ xq160 sh12.1 lp11c1 rfl
              have t164 : tyq160 bv = 114 := gSg.typ xq160 sh12.1 lp11r1 rfl
              have hl165 : hq160.2.2.2.1 bv = h12.2.2.2.1 bv := gSg.len xq160 sh12.1 lp11r1 rfl
              have s166 := gSg.at xq160 sh12.1 lp11c0 rfl (by decide) lp11k0
              have s167 := gSg.at xq160 sh12.1 lp11c0 rfl (by decide) lp11k1
              have s168 := gSg.at xq160 sh12.1 lp11c0 rfl (by decide) lp11k2
              have s169 := gSg.at xq160 sh12.1 lp11c0 rfl (by decide) lp11k3
              have s170 := gSg.at xq160 sh12.1 lp11c0 rfl (by decide) lp11k4
              have s171 := gSg.at xq160 sh12.1 lp11c0 rfl (by decide) lp11k5
              have uq172 := gSg.uq xq160 lp11u (by decide)
              have sS173 : gSs rT 1027 tyq160 [56000, 56001, 56002, 56003, 71012, 71013, 71014, 80999, 97999, 114999] hq160 hq160 := gSs.rf xq160.1
              refine gz_s 1 (pc' := 68) (L' := [some (.ref x), some (.int (zi b))]) (S' := [.ref x]) rfl ?_
              refine gs_gtk rfl (by decide) rfl sS173.1 t162 rfl rfl s169 ?_
              by_cases hc174 : (tt : Int) ≤ 0
              · refine gy_ifT (pc' := 92) rfl (by decide) (by decide) (by omega) hc174 ?_
                refine gz_s 1 (pc' := 93) (L' := [some (.ref x), some (.int (zi b))]) (S' := [.ref x]) rfl ?_
                refine gs_gtk rfl (by decide) rfl sS173.1 t162 rfl rfl s169 ?_
                refine gy_ifT (pc' := 107) rfl (by decide) (by decide) (by omega) (by first | (simp [zc]; done) | (simp only [zc]; omega)) ?_
                refine gy_s 2 (pc' := 7) (L' := [some (.ref x), some (.int ((zi b) + zi 1))]) (S' := []) (L2 := [some (.ref x), some (.int (zi (b + 1)))]) (S2 := []) rfl (by simp only [zi_add, zi_sub, zi_mul, zi_neg, zi_and1, zi_and7, zi_and15, zi_and31, zi_and255]) (by simp only [zi_add, zi_sub, zi_mul, zi_neg, zi_and1, zi_and7, zi_and15, zi_and31, zi_and255]) ?_
                have G175 : gSg [114] [] [56000, 56001, 56002, 56003, 71012, 71013, 71014, 80999, 97999, 114999] ty h tyq160 hq160 := gSg.ss G161 sS173 (by decide)
                exact gz_wk (ihlp11 tyq160 hq160 cq160_0 (b + 1) fq160_0 fq160_1 (by omega) G175 uq172 t162 t163 ecq160_0 tcq160_0 (by omega) (by omega) (by omega) (by omega) (by omega) (by omega) (by omega) (by omega) (by omega) (by omega) (by omega) s166 s167 s168 s169 s170 s171 efq160_0 efq160_1) (gLw.s (gLw.s gLw.z))
              · refine gy_ifF rfl (by decide) (by decide) (by omega) hc174 ?_
                refine gz_s 1 (pc' := 75) (L' := [some (.ref x), some (.int (zi b))]) (S' := [.ref x]) rfl ?_
                refine gs_get rfl (by decide) rfl sS173.1 t162 rfl rfl rfl (fun z176 ez176 az176 bz176 => ?_)
                by_cases hc177 : (z176 : Int) ≤ 0
                · refine gy_ifT (pc' := 92) rfl (by decide) (by decide) (by omega) hc177 ?_
                  refine gz_s 1 (pc' := 93) (L' := [some (.ref x), some (.int (zi b))]) (S' := [.ref x]) rfl ?_
                  refine gs_gtk rfl (by decide) rfl sS173.1 t162 rfl rfl s169 ?_
                  refine gy_ifF rfl (by decide) (by decide) (by omega) (by first | (simp [zc]; done) | (simp only [zc]; omega)) ?_
                  refine gy_s 4 (pc' := 104) (L' := [some (.ref x), some (.int (zi b))]) (S' := [.int ((zi b) * (zi 64)), .ref x]) (L2 := [some (.ref x), some (.int (zi b))]) (S2 := [.int (zi (b * 64)), .ref x]) rfl (by simp only [zi_add, zi_sub, zi_mul, zi_neg, zi_and1, zi_and7, zi_and15, zi_and31, zi_and255]) (by simp only [zi_add, zi_sub, zi_mul, zi_neg, zi_and1, zi_and7, zi_and15, zi_and31, zi_and255]) ?_
                  have hl178 : hq160.2.2.2.1 cq160_0 = hq160.2.2.2.1 cq160_0 := congrFun sS173.2.2.2.2.1 cq160_0
                  refine gz_call rfl (by decide) rfl (by decide) (by decide) (gcal_of rfl rfl rfl (Nat.le_of_ble_eq_true rfl) (gJ.recv (G := gGG) sS173.1 t162 rfl rfl)) (cl_Writer_putOthers _ sS173.1 x t162 (b * 64) (by omega) sk s166 t163 cq160_0 ecq160_0 tcq160_0 fq160_0 efq160_0 (by omega) fq160_1 efq160_1 (by omega) cg s167 (by omega) fr s168 (by omega) tt s169 (by omega) (by omega) (by omega) (by omega) (by omega) uq172) (fun q179 _ wq179 => ?_)
                  obtain ⟨pq179, oq179, hq179⟩ := q179
                  obtain ⟨tyq179, xq179, cq179_0, ttq179, fq179_0, fq179_1, ecq179_0, tcq179_0, gq179, efq179_0, afq179_0, bfq179_0, efq179_1, afq179_1, bfq179_1, uq179_0, uq179_1, uq179_2, uq179_3, uq179_4, uq179_5, uq179_6⟩ := wq179
                  dsimp only at uq179_3 uq179_4 uq179_5 uq179_6
                  refine ⟨_, gq179, ?_⟩
                  show gz gPP gGG gcn _ _ 107 [some (.ref x), some (.int (zi b))] [] hq179 _
                  have G180 : gSg [114] [] [56000, 56001, 56002, 56003, 71012, 71013, 71014, 80999, 97999, 114999] ty h tyq179 hq179 := gSg.tr (gSg.ss G161 sS173 (by decide)) xq179 (by decide) (by decide) (fun x hx => by cases hx)
                  have t181 : tyq179 x = 71 := gSg.typ xq179 sS173.1 t162 rfl
                  have t182 : tyq179 sk = 56 := gSg.typ xq179 sS173.1 t163 rfl
                  have t183 : tyq179 bv = 114 := gSg.typ xq179 sS173.1 t164 rfl
                  have hl184 : hq179.2.2.2.1 bv = hq160.2.2.2.1 bv := gSg.len xq179 sS173.1 t164 rfl
                  have t185 : tyq179 cq160_0 = 114 := gSg.typ xq179 sS173.1 tcq160_0 rfl
                  have hl186 : hq179.2.2.2.1 cq160_0 = hq160.2.2.2.1 cq160_0 := gSg.len xq179 sS173.1 tcq160_0 rfl
                  have s187 := gSg.at xq179 sS173.1 t162 rfl (by decide) s166
                  have s188 := gSg.at xq179 sS173.1 t162 rfl (by decide) s167
                  have s189 := gSg.at xq179 sS173.1 t162 rfl (by decide) s168
                  have s190 := gSg.at xq179 sS173.1 t162 rfl (by decide) s169
                  have s191 := gSg.at xq179 sS173.1 t162 rfl (by decide) s170
                  have s192 := gSg.at xq179 sS173.1 t162 rfl (by decide) s171
                  have s193 := gSg.at xq179 sS173.1 t162 rfl (by decide) ez176
                  have uq194 := gSg.uq xq179 uq172 (by decide)
                  have sS195 : gSs rT 1027 tyq179 [56000, 56001, 56002, 56003, 71012, 71013, 71014, 80999, 97999, 114999] hq179 hq179 := gSs.rf xq179.1
                  refine gy_s 2 (pc' := 7) (L' := [some (.ref x), some (.int ((zi b) + zi 1))]) (S' := []) (L2 := [some (.ref x), some (.int (zi (b + 1)))]) (S2 := []) rfl (by simp only [zi_add, zi_sub, zi_mul, zi_neg, zi_and1, zi_and7, zi_and15, zi_and31, zi_and255]) (by simp only [zi_add, zi_sub, zi_mul, zi_neg, zi_and1, zi_and7, zi_and15, zi_and31, zi_and255]) ?_
                  have G196 : gSg [114] [] [56000, 56001, 56002, 56003, 71012, 71013, 71014, 80999, 97999, 114999] ty h tyq179 hq179 := gSg.ss G180 sS195 (by decide)
                  exact gz_wk (ihlp11 tyq179 hq179 cq179_0 (b + 1) fq179_0 fq179_1 (by omega) G196 uq194 t181 t182 ecq179_0 tcq179_0 (by omega) (by omega) (by omega) (by omega) (by omega) (by omega) (by omega) (by omega) (by omega) (by omega) (by omega) s187 s188 s189 s190 s191 s192 efq179_0 efq179_1) (gLw.s (gLw.s gLw.z))
                · refine gy_ifF rfl (by decide) (by decide) (by omega) hc177 ?_
                  refine gy_s 4 (pc' := 86) (L' := [some (.ref x), some (.int (zi b))]) (S' := [.int ((zi b) * (zi 64)), .ref x]) (L2 := [some (.ref x), some (.int (zi b))]) (S2 := [.int (zi (b * 64)), .ref x]) rfl (by simp only [zi_add, zi_sub, zi_mul, zi_neg, zi_and1, zi_and7, zi_and15, zi_and31, zi_and255]) (by simp only [zi_add, zi_sub, zi_mul, zi_neg, zi_and1, zi_and7, zi_and15, zi_and31, zi_and255]) ?_
                  have hl197 : hq160.2.2.2.1 cq160_0 = hq160.2.2.2.1 cq160_0 := congrFun sS173.2.2.2.2.1 cq160_0
                  obtain ⟨z198, ez198, az198, bz198⟩ := gJ.int (k := 10) (G := gGG) sS173.1 t162 rfl rfl rfl
                  refine gz_call rfl (by decide) rfl (by decide) (by decide) (gcal_of rfl rfl rfl (Nat.le_of_ble_eq_true rfl) (gJ.recv (G := gGG) sS173.1 t162 rfl rfl)) (cl_Writer_refineOthers _ sS173.1 x t162 (b * 64) (by omega) sk s166 t163 cq160_0 ecq160_0 tcq160_0 fq160_0 efq160_0 (by omega) fq160_1 efq160_1 (by omega) cg s167 (by omega) fr s168 (by omega) tt s169 (by omega) z198 ez198 (by omega) (by omega) (by omega) (by omega) uq172) (fun q199 _ wq199 => ?_)
                  obtain ⟨pq199, oq199, hq199⟩ := q199
                  obtain ⟨tyq199, xq199, cq199_0, ttq199, fq199_0, fq199_1, ecq199_0, tcq199_0, gq199, efq199_0, afq199_0, bfq199_0, efq199_1, afq199_1, bfq199_1, uq199_0, uq199_1, uq199_2, uq199_3, uq199_4, uq199_5, uq199_6⟩ := wq199
                  dsimp only at uq199_3 uq199_4 uq199_5 uq199_6
                  refine ⟨_, gq199, ?_⟩
                  show gz gPP gGG gcn _ _ 89 [some (.ref x), some (.int (zi b))] [] hq199 _
                  have G200 : gSg [114] [] [56000, 56001, 56002, 56003, 71012, 71013, 71014, 80999, 97999, 114999] ty h tyq199 hq199 := gSg.tr (gSg.ss G161 sS173 (by decide)) xq199 (by decide) (by decide) (fun x hx => by cases hx)
                  have t201 : tyq199 x = 71 := gSg.typ xq199 sS173.1 t162 rfl
                  have t202 : tyq199 sk = 56 := gSg.typ xq199 sS173.1 t163 rfl
                  have t203 : tyq199 bv = 114 := gSg.typ xq199 sS173.1 t164 rfl
                  have hl204 : hq199.2.2.2.1 bv = hq160.2.2.2.1 bv := gSg.len xq199 sS173.1 t164 rfl
                  have t205 : tyq199 cq160_0 = 114 := gSg.typ xq199 sS173.1 tcq160_0 rfl
                  have hl206 : hq199.2.2.2.1 cq160_0 = hq160.2.2.2.1 cq160_0 := gSg.len xq199 sS173.1 tcq160_0 rfl
                  have s207 := gSg.at xq199 sS173.1 t162 rfl (by decide) s166
                  have s208 := gSg.at xq199 sS173.1 t162 rfl (by decide) s167
                  have s209 := gSg.at xq199 sS173.1 t162 rfl (by decide) s168
                  have s210 := gSg.at xq199 sS173.1 t162 rfl (by decide) s169
                  have s211 := gSg.at xq199 sS173.1 t162 rfl (by decide) s170
                  have s212 := gSg.at xq199 sS173.1 t162 rfl (by decide) s171
                  have s213 := gSg.at xq199 sS173.1 t162 rfl (by decide) ez176
                  have s214 := gSg.at xq199 sS173.1 t162 rfl (by decide) ez198
                  have uq215 := gSg.uq xq199 uq172 (by decide)
                  have sS216 : gSs rT 1027 tyq199 [56000, 56001, 56002, 56003, 71012, 71013, 71014, 80999, 97999, 114999] hq199 hq199 := gSs.rf xq199.1
                  refine gy_s 3 (pc' := 7) (L' := [some (.ref x), some (.int ((zi b) + zi 1))]) (S' := []) (L2 := [some (.ref x), some (.int (zi (b + 1)))]) (S2 := []) rfl (by simp only [zi_add, zi_sub, zi_mul, zi_neg, zi_and1, zi_and7, zi_and15, zi_and31, zi_and255]) (by simp only [zi_add, zi_sub, zi_mul, zi_neg, zi_and1, zi_and7, zi_and15, zi_and31, zi_and255]) ?_
                  have G217 : gSg [114] [] [56000, 56001, 56002, 56003, 71012, 71013, 71014, 80999, 97999, 114999] ty h tyq199 hq199 := gSg.ss G200 sS216 (by decide)
                  exact gz_wk (ihlp11 tyq199 hq199 cq199_0 (b + 1) fq199_0 fq199_1 (by omega) G217 uq215 t201 t202 ecq199_0 tcq199_0 (by omega) (by omega) (by omega) (by omega) (by omega) (by omega) (by omega) (by omega) (by omega) (by omega) (by omega) s207 s208 s209 s210 s211 s212 efq199_0 efq199_1) (gLw.s (gLw.s gLw.z))
          · refine gy_ifF rfl (by decide) (by decide) (by omega) hc117 ?_
            refine gz_s 2 (pc' := 28) (L' := [some (.ref x), some (.int (zi b))]) (S' := [.ref x, .int (zi b)]) rfl ?_
            refine gs_gtk rfl (by decide) rfl sh12.1 lp11c0 rfl rfl lp11k5 ?_
            refine gy_rem rfl (by decide) (by omega) (by omega) ?_
            have hd218 := zm_f (x := b) (y := iv) (by omega) (by omega)
            by_cases hc219 : ¬ (b % iv : Int) = 0
            · refine gy_ifT (pc' := 52) rfl (by decide) (by decide) (by omega) hc219 ?_
              refine gz_s 1 (pc' := 53) (L' := [some (.ref x), some (.int (zi b))]) (S' := [.ref x]) rfl ?_
              refine gs_gtk rfl (by decide) rfl sh12.1 lp11c0 rfl rfl lp11k2 ?_
              by_cases hc220 : ¬ (fr : Int) = 0
              · refine gy_ifT (pc' := 67) rfl (by decide) (by decide) (by omega) hc220 ?_
                refine gz_s 1 (pc' := 68) (L' := [some (.ref x), some (.int (zi b))]) (S' := [.ref x]) rfl ?_
                refine gs_gtk rfl (by decide) rfl sh12.1 lp11c0 rfl rfl lp11k3 ?_
                by_cases hc221 : (tt : Int) ≤ 0
                · refine gy_ifT (pc' := 92) rfl (by decide) (by decide) (by omega) hc221 ?_
                  refine gz_s 1 (pc' := 93) (L' := [some (.ref x), some (.int (zi b))]) (S' := [.ref x]) rfl ?_
                  refine gs_gtk rfl (by decide) rfl sh12.1 lp11c0 rfl rfl lp11k3 ?_
                  refine gy_ifT (pc' := 107) rfl (by decide) (by decide) (by omega) (by first | (simp [zc]; done) | (simp only [zc]; omega)) ?_
                  refine gy_s 2 (pc' := 7) (L' := [some (.ref x), some (.int ((zi b) + zi 1))]) (S' := []) (L2 := [some (.ref x), some (.int (zi (b + 1)))]) (S2 := []) rfl (by simp only [zi_add, zi_sub, zi_mul, zi_neg, zi_and1, zi_and7, zi_and15, zi_and31, zi_and255]) (by simp only [zi_add, zi_sub, zi_mul, zi_neg, zi_and1, zi_and7, zi_and15, zi_and31, zi_and255]) ?_
                  have G222 : gSg [114] [] [56000, 56001, 56002, 56003, 71012, 71013, 71014, 80999, 97999, 114999] ty h ty13 h12 := gSg.ss lp11G sh12 (by decide)
                  exact gz_wk (ihlp11 ty13 h12 bv (b + 1) cv hv (by omega) G222 lp11u lp11c0 lp11c1 lp11r0 lp11r1 (by omega) (by omega) (by omega) (by omega) (by omega) (by omega) (by omega) (by omega) (by omega) (by omega) (by omega) lp11k0 lp11k1 lp11k2 lp11k3 lp11k4 lp11k5 lp11k6 lp11k7) (gLw.s (gLw.s gLw.z))
                · refine gy_ifF rfl (by decide) (by decide) (by omega) hc221 ?_
                  refine gz_s 1 (pc' := 75) (L' := [some (.ref x), some (.int (zi b))]) (S' := [.ref x]) rfl ?_
                  refine gs_get rfl (by decide) rfl sh12.1 lp11c0 rfl rfl rfl (fun z223 ez223 az223 bz223 => ?_)
                  by_cases hc224 : (z223 : Int) ≤ 0
                  · refine gy_ifT (pc' := 92) rfl (by decide) (by decide) (by omega) hc224 ?_
                    refine gz_s 1 (pc' := 93) (L' := [some (.ref x), some (.int (zi b))]) (S' := [.ref x]) rfl ?_
                    refine gs_gtk rfl (by decide) rfl sh12.1 lp11c0 rfl rfl lp11k3 ?_
                    refine gy_ifF rfl (by decide) (by decide) (by omega) (by first | (simp [zc]; done) | (simp only [zc]; omega)) ?_
                    refine gy_s 4 (pc' := 104) (L' := [some (.ref x), some (.int (zi b))]) (S' := [.int ((zi b) * (zi 64)), .ref x]) (L2 := [some (.ref x), some (.int (zi b))]) (S2 := [.int (zi (b * 64)), .ref x]) rfl (by simp only [zi_add, zi_sub, zi_mul, zi_neg, zi_and1, zi_and7, zi_and15, zi_and31, zi_and255]) (by simp only [zi_add, zi_sub, zi_mul, zi_neg, zi_and1, zi_and7, zi_and15, zi_and31, zi_and255]) ?_
                    have hl225 : h12.2.2.2.1 bv = h12.2.2.2.1 bv := congrFun sh12.2.2.2.2.1 bv
                    refine gz_call rfl (by decide) rfl (by decide) (by decide) (gcal_of rfl rfl rfl (Nat.le_of_ble_eq_true rfl) (gJ.recv (G := gGG) sh12.1 lp11c0 rfl rfl)) (cl_Writer_putOthers _ sh12.1 x lp11c0 (b * 64) (by omega) sk lp11k0 lp11c1 bv lp11r0 lp11r1 cv lp11k6 (by omega) hv lp11k7 (by omega) cg lp11k1 (by omega) fr lp11k2 (by omega) tt lp11k3 (by omega) (by omega) (by omega) (by omega) (by omega) lp11u) (fun q226 _ wq226 => ?_)
                    obtain ⟨pq226, oq226, hq226⟩ := q226
                    obtain ⟨tyq226, xq226, cq226_0, ttq226, fq226_0, fq226_1, ecq226_0, tcq226_0, gq226, efq226_0, afq226_0, bfq226_0, efq226_1, afq226_1, bfq226_1, uq226_0, uq226_1, uq226_2, uq226_3, uq226_4, uq226_5, uq226_6⟩ := wq226
                    dsimp only at uq226_3 uq226_4 uq226_5 uq226_6
                    refine ⟨_, gq226, ?_⟩
                    show gz gPP gGG gcn _ _ 107 [some (.ref x), some (.int (zi b))] [] hq226 _
                    have G227 : gSg [114] [] [56000, 56001, 56002, 56003, 71012, 71013, 71014, 80999, 97999, 114999] ty h tyq226 hq226 := gSg.tr (gSg.ss lp11G sh12 (by decide)) xq226 (by decide) (by decide) (fun x hx => by cases hx)
                    have t228 : tyq226 x = 71 := gSg.typ xq226 sh12.1 lp11c0 rfl
                    have t229 : tyq226 sk = 56 := gSg.typ xq226 sh12.1 lp11c1 rfl
                    have t230 : tyq226 bv = 114 := gSg.typ xq226 sh12.1 lp11r1 rfl
                    have hl231 : hq226.2.2.2.1 bv = h12.2.2.2.1 bv := gSg.len xq226 sh12.1 lp11r1 rfl
                    have s232 := gSg.at xq226 sh12.1 lp11c0 rfl (by decide) lp11k0
                    have s233 := gSg.at xq226 sh12.1 lp11c0 rfl (by decide) lp11k1
                    have s234 := gSg.at xq226 sh12.1 lp11c0 rfl (by decide) lp11k2
                    have s235 := gSg.at xq226 sh12.1 lp11c0 rfl (by decide) lp11k3
                    have s236 := gSg.at xq226 sh12.1 lp11c0 rfl (by decide) lp11k4
                    have s237 := gSg.at xq226 sh12.1 lp11c0 rfl (by decide) lp11k5
                    have s238 := gSg.at xq226 sh12.1 lp11c0 rfl (by decide) ez223
                    have uq239 := gSg.uq xq226 lp11u (by decide)
                    have sS240 : gSs rT 1027 tyq226 [56000, 56001, 56002, 56003, 71012, 71013, 71014, 80999, 97999, 114999] hq226 hq226 := gSs.rf xq226.1
                    refine gy_s 2 (pc' := 7) (L' := [some (.ref x), some (.int ((zi b) + zi 1))]) (S' := []) (L2 := [some (.ref x), some (.int (zi (b + 1)))]) (S2 := []) rfl (by simp only [zi_add, zi_sub, zi_mul, zi_neg, zi_and1, zi_and7, zi_and15, zi_and31, zi_and255]) (by simp only [zi_add, zi_sub, zi_mul, zi_neg, zi_and1, zi_and7, zi_and15, zi_and31, zi_and255]) ?_
                    have G241 : gSg [114] [] [56000, 56001, 56002, 56003, 71012, 71013, 71014, 80999, 97999, 114999] ty h tyq226 hq226 := gSg.ss G227 sS240 (by decide)
                    exact gz_wk (ihlp11 tyq226 hq226 cq226_0 (b + 1) fq226_0 fq226_1 (by omega) G241 uq239 t228 t229 ecq226_0 tcq226_0 (by omega) (by omega) (by omega) (by omega) (by omega) (by omega) (by omega) (by omega) (by omega) (by omega) (by omega) s232 s233 s234 s235 s236 s237 efq226_0 efq226_1) (gLw.s (gLw.s gLw.z))
                  · refine gy_ifF rfl (by decide) (by decide) (by omega) hc224 ?_
                    refine gy_s 4 (pc' := 86) (L' := [some (.ref x), some (.int (zi b))]) (S' := [.int ((zi b) * (zi 64)), .ref x]) (L2 := [some (.ref x), some (.int (zi b))]) (S2 := [.int (zi (b * 64)), .ref x]) rfl (by simp only [zi_add, zi_sub, zi_mul, zi_neg, zi_and1, zi_and7, zi_and15, zi_and31, zi_and255]) (by simp only [zi_add, zi_sub, zi_mul, zi_neg, zi_and1, zi_and7, zi_and15, zi_and31, zi_and255]) ?_
                    have hl242 : h12.2.2.2.1 bv = h12.2.2.2.1 bv := congrFun sh12.2.2.2.2.1 bv
                    obtain ⟨z243, ez243, az243, bz243⟩ := gJ.int (k := 10) (G := gGG) sh12.1 lp11c0 rfl rfl rfl
                    refine gz_call rfl (by decide) rfl (by decide) (by decide) (gcal_of rfl rfl rfl (Nat.le_of_ble_eq_true rfl) (gJ.recv (G := gGG) sh12.1 lp11c0 rfl rfl)) (cl_Writer_refineOthers _ sh12.1 x lp11c0 (b * 64) (by omega) sk lp11k0 lp11c1 bv lp11r0 lp11r1 cv lp11k6 (by omega) hv lp11k7 (by omega) cg lp11k1 (by omega) fr lp11k2 (by omega) tt lp11k3 (by omega) z243 ez243 (by omega) (by omega) (by omega) (by omega) lp11u) (fun q244 _ wq244 => ?_)
                    obtain ⟨pq244, oq244, hq244⟩ := q244
                    obtain ⟨tyq244, xq244, cq244_0, ttq244, fq244_0, fq244_1, ecq244_0, tcq244_0, gq244, efq244_0, afq244_0, bfq244_0, efq244_1, afq244_1, bfq244_1, uq244_0, uq244_1, uq244_2, uq244_3, uq244_4, uq244_5, uq244_6⟩ := wq244
                    dsimp only at uq244_3 uq244_4 uq244_5 uq244_6
                    refine ⟨_, gq244, ?_⟩
                    show gz gPP gGG gcn _ _ 89 [some (.ref x), some (.int (zi b))] [] hq244 _
                    have G245 : gSg [114] [] [56000, 56001, 56002, 56003, 71012, 71013, 71014, 80999, 97999, 114999] ty h tyq244 hq244 := gSg.tr (gSg.ss lp11G sh12 (by decide)) xq244 (by decide) (by decide) (fun x hx => by cases hx)
                    have t246 : tyq244 x = 71 := gSg.typ xq244 sh12.1 lp11c0 rfl
                    have t247 : tyq244 sk = 56 := gSg.typ xq244 sh12.1 lp11c1 rfl
                    have t248 : tyq244 bv = 114 := gSg.typ xq244 sh12.1 lp11r1 rfl
                    have hl249 : hq244.2.2.2.1 bv = h12.2.2.2.1 bv := gSg.len xq244 sh12.1 lp11r1 rfl
                    have s250 := gSg.at xq244 sh12.1 lp11c0 rfl (by decide) lp11k0
                    have s251 := gSg.at xq244 sh12.1 lp11c0 rfl (by decide) lp11k1
                    have s252 := gSg.at xq244 sh12.1 lp11c0 rfl (by decide) lp11k2
                    have s253 := gSg.at xq244 sh12.1 lp11c0 rfl (by decide) lp11k3
                    have s254 := gSg.at xq244 sh12.1 lp11c0 rfl (by decide) lp11k4
                    have s255 := gSg.at xq244 sh12.1 lp11c0 rfl (by decide) lp11k5
                    have s256 := gSg.at xq244 sh12.1 lp11c0 rfl (by decide) ez223
                    have s257 := gSg.at xq244 sh12.1 lp11c0 rfl (by decide) ez243
                    have uq258 := gSg.uq xq244 lp11u (by decide)
                    have sS259 : gSs rT 1027 tyq244 [56000, 56001, 56002, 56003, 71012, 71013, 71014, 80999, 97999, 114999] hq244 hq244 := gSs.rf xq244.1
                    refine gy_s 3 (pc' := 7) (L' := [some (.ref x), some (.int ((zi b) + zi 1))]) (S' := []) (L2 := [some (.ref x), some (.int (zi (b + 1)))]) (S2 := []) rfl (by simp only [zi_add, zi_sub, zi_mul, zi_neg, zi_and1, zi_and7, zi_and15, zi_and31, zi_and255]) (by simp only [zi_add, zi_sub, zi_mul, zi_neg, zi_and1, zi_and7, zi_and15, zi_and31, zi_and255]) ?_
                    have G260 : gSg [114] [] [56000, 56001, 56002, 56003, 71012, 71013, 71014, 80999, 97999, 114999] ty h tyq244 hq244 := gSg.ss G245 sS259 (by decide)
                    exact gz_wk (ihlp11 tyq244 hq244 cq244_0 (b + 1) fq244_0 fq244_1 (by omega) G260 uq258 t246 t247 ecq244_0 tcq244_0 (by omega) (by omega) (by omega) (by omega) (by omega) (by omega) (by omega) (by omega) (by omega) (by omega) (by omega) s250 s251 s252 s253 s254 s255 efq244_0 efq244_1) (gLw.s (gLw.s gLw.z))
              · refine gy_ifF rfl (by decide) (by decide) (by omega) hc220 ?_
                refine gy_s 4 (pc' := 64) (L' := [some (.ref x), some (.int (zi b))]) (S' := [.int ((zi b) * (zi 64)), .ref x]) (L2 := [some (.ref x), some (.int (zi b))]) (S2 := [.int (zi (b * 64)), .ref x]) rfl (by simp only [zi_add, zi_sub, zi_mul, zi_neg, zi_and1, zi_and7, zi_and15, zi_and31, zi_and255]) (by simp only [zi_add, zi_sub, zi_mul, zi_neg, zi_and1, zi_and7, zi_and15, zi_and31, zi_and255]) ?_
                have hl261 : h12.2.2.2.1 bv = h12.2.2.2.1 bv := congrFun sh12.2.2.2.2.1 bv
                refine gz_call rfl (by decide) rfl (by decide) (by decide) (gcal_of rfl rfl rfl (Nat.le_of_ble_eq_true rfl) (gJ.recv (G := gGG) sh12.1 lp11c0 rfl rfl)) (cl_Writer_putFirst _ sh12.1 x lp11c0 (b * 64) (by omega) sk lp11k0 lp11c1 bv lp11r0 lp11r1 cv lp11k6 (by omega) hv lp11k7 (by omega) cg lp11k1 (by omega) (by omega) (by omega) lp11u) (fun q262 _ wq262 => ?_)
                obtain ⟨pq262, oq262, hq262⟩ := q262
                obtain ⟨tyq262, xq262, cq262_0, ttq262, fq262_0, fq262_1, ecq262_0, tcq262_0, gq262, efq262_0, afq262_0, bfq262_0, efq262_1, afq262_1, bfq262_1, uq262_0, uq262_1, uq262_2, uq262_3, uq262_4, uq262_5, uq262_6⟩ := wq262
                dsimp only at uq262_3 uq262_4 uq262_5 uq262_6
                refine ⟨_, gq262, ?_⟩
                show gz gPP gGG gcn _ _ 67 [some (.ref x), some (.int (zi b))] [] hq262 _
                have G263 : gSg [114] [] [56000, 56001, 56002, 56003, 71012, 71013, 71014, 80999, 97999, 114999] ty h tyq262 hq262 := gSg.tr (gSg.ss lp11G sh12 (by decide)) xq262 (by decide) (by decide) (fun x hx => by cases hx)
                have t264 : tyq262 x = 71 := gSg.typ xq262 sh12.1 lp11c0 rfl
                have t265 : tyq262 sk = 56 := gSg.typ xq262 sh12.1 lp11c1 rfl
                have t266 : tyq262 bv = 114 := gSg.typ xq262 sh12.1 lp11r1 rfl
                have hl267 : hq262.2.2.2.1 bv = h12.2.2.2.1 bv := gSg.len xq262 sh12.1 lp11r1 rfl
                have s268 := gSg.at xq262 sh12.1 lp11c0 rfl (by decide) lp11k0
                have s269 := gSg.at xq262 sh12.1 lp11c0 rfl (by decide) lp11k1
                have s270 := gSg.at xq262 sh12.1 lp11c0 rfl (by decide) lp11k2
                have s271 := gSg.at xq262 sh12.1 lp11c0 rfl (by decide) lp11k3
                have s272 := gSg.at xq262 sh12.1 lp11c0 rfl (by decide) lp11k4
                have s273 := gSg.at xq262 sh12.1 lp11c0 rfl (by decide) lp11k5
                have uq274 := gSg.uq xq262 lp11u (by decide)
                have sS275 : gSs rT 1027 tyq262 [56000, 56001, 56002, 56003, 71012, 71013, 71014, 80999, 97999, 114999] hq262 hq262 := gSs.rf xq262.1
                refine gz_s 1 (pc' := 68) (L' := [some (.ref x), some (.int (zi b))]) (S' := [.ref x]) rfl ?_
                refine gs_gtk rfl (by decide) rfl sS275.1 t264 rfl rfl s271 ?_
                by_cases hc276 : (tt : Int) ≤ 0
                · refine gy_ifT (pc' := 92) rfl (by decide) (by decide) (by omega) hc276 ?_
                  refine gz_s 1 (pc' := 93) (L' := [some (.ref x), some (.int (zi b))]) (S' := [.ref x]) rfl ?_
                  refine gs_gtk rfl (by decide) rfl sS275.1 t264 rfl rfl s271 ?_
                  refine gy_ifT (pc' := 107) rfl (by decide) (by decide) (by omega) (by first | (simp [zc]; done) | (simp only [zc]; omega)) ?_
                  refine gy_s 2 (pc' := 7) (L' := [some (.ref x), some (.int ((zi b) + zi 1))]) (S' := []) (L2 := [some (.ref x), some (.int (zi (b + 1)))]) (S2 := []) rfl (by simp only [zi_add, zi_sub, zi_mul, zi_neg, zi_and1, zi_and7, zi_and15, zi_and31, zi_and255]) (by simp only [zi_add, zi_sub, zi_mul, zi_neg, zi_and1, zi_and7, zi_and15, zi_and31, zi_and255]) ?_
                  have G277 : gSg [114] [] [56000, 56001, 56002, 56003, 71012, 71013, 71014, 80999, 97999, 114999] ty h tyq262 hq262 := gSg.ss G263 sS275 (by decide)
                  exact gz_wk (ihlp11 tyq262 hq262 cq262_0 (b + 1) fq262_0 fq262_1 (by omega) G277 uq274 t264 t265 ecq262_0 tcq262_0 (by omega) (by omega) (by omega) (by omega) (by omega) (by omega) (by omega) (by omega) (by omega) (by omega) (by omega) s268 s269 s270 s271 s272 s273 efq262_0 efq262_1) (gLw.s (gLw.s gLw.z))
                · refine gy_ifF rfl (by decide) (by decide) (by omega) hc276 ?_
                  refine gz_s 1 (pc' := 75) (L' := [some (.ref x), some (.int (zi b))]) (S' := [.ref x]) rfl ?_
                  refine gs_get rfl (by decide) rfl sS275.1 t264 rfl rfl rfl (fun z278 ez278 az278 bz278 => ?_)
                  by_cases hc279 : (z278 : Int) ≤ 0
                  · refine gy_ifT (pc' := 92) rfl (by decide) (by decide) (by omega) hc279 ?_
                    refine gz_s 1 (pc' := 93) (L' := [some (.ref x), some (.int (zi b))]) (S' := [.ref x]) rfl ?_
                    refine gs_gtk rfl (by decide) rfl sS275.1 t264 rfl rfl s271 ?_
                    refine gy_ifF rfl (by decide) (by decide) (by omega) (by first | (simp [zc]; done) | (simp only [zc]; omega)) ?_
                    refine gy_s 4 (pc' := 104) (L' := [some (.ref x), some (.int (zi b))]) (S' := [.int ((zi b) * (zi 64)), .ref x]) (L2 := [some (.ref x), some (.int (zi b))]) (S2 := [.int (zi (b * 64)), .ref x]) rfl (by simp only [zi_add, zi_sub, zi_mul, zi_neg, zi_and1, zi_and7, zi_and15, zi_and31, zi_and255]) (by simp only [zi_add, zi_sub, zi_mul, zi_neg, zi_and1, zi_and7, zi_and15, zi_and31, zi_and255]) ?_
                    have hl280 : hq262.2.2.2.1 cq262_0 = hq262.2.2.2.1 cq262_0 := congrFun sS275.2.2.2.2.1 cq262_0
                    refine gz_call rfl (by decide) rfl (by decide) (by decide) (gcal_of rfl rfl rfl (Nat.le_of_ble_eq_true rfl) (gJ.recv (G := gGG) sS275.1 t264 rfl rfl)) (cl_Writer_putOthers _ sS275.1 x t264 (b * 64) (by omega) sk s268 t265 cq262_0 ecq262_0 tcq262_0 fq262_0 efq262_0 (by omega) fq262_1 efq262_1 (by omega) cg s269 (by omega) fr s270 (by omega) tt s271 (by omega) (by omega) (by omega) (by omega) (by omega) uq274) (fun q281 _ wq281 => ?_)
                    obtain ⟨pq281, oq281, hq281⟩ := q281
                    obtain ⟨tyq281, xq281, cq281_0, ttq281, fq281_0, fq281_1, ecq281_0, tcq281_0, gq281, efq281_0, afq281_0, bfq281_0, efq281_1, afq281_1, bfq281_1, uq281_0, uq281_1, uq281_2, uq281_3, uq281_4, uq281_5, uq281_6⟩ := wq281
                    dsimp only at uq281_3 uq281_4 uq281_5 uq281_6
                    refine ⟨_, gq281, ?_⟩
                    show gz gPP gGG gcn _ _ 107 [some (.ref x), some (.int (zi b))] [] hq281 _
                    have G282 : gSg [114] [] [56000, 56001, 56002, 56003, 71012, 71013, 71014, 80999, 97999, 114999] ty h tyq281 hq281 := gSg.tr (gSg.ss G263 sS275 (by decide)) xq281 (by decide) (by decide) (fun x hx => by cases hx)
                    have t283 : tyq281 x = 71 := gSg.typ xq281 sS275.1 t264 rfl
                    have t284 : tyq281 sk = 56 := gSg.typ xq281 sS275.1 t265 rfl
                    have t285 : tyq281 bv = 114 := gSg.typ xq281 sS275.1 t266 rfl
                    have hl286 : hq281.2.2.2.1 bv = hq262.2.2.2.1 bv := gSg.len xq281 sS275.1 t266 rfl
                    have t287 : tyq281 cq262_0 = 114 := gSg.typ xq281 sS275.1 tcq262_0 rfl
                    have hl288 : hq281.2.2.2.1 cq262_0 = hq262.2.2.2.1 cq262_0 := gSg.len xq281 sS275.1 tcq262_0 rfl
                    have s289 := gSg.at xq281 sS275.1 t264 rfl (by decide) s268
                    have s290 := gSg.at xq281 sS275.1 t264 rfl (by decide) s269
                    have s291 := gSg.at xq281 sS275.1 t264 rfl (by decide) s270
                    have s292 := gSg.at xq281 sS275.1 t264 rfl (by decide) s271
                    have s293 := gSg.at xq281 sS275.1 t264 rfl (by decide) s272
                    have s294 := gSg.at xq281 sS275.1 t264 rfl (by decide) s273
                    have s295 := gSg.at xq281 sS275.1 t264 rfl (by decide) ez278
                    have uq296 := gSg.uq xq281 uq274 (by decide)
                    have sS297 : gSs rT 1027 tyq281 [56000, 56001, 56002, 56003, 71012, 71013, 71014, 80999, 97999, 114999] hq281 hq281 := gSs.rf xq281.1
                    refine gy_s 2 (pc' := 7) (L' := [some (.ref x), some (.int ((zi b) + zi 1))]) (S' := []) (L2 := [some (.ref x), some (.int (zi (b + 1)))]) (S2 := []) rfl (by simp only [zi_add, zi_sub, zi_mul, zi_neg, zi_and1, zi_and7, zi_and15, zi_and31, zi_and255]) (by simp only [zi_add, zi_sub, zi_mul, zi_neg, zi_and1, zi_and7, zi_and15, zi_and31, zi_and255]) ?_
                    have G298 : gSg [114] [] [56000, 56001, 56002, 56003, 71012, 71013, 71014, 80999, 97999, 114999] ty h tyq281 hq281 := gSg.ss G282 sS297 (by decide)
                    exact gz_wk (ihlp11 tyq281 hq281 cq281_0 (b + 1) fq281_0 fq281_1 (by omega) G298 uq296 t283 t284 ecq281_0 tcq281_0 (by omega) (by omega) (by omega) (by omega) (by omega) (by omega) (by omega) (by omega) (by omega) (by omega) (by omega) s289 s290 s291 s292 s293 s294 efq281_0 efq281_1) (gLw.s (gLw.s gLw.z))
                  · refine gy_ifF rfl (by decide) (by decide) (by omega) hc279 ?_
                    refine gy_s 4 (pc' := 86) (L' := [some (.ref x), some (.int (zi b))]) (S' := [.int ((zi b) * (zi 64)), .ref x]) (L2 := [some (.ref x), some (.int (zi b))]) (S2 := [.int (zi (b * 64)), .ref x]) rfl (by simp only [zi_add, zi_sub, zi_mul, zi_neg, zi_and1, zi_and7, zi_and15, zi_and31, zi_and255]) (by simp only [zi_add, zi_sub, zi_mul, zi_neg, zi_and1, zi_and7, zi_and15, zi_and31, zi_and255]) ?_
                    have hl299 : hq262.2.2.2.1 cq262_0 = hq262.2.2.2.1 cq262_0 := congrFun sS275.2.2.2.2.1 cq262_0
                    obtain ⟨z300, ez300, az300, bz300⟩ := gJ.int (k := 10) (G := gGG) sS275.1 t264 rfl rfl rfl
                    refine gz_call rfl (by decide) rfl (by decide) (by decide) (gcal_of rfl rfl rfl (Nat.le_of_ble_eq_true rfl) (gJ.recv (G := gGG) sS275.1 t264 rfl rfl)) (cl_Writer_refineOthers _ sS275.1 x t264 (b * 64) (by omega) sk s268 t265 cq262_0 ecq262_0 tcq262_0 fq262_0 efq262_0 (by omega) fq262_1 efq262_1 (by omega) cg s269 (by omega) fr s270 (by omega) tt s271 (by omega) z300 ez300 (by omega) (by omega) (by omega) (by omega) uq274) (fun q301 _ wq301 => ?_)
                    obtain ⟨pq301, oq301, hq301⟩ := q301
                    obtain ⟨tyq301, xq301, cq301_0, ttq301, fq301_0, fq301_1, ecq301_0, tcq301_0, gq301, efq301_0, afq301_0, bfq301_0, efq301_1, afq301_1, bfq301_1, uq301_0, uq301_1, uq301_2, uq301_3, uq301_4, uq301_5, uq301_6⟩ := wq301
                    dsimp only at uq301_3 uq301_4 uq301_5 uq301_6
                    refine ⟨_, gq301, ?_⟩
                    show gz gPP gGG gcn _ _ 89 [some (.ref x), some (.int (zi b))] [] hq301 _
                    have G302 : gSg [114] [] [56000, 56001, 56002, 56003, 71012, 71013, 71014, 80999, 97999, 114999] ty h tyq301 hq301 := gSg.tr (gSg.ss G263 sS275 (by decide)) xq301 (by decide) (by decide) (fun x hx => by cases hx)
                    have t303 : tyq301 x = 71 := gSg.typ xq301 sS275.1 t264 rfl
                    have t304 : tyq301 sk = 56 := gSg.typ xq301 sS275.1 t265 rfl
                    have t305 : tyq301 bv = 114 := gSg.typ xq301 sS275.1 t266 rfl
                    have hl306 : hq301.2.2.2.1 bv = hq262.2.2.2.1 bv := gSg.len xq301 sS275.1 t266 rfl
                    have t307 : tyq301 cq262_0 = 114 := gSg.typ xq301 sS275.1 tcq262_0 rfl
                    have hl308 : hq301.2.2.2.1 cq262_0 = hq262.2.2.2.1 cq262_0 := gSg.len xq301 sS275.1 tcq262_0 rfl
                    have s309 := gSg.at xq301 sS275.1 t264 rfl (by decide) s268
                    have s310 := gSg.at xq301 sS275.1 t264 rfl (by decide) s269
                    have s311 := gSg.at xq301 sS275.1 t264 rfl (by decide) s270
                    have s312 := gSg.at xq301 sS275.1 t264 rfl (by decide) s271
                    have s313 := gSg.at xq301 sS275.1 t264 rfl (by decide) s272
                    have s314 := gSg.at xq301 sS275.1 t264 rfl (by decide) s273
                    have s315 := gSg.at xq301 sS275.1 t264 rfl (by decide) ez278
                    have s316 := gSg.at xq301 sS275.1 t264 rfl (by decide) ez300
                    have uq317 := gSg.uq xq301 uq274 (by decide)
                    have sS318 : gSs rT 1027 tyq301 [56000, 56001, 56002, 56003, 71012, 71013, 71014, 80999, 97999, 114999] hq301 hq301 := gSs.rf xq301.1
                    refine gy_s 3 (pc' := 7) (L' := [some (.ref x), some (.int ((zi b) + zi 1))]) (S' := []) (L2 := [some (.ref x), some (.int (zi (b + 1)))]) (S2 := []) rfl (by simp only [zi_add, zi_sub, zi_mul, zi_neg, zi_and1, zi_and7, zi_and15, zi_and31, zi_and255]) (by simp only [zi_add, zi_sub, zi_mul, zi_neg, zi_and1, zi_and7, zi_and15, zi_and31, zi_and255]) ?_
                    have G319 : gSg [114] [] [56000, 56001, 56002, 56003, 71012, 71013, 71014, 80999, 97999, 114999] ty h tyq301 hq301 := gSg.ss G302 sS318 (by decide)
                    exact gz_wk (ihlp11 tyq301 hq301 cq301_0 (b + 1) fq301_0 fq301_1 (by omega) G319 uq317 t303 t304 ecq301_0 tcq301_0 (by omega) (by omega) (by omega) (by omega) (by omega) (by omega) (by omega) (by omega) (by omega) (by omega) (by omega) s309 s310 s311 s312 s313 s314 efq301_0 efq301_1) (gLw.s (gLw.s gLw.z))
            · refine gy_ifF rfl (by decide) (by decide) (by omega) hc219 ?_
              refine gz_s 2 (pc' := 37) (L' := [some (.ref x), some (.int (zi b))]) (S' := [.int (zi 0), .ref x]) rfl ?_
              refine gs_put rfl (by decide) rfl sh12 lp11c0 rfl rfl rfl rfl (Or.inl rfl) (by decide) (by omega) (by omega) (fun h320 sh320 eh320 fh320 => ?_)
              have s321 := (fh320 x 0 (fun q => absurd q.2 (by decide))).trans lp11k0
              have s322 := (fh320 x 11 (fun q => absurd q.2 (by decide))).trans lp11k1
              have s323 := (fh320 x 7 (fun q => absurd q.2 (by decide))).trans lp11k2
              have s324 := (fh320 x 8 (fun q => absurd q.2 (by decide))).trans lp11k3
              have s325 := (fh320 x 5 (fun q => absurd q.2 (by decide))).trans lp11k4
              have s326 := (fh320 x 6 (fun q => absurd q.2 (by decide))).trans lp11k5
              have s327 := (fh320 sk 1 (fun q => absurd q.2 (by decide))).trans lp11k6
              have s328 := (fh320 sk 3 (fun q => absurd q.2 (by decide))).trans lp11k7
              have s329 := (fh320 sk 0 (fun q => absurd q.2 (by decide))).trans lp11r0
              refine gz_s 3 (pc' := 43) (L' := [some (.ref x), some (.int (zi b))]) (S' := [.ref x, .int (zi b), .ref x]) rfl ?_
              refine gs_gtk rfl (by decide) rfl sh320.1 lp11c0 rfl rfl s326 ?_
              refine gy_div rfl (by decide) (by omega) (by omega) ?_
              have hd330 := zd_f (x := b) (y := iv) (by omega) (by omega)
              refine gy_s 2 (pc' := 49) (L' := [some (.ref x), some (.int (zi b))]) (S' := [.int ((zi (b / iv)) - (zi 1)), .ref x]) (L2 := [some (.ref x), some (.int (zi b))]) (S2 := [.int (zi ((b / iv) - 1)), .ref x]) rfl (by simp only [zi_add, zi_sub, zi_mul, zi_neg, zi_and1, zi_and7, zi_and15, zi_and31, zi_and255]) (by simp only [zi_add, zi_sub, zi_mul, zi_neg, zi_and1, zi_and7, zi_and15, zi_and31, zi_and255]) ?_
              have k331 := sh320.2.1
              have k331b := sh320.2.2.1
              have hl332 : h320.2.2.2.1 bv = h12.2.2.2.1 bv := congrFun sh320.2.2.2.2.1 bv
              have hl333 : h320.2.2.2.1 bv = h12.2.2.2.1 bv := congrFun sh320.2.2.2.2.1 bv
              refine gz_call rfl (by decide) rfl (by decide) (by decide) (gcal_of rfl rfl rfl (Nat.le_of_ble_eq_true rfl) (gJ.recv (G := gGG) sh320.1 lp11c0 rfl rfl)) (cl_Writer_putRestart _ sh320.1 x lp11c0 ((b / iv) - 1) (by omega) sk s321 lp11c1 bv s329 lp11r1 cv s327 (by omega) hv s328 (by omega) cg s322 (by omega) (by omega) (by omega) lp11u) (fun q334 _ wq334 => ?_)
              obtain ⟨pq334, oq334, hq334⟩ := q334
              obtain ⟨tyq334, xq334, cq334_0, ttq334, fq334_0, fq334_1, ecq334_0, tcq334_0, gq334, efq334_0, afq334_0, bfq334_0, efq334_1, afq334_1, bfq334_1, uq334_0, uq334_1, uq334_2, uq334_3, uq334_4, uq334_5, uq334_6⟩ := wq334
              dsimp only at uq334_3 uq334_4 uq334_5 uq334_6
              refine ⟨_, gq334, ?_⟩
              show gz gPP gGG gcn _ _ 52 [some (.ref x), some (.int (zi b))] [] hq334 _
              have G335 : gSg [114] [] [56000, 56001, 56002, 56003, 71012, 71013, 71014, 80999, 97999, 114999] ty h tyq334 hq334 := gSg.tr (gSg.ss lp11G sh320 (by decide)) xq334 (by decide) (by decide) (fun x hx => by cases hx)
              have t336 : tyq334 x = 71 := gSg.typ xq334 sh320.1 lp11c0 rfl
              have t337 : tyq334 sk = 56 := gSg.typ xq334 sh320.1 lp11c1 rfl
              have t338 : tyq334 bv = 114 := gSg.typ xq334 sh320.1 lp11r1 rfl
              have hl339 : hq334.2.2.2.1 bv = h320.2.2.2.1 bv := gSg.len xq334 sh320.1 lp11r1 rfl
              have s340 := gSg.at xq334 sh320.1 lp11c0 rfl (by decide) s321
              have s341 := gSg.at xq334 sh320.1 lp11c0 rfl (by decide) s322
              have s342 := gSg.at xq334 sh320.1 lp11c0 rfl (by decide) s323
              have s343 := gSg.at xq334 sh320.1 lp11c0 rfl (by decide) s324
              have s344 := gSg.at xq334 sh320.1 lp11c0 rfl (by decide) s325
              have s345 := gSg.at xq334 sh320.1 lp11c0 rfl (by decide) s326
              have s346 := gSg.at xq334 sh320.1 lp11c0 rfl (by decide) eh320
              have uq347 := gSg.uq xq334 lp11u (by decide)
              have sS348 : gSs rT 1027 tyq334 [56000, 56001, 56002, 56003, 71012, 71013, 71014, 80999, 97999, 114999] hq334 hq334 := gSs.rf xq334.1
              refine gz_s 1 (pc' := 53) (L' := [some (.ref x), some (.int (zi b))]) (S' := [.ref x]) rfl ?_
              refine gs_gtk rfl (by decide) rfl sS348.1 t336 rfl rfl s342 ?_
              by_cases hc349 : ¬ (fr : Int) = 0
              · refine gy_ifT (pc' := 67) rfl (by decide) (by decide) (by omega) hc349 ?_
                refine gz_s 1 (pc' := 68) (L' := [some (.ref x), some (.int (zi b))]) (S' := [.ref x]) rfl ?_
                refine gs_gtk rfl (by decide) rfl sS348.1 t336 rfl rfl s343 ?_
                by_cases hc350 : (tt : Int) ≤ 0
                · refine gy_ifT (pc' := 92) rfl (by decide) (by decide) (by omega) hc350 ?_
                  refine gz_s 1 (pc' := 93) (L' := [some (.ref x), some (.int (zi b))]) (S' := [.ref x]) rfl ?_
                  refine gs_gtk rfl (by decide) rfl sS348.1 t336 rfl rfl s343 ?_
                  refine gy_ifT (pc' := 107) rfl (by decide) (by decide) (by omega) (by first | (simp [zc]; done) | (simp only [zc]; omega)) ?_
                  refine gy_s 2 (pc' := 7) (L' := [some (.ref x), some (.int ((zi b) + zi 1))]) (S' := []) (L2 := [some (.ref x), some (.int (zi (b + 1)))]) (S2 := []) rfl (by simp only [zi_add, zi_sub, zi_mul, zi_neg, zi_and1, zi_and7, zi_and15, zi_and31, zi_and255]) (by simp only [zi_add, zi_sub, zi_mul, zi_neg, zi_and1, zi_and7, zi_and15, zi_and31, zi_and255]) ?_
                  have G351 : gSg [114] [] [56000, 56001, 56002, 56003, 71012, 71013, 71014, 80999, 97999, 114999] ty h tyq334 hq334 := gSg.ss G335 sS348 (by decide)
                  exact gz_wk (ihlp11 tyq334 hq334 cq334_0 (b + 1) fq334_0 fq334_1 (by omega) G351 uq347 t336 t337 ecq334_0 tcq334_0 (by omega) (by omega) (by omega) (by omega) (by omega) (by omega) (by omega) (by omega) (by omega) (by omega) (by omega) s340 s341 s342 s343 s344 s345 efq334_0 efq334_1) (gLw.s (gLw.s gLw.z))
                · refine gy_ifF rfl (by decide) (by decide) (by omega) hc350 ?_
                  refine gz_s 1 (pc' := 75) (L' := [some (.ref x), some (.int (zi b))]) (S' := [.ref x]) rfl ?_
                  refine gs_get rfl (by decide) rfl sS348.1 t336 rfl rfl rfl (fun z352 ez352 az352 bz352 => ?_)
                  by_cases hc353 : (z352 : Int) ≤ 0
                  · refine gy_ifT (pc' := 92) rfl (by decide) (by decide) (by omega) hc353 ?_
                    refine gz_s 1 (pc' := 93) (L' := [some (.ref x), some (.int (zi b))]) (S' := [.ref x]) rfl ?_
                    refine gs_gtk rfl (by decide) rfl sS348.1 t336 rfl rfl s343 ?_
                    refine gy_ifF rfl (by decide) (by decide) (by omega) (by first | (simp [zc]; done) | (simp only [zc]; omega)) ?_
                    refine gy_s 4 (pc' := 104) (L' := [some (.ref x), some (.int (zi b))]) (S' := [.int ((zi b) * (zi 64)), .ref x]) (L2 := [some (.ref x), some (.int (zi b))]) (S2 := [.int (zi (b * 64)), .ref x]) rfl (by simp only [zi_add, zi_sub, zi_mul, zi_neg, zi_and1, zi_and7, zi_and15, zi_and31, zi_and255]) (by simp only [zi_add, zi_sub, zi_mul, zi_neg, zi_and1, zi_and7, zi_and15, zi_and31, zi_and255]) ?_
                    have hl354 : hq334.2.2.2.1 cq334_0 = hq334.2.2.2.1 cq334_0 := congrFun sS348.2.2.2.2.1 cq334_0
                    refine gz_call rfl (by decide) rfl (by decide) (by decide) (gcal_of rfl rfl rfl (Nat.le_of_ble_eq_true rfl) (gJ.recv (G := gGG) sS348.1 t336 rfl rfl)) (cl_Writer_putOthers _ sS348.1 x t336 (b * 64) (by omega) sk s340 t337 cq334_0 ecq334_0 tcq334_0 fq334_0 efq334_0 (by omega) fq334_1 efq334_1 (by omega) cg s341 (by omega) fr s342 (by omega) tt s343 (by omega) (by omega) (by omega) (by omega) (by omega) uq347) (fun q355 _ wq355 => ?_)
                    obtain ⟨pq355, oq355, hq355⟩ := q355
                    obtain ⟨tyq355, xq355, cq355_0, ttq355, fq355_0, fq355_1, ecq355_0, tcq355_0, gq355, efq355_0, afq355_0, bfq355_0, efq355_1, afq355_1, bfq355_1, uq355_0, uq355_1, uq355_2, uq355_3, uq355_4, uq355_5, uq355_6⟩ := wq355
                    dsimp only at uq355_3 uq355_4 uq355_5 uq355_6
                    refine ⟨_, gq355, ?_⟩
                    show gz gPP gGG gcn _ _ 107 [some (.ref x), some (.int (zi b))] [] hq355 _
                    have G356 : gSg [114] [] [56000, 56001, 56002, 56003, 71012, 71013, 71014, 80999, 97999, 114999] ty h tyq355 hq355 := gSg.tr (gSg.ss G335 sS348 (by decide)) xq355 (by decide) (by decide) (fun x hx => by cases hx)
                    have t357 : tyq355 x = 71 := gSg.typ xq355 sS348.1 t336 rfl
                    have t358 : tyq355 sk = 56 := gSg.typ xq355 sS348.1 t337 rfl
                    have t359 : tyq355 bv = 114 := gSg.typ xq355 sS348.1 t338 rfl
                    have hl360 : hq355.2.2.2.1 bv = hq334.2.2.2.1 bv := gSg.len xq355 sS348.1 t338 rfl
                    have t361 : tyq355 cq334_0 = 114 := gSg.typ xq355 sS348.1 tcq334_0 rfl
                    have hl362 : hq355.2.2.2.1 cq334_0 = hq334.2.2.2.1 cq334_0 := gSg.len xq355 sS348.1 tcq334_0 rfl
                    have s363 := gSg.at xq355 sS348.1 t336 rfl (by decide) s340
                    have s364 := gSg.at xq355 sS348.1 t336 rfl (by decide) s341
                    have s365 := gSg.at xq355 sS348.1 t336 rfl (by decide) s342
                    have s366 := gSg.at xq355 sS348.1 t336 rfl (by decide) s343
                    have s367 := gSg.at xq355 sS348.1 t336 rfl (by decide) s344
                    have s368 := gSg.at xq355 sS348.1 t336 rfl (by decide) s345
                    have s369 := gSg.at xq355 sS348.1 t336 rfl (by decide) s346
                    have s370 := gSg.at xq355 sS348.1 t336 rfl (by decide) ez352
                    have uq371 := gSg.uq xq355 uq347 (by decide)
                    have sS372 : gSs rT 1027 tyq355 [56000, 56001, 56002, 56003, 71012, 71013, 71014, 80999, 97999, 114999] hq355 hq355 := gSs.rf xq355.1
                    refine gy_s 2 (pc' := 7) (L' := [some (.ref x), some (.int ((zi b) + zi 1))]) (S' := []) (L2 := [some (.ref x), some (.int (zi (b + 1)))]) (S2 := []) rfl (by simp only [zi_add, zi_sub, zi_mul, zi_neg, zi_and1, zi_and7, zi_and15, zi_and31, zi_and255]) (by simp only [zi_add, zi_sub, zi_mul, zi_neg, zi_and1, zi_and7, zi_and15, zi_and31, zi_and255]) ?_
                    have G373 : gSg [114] [] [56000, 56001, 56002, 56003, 71012, 71013, 71014, 80999, 97999, 114999] ty h tyq355 hq355 := gSg.ss G356 sS372 (by decide)
                    exact gz_wk (ihlp11 tyq355 hq355 cq355_0 (b + 1) fq355_0 fq355_1 (by omega) G373 uq371 t357 t358 ecq355_0 tcq355_0 (by omega) (by omega) (by omega) (by omega) (by omega) (by omega) (by omega) (by omega) (by omega) (by omega) (by omega) s363 s364 s365 s366 s367 s368 efq355_0 efq355_1) (gLw.s (gLw.s gLw.z))
                  · refine gy_ifF rfl (by decide) (by decide) (by omega) hc353 ?_
                    refine gy_s 4 (pc' := 86) (L' := [some (.ref x), some (.int (zi b))]) (S' := [.int ((zi b) * (zi 64)), .ref x]) (L2 := [some (.ref x), some (.int (zi b))]) (S2 := [.int (zi (b * 64)), .ref x]) rfl (by simp only [zi_add, zi_sub, zi_mul, zi_neg, zi_and1, zi_and7, zi_and15, zi_and31, zi_and255]) (by simp only [zi_add, zi_sub, zi_mul, zi_neg, zi_and1, zi_and7, zi_and15, zi_and31, zi_and255]) ?_
                    have hl374 : hq334.2.2.2.1 cq334_0 = hq334.2.2.2.1 cq334_0 := congrFun sS348.2.2.2.2.1 cq334_0
                    obtain ⟨z375, ez375, az375, bz375⟩ := gJ.int (k := 10) (G := gGG) sS348.1 t336 rfl rfl rfl
                    refine gz_call rfl (by decide) rfl (by decide) (by decide) (gcal_of rfl rfl rfl (Nat.le_of_ble_eq_true rfl) (gJ.recv (G := gGG) sS348.1 t336 rfl rfl)) (cl_Writer_refineOthers _ sS348.1 x t336 (b * 64) (by omega) sk s340 t337 cq334_0 ecq334_0 tcq334_0 fq334_0 efq334_0 (by omega) fq334_1 efq334_1 (by omega) cg s341 (by omega) fr s342 (by omega) tt s343 (by omega) z375 ez375 (by omega) (by omega) (by omega) (by omega) uq347) (fun q376 _ wq376 => ?_)
                    obtain ⟨pq376, oq376, hq376⟩ := q376
                    obtain ⟨tyq376, xq376, cq376_0, ttq376, fq376_0, fq376_1, ecq376_0, tcq376_0, gq376, efq376_0, afq376_0, bfq376_0, efq376_1, afq376_1, bfq376_1, uq376_0, uq376_1, uq376_2, uq376_3, uq376_4, uq376_5, uq376_6⟩ := wq376
                    dsimp only at uq376_3 uq376_4 uq376_5 uq376_6
                    refine ⟨_, gq376, ?_⟩
                    show gz gPP gGG gcn _ _ 89 [some (.ref x), some (.int (zi b))] [] hq376 _
                    have G377 : gSg [114] [] [56000, 56001, 56002, 56003, 71012, 71013, 71014, 80999, 97999, 114999] ty h tyq376 hq376 := gSg.tr (gSg.ss G335 sS348 (by decide)) xq376 (by decide) (by decide) (fun x hx => by cases hx)
                    have t378 : tyq376 x = 71 := gSg.typ xq376 sS348.1 t336 rfl
                    have t379 : tyq376 sk = 56 := gSg.typ xq376 sS348.1 t337 rfl
                    have t380 : tyq376 bv = 114 := gSg.typ xq376 sS348.1 t338 rfl
                    have hl381 : hq376.2.2.2.1 bv = hq334.2.2.2.1 bv := gSg.len xq376 sS348.1 t338 rfl
                    have t382 : tyq376 cq334_0 = 114 := gSg.typ xq376 sS348.1 tcq334_0 rfl
                    have hl383 : hq376.2.2.2.1 cq334_0 = hq334.2.2.2.1 cq334_0 := gSg.len xq376 sS348.1 tcq334_0 rfl
                    have s384 := gSg.at xq376 sS348.1 t336 rfl (by decide) s340
                    have s385 := gSg.at xq376 sS348.1 t336 rfl (by decide) s341
                    have s386 := gSg.at xq376 sS348.1 t336 rfl (by decide) s342
                    have s387 := gSg.at xq376 sS348.1 t336 rfl (by decide) s343
                    have s388 := gSg.at xq376 sS348.1 t336 rfl (by decide) s344
                    have s389 := gSg.at xq376 sS348.1 t336 rfl (by decide) s345
                    have s390 := gSg.at xq376 sS348.1 t336 rfl (by decide) s346
                    have s391 := gSg.at xq376 sS348.1 t336 rfl (by decide) ez352
                    have s392 := gSg.at xq376 sS348.1 t336 rfl (by decide) ez375
                    have uq393 := gSg.uq xq376 uq347 (by decide)
                    have sS394 : gSs rT 1027 tyq376 [56000, 56001, 56002, 56003, 71012, 71013, 71014, 80999, 97999, 114999] hq376 hq376 := gSs.rf xq376.1
                    refine gy_s 3 (pc' := 7) (L' := [some (.ref x), some (.int ((zi b) + zi 1))]) (S' := []) (L2 := [some (.ref x), some (.int (zi (b + 1)))]) (S2 := []) rfl (by simp only [zi_add, zi_sub, zi_mul, zi_neg, zi_and1, zi_and7, zi_and15, zi_and31, zi_and255]) (by simp only [zi_add, zi_sub, zi_mul, zi_neg, zi_and1, zi_and7, zi_and15, zi_and31, zi_and255]) ?_
                    have G395 : gSg [114] [] [56000, 56001, 56002, 56003, 71012, 71013, 71014, 80999, 97999, 114999] ty h tyq376 hq376 := gSg.ss G377 sS394 (by decide)
                    exact gz_wk (ihlp11 tyq376 hq376 cq376_0 (b + 1) fq376_0 fq376_1 (by omega) G395 uq393 t378 t379 ecq376_0 tcq376_0 (by omega) (by omega) (by omega) (by omega) (by omega) (by omega) (by omega) (by omega) (by omega) (by omega) (by omega) s384 s385 s386 s387 s388 s389 efq376_0 efq376_1) (gLw.s (gLw.s gLw.z))
              · refine gy_ifF rfl (by decide) (by decide) (by omega) hc349 ?_
                refine gy_s 4 (pc' := 64) (L' := [some (.ref x), some (.int (zi b))]) (S' := [.int ((zi b) * (zi 64)), .ref x]) (L2 := [some (.ref x), some (.int (zi b))]) (S2 := [.int (zi (b * 64)), .ref x]) rfl (by simp only [zi_add, zi_sub, zi_mul, zi_neg, zi_and1, zi_and7, zi_and15, zi_and31, zi_and255]) (by simp only [zi_add, zi_sub, zi_mul, zi_neg, zi_and1, zi_and7, zi_and15, zi_and31, zi_and255]) ?_
                have hl396 : hq334.2.2.2.1 cq334_0 = hq334.2.2.2.1 cq334_0 := congrFun sS348.2.2.2.2.1 cq334_0
                refine gz_call rfl (by decide) rfl (by decide) (by decide) (gcal_of rfl rfl rfl (Nat.le_of_ble_eq_true rfl) (gJ.recv (G := gGG) sS348.1 t336 rfl rfl)) (cl_Writer_putFirst _ sS348.1 x t336 (b * 64) (by omega) sk s340 t337 cq334_0 ecq334_0 tcq334_0 fq334_0 efq334_0 (by omega) fq334_1 efq334_1 (by omega) cg s341 (by omega) (by omega) (by omega) uq347) (fun q397 _ wq397 => ?_)
                obtain ⟨pq397, oq397, hq397⟩ := q397
                obtain ⟨tyq397, xq397, cq397_0, ttq397, fq397_0, fq397_1, ecq397_0, tcq397_0, gq397, efq397_0, afq397_0, bfq397_0, efq397_1, afq397_1, bfq397_1, uq397_0, uq397_1, uq397_2, uq397_3, uq397_4, uq397_5, uq397_6⟩ := wq397
                dsimp only at uq397_3 uq397_4 uq397_5 uq397_6
                refine ⟨_, gq397, ?_⟩
                show gz gPP gGG gcn _ _ 67 [some (.ref x), some (.int (zi b))] [] hq397 _
                have G398 : gSg [114] [] [56000, 56001, 56002, 56003, 71012, 71013, 71014, 80999, 97999, 114999] ty h tyq397 hq397 := gSg.tr (gSg.ss G335 sS348 (by decide)) xq397 (by decide) (by decide) (fun x hx => by cases hx)
                have t399 : tyq397 x = 71 := gSg.typ xq397 sS348.1 t336 rfl
                have t400 : tyq397 sk = 56 := gSg.typ xq397 sS348.1 t337 rfl
                have t401 : tyq397 bv = 114 := gSg.typ xq397 sS348.1 t338 rfl
                have hl402 : hq397.2.2.2.1 bv = hq334.2.2.2.1 bv := gSg.len xq397 sS348.1 t338 rfl
                have t403 : tyq397 cq334_0 = 114 := gSg.typ xq397 sS348.1 tcq334_0 rfl
                have hl404 : hq397.2.2.2.1 cq334_0 = hq334.2.2.2.1 cq334_0 := gSg.len xq397 sS348.1 tcq334_0 rfl
                have s405 := gSg.at xq397 sS348.1 t336 rfl (by decide) s340
                have s406 := gSg.at xq397 sS348.1 t336 rfl (by decide) s341
                have s407 := gSg.at xq397 sS348.1 t336 rfl (by decide) s342
                have s408 := gSg.at xq397 sS348.1 t336 rfl (by decide) s343
                have s409 := gSg.at xq397 sS348.1 t336 rfl (by decide) s344
                have s410 := gSg.at xq397 sS348.1 t336 rfl (by decide) s345
                have uq411 := gSg.uq xq397 uq347 (by decide)
                have sS412 : gSs rT 1027 tyq397 [56000, 56001, 56002, 56003, 71012, 71013, 71014, 80999, 97999, 114999] hq397 hq397 := gSs.rf xq397.1
                refine gz_s 1 (pc' := 68) (L' := [some (.ref x), some (.int (zi b))]) (S' := [.ref x]) rfl ?_
                refine gs_gtk rfl (by decide) rfl sS412.1 t399 rfl rfl s408 ?_
                by_cases hc413 : (tt : Int) ≤ 0
                · refine gy_ifT (pc' := 92) rfl (by decide) (by decide) (by omega) hc413 ?_
                  refine gz_s 1 (pc' := 93) (L' := [some (.ref x), some (.int (zi b))]) (S' := [.ref x]) rfl ?_
                  refine gs_gtk rfl (by decide) rfl sS412.1 t399 rfl rfl s408 ?_
                  refine gy_ifT (pc' := 107) rfl (by decide) (by decide) (by omega) (by first | (simp [zc]; done) | (simp only [zc]; omega)) ?_
                  refine gy_s 2 (pc' := 7) (L' := [some (.ref x), some (.int ((zi b) + zi 1))]) (S' := []) (L2 := [some (.ref x), some (.int (zi (b + 1)))]) (S2 := []) rfl (by simp only [zi_add, zi_sub, zi_mul, zi_neg, zi_and1, zi_and7, zi_and15, zi_and31, zi_and255]) (by simp only [zi_add, zi_sub, zi_mul, zi_neg, zi_and1, zi_and7, zi_and15, zi_and31, zi_and255]) ?_
                  have G414 : gSg [114] [] [56000, 56001, 56002, 56003, 71012, 71013, 71014, 80999, 97999, 114999] ty h tyq397 hq397 := gSg.ss G398 sS412 (by decide)
                  exact gz_wk (ihlp11 tyq397 hq397 cq397_0 (b + 1) fq397_0 fq397_1 (by omega) G414 uq411 t399 t400 ecq397_0 tcq397_0 (by omega) (by omega) (by omega) (by omega) (by omega) (by omega) (by omega) (by omega) (by omega) (by omega) (by omega) s405 s406 s407 s408 s409 s410 efq397_0 efq397_1) (gLw.s (gLw.s gLw.z))
                · refine gy_ifF rfl (by decide) (by decide) (by omega) hc413 ?_
                  refine gz_s 1 (pc' := 75) (L' := [some (.ref x), some (.int (zi b))]) (S' := [.ref x]) rfl ?_
                  refine gs_get rfl (by decide) rfl sS412.1 t399 rfl rfl rfl (fun z415 ez415 az415 bz415 => ?_)
                  by_cases hc416 : (z415 : Int) ≤ 0
                  · refine gy_ifT (pc' := 92) rfl (by decide) (by decide) (by omega) hc416 ?_
                    refine gz_s 1 (pc' := 93) (L' := [some (.ref x), some (.int (zi b))]) (S' := [.ref x]) rfl ?_
                    refine gs_gtk rfl (by decide) rfl sS412.1 t399 rfl rfl s408 ?_
                    refine gy_ifF rfl (by decide) (by decide) (by omega) (by first | (simp [zc]; done) | (simp only [zc]; omega)) ?_
                    refine gy_s 4 (pc' := 104) (L' := [some (.ref x), some (.int (zi b))]) (S' := [.int ((zi b) * (zi 64)), .ref x]) (L2 := [some (.ref x), some (.int (zi b))]) (S2 := [.int (zi (b * 64)), .ref x]) rfl (by simp only [zi_add, zi_sub, zi_mul, zi_neg, zi_and1, zi_and7, zi_and15, zi_and31, zi_and255]) (by simp only [zi_add, zi_sub, zi_mul, zi_neg, zi_and1, zi_and7, zi_and15, zi_and31, zi_and255]) ?_
                    have hl417 : hq397.2.2.2.1 cq397_0 = hq397.2.2.2.1 cq397_0 := congrFun sS412.2.2.2.2.1 cq397_0
                    refine gz_call rfl (by decide) rfl (by decide) (by decide) (gcal_of rfl rfl rfl (Nat.le_of_ble_eq_true rfl) (gJ.recv (G := gGG) sS412.1 t399 rfl rfl)) (cl_Writer_putOthers _ sS412.1 x t399 (b * 64) (by omega) sk s405 t400 cq397_0 ecq397_0 tcq397_0 fq397_0 efq397_0 (by omega) fq397_1 efq397_1 (by omega) cg s406 (by omega) fr s407 (by omega) tt s408 (by omega) (by omega) (by omega) (by omega) (by omega) uq411) (fun q418 _ wq418 => ?_)
                    obtain ⟨pq418, oq418, hq418⟩ := q418
                    obtain ⟨tyq418, xq418, cq418_0, ttq418, fq418_0, fq418_1, ecq418_0, tcq418_0, gq418, efq418_0, afq418_0, bfq418_0, efq418_1, afq418_1, bfq418_1, uq418_0, uq418_1, uq418_2, uq418_3, uq418_4, uq418_5, uq418_6⟩ := wq418
                    dsimp only at uq418_3 uq418_4 uq418_5 uq418_6
                    refine ⟨_, gq418, ?_⟩
                    show gz gPP gGG gcn _ _ 107 [some (.ref x), some (.int (zi b))] [] hq418 _
                    have G419 : gSg [114] [] [56000, 56001, 56002, 56003, 71012, 71013, 71014, 80999, 97999, 114999] ty h tyq418 hq418 := gSg.tr (gSg.ss G398 sS412 (by decide)) xq418 (by decide) (by decide) (fun x hx => by cases hx)
                    have t420 : tyq418 x = 71 := gSg.typ xq418 sS412.1 t399 rfl
                    have t421 : tyq418 sk = 56 := gSg.typ xq418 sS412.1 t400 rfl
                    have t422 : tyq418 bv = 114 := gSg.typ xq418 sS412.1 t401 rfl
                    have hl423 : hq418.2.2.2.1 bv = hq397.2.2.2.1 bv := gSg.len xq418 sS412.1 t401 rfl
                    have t424 : tyq418 cq334_0 = 114 := gSg.typ xq418 sS412.1 t403 rfl
                    have hl425 : hq418.2.2.2.1 cq334_0 = hq397.2.2.2.1 cq334_0 := gSg.len xq418 sS412.1 t403 rfl
                    have t426 : tyq418 cq397_0 = 114 := gSg.typ xq418 sS412.1 tcq397_0 rfl
                    have hl427 : hq418.2.2.2.1 cq397_0 = hq397.2.2.2.1 cq397_0 := gSg.len xq418 sS412.1 tcq397_0 rfl
                    have s428 := gSg.at xq418 sS412.1 t399 rfl (by decide) s405
                    have s429 := gSg.at xq418 sS412.1 t399 rfl (by decide) s406
                    have s430 := gSg.at xq418 sS412.1 t399 rfl (by decide) s407
                    have s431 := gSg.at xq418 sS412.1 t399 rfl (by decide) s408
                    have s432 := gSg.at xq418 sS412.1 t399 rfl (by decide) s409
                    have s433 := gSg.at xq418 sS412.1 t399 rfl (by decide) s410
                    have s434 := gSg.at xq418 sS412.1 t399 rfl (by decide) ez415
                    have uq435 := gSg.uq xq418 uq411 (by decide)
                    have sS436 : gSs rT 1027 tyq418 [56000, 56001, 56002, 56003, 71012, 71013, 71014, 80999, 97999, 114999] hq418 hq418 := gSs.rf xq418.1
                    refine gy_s 2 (pc' := 7) (L' := [some (.ref x), some (.int ((zi b) + zi 1))]) (S' := []) (L2 := [some (.ref x), some (.int (zi (b + 1)))]) (S2 := []) rfl (by simp only [zi_add, zi_sub, zi_mul, zi_neg, zi_and1, zi_and7, zi_and15, zi_and31, zi_and255]) (by simp only [zi_add, zi_sub, zi_mul, zi_neg, zi_and1, zi_and7, zi_and15, zi_and31, zi_and255]) ?_
                    have G437 : gSg [114] [] [56000, 56001, 56002, 56003, 71012, 71013, 71014, 80999, 97999, 114999] ty h tyq418 hq418 := gSg.ss G419 sS436 (by decide)
                    exact gz_wk (ihlp11 tyq418 hq418 cq418_0 (b + 1) fq418_0 fq418_1 (by omega) G437 uq435 t420 t421 ecq418_0 tcq418_0 (by omega) (by omega) (by omega) (by omega) (by omega) (by omega) (by omega) (by omega) (by omega) (by omega) (by omega) s428 s429 s430 s431 s432 s433 efq418_0 efq418_1) (gLw.s (gLw.s gLw.z))
                  · refine gy_ifF rfl (by decide) (by decide) (by omega) hc416 ?_
                    refine gy_s 4 (pc' := 86) (L' := [some (.ref x), some (.int (zi b))]) (S' := [.int ((zi b) * (zi 64)), .ref x]) (L2 := [some (.ref x), some (.int (zi b))]) (S2 := [.int (zi (b * 64)), .ref x]) rfl (by simp only [zi_add, zi_sub, zi_mul, zi_neg, zi_and1, zi_and7, zi_and15, zi_and31, zi_and255]) (by simp only [zi_add, zi_sub, zi_mul, zi_neg, zi_and1, zi_and7, zi_and15, zi_and31, zi_and255]) ?_
                    have hl438 : hq397.2.2.2.1 cq397_0 = hq397.2.2.2.1 cq397_0 := congrFun sS412.2.2.2.2.1 cq397_0
                    obtain ⟨z439, ez439, az439, bz439⟩ := gJ.int (k := 10) (G := gGG) sS412.1 t399 rfl rfl rfl
                    refine gz_call rfl (by decide) rfl (by decide) (by decide) (gcal_of rfl rfl rfl (Nat.le_of_ble_eq_true rfl) (gJ.recv (G := gGG) sS412.1 t399 rfl rfl)) (cl_Writer_refineOthers _ sS412.1 x t399 (b * 64) (by omega) sk s405 t400 cq397_0 ecq397_0 tcq397_0 fq397_0 efq397_0 (by omega) fq397_1 efq397_1 (by omega) cg s406 (by omega) fr s407 (by omega) tt s408 (by omega) z439 ez439 (by omega) (by omega) (by omega) (by omega) uq411) (fun q440 _ wq440 => ?_)
                    obtain ⟨pq440, oq440, hq440⟩ := q440
                    obtain ⟨tyq440, xq440, cq440_0, ttq440, fq440_0, fq440_1, ecq440_0, tcq440_0, gq440, efq440_0, afq440_0, bfq440_0, efq440_1, afq440_1, bfq440_1, uq440_0, uq440_1, uq440_2, uq440_3, uq440_4, uq440_5, uq440_6⟩ := wq440
                    dsimp only at uq440_3 uq440_4 uq440_5 uq440_6
                    refine ⟨_, gq440, ?_⟩
                    show gz gPP gGG gcn _ _ 89 [some (.ref x), some (.int (zi b))] [] hq440 _
                    have G441 : gSg [114] [] [56000, 56001, 56002, 56003, 71012, 71013, 71014, 80999, 97999, 114999] ty h tyq440 hq440 := gSg.tr (gSg.ss G398 sS412 (by decide)) xq440 (by decide) (by decide) (fun x hx => by cases hx)
                    have t442 : tyq440 x = 71 := gSg.typ xq440 sS412.1 t399 rfl
                    have t443 : tyq440 sk = 56 := gSg.typ xq440 sS412.1 t400 rfl
                    have t444 : tyq440 bv = 114 := gSg.typ xq440 sS412.1 t401 rfl
                    have hl445 : hq440.2.2.2.1 bv = hq397.2.2.2.1 bv := gSg.len xq440 sS412.1 t401 rfl
                    have t446 : tyq440 cq334_0 = 114 := gSg.typ xq440 sS412.1 t403 rfl
                    have hl447 : hq440.2.2.2.1 cq334_0 = hq397.2.2.2.1 cq334_0 := gSg.len xq440 sS412.1 t403 rfl
                    have t448 : tyq440 cq397_0 = 114 := gSg.typ xq440 sS412.1 tcq397_0 rfl
                    have hl449 : hq440.2.2.2.1 cq397_0 = hq397.2.2.2.1 cq397_0 := gSg.len xq440 sS412.1 tcq397_0 rfl
                    have s450 := gSg.at xq440 sS412.1 t399 rfl (by decide) s405
                    have s451 := gSg.at xq440 sS412.1 t399 rfl (by decide) s406
                    have s452 := gSg.at xq440 sS412.1 t399 rfl (by decide) s407
                    have s453 := gSg.at xq440 sS412.1 t399 rfl (by decide) s408
                    have s454 := gSg.at xq440 sS412.1 t399 rfl (by decide) s409
                    have s455 := gSg.at xq440 sS412.1 t399 rfl (by decide) s410
                    have s456 := gSg.at xq440 sS412.1 t399 rfl (by decide) ez415
                    have s457 := gSg.at xq440 sS412.1 t399 rfl (by decide) ez439
                    have uq458 := gSg.uq xq440 uq411 (by decide)
                    have sS459 : gSs rT 1027 tyq440 [56000, 56001, 56002, 56003, 71012, 71013, 71014, 80999, 97999, 114999] hq440 hq440 := gSs.rf xq440.1
                    refine gy_s 3 (pc' := 7) (L' := [some (.ref x), some (.int ((zi b) + zi 1))]) (S' := []) (L2 := [some (.ref x), some (.int (zi (b + 1)))]) (S2 := []) rfl (by simp only [zi_add, zi_sub, zi_mul, zi_neg, zi_and1, zi_and7, zi_and15, zi_and31, zi_and255]) (by simp only [zi_add, zi_sub, zi_mul, zi_neg, zi_and1, zi_and7, zi_and15, zi_and31, zi_and255]) ?_
                    have G460 : gSg [114] [] [56000, 56001, 56002, 56003, 71012, 71013, 71014, 80999, 97999, 114999] ty h tyq440 hq440 := gSg.ss G441 sS459 (by decide)
                    exact gz_wk (ihlp11 tyq440 hq440 cq440_0 (b + 1) fq440_0 fq440_1 (by omega) G460 uq458 t442 t443 ecq440_0 tcq440_0 (by omega) (by omega) (by omega) (by omega) (by omega) (by omega) (by omega) (by omega) (by omega) (by omega) (by omega) s450 s451 s452 s453 s454 s455 efq440_0 efq440_1) (gLw.s (gLw.s gLw.z))
  have hx0 : (0 : Int) * (656 + 320 * (tt - fr)) = 0 := Int.zero_mul _
  have k461 := sh1.2.1
  have k461b := sh1.2.2.1
  have hl462 : h1.2.2.2.1 bt = h.2.2.2.1 bt := congrFun sh1.2.2.2.2.1 bt
  have G463 : gSg [114] [] [56000, 56001, 56002, 56003, 71012, 71013, 71014, 80999, 97999, 114999] ty h ty h1 := gSg.ss G0 sh1 (by decide)
  exact gz_wk (lp11 _ ty h1 bt 0 c0 h0 (Nat.lt_succ_self _) G463 uq tx tsk s3 tbt (by omega) (by omega) (by omega) (by omega) (by omega) (by omega) (by omega) (by omega) (by omega) (by omega) (by omega) s2 s6 s7 s8 s9 s10 s4 s5) (gLw.s (gLw.s gLw.z))
