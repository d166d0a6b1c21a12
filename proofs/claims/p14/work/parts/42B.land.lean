/-! ===== methods of the landed text (by program) ===== -/
set_option maxRecDepth 20000 in
set_option maxHeartbeats 4000000 in
theorem cl_Bits_beginAt (d : Nat) {ty : Nat → Nat} {h : gH} (hJ : gJ rT 1027 ty h) (x : Nat) (tx : ty x = 67) (n : Int) (rn : (-5000) ≤ n ∧ n ≤ 5000) (uq : gUq ty) : gz gPP gGG gcn (d + 1) gt41 0 (gent [.ref x, .int (zi n)] 2) [] h (fun q _ => gSs rT 1027 ty [67001, 67003] h q.2.2 ∧ ∃ p1 : Int, gfin gt41 q.1 q.2.1 = some none ∧ q.2.2.2.2.2.2 x 1 = .int (zi p1) ∧ 0 ≤ p1 ∧ p1 ≤ 5000 ∧ (0 ≤ n → p1 = n) ∧ (n < 0 → p1 = 0)) := by
  have hS : gSs rT 1027 ty [67001, 67003] h h := gSs.rf hJ
  refine gz_s 3 (pc' := 3) (L' := [some (.ref x), some (.int (zi n))]) (S' := [.int (zi n), .int (zi 0), .ref x]) rfl ?_
  refine gz_call rfl (by decide) rfl (by decide) (by decide) (gcal_of rfl rfl rfl (Nat.le_of_ble_eq_true rfl) rfl) (cl_Math_max _ hS.1 0 (by omega) n (by omega) ) (fun q1 _ wq1 => ?_)
  obtain ⟨pq1, oq1, hq1⟩ := q1
  obtain ⟨xq1, zq1, gq1, aq1, bq1, uq1_0, uq1_1, uq1_2⟩ := wq1
  refine ⟨_, gq1, ?_⟩
  show gz gPP gGG gcn _ _ 6 [some (.ref x), some (.int (zi n))] [.int (zi zq1), .ref x] hq1 _
  have sq1 : gSs rT 1027 ty [67001, 67003] h hq1 := gSs.tr hS xq1 (by decide)
  refine gs_put rfl (by decide) rfl sq1 tx rfl rfl rfl rfl (Or.inl rfl) (by decide) (by omega) (by omega) (fun h2 sh2 eh2 fh2 => ?_)
  refine gz_s 2 (pc' := 11) (L' := [some (.ref x), some (.int (zi n))]) (S' := [.int (zi 0), .ref x]) rfl ?_
  refine gs_put rfl (by decide) rfl sh2 tx rfl rfl rfl rfl (Or.inl rfl) (by decide) (by omega) (by omega) (fun h3 sh3 eh3 fh3 => ?_)
  have s4 := (fh3 x 1 (fun q => absurd q.2 (by decide))).trans eh2
  exact gz_end (I := .return_) (len := 1) rfl (Or.inl rfl) ⟨sh3, zq1, rfl, s4, (by omega), (by omega), (by omega), (by omega)⟩
set_option maxRecDepth 20000 in
set_option maxHeartbeats 4000000 in
theorem cl_Bits_nextBit (d : Nat) {ty : Nat → Nat} {h : gH} (hJ : gJ rT 1027 ty h) (x : Nat) (tx : ty x = 67) (src : Nat) (esrc : h.2.2.2.2 x 0 = .ref src) (tsrc : ty src = 51) (sz : Int) (esz : h.2.2.2.2 src 1 = .int (zi sz)) (rsz : 0 ≤ sz ∧ sz ≤ 2000) (p0 : Int) (ep0 : h.2.2.2.2 x 1 = .int (zi p0)) (rp0 : 0 ≤ p0 ∧ p0 ≤ 2002) (l0 : Int) (el0 : h.2.2.2.2 x 3 = .int (zi l0)) (rl0 : 0 ≤ l0 ∧ l0 ≤ 8) (uq : gUq ty) : gz gPP gGG gcn (d + 0) gt49 0 (gent [.ref x] 2) [] h (fun q _ => gSs rT 1027 ty [67001, 67002, 67003] h q.2.2 ∧ ∃ z p1 l1 : Int, gfin gt49 q.1 q.2.1 = some (some (.int (zi z))) ∧ (-1) ≤ z ∧ z ≤ 1 ∧ q.2.2.2.2.2.2 x 1 = .int (zi p1) ∧ 0 ≤ p1 ∧ p1 ≤ 2002 ∧ q.2.2.2.2.2.2 x 3 = .int (zi l1) ∧ 0 ≤ l1 ∧ l1 ≤ 8 ∧ (p0 ≤ p1)) := by
  have hS : gSs rT 1027 ty [67001, 67002, 67003] h h := gSs.rf hJ
  refine gz_s 1 (pc' := 1) (L' := [some (.ref x), none]) (S' := [.ref x]) rfl ?_
  refine gs_gtk rfl (by decide) rfl hS.1 tx rfl rfl el0 ?_
  by_cases hc1 : ¬ (l0 : Int) = 0
  · refine gy_ifT (pc' := 122) rfl (by decide) (by decide) (by omega) hc1 ?_
    refine gz_s 2 (pc' := 124) (L' := [some (.ref x), none]) (S' := [.ref x, .ref x]) rfl ?_
    refine gs_gtk rfl (by decide) rfl hS.1 tx rfl rfl el0 ?_
    refine gy_s 2 (pc' := 129) (L' := [some (.ref x), none]) (S' := [.int ((zi l0) - (zi 1)), .ref x]) (L2 := [some (.ref x), none]) (S2 := [.int (zi (l0 - 1)), .ref x]) rfl (by simp only [zi_add, zi_sub, zi_mul, zi_neg, zi_and1, zi_and7, zi_and15, zi_and31, zi_and255]) (by simp only [zi_add, zi_sub, zi_mul, zi_neg, zi_and1, zi_and7, zi_and15, zi_and31, zi_and255]) ?_
    refine gs_put rfl (by decide) rfl hS tx rfl rfl rfl rfl (Or.inl rfl) (by decide) (by omega) (by omega) (fun h2 sh2 eh2 fh2 => ?_)
    have s3 := (fh2 x 0 (fun q => absurd q.2 (by decide))).trans esrc
    have s4 := (fh2 src 1 (fun q => absurd q.2 (by decide))).trans esz
    have s5 := (fh2 x 1 (fun q => absurd q.2 (by decide))).trans ep0
    refine gz_s 1 (pc' := 133) (L' := [some (.ref x), none]) (S' := [.ref x]) rfl ?_
    refine gs_get rfl (by decide) rfl sh2.1 tx rfl rfl rfl (fun z6 ez6 az6 bz6 => ?_)
    refine gz_s 1 (pc' := 137) (L' := [some (.ref x), none]) (S' := [.ref x, .int (zi z6)]) rfl ?_
    refine gs_gtk rfl (by decide) rfl sh2.1 tx rfl rfl eh2 ?_
    refine gy_shv rfl (by decide) (by omega) (by omega) (fun z7 az7 bz7 => ?_)
    refine gy_s 2 (pc' := 143) (L' := [some (.ref x), none]) (S' := [.int ((zi z7) &&& (zi 1))]) (L2 := [some (.ref x), none]) (S2 := [.int (zi (z7 % 2))]) rfl (by simp only [zi_add, zi_sub, zi_mul, zi_neg, zi_and1, zi_and7, zi_and15, zi_and31, zi_and255]) (by simp only [zi_add, zi_sub, zi_mul, zi_neg, zi_and1, zi_and7, zi_and15, zi_and31, zi_and255]) ?_
    exact gz_end (I := .ireturn) (len := 1) rfl (Or.inl rfl) ⟨sh2, z7 % 2, p0, l0 - 1, rfl, (by omega), (by omega), s5, (by omega), (by omega), eh2, (by omega), (by omega), (by omega)⟩
  · refine gy_ifF rfl (by decide) (by decide) (by omega) hc1 ?_
    refine gz_s 1 (pc' := 8) (L' := [some (.ref x), none]) (S' := [.ref x]) rfl ?_
    refine gs_gtk rfl (by decide) rfl hS.1 tx rfl rfl ep0 ?_
    refine gz_s 1 (pc' := 12) (L' := [some (.ref x), none]) (S' := [.ref x, .int (zi p0)]) rfl ?_
    refine gs_gtk rfl (by decide) rfl hS.1 tx rfl rfl esrc ?_
    refine gs_gtk rfl (by decide) rfl hS.1 tsrc rfl rfl esz ?_
    by_cases hc8 : (p0 : Int) < sz
    · refine gy_icT (pc' := 23) rfl (by decide) (by decide) (by omega) (by omega) hc8 ?_
      refine gz_s 2 (pc' := 25) (L' := [some (.ref x), none]) (S' := [.ref x, .ref x]) rfl ?_
      refine gs_gtk rfl (by decide) rfl hS.1 tx rfl rfl esrc ?_
      refine gs_gtr rfl (by decide) rfl hS.1 tsrc rfl rfl rfl (fun c9 ec9 tc9 => ?_)
      refine gz_s 1 (pc' := 32) (L' := [some (.ref x), none]) (S' := [.ref x, .ref c9, .ref x]) rfl ?_
      refine gs_gtk rfl (by decide) rfl hS.1 tx rfl rfl ep0 ?_
      have hl10 : 2000 ≤ h.2.2.2.1 c9 ∧ h.2.2.2.1 c9 ≤ 2000 := gJ.rowl (G := gGG) hS.1 tc9 rfl
      refine gs_bald rfl (by decide) hS.1 tc9 rfl rfl (Or.inl rfl) (by decide) (fun _ => rfl) (by omega) (by omega) (fun z11 ez11 az11 bz11 => ?_)
      refine gy_s 2 (pc' := 40) (L' := [some (.ref x), none]) (S' := [.int ((zi z11) &&& (zi 255)), .ref x]) (L2 := [some (.ref x), none]) (S2 := [.int (zi (z11 % 256)), .ref x]) rfl (by simp only [zi_add, zi_sub, zi_mul, zi_neg, zi_and1, zi_and7, zi_and15, zi_and31, zi_and255]) (by simp only [zi_add, zi_sub, zi_mul, zi_neg, zi_and1, zi_and7, zi_and15, zi_and31, zi_and255]) ?_
      refine gs_put rfl (by decide) rfl hS tx rfl rfl rfl rfl (Or.inl rfl) (by decide) (by omega) (by omega) (fun h12 sh12 eh12 fh12 => ?_)
      have s13 := (fh12 x 0 (fun q => absurd q.2 (by decide))).trans esrc
      have s14 := (fh12 src 1 (fun q => absurd q.2 (by decide))).trans esz
      have s15 := (fh12 x 1 (fun q => absurd q.2 (by decide))).trans ep0
      have s16 := (fh12 x 3 (fun q => absurd q.2 (by decide))).trans el0
      have s17 := (fh12 src 0 (fun q => absurd q.2 (by decide))).trans ec9
      refine gz_s 1 (pc' := 44) (L' := [some (.ref x), none]) (S' := [.ref x]) rfl ?_
      refine gs_gtk rfl (by decide) rfl sh12.1 tx rfl rfl eh12 ?_
      refine gz_s 1 (pc' := 50) (L' := [some (.ref x), none]) (S' := [.int (zi 255), .int (zi (z11 % 256))]) rfl ?_
      by_cases hc18 : ¬ (z11 % 256 : Int) = 255
      · refine gy_icT (pc' := 57) rfl (by decide) (by decide) (by omega) (by omega) hc18 ?_
        refine gz_s 3 (pc' := 60) (L' := [some (.ref x), some (.int (zi 0))]) (S' := [.int (zi 0)]) rfl ?_
        refine gy_ifT (pc' := 98) rfl (by decide) (by decide) (by omega) (by first | (simp [zc]; done) | (simp only [zc]; omega)) ?_
        refine gz_s 2 (pc' := 100) (L' := [some (.ref x), some (.int (zi 0))]) (S' := [.ref x, .ref x]) rfl ?_
        refine gs_gtk rfl (by decide) rfl sh12.1 tx rfl rfl s15 ?_
        refine gz_s 1 (pc' := 104) (L' := [some (.ref x), some (.int (zi 0))]) (S' := [.int (zi 0), .int (zi p0), .ref x]) rfl ?_
        refine gy_ifT (pc' := 111) rfl (by decide) (by decide) (by omega) (by first | (simp [zc]; done) | (simp only [zc]; omega)) ?_
        refine gy_s 2 (pc' := 113) (L' := [some (.ref x), some (.int (zi 0))]) (S' := [.int ((zi p0) + (zi 1)), .ref x]) (L2 := [some (.ref x), some (.int (zi 0))]) (S2 := [.int (zi (p0 + 1)), .ref x]) rfl (by simp only [zi_add, zi_sub, zi_mul, zi_neg, zi_and1, zi_and7, zi_and15, zi_and31, zi_and255]) (by simp only [zi_add, zi_sub, zi_mul, zi_neg, zi_and1, zi_and7, zi_and15, zi_and31, zi_and255]) ?_
        refine gs_put rfl (by decide) rfl sh12 tx rfl rfl rfl rfl (Or.inl rfl) (by decide) (by omega) (by omega) (fun h19 sh19 eh19 fh19 => ?_)
        have s20 := (fh19 x 0 (fun q => absurd q.2 (by decide))).trans s13
        have s21 := (fh19 src 1 (fun q => absurd (((tsrc).symm.trans (congrArg ty q.1)).trans tx) (by decide))).trans s14
        have s22 := (fh19 x 3 (fun q => absurd q.2 (by decide))).trans s16
        have s23 := (fh19 src 0 (fun q => absurd q.2 (by decide))).trans s17
        have s24 := (fh19 x 2 (fun q => absurd q.2 (by decide))).trans eh12
        refine gz_s 2 (pc' := 119) (L' := [some (.ref x), some (.int (zi 0))]) (S' := [.int (zi 8), .ref x]) rfl ?_
        refine gs_put rfl (by decide) rfl sh19 tx rfl rfl rfl rfl (Or.inl rfl) (by decide) (by omega) (by omega) (fun h25 sh25 eh25 fh25 => ?_)
        have s26 := (fh25 x 0 (fun q => absurd q.2 (by decide))).trans s20
        have s27 := (fh25 src 1 (fun q => absurd q.2 (by decide))).trans s21
        have s28 := (fh25 src 0 (fun q => absurd q.2 (by decide))).trans s23
        have s29 := (fh25 x 2 (fun q => absurd q.2 (by decide))).trans s24
        have s30 := (fh25 x 1 (fun q => absurd q.2 (by decide))).trans eh19
        refine gz_s 2 (pc' := 124) (L' := [some (.ref x), some (.int (zi 0))]) (S' := [.ref x, .ref x]) rfl ?_
        refine gs_gtk rfl (by decide) rfl sh25.1 tx rfl rfl eh25 ?_
        refine gy_s 2 (pc' := 129) (L' := [some (.ref x), some (.int (zi 0))]) (S' := [.int ((zi 8) - (zi 1)), .ref x]) (L2 := [some (.ref x), some (.int (zi 0))]) (S2 := [.int (zi (8 - 1)), .ref x]) rfl (by simp only [zi_add, zi_sub, zi_mul, zi_neg, zi_and1, zi_and7, zi_and15, zi_and31, zi_and255]) (by simp only [zi_add, zi_sub, zi_mul, zi_neg, zi_and1, zi_and7, zi_and15, zi_and31, zi_and255]) ?_
        refine gs_put rfl (by decide) rfl sh25 tx rfl rfl rfl rfl (Or.inl rfl) (by decide) (by omega) (by omega) (fun h31 sh31 eh31 fh31 => ?_)
        have s32 := (fh31 x 0 (fun q => absurd q.2 (by decide))).trans s26
        have s33 := (fh31 src 1 (fun q => absurd q.2 (by decide))).trans s27
        have s34 := (fh31 src 0 (fun q => absurd q.2 (by decide))).trans s28
        have s35 := (fh31 x 2 (fun q => absurd q.2 (by decide))).trans s29
        have s36 := (fh31 x 1 (fun q => absurd q.2 (by decide))).trans s30
        refine gz_s 1 (pc' := 133) (L' := [some (.ref x), some (.int (zi 0))]) (S' := [.ref x]) rfl ?_
        refine gs_gtk rfl (by decide) rfl sh31.1 tx rfl rfl s35 ?_
        refine gz_s 1 (pc' := 137) (L' := [some (.ref x), some (.int (zi 0))]) (S' := [.ref x, .int (zi (z11 % 256))]) rfl ?_
        refine gs_gtk rfl (by decide) rfl sh31.1 tx rfl rfl eh31 ?_
        refine gy_shv rfl (by decide) (by omega) (by omega) (fun z37 az37 bz37 => ?_)
        refine gy_s 2 (pc' := 143) (L' := [some (.ref x), some (.int (zi 0))]) (S' := [.int ((zi z37) &&& (zi 1))]) (L2 := [some (.ref x), some (.int (zi 0))]) (S2 := [.int (zi (z37 % 2))]) rfl (by simp only [zi_add, zi_sub, zi_mul, zi_neg, zi_and1, zi_and7, zi_and15, zi_and31, zi_and255]) (by simp only [zi_add, zi_sub, zi_mul, zi_neg, zi_and1, zi_and7, zi_and15, zi_and31, zi_and255]) ?_
        exact gz_end (I := .ireturn) (len := 1) rfl (Or.inl rfl) ⟨sh31, z37 % 2, p0 + 1, 8 - 1, rfl, (by omega), (by omega), s36, (by omega), (by omega), eh31, (by omega), (by omega), (by omega)⟩
      · refine gy_icF rfl (by decide) (by decide) (by omega) (by omega) hc18 ?_
        refine gz_s 4 (pc' := 60) (L' := [some (.ref x), some (.int (zi 1))]) (S' := [.int (zi 1)]) rfl ?_
        refine gy_ifF rfl (by decide) (by decide) (by omega) (by first | (simp [zc]; done) | (simp only [zc]; omega)) ?_
        refine gz_s 1 (pc' := 64) (L' := [some (.ref x), some (.int (zi 1))]) (S' := [.ref x]) rfl ?_
        refine gs_gtk rfl (by decide) rfl sh12.1 tx rfl rfl s15 ?_
        refine gy_s 3 (pc' := 70) (L' := [some (.ref x), some (.int (zi 1))]) (S' := [.ref x, .int ((zi p0) + (zi 1))]) (L2 := [some (.ref x), some (.int (zi 1))]) (S2 := [.ref x, .int (zi (p0 + 1))]) rfl (by simp only [zi_add, zi_sub, zi_mul, zi_neg, zi_and1, zi_and7, zi_and15, zi_and31, zi_and255]) (by simp only [zi_add, zi_sub, zi_mul, zi_neg, zi_and1, zi_and7, zi_and15, zi_and31, zi_and255]) ?_
        refine gs_gtk rfl (by decide) rfl sh12.1 tx rfl rfl s13 ?_
        refine gs_gtk rfl (by decide) rfl sh12.1 tsrc rfl rfl s14 ?_
        by_cases hc38 : (sz : Int) ≤ p0 + 1
        · refine gy_icT (pc' := 96) rfl (by decide) (by decide) (by omega) (by omega) hc38 ?_
          refine gz_s 1 (pc' := 97) (L' := [some (.ref x), some (.int (zi 1))]) (S' := [.int (zi (-1))]) rfl ?_
          exact gz_end (I := .ireturn) (len := 1) rfl (Or.inl rfl) ⟨sh12, (-1), p0, l0, rfl, (by omega), (by omega), s15, (by omega), (by omega), s16, (by omega), (by omega), (by omega)⟩
        · refine gy_icF rfl (by decide) (by decide) (by omega) (by omega) hc38 ?_
          refine gz_s 1 (pc' := 80) (L' := [some (.ref x), some (.int (zi 1))]) (S' := [.ref x]) rfl ?_
          refine gs_gtk rfl (by decide) rfl sh12.1 tx rfl rfl s13 ?_
          refine gs_gtk rfl (by decide) rfl sh12.1 tsrc rfl rfl s17 ?_
          refine gz_s 1 (pc' := 87) (L' := [some (.ref x), some (.int (zi 1))]) (S' := [.ref x, .ref c9]) rfl ?_
          refine gs_gtk rfl (by decide) rfl sh12.1 tx rfl rfl s15 ?_
          refine gy_s 2 (pc' := 92) (L' := [some (.ref x), some (.int (zi 1))]) (S' := [.int ((zi p0) + (zi 1)), .ref c9]) (L2 := [some (.ref x), some (.int (zi 1))]) (S2 := [.int (zi (p0 + 1)), .ref c9]) rfl (by simp only [zi_add, zi_sub, zi_mul, zi_neg, zi_and1, zi_and7, zi_and15, zi_and31, zi_and255]) (by simp only [zi_add, zi_sub, zi_mul, zi_neg, zi_and1, zi_and7, zi_and15, zi_and31, zi_and255]) ?_
          have hl39 : 2000 ≤ h12.2.2.2.1 c9 ∧ h12.2.2.2.1 c9 ≤ 2000 := gJ.rowl (G := gGG) sh12.1 tc9 rfl
          refine gs_bald rfl (by decide) sh12.1 tc9 rfl rfl (Or.inl rfl) (by decide) (fun _ => rfl) (by omega) (by omega) (fun z40 ez40 az40 bz40 => ?_)
          by_cases hc41 : (z40 : Int) = 0
          · refine gy_ifT (pc' := 98) rfl (by decide) (by decide) (by omega) hc41 ?_
            refine gz_s 2 (pc' := 100) (L' := [some (.ref x), some (.int (zi 1))]) (S' := [.ref x, .ref x]) rfl ?_
            refine gs_gtk rfl (by decide) rfl sh12.1 tx rfl rfl s15 ?_
            refine gz_s 1 (pc' := 104) (L' := [some (.ref x), some (.int (zi 1))]) (S' := [.int (zi 1), .int (zi p0), .ref x]) rfl ?_
            refine gy_ifF rfl (by decide) (by decide) (by omega) (by first | (simp [zc]; done) | (simp only [zc]; omega)) ?_
            refine gy_s 3 (pc' := 113) (L' := [some (.ref x), some (.int (zi 1))]) (S' := [.int ((zi p0) + (zi 2)), .ref x]) (L2 := [some (.ref x), some (.int (zi 1))]) (S2 := [.int (zi (p0 + 2)), .ref x]) rfl (by simp only [zi_add, zi_sub, zi_mul, zi_neg, zi_and1, zi_and7, zi_and15, zi_and31, zi_and255]) (by simp only [zi_add, zi_sub, zi_mul, zi_neg, zi_and1, zi_and7, zi_and15, zi_and31, zi_and255]) ?_
            refine gs_put rfl (by decide) rfl sh12 tx rfl rfl rfl rfl (Or.inl rfl) (by decide) (by omega) (by omega) (fun h42 sh42 eh42 fh42 => ?_)
            have s43 := (fh42 x 0 (fun q => absurd q.2 (by decide))).trans s13
            have s44 := (fh42 src 1 (fun q => absurd (((tsrc).symm.trans (congrArg ty q.1)).trans tx) (by decide))).trans s14
            have s45 := (fh42 x 3 (fun q => absurd q.2 (by decide))).trans s16
            have s46 := (fh42 src 0 (fun q => absurd q.2 (by decide))).trans s17
            have s47 := (fh42 x 2 (fun q => absurd q.2 (by decide))).trans eh12
            refine gz_s 2 (pc' := 119) (L' := [some (.ref x), some (.int (zi 1))]) (S' := [.int (zi 8), .ref x]) rfl ?_
            refine gs_put rfl (by decide) rfl sh42 tx rfl rfl rfl rfl (Or.inl rfl) (by decide) (by omega) (by omega) (fun h48 sh48 eh48 fh48 => ?_)
            have s49 := (fh48 x 0 (fun q => absurd q.2 (by decide))).trans s43
            have s50 := (fh48 src 1 (fun q => absurd q.2 (by decide))).trans s44
            have s51 := (fh48 src 0 (fun q => absurd q.2 (by decide))).trans s46
            have s52 := (fh48 x 2 (fun q => absurd q.2 (by decide))).trans s47
            have s53 := (fh48 x 1 (fun q => absurd q.2 (by decide))).trans eh42
            refine gz_s 2 (pc' := 124) (L' := [some (.ref x), some (.int (zi 1))]) (S' := [.ref x, .ref x]) rfl ?_
            refine gs_gtk rfl (by decide) rfl sh48.1 tx rfl rfl eh48 ?_
            refine gy_s 2 (pc' := 129) (L' := [some (.ref x), some (.int (zi 1))]) (S' := [.int ((zi 8) - (zi 1)), .ref x]) (L2 := [some (.ref x), some (.int (zi 1))]) (S2 := [.int (zi (8 - 1)), .ref x]) rfl (by simp only [zi_add, zi_sub, zi_mul, zi_neg, zi_and1, zi_and7, zi_and15, zi_and31, zi_and255]) (by simp only [zi_add, zi_sub, zi_mul, zi_neg, zi_and1, zi_and7, zi_and15, zi_and31, zi_and255]) ?_
            refine gs_put rfl (by decide) rfl sh48 tx rfl rfl rfl rfl (Or.inl rfl) (by decide) (by omega) (by omega) (fun h54 sh54 eh54 fh54 => ?_)
            have s55 := (fh54 x 0 (fun q => absurd q.2 (by decide))).trans s49
            have s56 := (fh54 src 1 (fun q => absurd q.2 (by decide))).trans s50
            have s57 := (fh54 src 0 (fun q => absurd q.2 (by decide))).trans s51
            have s58 := (fh54 x 2 (fun q => absurd q.2 (by decide))).trans s52
            have s59 := (fh54 x 1 (fun q => absurd q.2 (by decide))).trans s53
            refine gz_s 1 (pc' := 133) (L' := [some (.ref x), some (.int (zi 1))]) (S' := [.ref x]) rfl ?_
            refine gs_gtk rfl (by decide) rfl sh54.1 tx rfl rfl s58 ?_
            refine gz_s 1 (pc' := 137) (L' := [some (.ref x), some (.int (zi 1))]) (S' := [.ref x, .int (zi (z11 % 256))]) rfl ?_
            refine gs_gtk rfl (by decide) rfl sh54.1 tx rfl rfl eh54 ?_
            refine gy_shv rfl (by decide) (by omega) (by omega) (fun z60 az60 bz60 => ?_)
            refine gy_s 2 (pc' := 143) (L' := [some (.ref x), some (.int (zi 1))]) (S' := [.int ((zi z60) &&& (zi 1))]) (L2 := [some (.ref x), some (.int (zi 1))]) (S2 := [.int (zi (z60 % 2))]) rfl (by simp only [zi_add, zi_sub, zi_mul, zi_neg, zi_and1, zi_and7, zi_and15, zi_and31, zi_and255]) (by simp only [zi_add, zi_sub, zi_mul, zi_neg, zi_and1, zi_and7, zi_and15, zi_and31, zi_and255]) ?_
            exact gz_end (I := .ireturn) (len := 1) rfl (Or.inl rfl) ⟨sh54, z60 % 2, p0 + 2, 8 - 1, rfl, (by omega), (by omega), s59, (by omega), (by omega), eh54, (by omega), (by omega), (by omega)⟩
          · refine gy_ifF rfl (by decide) (by decide) (by omega) hc41 ?_
            refine gz_s 1 (pc' := 97) (L' := [some (.ref x), some (.int (zi 1))]) (S' := [.int (zi (-1))]) rfl ?_
            exact gz_end (I := .ireturn) (len := 1) rfl (Or.inl rfl) ⟨sh12, (-1), p0, l0, rfl, (by omega), (by omega), s15, (by omega), (by omega), s16, (by omega), (by omega), (by omega)⟩
    · refine gy_icF rfl (by decide) (by decide) (by omega) (by omega) hc8 ?_
      refine gz_s 1 (pc' := 22) (L' := [some (.ref x), none]) (S' := [.int (zi (-1))]) rfl ?_
      exact gz_end (I := .ireturn) (len := 1) rfl (Or.inl rfl) ⟨hS, (-1), p0, l0, rfl, (by omega), (by omega), ep0, (by omega), (by omega), el0, (by omega), (by omega), (by omega)⟩
set_option maxRecDepth 20000 in
set_option maxHeartbeats 4000000 in
theorem cl_Bits_nextNumber (d : Nat) {ty : Nat → Nat} {h : gH} (hJ : gJ rT 1027 ty h) (x : Nat) (tx : ty x = 67) (n : Int) (rn : 0 ≤ n ∧ n ≤ 16) (src : Nat) (esrc : h.2.2.2.2 x 0 = .ref src) (tsrc : ty src = 51) (sz : Int) (esz : h.2.2.2.2 src 1 = .int (zi sz)) (rsz : 0 ≤ sz ∧ sz ≤ 2000) (p0 : Int) (ep0 : h.2.2.2.2 x 1 = .int (zi p0)) (rp0 : 0 ≤ p0 ∧ p0 ≤ 2002) (l0 : Int) (el0 : h.2.2.2.2 x 3 = .int (zi l0)) (rl0 : 0 ≤ l0 ∧ l0 ≤ 8) (uq : gUq ty) : gz gPP gGG gcn (d + 1) gt52 0 (gent [.ref x, .int (zi n)] 5) [] h (fun q _ => gSs rT 1027 ty [67001, 67002, 67003] h q.2.2 ∧ ∃ z p1 l1 : Int, gfin gt52 q.1 q.2.1 = some (some (.int (zi z))) ∧ (-1) ≤ z ∧ z ≤ 65535 ∧ q.2.2.2.2.2.2 x 1 = .int (zi p1) ∧ 0 ≤ p1 ∧ p1 ≤ 2002 ∧ q.2.2.2.2.2.2 x 3 = .int (zi l1) ∧ 0 ≤ l1 ∧ l1 ≤ 8 ∧ (p0 ≤ p1)) := by
  have hS : gSs rT 1027 ty [67001, 67002, 67003] h h := gSs.rf hJ
  refine gz_s 4 (pc' := 4) (L' := [some (.ref x), some (.int (zi n)), some (.int (zi 0)), some (.int (zi 0)), none]) (S' := []) rfl ?_
  have lp1 : ∀ (fu : Nat) (h2 : gH) (v : Int) (k : Int) (pv : Int) (lv : Int), (17 - k).toNat < fu → gSs rT 1027 ty [67001, 67002, 67003] h h2 → (0 ≤ v ∧ v ≤ 65535) → (0 ≤ k ∧ k ≤ 16) → (0 ≤ pv ∧ pv ≤ 2002) → (0 ≤ lv ∧ lv ≤ 8) → (p0 ≤ pv) → (k ≤ n) → (v < 2 ^ k.toNat) → h2.2.2.2.2 x 0 = .ref src → h2.2.2.2.2 src 1 = .int (zi sz) → h2.2.2.2.2 x 1 = .int (zi pv) → h2.2.2.2.2 x 3 = .int (zi lv) → gz gPP gGG gcn (d + 1) gt52 4 [some (.ref x), some (.int (zi n)), some (.int (zi v)), some (.int (zi k)), none] [] h2 (fun q _ => gSs rT 1027 ty [67001, 67002, 67003] h q.2.2 ∧ ∃ z p1 l1 : Int, gfin gt52 q.1 q.2.1 = some (some (.int (zi z))) ∧ (-1) ≤ z ∧ z ≤ 65535 ∧ q.2.2.2.2.2.2 x 1 = .int (zi p1) ∧ 0 ≤ p1 ∧ p1 ≤ 2002 ∧ q.2.2.2.2.2.2 x 3 = .int (zi l1) ∧ 0 ≤ l1 ∧ l1 ≤ 8 ∧ (p0 ≤ p1)) := by
    intro fu
    induction fu with
    | zero => intro h2 v k pv lv hm; exact absurd hm (Nat.not_lt_zero _)
    | succ fu ihlp1 =>
      intro h2 v k pv lv lp1m sh2 lp1f0 lp1f1 lp1f2 lp1f3 lp1f4 lp1f5 lp1f6 lp1k0 lp1k1 lp1k2 lp1k3
      have hp1 := zp_s (k := k) (by omega)
      have hp2 := zp_le (k := k) (by omega) (by omega)
      have hp3 : k < 16 → (2 : Int) ^ (k + 1).toNat ≤ 65536 := fun h9 => (zp_le (k := k + 1) (by omega) (by omega)).2
      refine gz_s 2 (pc' := 6) (L' := [some (.ref x), some (.int (zi n)), some (.int (zi v)), some (.int (zi k)), none]) (S' := [.int (zi n), .int (zi k)]) rfl ?_
      by_cases hc3 : (n : Int) ≤ k
      · refine gy_icT (pc' := 35) rfl (by decide) (by decide) (by omega) (by omega) hc3 ?_
        refine gz_s 1 (pc' := 36) (L' := [some (.ref x), some (.int (zi n)), some (.int (zi v)), some (.int (zi k)), none]) (S' := [.int (zi v)]) rfl ?_
        exact gz_end (I := .ireturn) (len := 1) rfl (Or.inl rfl) ⟨sh2, v, pv, lv, rfl, (by omega), (by omega), lp1k2, (by omega), (by omega), lp1k3, (by omega), (by omega), (by omega)⟩
      · refine gy_icF rfl (by decide) (by decide) (by omega) (by omega) hc3 ?_
        refine gz_s 1 (pc' := 10) (L' := [some (.ref x), some (.int (zi n)), some (.int (zi v)), some (.int (zi k)), none]) (S' := [.ref x]) rfl ?_
        refine gz_call rfl (by decide) rfl (by decide) (by decide) (gcal_of rfl rfl rfl (Nat.le_of_ble_eq_true rfl) (gJ.recv (G := gGG) sh2.1 tx rfl rfl)) (cl_Bits_nextBit _ sh2.1 x tx src lp1k0 tsrc sz lp1k1 (by omega) pv lp1k2 (by omega) lv lp1k3 (by omega) uq) (fun q4 _ wq4 => ?_)
        obtain ⟨pq4, oq4, hq4⟩ := q4
        obtain ⟨xq4, zq4, fq4_0, fq4_1, gq4, aq4, bq4, efq4_0, afq4_0, bfq4_0, efq4_1, afq4_1, bfq4_1, uq4_0⟩ := wq4
        refine ⟨_, gq4, ?_⟩
        show gz gPP gGG gcn _ _ 13 [some (.ref x), some (.int (zi n)), some (.int (zi v)), some (.int (zi k)), none] [.int (zi zq4)] hq4 _
        have sq4 : gSs rT 1027 ty [67001, 67002, 67003] h hq4 := gSs.tr sh2 xq4 (by decide)
        have s5 := (xq4.2.2.2.2.2 x 0 (by rw [tx]; decide)).trans lp1k0
        have s6 := (xq4.2.2.2.2.2 src 1 (by rw [tsrc]; decide)).trans lp1k1
        refine gz_s 2 (pc' := 17) (L' := [some (.ref x), some (.int (zi n)), some (.int (zi v)), some (.int (zi k)), some (.int (zi zq4))]) (S' := [.int (zi zq4)]) rfl ?_
        by_cases hc7 : (0 : Int) ≤ zq4
        · refine gy_ifT (pc' := 22) rfl (by decide) (by decide) (by omega) hc7 ?_
          refine gy_s 8 (pc' := 4) (L' := [some (.ref x), some (.int (zi n)), some (.int (((zi 2) * (zi v)) + (zi zq4))), some (.int ((zi k) + zi 1)), some (.int (zi zq4))]) (S' := []) (L2 := [some (.ref x), some (.int (zi n)), some (.int (zi ((2 * v) + zq4))), some (.int (zi (k + 1))), some (.int (zi zq4))]) (S2 := []) rfl (by simp only [zi_add, zi_sub, zi_mul, zi_neg, zi_and1, zi_and7, zi_and15, zi_and31, zi_and255]) (by simp only [zi_add, zi_sub, zi_mul, zi_neg, zi_and1, zi_and7, zi_and15, zi_and31, zi_and255]) ?_
          exact gz_wk (ihlp1 hq4 ((2 * v) + zq4) (k + 1) fq4_0 fq4_1 (by omega) sq4 (by omega) (by omega) (by omega) (by omega) (by omega) (by omega) (by omega) s5 s6 efq4_0 efq4_1) (gLw.s (gLw.s (gLw.s (gLw.s (gLw.n gLw.z)))))
        · refine gy_ifF rfl (by decide) (by decide) (by omega) hc7 ?_
          refine gz_s 1 (pc' := 21) (L' := [some (.ref x), some (.int (zi n)), some (.int (zi v)), some (.int (zi k)), some (.int (zi zq4))]) (S' := [.int (zi (-1))]) rfl ?_
          exact gz_end (I := .ireturn) (len := 1) rfl (Or.inl rfl) ⟨sq4, (-1), fq4_0, fq4_1, rfl, (by omega), (by omega), efq4_0, (by omega), (by omega), efq4_1, (by omega), (by omega), (by omega)⟩
  have hp0 : (2 : Int) ^ (0 : Int).toNat = 1 := rfl
  exact gz_wk (lp1 _ h 0 0 p0 l0 (Nat.lt_succ_self _) hS (by omega) (by omega) (by omega) (by omega) (by omega) (by omega) (by omega) esrc esz ep0 el0) (gLw.s (gLw.s (gLw.s (gLw.s (gLw.n gLw.z)))))
set_option maxRecDepth 20000 in
set_option maxHeartbeats 4000000 in
theorem cl_Bits_nextSymbol (d : Nat) {ty : Nat → Nat} {h : gH} (hJ : gJ rT 1027 ty h) (x : Nat) (tx : ty x = 67) (cd : Nat) (tcd : ty cd = 101) (src : Nat) (esrc : h.2.2.2.2 x 0 = .ref src) (tsrc : ty src = 51) (sz : Int) (esz : h.2.2.2.2 src 1 = .int (zi sz)) (rsz : 0 ≤ sz ∧ sz ≤ 2000) (p0 : Int) (ep0 : h.2.2.2.2 x 1 = .int (zi p0)) (rp0 : 0 ≤ p0 ∧ p0 ≤ 2002) (l0 : Int) (el0 : h.2.2.2.2 x 3 = .int (zi l0)) (rl0 : 0 ≤ l0 ∧ l0 ≤ 8) (uq : gUq ty) : gz gPP gGG gcn (d + 1) gt51 0 (gent [.ref x, .ref cd] 8) [] h (fun q _ => gSs rT 1027 ty [67001, 67002, 67003] h q.2.2 ∧ ∃ z p1 l1 : Int, gfin gt51 q.1 q.2.1 = some (some (.int (zi z))) ∧ (-1) ≤ z ∧ z ≤ 255 ∧ q.2.2.2.2.2.2 x 1 = .int (zi p1) ∧ 0 ≤ p1 ∧ p1 ≤ 2002 ∧ q.2.2.2.2.2.2 x 3 = .int (zi l1) ∧ 0 ≤ l1 ∧ l1 ≤ 8 ∧ (p0 ≤ p1)) := by
  have hS : gSs rT 1027 ty [67001, 67002, 67003] h h := gSs.rf hJ
  refine gz_s 8 (pc' := 10) (L' := [some (.ref x), some (.ref cd), some (.int (zi 0)), some (.int (zi 0)), some (.int (zi 0)), some (.int (zi 1)), none, none]) (S' := []) rfl ?_
  have lp1 : ∀ (fu : Nat) (h2 : gH) (cod : Int) (fst : Int) (idx : Int) (bt : Int) (pv : Int) (lv : Int), (18 - bt).toNat < fu → gSs rT 1027 ty [67001, 67002, 67003] h h2 → ((-2147483648) ≤ cod ∧ cod ≤ 2147483647) → ((-2147483648) ≤ fst ∧ fst ≤ 2147483647) → ((-2147483648) ≤ idx ∧ idx ≤ 2147483647) → (1 ≤ bt ∧ bt ≤ 17) → (0 ≤ pv ∧ pv ≤ 2002) → (0 ≤ lv ∧ lv ≤ 8) → (p0 ≤ pv) → h2.2.2.2.2 x 0 = .ref src → h2.2.2.2.2 src 1 = .int (zi sz) → h2.2.2.2.2 x 1 = .int (zi pv) → h2.2.2.2.2 x 3 = .int (zi lv) → gz gPP gGG gcn (d + 1) gt51 10 [some (.ref x), some (.ref cd), some (.int (zi cod)), some (.int (zi fst)), some (.int (zi idx)), some (.int (zi bt)), none, none] [] h2 (fun q _ => gSs rT 1027 ty [67001, 67002, 67003] h q.2.2 ∧ ∃ z p1 l1 : Int, gfin gt51 q.1 q.2.1 = some (some (.int (zi z))) ∧ (-1) ≤ z ∧ z ≤ 255 ∧ q.2.2.2.2.2.2 x 1 = .int (zi p1) ∧ 0 ≤ p1 ∧ p1 ≤ 2002 ∧ q.2.2.2.2.2.2 x 3 = .int (zi l1) ∧ 0 ≤ l1 ∧ l1 ≤ 8 ∧ (p0 ≤ p1)) := by
    intro fu
    induction fu with
    | zero => intro h2 cod fst idx bt pv lv hm; exact absurd hm (Nat.not_lt_zero _)
    | succ fu ihlp1 =>
      intro h2 cod fst idx bt pv lv lp1m sh2 lp1f0 lp1f1 lp1f2 lp1f3 lp1f4 lp1f5 lp1f6 lp1k0 lp1k1 lp1k2 lp1k3
      refine gz_s 2 (pc' := 14) (L' := [some (.ref x), some (.ref cd), some (.int (zi cod)), some (.int (zi fst)), some (.int (zi idx)), some (.int (zi bt)), none, none]) (S' := [.int (zi 16), .int (zi bt)]) rfl ?_
      by_cases hc3 : (16 : Int) < bt
      · refine gy_icT (pc' := 92) rfl (by decide) (by decide) (by omega) (by omega) hc3 ?_
        refine gz_s 1 (pc' := 93) (L' := [some (.ref x), some (.ref cd), some (.int (zi cod)), some (.int (zi fst)), some (.int (zi idx)), some (.int (zi bt)), none, none]) (S' := [.int (zi (-1))]) rfl ?_
        exact gz_end (I := .ireturn) (len := 1) rfl (Or.inl rfl) ⟨sh2, (-1), pv, lv, rfl, (by omega), (by omega), lp1k2, (by omega), (by omega), lp1k3, (by omega), (by omega), (by omega)⟩
      · refine gy_icF rfl (by decide) (by decide) (by omega) (by omega) hc3 ?_
        refine gz_s 1 (pc' := 18) (L' := [some (.ref x), some (.ref cd), some (.int (zi cod)), some (.int (zi fst)), some (.int (zi idx)), some (.int (zi bt)), none, none]) (S' := [.ref x]) rfl ?_
        refine gz_call rfl (by decide) rfl (by decide) (by decide) (gcal_of rfl rfl rfl (Nat.le_of_ble_eq_true rfl) (gJ.recv (G := gGG) sh2.1 tx rfl rfl)) (cl_Bits_nextBit _ sh2.1 x tx src lp1k0 tsrc sz lp1k1 (by omega) pv lp1k2 (by omega) lv lp1k3 (by omega) uq) (fun q4 _ wq4 => ?_)
        obtain ⟨pq4, oq4, hq4⟩ := q4
        obtain ⟨xq4, zq4, fq4_0, fq4_1, gq4, aq4, bq4, efq4_0, afq4_0, bfq4_0, efq4_1, afq4_1, bfq4_1, uq4_0⟩ := wq4
        refine ⟨_, gq4, ?_⟩
        show gz gPP gGG gcn _ _ 21 [some (.ref x), some (.ref cd), some (.int (zi cod)), some (.int (zi fst)), some (.int (zi idx)), some (.int (zi bt)), none, none] [.int (zi zq4)] hq4 _
        have sq4 : gSs rT 1027 ty [67001, 67002, 67003] h hq4 := gSs.tr sh2 xq4 (by decide)
        have s5 := (xq4.2.2.2.2.2 x 0 (by rw [tx]; decide)).trans lp1k0
        have s6 := (xq4.2.2.2.2.2 src 1 (by rw [tsrc]; decide)).trans lp1k1
        refine gz_s 2 (pc' := 25) (L' := [some (.ref x), some (.ref cd), some (.int (zi cod)), some (.int (zi fst)), some (.int (zi idx)), some (.int (zi bt)), some (.int (zi zq4)), none]) (S' := [.int (zi zq4)]) rfl ?_
        by_cases hc7 : (0 : Int) ≤ zq4
        · refine gy_ifT (pc' := 30) rfl (by decide) (by decide) (by omega) hc7 ?_
          refine gy_s 3 (pc' := 33) (L' := [some (.ref x), some (.ref cd), some (.int (zi cod)), some (.int (zi fst)), some (.int (zi idx)), some (.int (zi bt)), some (.int (zi zq4)), none]) (S' := [.int ((zi 2) * (zi cod))]) (L2 := [some (.ref x), some (.ref cd), some (.int (zi cod)), some (.int (zi fst)), some (.int (zi idx)), some (.int (zi bt)), some (.int (zi zq4)), none]) (S2 := [.int (zi (2 * cod))]) rfl (by simp only [zi_add, zi_sub, zi_mul, zi_neg, zi_and1, zi_and7, zi_and15, zi_and31, zi_and255]) (by simp only [zi_add, zi_sub, zi_mul, zi_neg, zi_and1, zi_and7, zi_and15, zi_and31, zi_and255]) ?_
          refine gy_any (fun z8 ez8 az8 bz8 => ?_)
          refine gy_s 2 (pc' := 36) (L' := [some (.ref x), some (.ref cd), some (.int (zi cod)), some (.int (zi fst)), some (.int (zi idx)), some (.int (zi bt)), some (.int (zi zq4)), none]) (S' := [.int ((zi z8) + (zi zq4))]) (L2 := [some (.ref x), some (.ref cd), some (.int (zi cod)), some (.int (zi fst)), some (.int (zi idx)), some (.int (zi bt)), some (.int (zi zq4)), none]) (S2 := [.int (zi (z8 + zq4))]) rfl (by simp only [zi_add, zi_sub, zi_mul, zi_neg, zi_and1, zi_and7, zi_and15, zi_and31, zi_and255]) (by simp only [zi_add, zi_sub, zi_mul, zi_neg, zi_and1, zi_and7, zi_and15, zi_and31, zi_and255]) ?_
          refine gy_any (fun z9 ez9 az9 bz9 => ?_)
          refine gy_any (fun z10 ez10 az10 bz10 => ?_)
          refine gy_s 4 (pc' := 40) (L' := [some (.ref x), some (.ref cd), some (.int (zi z10)), some (.int (zi fst)), some (.int (zi idx)), some (.int (zi bt)), some (.int (zi zq4)), none]) (S' := [.int ((zi 2) * (zi fst))]) (L2 := [some (.ref x), some (.ref cd), some (.int (zi z10)), some (.int (zi fst)), some (.int (zi idx)), some (.int (zi bt)), some (.int (zi zq4)), none]) (S2 := [.int (zi (2 * fst))]) rfl (by simp only [zi_add, zi_sub, zi_mul, zi_neg, zi_and1, zi_and7, zi_and15, zi_and31, zi_and255]) (by simp only [zi_add, zi_sub, zi_mul, zi_neg, zi_and1, zi_and7, zi_and15, zi_and31, zi_and255]) ?_
          refine gy_any (fun z11 ez11 az11 bz11 => ?_)
          refine gy_any (fun z12 ez12 az12 bz12 => ?_)
          refine gz_s 2 (pc' := 42) (L' := [some (.ref x), some (.ref cd), some (.int (zi z10)), some (.int (zi z12)), some (.int (zi idx)), some (.int (zi bt)), some (.int (zi zq4)), none]) (S' := [.ref cd]) rfl ?_
          refine gs_gtr rfl (by decide) rfl sq4.1 tcd rfl rfl rfl (fun c13 ec13 tc13 => ?_)
          refine gz_s 1 (pc' := 47) (L' := [some (.ref x), some (.ref cd), some (.int (zi z10)), some (.int (zi z12)), some (.int (zi idx)), some (.int (zi bt)), some (.int (zi zq4)), none]) (S' := [.int (zi bt), .ref c13]) rfl ?_
          have hl14 : 17 ≤ hq4.2.2.2.1 c13 ∧ hq4.2.2.2.1 c13 ≤ 17 := gJ.rowl (G := gGG) sq4.1 tc13 rfl
          refine gs_ald rfl (by decide) sq4.1 tc13 rfl rfl rfl (by decide) (fun _ => rfl) (by omega) (by omega) (fun z15 ez15 az15 bz15 => ?_)
          refine gy_s 4 (pc' := 53) (L' := [some (.ref x), some (.ref cd), some (.int (zi z10)), some (.int (zi z12)), some (.int (zi idx)), some (.int (zi bt)), some (.int (zi zq4)), some (.int (zi z15))]) (S' := [.int ((zi z10) - (zi z12))]) (L2 := [some (.ref x), some (.ref cd), some (.int (zi z10)), some (.int (zi z12)), some (.int (zi idx)), some (.int (zi bt)), some (.int (zi zq4)), some (.int (zi z15))]) (S2 := [.int (zi (z10 - z12))]) rfl (by simp only [zi_add, zi_sub, zi_mul, zi_neg, zi_and1, zi_and7, zi_and15, zi_and31, zi_and255]) (by simp only [zi_add, zi_sub, zi_mul, zi_neg, zi_and1, zi_and7, zi_and15, zi_and31, zi_and255]) ?_
          refine gy_any (fun z16 ez16 az16 bz16 => ?_)
          refine gz_s 1 (pc' := 55) (L' := [some (.ref x), some (.ref cd), some (.int (zi z10)), some (.int (zi z12)), some (.int (zi idx)), some (.int (zi bt)), some (.int (zi zq4)), some (.int (zi z15))]) (S' := [.int (zi z15), .int (zi z16)]) rfl ?_
          by_cases hc17 : (z15 : Int) ≤ z16
          · refine gy_icT (pc' := 74) rfl (by decide) (by decide) (by omega) (by omega) hc17 ?_
            refine gy_s 3 (pc' := 79) (L' := [some (.ref x), some (.ref cd), some (.int (zi z10)), some (.int (zi z12)), some (.int (zi idx)), some (.int (zi bt)), some (.int (zi zq4)), some (.int (zi z15))]) (S' := [.int ((zi idx) + (zi z15))]) (L2 := [some (.ref x), some (.ref cd), some (.int (zi z10)), some (.int (zi z12)), some (.int (zi idx)), some (.int (zi bt)), some (.int (zi zq4)), some (.int (zi z15))]) (S2 := [.int (zi (idx + z15))]) rfl (by simp only [zi_add, zi_sub, zi_mul, zi_neg, zi_and1, zi_and7, zi_and15, zi_and31, zi_and255]) (by simp only [zi_add, zi_sub, zi_mul, zi_neg, zi_and1, zi_and7, zi_and15, zi_and31, zi_and255]) ?_
            refine gy_any (fun z18 ez18 az18 bz18 => ?_)
            refine gy_any (fun z19 ez19 az19 bz19 => ?_)
            refine gy_s 4 (pc' := 85) (L' := [some (.ref x), some (.ref cd), some (.int (zi z10)), some (.int (zi z12)), some (.int (zi z19)), some (.int (zi bt)), some (.int (zi zq4)), some (.int (zi z15))]) (S' := [.int ((zi z12) + (zi z15))]) (L2 := [some (.ref x), some (.ref cd), some (.int (zi z10)), some (.int (zi z12)), some (.int (zi z19)), some (.int (zi bt)), some (.int (zi zq4)), some (.int (zi z15))]) (S2 := [.int (zi (z12 + z15))]) rfl (by simp only [zi_add, zi_sub, zi_mul, zi_neg, zi_and1, zi_and7, zi_and15, zi_and31, zi_and255]) (by simp only [zi_add, zi_sub, zi_mul, zi_neg, zi_and1, zi_and7, zi_and15, zi_and31, zi_and255]) ?_
            refine gy_any (fun z20 ez20 az20 bz20 => ?_)
            refine gy_any (fun z21 ez21 az21 bz21 => ?_)
            refine gy_s 3 (pc' := 10) (L' := [some (.ref x), some (.ref cd), some (.int (zi z10)), some (.int (zi z21)), some (.int (zi z19)), some (.int ((zi bt) + zi 1)), some (.int (zi zq4)), some (.int (zi z15))]) (S' := []) (L2 := [some (.ref x), some (.ref cd), some (.int (zi z10)), some (.int (zi z21)), some (.int (zi z19)), some (.int (zi (bt + 1))), some (.int (zi zq4)), some (.int (zi z15))]) (S2 := []) rfl (by simp only [zi_add, zi_sub, zi_mul, zi_neg, zi_and1, zi_and7, zi_and15, zi_and31, zi_and255]) (by simp only [zi_add, zi_sub, zi_mul, zi_neg, zi_and1, zi_and7, zi_and15, zi_and31, zi_and255]) ?_
            exact gz_wk (ihlp1 hq4 z10 z21 z19 (bt + 1) fq4_0 fq4_1 (by omega) sq4 (by omega) (by omega) (by omega) (by omega) (by omega) (by omega) (by omega) s5 s6 efq4_0 efq4_1) (gLw.s (gLw.s (gLw.s (gLw.s (gLw.s (gLw.s (gLw.n (gLw.n gLw.z))))))))
          · refine gy_icF rfl (by decide) (by decide) (by omega) (by omega) hc17 ?_
            refine gz_s 1 (pc' := 59) (L' := [some (.ref x), some (.ref cd), some (.int (zi z10)), some (.int (zi z12)), some (.int (zi idx)), some (.int (zi bt)), some (.int (zi zq4)), some (.int (zi z15))]) (S' := [.ref cd]) rfl ?_
            refine gs_gtr rfl (by decide) rfl sq4.1 tcd rfl rfl rfl (fun c22 ec22 tc22 => ?_)
            refine gy_s 3 (pc' := 66) (L' := [some (.ref x), some (.ref cd), some (.int (zi z10)), some (.int (zi z12)), some (.int (zi idx)), some (.int (zi bt)), some (.int (zi zq4)), some (.int (zi z15))]) (S' := [.int ((zi idx) + (zi z10)), .ref c22]) (L2 := [some (.ref x), some (.ref cd), some (.int (zi z10)), some (.int (zi z12)), some (.int (zi idx)), some (.int (zi bt)), some (.int (zi zq4)), some (.int (zi z15))]) (S2 := [.int (zi (idx + z10)), .ref c22]) rfl (by simp only [zi_add, zi_sub, zi_mul, zi_neg, zi_and1, zi_and7, zi_and15, zi_and31, zi_and255]) (by simp only [zi_add, zi_sub, zi_mul, zi_neg, zi_and1, zi_and7, zi_and15, zi_and31, zi_and255]) ?_
            refine gy_any (fun z23 ez23 az23 bz23 => ?_)
            refine gy_s 2 (pc' := 68) (L' := [some (.ref x), some (.ref cd), some (.int (zi z10)), some (.int (zi z12)), some (.int (zi idx)), some (.int (zi bt)), some (.int (zi zq4)), some (.int (zi z15))]) (S' := [.int ((zi z23) - (zi z12)), .ref c22]) (L2 := [some (.ref x), some (.ref cd), some (.int (zi z10)), some (.int (zi z12)), some (.int (zi idx)), some (.int (zi bt)), some (.int (zi zq4)), some (.int (zi z15))]) (S2 := [.int (zi (z23 - z12)), .ref c22]) rfl (by simp only [zi_add, zi_sub, zi_mul, zi_neg, zi_and1, zi_and7, zi_and15, zi_and31, zi_and255]) (by simp only [zi_add, zi_sub, zi_mul, zi_neg, zi_and1, zi_and7, zi_and15, zi_and31, zi_and255]) ?_
            refine gy_any (fun z24 ez24 az24 bz24 => ?_)
            refine gy_s 2 (pc' := 72) (L' := [some (.ref x), some (.ref cd), some (.int (zi z10)), some (.int (zi z12)), some (.int (zi idx)), some (.int (zi bt)), some (.int (zi zq4)), some (.int (zi z15))]) (S' := [.int ((zi z24) &&& (zi 255)), .ref c22]) (L2 := [some (.ref x), some (.ref cd), some (.int (zi z10)), some (.int (zi z12)), some (.int (zi idx)), some (.int (zi bt)), some (.int (zi zq4)), some (.int (zi z15))]) (S2 := [.int (zi (z24 % 256)), .ref c22]) rfl (by simp only [zi_add, zi_sub, zi_mul, zi_neg, zi_and1, zi_and7, zi_and15, zi_and31, zi_and255]) (by simp only [zi_add, zi_sub, zi_mul, zi_neg, zi_and1, zi_and7, zi_and15, zi_and31, zi_and255]) ?_
            have hl25 : 256 ≤ hq4.2.2.2.1 c22 ∧ hq4.2.2.2.1 c22 ≤ 256 := gJ.rowl (G := gGG) sq4.1 tc22 rfl
            refine gs_ald rfl (by decide) sq4.1 tc22 rfl rfl rfl (by decide) (fun _ => rfl) (by omega) (by omega) (fun z26 ez26 az26 bz26 => ?_)
            exact gz_end (I := .ireturn) (len := 1) rfl (Or.inl rfl) ⟨sq4, z26, fq4_0, fq4_1, rfl, (by omega), (by omega), efq4_0, (by omega), (by omega), efq4_1, (by omega), (by omega), (by omega)⟩
        · refine gy_ifF rfl (by decide) (by decide) (by omega) hc7 ?_
          refine gz_s 1 (pc' := 29) (L' := [some (.ref x), some (.ref cd), some (.int (zi cod)), some (.int (zi fst)), some (.int (zi idx)), some (.int (zi bt)), some (.int (zi zq4)), none]) (S' := [.int (zi (-1))]) rfl ?_
          exact gz_end (I := .ireturn) (len := 1) rfl (Or.inl rfl) ⟨sq4, (-1), fq4_0, fq4_1, rfl, (by omega), (by omega), efq4_0, (by omega), (by omega), efq4_1, (by omega), (by omega), (by omega)⟩
  exact gz_wk (lp1 _ h 0 0 0 1 p0 l0 (Nat.lt_succ_self _) hS (by omega) (by omega) (by omega) (by omega) (by omega) (by omega) (by omega) esrc esz ep0 el0) (gLw.s (gLw.s (gLw.s (gLw.s (gLw.s (gLw.s (gLw.n (gLw.n gLw.z))))))))
set_option maxRecDepth 20000 in
set_option maxHeartbeats 4000000 in
theorem cl_Bits_nextMarker (d : Nat) {ty : Nat → Nat} {h : gH} (hJ : gJ rT 1027 ty h) (x : Nat) (tx : ty x = 67) (src : Nat) (esrc : h.2.2.2.2 x 0 = .ref src) (tsrc : ty src = 51) (sz : Int) (esz : h.2.2.2.2 src 1 = .int (zi sz)) (rsz : 0 ≤ sz ∧ sz ≤ 2000) (p0 : Int) (ep0 : h.2.2.2.2 x 1 = .int (zi p0)) (rp0 : 0 ≤ p0 ∧ p0 ≤ 2002) (uq : gUq ty) : gz gPP gGG gcn (d + 1) gt59 0 (gent [.ref x] 2) [] h (fun q _ => gSs rT 1027 ty [] h q.2.2 ∧ ∃ z : Int, gfin gt59 q.1 q.2.1 = some (some (.int (zi z))) ∧ (-1) ≤ z ∧ z ≤ 2000 ∧ (z = -1 ∨ (p0 ≤ z ∧ z + 1 < sz))) := by
  have hS : gSs rT 1027 ty [] h h := gSs.rf hJ
  refine gz_s 1 (pc' := 1) (L' := [some (.ref x), none]) (S' := [.ref x]) rfl ?_
  refine gs_gtk rfl (by decide) rfl hS.1 tx rfl rfl ep0 ?_
  refine gz_s 1 (pc' := 5) (L' := [some (.ref x), some (.int (zi p0))]) (S' := []) rfl ?_
  have lp1 : ∀ (fu : Nat) (h2 : gH) (i : Int), (2004 - i).toNat < fu → gSs rT 1027 ty [] h h2 → (0 ≤ i ∧ i ≤ 2003) → (p0 ≤ i) → h2.2.2.2.2 x 0 = .ref src → h2.2.2.2.2 src 1 = .int (zi sz) → h2.2.2.2.2 x 1 = .int (zi p0) → gz gPP gGG gcn (d + 1) gt59 5 [some (.ref x), some (.int (zi i))] [] h2 (fun q _ => gSs rT 1027 ty [] h q.2.2 ∧ ∃ z : Int, gfin gt59 q.1 q.2.1 = some (some (.int (zi z))) ∧ (-1) ≤ z ∧ z ≤ 2000 ∧ (z = -1 ∨ (p0 ≤ z ∧ z + 1 < sz))) := by
    intro fu
    induction fu with
    | zero => intro h2 i hm; exact absurd hm (Nat.not_lt_zero _)
    | succ fu ihlp1 =>
      intro h2 i lp1m sh2 lp1f0 lp1f1 lp1k0 lp1k1 lp1k2
      refine gy_s 4 (pc' := 9) (L' := [some (.ref x), some (.int (zi i))]) (S' := [.ref x, .int ((zi i) + (zi 1))]) (L2 := [some (.ref x), some (.int (zi i))]) (S2 := [.ref x, .int (zi (i + 1))]) rfl (by simp only [zi_add, zi_sub, zi_mul, zi_neg, zi_and1, zi_and7, zi_and15, zi_and31, zi_and255]) (by simp only [zi_add, zi_sub, zi_mul, zi_neg, zi_and1, zi_and7, zi_and15, zi_and31, zi_and255]) ?_
      refine gs_gtk rfl (by decide) rfl sh2.1 tx rfl rfl lp1k0 ?_
      refine gs_gtk rfl (by decide) rfl sh2.1 tsrc rfl rfl lp1k1 ?_
      by_cases hc3 : (sz : Int) ≤ i + 1
      · refine gy_icT (pc' := 53) rfl (by decide) (by decide) (by omega) (by omega) hc3 ?_
        refine gz_s 1 (pc' := 54) (L' := [some (.ref x), some (.int (zi i))]) (S' := [.int (zi (-1))]) rfl ?_
        exact gz_end (I := .ireturn) (len := 1) rfl (Or.inl rfl) ⟨sh2, (-1), rfl, (by omega), (by omega), (by omega)⟩
      · refine gy_icF rfl (by decide) (by decide) (by omega) (by omega) hc3 ?_
        refine gz_s 1 (pc' := 19) (L' := [some (.ref x), some (.int (zi i))]) (S' := [.ref x]) rfl ?_
        refine gs_gtk rfl (by decide) rfl sh2.1 tx rfl rfl lp1k0 ?_
        refine gz_s 1 (pc' := 23) (L' := [some (.ref x), some (.int (zi i))]) (S' := [.int (zi i), .ref src]) rfl ?_
        refine gz_call rfl (by decide) rfl (by decide) (by decide) (gcal_of rfl rfl rfl (Nat.le_of_ble_eq_true rfl) (gJ.recv (G := gGG) sh2.1 tsrc rfl rfl)) (cl_Collected_byteAt _ sh2.1 src tsrc i (by omega) sz lp1k1 (by omega) uq) (fun q4 _ wq4 => ?_)
        obtain ⟨pq4, oq4, hq4⟩ := q4
        obtain ⟨xq4, zq4, gq4, aq4, bq4, uq4_0⟩ := wq4
        refine ⟨_, gq4, ?_⟩
        show gz gPP gGG gcn _ _ 26 [some (.ref x), some (.int (zi i))] [.int (zi zq4)] hq4 _
        have sq4 : gSs rT 1027 ty [] h hq4 := gSs.tr sh2 xq4 (by decide)
        have s5 := (xq4.2.2.2.2.2 x 0 (by rw [tx]; decide)).trans lp1k0
        have s6 := (xq4.2.2.2.2.2 src 1 (by rw [tsrc]; decide)).trans lp1k1
        have s7 := (xq4.2.2.2.2.2 x 1 (by rw [tx]; decide)).trans lp1k2
        refine gz_s 1 (pc' := 29) (L' := [some (.ref x), some (.int (zi i))]) (S' := [.int (zi 255), .int (zi zq4)]) rfl ?_
        by_cases hc8 : ¬ (zq4 : Int) = 255
        · refine gy_icT (pc' := 47) rfl (by decide) (by decide) (by omega) (by omega) hc8 ?_
          refine gy_s 2 (pc' := 5) (L' := [some (.ref x), some (.int ((zi i) + zi 1))]) (S' := []) (L2 := [some (.ref x), some (.int (zi (i + 1)))]) (S2 := []) rfl (by simp only [zi_add, zi_sub, zi_mul, zi_neg, zi_and1, zi_and7, zi_and15, zi_and31, zi_and255]) (by simp only [zi_add, zi_sub, zi_mul, zi_neg, zi_and1, zi_and7, zi_and15, zi_and31, zi_and255]) ?_
          exact gz_wk (ihlp1 hq4 (i + 1) (by omega) sq4 (by omega) (by omega) s5 s6 s7) (gLw.s (gLw.s gLw.z))
        · refine gy_icF rfl (by decide) (by decide) (by omega) (by omega) hc8 ?_
          refine gz_s 1 (pc' := 33) (L' := [some (.ref x), some (.int (zi i))]) (S' := [.ref x]) rfl ?_
          refine gs_gtk rfl (by decide) rfl sq4.1 tx rfl rfl s5 ?_
          refine gy_s 3 (pc' := 39) (L' := [some (.ref x), some (.int (zi i))]) (S' := [.int ((zi i) + (zi 1)), .ref src]) (L2 := [some (.ref x), some (.int (zi i))]) (S2 := [.int (zi (i + 1)), .ref src]) rfl (by simp only [zi_add, zi_sub, zi_mul, zi_neg, zi_and1, zi_and7, zi_and15, zi_and31, zi_and255]) (by simp only [zi_add, zi_sub, zi_mul, zi_neg, zi_and1, zi_and7, zi_and15, zi_and31, zi_and255]) ?_
          refine gz_call rfl (by decide) rfl (by decide) (by decide) (gcal_of rfl rfl rfl (Nat.le_of_ble_eq_true rfl) (gJ.recv (G := gGG) sq4.1 tsrc rfl rfl)) (cl_Collected_byteAt _ sq4.1 src tsrc (i + 1) (by omega) sz s6 (by omega) uq) (fun q9 _ wq9 => ?_)
          obtain ⟨pq9, oq9, hq9⟩ := q9
          obtain ⟨xq9, zq9, gq9, aq9, bq9, uq9_0⟩ := wq9
          refine ⟨_, gq9, ?_⟩
          show gz gPP gGG gcn _ _ 42 [some (.ref x), some (.int (zi i))] [.int (zi zq9)] hq9 _
          have sq9 : gSs rT 1027 ty [] h hq9 := gSs.tr sq4 xq9 (by decide)
          have s10 := (xq9.2.2.2.2.2 x 0 (by rw [tx]; decide)).trans s5
          have s11 := (xq9.2.2.2.2.2 src 1 (by rw [tsrc]; decide)).trans s6
          have s12 := (xq9.2.2.2.2.2 x 1 (by rw [tx]; decide)).trans s7
          by_cases hc13 : (zq9 : Int) ≤ 0
          · refine gy_ifT (pc' := 47) rfl (by decide) (by decide) (by omega) hc13 ?_
            refine gy_s 2 (pc' := 5) (L' := [some (.ref x), some (.int ((zi i) + zi 1))]) (S' := []) (L2 := [some (.ref x), some (.int (zi (i + 1)))]) (S2 := []) rfl (by simp only [zi_add, zi_sub, zi_mul, zi_neg, zi_and1, zi_and7, zi_and15, zi_and31, zi_and255]) (by simp only [zi_add, zi_sub, zi_mul, zi_neg, zi_and1, zi_and7, zi_and15, zi_and31, zi_and255]) ?_
            exact gz_wk (ihlp1 hq9 (i + 1) (by omega) sq9 (by omega) (by omega) s10 s11 s12) (gLw.s (gLw.s gLw.z))
          · refine gy_ifF rfl (by decide) (by decide) (by omega) hc13 ?_
            refine gz_s 1 (pc' := 46) (L' := [some (.ref x), some (.int (zi i))]) (S' := [.int (zi i)]) rfl ?_
            exact gz_end (I := .ireturn) (len := 1) rfl (Or.inl rfl) ⟨sq9, i, rfl, (by omega), (by omega), (by omega)⟩
  exact gz_wk (lp1 _ h p0 (Nat.lt_succ_self _) hS (by omega) (by omega) esrc esz ep0) (gLw.s (gLw.s gLw.z))
set_option maxRecDepth 20000 in
set_option maxHeartbeats 4000000 in
theorem cl_Codes_beginAnew (d : Nat) {ty : Nat → Nat} {h : gH} (hJ : gJ rT 1027 ty h) (x : Nat) (tx : ty x = 101) (uq : gUq ty) : gz gPP gGG gcn (d + 1) gt15 0 (gent [.ref x] 2) [] h (fun q _ => gSs rT 1027 ty [102999, 103999] h q.2.2 ∧ gfin gt15 q.1 q.2.1 = some none) := by
  have hS : gSs rT 1027 ty [102999, 103999] h h := gSs.rf hJ
  refine gz_s 1 (pc' := 1) (L' := [some (.ref x), none]) (S' := [.ref x]) rfl ?_
  refine gs_gtr rfl (by decide) rfl hS.1 tx rfl rfl rfl (fun c1 ec1 tc1 => ?_)
  refine gz_s 1 (pc' := 5) (L' := [some (.ref x), none]) (S' := [.int (zi 0), .ref c1]) rfl ?_
  refine gz_call rfl (by decide) rfl (by decide) (by decide) (gcal_of rfl rfl rfl (Nat.le_of_ble_eq_true rfl) rfl) (cl_fill_counts _ hS.1 c1 tc1 0 (by omega) ) (fun q2 _ wq2 => ?_)
  obtain ⟨pq2, oq2, hq2⟩ := q2
  obtain ⟨xq2, gq2⟩ := wq2
  refine ⟨_, gq2, ?_⟩
  show gz gPP gGG gcn _ _ 8 [some (.ref x), none] [] hq2 _
  have sq2 : gSs rT 1027 ty [102999, 103999] h hq2 := gSs.tr hS xq2 (by decide)
  have s3 := (xq2.2.2.2.2.2 x 0 (by rw [tx]; decide)).trans ec1
  refine gz_s 1 (pc' := 9) (L' := [some (.ref x), none]) (S' := [.ref x]) rfl ?_
  refine gs_gtk rfl (by decide) rfl sq2.1 tx rfl rfl s3 ?_
  refine gz_s 2 (pc' := 17) (L' := [some (.ref x), none]) (S' := [.int (zi 255), .int (zi 8), .ref c1]) rfl ?_
  have hl4 : 17 ≤ hq2.2.2.2.1 c1 ∧ hq2.2.2.2.1 c1 ≤ 17 := gJ.rowl (G := gGG) sq2.1 tc1 rfl
  refine gs_ast rfl (by decide) sq2 tc1 rfl rfl rfl (by decide) (fun _ => rfl) (by omega) (by omega) (fun _ => (by decide : (102999 : Nat) ∈ ([102999, 103999] : List Nat))) (by omega) (by omega) (fun h5 sh5 eh5 fh5 => ?_)
  have s6 := (fh5 x 0 (fun q => absurd (((tx).symm.trans (congrArg ty q.1)).trans tc1) (by decide))).trans s3
  refine gz_s 2 (pc' := 20) (L' := [some (.ref x), some (.int (zi 0))]) (S' := []) rfl ?_
  have lp7 : ∀ (fu : Nat) (h8 : gH) (i : Int), (256 - i).toNat < fu → gSs rT 1027 ty [102999, 103999] h h8 → (0 ≤ i ∧ i ≤ 255) → h8.2.2.2.2 x 0 = .ref c1 → gz gPP gGG gcn (d + 1) gt15 20 [some (.ref x), some (.int (zi i))] [] h8 (fun q _ => gSs rT 1027 ty [102999, 103999] h q.2.2 ∧ gfin gt15 q.1 q.2.1 = some none) := by
    intro fu
    induction fu with
    | zero => intro h8 i hm; exact absurd hm (Nat.not_lt_zero _)
    | succ fu ihlp7 =>
      intro h8 i lp7m sh8 lp7f0 lp7k0
      refine gz_s 2 (pc' := 24) (L' := [some (.ref x), some (.int (zi i))]) (S' := [.int (zi 255), .int (zi i)]) rfl ?_
      by_cases hc9 : (255 : Int) ≤ i
      · refine gy_icT (pc' := 40) rfl (by decide) (by decide) (by omega) (by omega) hc9 ?_
        exact gz_end (I := .return_) (len := 1) rfl (Or.inl rfl) ⟨sh8, rfl⟩
      · refine gy_icF rfl (by decide) (by decide) (by omega) (by omega) hc9 ?_
        refine gz_s 1 (pc' := 28) (L' := [some (.ref x), some (.int (zi i))]) (S' := [.ref x]) rfl ?_
        refine gs_gtr rfl (by decide) rfl sh8.1 tx rfl rfl rfl (fun c10 ec10 tc10 => ?_)
        refine gz_s 2 (pc' := 33) (L' := [some (.ref x), some (.int (zi i))]) (S' := [.int (zi i), .int (zi i), .ref c10]) rfl ?_
        have hl11 : 256 ≤ h8.2.2.2.1 c10 ∧ h8.2.2.2.1 c10 ≤ 256 := gJ.rowl (G := gGG) sh8.1 tc10 rfl
        refine gs_ast rfl (by decide) sh8 tc10 rfl rfl rfl (by decide) (fun _ => rfl) (by omega) (by omega) (fun _ => (by decide : (103999 : Nat) ∈ ([102999, 103999] : List Nat))) (by omega) (by omega) (fun h12 sh12 eh12 fh12 => ?_)
        have s13 := (fh12 x 0 (fun q => absurd (((tx).symm.trans (congrArg ty q.1)).trans tc10) (by decide))).trans lp7k0
        have s14 := (fh12 x 1 (fun q => absurd (((tx).symm.trans (congrArg ty q.1)).trans tc10) (by decide))).trans ec10
        refine gy_s 2 (pc' := 20) (L' := [some (.ref x), some (.int ((zi i) + zi 1))]) (S' := []) (L2 := [some (.ref x), some (.int (zi (i + 1)))]) (S2 := []) rfl (by simp only [zi_add, zi_sub, zi_mul, zi_neg, zi_and1, zi_and7, zi_and15, zi_and31, zi_and255]) (by simp only [zi_add, zi_sub, zi_mul, zi_neg, zi_and1, zi_and7, zi_and15, zi_and31, zi_and255]) ?_
        exact gz_wk (ihlp7 h12 (i + 1) (by omega) sh12 (by omega) s13) (gLw.s (gLw.s gLw.z))
  exact gz_wk (lp7 _ h5 0 (Nat.lt_succ_self _) sh5 (by omega) s6) (gLw.s (gLw.s gLw.z))
set_option maxRecDepth 20000 in
set_option maxHeartbeats 4000000 in
theorem cl_ScanReader_codesOf (d : Nat) {ty : Nat → Nat} {h : gH} (hJ : gJ rT 1027 ty h) (x : Nat) (tx : ty x = 66) (k : Int) (rk : (-1) ≤ k ∧ k ≤ 15) (n : Int) (rn : 0 ≤ n ∧ n ≤ 15) (uq : gUq ty) : gz gPP gGG gcn (d + 0) gt26 0 (gent [.ref x, .int (zi k), .int (zi n)] 3) [] h (fun q _ => gSs rT 1027 ty [] h q.2.2 ∧ ∃ a9 : Nat, gfin gt26 q.1 q.2.1 = some (some (.ref a9)) ∧ ty a9 = 101) := by
  have hS : gSs rT 1027 ty [] h h := gSs.rf hJ
  refine gz_s 1 (pc' := 1) (L' := [some (.ref x), some (.int (zi k)), some (.int (zi n))]) (S' := [.ref x]) rfl ?_
  refine gs_gtr rfl (by decide) rfl hS.1 tx rfl rfl rfl (fun c1 ec1 tc1 => ?_)
  refine gy_s 7 (pc' := 12) (L' := [some (.ref x), some (.int (zi k)), some (.int (zi n))]) (S' := [.int ((((zi 4) * (zi k)) + (zi n)) &&& (zi 7)), .ref c1]) (L2 := [some (.ref x), some (.int (zi k)), some (.int (zi n))]) (S2 := [.int (zi (((4 * k) + n) % 8)), .ref c1]) rfl (by simp only [zi_add, zi_sub, zi_mul, zi_neg, zi_and1, zi_and7, zi_and15, zi_and31, zi_and255]) (by simp only [zi_add, zi_sub, zi_mul, zi_neg, zi_and1, zi_and7, zi_and15, zi_and31, zi_and255]) ?_
  have hl3 : 8 ≤ h.2.2.2.1 c1 ∧ h.2.2.2.1 c1 ≤ 8 := gJ.rowl (G := gGG) hS.1 tc1 rfl
  refine gs_aam rfl (by decide) hS.1 tc1 rfl rfl rfl (by decide) (fun _ => rfl) (by omega) (by omega) (fun c2 ec2 tc2 => ?_)
  exact gz_end (I := .areturn) (len := 1) rfl (Or.inl rfl) ⟨hS, c2, rfl, tc2⟩
set_option maxRecDepth 20000 in
set_option maxHeartbeats 4000000 in
theorem cl_ScanReader_signed (d : Nat) {ty : Nat → Nat} {h : gH} (hJ : gJ rT 1027 ty h) (t : Int) (rt : 0 ≤ t ∧ t ≤ 65535) (s : Int) (rs : 0 ≤ s ∧ s ≤ 16) (uq : gUq ty) : gz gPP gGG gcn (d + 0) gt53 0 (gent [.int (zi t), .int (zi s)] 2) [] h (fun q _ => gSs rT 1027 ty [] h q.2.2 ∧ ∃ z : Int, gfin gt53 q.1 q.2.1 = some (some (.int (zi z))) ∧ (-2147483648) ≤ z ∧ z ≤ 2147483647) := by
  have hS : gSs rT 1027 ty [] h h := gSs.rf hJ
  refine gz_s 1 (pc' := 1) (L' := [some (.int (zi t)), some (.int (zi s))]) (S' := [.int (zi s)]) rfl ?_
  by_cases hc1 : (s : Int) ≤ 0
  · refine gy_ifT (pc' := 23) rfl (by decide) (by decide) (by omega) hc1 ?_
    refine gz_s 1 (pc' := 24) (L' := [some (.int (zi t)), some (.int (zi s))]) (S' := [.int (zi t)]) rfl ?_
    exact gz_end (I := .ireturn) (len := 1) rfl (Or.inl rfl) ⟨hS, t, rfl, (by omega), (by omega)⟩
  · refine gy_ifF rfl (by decide) (by decide) (by omega) hc1 ?_
    refine gy_s 5 (pc' := 9) (L' := [some (.int (zi t)), some (.int (zi s))]) (S' := [.int ((zi s) - (zi 1)), .int (zi 1), .int (zi t)]) (L2 := [some (.int (zi t)), some (.int (zi s))]) (S2 := [.int (zi (s - 1)), .int (zi 1), .int (zi t)]) rfl (by simp only [zi_add, zi_sub, zi_mul, zi_neg, zi_and1, zi_and7, zi_and15, zi_and31, zi_and255]) (by simp only [zi_add, zi_sub, zi_mul, zi_neg, zi_and1, zi_and7, zi_and15, zi_and31, zi_and255]) ?_
    refine gy_sh1 rfl (by decide) (by omega) (fun z2 az2 bz2 cz2 => ?_)
    by_cases hc3 : (z2 : Int) ≤ t
    · refine gy_icT (pc' := 23) rfl (by decide) (by decide) (by omega) (by omega) hc3 ?_
      refine gz_s 1 (pc' := 24) (L' := [some (.int (zi t)), some (.int (zi s))]) (S' := [.int (zi t)]) rfl ?_
      exact gz_end (I := .ireturn) (len := 1) rfl (Or.inl rfl) ⟨hS, t, rfl, (by omega), (by omega)⟩
    · refine gy_icF rfl (by decide) (by decide) (by omega) (by omega) hc3 ?_
      refine gz_s 3 (pc' := 16) (L' := [some (.int (zi t)), some (.int (zi s))]) (S' := [.int (zi s), .int (zi 1), .int (zi t)]) rfl ?_
      refine gy_sh1 rfl (by decide) (by omega) (fun z4 az4 bz4 cz4 => ?_)
      refine gy_s 4 (pc' := 24) (L' := [some (.int (zi t)), some (.int (zi s))]) (S' := [.int (((zi t) - (zi z4)) + (zi 1))]) (L2 := [some (.int (zi t)), some (.int (zi s))]) (S2 := [.int (zi ((t - z4) + 1))]) rfl (by simp only [zi_add, zi_sub, zi_mul, zi_neg, zi_and1, zi_and7, zi_and15, zi_and31, zi_and255]) (by simp only [zi_add, zi_sub, zi_mul, zi_neg, zi_and1, zi_and7, zi_and15, zi_and31, zi_and255]) ?_
      refine gy_any (fun z5 ez5 az5 bz5 => ?_)
      exact gz_end (I := .ireturn) (len := 1) rfl (Or.inl rfl) ⟨hS, z5, rfl, (by omega), (by omega)⟩
set_option maxRecDepth 20000 in
set_option maxHeartbeats 4000000 in
theorem cl_ScanReader_beginAnew (d : Nat) {ty : Nat → Nat} {h : gH} (hJ : gJ rT 1027 ty h) (x : Nat) (tx : ty x = 66) (uq : gUq ty) : gz gPP gGG gcn (d + 2) gt14 0 (gent [.ref x] 2) [] h (fun q _ => gSs rT 1027 ty [66001, 102999, 103999] h q.2.2 ∧ gfin gt14 q.1 q.2.1 = some none) := by
  have hS : gSs rT 1027 ty [66001, 102999, 103999] h h := gSs.rf hJ
  refine gz_s 2 (pc' := 2) (L' := [some (.ref x), none]) (S' := [.int (zi 0), .ref x]) rfl ?_
  refine gs_put rfl (by decide) rfl hS tx rfl rfl rfl rfl (Or.inl rfl) (by decide) (by omega) (by omega) (fun h1 sh1 eh1 fh1 => ?_)
  refine gz_s 2 (pc' := 7) (L' := [some (.ref x), some (.int (zi 0))]) (S' := []) rfl ?_
  have lp2 : ∀ (fu : Nat) (h3 : gH) (i : Int), (9 - i).toNat < fu → gSs rT 1027 ty [66001, 102999, 103999] h h3 → (0 ≤ i ∧ i ≤ 8) → h3.2.2.2.2 x 1 = .int (zi 0) → gz gPP gGG gcn (d + 2) gt14 7 [some (.ref x), some (.int (zi i))] [] h3 (fun q _ => gSs rT 1027 ty [66001, 102999, 103999] h q.2.2 ∧ gfin gt14 q.1 q.2.1 = some none) := by
    intro fu
    induction fu with
    | zero => intro h3 i hm; exact absurd hm (Nat.not_lt_zero _)
    | succ fu ihlp2 =>
      intro h3 i lp2m sh3 lp2f0 lp2k0
      refine gz_s 2 (pc' := 9) (L' := [some (.ref x), some (.int (zi i))]) (S' := [.ref x, .int (zi i)]) rfl ?_
      refine gs_gtr rfl (by decide) rfl sh3.1 tx rfl rfl rfl (fun c4 ec4 tc4 => ?_)
      refine gs_len rfl (by decide) sh3.1 tc4 rfl rfl rfl (fun z5 ez5 az5 bz5 => ?_)
      have cz5 : 8 ≤ z5 ∧ z5 ≤ 8 := ⟨az5, bz5⟩
      by_cases hc6 : (z5 : Int) ≤ i
      · refine gy_icT (pc' := 31) rfl (by decide) (by decide) (by omega) (by omega) hc6 ?_
        exact gz_end (I := .return_) (len := 1) rfl (Or.inl rfl) ⟨sh3, rfl⟩
      · refine gy_icF rfl (by decide) (by decide) (by omega) (by omega) hc6 ?_
        refine gz_s 1 (pc' := 17) (L' := [some (.ref x), some (.int (zi i))]) (S' := [.ref x]) rfl ?_
        refine gs_gtk rfl (by decide) rfl sh3.1 tx rfl rfl ec4 ?_
        refine gz_s 1 (pc' := 21) (L' := [some (.ref x), some (.int (zi i))]) (S' := [.int (zi i), .ref c4]) rfl ?_
        have hl8 : 8 ≤ h3.2.2.2.1 c4 ∧ h3.2.2.2.1 c4 ≤ 8 := gJ.rowl (G := gGG) sh3.1 tc4 rfl
        refine gs_aam rfl (by decide) sh3.1 tc4 rfl rfl rfl (by decide) (fun _ => rfl) (by omega) (by omega) (fun c7 ec7 tc7 => ?_)
        refine gz_call rfl (by decide) rfl (by decide) (by decide) (gcal_of rfl rfl rfl (Nat.le_of_ble_eq_true rfl) (gJ.recv (G := gGG) sh3.1 tc7 rfl rfl)) (cl_Codes_beginAnew _ sh3.1 c7 tc7 uq) (fun q9 _ wq9 => ?_)
        obtain ⟨pq9, oq9, hq9⟩ := q9
        obtain ⟨xq9, gq9⟩ := wq9
        refine ⟨_, gq9, ?_⟩
        show gz gPP gGG gcn _ _ 25 [some (.ref x), some (.int (zi i))] [] hq9 _
        have sq9 : gSs rT 1027 ty [66001, 102999, 103999] h hq9 := gSs.tr sh3 xq9 (by decide)
        have s10 := (xq9.2.2.2.2.2 x 1 (by rw [tx]; decide)).trans lp2k0
        have s11 := (xq9.2.2.2.2.2 x 6 (by rw [tx]; decide)).trans ec4
        refine gy_s 2 (pc' := 7) (L' := [some (.ref x), some (.int ((zi i) + zi 1))]) (S' := []) (L2 := [some (.ref x), some (.int (zi (i + 1)))]) (S2 := []) rfl (by simp only [zi_add, zi_sub, zi_mul, zi_neg, zi_and1, zi_and7, zi_and15, zi_and31, zi_and255]) (by simp only [zi_add, zi_sub, zi_mul, zi_neg, zi_and1, zi_and7, zi_and15, zi_and31, zi_and255]) ?_
        exact gz_wk (ihlp2 hq9 (i + 1) (by omega) sq9 (by omega) s10) (gLw.s (gLw.s gLw.z))
  exact gz_wk (lp2 _ h1 0 (Nat.lt_succ_self _) sh1 (by omega) eh1) (gLw.s (gLw.s gLw.z))
set_option maxRecDepth 20000 in
set_option maxHeartbeats 4000000 in
theorem cl_ScanReader_beginInterval (d : Nat) {ty : Nat → Nat} {h : gH} (hJ : gJ rT 1027 ty h) (x : Nat) (tx : ty x = 66) (pic : Nat) (epic : h.2.2.2.2 x 7 = .ref pic) (tpic : ty pic = 54) (uq : gUq ty) : gz gPP gGG gcn (d + 0) gt42 0 (gent [.ref x] 2) [] h (fun q _ => gSs rT 1027 ty [66014, 82011, 83011, 84011] h q.2.2 ∧ gfin gt42 q.1 q.2.1 = some none) := by
  have hS : gSs rT 1027 ty [66014, 82011, 83011, 84011] h h := gSs.rf hJ
  refine gz_s 2 (pc' := 2) (L' := [some (.ref x), none]) (S' := [.int (zi 0), .ref x]) rfl ?_
  refine gs_put rfl (by decide) rfl hS tx rfl rfl rfl rfl (Or.inl rfl) (by decide) (by omega) (by omega) (fun h1 sh1 eh1 fh1 => ?_)
  have s2 := (fh1 x 7 (fun q => absurd q.2 (by decide))).trans epic
  refine gz_s 2 (pc' := 7) (L' := [some (.ref x), some (.int (zi 0))]) (S' := []) rfl ?_
  have lp3 : ∀ (fu : Nat) (h4 : gH) (i : Int), (4 - i).toNat < fu → gSs rT 1027 ty [66014, 82011, 83011, 84011] h h4 → (0 ≤ i ∧ i ≤ 3) → h4.2.2.2.2 x 7 = .ref pic → h4.2.2.2.2 x 14 = .int (zi 0) → gz gPP gGG gcn (d + 0) gt42 7 [some (.ref x), some (.int (zi i))] [] h4 (fun q _ => gSs rT 1027 ty [66014, 82011, 83011, 84011] h q.2.2 ∧ gfin gt42 q.1 q.2.1 = some none) := by
    intro fu
    induction fu with
    | zero => intro h4 i hm; exact absurd hm (Nat.not_lt_zero _)
    | succ fu ihlp3 =>
      intro h4 i lp3m sh4 lp3f0 lp3k0 lp3k1
      refine gz_s 2 (pc' := 9) (L' := [some (.ref x), some (.int (zi i))]) (S' := [.ref x, .int (zi i)]) rfl ?_
      refine gs_gtk rfl (by decide) rfl sh4.1 tx rfl rfl lp3k0 ?_
      refine gs_gtr rfl (by decide) rfl sh4.1 tpic rfl rfl rfl (fun c5 ec5 tc5 => ?_)
      refine gs_len rfl (by decide) sh4.1 tc5 rfl rfl rfl (fun z6 ez6 az6 bz6 => ?_)
      have cz6 : 3 ≤ z6 ∧ z6 ≤ 3 := ⟨az6, bz6⟩
      by_cases hc7 : (z6 : Int) ≤ i
      · refine gy_icT (pc' := 38) rfl (by decide) (by decide) (by omega) (by omega) hc7 ?_
        exact gz_end (I := .return_) (len := 1) rfl (Or.inl rfl) ⟨sh4, rfl⟩
      · refine gy_icF rfl (by decide) (by decide) (by omega) (by omega) hc7 ?_
        refine gz_s 1 (pc' := 20) (L' := [some (.ref x), some (.int (zi i))]) (S' := [.ref x]) rfl ?_
        refine gs_gtk rfl (by decide) rfl sh4.1 tx rfl rfl lp3k0 ?_
        refine gs_gtk rfl (by decide) rfl sh4.1 tpic rfl rfl ec5 ?_
        refine gz_s 1 (pc' := 27) (L' := [some (.ref x), some (.int (zi i))]) (S' := [.int (zi i), .ref c5]) rfl ?_
        rcases (by omega : i = 0 ∨ i = 1 ∨ i = 2) with he10 | he10 | he10
        · refine gs_aal (j := 0) (q2 := 82) rfl (by decide) sh4.1 tc5 rfl rfl rfl (by decide) he10 rfl (by decide) (fun c11 ec11 tc11 => ?_)
          refine gz_s 1 (pc' := 29) (L' := [some (.ref x), some (.int (zi i))]) (S' := [.int (zi 0), .ref c11]) rfl ?_
          refine gs_put rfl (by decide) rfl sh4 tc11 rfl rfl rfl rfl (Or.inl rfl) (by decide) (by omega) (by omega) (fun h12 sh12 eh12 fh12 => ?_)
          have s13 := (fh12 x 7 (fun q => absurd q.2 (by decide))).trans lp3k0
          have s14 := (fh12 x 14 (fun q => absurd q.2 (by decide))).trans lp3k1
          have s15 := (fh12 pic 0 (fun q => absurd q.2 (by decide))).trans ec5
          have s16 := (fh12 c5 0 (fun q => absurd (((tc5).symm.trans (congrArg ty q.1)).trans tc11) (by decide))).trans ec11
          refine gy_s 2 (pc' := 7) (L' := [some (.ref x), some (.int ((zi i) + zi 1))]) (S' := []) (L2 := [some (.ref x), some (.int (zi (i + 1)))]) (S2 := []) rfl (by simp only [zi_add, zi_sub, zi_mul, zi_neg, zi_and1, zi_and7, zi_and15, zi_and31, zi_and255]) (by simp only [zi_add, zi_sub, zi_mul, zi_neg, zi_and1, zi_and7, zi_and15, zi_and31, zi_and255]) ?_
          exact gz_wk (ihlp3 h12 (i + 1) (by omega) sh12 (by omega) s13 s14) (gLw.s (gLw.s gLw.z))
        · refine gs_aal (j := 1) (q2 := 83) rfl (by decide) sh4.1 tc5 rfl rfl rfl (by decide) he10 rfl (by decide) (fun c17 ec17 tc17 => ?_)
          refine gz_s 1 (pc' := 29) (L' := [some (.ref x), some (.int (zi i))]) (S' := [.int (zi 0), .ref c17]) rfl ?_
          refine gs_put rfl (by decide) rfl sh4 tc17 rfl rfl rfl rfl (Or.inl rfl) (by decide) (by omega) (by omega) (fun h18 sh18 eh18 fh18 => ?_)
          have s19 := (fh18 x 7 (fun q => absurd q.2 (by decide))).trans lp3k0
          have s20 := (fh18 x 14 (fun q => absurd q.2 (by decide))).trans lp3k1
          have s21 := (fh18 pic 0 (fun q => absurd q.2 (by decide))).trans ec5
          have s22 := (fh18 c5 1 (fun q => absurd (((tc5).symm.trans (congrArg ty q.1)).trans tc17) (by decide))).trans ec17
          refine gy_s 2 (pc' := 7) (L' := [some (.ref x), some (.int ((zi i) + zi 1))]) (S' := []) (L2 := [some (.ref x), some (.int (zi (i + 1)))]) (S2 := []) rfl (by simp only [zi_add, zi_sub, zi_mul, zi_neg, zi_and1, zi_and7, zi_and15, zi_and31, zi_and255]) (by simp only [zi_add, zi_sub, zi_mul, zi_neg, zi_and1, zi_and7, zi_and15, zi_and31, zi_and255]) ?_
          exact gz_wk (ihlp3 h18 (i + 1) (by omega) sh18 (by omega) s19 s20) (gLw.s (gLw.s gLw.z))
        · refine gs_aal (j := 2) (q2 := 84) rfl (by decide) sh4.1 tc5 rfl rfl rfl (by decide) he10 rfl (by decide) (fun c23 ec23 tc23 => ?_)
          refine gz_s 1 (pc' := 29) (L' := [some (.ref x), some (.int (zi i))]) (S' := [.int (zi 0), .ref c23]) rfl ?_
          refine gs_put rfl (by decide) rfl sh4 tc23 rfl rfl rfl rfl (Or.inl rfl) (by decide) (by omega) (by omega) (fun h24 sh24 eh24 fh24 => ?_)
          have s25 := (fh24 x 7 (fun q => absurd q.2 (by decide))).trans lp3k0
          have s26 := (fh24 x 14 (fun q => absurd q.2 (by decide))).trans lp3k1
          have s27 := (fh24 pic 0 (fun q => absurd q.2 (by decide))).trans ec5
          have s28 := (fh24 c5 2 (fun q => absurd (((tc5).symm.trans (congrArg ty q.1)).trans tc23) (by decide))).trans ec23
          refine gy_s 2 (pc' := 7) (L' := [some (.ref x), some (.int ((zi i) + zi 1))]) (S' := []) (L2 := [some (.ref x), some (.int (zi (i + 1)))]) (S2 := []) rfl (by simp only [zi_add, zi_sub, zi_mul, zi_neg, zi_and1, zi_and7, zi_and15, zi_and31, zi_and255]) (by simp only [zi_add, zi_sub, zi_mul, zi_neg, zi_and1, zi_and7, zi_and15, zi_and31, zi_and255]) ?_
          exact gz_wk (ihlp3 h24 (i + 1) (by omega) sh24 (by omega) s25 s26) (gLw.s (gLw.s gLw.z))
  exact gz_wk (lp3 _ h1 0 (Nat.lt_succ_self _) sh1 (by omega) s2 eh1) (gLw.s (gLw.s gLw.z))
set_option maxRecDepth 20000 in
set_option maxHeartbeats 4000000 in
theorem cl_ScanReader_chooseBand (d : Nat) {ty : Nat → Nat} {h : gH} (hJ : gJ rT 1027 ty h) (x : Nat) (tx : ty x = 66) (b : Int) (rb : 0 ≤ b ∧ b ≤ 2) (n : Int) (rn : 0 ≤ n ∧ n ≤ 3) (ns : Int) (rns : 0 ≤ ns ∧ ns ≤ 255) (pic : Nat) (epic : h.2.2.2.2 x 7 = .ref pic) (tpic : ty pic = 54) (uq : gUq ty) : gz gPP gGG gcn (d + 0) gt38 0 (gent [.ref x, .int (zi b), .int (zi n), .int (zi ns)] 4) [] h (fun q _ => gSs rT 1027 ty [66011, 66012, 82009, 82010, 83009, 83010, 84009, 84010] h q.2.2 ∧ ∃ sg sb : Int, gfin gt38 q.1 q.2.1 = some none ∧ q.2.2.2.2.2.2 x 11 = .int (zi sg) ∧ 0 ≤ sg ∧ sg ≤ 1 ∧ q.2.2.2.2.2.2 x 12 = .int (zi sb) ∧ 0 ≤ sb ∧ sb ≤ 2 ∧ (sg = 1 ↔ n = 1) ∧ (sb = b)) := by
  have hS : gSs rT 1027 ty [66011, 66012, 82009, 82010, 83009, 83010, 84009, 84010] h h := gSs.rf hJ
  refine gz_s 3 (pc' := 3) (L' := [some (.ref x), some (.int (zi b)), some (.int (zi n)), some (.int (zi ns))]) (S' := [.int (zi 1), .int (zi n), .ref x]) rfl ?_
  by_cases hc1 : ¬ (n : Int) = 1
  · refine gy_icT (pc' := 10) rfl (by decide) (by decide) (by omega) (by omega) hc1 ?_
    refine gz_s 1 (pc' := 11) (L' := [some (.ref x), some (.int (zi b)), some (.int (zi n)), some (.int (zi ns))]) (S' := [.int (zi 0), .ref x]) rfl ?_
    refine gs_put rfl (by decide) rfl hS tx rfl rfl rfl rfl (Or.inl rfl) (by decide) (by omega) (by omega) (fun h2 sh2 eh2 fh2 => ?_)
    have s3 := (fh2 x 7 (fun q => absurd q.2 (by decide))).trans epic
    refine gz_s 2 (pc' := 16) (L' := [some (.ref x), some (.int (zi b)), some (.int (zi n)), some (.int (zi ns))]) (S' := [.int (zi b), .ref x]) rfl ?_
    refine gs_put rfl (by decide) rfl sh2 tx rfl rfl rfl rfl (Or.inl rfl) (by decide) (by omega) (by omega) (fun h4 sh4 eh4 fh4 => ?_)
    have s5 := (fh4 x 7 (fun q => absurd q.2 (by decide))).trans s3
    have s6 := (fh4 x 11 (fun q => absurd q.2 (by decide))).trans eh2
    refine gz_s 1 (pc' := 20) (L' := [some (.ref x), some (.int (zi b)), some (.int (zi n)), some (.int (zi ns))]) (S' := [.ref x]) rfl ?_
    refine gs_gtk rfl (by decide) rfl sh4.1 tx rfl rfl s5 ?_
    refine gs_gtr rfl (by decide) rfl sh4.1 tpic rfl rfl rfl (fun c7 ec7 tc7 => ?_)
    refine gz_s 1 (pc' := 27) (L' := [some (.ref x), some (.int (zi b)), some (.int (zi n)), some (.int (zi ns))]) (S' := [.int (zi b), .ref c7]) rfl ?_
    rcases (by omega : b = 0 ∨ b = 1 ∨ b = 2) with he10 | he10 | he10
    · refine gs_aal (j := 0) (q2 := 82) rfl (by decide) sh4.1 tc7 rfl rfl rfl (by decide) he10 rfl (by decide) (fun c11 ec11 tc11 => ?_)
      refine gz_s 2 (pc' := 30) (L' := [some (.ref x), some (.int (zi b)), some (.int (zi n)), some (.int (zi ns))]) (S' := [.int (zi 4), .int (zi ns), .ref c11]) rfl ?_
      refine gy_shc (n := 4) (v := 16) rfl (by decide) (by omega) (by decide) (by decide) rfl ?_
      refine gs_put rfl (by decide) rfl sh4 tc11 rfl rfl rfl rfl (Or.inl rfl) (by decide) (by omega) (by omega) (fun h12 sh12 eh12 fh12 => ?_)
      have s13 := (fh12 x 7 (fun q => absurd q.2 (by decide))).trans s5
      have s14 := (fh12 x 11 (fun q => absurd q.2 (by decide))).trans s6
      have s15 := (fh12 x 12 (fun q => absurd q.2 (by decide))).trans eh4
      have s16 := (fh12 pic 0 (fun q => absurd q.2 (by decide))).trans ec7
      have s17 := (fh12 c7 0 (fun q => absurd (((tc7).symm.trans (congrArg ty q.1)).trans tc11) (by decide))).trans ec11
      refine gz_s 1 (pc' := 35) (L' := [some (.ref x), some (.int (zi b)), some (.int (zi n)), some (.int (zi ns))]) (S' := [.ref x]) rfl ?_
      refine gs_gtk rfl (by decide) rfl sh12.1 tx rfl rfl s13 ?_
      refine gs_gtk rfl (by decide) rfl sh12.1 tpic rfl rfl s16 ?_
      refine gz_s 1 (pc' := 42) (L' := [some (.ref x), some (.int (zi b)), some (.int (zi n)), some (.int (zi ns))]) (S' := [.int (zi b), .ref c7]) rfl ?_
      have he20 : (b : Int) = 0 := by omega
      refine gs_aak (j := 0) rfl (by decide) sh12.1 tc7 rfl rfl rfl (by decide) he20 (by decide) s17 ?_
      refine gy_s 3 (pc' := 47) (L' := [some (.ref x), some (.int (zi b)), some (.int (zi n)), some (.int (zi ns))]) (S' := [.int ((zi ns) &&& (zi 15)), .ref c11]) (L2 := [some (.ref x), some (.int (zi b)), some (.int (zi n)), some (.int (zi ns))]) (S2 := [.int (zi (ns % 16)), .ref c11]) rfl (by simp only [zi_add, zi_sub, zi_mul, zi_neg, zi_and1, zi_and7, zi_and15, zi_and31, zi_and255]) (by simp only [zi_add, zi_sub, zi_mul, zi_neg, zi_and1, zi_and7, zi_and15, zi_and31, zi_and255]) ?_
      refine gs_put rfl (by decide) rfl sh12 tc11 rfl rfl rfl rfl (Or.inl rfl) (by decide) (by omega) (by omega) (fun h21 sh21 eh21 fh21 => ?_)
      have s22 := (fh21 x 7 (fun q => absurd q.2 (by decide))).trans s13
      have s23 := (fh21 x 11 (fun q => absurd q.2 (by decide))).trans s14
      have s24 := (fh21 x 12 (fun q => absurd q.2 (by decide))).trans s15
      have s25 := (fh21 pic 0 (fun q => absurd q.2 (by decide))).trans s16
      have s26 := (fh21 c7 0 (fun q => absurd (((tc7).symm.trans (congrArg ty q.1)).trans tc11) (by decide))).trans s17
      have s27 := (fh21 c11 9 (fun q => absurd q.2 (by decide))).trans eh12
      exact gz_end (I := .return_) (len := 1) rfl (Or.inl rfl) ⟨sh21, 0, b, rfl, s23, (by omega), (by omega), s24, (by omega), (by omega), (by omega), (by omega)⟩
    · refine gs_aal (j := 1) (q2 := 83) rfl (by decide) sh4.1 tc7 rfl rfl rfl (by decide) he10 rfl (by decide) (fun c28 ec28 tc28 => ?_)
      refine gz_s 2 (pc' := 30) (L' := [some (.ref x), some (.int (zi b)), some (.int (zi n)), some (.int (zi ns))]) (S' := [.int (zi 4), .int (zi ns), .ref c28]) rfl ?_
      refine gy_shc (n := 4) (v := 16) rfl (by decide) (by omega) (by decide) (by decide) rfl ?_
      refine gs_put rfl (by decide) rfl sh4 tc28 rfl rfl rfl rfl (Or.inl rfl) (by decide) (by omega) (by omega) (fun h29 sh29 eh29 fh29 => ?_)
      have s30 := (fh29 x 7 (fun q => absurd q.2 (by decide))).trans s5
      have s31 := (fh29 x 11 (fun q => absurd q.2 (by decide))).trans s6
      have s32 := (fh29 x 12 (fun q => absurd q.2 (by decide))).trans eh4
      have s33 := (fh29 pic 0 (fun q => absurd q.2 (by decide))).trans ec7
      have s34 := (fh29 c7 1 (fun q => absurd (((tc7).symm.trans (congrArg ty q.1)).trans tc28) (by decide))).trans ec28
      refine gz_s 1 (pc' := 35) (L' := [some (.ref x), some (.int (zi b)), some (.int (zi n)), some (.int (zi ns))]) (S' := [.ref x]) rfl ?_
      refine gs_gtk rfl (by decide) rfl sh29.1 tx rfl rfl s30 ?_
      refine gs_gtk rfl (by decide) rfl sh29.1 tpic rfl rfl s33 ?_
      refine gz_s 1 (pc' := 42) (L' := [some (.ref x), some (.int (zi b)), some (.int (zi n)), some (.int (zi ns))]) (S' := [.int (zi b), .ref c7]) rfl ?_
      have he37 : (b : Int) = 1 := by omega
      refine gs_aak (j := 1) rfl (by decide) sh29.1 tc7 rfl rfl rfl (by decide) he37 (by decide) s34 ?_
      refine gy_s 3 (pc' := 47) (L' := [some (.ref x), some (.int (zi b)), some (.int (zi n)), some (.int (zi ns))]) (S' := [.int ((zi ns) &&& (zi 15)), .ref c28]) (L2 := [some (.ref x), some (.int (zi b)), some (.int (zi n)), some (.int (zi ns))]) (S2 := [.int (zi (ns % 16)), .ref c28]) rfl (by simp only [zi_add, zi_sub, zi_mul, zi_neg, zi_and1, zi_and7, zi_and15, zi_and31, zi_and255]) (by simp only [zi_add, zi_sub, zi_mul, zi_neg, zi_and1, zi_and7, zi_and15, zi_and31, zi_and255]) ?_
      refine gs_put rfl (by decide) rfl sh29 tc28 rfl rfl rfl rfl (Or.inl rfl) (by decide) (by omega) (by omega) (fun h38 sh38 eh38 fh38 => ?_)
      have s39 := (fh38 x 7 (fun q => absurd q.2 (by decide))).trans s30
      have s40 := (fh38 x 11 (fun q => absurd q.2 (by decide))).trans s31
      have s41 := (fh38 x 12 (fun q => absurd q.2 (by decide))).trans s32
      have s42 := (fh38 pic 0 (fun q => absurd q.2 (by decide))).trans s33
      have s43 := (fh38 c7 1 (fun q => absurd (((tc7).symm.trans (congrArg ty q.1)).trans tc28) (by decide))).trans s34
      have s44 := (fh38 c28 9 (fun q => absurd q.2 (by decide))).trans eh29
      exact gz_end (I := .return_) (len := 1) rfl (Or.inl rfl) ⟨sh38, 0, b, rfl, s40, (by omega), (by omega), s41, (by omega), (by omega), (by omega), (by omega)⟩
    · refine gs_aal (j := 2) (q2 := 84) rfl (by decide) sh4.1 tc7 rfl rfl rfl (by decide) he10 rfl (by decide) (fun c45 ec45 tc45 => ?_)
      refine gz_s 2 (pc' := 30) (L' := [some (.ref x), some (.int (zi b)), some (.int (zi n)), some (.int (zi ns))]) (S' := [.int (zi 4), .int (zi ns), .ref c45]) rfl ?_
      refine gy_shc (n := 4) (v := 16) rfl (by decide) (by omega) (by decide) (by decide) rfl ?_
      refine gs_put rfl (by decide) rfl sh4 tc45 rfl rfl rfl rfl (Or.inl rfl) (by decide) (by omega) (by omega) (fun h46 sh46 eh46 fh46 => ?_)
      have s47 := (fh46 x 7 (fun q => absurd q.2 (by decide))).trans s5
      have s48 := (fh46 x 11 (fun q => absurd q.2 (by decide))).trans s6
      have s49 := (fh46 x 12 (fun q => absurd q.2 (by decide))).trans eh4
      have s50 := (fh46 pic 0 (fun q => absurd q.2 (by decide))).trans ec7
      have s51 := (fh46 c7 2 (fun q => absurd (((tc7).symm.trans (congrArg ty q.1)).trans tc45) (by decide))).trans ec45
      refine gz_s 1 (pc' := 35) (L' := [some (.ref x), some (.int (zi b)), some (.int (zi n)), some (.int (zi ns))]) (S' := [.ref x]) rfl ?_
      refine gs_gtk rfl (by decide) rfl sh46.1 tx rfl rfl s47 ?_
      refine gs_gtk rfl (by decide) rfl sh46.1 tpic rfl rfl s50 ?_
      refine gz_s 1 (pc' := 42) (L' := [some (.ref x), some (.int (zi b)), some (.int (zi n)), some (.int (zi ns))]) (S' := [.int (zi b), .ref c7]) rfl ?_
      have he54 : (b : Int) = 2 := by omega
      refine gs_aak (j := 2) rfl (by decide) sh46.1 tc7 rfl rfl rfl (by decide) he54 (by decide) s51 ?_
      refine gy_s 3 (pc' := 47) (L' := [some (.ref x), some (.int (zi b)), some (.int (zi n)), some (.int (zi ns))]) (S' := [.int ((zi ns) &&& (zi 15)), .ref c45]) (L2 := [some (.ref x), some (.int (zi b)), some (.int (zi n)), some (.int (zi ns))]) (S2 := [.int (zi (ns % 16)), .ref c45]) rfl (by simp only [zi_add, zi_sub, zi_mul, zi_neg, zi_and1, zi_and7, zi_and15, zi_and31, zi_and255]) (by simp only [zi_add, zi_sub, zi_mul, zi_neg, zi_and1, zi_and7, zi_and15, zi_and31, zi_and255]) ?_
      refine gs_put rfl (by decide) rfl sh46 tc45 rfl rfl rfl rfl (Or.inl rfl) (by decide) (by omega) (by omega) (fun h55 sh55 eh55 fh55 => ?_)
      have s56 := (fh55 x 7 (fun q => absurd q.2 (by decide))).trans s47
      have s57 := (fh55 x 11 (fun q => absurd q.2 (by decide))).trans s48
      have s58 := (fh55 x 12 (fun q => absurd q.2 (by decide))).trans s49
      have s59 := (fh55 pic 0 (fun q => absurd q.2 (by decide))).trans s50
      have s60 := (fh55 c7 2 (fun q => absurd (((tc7).symm.trans (congrArg ty q.1)).trans tc45) (by decide))).trans s51
      have s61 := (fh55 c45 9 (fun q => absurd q.2 (by decide))).trans eh46
      exact gz_end (I := .return_) (len := 1) rfl (Or.inl rfl) ⟨sh55, 0, b, rfl, s57, (by omega), (by omega), s58, (by omega), (by omega), (by omega), (by omega)⟩
  · refine gy_icF rfl (by decide) (by decide) (by omega) (by omega) hc1 ?_
    refine gz_s 2 (pc' := 11) (L' := [some (.ref x), some (.int (zi b)), some (.int (zi n)), some (.int (zi ns))]) (S' := [.int (zi 1), .ref x]) rfl ?_
    refine gs_put rfl (by decide) rfl hS tx rfl rfl rfl rfl (Or.inl rfl) (by decide) (by omega) (by omega) (fun h62 sh62 eh62 fh62 => ?_)
    have s63 := (fh62 x 7 (fun q => absurd q.2 (by decide))).trans epic
    refine gz_s 2 (pc' := 16) (L' := [some (.ref x), some (.int (zi b)), some (.int (zi n)), some (.int (zi ns))]) (S' := [.int (zi b), .ref x]) rfl ?_
    refine gs_put rfl (by decide) rfl sh62 tx rfl rfl rfl rfl (Or.inl rfl) (by decide) (by omega) (by omega) (fun h64 sh64 eh64 fh64 => ?_)
    have s65 := (fh64 x 7 (fun q => absurd q.2 (by decide))).trans s63
    have s66 := (fh64 x 11 (fun q => absurd q.2 (by decide))).trans eh62
    refine gz_s 1 (pc' := 20) (L' := [some (.ref x), some (.int (zi b)), some (.int (zi n)), some (.int (zi ns))]) (S' := [.ref x]) rfl ?_
    refine gs_gtk rfl (by decide) rfl sh64.1 tx rfl rfl s65 ?_
    refine gs_gtr rfl (by decide) rfl sh64.1 tpic rfl rfl rfl (fun c67 ec67 tc67 => ?_)
    refine gz_s 1 (pc' := 27) (L' := [some (.ref x), some (.int (zi b)), some (.int (zi n)), some (.int (zi ns))]) (S' := [.int (zi b), .ref c67]) rfl ?_
    rcases (by omega : b = 0 ∨ b = 1 ∨ b = 2) with he70 | he70 | he70
    · refine gs_aal (j := 0) (q2 := 82) rfl (by decide) sh64.1 tc67 rfl rfl rfl (by decide) he70 rfl (by decide) (fun c71 ec71 tc71 => ?_)
      refine gz_s 2 (pc' := 30) (L' := [some (.ref x), some (.int (zi b)), some (.int (zi n)), some (.int (zi ns))]) (S' := [.int (zi 4), .int (zi ns), .ref c71]) rfl ?_
      refine gy_shc (n := 4) (v := 16) rfl (by decide) (by omega) (by decide) (by decide) rfl ?_
      refine gs_put rfl (by decide) rfl sh64 tc71 rfl rfl rfl rfl (Or.inl rfl) (by decide) (by omega) (by omega) (fun h72 sh72 eh72 fh72 => ?_)
      have s73 := (fh72 x 7 (fun q => absurd q.2 (by decide))).trans s65
      have s74 := (fh72 x 11 (fun q => absurd q.2 (by decide))).trans s66
      have s75 := (fh72 x 12 (fun q => absurd q.2 (by decide))).trans eh64
      have s76 := (fh72 pic 0 (fun q => absurd q.2 (by decide))).trans ec67
      have s77 := (fh72 c67 0 (fun q => absurd (((tc67).symm.trans (congrArg ty q.1)).trans tc71) (by decide))).trans ec71
      refine gz_s 1 (pc' := 35) (L' := [some (.ref x), some (.int (zi b)), some (.int (zi n)), some (.int (zi ns))]) (S' := [.ref x]) rfl ?_
      refine gs_gtk rfl (by decide) rfl sh72.1 tx rfl rfl s73 ?_
      refine gs_gtk rfl (by decide) rfl sh72.1 tpic rfl rfl s76 ?_
      refine gz_s 1 (pc' := 42) (L' := [some (.ref x), some (.int (zi b)), some (.int (zi n)), some (.int (zi ns))]) (S' := [.int (zi b), .ref c67]) rfl ?_
      have he80 : (b : Int) = 0 := by omega
      refine gs_aak (j := 0) rfl (by decide) sh72.1 tc67 rfl rfl rfl (by decide) he80 (by decide) s77 ?_
      refine gy_s 3 (pc' := 47) (L' := [some (.ref x), some (.int (zi b)), some (.int (zi n)), some (.int (zi ns))]) (S' := [.int ((zi ns) &&& (zi 15)), .ref c71]) (L2 := [some (.ref x), some (.int (zi b)), some (.int (zi n)), some (.int (zi ns))]) (S2 := [.int (zi (ns % 16)), .ref c71]) rfl (by simp only [zi_add, zi_sub, zi_mul, zi_neg, zi_and1, zi_and7, zi_and15, zi_and31, zi_and255]) (by simp only [zi_add, zi_sub, zi_mul, zi_neg, zi_and1, zi_and7, zi_and15, zi_and31, zi_and255]) ?_
      refine gs_put rfl (by decide) rfl sh72 tc71 rfl rfl rfl rfl (Or.inl rfl) (by decide) (by omega) (by omega) (fun h81 sh81 eh81 fh81 => ?_)
      have s82 := (fh81 x 7 (fun q => absurd q.2 (by decide))).trans s73
      have s83 := (fh81 x 11 (fun q => absurd q.2 (by decide))).trans s74
      have s84 := (fh81 x 12 (fun q => absurd q.2 (by decide))).trans s75
      have s85 := (fh81 pic 0 (fun q => absurd q.2 (by decide))).trans s76
      have s86 := (fh81 c67 0 (fun q => absurd (((tc67).symm.trans (congrArg ty q.1)).trans tc71) (by decide))).trans s77
      have s87 := (fh81 c71 9 (fun q => absurd q.2 (by decide))).trans eh72
      exact gz_end (I := .return_) (len := 1) rfl (Or.inl rfl) ⟨sh81, 1, b, rfl, s83, (by omega), (by omega), s84, (by omega), (by omega), (by omega), (by omega)⟩
    · refine gs_aal (j := 1) (q2 := 83) rfl (by decide) sh64.1 tc67 rfl rfl rfl (by decide) he70 rfl (by decide) (fun c88 ec88 tc88 => ?_)
      refine gz_s 2 (pc' := 30) (L' := [some (.ref x), some (.int (zi b)), some (.int (zi n)), some (.int (zi ns))]) (S' := [.int (zi 4), .int (zi ns), .ref c88]) rfl ?_
      refine gy_shc (n := 4) (v := 16) rfl (by decide) (by omega) (by decide) (by decide) rfl ?_
      refine gs_put rfl (by decide) rfl sh64 tc88 rfl rfl rfl rfl (Or.inl rfl) (by decide) (by omega) (by omega) (fun h89 sh89 eh89 fh89 => ?_)
      have s90 := (fh89 x 7 (fun q => absurd q.2 (by decide))).trans s65
      have s91 := (fh89 x 11 (fun q => absurd q.2 (by decide))).trans s66
      have s92 := (fh89 x 12 (fun q => absurd q.2 (by decide))).trans eh64
      have s93 := (fh89 pic 0 (fun q => absurd q.2 (by decide))).trans ec67
      have s94 := (fh89 c67 1 (fun q => absurd (((tc67).symm.trans (congrArg ty q.1)).trans tc88) (by decide))).trans ec88
      refine gz_s 1 (pc' := 35) (L' := [some (.ref x), some (.int (zi b)), some (.int (zi n)), some (.int (zi ns))]) (S' := [.ref x]) rfl ?_
      refine gs_gtk rfl (by decide) rfl sh89.1 tx rfl rfl s90 ?_
      refine gs_gtk rfl (by decide) rfl sh89.1 tpic rfl rfl s93 ?_
      refine gz_s 1 (pc' := 42) (L' := [some (.ref x), some (.int (zi b)), some (.int (zi n)), some (.int (zi ns))]) (S' := [.int (zi b), .ref c67]) rfl ?_
      have he97 : (b : Int) = 1 := by omega
      refine gs_aak (j := 1) rfl (by decide) sh89.1 tc67 rfl rfl rfl (by decide) he97 (by decide) s94 ?_
      refine gy_s 3 (pc' := 47) (L' := [some (.ref x), some (.int (zi b)), some (.int (zi n)), some (.int (zi ns))]) (S' := [.int ((zi ns) &&& (zi 15)), .ref c88]) (L2 := [some (.ref x), some (.int (zi b)), some (.int (zi n)), some (.int (zi ns))]) (S2 := [.int (zi (ns % 16)), .ref c88]) rfl (by simp only [zi_add, zi_sub, zi_mul, zi_neg, zi_and1, zi_and7, zi_and15, zi_and31, zi_and255]) (by simp only [zi_add, zi_sub, zi_mul, zi_neg, zi_and1, zi_and7, zi_and15, zi_and31, zi_and255]) ?_
      refine gs_put rfl (by decide) rfl sh89 tc88 rfl rfl rfl rfl (Or.inl rfl) (by decide) (by omega) (by omega) (fun h98 sh98 eh98 fh98 => ?_)
      have s99 := (fh98 x 7 (fun q => absurd q.2 (by decide))).trans s90
      have s100 := (fh98 x 11 (fun q => absurd q.2 (by decide))).trans s91
      have s101 := (fh98 x 12 (fun q => absurd q.2 (by decide))).trans s92
      have s102 := (fh98 pic 0 (fun q => absurd q.2 (by decide))).trans s93
      have s103 := (fh98 c67 1 (fun q => absurd (((tc67).symm.trans (congrArg ty q.1)).trans tc88) (by decide))).trans s94
      have s104 := (fh98 c88 9 (fun q => absurd q.2 (by decide))).trans eh89
      exact gz_end (I := .return_) (len := 1) rfl (Or.inl rfl) ⟨sh98, 1, b, rfl, s100, (by omega), (by omega), s101, (by omega), (by omega), (by omega), (by omega)⟩
    · refine gs_aal (j := 2) (q2 := 84) rfl (by decide) sh64.1 tc67 rfl rfl rfl (by decide) he70 rfl (by decide) (fun c105 ec105 tc105 => ?_)
      refine gz_s 2 (pc' := 30) (L' := [some (.ref x), some (.int (zi b)), some (.int (zi n)), some (.int (zi ns))]) (S' := [.int (zi 4), .int (zi ns), .ref c105]) rfl ?_
      refine gy_shc (n := 4) (v := 16) rfl (by decide) (by omega) (by decide) (by decide) rfl ?_
      refine gs_put rfl (by decide) rfl sh64 tc105 rfl rfl rfl rfl (Or.inl rfl) (by decide) (by omega) (by omega) (fun h106 sh106 eh106 fh106 => ?_)
      have s107 := (fh106 x 7 (fun q => absurd q.2 (by decide))).trans s65
      have s108 := (fh106 x 11 (fun q => absurd q.2 (by decide))).trans s66
      have s109 := (fh106 x 12 (fun q => absurd q.2 (by decide))).trans eh64
      have s110 := (fh106 pic 0 (fun q => absurd q.2 (by decide))).trans ec67
      have s111 := (fh106 c67 2 (fun q => absurd (((tc67).symm.trans (congrArg ty q.1)).trans tc105) (by decide))).trans ec105
      refine gz_s 1 (pc' := 35) (L' := [some (.ref x), some (.int (zi b)), some (.int (zi n)), some (.int (zi ns))]) (S' := [.ref x]) rfl ?_
      refine gs_gtk rfl (by decide) rfl sh106.1 tx rfl rfl s107 ?_
      refine gs_gtk rfl (by decide) rfl sh106.1 tpic rfl rfl s110 ?_
      refine gz_s 1 (pc' := 42) (L' := [some (.ref x), some (.int (zi b)), some (.int (zi n)), some (.int (zi ns))]) (S' := [.int (zi b), .ref c67]) rfl ?_
      have he114 : (b : Int) = 2 := by omega
      refine gs_aak (j := 2) rfl (by decide) sh106.1 tc67 rfl rfl rfl (by decide) he114 (by decide) s111 ?_
      refine gy_s 3 (pc' := 47) (L' := [some (.ref x), some (.int (zi b)), some (.int (zi n)), some (.int (zi ns))]) (S' := [.int ((zi ns) &&& (zi 15)), .ref c105]) (L2 := [some (.ref x), some (.int (zi b)), some (.int (zi n)), some (.int (zi ns))]) (S2 := [.int (zi (ns % 16)), .ref c105]) rfl (by simp only [zi_add, zi_sub, zi_mul, zi_neg, zi_and1, zi_and7, zi_and15, zi_and31, zi_and255]) (by simp only [zi_add, zi_sub, zi_mul, zi_neg, zi_and1, zi_and7, zi_and15, zi_and31, zi_and255]) ?_
      refine gs_put rfl (by decide) rfl sh106 tc105 rfl rfl rfl rfl (Or.inl rfl) (by decide) (by omega) (by omega) (fun h115 sh115 eh115 fh115 => ?_)
      have s116 := (fh115 x 7 (fun q => absurd q.2 (by decide))).trans s107
      have s117 := (fh115 x 11 (fun q => absurd q.2 (by decide))).trans s108
      have s118 := (fh115 x 12 (fun q => absurd q.2 (by decide))).trans s109
      have s119 := (fh115 pic 0 (fun q => absurd q.2 (by decide))).trans s110
      have s120 := (fh115 c67 2 (fun q => absurd (((tc67).symm.trans (congrArg ty q.1)).trans tc105) (by decide))).trans s111
      have s121 := (fh115 c105 9 (fun q => absurd q.2 (by decide))).trans eh106
      exact gz_end (I := .return_) (len := 1) rfl (Or.inl rfl) ⟨sh115, 1, b, rfl, s117, (by omega), (by omega), s118, (by omega), (by omega), (by omega), (by omega)⟩
