/-! ===== methods of the landed text (by program) ===== -/
set_option maxRecDepth 20000 in
set_option maxHeartbeats 4000000 in
theorem cl_ScanReader_countUnits (d : Nat) {ty : Nat → Nat} {h : gH} (hJ : gJ rT 1027 ty h) (x : Nat) (tx : ty x = 66) (pic : Nat) (epic : h.2.2.2.2 x 7 = .ref pic) (tpic : ty pic = 54) (bn : Nat) (ebn : h.2.2.2.2 pic 0 = .ref bn) (tbn : ty bn = 57) (b0 : Nat) (eb0 : h.2.2.2.2 bn 0 = .ref b0) (tb0 : ty b0 = 82) (b1 : Nat) (eb1 : h.2.2.2.2 bn 1 = .ref b1) (tb1 : ty b1 = 83) (b2 : Nat) (eb2 : h.2.2.2.2 bn 2 = .ref b2) (tb2 : ty b2 = 84) (cn : Int) (ecn : h.2.2.2.2 pic 7 = .int (zi cn)) (rcn : 0 ≤ cn ∧ cn ≤ 3) (uc : Int) (euc : h.2.2.2.2 pic 12 = .int (zi uc)) (ruc : 0 ≤ uc ∧ uc ≤ 8) (ur : Int) (eur : h.2.2.2.2 pic 13 = .int (zi ur)) (rur : 0 ≤ ur ∧ ur ≤ 8) (bl : Int) (ebl : h.2.2.2.2 pic 8 = .int (zi bl)) (rbl : 0 ≤ bl ∧ bl ≤ 192) (hb0 : Int) (ehb0 : h.2.2.2.2 b0 1 = .int (zi hb0)) (rhb0 : (-1) ≤ hb0 ∧ hb0 ≤ 15) (vb0 : Int) (evb0 : h.2.2.2.2 b0 2 = .int (zi vb0)) (rvb0 : 0 ≤ vb0 ∧ vb0 ≤ 15) (C0 : Int) (eC0 : h.2.2.2.2 b0 4 = .int (zi C0)) (rC0 : 0 ≤ C0 ∧ C0 ≤ 16) (R0 : Int) (eR0 : h.2.2.2.2 b0 5 = .int (zi R0)) (rR0 : 0 ≤ R0 ∧ R0 ≤ 16) (oc0 : Int) (eoc0 : h.2.2.2.2 b0 6 = .int (zi oc0)) (roc0 : 0 ≤ oc0 ∧ oc0 ≤ 16) (or0 : Int) (eor0 : h.2.2.2.2 b0 7 = .int (zi or0)) (ror0 : 0 ≤ or0 ∧ or0 ≤ 16) (f0 : Int) (ef0 : h.2.2.2.2 b0 8 = .int (zi f0)) (rf0 : 0 ≤ f0 ∧ f0 ≤ 192) (hb1 : Int) (ehb1 : h.2.2.2.2 b1 1 = .int (zi hb1)) (rhb1 : (-1) ≤ hb1 ∧ hb1 ≤ 15) (vb1 : Int) (evb1 : h.2.2.2.2 b1 2 = .int (zi vb1)) (rvb1 : 0 ≤ vb1 ∧ vb1 ≤ 15) (C1 : Int) (eC1 : h.2.2.2.2 b1 4 = .int (zi C1)) (rC1 : 0 ≤ C1 ∧ C1 ≤ 16) (R1 : Int) (eR1 : h.2.2.2.2 b1 5 = .int (zi R1)) (rR1 : 0 ≤ R1 ∧ R1 ≤ 16) (oc1 : Int) (eoc1 : h.2.2.2.2 b1 6 = .int (zi oc1)) (roc1 : 0 ≤ oc1 ∧ oc1 ≤ 16) (or1 : Int) (eor1 : h.2.2.2.2 b1 7 = .int (zi or1)) (ror1 : 0 ≤ or1 ∧ or1 ≤ 16) (f1 : Int) (ef1 : h.2.2.2.2 b1 8 = .int (zi f1)) (rf1 : 0 ≤ f1 ∧ f1 ≤ 192) (hb2 : Int) (ehb2 : h.2.2.2.2 b2 1 = .int (zi hb2)) (rhb2 : (-1) ≤ hb2 ∧ hb2 ≤ 15) (vb2 : Int) (evb2 : h.2.2.2.2 b2 2 = .int (zi vb2)) (rvb2 : 0 ≤ vb2 ∧ vb2 ≤ 15) (C2 : Int) (eC2 : h.2.2.2.2 b2 4 = .int (zi C2)) (rC2 : 0 ≤ C2 ∧ C2 ≤ 16) (R2 : Int) (eR2 : h.2.2.2.2 b2 5 = .int (zi R2)) (rR2 : 0 ≤ R2 ∧ R2 ≤ 16) (oc2 : Int) (eoc2 : h.2.2.2.2 b2 6 = .int (zi oc2)) (roc2 : 0 ≤ oc2 ∧ oc2 ≤ 16) (or2 : Int) (eor2 : h.2.2.2.2 b2 7 = .int (zi or2)) (ror2 : 0 ≤ or2 ∧ or2 ≤ 16) (f2 : Int) (ef2 : h.2.2.2.2 b2 8 = .int (zi f2)) (rf2 : 0 ≤ f2 ∧ f2 ≤ 192) (sg : Int) (esg : h.2.2.2.2 x 11 = .int (zi sg)) (rsg : 0 ≤ sg ∧ sg ≤ 1) (sb : Int) (esb : h.2.2.2.2 x 12 = .int (zi sb)) (rsb : 0 ≤ sb ∧ sb ≤ 2) (pp0 : 1 ≤ cn) (pp1 : sg = 1 → sb < cn) (uq : gUq ty) (hypq0 : 0 < cn → gPq uc ur hb0 vb0 C0 R0 oc0 or0 f0 bl) (hypq1 : 1 < cn → gPq uc ur hb1 vb1 C1 R1 oc1 or1 f1 bl) (hypq2 : 2 < cn → gPq uc ur hb2 vb2 C2 R2 oc2 or2 f2 bl) : gz gPP gGG gcn (d + 0) gt43 0 (gent [.ref x] 2) [] h (fun q _ => gSs rT 1027 ty [] h q.2.2 ∧ ∃ z : Int, gfin gt43 q.1 q.2.1 = some (some (.int (zi z))) ∧ 1 ≤ z ∧ z ≤ 64 ∧ (sg = 1 → sb = 0 → z = oc0 * or0) ∧ (sg = 1 → sb = 1 → z = oc1 * or1) ∧ (sg = 1 → sb = 2 → z = oc2 * or2) ∧ (¬ sg = 1 → z = uc * ur)) := by
  have hS : gSs rT 1027 ty [] h h := gSs.rf hJ
  refine gz_s 1 (pc' := 1) (L' := [some (.ref x), none]) (S' := [.ref x]) rfl ?_
  refine gs_gtk rfl (by decide) rfl hS.1 tx rfl rfl esg ?_
  by_cases hc1 : (sg : Int) = 0
  · refine gy_ifT (pc' := 30) rfl (by decide) (by decide) (by omega) hc1 ?_
    have hq2 := hypq0 (by omega)
    obtain ⟨k0_0, k0_1, k0_2, k0_3, k0_4, k0_5, k0_6, k0_7, k0_8, k0_9, k0_10, k0_11, k0_12, k0_13, k0_14, k0_15, k0_16, k0_17, k0_18⟩ := hq2
    have zb := zb3 (a := uc) (b := ur) (by omega) (by omega)
    refine gz_s 1 (pc' := 31) (L' := [some (.ref x), none]) (S' := [.ref x]) rfl ?_
    refine gs_gtk rfl (by decide) rfl hS.1 tx rfl rfl epic ?_
    refine gs_gtk rfl (by decide) rfl hS.1 tpic rfl rfl euc ?_
    refine gz_s 1 (pc' := 38) (L' := [some (.ref x), none]) (S' := [.ref x, .int (zi uc)]) rfl ?_
    refine gs_gtk rfl (by decide) rfl hS.1 tx rfl rfl epic ?_
    refine gs_gtk rfl (by decide) rfl hS.1 tpic rfl rfl eur ?_
    have hx3 := zx_f (a := uc) (b := ur) (A := 8) (B := 8) (by omega) (by omega) (by omega) (by omega)
    refine gy_s 1 (pc' := 45) (L' := [some (.ref x), none]) (S' := [.int ((zi uc) * (zi ur))]) (L2 := [some (.ref x), none]) (S2 := [.int (zi (uc * ur))]) rfl (by simp only [zi_add, zi_sub, zi_mul, zi_neg, zi_and1, zi_and7, zi_and15, zi_and31, zi_and255]) (by simp only [zi_add, zi_sub, zi_mul, zi_neg, zi_and1, zi_and7, zi_and15, zi_and31, zi_and255]) ?_
    exact gz_end (I := .ireturn) (len := 1) rfl (Or.inl rfl) ⟨hS, uc * ur, rfl, (by omega), (by omega), (by omega), (by omega), (by omega), (by omega)⟩
  · refine gy_ifF rfl (by decide) (by decide) (by omega) hc1 ?_
    refine gz_s 1 (pc' := 8) (L' := [some (.ref x), none]) (S' := [.ref x]) rfl ?_
    refine gs_gtk rfl (by decide) rfl hS.1 tx rfl rfl epic ?_
    refine gs_gtk rfl (by decide) rfl hS.1 tpic rfl rfl ebn ?_
    refine gz_s 1 (pc' := 15) (L' := [some (.ref x), none]) (S' := [.ref x, .ref bn]) rfl ?_
    refine gs_gtk rfl (by decide) rfl hS.1 tx rfl rfl esb ?_
    rcases (by omega : sb = 0 ∨ sb = 1 ∨ sb = 2) with he6 | he6 | he6
    · refine gs_aak (j := 0) rfl (by decide) hS.1 tbn rfl rfl rfl (by decide) he6 (by decide) eb0 ?_
      refine gz_s 1 (pc' := 20) (L' := [some (.ref x), some (.ref b0)]) (S' := []) rfl ?_
      have hq7 := hypq0 (by omega)
      obtain ⟨k0_0, k0_1, k0_2, k0_3, k0_4, k0_5, k0_6, k0_7, k0_8, k0_9, k0_10, k0_11, k0_12, k0_13, k0_14, k0_15, k0_16, k0_17, k0_18⟩ := hq7
      have zb := zb3 (a := oc0) (b := or0) (by omega) (by omega)
      refine gz_s 1 (pc' := 21) (L' := [some (.ref x), some (.ref b0)]) (S' := [.ref b0]) rfl ?_
      refine gs_gtk rfl (by decide) rfl hS.1 tb0 rfl rfl eoc0 ?_
      refine gz_s 1 (pc' := 25) (L' := [some (.ref x), some (.ref b0)]) (S' := [.ref b0, .int (zi oc0)]) rfl ?_
      refine gs_gtk rfl (by decide) rfl hS.1 tb0 rfl rfl eor0 ?_
      have hx8 := zx_f (a := oc0) (b := or0) (A := 8) (B := 8) (by omega) (by omega) (by omega) (by omega)
      refine gy_s 1 (pc' := 29) (L' := [some (.ref x), some (.ref b0)]) (S' := [.int ((zi oc0) * (zi or0))]) (L2 := [some (.ref x), some (.ref b0)]) (S2 := [.int (zi (oc0 * or0))]) rfl (by simp only [zi_add, zi_sub, zi_mul, zi_neg, zi_and1, zi_and7, zi_and15, zi_and31, zi_and255]) (by simp only [zi_add, zi_sub, zi_mul, zi_neg, zi_and1, zi_and7, zi_and15, zi_and31, zi_and255]) ?_
      exact gz_end (I := .ireturn) (len := 1) rfl (Or.inl rfl) ⟨hS, oc0 * or0, rfl, (by omega), (by omega), (by omega), (by omega), (by omega), (by omega)⟩
    · refine gs_aak (j := 1) rfl (by decide) hS.1 tbn rfl rfl rfl (by decide) he6 (by decide) eb1 ?_
      refine gz_s 1 (pc' := 20) (L' := [some (.ref x), some (.ref b1)]) (S' := []) rfl ?_
      have hq9 := hypq1 (by omega)
      obtain ⟨k1_0, k1_1, k1_2, k1_3, k1_4, k1_5, k1_6, k1_7, k1_8, k1_9, k1_10, k1_11, k1_12, k1_13, k1_14, k1_15, k1_16, k1_17, k1_18⟩ := hq9
      have zb := zb3 (a := oc1) (b := or1) (by omega) (by omega)
      refine gz_s 1 (pc' := 21) (L' := [some (.ref x), some (.ref b1)]) (S' := [.ref b1]) rfl ?_
      refine gs_gtk rfl (by decide) rfl hS.1 tb1 rfl rfl eoc1 ?_
      refine gz_s 1 (pc' := 25) (L' := [some (.ref x), some (.ref b1)]) (S' := [.ref b1, .int (zi oc1)]) rfl ?_
      refine gs_gtk rfl (by decide) rfl hS.1 tb1 rfl rfl eor1 ?_
      have hx10 := zx_f (a := oc1) (b := or1) (A := 8) (B := 8) (by omega) (by omega) (by omega) (by omega)
      refine gy_s 1 (pc' := 29) (L' := [some (.ref x), some (.ref b1)]) (S' := [.int ((zi oc1) * (zi or1))]) (L2 := [some (.ref x), some (.ref b1)]) (S2 := [.int (zi (oc1 * or1))]) rfl (by simp only [zi_add, zi_sub, zi_mul, zi_neg, zi_and1, zi_and7, zi_and15, zi_and31, zi_and255]) (by simp only [zi_add, zi_sub, zi_mul, zi_neg, zi_and1, zi_and7, zi_and15, zi_and31, zi_and255]) ?_
      exact gz_end (I := .ireturn) (len := 1) rfl (Or.inl rfl) ⟨hS, oc1 * or1, rfl, (by omega), (by omega), (by omega), (by omega), (by omega), (by omega)⟩
    · refine gs_aak (j := 2) rfl (by decide) hS.1 tbn rfl rfl rfl (by decide) he6 (by decide) eb2 ?_
      refine gz_s 1 (pc' := 20) (L' := [some (.ref x), some (.ref b2)]) (S' := []) rfl ?_
      have hq11 := hypq2 (by omega)
      obtain ⟨k2_0, k2_1, k2_2, k2_3, k2_4, k2_5, k2_6, k2_7, k2_8, k2_9, k2_10, k2_11, k2_12, k2_13, k2_14, k2_15, k2_16, k2_17, k2_18⟩ := hq11
      have zb := zb3 (a := oc2) (b := or2) (by omega) (by omega)
      refine gz_s 1 (pc' := 21) (L' := [some (.ref x), some (.ref b2)]) (S' := [.ref b2]) rfl ?_
      refine gs_gtk rfl (by decide) rfl hS.1 tb2 rfl rfl eoc2 ?_
      refine gz_s 1 (pc' := 25) (L' := [some (.ref x), some (.ref b2)]) (S' := [.ref b2, .int (zi oc2)]) rfl ?_
      refine gs_gtk rfl (by decide) rfl hS.1 tb2 rfl rfl eor2 ?_
      have hx12 := zx_f (a := oc2) (b := or2) (A := 8) (B := 8) (by omega) (by omega) (by omega) (by omega)
      refine gy_s 1 (pc' := 29) (L' := [some (.ref x), some (.ref b2)]) (S' := [.int ((zi oc2) * (zi or2))]) (L2 := [some (.ref x), some (.ref b2)]) (S2 := [.int (zi (oc2 * or2))]) rfl (by simp only [zi_add, zi_sub, zi_mul, zi_neg, zi_and1, zi_and7, zi_and15, zi_and31, zi_and255]) (by simp only [zi_add, zi_sub, zi_mul, zi_neg, zi_and1, zi_and7, zi_and15, zi_and31, zi_and255]) ?_
      exact gz_end (I := .ireturn) (len := 1) rfl (Or.inl rfl) ⟨hS, oc2 * or2, rfl, (by omega), (by omega), (by omega), (by omega), (by omega), (by omega)⟩
set_option maxRecDepth 20000 in
set_option maxHeartbeats 4000000 in
theorem cl_ScanReader_isMarkerGood (d : Nat) {ty : Nat → Nat} {h : gH} (hJ : gJ rT 1027 ty h) (x : Nat) (tx : ty x = 66) (u : Int) (ru : 0 ≤ u ∧ u ≤ 63) (bi : Nat) (ebi : h.2.2.2.2 x 0 = .ref bi) (tbi : ty bi = 67) (src : Nat) (esrc : h.2.2.2.2 bi 0 = .ref src) (tsrc : ty src = 51) (pic : Nat) (epic : h.2.2.2.2 x 7 = .ref pic) (tpic : ty pic = 54) (sz : Int) (esz : h.2.2.2.2 src 1 = .int (zi sz)) (rsz : 0 ≤ sz ∧ sz ≤ 2000) (p0 : Int) (ep0 : h.2.2.2.2 bi 1 = .int (zi p0)) (rp0 : 0 ≤ p0 ∧ p0 ≤ 2002) (uq : gUq ty) : gz gPP gGG gcn (d + 2) gt44 0 (gent [.ref x, .int (zi u)] 4) [] h (fun q _ => gSs rT 1027 ty [66014, 67001, 67003, 82011, 83011, 84011] h q.2.2 ∧ ∃ z p1 : Int, gfin gt44 q.1 q.2.1 = some (some (.int (zi z))) ∧ 0 ≤ z ∧ z ≤ 1 ∧ q.2.2.2.2.2.2 bi 1 = .int (zi p1) ∧ 0 ≤ p1 ∧ p1 ≤ 2002 ∧ (p0 ≤ p1)) := by
  have hS : gSs rT 1027 ty [66014, 67001, 67003, 82011, 83011, 84011] h h := gSs.rf hJ
  refine gz_s 1 (pc' := 1) (L' := [some (.ref x), some (.int (zi u)), none, none]) (S' := [.ref x]) rfl ?_
  refine gs_get rfl (by decide) rfl hS.1 tx rfl rfl rfl (fun z1 ez1 az1 bz1 => ?_)
  refine gz_s 1 (pc' := 5) (L' := [some (.ref x), some (.int (zi u)), none, none]) (S' := [.int (zi 1), .int (zi z1)]) rfl ?_
  by_cases hc2 : (z1 : Int) < 1
  · refine gy_icT (pc' := 25) rfl (by decide) (by decide) (by omega) (by omega) hc2 ?_
    refine gz_s 1 (pc' := 26) (L' := [some (.ref x), some (.int (zi u)), none, none]) (S' := [.int (zi 1)]) rfl ?_
    exact gz_end (I := .ireturn) (len := 1) rfl (Or.inl rfl) ⟨hS, 1, p0, gfin_z rfl rfl (by omega), (by omega), (by omega), ep0, (by omega), (by omega), (by omega)⟩
  · refine gy_icF rfl (by decide) (by decide) (by omega) (by omega) hc2 ?_
    refine gz_s 2 (pc' := 10) (L' := [some (.ref x), some (.int (zi u)), none, none]) (S' := [.ref x, .int (zi u)]) rfl ?_
    refine gs_get rfl (by decide) rfl hS.1 tx rfl rfl rfl (fun z3 ez3 az3 bz3 => ?_)
    by_cases hc4 : (u : Int) = z3
    · refine gy_icT (pc' := 25) rfl (by decide) (by decide) (by omega) (by omega) hc4 ?_
      refine gz_s 1 (pc' := 26) (L' := [some (.ref x), some (.int (zi u)), none, none]) (S' := [.int (zi 1)]) rfl ?_
      exact gz_end (I := .ireturn) (len := 1) rfl (Or.inl rfl) ⟨hS, 1, p0, gfin_z rfl rfl (by omega), (by omega), (by omega), ep0, (by omega), (by omega), (by omega)⟩
    · refine gy_icF rfl (by decide) (by decide) (by omega) (by omega) hc4 ?_
      refine gz_s 2 (pc' := 18) (L' := [some (.ref x), some (.int (zi u)), none, none]) (S' := [.ref x, .int (zi u)]) rfl ?_
      refine gs_gtk rfl (by decide) rfl hS.1 tx rfl rfl ez1 ?_
      refine gy_rem rfl (by decide) (by omega) (by omega) ?_
      have hd5 := zm_f (x := u) (y := z1) (by omega) (by omega)
      by_cases hc6 : (u % z1 : Int) = 0
      · refine gy_ifT (pc' := 27) rfl (by decide) (by decide) (by omega) hc6 ?_
        refine gz_s 3 (pc' := 32) (L' := [some (.ref x), some (.int (zi u)), none, none]) (S' := [.ref x, .int (zi u), .int (zi 208)]) rfl ?_
        refine gs_gtk rfl (by decide) rfl hS.1 tx rfl rfl ez1 ?_
        refine gy_div rfl (by decide) (by omega) (by omega) ?_
        have hd7 := zd_f (x := u) (y := z1) (by omega) (by omega)
        refine gy_s 3 (pc' := 40) (L' := [some (.ref x), some (.int (zi u)), none, none]) (S' := [.int (zi 8), .int ((zi (u / z1)) - (zi 1)), .int (zi 208)]) (L2 := [some (.ref x), some (.int (zi u)), none, none]) (S2 := [.int (zi 8), .int (zi ((u / z1) - 1)), .int (zi 208)]) rfl (by simp only [zi_add, zi_sub, zi_mul, zi_neg, zi_and1, zi_and7, zi_and15, zi_and31, zi_and255]) (by simp only [zi_add, zi_sub, zi_mul, zi_neg, zi_and1, zi_and7, zi_and15, zi_and31, zi_and255]) ?_
        refine gy_rmv rfl (by decide) (by omega) (by omega) (fun z8 az8 bz8 cz8 => ?_)
        refine gy_s 3 (pc' := 44) (L' := [some (.ref x), some (.int (zi u)), some (.int ((zi 208) + (zi z8))), none]) (S' := [.ref x]) (L2 := [some (.ref x), some (.int (zi u)), some (.int (zi (208 + z8))), none]) (S2 := [.ref x]) rfl (by simp only [zi_add, zi_sub, zi_mul, zi_neg, zi_and1, zi_and7, zi_and15, zi_and31, zi_and255]) (by simp only [zi_add, zi_sub, zi_mul, zi_neg, zi_and1, zi_and7, zi_and15, zi_and31, zi_and255]) ?_
        refine gs_gtk rfl (by decide) rfl hS.1 tx rfl rfl ebi ?_
        refine gs_gtk rfl (by decide) rfl hS.1 tbi rfl rfl esrc ?_
        refine gz_s 1 (pc' := 51) (L' := [some (.ref x), some (.int (zi u)), some (.int (zi (208 + z8))), none]) (S' := [.ref x, .ref src]) rfl ?_
        refine gs_gtk rfl (by decide) rfl hS.1 tx rfl rfl ebi ?_
        refine gs_gtk rfl (by decide) rfl hS.1 tbi rfl rfl ep0 ?_
        refine gz_call rfl (by decide) rfl (by decide) (by decide) (gcal_of rfl rfl rfl (Nat.le_of_ble_eq_true rfl) (gJ.recv (G := gGG) hS.1 tsrc rfl rfl)) (cl_Collected_markerAt _ hS.1 src tsrc p0 (by omega) sz esz (by omega) uq) (fun q9 _ wq9 => ?_)
        obtain ⟨pq9, oq9, hq9⟩ := q9
        obtain ⟨xq9, zq9, gq9, aq9, bq9, uq9_0, uq9_1⟩ := wq9
        refine ⟨_, gq9, ?_⟩
        show gz gPP gGG gcn _ _ 60 [some (.ref x), some (.int (zi u)), some (.int (zi (208 + z8))), none] [.int (zi zq9)] hq9 _
        have sq9 : gSs rT 1027 ty [66014, 67001, 67003, 82011, 83011, 84011] h hq9 := gSs.tr hS xq9 (by decide)
        have s10 := (xq9.2.2.2.2.2 x 0 (by rw [tx]; decide)).trans ebi
        have s11 := (xq9.2.2.2.2.2 bi 0 (by rw [tbi]; decide)).trans esrc
        have s12 := (xq9.2.2.2.2.2 x 7 (by rw [tx]; decide)).trans epic
        have s13 := (xq9.2.2.2.2.2 src 1 (by rw [tsrc]; decide)).trans esz
        have s14 := (xq9.2.2.2.2.2 bi 1 (by rw [tbi]; decide)).trans ep0
        have s15 := (xq9.2.2.2.2.2 x 1 (by rw [tx]; decide)).trans ez1
        have s16 := (xq9.2.2.2.2.2 x 13 (by rw [tx]; decide)).trans ez3
        refine gz_s 3 (pc' := 63) (L' := [some (.ref x), some (.int (zi u)), some (.int (zi (208 + z8))), some (.int (zi zq9))]) (S' := [.ref x, .int (zi zq9)]) rfl ?_
        refine gs_gtk rfl (by decide) rfl sq9.1 tx rfl rfl s10 ?_
        refine gs_gtk rfl (by decide) rfl sq9.1 tbi rfl rfl s14 ?_
        by_cases hc17 : (zq9 : Int) = p0
        · refine gy_icT (pc' := 87) rfl (by decide) (by decide) (by omega) (by omega) hc17 ?_
          refine gz_s 1 (pc' := 88) (L' := [some (.ref x), some (.int (zi u)), some (.int (zi (208 + z8))), some (.int (zi zq9))]) (S' := [.int (zi 0)]) rfl ?_
          exact gz_end (I := .ireturn) (len := 1) rfl (Or.inl rfl) ⟨sq9, 0, p0, gfin_z rfl rfl (by omega), (by omega), (by omega), s14, (by omega), (by omega), (by omega)⟩
        · refine gy_icF rfl (by decide) (by decide) (by omega) (by omega) hc17 ?_
          refine gz_s 1 (pc' := 73) (L' := [some (.ref x), some (.int (zi u)), some (.int (zi (208 + z8))), some (.int (zi zq9))]) (S' := [.ref x]) rfl ?_
          refine gs_gtk rfl (by decide) rfl sq9.1 tx rfl rfl s10 ?_
          refine gs_gtk rfl (by decide) rfl sq9.1 tbi rfl rfl s11 ?_
          refine gz_s 1 (pc' := 80) (L' := [some (.ref x), some (.int (zi u)), some (.int (zi (208 + z8))), some (.int (zi zq9))]) (S' := [.int (zi zq9), .ref src]) rfl ?_
          refine gz_call rfl (by decide) rfl (by decide) (by decide) (gcal_of rfl rfl rfl (Nat.le_of_ble_eq_true rfl) (gJ.recv (G := gGG) sq9.1 tsrc rfl rfl)) (cl_Collected_byteAt _ sq9.1 src tsrc zq9 (by omega) sz s13 (by omega) uq) (fun q18 _ wq18 => ?_)
          obtain ⟨pq18, oq18, hq18⟩ := q18
          obtain ⟨xq18, zq18, gq18, aq18, bq18, uq18_0⟩ := wq18
          refine ⟨_, gq18, ?_⟩
          show gz gPP gGG gcn _ _ 83 [some (.ref x), some (.int (zi u)), some (.int (zi (208 + z8))), some (.int (zi zq9))] [.int (zi zq18)] hq18 _
          have sq18 : gSs rT 1027 ty [66014, 67001, 67003, 82011, 83011, 84011] h hq18 := gSs.tr sq9 xq18 (by decide)
          have s19 := (xq18.2.2.2.2.2 x 0 (by rw [tx]; decide)).trans s10
          have s20 := (xq18.2.2.2.2.2 bi 0 (by rw [tbi]; decide)).trans s11
          have s21 := (xq18.2.2.2.2.2 x 7 (by rw [tx]; decide)).trans s12
          have s22 := (xq18.2.2.2.2.2 src 1 (by rw [tsrc]; decide)).trans s13
          have s23 := (xq18.2.2.2.2.2 bi 1 (by rw [tbi]; decide)).trans s14
          have s24 := (xq18.2.2.2.2.2 x 1 (by rw [tx]; decide)).trans s15
          have s25 := (xq18.2.2.2.2.2 x 13 (by rw [tx]; decide)).trans s16
          refine gz_s 1 (pc' := 84) (L' := [some (.ref x), some (.int (zi u)), some (.int (zi (208 + z8))), some (.int (zi zq9))]) (S' := [.int (zi (208 + z8)), .int (zi zq18)]) rfl ?_
          by_cases hc26 : (zq18 : Int) = 208 + z8
          · refine gy_icT (pc' := 89) rfl (by decide) (by decide) (by omega) (by omega) hc26 ?_
            refine gz_s 1 (pc' := 90) (L' := [some (.ref x), some (.int (zi u)), some (.int (zi (208 + z8))), some (.int (zi zq9))]) (S' := [.ref x]) rfl ?_
            refine gs_gtk rfl (by decide) rfl sq18.1 tx rfl rfl s19 ?_
            refine gy_s 3 (pc' := 96) (L' := [some (.ref x), some (.int (zi u)), some (.int (zi (208 + z8))), some (.int (zi zq9))]) (S' := [.int ((zi zq9) + (zi 1)), .ref bi]) (L2 := [some (.ref x), some (.int (zi u)), some (.int (zi (208 + z8))), some (.int (zi zq9))]) (S2 := [.int (zi (zq9 + 1)), .ref bi]) rfl (by simp only [zi_add, zi_sub, zi_mul, zi_neg, zi_and1, zi_and7, zi_and15, zi_and31, zi_and255]) (by simp only [zi_add, zi_sub, zi_mul, zi_neg, zi_and1, zi_and7, zi_and15, zi_and31, zi_and255]) ?_
            refine gz_call rfl (by decide) rfl (by decide) (by decide) (gcal_of rfl rfl rfl (Nat.le_of_ble_eq_true rfl) (gJ.recv (G := gGG) sq18.1 tbi rfl rfl)) (cl_Bits_beginAt _ sq18.1 bi tbi (zq9 + 1) (by omega) uq) (fun q27 _ wq27 => ?_)
            obtain ⟨pq27, oq27, hq27⟩ := q27
            obtain ⟨xq27, fq27_0, gq27, efq27_0, afq27_0, bfq27_0, uq27_0, uq27_1⟩ := wq27
            refine ⟨_, gq27, ?_⟩
            show gz gPP gGG gcn _ _ 99 [some (.ref x), some (.int (zi u)), some (.int (zi (208 + z8))), some (.int (zi zq9))] [] hq27 _
            have sq27 : gSs rT 1027 ty [66014, 67001, 67003, 82011, 83011, 84011] h hq27 := gSs.tr sq18 xq27 (by decide)
            have s28 := (xq27.2.2.2.2.2 x 0 (by rw [tx]; decide)).trans s19
            have s29 := (xq27.2.2.2.2.2 bi 0 (by rw [tbi]; decide)).trans s20
            have s30 := (xq27.2.2.2.2.2 x 7 (by rw [tx]; decide)).trans s21
            have s31 := (xq27.2.2.2.2.2 src 1 (by rw [tsrc]; decide)).trans s22
            have s32 := (xq27.2.2.2.2.2 x 1 (by rw [tx]; decide)).trans s24
            have s33 := (xq27.2.2.2.2.2 x 13 (by rw [tx]; decide)).trans s25
            refine gz_s 1 (pc' := 100) (L' := [some (.ref x), some (.int (zi u)), some (.int (zi (208 + z8))), some (.int (zi zq9))]) (S' := [.ref x]) rfl ?_
            refine gz_call rfl (by decide) rfl (by decide) (by decide) (gcal_of rfl rfl rfl (Nat.le_of_ble_eq_true rfl) (gJ.recv (G := gGG) sq27.1 tx rfl rfl)) (cl_ScanReader_beginInterval _ sq27.1 x tx pic s30 tpic uq) (fun q34 _ wq34 => ?_)
            obtain ⟨pq34, oq34, hq34⟩ := q34
            obtain ⟨xq34, gq34⟩ := wq34
            refine ⟨_, gq34, ?_⟩
            show gz gPP gGG gcn _ _ 103 [some (.ref x), some (.int (zi u)), some (.int (zi (208 + z8))), some (.int (zi zq9))] [] hq34 _
            have sq34 : gSs rT 1027 ty [66014, 67001, 67003, 82011, 83011, 84011] h hq34 := gSs.tr sq27 xq34 (by decide)
            have s35 := (xq34.2.2.2.2.2 x 0 (by rw [tx]; decide)).trans s28
            have s36 := (xq34.2.2.2.2.2 bi 0 (by rw [tbi]; decide)).trans s29
            have s37 := (xq34.2.2.2.2.2 x 7 (by rw [tx]; decide)).trans s30
            have s38 := (xq34.2.2.2.2.2 src 1 (by rw [tsrc]; decide)).trans s31
            have s39 := (xq34.2.2.2.2.2 x 1 (by rw [tx]; decide)).trans s32
            have s40 := (xq34.2.2.2.2.2 x 13 (by rw [tx]; decide)).trans s33
            have s41 := (xq34.2.2.2.2.2 bi 1 (by rw [tbi]; decide)).trans efq27_0
            refine gz_s 1 (pc' := 104) (L' := [some (.ref x), some (.int (zi u)), some (.int (zi (208 + z8))), some (.int (zi zq9))]) (S' := [.int (zi 1)]) rfl ?_
            exact gz_end (I := .ireturn) (len := 1) rfl (Or.inl rfl) ⟨sq34, 1, fq27_0, gfin_z rfl rfl (by omega), (by omega), (by omega), s41, (by omega), (by omega), (by omega)⟩
          · refine gy_icF rfl (by decide) (by decide) (by omega) (by omega) hc26 ?_
            refine gz_s 1 (pc' := 88) (L' := [some (.ref x), some (.int (zi u)), some (.int (zi (208 + z8))), some (.int (zi zq9))]) (S' := [.int (zi 0)]) rfl ?_
            exact gz_end (I := .ireturn) (len := 1) rfl (Or.inl rfl) ⟨sq18, 0, p0, gfin_z rfl rfl (by omega), (by omega), (by omega), s23, (by omega), (by omega), (by omega)⟩
      · refine gy_ifF rfl (by decide) (by decide) (by omega) hc6 ?_
        refine gz_s 1 (pc' := 26) (L' := [some (.ref x), some (.int (zi u)), none, none]) (S' := [.int (zi 1)]) rfl ?_
        exact gz_end (I := .ireturn) (len := 1) rfl (Or.inl rfl) ⟨hS, 1, p0, gfin_z rfl rfl (by omega), (by omega), (by omega), ep0, (by omega), (by omega), (by omega)⟩
set_option maxRecDepth 20000 in
set_option maxHeartbeats 4000000 in
theorem cl_ScanReader_isUnitRead (d : Nat) {ty : Nat → Nat} {h : gH} (hJ : gJ rT 1027 ty h) (x : Nat) (tx : ty x = 66) (u : Int) (ru : 0 ≤ u ∧ u ≤ 63) (bi : Nat) (ebi : h.2.2.2.2 x 0 = .ref bi) (tbi : ty bi = 67) (src : Nat) (esrc : h.2.2.2.2 bi 0 = .ref src) (tsrc : ty src = 51) (pic : Nat) (epic : h.2.2.2.2 x 7 = .ref pic) (tpic : ty pic = 54) (co : Nat) (eco : h.2.2.2.2 pic 2 = .ref co) (tco : ty co = 112) (bn : Nat) (ebn : h.2.2.2.2 pic 0 = .ref bn) (tbn : ty bn = 57) (b0 : Nat) (eb0 : h.2.2.2.2 bn 0 = .ref b0) (tb0 : ty b0 = 82) (b1 : Nat) (eb1 : h.2.2.2.2 bn 1 = .ref b1) (tb1 : ty b1 = 83) (b2 : Nat) (eb2 : h.2.2.2.2 bn 2 = .ref b2) (tb2 : ty b2 = 84) (sz : Int) (esz : h.2.2.2.2 src 1 = .int (zi sz)) (rsz : 0 ≤ sz ∧ sz ≤ 2000) (p0 : Int) (ep0 : h.2.2.2.2 bi 1 = .int (zi p0)) (rp0 : 0 ≤ p0 ∧ p0 ≤ 2002) (l0 : Int) (el0 : h.2.2.2.2 bi 3 = .int (zi l0)) (rl0 : 0 ≤ l0 ∧ l0 ≤ 8) (tt : Int) (ett : h.2.2.2.2 x 3 = .int (zi tt)) (rtt : (-1) ≤ tt ∧ tt ≤ 63) (fr : Int) (efr : h.2.2.2.2 x 2 = .int (zi fr)) (rfr : 0 ≤ fr ∧ fr ≤ 63) (cn : Int) (ecn : h.2.2.2.2 pic 7 = .int (zi cn)) (rcn : 0 ≤ cn ∧ cn ≤ 3) (uc : Int) (euc : h.2.2.2.2 pic 12 = .int (zi uc)) (ruc : 0 ≤ uc ∧ uc ≤ 8) (ur : Int) (eur : h.2.2.2.2 pic 13 = .int (zi ur)) (rur : 0 ≤ ur ∧ ur ≤ 8) (bl : Int) (ebl : h.2.2.2.2 pic 8 = .int (zi bl)) (rbl : 0 ≤ bl ∧ bl ≤ 192) (hb0 : Int) (ehb0 : h.2.2.2.2 b0 1 = .int (zi hb0)) (rhb0 : (-1) ≤ hb0 ∧ hb0 ≤ 15) (vb0 : Int) (evb0 : h.2.2.2.2 b0 2 = .int (zi vb0)) (rvb0 : 0 ≤ vb0 ∧ vb0 ≤ 15) (C0 : Int) (eC0 : h.2.2.2.2 b0 4 = .int (zi C0)) (rC0 : 0 ≤ C0 ∧ C0 ≤ 16) (R0 : Int) (eR0 : h.2.2.2.2 b0 5 = .int (zi R0)) (rR0 : 0 ≤ R0 ∧ R0 ≤ 16) (oc0 : Int) (eoc0 : h.2.2.2.2 b0 6 = .int (zi oc0)) (roc0 : 0 ≤ oc0 ∧ oc0 ≤ 16) (or0 : Int) (eor0 : h.2.2.2.2 b0 7 = .int (zi or0)) (ror0 : 0 ≤ or0 ∧ or0 ≤ 16) (f0 : Int) (ef0 : h.2.2.2.2 b0 8 = .int (zi f0)) (rf0 : 0 ≤ f0 ∧ f0 ≤ 192) (hb1 : Int) (ehb1 : h.2.2.2.2 b1 1 = .int (zi hb1)) (rhb1 : (-1) ≤ hb1 ∧ hb1 ≤ 15) (vb1 : Int) (evb1 : h.2.2.2.2 b1 2 = .int (zi vb1)) (rvb1 : 0 ≤ vb1 ∧ vb1 ≤ 15) (C1 : Int) (eC1 : h.2.2.2.2 b1 4 = .int (zi C1)) (rC1 : 0 ≤ C1 ∧ C1 ≤ 16) (R1 : Int) (eR1 : h.2.2.2.2 b1 5 = .int (zi R1)) (rR1 : 0 ≤ R1 ∧ R1 ≤ 16) (oc1 : Int) (eoc1 : h.2.2.2.2 b1 6 = .int (zi oc1)) (roc1 : 0 ≤ oc1 ∧ oc1 ≤ 16) (or1 : Int) (eor1 : h.2.2.2.2 b1 7 = .int (zi or1)) (ror1 : 0 ≤ or1 ∧ or1 ≤ 16) (f1 : Int) (ef1 : h.2.2.2.2 b1 8 = .int (zi f1)) (rf1 : 0 ≤ f1 ∧ f1 ≤ 192) (hb2 : Int) (ehb2 : h.2.2.2.2 b2 1 = .int (zi hb2)) (rhb2 : (-1) ≤ hb2 ∧ hb2 ≤ 15) (vb2 : Int) (evb2 : h.2.2.2.2 b2 2 = .int (zi vb2)) (rvb2 : 0 ≤ vb2 ∧ vb2 ≤ 15) (C2 : Int) (eC2 : h.2.2.2.2 b2 4 = .int (zi C2)) (rC2 : 0 ≤ C2 ∧ C2 ≤ 16) (R2 : Int) (eR2 : h.2.2.2.2 b2 5 = .int (zi R2)) (rR2 : 0 ≤ R2 ∧ R2 ≤ 16) (oc2 : Int) (eoc2 : h.2.2.2.2 b2 6 = .int (zi oc2)) (roc2 : 0 ≤ oc2 ∧ oc2 ≤ 16) (or2 : Int) (eor2 : h.2.2.2.2 b2 7 = .int (zi or2)) (ror2 : 0 ≤ or2 ∧ or2 ≤ 16) (f2 : Int) (ef2 : h.2.2.2.2 b2 8 = .int (zi f2)) (rf2 : 0 ≤ f2 ∧ f2 ≤ 192) (sg : Int) (esg : h.2.2.2.2 x 11 = .int (zi sg)) (rsg : 0 ≤ sg ∧ sg ≤ 1) (sb : Int) (esb : h.2.2.2.2 x 12 = .int (zi sb)) (rsb : 0 ≤ sb ∧ sb ≤ 2) (pp0 : sg = 1 → sb = 0 → u < oc0 * or0) (pp1 : sg = 1 → sb = 1 → u < oc1 * or1) (pp2 : sg = 1 → sb = 2 → u < oc2 * or2) (pp3 : ¬ sg = 1 → u < uc * ur) (pp4 : sg = 1 → sb < cn) (pp5 : bl * 64 ≤ (h.2.2.2.1 co : Int)) (pp6 : 0 ≤ tt) (uq : gUq ty) (hypq0 : 0 < cn → gPq uc ur hb0 vb0 C0 R0 oc0 or0 f0 bl) (hypq1 : 1 < cn → gPq uc ur hb1 vb1 C1 R1 oc1 or1 f1 bl) (hypq2 : 2 < cn → gPq uc ur hb2 vb2 C2 R2 oc2 or2 f2 bl) : gz gPP gGG gcn (d + 5) gt45 0 (gent [.ref x, .int (zi u)] 3) [] h (fun q _ => gSs rT 1027 ty [66010, 66014, 67001, 67002, 67003, 69999, 70999, 82011, 83011, 84011, 112999] h q.2.2 ∧ ∃ z p1 l1 : Int, gfin gt45 q.1 q.2.1 = some (some (.int (zi z))) ∧ 0 ≤ z ∧ z ≤ 1 ∧ q.2.2.2.2.2.2 bi 1 = .int (zi p1) ∧ 0 ≤ p1 ∧ p1 ≤ 2002 ∧ q.2.2.2.2.2.2 bi 3 = .int (zi l1) ∧ 0 ≤ l1 ∧ l1 ≤ 8 ∧ (p0 ≤ p1)) := by
  have hS : gSs rT 1027 ty [66010, 66014, 67001, 67002, 67003, 69999, 70999, 82011, 83011, 84011, 112999] h h := gSs.rf hJ
  refine gz_s 2 (pc' := 2) (L' := [some (.ref x), some (.int (zi u)), none]) (S' := [.int (zi u), .ref x]) rfl ?_
  refine gz_call rfl (by decide) rfl (by decide) (by decide) (gcal_of rfl rfl rfl (Nat.le_of_ble_eq_true rfl) (gJ.recv (G := gGG) hS.1 tx rfl rfl)) (cl_ScanReader_listBlocks _ hS.1 x tx u (by omega) pic epic tpic bn ebn tbn b0 eb0 tb0 b1 eb1 tb1 b2 eb2 tb2 cn ecn (by omega) uc euc (by omega) ur eur (by omega) bl ebl (by omega) hb0 ehb0 (by omega) vb0 evb0 (by omega) C0 eC0 (by omega) R0 eR0 (by omega) oc0 eoc0 (by omega) or0 eor0 (by omega) f0 ef0 (by omega) hb1 ehb1 (by omega) vb1 evb1 (by omega) C1 eC1 (by omega) R1 eR1 (by omega) oc1 eoc1 (by omega) or1 eor1 (by omega) f1 ef1 (by omega) hb2 ehb2 (by omega) vb2 evb2 (by omega) C2 eC2 (by omega) R2 eR2 (by omega) oc2 eoc2 (by omega) or2 eor2 (by omega) f2 ef2 (by omega) sg esg (by omega) sb esb (by omega) (by omega) (by omega) (by omega) (by omega) (by omega) uq hypq0 hypq1 hypq2) (fun q1 _ wq1 => ?_)
  obtain ⟨pq1, oq1, hq1⟩ := q1
  obtain ⟨xq1, fq1_0, gq1, efq1_0, afq1_0, bfq1_0, yq1_0⟩ := wq1
  refine ⟨_, gq1, ?_⟩
  show gz gPP gGG gcn _ _ 5 [some (.ref x), some (.int (zi u)), none] [] hq1 _
  have sq1 : gSs rT 1027 ty [66010, 66014, 67001, 67002, 67003, 69999, 70999, 82011, 83011, 84011, 112999] h hq1 := gSs.tr hS xq1 (by decide)
  have s2 := (xq1.2.2.2.2.2 x 0 (by rw [tx]; decide)).trans ebi
  have s3 := (xq1.2.2.2.2.2 bi 0 (by rw [tbi]; decide)).trans esrc
  have s4 := (xq1.2.2.2.2.2 x 7 (by rw [tx]; decide)).trans epic
  have s5 := (xq1.2.2.2.2.2 pic 2 (by rw [tpic]; decide)).trans eco
  have s6 := (xq1.2.2.2.2.2 pic 0 (by rw [tpic]; decide)).trans ebn
  have s7 := (xq1.2.2.2.2.2 bn 0 (by rw [tbn]; decide)).trans eb0
  have s8 := (xq1.2.2.2.2.2 bn 1 (by rw [tbn]; decide)).trans eb1
  have s9 := (xq1.2.2.2.2.2 bn 2 (by rw [tbn]; decide)).trans eb2
  have s10 := (xq1.2.2.2.2.2 src 1 (by rw [tsrc]; decide)).trans esz
  have s11 := (xq1.2.2.2.2.2 bi 1 (by rw [tbi]; decide)).trans ep0
  have s12 := (xq1.2.2.2.2.2 bi 3 (by rw [tbi]; decide)).trans el0
  have s13 := (xq1.2.2.2.2.2 x 3 (by rw [tx]; decide)).trans ett
  have s14 := (xq1.2.2.2.2.2 x 2 (by rw [tx]; decide)).trans efr
  have s15 := (xq1.2.2.2.2.2 pic 7 (by rw [tpic]; decide)).trans ecn
  have s16 := (xq1.2.2.2.2.2 pic 12 (by rw [tpic]; decide)).trans euc
  have s17 := (xq1.2.2.2.2.2 pic 13 (by rw [tpic]; decide)).trans eur
  have s18 := (xq1.2.2.2.2.2 pic 8 (by rw [tpic]; decide)).trans ebl
  have s19 := (xq1.2.2.2.2.2 b0 1 (by rw [tb0]; decide)).trans ehb0
  have s20 := (xq1.2.2.2.2.2 b0 2 (by rw [tb0]; decide)).trans evb0
  have s21 := (xq1.2.2.2.2.2 b0 4 (by rw [tb0]; decide)).trans eC0
  have s22 := (xq1.2.2.2.2.2 b0 5 (by rw [tb0]; decide)).trans eR0
  have s23 := (xq1.2.2.2.2.2 b0 6 (by rw [tb0]; decide)).trans eoc0
  have s24 := (xq1.2.2.2.2.2 b0 7 (by rw [tb0]; decide)).trans eor0
  have s25 := (xq1.2.2.2.2.2 b0 8 (by rw [tb0]; decide)).trans ef0
  have s26 := (xq1.2.2.2.2.2 b1 1 (by rw [tb1]; decide)).trans ehb1
  have s27 := (xq1.2.2.2.2.2 b1 2 (by rw [tb1]; decide)).trans evb1
  have s28 := (xq1.2.2.2.2.2 b1 4 (by rw [tb1]; decide)).trans eC1
  have s29 := (xq1.2.2.2.2.2 b1 5 (by rw [tb1]; decide)).trans eR1
  have s30 := (xq1.2.2.2.2.2 b1 6 (by rw [tb1]; decide)).trans eoc1
  have s31 := (xq1.2.2.2.2.2 b1 7 (by rw [tb1]; decide)).trans eor1
  have s32 := (xq1.2.2.2.2.2 b1 8 (by rw [tb1]; decide)).trans ef1
  have s33 := (xq1.2.2.2.2.2 b2 1 (by rw [tb2]; decide)).trans ehb2
  have s34 := (xq1.2.2.2.2.2 b2 2 (by rw [tb2]; decide)).trans evb2
  have s35 := (xq1.2.2.2.2.2 b2 4 (by rw [tb2]; decide)).trans eC2
  have s36 := (xq1.2.2.2.2.2 b2 5 (by rw [tb2]; decide)).trans eR2
  have s37 := (xq1.2.2.2.2.2 b2 6 (by rw [tb2]; decide)).trans eoc2
  have s38 := (xq1.2.2.2.2.2 b2 7 (by rw [tb2]; decide)).trans eor2
  have s39 := (xq1.2.2.2.2.2 b2 8 (by rw [tb2]; decide)).trans ef2
  have s40 := (xq1.2.2.2.2.2 x 11 (by rw [tx]; decide)).trans esg
  have s41 := (xq1.2.2.2.2.2 x 12 (by rw [tx]; decide)).trans esb
  refine gz_s 2 (pc' := 7) (L' := [some (.ref x), some (.int (zi u)), some (.int (zi 0))]) (S' := []) rfl ?_
  have lp42 : ∀ (fu : Nat) (h43 : gH) (i : Int) (pv : Int) (lv : Int), (13 - i).toNat < fu → gSs rT 1027 ty [66010, 66014, 67001, 67002, 67003, 69999, 70999, 82011, 83011, 84011, 112999] h h43 → (0 ≤ i ∧ i ≤ 12) → (0 ≤ pv ∧ pv ≤ 2002) → (0 ≤ lv ∧ lv ≤ 8) → (p0 ≤ pv) → h43.2.2.2.2 x 0 = .ref bi → h43.2.2.2.2 bi 0 = .ref src → h43.2.2.2.2 x 7 = .ref pic → h43.2.2.2.2 pic 2 = .ref co → h43.2.2.2.2 pic 0 = .ref bn → h43.2.2.2.2 bn 0 = .ref b0 → h43.2.2.2.2 bn 1 = .ref b1 → h43.2.2.2.2 bn 2 = .ref b2 → h43.2.2.2.2 src 1 = .int (zi sz) → h43.2.2.2.2 x 3 = .int (zi tt) → h43.2.2.2.2 x 2 = .int (zi fr) → h43.2.2.2.2 pic 7 = .int (zi cn) → h43.2.2.2.2 pic 12 = .int (zi uc) → h43.2.2.2.2 pic 13 = .int (zi ur) → h43.2.2.2.2 pic 8 = .int (zi bl) → h43.2.2.2.2 b0 1 = .int (zi hb0) → h43.2.2.2.2 b0 2 = .int (zi vb0) → h43.2.2.2.2 b0 4 = .int (zi C0) → h43.2.2.2.2 b0 5 = .int (zi R0) → h43.2.2.2.2 b0 6 = .int (zi oc0) → h43.2.2.2.2 b0 7 = .int (zi or0) → h43.2.2.2.2 b0 8 = .int (zi f0) → h43.2.2.2.2 b1 1 = .int (zi hb1) → h43.2.2.2.2 b1 2 = .int (zi vb1) → h43.2.2.2.2 b1 4 = .int (zi C1) → h43.2.2.2.2 b1 5 = .int (zi R1) → h43.2.2.2.2 b1 6 = .int (zi oc1) → h43.2.2.2.2 b1 7 = .int (zi or1) → h43.2.2.2.2 b1 8 = .int (zi f1) → h43.2.2.2.2 b2 1 = .int (zi hb2) → h43.2.2.2.2 b2 2 = .int (zi vb2) → h43.2.2.2.2 b2 4 = .int (zi C2) → h43.2.2.2.2 b2 5 = .int (zi R2) → h43.2.2.2.2 b2 6 = .int (zi oc2) → h43.2.2.2.2 b2 7 = .int (zi or2) → h43.2.2.2.2 b2 8 = .int (zi f2) → h43.2.2.2.2 x 11 = .int (zi sg) → h43.2.2.2.2 x 12 = .int (zi sb) → h43.2.2.2.2 x 10 = .int (zi fq1_0) → h43.2.2.2.2 bi 1 = .int (zi pv) → h43.2.2.2.2 bi 3 = .int (zi lv) → (0 < cn → gPq uc ur hb0 vb0 C0 R0 oc0 or0 f0 bl) → (1 < cn → gPq uc ur hb1 vb1 C1 R1 oc1 or1 f1 bl) → (2 < cn → gPq uc ur hb2 vb2 C2 R2 oc2 or2 f2 bl) → gUb ty fq1_0 bl h43 → gz gPP gGG gcn (d + 5) gt45 7 [some (.ref x), some (.int (zi u)), some (.int (zi i))] [] h43 (fun q _ => gSs rT 1027 ty [66010, 66014, 67001, 67002, 67003, 69999, 70999, 82011, 83011, 84011, 112999] h q.2.2 ∧ ∃ z p1 l1 : Int, gfin gt45 q.1 q.2.1 = some (some (.int (zi z))) ∧ 0 ≤ z ∧ z ≤ 1 ∧ q.2.2.2.2.2.2 bi 1 = .int (zi p1) ∧ 0 ≤ p1 ∧ p1 ≤ 2002 ∧ q.2.2.2.2.2.2 bi 3 = .int (zi l1) ∧ 0 ≤ l1 ∧ l1 ≤ 8 ∧ (p0 ≤ p1)) := by
    intro fu
    induction fu with
    | zero => intro h43 i pv lv hm; exact absurd hm (Nat.not_lt_zero _)
    | succ fu ihlp42 =>
      intro h43 i pv lv lp42m sh43 lp42f0 lp42f1 lp42f2 lp42f3 lp42k0 lp42k1 lp42k2 lp42k3 lp42k4 lp42k5 lp42k6 lp42k7 lp42k8 lp42k9 lp42k10 lp42k11 lp42k12 lp42k13 lp42k14 lp42k15 lp42k16 lp42k17 lp42k18 lp42k19 lp42k20 lp42k21 lp42k22 lp42k23 lp42k24 lp42k25 lp42k26 lp42k27 lp42k28 lp42k29 lp42k30 lp42k31 lp42k32 lp42k33 lp42k34 lp42k35 lp42k36 lp42k37 lp42k38 lp42k39 lp42k40 lp42k41 lp42k42 lp42k43 lp42k44
      refine gz_s 2 (pc' := 9) (L' := [some (.ref x), some (.int (zi u)), some (.int (zi i))]) (S' := [.ref x, .int (zi i)]) rfl ?_
      refine gs_gtk rfl (by decide) rfl sh43.1 tx rfl rfl lp42k38 ?_
      by_cases hc44 : (fq1_0 : Int) ≤ i
      · refine gy_icT (pc' := 53) rfl (by decide) (by decide) (by omega) (by omega) hc44 ?_
        refine gz_s 1 (pc' := 54) (L' := [some (.ref x), some (.int (zi u)), some (.int (zi i))]) (S' := [.int (zi 1)]) rfl ?_
        exact gz_end (I := .ireturn) (len := 1) rfl (Or.inl rfl) ⟨sh43, 1, pv, lv, gfin_z rfl rfl (by omega), (by omega), (by omega), lp42k39, (by omega), (by omega), lp42k40, (by omega), (by omega), (by omega)⟩
      · refine gy_icF rfl (by decide) (by decide) (by omega) (by omega) hc44 ?_
        refine gz_s 2 (pc' := 17) (L' := [some (.ref x), some (.int (zi u)), some (.int (zi i))]) (S' := [.ref x, .ref x]) rfl ?_
        refine gs_gtk rfl (by decide) rfl sh43.1 tx rfl rfl lp42k2 ?_
        refine gs_gtk rfl (by decide) rfl sh43.1 tpic rfl rfl lp42k4 ?_
        refine gz_s 1 (pc' := 24) (L' := [some (.ref x), some (.int (zi u)), some (.int (zi i))]) (S' := [.ref x, .ref bn, .ref x]) rfl ?_
        refine gs_gtr rfl (by decide) rfl sh43.1 tx rfl rfl rfl (fun c45 ec45 tc45 => ?_)
        refine gz_s 1 (pc' := 28) (L' := [some (.ref x), some (.int (zi u)), some (.int (zi i))]) (S' := [.int (zi i), .ref c45, .ref bn, .ref x]) rfl ?_
        have hl46 : 12 ≤ h43.2.2.2.1 c45 ∧ h43.2.2.2.1 c45 ≤ 12 := gJ.rowl (G := gGG) sh43.1 tc45 rfl
        refine gs_ald rfl (by decide) sh43.1 tc45 rfl rfl rfl (by decide) (fun _ => rfl) (by omega) (by omega) (fun z47 ez47 az47 bz47 => ?_)
        rcases (by omega : z47 = 0 ∨ z47 = 1 ∨ z47 = 2) with he50 | he50 | he50
        · refine gs_aak (j := 0) rfl (by decide) sh43.1 tbn rfl rfl rfl (by decide) he50 (by decide) lp42k5 ?_
          refine gz_s 1 (pc' := 31) (L' := [some (.ref x), some (.int (zi u)), some (.int (zi i))]) (S' := [.ref x, .ref b0, .ref x]) rfl ?_
          refine gs_gtr rfl (by decide) rfl sh43.1 tx rfl rfl rfl (fun c51 ec51 tc51 => ?_)
          refine gz_s 1 (pc' := 35) (L' := [some (.ref x), some (.int (zi u)), some (.int (zi i))]) (S' := [.int (zi i), .ref c51, .ref b0, .ref x]) rfl ?_
          have pr52 := lp42k44 i (by omega) (by omega)
          have hl53 : 12 ≤ h43.2.2.2.1 c51 ∧ h43.2.2.2.1 c51 ≤ 12 := gJ.rowl (G := gGG) sh43.1 tc51 rfl
          refine gs_ald rfl (by decide) sh43.1 tc51 rfl rfl rfl (by decide) (fun _ => rfl) (by omega) (by omega) (fun z54 ez54 az54 bz54 => ?_)
          have he55 := pr52 c51 z54 tc51 ez54 (by omega) (by omega)
          refine gy_s 2 (pc' := 39) (L' := [some (.ref x), some (.int (zi u)), some (.int (zi i))]) (S' := [.int ((zi z54) * (zi 64)), .ref b0, .ref x]) (L2 := [some (.ref x), some (.int (zi u)), some (.int (zi i))]) (S2 := [.int (zi (z54 * 64)), .ref b0, .ref x]) rfl (by simp only [zi_add, zi_sub, zi_mul, zi_neg, zi_and1, zi_and7, zi_and15, zi_and31, zi_and255]) (by simp only [zi_add, zi_sub, zi_mul, zi_neg, zi_and1, zi_and7, zi_and15, zi_and31, zi_and255]) ?_
          have hl56 : h43.2.2.2.1 co = h.2.2.2.1 co := congrFun sh43.2.2.2.2.1 co
          refine gz_call rfl (by decide) rfl (by decide) (by decide) (gcal_of rfl rfl rfl (Nat.le_of_ble_eq_true rfl) (gJ.recv (G := gGG) sh43.1 tx rfl rfl)) (cl_isBlockRead82 _ sh43.1 x tx b0 tb0 (z54 * 64) (by omega) bi lp42k0 tbi src lp42k1 tsrc pic lp42k2 tpic co lp42k3 tco sz lp42k8 (by omega) pv lp42k39 (by omega) lv lp42k40 (by omega) tt lp42k9 (by omega) fr lp42k10 (by omega) (by omega) (by omega) uq) (fun q57 _ wq57 => ?_)
          obtain ⟨pq57, oq57, hq57⟩ := q57
          obtain ⟨xq57, zq57, fq57_0, fq57_1, gq57, aq57, bq57, efq57_0, afq57_0, bfq57_0, efq57_1, afq57_1, bfq57_1, uq57_0⟩ := wq57
          refine ⟨_, gq57, ?_⟩
          show gz gPP gGG gcn _ _ 42 [some (.ref x), some (.int (zi u)), some (.int (zi i))] [.int (zi zq57)] hq57 _
          have sq57 : gSs rT 1027 ty [66010, 66014, 67001, 67002, 67003, 69999, 70999, 82011, 83011, 84011, 112999] h hq57 := gSs.tr sh43 xq57 (by decide)
          have s58 := (xq57.2.2.2.2.2 x 0 (by rw [tx]; decide)).trans lp42k0
          have s59 := (xq57.2.2.2.2.2 bi 0 (by rw [tbi]; decide)).trans lp42k1
          have s60 := (xq57.2.2.2.2.2 x 7 (by rw [tx]; decide)).trans lp42k2
          have s61 := (xq57.2.2.2.2.2 pic 2 (by rw [tpic]; decide)).trans lp42k3
          have s62 := (xq57.2.2.2.2.2 pic 0 (by rw [tpic]; decide)).trans lp42k4
          have s63 := (xq57.2.2.2.2.2 bn 0 (by rw [tbn]; decide)).trans lp42k5
          have s64 := (xq57.2.2.2.2.2 bn 1 (by rw [tbn]; decide)).trans lp42k6
          have s65 := (xq57.2.2.2.2.2 bn 2 (by rw [tbn]; decide)).trans lp42k7
          have s66 := (xq57.2.2.2.2.2 src 1 (by rw [tsrc]; decide)).trans lp42k8
          have s67 := (xq57.2.2.2.2.2 x 3 (by rw [tx]; decide)).trans lp42k9
          have s68 := (xq57.2.2.2.2.2 x 2 (by rw [tx]; decide)).trans lp42k10
          have s69 := (xq57.2.2.2.2.2 pic 7 (by rw [tpic]; decide)).trans lp42k11
          have s70 := (xq57.2.2.2.2.2 pic 12 (by rw [tpic]; decide)).trans lp42k12
          have s71 := (xq57.2.2.2.2.2 pic 13 (by rw [tpic]; decide)).trans lp42k13
          have s72 := (xq57.2.2.2.2.2 pic 8 (by rw [tpic]; decide)).trans lp42k14
          have s73 := (xq57.2.2.2.2.2 b0 1 (by rw [tb0]; decide)).trans lp42k15
          have s74 := (xq57.2.2.2.2.2 b0 2 (by rw [tb0]; decide)).trans lp42k16
          have s75 := (xq57.2.2.2.2.2 b0 4 (by rw [tb0]; decide)).trans lp42k17
          have s76 := (xq57.2.2.2.2.2 b0 5 (by rw [tb0]; decide)).trans lp42k18
          have s77 := (xq57.2.2.2.2.2 b0 6 (by rw [tb0]; decide)).trans lp42k19
          have s78 := (xq57.2.2.2.2.2 b0 7 (by rw [tb0]; decide)).trans lp42k20
          have s79 := (xq57.2.2.2.2.2 b0 8 (by rw [tb0]; decide)).trans lp42k21
          have s80 := (xq57.2.2.2.2.2 b1 1 (by rw [tb1]; decide)).trans lp42k22
          have s81 := (xq57.2.2.2.2.2 b1 2 (by rw [tb1]; decide)).trans lp42k23
          have s82 := (xq57.2.2.2.2.2 b1 4 (by rw [tb1]; decide)).trans lp42k24
          have s83 := (xq57.2.2.2.2.2 b1 5 (by rw [tb1]; decide)).trans lp42k25
          have s84 := (xq57.2.2.2.2.2 b1 6 (by rw [tb1]; decide)).trans lp42k26
          have s85 := (xq57.2.2.2.2.2 b1 7 (by rw [tb1]; decide)).trans lp42k27
          have s86 := (xq57.2.2.2.2.2 b1 8 (by rw [tb1]; decide)).trans lp42k28
          have s87 := (xq57.2.2.2.2.2 b2 1 (by rw [tb2]; decide)).trans lp42k29
          have s88 := (xq57.2.2.2.2.2 b2 2 (by rw [tb2]; decide)).trans lp42k30
          have s89 := (xq57.2.2.2.2.2 b2 4 (by rw [tb2]; decide)).trans lp42k31
          have s90 := (xq57.2.2.2.2.2 b2 5 (by rw [tb2]; decide)).trans lp42k32
          have s91 := (xq57.2.2.2.2.2 b2 6 (by rw [tb2]; decide)).trans lp42k33
          have s92 := (xq57.2.2.2.2.2 b2 7 (by rw [tb2]; decide)).trans lp42k34
          have s93 := (xq57.2.2.2.2.2 b2 8 (by rw [tb2]; decide)).trans lp42k35
          have s94 := (xq57.2.2.2.2.2 x 11 (by rw [tx]; decide)).trans lp42k36
          have s95 := (xq57.2.2.2.2.2 x 12 (by rw [tx]; decide)).trans lp42k37
          have s96 := (xq57.2.2.2.2.2 x 10 (by rw [tx]; decide)).trans lp42k38
          have s97 := (xq57.2.2.2.2.2 x 8 (by rw [tx]; decide)).trans ec45
          have s98 := (xq57.2.2.2.2.2 x 9 (by rw [tx]; decide)).trans ec51
          have pr99 := gUb.fr xq57.2 (by decide) lp42k44
          have pr100 := gEl.fr xq57.2 (by decide) (fun _ => rfl) pr52
          by_cases hc101 : ¬ (zq57 : Int) = 0
          · refine gy_ifT (pc' := 47) rfl (by decide) (by decide) (by omega) hc101 ?_
            refine gy_s 2 (pc' := 7) (L' := [some (.ref x), some (.int (zi u)), some (.int ((zi i) + zi 1))]) (S' := []) (L2 := [some (.ref x), some (.int (zi u)), some (.int (zi (i + 1)))]) (S2 := []) rfl (by simp only [zi_add, zi_sub, zi_mul, zi_neg, zi_and1, zi_and7, zi_and15, zi_and31, zi_and255]) (by simp only [zi_add, zi_sub, zi_mul, zi_neg, zi_and1, zi_and7, zi_and15, zi_and31, zi_and255]) ?_
            exact gz_wk (ihlp42 hq57 (i + 1) fq57_0 fq57_1 (by omega) sq57 (by omega) (by omega) (by omega) (by omega) s58 s59 s60 s61 s62 s63 s64 s65 s66 s67 s68 s69 s70 s71 s72 s73 s74 s75 s76 s77 s78 s79 s80 s81 s82 s83 s84 s85 s86 s87 s88 s89 s90 s91 s92 s93 s94 s95 s96 efq57_0 efq57_1 lp42k41 lp42k42 lp42k43 pr99) (gLw.s (gLw.s (gLw.s gLw.z)))
          · refine gy_ifF rfl (by decide) (by decide) (by omega) hc101 ?_
            refine gz_s 1 (pc' := 46) (L' := [some (.ref x), some (.int (zi u)), some (.int (zi i))]) (S' := [.int (zi 0)]) rfl ?_
            exact gz_end (I := .ireturn) (len := 1) rfl (Or.inl rfl) ⟨sq57, 0, fq57_0, fq57_1, gfin_z rfl rfl (by omega), (by omega), (by omega), efq57_0, (by omega), (by omega), efq57_1, (by omega), (by omega), (by omega)⟩
        · refine gs_aak (j := 1) rfl (by decide) sh43.1 tbn rfl rfl rfl (by decide) he50 (by decide) lp42k6 ?_
          refine gz_s 1 (pc' := 31) (L' := [some (.ref x), some (.int (zi u)), some (.int (zi i))]) (S' := [.ref x, .ref b1, .ref x]) rfl ?_
          refine gs_gtr rfl (by decide) rfl sh43.1 tx rfl rfl rfl (fun c102 ec102 tc102 => ?_)
          refine gz_s 1 (pc' := 35) (L' := [some (.ref x), some (.int (zi u)), some (.int (zi i))]) (S' := [.int (zi i), .ref c102, .ref b1, .ref x]) rfl ?_
          have pr103 := lp42k44 i (by omega) (by omega)
          have hl104 : 12 ≤ h43.2.2.2.1 c102 ∧ h43.2.2.2.1 c102 ≤ 12 := gJ.rowl (G := gGG) sh43.1 tc102 rfl
          refine gs_ald rfl (by decide) sh43.1 tc102 rfl rfl rfl (by decide) (fun _ => rfl) (by omega) (by omega) (fun z105 ez105 az105 bz105 => ?_)
          have he106 := pr103 c102 z105 tc102 ez105 (by omega) (by omega)
          refine gy_s 2 (pc' := 39) (L' := [some (.ref x), some (.int (zi u)), some (.int (zi i))]) (S' := [.int ((zi z105) * (zi 64)), .ref b1, .ref x]) (L2 := [some (.ref x), some (.int (zi u)), some (.int (zi i))]) (S2 := [.int (zi (z105 * 64)), .ref b1, .ref x]) rfl (by simp only [zi_add, zi_sub, zi_mul, zi_neg, zi_and1, zi_and7, zi_and15, zi_and31, zi_and255]) (by simp only [zi_add, zi_sub, zi_mul, zi_neg, zi_and1, zi_and7, zi_and15, zi_and31, zi_and255]) ?_
          have hl107 : h43.2.2.2.1 co = h.2.2.2.1 co := congrFun sh43.2.2.2.2.1 co
          refine gz_call rfl (by decide) rfl (by decide) (by decide) (gcal_of rfl rfl rfl (Nat.le_of_ble_eq_true rfl) (gJ.recv (G := gGG) sh43.1 tx rfl rfl)) (cl_isBlockRead83 _ sh43.1 x tx b1 tb1 (z105 * 64) (by omega) bi lp42k0 tbi src lp42k1 tsrc pic lp42k2 tpic co lp42k3 tco sz lp42k8 (by omega) pv lp42k39 (by omega) lv lp42k40 (by omega) tt lp42k9 (by omega) fr lp42k10 (by omega) (by omega) (by omega) uq) (fun q108 _ wq108 => ?_)
          obtain ⟨pq108, oq108, hq108⟩ := q108
          obtain ⟨xq108, zq108, fq108_0, fq108_1, gq108, aq108, bq108, efq108_0, afq108_0, bfq108_0, efq108_1, afq108_1, bfq108_1, uq108_0⟩ := wq108
          refine ⟨_, gq108, ?_⟩
          show gz gPP gGG gcn _ _ 42 [some (.ref x), some (.int (zi u)), some (.int (zi i))] [.int (zi zq108)] hq108 _
          have sq108 : gSs rT 1027 ty [66010, 66014, 67001, 67002, 67003, 69999, 70999, 82011, 83011, 84011, 112999] h hq108 := gSs.tr sh43 xq108 (by decide)
          have s109 := (xq108.2.2.2.2.2 x 0 (by rw [tx]; decide)).trans lp42k0
          have s110 := (xq108.2.2.2.2.2 bi 0 (by rw [tbi]; decide)).trans lp42k1
          have s111 := (xq108.2.2.2.2.2 x 7 (by rw [tx]; decide)).trans lp42k2
          have s112 := (xq108.2.2.2.2.2 pic 2 (by rw [tpic]; decide)).trans lp42k3
          have s113 := (xq108.2.2.2.2.2 pic 0 (by rw [tpic]; decide)).trans lp42k4
          have s114 := (xq108.2.2.2.2.2 bn 0 (by rw [tbn]; decide)).trans lp42k5
          have s115 := (xq108.2.2.2.2.2 bn 1 (by rw [tbn]; decide)).trans lp42k6
          have s116 := (xq108.2.2.2.2.2 bn 2 (by rw [tbn]; decide)).trans lp42k7
          have s117 := (xq108.2.2.2.2.2 src 1 (by rw [tsrc]; decide)).trans lp42k8
          have s118 := (xq108.2.2.2.2.2 x 3 (by rw [tx]; decide)).trans lp42k9
          have s119 := (xq108.2.2.2.2.2 x 2 (by rw [tx]; decide)).trans lp42k10
          have s120 := (xq108.2.2.2.2.2 pic 7 (by rw [tpic]; decide)).trans lp42k11
          have s121 := (xq108.2.2.2.2.2 pic 12 (by rw [tpic]; decide)).trans lp42k12
          have s122 := (xq108.2.2.2.2.2 pic 13 (by rw [tpic]; decide)).trans lp42k13
          have s123 := (xq108.2.2.2.2.2 pic 8 (by rw [tpic]; decide)).trans lp42k14
          have s124 := (xq108.2.2.2.2.2 b0 1 (by rw [tb0]; decide)).trans lp42k15
          have s125 := (xq108.2.2.2.2.2 b0 2 (by rw [tb0]; decide)).trans lp42k16
          have s126 := (xq108.2.2.2.2.2 b0 4 (by rw [tb0]; decide)).trans lp42k17
          have s127 := (xq108.2.2.2.2.2 b0 5 (by rw [tb0]; decide)).trans lp42k18
          have s128 := (xq108.2.2.2.2.2 b0 6 (by rw [tb0]; decide)).trans lp42k19
          have s129 := (xq108.2.2.2.2.2 b0 7 (by rw [tb0]; decide)).trans lp42k20
          have s130 := (xq108.2.2.2.2.2 b0 8 (by rw [tb0]; decide)).trans lp42k21
          have s131 := (xq108.2.2.2.2.2 b1 1 (by rw [tb1]; decide)).trans lp42k22
          have s132 := (xq108.2.2.2.2.2 b1 2 (by rw [tb1]; decide)).trans lp42k23
          have s133 := (xq108.2.2.2.2.2 b1 4 (by rw [tb1]; decide)).trans lp42k24
          have s134 := (xq108.2.2.2.2.2 b1 5 (by rw [tb1]; decide)).trans lp42k25
          have s135 := (xq108.2.2.2.2.2 b1 6 (by rw [tb1]; decide)).trans lp42k26
          have s136 := (xq108.2.2.2.2.2 b1 7 (by rw [tb1]; decide)).trans lp42k27
          have s137 := (xq108.2.2.2.2.2 b1 8 (by rw [tb1]; decide)).trans lp42k28
          have s138 := (xq108.2.2.2.2.2 b2 1 (by rw [tb2]; decide)).trans lp42k29
          have s139 := (xq108.2.2.2.2.2 b2 2 (by rw [tb2]; decide)).trans lp42k30
          have s140 := (xq108.2.2.2.2.2 b2 4 (by rw [tb2]; decide)).trans lp42k31
          have s141 := (xq108.2.2.2.2.2 b2 5 (by rw [tb2]; decide)).trans lp42k32
          have s142 := (xq108.2.2.2.2.2 b2 6 (by rw [tb2]; decide)).trans lp42k33
          have s143 := (xq108.2.2.2.2.2 b2 7 (by rw [tb2]; decide)).trans lp42k34
          have s144 := (xq108.2.2.2.2.2 b2 8 (by rw [tb2]; decide)).trans lp42k35
          have s145 := (xq108.2.2.2.2.2 x 11 (by rw [tx]; decide)).trans lp42k36
          have s146 := (xq108.2.2.2.2.2 x 12 (by rw [tx]; decide)).trans lp42k37
          have s147 := (xq108.2.2.2.2.2 x 10 (by rw [tx]; decide)).trans lp42k38
          have s148 := (xq108.2.2.2.2.2 x 8 (by rw [tx]; decide)).trans ec45
          have s149 := (xq108.2.2.2.2.2 x 9 (by rw [tx]; decide)).trans ec102
          have pr150 := gUb.fr xq108.2 (by decide) lp42k44
          have pr151 := gEl.fr xq108.2 (by decide) (fun _ => rfl) pr103
          by_cases hc152 : ¬ (zq108 : Int) = 0
          · refine gy_ifT (pc' := 47) rfl (by decide) (by decide) (by omega) hc152 ?_
            refine gy_s 2 (pc' := 7) (L' := [some (.ref x), some (.int (zi u)), some (.int ((zi i) + zi 1))]) (S' := []) (L2 := [some (.ref x), some (.int (zi u)), some (.int (zi (i + 1)))]) (S2 := []) rfl (by simp only [zi_add, zi_sub, zi_mul, zi_neg, zi_and1, zi_and7, zi_and15, zi_and31, zi_and255]) (by simp only [zi_add, zi_sub, zi_mul, zi_neg, zi_and1, zi_and7, zi_and15, zi_and31, zi_and255]) ?_
            exact gz_wk (ihlp42 hq108 (i + 1) fq108_0 fq108_1 (by omega) sq108 (by omega) (by omega) (by omega) (by omega) s109 s110 s111 s112 s113 s114 s115 s116 s117 s118 s119 s120 s121 s122 s123 s124 s125 s126 s127 s128 s129 s130 s131 s132 s133 s134 s135 s136 s137 s138 s139 s140 s141 s142 s143 s144 s145 s146 s147 efq108_0 efq108_1 lp42k41 lp42k42 lp42k43 pr150) (gLw.s (gLw.s (gLw.s gLw.z)))
          · refine gy_ifF rfl (by decide) (by decide) (by omega) hc152 ?_
            refine gz_s 1 (pc' := 46) (L' := [some (.ref x), some (.int (zi u)), some (.int (zi i))]) (S' := [.int (zi 0)]) rfl ?_
            exact gz_end (I := .ireturn) (len := 1) rfl (Or.inl rfl) ⟨sq108, 0, fq108_0, fq108_1, gfin_z rfl rfl (by omega), (by omega), (by omega), efq108_0, (by omega), (by omega), efq108_1, (by omega), (by omega), (by omega)⟩
        · refine gs_aak (j := 2) rfl (by decide) sh43.1 tbn rfl rfl rfl (by decide) he50 (by decide) lp42k7 ?_
          refine gz_s 1 (pc' := 31) (L' := [some (.ref x), some (.int (zi u)), some (.int (zi i))]) (S' := [.ref x, .ref b2, .ref x]) rfl ?_
          refine gs_gtr rfl (by decide) rfl sh43.1 tx rfl rfl rfl (fun c153 ec153 tc153 => ?_)
          refine gz_s 1 (pc' := 35) (L' := [some (.ref x), some (.int (zi u)), some (.int (zi i))]) (S' := [.int (zi i), .ref c153, .ref b2, .ref x]) rfl ?_
          have pr154 := lp42k44 i (by omega) (by omega)
          have hl155 : 12 ≤ h43.2.2.2.1 c153 ∧ h43.2.2.2.1 c153 ≤ 12 := gJ.rowl (G := gGG) sh43.1 tc153 rfl
          refine gs_ald rfl (by decide) sh43.1 tc153 rfl rfl rfl (by decide) (fun _ => rfl) (by omega) (by omega) (fun z156 ez156 az156 bz156 => ?_)
          have he157 := pr154 c153 z156 tc153 ez156 (by omega) (by omega)
          refine gy_s 2 (pc' := 39) (L' := [some (.ref x), some (.int (zi u)), some (.int (zi i))]) (S' := [.int ((zi z156) * (zi 64)), .ref b2, .ref x]) (L2 := [some (.ref x), some (.int (zi u)), some (.int (zi i))]) (S2 := [.int (zi (z156 * 64)), .ref b2, .ref x]) rfl (by simp only [zi_add, zi_sub, zi_mul, zi_neg, zi_and1, zi_and7, zi_and15, zi_and31, zi_and255]) (by simp only [zi_add, zi_sub, zi_mul, zi_neg, zi_and1, zi_and7, zi_and15, zi_and31, zi_and255]) ?_
          have hl158 : h43.2.2.2.1 co = h.2.2.2.1 co := congrFun sh43.2.2.2.2.1 co
          refine gz_call rfl (by decide) rfl (by decide) (by decide) (gcal_of rfl rfl rfl (Nat.le_of_ble_eq_true rfl) (gJ.recv (G := gGG) sh43.1 tx rfl rfl)) (cl_isBlockRead84 _ sh43.1 x tx b2 tb2 (z156 * 64) (by omega) bi lp42k0 tbi src lp42k1 tsrc pic lp42k2 tpic co lp42k3 tco sz lp42k8 (by omega) pv lp42k39 (by omega) lv lp42k40 (by omega) tt lp42k9 (by omega) fr lp42k10 (by omega) (by omega) (by omega) uq) (fun q159 _ wq159 => ?_)
          obtain ⟨pq159, oq159, hq159⟩ := q159
          obtain ⟨xq159, zq159, fq159_0, fq159_1, gq159, aq159, bq159, efq159_0, afq159_0, bfq159_0, efq159_1, afq159_1, bfq159_1, uq159_0⟩ := wq159
          refine ⟨_, gq159, ?_⟩
          show gz gPP gGG gcn _ _ 42 [some (.ref x), some (.int (zi u)), some (.int (zi i))] [.int (zi zq159)] hq159 _
          have sq159 : gSs rT 1027 ty [66010, 66014, 67001, 67002, 67003, 69999, 70999, 82011, 83011, 84011, 112999] h hq159 := gSs.tr sh43 xq159 (by decide)
          have s160 := (xq159.2.2.2.2.2 x 0 (by rw [tx]; decide)).trans lp42k0
          have s161 := (xq159.2.2.2.2.2 bi 0 (by rw [tbi]; decide)).trans lp42k1
          have s162 := (xq159.2.2.2.2.2 x 7 (by rw [tx]; decide)).trans lp42k2
          have s163 := (xq159.2.2.2.2.2 pic 2 (by rw [tpic]; decide)).trans lp42k3
          have s164 := (xq159.2.2.2.2.2 pic 0 (by rw [tpic]; decide)).trans lp42k4
          have s165 := (xq159.2.2.2.2.2 bn 0 (by rw [tbn]; decide)).trans lp42k5
          have s166 := (xq159.2.2.2.2.2 bn 1 (by rw [tbn]; decide)).trans lp42k6
          have s167 := (xq159.2.2.2.2.2 bn 2 (by rw [tbn]; decide)).trans lp42k7
          have s168 := (xq159.2.2.2.2.2 src 1 (by rw [tsrc]; decide)).trans lp42k8
          have s169 := (xq159.2.2.2.2.2 x 3 (by rw [tx]; decide)).trans lp42k9
          have s170 := (xq159.2.2.2.2.2 x 2 (by rw [tx]; decide)).trans lp42k10
          have s171 := (xq159.2.2.2.2.2 pic 7 (by rw [tpic]; decide)).trans lp42k11
          have s172 := (xq159.2.2.2.2.2 pic 12 (by rw [tpic]; decide)).trans lp42k12
          have s173 := (xq159.2.2.2.2.2 pic 13 (by rw [tpic]; decide)).trans lp42k13
          have s174 := (xq159.2.2.2.2.2 pic 8 (by rw [tpic]; decide)).trans lp42k14
          have s175 := (xq159.2.2.2.2.2 b0 1 (by rw [tb0]; decide)).trans lp42k15
          have s176 := (xq159.2.2.2.2.2 b0 2 (by rw [tb0]; decide)).trans lp42k16
          have s177 := (xq159.2.2.2.2.2 b0 4 (by rw [tb0]; decide)).trans lp42k17
          have s178 := (xq159.2.2.2.2.2 b0 5 (by rw [tb0]; decide)).trans lp42k18
          have s179 := (xq159.2.2.2.2.2 b0 6 (by rw [tb0]; decide)).trans lp42k19
          have s180 := (xq159.2.2.2.2.2 b0 7 (by rw [tb0]; decide)).trans lp42k20
          have s181 := (xq159.2.2.2.2.2 b0 8 (by rw [tb0]; decide)).trans lp42k21
          have s182 := (xq159.2.2.2.2.2 b1 1 (by rw [tb1]; decide)).trans lp42k22
          have s183 := (xq159.2.2.2.2.2 b1 2 (by rw [tb1]; decide)).trans lp42k23
          have s184 := (xq159.2.2.2.2.2 b1 4 (by rw [tb1]; decide)).trans lp42k24
          have s185 := (xq159.2.2.2.2.2 b1 5 (by rw [tb1]; decide)).trans lp42k25
          have s186 := (xq159.2.2.2.2.2 b1 6 (by rw [tb1]; decide)).trans lp42k26
          have s187 := (xq159.2.2.2.2.2 b1 7 (by rw [tb1]; decide)).trans lp42k27
          have s188 := (xq159.2.2.2.2.2 b1 8 (by rw [tb1]; decide)).trans lp42k28
          have s189 := (xq159.2.2.2.2.2 b2 1 (by rw [tb2]; decide)).trans lp42k29
          have s190 := (xq159.2.2.2.2.2 b2 2 (by rw [tb2]; decide)).trans lp42k30
          have s191 := (xq159.2.2.2.2.2 b2 4 (by rw [tb2]; decide)).trans lp42k31
          have s192 := (xq159.2.2.2.2.2 b2 5 (by rw [tb2]; decide)).trans lp42k32
          have s193 := (xq159.2.2.2.2.2 b2 6 (by rw [tb2]; decide)).trans lp42k33
          have s194 := (xq159.2.2.2.2.2 b2 7 (by rw [tb2]; decide)).trans lp42k34
          have s195 := (xq159.2.2.2.2.2 b2 8 (by rw [tb2]; decide)).trans lp42k35
          have s196 := (xq159.2.2.2.2.2 x 11 (by rw [tx]; decide)).trans lp42k36
          have s197 := (xq159.2.2.2.2.2 x 12 (by rw [tx]; decide)).trans lp42k37
          have s198 := (xq159.2.2.2.2.2 x 10 (by rw [tx]; decide)).trans lp42k38
          have s199 := (xq159.2.2.2.2.2 x 8 (by rw [tx]; decide)).trans ec45
          have s200 := (xq159.2.2.2.2.2 x 9 (by rw [tx]; decide)).trans ec153
          have pr201 := gUb.fr xq159.2 (by decide) lp42k44
          have pr202 := gEl.fr xq159.2 (by decide) (fun _ => rfl) pr154
          by_cases hc203 : ¬ (zq159 : Int) = 0
          · refine gy_ifT (pc' := 47) rfl (by decide) (by decide) (by omega) hc203 ?_
            refine gy_s 2 (pc' := 7) (L' := [some (.ref x), some (.int (zi u)), some (.int ((zi i) + zi 1))]) (S' := []) (L2 := [some (.ref x), some (.int (zi u)), some (.int (zi (i + 1)))]) (S2 := []) rfl (by simp only [zi_add, zi_sub, zi_mul, zi_neg, zi_and1, zi_and7, zi_and15, zi_and31, zi_and255]) (by simp only [zi_add, zi_sub, zi_mul, zi_neg, zi_and1, zi_and7, zi_and15, zi_and31, zi_and255]) ?_
            exact gz_wk (ihlp42 hq159 (i + 1) fq159_0 fq159_1 (by omega) sq159 (by omega) (by omega) (by omega) (by omega) s160 s161 s162 s163 s164 s165 s166 s167 s168 s169 s170 s171 s172 s173 s174 s175 s176 s177 s178 s179 s180 s181 s182 s183 s184 s185 s186 s187 s188 s189 s190 s191 s192 s193 s194 s195 s196 s197 s198 efq159_0 efq159_1 lp42k41 lp42k42 lp42k43 pr201) (gLw.s (gLw.s (gLw.s gLw.z)))
          · refine gy_ifF rfl (by decide) (by decide) (by omega) hc203 ?_
            refine gz_s 1 (pc' := 46) (L' := [some (.ref x), some (.int (zi u)), some (.int (zi i))]) (S' := [.int (zi 0)]) rfl ?_
            exact gz_end (I := .ireturn) (len := 1) rfl (Or.inl rfl) ⟨sq159, 0, fq159_0, fq159_1, gfin_z rfl rfl (by omega), (by omega), (by omega), efq159_0, (by omega), (by omega), efq159_1, (by omega), (by omega), (by omega)⟩
  exact gz_wk (lp42 _ hq1 0 p0 l0 (Nat.lt_succ_self _) sq1 (by omega) (by omega) (by omega) (by omega) s2 s3 s4 s5 s6 s7 s8 s9 s10 s13 s14 s15 s16 s17 s18 s19 s20 s21 s22 s23 s24 s25 s26 s27 s28 s29 s30 s31 s32 s33 s34 s35 s36 s37 s38 s39 s40 s41 efq1_0 s11 s12 hypq0 hypq1 hypq2 yq1_0) (gLw.s (gLw.s (gLw.s gLw.z)))
set_option maxRecDepth 20000 in
set_option maxHeartbeats 4000000 in
theorem cl_ScanReader_unitBehindDamage (d : Nat) {ty : Nat → Nat} {h : gH} (hJ : gJ rT 1027 ty h) (x : Nat) (tx : ty x = 66) (u : Int) (ru : 0 ≤ u ∧ u ≤ 63) (us : Int) (rus : 1 ≤ us ∧ us ≤ 64) (bi : Nat) (ebi : h.2.2.2.2 x 0 = .ref bi) (tbi : ty bi = 67) (src : Nat) (esrc : h.2.2.2.2 bi 0 = .ref src) (tsrc : ty src = 51) (pic : Nat) (epic : h.2.2.2.2 x 7 = .ref pic) (tpic : ty pic = 54) (sz : Int) (esz : h.2.2.2.2 src 1 = .int (zi sz)) (rsz : 0 ≤ sz ∧ sz ≤ 2000) (p0 : Int) (ep0 : h.2.2.2.2 bi 1 = .int (zi p0)) (rp0 : 0 ≤ p0 ∧ p0 ≤ 2002) (pp0 : u < us) (uq : gUq ty) : gz gPP gGG gcn (d + 2) gt58 0 (gent [.ref x, .int (zi u), .int (zi us)] 6) [] h (fun q _ => gSs rT 1027 ty [66013, 66014, 67001, 67003, 82011, 83011, 84011] h q.2.2 ∧ ∃ z p1 : Int, gfin gt58 q.1 q.2.1 = some (some (.int (zi z))) ∧ 1 ≤ z ∧ z ≤ 64 ∧ q.2.2.2.2.2.2 bi 1 = .int (zi p1) ∧ 0 ≤ p1 ∧ p1 ≤ 2002 ∧ (u < z) ∧ (z ≤ us) ∧ (p0 ≤ p1)) := by
  have hS : gSs rT 1027 ty [66013, 66014, 67001, 67003, 82011, 83011, 84011] h h := gSs.rf hJ
  refine gz_s 1 (pc' := 1) (L' := [some (.ref x), some (.int (zi u)), some (.int (zi us)), none, none, none]) (S' := [.ref x]) rfl ?_
  refine gs_gtk rfl (by decide) rfl hS.1 tx rfl rfl ebi ?_
  refine gz_call rfl (by decide) rfl (by decide) (by decide) (gcal_of rfl rfl rfl (Nat.le_of_ble_eq_true rfl) (gJ.recv (G := gGG) hS.1 tbi rfl rfl)) (cl_Bits_nextMarker _ hS.1 bi tbi src esrc tsrc sz esz (by omega) p0 ep0 (by omega) uq) (fun q1 _ wq1 => ?_)
  obtain ⟨pq1, oq1, hq1⟩ := q1
  obtain ⟨xq1, zq1, gq1, aq1, bq1, uq1_0⟩ := wq1
  refine ⟨_, gq1, ?_⟩
  show gz gPP gGG gcn _ _ 7 [some (.ref x), some (.int (zi u)), some (.int (zi us)), none, none, none] [.int (zi zq1)] hq1 _
  have sq1 : gSs rT 1027 ty [66013, 66014, 67001, 67003, 82011, 83011, 84011] h hq1 := gSs.tr hS xq1 (by decide)
  have s2 := (xq1.2.2.2.2.2 x 0 (by rw [tx]; decide)).trans ebi
  have s3 := (xq1.2.2.2.2.2 bi 0 (by rw [tbi]; decide)).trans esrc
  have s4 := (xq1.2.2.2.2.2 x 7 (by rw [tx]; decide)).trans epic
  have s5 := (xq1.2.2.2.2.2 src 1 (by rw [tsrc]; decide)).trans esz
  have s6 := (xq1.2.2.2.2.2 bi 1 (by rw [tbi]; decide)).trans ep0
  refine gz_s 2 (pc' := 9) (L' := [some (.ref x), some (.int (zi u)), some (.int (zi us)), some (.int (zi zq1)), none, none]) (S' := [.ref x]) rfl ?_
  refine gs_gtk rfl (by decide) rfl sq1.1 tx rfl rfl s2 ?_
  refine gs_gtk rfl (by decide) rfl sq1.1 tbi rfl rfl s3 ?_
  refine gy_s 3 (pc' := 18) (L' := [some (.ref x), some (.int (zi u)), some (.int (zi us)), some (.int (zi zq1)), none, none]) (S' := [.int ((zi zq1) + (zi 1)), .ref src]) (L2 := [some (.ref x), some (.int (zi u)), some (.int (zi us)), some (.int (zi zq1)), none, none]) (S2 := [.int (zi (zq1 + 1)), .ref src]) rfl (by simp only [zi_add, zi_sub, zi_mul, zi_neg, zi_and1, zi_and7, zi_and15, zi_and31, zi_and255]) (by simp only [zi_add, zi_sub, zi_mul, zi_neg, zi_and1, zi_and7, zi_and15, zi_and31, zi_and255]) ?_
  refine gz_call rfl (by decide) rfl (by decide) (by decide) (gcal_of rfl rfl rfl (Nat.le_of_ble_eq_true rfl) (gJ.recv (G := gGG) sq1.1 tsrc rfl rfl)) (cl_Collected_byteAt _ sq1.1 src tsrc (zq1 + 1) (by omega) sz s5 (by omega) uq) (fun q7 _ wq7 => ?_)
  obtain ⟨pq7, oq7, hq7⟩ := q7
  obtain ⟨xq7, zq7, gq7, aq7, bq7, uq7_0⟩ := wq7
  refine ⟨_, gq7, ?_⟩
  show gz gPP gGG gcn _ _ 21 [some (.ref x), some (.int (zi u)), some (.int (zi us)), some (.int (zi zq1)), none, none] [.int (zi zq7)] hq7 _
  have sq7 : gSs rT 1027 ty [66013, 66014, 67001, 67003, 82011, 83011, 84011] h hq7 := gSs.tr sq1 xq7 (by decide)
  have s8 := (xq7.2.2.2.2.2 x 0 (by rw [tx]; decide)).trans s2
  have s9 := (xq7.2.2.2.2.2 bi 0 (by rw [tbi]; decide)).trans s3
  have s10 := (xq7.2.2.2.2.2 x 7 (by rw [tx]; decide)).trans s4
  have s11 := (xq7.2.2.2.2.2 src 1 (by rw [tsrc]; decide)).trans s5
  have s12 := (xq7.2.2.2.2.2 bi 1 (by rw [tbi]; decide)).trans s6
  refine gy_s 4 (pc' := 28) (L' := [some (.ref x), some (.int (zi u)), some (.int (zi us)), some (.int (zi zq1)), some (.int ((zi zq7) - (zi 208))), none]) (S' := [.int (zi zq1)]) (L2 := [some (.ref x), some (.int (zi u)), some (.int (zi us)), some (.int (zi zq1)), some (.int (zi (zq7 - 208))), none]) (S2 := [.int (zi zq1)]) rfl (by simp only [zi_add, zi_sub, zi_mul, zi_neg, zi_and1, zi_and7, zi_and15, zi_and31, zi_and255]) (by simp only [zi_add, zi_sub, zi_mul, zi_neg, zi_and1, zi_and7, zi_and15, zi_and31, zi_and255]) ?_
  by_cases hc13 : (zq1 : Int) < 0
  · refine gy_ifT (pc' := 51) rfl (by decide) (by decide) (by omega) hc13 ?_
    refine gz_s 1 (pc' := 52) (L' := [some (.ref x), some (.int (zi u)), some (.int (zi us)), some (.int (zi zq1)), some (.int (zi (zq7 - 208))), none]) (S' := [.int (zi us)]) rfl ?_
    exact gz_end (I := .ireturn) (len := 1) rfl (Or.inl rfl) ⟨sq7, us, p0, rfl, (by omega), (by omega), s12, (by omega), (by omega), (by omega), (by omega), (by omega)⟩
  · refine gy_ifF rfl (by decide) (by decide) (by omega) hc13 ?_
    refine gz_s 1 (pc' := 33) (L' := [some (.ref x), some (.int (zi u)), some (.int (zi us)), some (.int (zi zq1)), some (.int (zi (zq7 - 208))), none]) (S' := [.int (zi (zq7 - 208))]) rfl ?_
    by_cases hc14 : (zq7 - 208 : Int) < 0
    · refine gy_ifT (pc' := 51) rfl (by decide) (by decide) (by omega) hc14 ?_
      refine gz_s 1 (pc' := 52) (L' := [some (.ref x), some (.int (zi u)), some (.int (zi us)), some (.int (zi zq1)), some (.int (zi (zq7 - 208))), none]) (S' := [.int (zi us)]) rfl ?_
      exact gz_end (I := .ireturn) (len := 1) rfl (Or.inl rfl) ⟨sq7, us, p0, rfl, (by omega), (by omega), s12, (by omega), (by omega), (by omega), (by omega), (by omega)⟩
    · refine gy_ifF rfl (by decide) (by decide) (by omega) hc14 ?_
      refine gz_s 2 (pc' := 40) (L' := [some (.ref x), some (.int (zi u)), some (.int (zi us)), some (.int (zi zq1)), some (.int (zi (zq7 - 208))), none]) (S' := [.int (zi 7), .int (zi (zq7 - 208))]) rfl ?_
      by_cases hc15 : (7 : Int) < zq7 - 208
      · refine gy_icT (pc' := 51) rfl (by decide) (by decide) (by omega) (by omega) hc15 ?_
        refine gz_s 1 (pc' := 52) (L' := [some (.ref x), some (.int (zi u)), some (.int (zi us)), some (.int (zi zq1)), some (.int (zi (zq7 - 208))), none]) (S' := [.int (zi us)]) rfl ?_
        exact gz_end (I := .ireturn) (len := 1) rfl (Or.inl rfl) ⟨sq7, us, p0, rfl, (by omega), (by omega), s12, (by omega), (by omega), (by omega), (by omega), (by omega)⟩
      · refine gy_icF rfl (by decide) (by decide) (by omega) (by omega) hc15 ?_
        refine gz_s 1 (pc' := 44) (L' := [some (.ref x), some (.int (zi u)), some (.int (zi us)), some (.int (zi zq1)), some (.int (zi (zq7 - 208))), none]) (S' := [.ref x]) rfl ?_
        refine gs_get rfl (by decide) rfl sq7.1 tx rfl rfl rfl (fun z16 ez16 az16 bz16 => ?_)
        refine gz_s 1 (pc' := 48) (L' := [some (.ref x), some (.int (zi u)), some (.int (zi us)), some (.int (zi zq1)), some (.int (zi (zq7 - 208))), none]) (S' := [.int (zi 1), .int (zi z16)]) rfl ?_
        by_cases hc17 : (1 : Int) ≤ z16
        · refine gy_icT (pc' := 53) rfl (by decide) (by decide) (by omega) (by omega) hc17 ?_
          refine gz_s 2 (pc' := 55) (L' := [some (.ref x), some (.int (zi u)), some (.int (zi us)), some (.int (zi zq1)), some (.int (zi (zq7 - 208))), none]) (S' := [.ref x, .int (zi u)]) rfl ?_
          refine gs_gtk rfl (by decide) rfl sq7.1 tx rfl rfl ez16 ?_
          refine gy_div rfl (by decide) (by omega) (by omega) ?_
          have hd18 := zd_f (x := u) (y := z16) (by omega) (by omega)
          refine gy_s 3 (pc' := 63) (L' := [some (.ref x), some (.int (zi u)), some (.int (zi us)), some (.int (zi zq1)), some (.int (zi (zq7 - 208))), some (.int ((zi (u / z16)) + (zi 1)))]) (S' := []) (L2 := [some (.ref x), some (.int (zi u)), some (.int (zi us)), some (.int (zi zq1)), some (.int (zi (zq7 - 208))), some (.int (zi ((u / z16) + 1)))]) (S2 := []) rfl (by simp only [zi_add, zi_sub, zi_mul, zi_neg, zi_and1, zi_and7, zi_and15, zi_and31, zi_and255]) (by simp only [zi_add, zi_sub, zi_mul, zi_neg, zi_and1, zi_and7, zi_and15, zi_and31, zi_and255]) ?_
          have lp19 : ∀ (fu : Nat) (h20 : gH) (i : Int), (201 - i).toNat < fu → gSs rT 1027 ty [66013, 66014, 67001, 67003, 82011, 83011, 84011] h h20 → (1 ≤ i ∧ i ≤ 200) → (u < i * z16) → (i ≤ 65) → h20.2.2.2.2 x 0 = .ref bi → h20.2.2.2.2 bi 0 = .ref src → h20.2.2.2.2 x 7 = .ref pic → h20.2.2.2.2 src 1 = .int (zi sz) → h20.2.2.2.2 bi 1 = .int (zi p0) → h20.2.2.2.2 x 1 = .int (zi z16) → gz gPP gGG gcn (d + 2) gt58 63 [some (.ref x), some (.int (zi u)), some (.int (zi us)), some (.int (zi zq1)), some (.int (zi (zq7 - 208))), some (.int (zi i))] [] h20 (fun q _ => gSs rT 1027 ty [66013, 66014, 67001, 67003, 82011, 83011, 84011] h q.2.2 ∧ ∃ z p1 : Int, gfin gt58 q.1 q.2.1 = some (some (.int (zi z))) ∧ 1 ≤ z ∧ z ≤ 64 ∧ q.2.2.2.2.2.2 bi 1 = .int (zi p1) ∧ 0 ≤ p1 ∧ p1 ≤ 2002 ∧ (u < z) ∧ (z ≤ us) ∧ (p0 ≤ p1)) := by
            intro fu
            induction fu with
            | zero => intro h20 i hm; exact absurd hm (Nat.not_lt_zero _)
            | succ fu ihlp19 =>
              intro h20 i lp19m sh20 lp19f0 lp19f1 lp19f2 lp19k0 lp19k1 lp19k2 lp19k3 lp19k4 lp19k5
              have hx1 : (i + 1) * z16 = i * z16 + z16 := by rw [Int.add_mul, Int.one_mul]
              have hx2 : i ≤ i * z16 := by
                have := Int.mul_le_mul_of_nonneg_left (a := 1) (b := z16) (c := i) (by omega) (by omega)
                omega
              refine gz_s 2 (pc' := 66) (L' := [some (.ref x), some (.int (zi u)), some (.int (zi us)), some (.int (zi zq1)), some (.int (zi (zq7 - 208))), some (.int (zi i))]) (S' := [.ref x, .int (zi i)]) rfl ?_
              refine gs_gtk rfl (by decide) rfl sh20.1 tx rfl rfl lp19k5 ?_
              have hx21 := zx_f (a := i) (b := z16) (A := 200) (B := 65535) (by omega) (by omega) (by omega) (by omega)
              refine gy_s 2 (pc' := 71) (L' := [some (.ref x), some (.int (zi u)), some (.int (zi us)), some (.int (zi zq1)), some (.int (zi (zq7 - 208))), some (.int (zi i))]) (S' := [.int (zi us), .int ((zi i) * (zi z16))]) (L2 := [some (.ref x), some (.int (zi u)), some (.int (zi us)), some (.int (zi zq1)), some (.int (zi (zq7 - 208))), some (.int (zi i))]) (S2 := [.int (zi us), .int (zi (i * z16))]) rfl (by simp only [zi_add, zi_sub, zi_mul, zi_neg, zi_and1, zi_and7, zi_and15, zi_and31, zi_and255]) (by simp only [zi_add, zi_sub, zi_mul, zi_neg, zi_and1, zi_and7, zi_and15, zi_and31, zi_and255]) ?_
              by_cases hc22 : (us : Int) ≤ i * z16
              · refine gy_icT (pc' := 122) rfl (by decide) (by decide) (by omega) (by omega) hc22 ?_
                refine gz_s 1 (pc' := 123) (L' := [some (.ref x), some (.int (zi u)), some (.int (zi us)), some (.int (zi zq1)), some (.int (zi (zq7 - 208))), some (.int (zi i))]) (S' := [.int (zi us)]) rfl ?_
                exact gz_end (I := .ireturn) (len := 1) rfl (Or.inl rfl) ⟨sh20, us, p0, rfl, (by omega), (by omega), lp19k4, (by omega), (by omega), (by omega), (by omega), (by omega)⟩
              · refine gy_icF rfl (by decide) (by decide) (by omega) (by omega) hc22 ?_
                refine gy_s 4 (pc' := 80) (L' := [some (.ref x), some (.int (zi u)), some (.int (zi us)), some (.int (zi zq1)), some (.int (zi (zq7 - 208))), some (.int (zi i))]) (S' := [.int (zi 8), .int ((zi i) - (zi 1))]) (L2 := [some (.ref x), some (.int (zi u)), some (.int (zi us)), some (.int (zi zq1)), some (.int (zi (zq7 - 208))), some (.int (zi i))]) (S2 := [.int (zi 8), .int (zi (i - 1))]) rfl (by simp only [zi_add, zi_sub, zi_mul, zi_neg, zi_and1, zi_and7, zi_and15, zi_and31, zi_and255]) (by simp only [zi_add, zi_sub, zi_mul, zi_neg, zi_and1, zi_and7, zi_and15, zi_and31, zi_and255]) ?_
                refine gy_rem rfl (by decide) (by omega) (by omega) ?_
                refine gz_s 1 (pc' := 83) (L' := [some (.ref x), some (.int (zi u)), some (.int (zi us)), some (.int (zi zq1)), some (.int (zi (zq7 - 208))), some (.int (zi i))]) (S' := [.int (zi (zq7 - 208)), .int (zi ((i - 1) % 8))]) rfl ?_
                by_cases hc23 : ¬ ((i - 1) % 8 : Int) = zq7 - 208
                · refine gy_icT (pc' := 116) rfl (by decide) (by decide) (by omega) (by omega) hc23 ?_
                  refine gy_s 2 (pc' := 63) (L' := [some (.ref x), some (.int (zi u)), some (.int (zi us)), some (.int (zi zq1)), some (.int (zi (zq7 - 208))), some (.int ((zi i) + zi 1))]) (S' := []) (L2 := [some (.ref x), some (.int (zi u)), some (.int (zi us)), some (.int (zi zq1)), some (.int (zi (zq7 - 208))), some (.int (zi (i + 1)))]) (S2 := []) rfl (by simp only [zi_add, zi_sub, zi_mul, zi_neg, zi_and1, zi_and7, zi_and15, zi_and31, zi_and255]) (by simp only [zi_add, zi_sub, zi_mul, zi_neg, zi_and1, zi_and7, zi_and15, zi_and31, zi_and255]) ?_
                  exact gz_wk (ihlp19 h20 (i + 1) (by omega) sh20 (by omega) (by omega) (by omega) lp19k0 lp19k1 lp19k2 lp19k3 lp19k4 lp19k5) (gLw.s (gLw.s (gLw.s (gLw.s (gLw.s (gLw.s gLw.z))))))
                · refine gy_icF rfl (by decide) (by decide) (by omega) (by omega) hc23 ?_
                  refine gz_s 1 (pc' := 87) (L' := [some (.ref x), some (.int (zi u)), some (.int (zi us)), some (.int (zi zq1)), some (.int (zi (zq7 - 208))), some (.int (zi i))]) (S' := [.ref x]) rfl ?_
                  refine gs_gtk rfl (by decide) rfl sh20.1 tx rfl rfl lp19k0 ?_
                  refine gy_s 3 (pc' := 93) (L' := [some (.ref x), some (.int (zi u)), some (.int (zi us)), some (.int (zi zq1)), some (.int (zi (zq7 - 208))), some (.int (zi i))]) (S' := [.int ((zi zq1) + (zi 2)), .ref bi]) (L2 := [some (.ref x), some (.int (zi u)), some (.int (zi us)), some (.int (zi zq1)), some (.int (zi (zq7 - 208))), some (.int (zi i))]) (S2 := [.int (zi (zq1 + 2)), .ref bi]) rfl (by simp only [zi_add, zi_sub, zi_mul, zi_neg, zi_and1, zi_and7, zi_and15, zi_and31, zi_and255]) (by simp only [zi_add, zi_sub, zi_mul, zi_neg, zi_and1, zi_and7, zi_and15, zi_and31, zi_and255]) ?_
                  refine gz_call rfl (by decide) rfl (by decide) (by decide) (gcal_of rfl rfl rfl (Nat.le_of_ble_eq_true rfl) (gJ.recv (G := gGG) sh20.1 tbi rfl rfl)) (cl_Bits_beginAt _ sh20.1 bi tbi (zq1 + 2) (by omega) uq) (fun q24 _ wq24 => ?_)
                  obtain ⟨pq24, oq24, hq24⟩ := q24
                  obtain ⟨xq24, fq24_0, gq24, efq24_0, afq24_0, bfq24_0, uq24_0, uq24_1⟩ := wq24
                  refine ⟨_, gq24, ?_⟩
                  show gz gPP gGG gcn _ _ 96 [some (.ref x), some (.int (zi u)), some (.int (zi us)), some (.int (zi zq1)), some (.int (zi (zq7 - 208))), some (.int (zi i))] [] hq24 _
                  have sq24 : gSs rT 1027 ty [66013, 66014, 67001, 67003, 82011, 83011, 84011] h hq24 := gSs.tr sh20 xq24 (by decide)
                  have s25 := (xq24.2.2.2.2.2 x 0 (by rw [tx]; decide)).trans lp19k0
                  have s26 := (xq24.2.2.2.2.2 bi 0 (by rw [tbi]; decide)).trans lp19k1
                  have s27 := (xq24.2.2.2.2.2 x 7 (by rw [tx]; decide)).trans lp19k2
                  have s28 := (xq24.2.2.2.2.2 src 1 (by rw [tsrc]; decide)).trans lp19k3
                  have s29 := (xq24.2.2.2.2.2 x 1 (by rw [tx]; decide)).trans lp19k5
                  refine gz_s 1 (pc' := 97) (L' := [some (.ref x), some (.int (zi u)), some (.int (zi us)), some (.int (zi zq1)), some (.int (zi (zq7 - 208))), some (.int (zi i))]) (S' := [.ref x]) rfl ?_
                  refine gz_call rfl (by decide) rfl (by decide) (by decide) (gcal_of rfl rfl rfl (Nat.le_of_ble_eq_true rfl) (gJ.recv (G := gGG) sq24.1 tx rfl rfl)) (cl_ScanReader_beginInterval _ sq24.1 x tx pic s27 tpic uq) (fun q30 _ wq30 => ?_)
                  obtain ⟨pq30, oq30, hq30⟩ := q30
                  obtain ⟨xq30, gq30⟩ := wq30
                  refine ⟨_, gq30, ?_⟩
                  show gz gPP gGG gcn _ _ 100 [some (.ref x), some (.int (zi u)), some (.int (zi us)), some (.int (zi zq1)), some (.int (zi (zq7 - 208))), some (.int (zi i))] [] hq30 _
                  have sq30 : gSs rT 1027 ty [66013, 66014, 67001, 67003, 82011, 83011, 84011] h hq30 := gSs.tr sq24 xq30 (by decide)
                  have s31 := (xq30.2.2.2.2.2 x 0 (by rw [tx]; decide)).trans s25
                  have s32 := (xq30.2.2.2.2.2 bi 0 (by rw [tbi]; decide)).trans s26
                  have s33 := (xq30.2.2.2.2.2 x 7 (by rw [tx]; decide)).trans s27
                  have s34 := (xq30.2.2.2.2.2 src 1 (by rw [tsrc]; decide)).trans s28
                  have s35 := (xq30.2.2.2.2.2 x 1 (by rw [tx]; decide)).trans s29
                  have s36 := (xq30.2.2.2.2.2 bi 1 (by rw [tbi]; decide)).trans efq24_0
                  refine gz_s 3 (pc' := 104) (L' := [some (.ref x), some (.int (zi u)), some (.int (zi us)), some (.int (zi zq1)), some (.int (zi (zq7 - 208))), some (.int (zi i))]) (S' := [.ref x, .int (zi i), .ref x]) rfl ?_
                  refine gs_gtk rfl (by decide) rfl sq30.1 tx rfl rfl s35 ?_
                  have hx37 := zx_f (a := i) (b := z16) (A := 200) (B := 65535) (by omega) (by omega) (by omega) (by omega)
                  refine gy_s 1 (pc' := 108) (L' := [some (.ref x), some (.int (zi u)), some (.int (zi us)), some (.int (zi zq1)), some (.int (zi (zq7 - 208))), some (.int (zi i))]) (S' := [.int ((zi i) * (zi z16)), .ref x]) (L2 := [some (.ref x), some (.int (zi u)), some (.int (zi us)), some (.int (zi zq1)), some (.int (zi (zq7 - 208))), some (.int (zi i))]) (S2 := [.int (zi (i * z16)), .ref x]) rfl (by simp only [zi_add, zi_sub, zi_mul, zi_neg, zi_and1, zi_and7, zi_and15, zi_and31, zi_and255]) (by simp only [zi_add, zi_sub, zi_mul, zi_neg, zi_and1, zi_and7, zi_and15, zi_and31, zi_and255]) ?_
                  refine gs_put rfl (by decide) rfl sq30 tx rfl rfl rfl rfl (Or.inl rfl) (by decide) (by omega) (by omega) (fun h38 sh38 eh38 fh38 => ?_)
                  have s39 := (fh38 x 0 (fun q => absurd q.2 (by decide))).trans s31
                  have s40 := (fh38 bi 0 (fun q => absurd q.2 (by decide))).trans s32
                  have s41 := (fh38 x 7 (fun q => absurd q.2 (by decide))).trans s33
                  have s42 := (fh38 src 1 (fun q => absurd q.2 (by decide))).trans s34
                  have s43 := (fh38 x 1 (fun q => absurd q.2 (by decide))).trans s35
                  have s44 := (fh38 bi 1 (fun q => absurd q.2 (by decide))).trans s36
                  refine gz_s 1 (pc' := 112) (L' := [some (.ref x), some (.int (zi u)), some (.int (zi us)), some (.int (zi zq1)), some (.int (zi (zq7 - 208))), some (.int (zi i))]) (S' := [.ref x]) rfl ?_
                  refine gs_gtk rfl (by decide) rfl sh38.1 tx rfl rfl eh38 ?_
                  exact gz_end (I := .ireturn) (len := 1) rfl (Or.inl rfl) ⟨sh38, i * z16, fq24_0, rfl, (by omega), (by omega), s44, (by omega), (by omega), (by omega), (by omega), (by omega)⟩
          exact gz_wk (lp19 _ hq7 ((u / z16) + 1) (Nat.lt_succ_self _) sq7 (by omega) (by omega) (by omega) s8 s9 s10 s11 s12 ez16) (gLw.s (gLw.s (gLw.s (gLw.s (gLw.s (gLw.s gLw.z))))))
        · refine gy_icF rfl (by decide) (by decide) (by omega) (by omega) hc17 ?_
          refine gz_s 1 (pc' := 52) (L' := [some (.ref x), some (.int (zi u)), some (.int (zi us)), some (.int (zi zq1)), some (.int (zi (zq7 - 208))), none]) (S' := [.int (zi us)]) rfl ?_
          exact gz_end (I := .ireturn) (len := 1) rfl (Or.inl rfl) ⟨sq7, us, p0, rfl, (by omega), (by omega), s12, (by omega), (by omega), (by omega), (by omega), (by omega)⟩
