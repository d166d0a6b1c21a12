/-! ===== the encoder of the reference (by program) ===== -/
set_option maxRecDepth 20000 in
set_option maxHeartbeats 4000000 in
theorem mw_putByte (d : Nat) {ty : Nat → Nat} {h : gH} (hJ : gJ rT 1027 ty h) (m : Nat) (tm : ty m = 1) (v : Int) (rv : (-2147483648) ≤ v ∧ v ≤ 2147483647) (w0 : Int) (ew0 : h.2.2.2.2 m 59 = .int (zi w0)) (rw0 : 0 ≤ w0 ∧ w0 ≤ 59999) (sg : gWt) (pp0 : w0 = sg.1) (uq : gUq ty) (hyso : gSO ty sg h) (hyok : eeOk sg) : gz gPP gGG gcn (d + 0) gt187 0 (gent [.ref m, .int (zi v)] 2) [] h (fun q _ => gSs rT 1027 ty [1059, 32999] h q.2.2 ∧ ∃ w1 : Int, gfin gt187 q.1 q.2.1 = some none ∧ q.2.2.2.2.2.2 m 59 = .int (zi w1) ∧ 0 ≤ w1 ∧ w1 ≤ 60000 ∧ (w1 = w0 + 1) ∧ (w1 = (eeB sg v).1) ∧ ((eeB sg v).2.1 = sg.2.1) ∧ ((eeB sg v).2.2.1 = sg.2.2.1) ∧ (gSO ty (eeB sg v) q.2.2) ∧ (eeOk (eeB sg v))) := by
  have hS : gSs rT 1027 ty [1059, 32999] h h := gSs.rf hJ
  have hB1 : (eeB sg v).1 = sg.1 + 1 := rfl
  have hB2 : (eeB sg v).2.1 = sg.2.1 := rfl
  have hB3 : (eeB sg v).2.2.1 = sg.2.2.1 := rfl
  refine gz_s 1 (pc' := 1) (L' := [some (.ref m), some (.int (zi v))]) (S' := [.ref m]) rfl ?_
  refine gs_gtr rfl (by decide) rfl hS.1 tm rfl rfl rfl (fun c1 ec1 tc1 => ?_)
  refine gz_s 1 (pc' := 5) (L' := [some (.ref m), some (.int (zi v))]) (S' := [.ref m, .ref c1]) rfl ?_
  refine gs_gtk rfl (by decide) rfl hS.1 tm rfl rfl ew0 ?_
  refine gy_s 3 (pc' := 13) (L' := [some (.ref m), some (.int (zi v))]) (S' := [.int ((zi v) &&& (zi 255)), .int (zi w0), .ref c1]) (L2 := [some (.ref m), some (.int (zi v))]) (S2 := [.int (zi (v % 256)), .int (zi w0), .ref c1]) rfl (by simp only [zi_add, zi_sub, zi_mul, zi_neg, zi_and1, zi_and7, zi_and15, zi_and31, zi_and255]) (by simp only [zi_add, zi_sub, zi_mul, zi_neg, zi_and1, zi_and7, zi_and15, zi_and31, zi_and255]) ?_
  have hl2 : 60000 ≤ h.2.2.2.1 c1 ∧ h.2.2.2.1 c1 ≤ 60000 := gJ.rowl (G := gGG) hS.1 tc1 rfl
  refine gs_ast rfl (by decide) hS tc1 rfl rfl rfl (by decide) (fun _ => rfl) (by omega) (by omega) (fun _ => (by decide : (32999 : Nat) ∈ ([1059, 32999] : List Nat))) (by omega) (by omega) (fun h3 sh3 eh3 fh3 => ?_)
  have s4 := (fh3 m 59 (fun q => absurd (((tm).symm.trans (congrArg ty q.1)).trans tc1) (by decide))).trans ew0
  have s5 := (fh3 m 60 (fun q => absurd (((tm).symm.trans (congrArg ty q.1)).trans tc1) (by decide))).trans ec1
  have pr6 := gEl.set (i := w0) (z := v % 256) uq tc1 (by decide) eh3 (by omega) (by omega)
  have hso7 : gSO ty (eeB sg v) h3 := gSO.put (i := w0) uq tc1 fh3 eh3 (by omega) hyso
  refine gz_s 2 (pc' := 16) (L' := [some (.ref m), some (.int (zi v))]) (S' := [.ref m, .ref m]) rfl ?_
  refine gs_gtk rfl (by decide) rfl sh3.1 tm rfl rfl s4 ?_
  refine gy_s 2 (pc' := 21) (L' := [some (.ref m), some (.int (zi v))]) (S' := [.int ((zi w0) + (zi 1)), .ref m]) (L2 := [some (.ref m), some (.int (zi v))]) (S2 := [.int (zi (w0 + 1)), .ref m]) rfl (by simp only [zi_add, zi_sub, zi_mul, zi_neg, zi_and1, zi_and7, zi_and15, zi_and31, zi_and255]) (by simp only [zi_add, zi_sub, zi_mul, zi_neg, zi_and1, zi_and7, zi_and15, zi_and31, zi_and255]) ?_
  refine gs_put rfl (by decide) rfl sh3 tm rfl rfl rfl rfl (Or.inl rfl) (by decide) (by omega) (by omega) (fun h8 sh8 eh8 fh8 => ?_)
  have pr9 := gEl.pt fh8 tm (by decide) pr6
  have pr10 := gSO.pt fh8 tm (by decide) hso7
  have s11 := (fh8 m 60 (fun q => absurd q.2 (by decide))).trans s5
  exact gz_end (I := .return_) (len := 1) rfl (Or.inl rfl) ⟨sh8, w0 + 1, rfl, eh8, (by omega), (by omega), (by omega), (by omega), (by omega), (by omega), pr10, (eeOk.B hyok)⟩
set_option maxRecDepth 20000 in
set_option maxHeartbeats 4000000 in
theorem mw_putTwo (d : Nat) {ty : Nat → Nat} {h : gH} (hJ : gJ rT 1027 ty h) (m : Nat) (tm : ty m = 1) (v : Int) (rv : (-2147483648) ≤ v ∧ v ≤ 2147483647) (w0 : Int) (ew0 : h.2.2.2.2 m 59 = .int (zi w0)) (rw0 : 0 ≤ w0 ∧ w0 ≤ 59998) (sg : gWt) (pp0 : w0 = sg.1) (uq : gUq ty) (hyso : gSO ty sg h) (hyok : eeOk sg) : gz gPP gGG gcn (d + 1) gt188 0 (gent [.ref m, .int (zi v)] 2) [] h (fun q _ => gSs rT 1027 ty [1059, 32999] h q.2.2 ∧ ∃ w1 : Int, gfin gt188 q.1 q.2.1 = some none ∧ q.2.2.2.2.2.2 m 59 = .int (zi w1) ∧ 0 ≤ w1 ∧ w1 ≤ 60000 ∧ (w1 = w0 + 2) ∧ (w1 = (eeT sg v).1) ∧ ((eeT sg v).2.1 = sg.2.1) ∧ ((eeT sg v).2.2.1 = sg.2.2.1) ∧ (gSO ty (eeT sg v) q.2.2) ∧ (eeOk (eeT sg v))) := by
  have hS : gSs rT 1027 ty [1059, 32999] h h := gSs.rf hJ
  have hB1 : (eeT sg v).1 = sg.1 + 1 + 1 := rfl
  have hB2 : (eeT sg v).2.1 = sg.2.1 := rfl
  have hB3 : (eeT sg v).2.2.1 = sg.2.2.1 := rfl
  refine gz_s 3 (pc' := 4) (L' := [some (.ref m), some (.int (zi v))]) (S' := [.int (zi 8), .int (zi v), .ref m]) rfl ?_
  refine gy_shc (n := 8) (v := 256) rfl (by decide) (by omega) (by decide) (by decide) rfl ?_
  refine gz_call rfl (by decide) rfl (by decide) (by decide) (gcal_of rfl rfl rfl (Nat.le_of_ble_eq_true rfl) (gJ.recv (G := gGG) hS.1 tm rfl rfl)) (mw_putByte _ hS.1 m tm (v / 256) (by omega) w0 ew0 (by omega) sg (by omega) uq hyso hyok) (fun q1 _ wq1 => ?_)
  obtain ⟨pq1, oq1, hq1⟩ := q1
  obtain ⟨xq1, fq1_0, gq1, efq1_0, afq1_0, bfq1_0, uq1_0, uq1_1, uq1_2, uq1_3, yq1_0, yq1_1⟩ := wq1
  refine ⟨_, gq1, ?_⟩
  show gz gPP gGG gcn _ _ 8 [some (.ref m), some (.int (zi v))] [] hq1 _
  have sq1 := gSs.tr hS xq1 (by decide)
  refine gz_s 2 (pc' := 10) (L' := [some (.ref m), some (.int (zi v))]) (S' := [.int (zi v), .ref m]) rfl ?_
  refine gz_call rfl (by decide) rfl (by decide) (by decide) (gcal_of rfl rfl rfl (Nat.le_of_ble_eq_true rfl) (gJ.recv (G := gGG) sq1.1 tm rfl rfl)) (mw_putByte _ sq1.1 m tm v (by omega) fq1_0 efq1_0 (by omega) (eeB sg (v / 256)) (by omega) uq yq1_0 yq1_1) (fun q2 _ wq2 => ?_)
  obtain ⟨pq2, oq2, hq2⟩ := q2
  obtain ⟨xq2, fq2_0, gq2, efq2_0, afq2_0, bfq2_0, uq2_0, uq2_1, uq2_2, uq2_3, yq2_0, yq2_1⟩ := wq2
  refine ⟨_, gq2, ?_⟩
  show gz gPP gGG gcn _ _ 13 [some (.ref m), some (.int (zi v))] [] hq2 _
  have sq2 := gSs.tr sq1 xq2 (by decide)
  exact gz_end (I := .return_) (len := 1) rfl (Or.inl rfl) ⟨sq2, fq2_0, rfl, efq2_0, (by omega), (by omega), (by omega), (by omega), (by omega), (by omega), yq2_0, (eeOk.T hyok)⟩
set_option maxRecDepth 20000 in
set_option maxHeartbeats 4000000 in
theorem mw_putMarker (d : Nat) {ty : Nat → Nat} {h : gH} (hJ : gJ rT 1027 ty h) (m : Nat) (tm : ty m = 1) (v : Int) (rv : (-2147483648) ≤ v ∧ v ≤ 2147483647) (w0 : Int) (ew0 : h.2.2.2.2 m 59 = .int (zi w0)) (rw0 : 0 ≤ w0 ∧ w0 ≤ 59998) (sg : gWt) (pp0 : w0 = sg.1) (uq : gUq ty) (hyso : gSO ty sg h) (hyok : eeOk sg) : gz gPP gGG gcn (d + 1) gt186 0 (gent [.ref m, .int (zi v)] 2) [] h (fun q _ => gSs rT 1027 ty [1059, 32999] h q.2.2 ∧ ∃ w1 : Int, gfin gt186 q.1 q.2.1 = some none ∧ q.2.2.2.2.2.2 m 59 = .int (zi w1) ∧ 0 ≤ w1 ∧ w1 ≤ 60000 ∧ (w1 = w0 + 2) ∧ (w1 = (eeM sg v).1) ∧ ((eeM sg v).2.1 = sg.2.1) ∧ ((eeM sg v).2.2.1 = sg.2.2.1) ∧ (gSO ty (eeM sg v) q.2.2) ∧ (eeOk (eeM sg v))) := by
  have hS : gSs rT 1027 ty [1059, 32999] h h := gSs.rf hJ
  have hB1 : (eeM sg v).1 = sg.1 + 1 + 1 := rfl
  have hB2 : (eeM sg v).2.1 = sg.2.1 := rfl
  have hB3 : (eeM sg v).2.2.1 = sg.2.2.1 := rfl
  refine gz_s 2 (pc' := 4) (L' := [some (.ref m), some (.int (zi v))]) (S' := [.int (zi 255), .ref m]) rfl ?_
  refine gz_call rfl (by decide) rfl (by decide) (by decide) (gcal_of rfl rfl rfl (Nat.le_of_ble_eq_true rfl) (gJ.recv (G := gGG) hS.1 tm rfl rfl)) (mw_putByte _ hS.1 m tm 255 (by omega) w0 ew0 (by omega) sg (by omega) uq hyso hyok) (fun q1 _ wq1 => ?_)
  obtain ⟨pq1, oq1, hq1⟩ := q1
  obtain ⟨xq1, fq1_0, gq1, efq1_0, afq1_0, bfq1_0, uq1_0, uq1_1, uq1_2, uq1_3, yq1_0, yq1_1⟩ := wq1
  refine ⟨_, gq1, ?_⟩
  show gz gPP gGG gcn _ _ 7 [some (.ref m), some (.int (zi v))] [] hq1 _
  have sq1 := gSs.tr hS xq1 (by decide)
  refine gz_s 2 (pc' := 9) (L' := [some (.ref m), some (.int (zi v))]) (S' := [.int (zi v), .ref m]) rfl ?_
  refine gz_call rfl (by decide) rfl (by decide) (by decide) (gcal_of rfl rfl rfl (Nat.le_of_ble_eq_true rfl) (gJ.recv (G := gGG) sq1.1 tm rfl rfl)) (mw_putByte _ sq1.1 m tm v (by omega) fq1_0 efq1_0 (by omega) (eeB sg 255) (by omega) uq yq1_0 yq1_1) (fun q2 _ wq2 => ?_)
  obtain ⟨pq2, oq2, hq2⟩ := q2
  obtain ⟨xq2, fq2_0, gq2, efq2_0, afq2_0, bfq2_0, uq2_0, uq2_1, uq2_2, uq2_3, yq2_0, yq2_1⟩ := wq2
  refine ⟨_, gq2, ?_⟩
  show gz gPP gGG gcn _ _ 12 [some (.ref m), some (.int (zi v))] [] hq2 _
  have sq2 := gSs.tr sq1 xq2 (by decide)
  exact gz_end (I := .return_) (len := 1) rfl (Or.inl rfl) ⟨sq2, fq2_0, rfl, efq2_0, (by omega), (by omega), (by omega), (by omega), (by omega), (by omega), yq2_0, (eeOk.M hyok)⟩
set_option maxRecDepth 20000 in
set_option maxHeartbeats 4000000 in
theorem mw_putBit (d : Nat) {ty : Nat → Nat} {h : gH} (hJ : gJ rT 1027 ty h) (m : Nat) (tm : ty m = 1) (b : Int) (rb : 0 ≤ b ∧ b ≤ 1) (w0 : Int) (ew0 : h.2.2.2.2 m 59 = .int (zi w0)) (rw0 : 0 ≤ w0 ∧ w0 ≤ 60000) (u0 : Int) (eu0 : h.2.2.2.2 m 61 = .int (zi u0)) (ru0 : 0 ≤ u0 ∧ u0 ≤ 127) (b0 : Int) (eb0 : h.2.2.2.2 m 62 = .int (zi b0)) (rb0 : 0 ≤ b0 ∧ b0 ≤ 7) (ic : Int) (eic : h.2.2.2.2 m 67 = .int (zi ic)) (ric : 1 ≤ ic ∧ ic ≤ 1) (sg : gWt) (pp0 : w0 = sg.1) (pp1 : u0 = sg.2.1) (pp2 : b0 = sg.2.2.1) (pp3 : 4 * w0 + b0 + 1 ≤ 239900) (uq : gUq ty) (hyso : gSO ty sg h) (hyok : eeOk sg) : gz gPP gGG gcn (d + 1) gt192 0 (gent [.ref m, .int (zi b)] 2) [] h (fun q _ => gSs rT 1027 ty [1059, 1061, 1062, 32999] h q.2.2 ∧ ∃ w1 u1 b1 : Int, gfin gt192 q.1 q.2.1 = some none ∧ q.2.2.2.2.2.2 m 59 = .int (zi w1) ∧ 0 ≤ w1 ∧ w1 ≤ 60000 ∧ q.2.2.2.2.2.2 m 61 = .int (zi u1) ∧ 0 ≤ u1 ∧ u1 ≤ 127 ∧ q.2.2.2.2.2.2 m 62 = .int (zi b1) ∧ 0 ≤ b1 ∧ b1 ≤ 7 ∧ (w1 = (eeb sg b).1) ∧ (u1 = (eeb sg b).2.1) ∧ (b1 = (eeb sg b).2.2.1) ∧ (4 * w1 + b1 ≤ 4 * w0 + b0 + 1) ∧ (w0 ≤ w1) ∧ (gSO ty (eeb sg b) q.2.2) ∧ (eeOk (eeb sg b))) := by
  have hS : gSs rT 1027 ty [1059, 1061, 1062, 32999] h h := gSs.rf hJ
  refine gz_s 1 (pc' := 1) (L' := [some (.ref m), some (.int (zi b))]) (S' := [.ref m]) rfl ?_
  refine gs_gtk rfl (by decide) rfl hS.1 tm rfl rfl eic ?_
  refine gy_ifT (pc' := 8) rfl (by decide) (by decide) (by omega) (by first | (simp [zc]; done) | (simp only [zc]; omega)) ?_
  refine gz_s 3 (pc' := 11) (L' := [some (.ref m), some (.int (zi b))]) (S' := [.ref m, .int (zi 2), .ref m]) rfl ?_
  refine gs_gtk rfl (by decide) rfl hS.1 tm rfl rfl eu0 ?_
  refine gy_s 3 (pc' := 17) (L' := [some (.ref m), some (.int (zi b))]) (S' := [.int (((zi 2) * (zi u0)) + (zi b)), .ref m]) (L2 := [some (.ref m), some (.int (zi b))]) (S2 := [.int (zi ((2 * u0) + b)), .ref m]) rfl (by simp only [zi_add, zi_sub, zi_mul, zi_neg, zi_and1, zi_and7, zi_and15, zi_and31, zi_and255]) (by simp only [zi_add, zi_sub, zi_mul, zi_neg, zi_and1, zi_and7, zi_and15, zi_and31, zi_and255]) ?_
  refine gs_put rfl (by decide) rfl hS tm rfl rfl rfl rfl (Or.inl rfl) (by decide) (by omega) (by omega) (fun h1 sh1 eh1 fh1 => ?_)
  have pr2 := gSO.pt fh1 tm (by decide) hyso
  have s3 := (fh1 m 59 (fun q => absurd q.2 (by decide))).trans ew0
  have s4 := (fh1 m 62 (fun q => absurd q.2 (by decide))).trans eb0
  have s5 := (fh1 m 67 (fun q => absurd q.2 (by decide))).trans eic
  refine gz_s 2 (pc' := 22) (L' := [some (.ref m), some (.int (zi b))]) (S' := [.ref m, .ref m]) rfl ?_
  refine gs_gtk rfl (by decide) rfl sh1.1 tm rfl rfl s4 ?_
  refine gy_s 2 (pc' := 27) (L' := [some (.ref m), some (.int (zi b))]) (S' := [.int ((zi b0) + (zi 1)), .ref m]) (L2 := [some (.ref m), some (.int (zi b))]) (S2 := [.int (zi (b0 + 1)), .ref m]) rfl (by simp only [zi_add, zi_sub, zi_mul, zi_neg, zi_and1, zi_and7, zi_and15, zi_and31, zi_and255]) (by simp only [zi_add, zi_sub, zi_mul, zi_neg, zi_and1, zi_and7, zi_and15, zi_and31, zi_and255]) ?_
  refine gs_put rfl (by decide) rfl sh1 tm rfl rfl rfl rfl (Or.inl rfl) (by decide) (by omega) (by omega) (fun h6 sh6 eh6 fh6 => ?_)
  have pr7 := gSO.pt fh6 tm (by decide) pr2
  have s8 := (fh6 m 59 (fun q => absurd q.2 (by decide))).trans s3
  have s9 := (fh6 m 67 (fun q => absurd q.2 (by decide))).trans s5
  have s10 := (fh6 m 61 (fun q => absurd q.2 (by decide))).trans eh1
  refine gz_s 1 (pc' := 31) (L' := [some (.ref m), some (.int (zi b))]) (S' := [.ref m]) rfl ?_
  refine gs_gtk rfl (by decide) rfl sh6.1 tm rfl rfl eh6 ?_
  refine gz_s 1 (pc' := 36) (L' := [some (.ref m), some (.int (zi b))]) (S' := [.int (zi 8), .int (zi (b0 + 1))]) rfl ?_
  by_cases hc11 : ¬ (b0 + 1 : Int) = 8
  · refine gy_icT (pc' := 72) rfl (by decide) (by decide) (by omega) (by omega) hc11 ?_
    obtain ⟨hka, hkb, hkc, hkd⟩ := eeb_A (s := sg) (b := b) (by omega)
    have hkok := (eeOk.b hyok (b := b) ⟨by omega, by omega⟩)
    have hkc2 := hkok.cur
    have hso9 : gSO ty (eeb sg b) h6 := gSO.eq (by omega) hkd.symm pr7
    exact gz_end (I := .return_) (len := 1) rfl (Or.inl rfl) ⟨sh6, w0, (2 * u0) + b, b0 + 1, rfl, s8, (by omega), (by omega), s10, (by omega), (by omega), eh6, (by omega), (by omega), (by omega), (by omega), (by omega), (by omega), (by omega), hso9, hkok⟩
  · refine gy_icF rfl (by decide) (by decide) (by omega) (by omega) hc11 ?_
    refine gz_s 2 (pc' := 41) (L' := [some (.ref m), some (.int (zi b))]) (S' := [.ref m, .ref m]) rfl ?_
    refine gs_gtk rfl (by decide) rfl sh6.1 tm rfl rfl s10 ?_
    refine gz_call rfl (by decide) rfl (by decide) (by decide) (gcal_of rfl rfl rfl (Nat.le_of_ble_eq_true rfl) (gJ.recv (G := gGG) sh6.1 tm rfl rfl)) (mw_putByte _ sh6.1 m tm ((2 * u0) + b) (by omega) w0 s8 (by omega) sg (by omega) uq pr7 hyok) (fun q12 _ wq12 => ?_)
    obtain ⟨pq12, oq12, hq12⟩ := q12
    obtain ⟨xq12, fq12_0, gq12, efq12_0, afq12_0, bfq12_0, uq12_0, uq12_1, uq12_2, uq12_3, yq12_0, yq12_1⟩ := wq12
    refine ⟨_, gq12, ?_⟩
    show gz gPP gGG gcn _ _ 47 [some (.ref m), some (.int (zi b))] [] hq12 _
    have sq12 := gSs.tr sh6 xq12 (by decide)
    have s13 := (xq12.2.2.2.2.2 m 67 (by rw [tm]; decide)).trans s9
    have s14 := (xq12.2.2.2.2.2 m 61 (by rw [tm]; decide)).trans s10
    have s15 := (xq12.2.2.2.2.2 m 62 (by rw [tm]; decide)).trans eh6
    refine gz_s 1 (pc' := 48) (L' := [some (.ref m), some (.int (zi b))]) (S' := [.ref m]) rfl ?_
    refine gs_gtk rfl (by decide) rfl sq12.1 tm rfl rfl s14 ?_
    refine gz_s 1 (pc' := 54) (L' := [some (.ref m), some (.int (zi b))]) (S' := [.int (zi 255), .int (zi ((2 * u0) + b))]) rfl ?_
    by_cases hc16 : ¬ ((2 * u0) + b : Int) = 255
    · refine gy_icT (pc' := 62) rfl (by decide) (by decide) (by omega) (by omega) hc16 ?_
      refine gz_s 2 (pc' := 64) (L' := [some (.ref m), some (.int (zi b))]) (S' := [.int (zi 0), .ref m]) rfl ?_
      refine gs_put rfl (by decide) rfl sq12 tm rfl rfl rfl rfl (Or.inl rfl) (by decide) (by omega) (by omega) (fun h17 sh17 eh17 fh17 => ?_)
      have pr18 := gSO.pt fh17 tm (by decide) yq12_0
      have s19 := (fh17 m 67 (fun q => absurd q.2 (by decide))).trans s13
      have s20 := (fh17 m 62 (fun q => absurd q.2 (by decide))).trans s15
      have s21 := (fh17 m 59 (fun q => absurd q.2 (by decide))).trans efq12_0
      refine gz_s 2 (pc' := 69) (L' := [some (.ref m), some (.int (zi b))]) (S' := [.int (zi 0), .ref m]) rfl ?_
      refine gs_put rfl (by decide) rfl sh17 tm rfl rfl rfl rfl (Or.inl rfl) (by decide) (by omega) (by omega) (fun h22 sh22 eh22 fh22 => ?_)
      have pr23 := gSO.pt fh22 tm (by decide) pr18
      have s24 := (fh22 m 67 (fun q => absurd q.2 (by decide))).trans s19
      have s25 := (fh22 m 59 (fun q => absurd q.2 (by decide))).trans s21
      have s26 := (fh22 m 61 (fun q => absurd q.2 (by decide))).trans eh17
      obtain ⟨hka, hkb, hkc, hkd⟩ := eeb_B (s := sg) (b := b) (w := 2 * u0 + b) (by omega) (by omega) (by omega)
      have hkok := (eeOk.b hyok (b := b) ⟨by omega, by omega⟩)
      have hkc2 := hkok.cur
      have hso9 : gSO ty (eeb sg b) h22 := gSO.eq (by omega) hkd.symm pr23
      exact gz_end (I := .return_) (len := 1) rfl (Or.inl rfl) ⟨sh22, fq12_0, 0, 0, rfl, s25, (by omega), (by omega), s26, (by omega), (by omega), eh22, (by omega), (by omega), (by omega), (by omega), (by omega), (by omega), (by omega), hso9, hkok⟩
    · refine gy_icF rfl (by decide) (by decide) (by omega) (by omega) hc16 ?_
      refine gz_s 2 (pc' := 59) (L' := [some (.ref m), some (.int (zi b))]) (S' := [.int (zi 0), .ref m]) rfl ?_
      refine gz_call rfl (by decide) rfl (by decide) (by decide) (gcal_of rfl rfl rfl (Nat.le_of_ble_eq_true rfl) (gJ.recv (G := gGG) sq12.1 tm rfl rfl)) (mw_putByte _ sq12.1 m tm 0 (by omega) fq12_0 efq12_0 (by omega) (eeB sg ((2 * u0) + b)) (by omega) uq yq12_0 yq12_1) (fun q27 _ wq27 => ?_)
      obtain ⟨pq27, oq27, hq27⟩ := q27
      obtain ⟨xq27, fq27_0, gq27, efq27_0, afq27_0, bfq27_0, uq27_0, uq27_1, uq27_2, uq27_3, yq27_0, yq27_1⟩ := wq27
      refine ⟨_, gq27, ?_⟩
      show gz gPP gGG gcn _ _ 62 [some (.ref m), some (.int (zi b))] [] hq27 _
      have sq27 := gSs.tr sq12 xq27 (by decide)
      have s28 := (xq27.2.2.2.2.2 m 67 (by rw [tm]; decide)).trans s13
      have s29 := (xq27.2.2.2.2.2 m 61 (by rw [tm]; decide)).trans s14
      have s30 := (xq27.2.2.2.2.2 m 62 (by rw [tm]; decide)).trans s15
      refine gz_s 2 (pc' := 64) (L' := [some (.ref m), some (.int (zi b))]) (S' := [.int (zi 0), .ref m]) rfl ?_
      refine gs_put rfl (by decide) rfl sq27 tm rfl rfl rfl rfl (Or.inl rfl) (by decide) (by omega) (by omega) (fun h31 sh31 eh31 fh31 => ?_)
      have pr32 := gSO.pt fh31 tm (by decide) yq27_0
      have s33 := (fh31 m 67 (fun q => absurd q.2 (by decide))).trans s28
      have s34 := (fh31 m 62 (fun q => absurd q.2 (by decide))).trans s30
      have s35 := (fh31 m 59 (fun q => absurd q.2 (by decide))).trans efq27_0
      refine gz_s 2 (pc' := 69) (L' := [some (.ref m), some (.int (zi b))]) (S' := [.int (zi 0), .ref m]) rfl ?_
      refine gs_put rfl (by decide) rfl sh31 tm rfl rfl rfl rfl (Or.inl rfl) (by decide) (by omega) (by omega) (fun h36 sh36 eh36 fh36 => ?_)
      have pr37 := gSO.pt fh36 tm (by decide) pr32
      have s38 := (fh36 m 67 (fun q => absurd q.2 (by decide))).trans s33
      have s39 := (fh36 m 59 (fun q => absurd q.2 (by decide))).trans s35
      have s40 := (fh36 m 61 (fun q => absurd q.2 (by decide))).trans eh31
      obtain ⟨hka, hkb, hkc, hkd⟩ := eeb_C (s := sg) (b := b) (w := 2 * u0 + b) (by omega) (by omega) (by omega)
      have hkok := (eeOk.b hyok (b := b) ⟨by omega, by omega⟩)
      have hkc2 := hkok.cur
      have hso9 : gSO ty (eeb sg b) h36 := gSO.eq (by omega) hkd.symm pr37
      exact gz_end (I := .return_) (len := 1) rfl (Or.inl rfl) ⟨sh36, fq27_0, 0, 0, rfl, s39, (by omega), (by omega), s40, (by omega), (by omega), eh36, (by omega), (by omega), (by omega), (by omega), (by omega), (by omega), (by omega), hso9, hkok⟩
set_option maxRecDepth 20000 in
set_option maxHeartbeats 4000000 in
theorem mn_putBit (d : Nat) {ty : Nat → Nat} {h : gH} (hJ : gJ rT 1027 ty h) (m : Nat) (tm : ty m = 1) (b : Int) (rb : 0 ≤ b ∧ b ≤ 1) (ic : Int) (eic : h.2.2.2.2 m 67 = .int (zi ic)) (ric : 0 ≤ ic ∧ ic ≤ 0) (uq : gUq ty) : gz gPP gGG gcn (d + 0) gt192 0 (gent [.ref m, .int (zi b)] 2) [] h (fun q _ => gSs rT 1027 ty [] h q.2.2 ∧ gfin gt192 q.1 q.2.1 = some none) := by
  have hS : gSs rT 1027 ty [] h h := gSs.rf hJ
  refine gz_s 1 (pc' := 1) (L' := [some (.ref m), some (.int (zi b))]) (S' := [.ref m]) rfl ?_
  refine gs_gtk rfl (by decide) rfl hS.1 tm rfl rfl eic ?_
  refine gy_ifF rfl (by decide) (by decide) (by omega) (by first | (simp [zc]; done) | (simp only [zc]; omega)) ?_
  exact gz_end (I := .return_) (len := 1) rfl (Or.inl rfl) ⟨hS, rfl⟩
set_option maxRecDepth 20000 in
set_option maxHeartbeats 4000000 in
theorem mw_putNumber (d : Nat) {ty : Nat → Nat} {h : gH} (hJ : gJ rT 1027 ty h) (m : Nat) (tm : ty m = 1) (v : Int) (rv : (-8191) ≤ v ∧ v ≤ 8191) (n : Int) (rn : 0 ≤ n ∧ n ≤ 13) (w0 : Int) (ew0 : h.2.2.2.2 m 59 = .int (zi w0)) (rw0 : 0 ≤ w0 ∧ w0 ≤ 60000) (u0 : Int) (eu0 : h.2.2.2.2 m 61 = .int (zi u0)) (ru0 : 0 ≤ u0 ∧ u0 ≤ 127) (b0 : Int) (eb0 : h.2.2.2.2 m 62 = .int (zi b0)) (rb0 : 0 ≤ b0 ∧ b0 ≤ 7) (ic : Int) (eic : h.2.2.2.2 m 67 = .int (zi ic)) (ric : 1 ≤ ic ∧ ic ≤ 1) (sg : gWt) (pp0 : w0 = sg.1) (pp1 : u0 = sg.2.1) (pp2 : b0 = sg.2.2.1) (pp3 : 4 * w0 + b0 + n ≤ 239900) (uq : gUq ty) (hyso : gSO ty sg h) (hyok : eeOk sg) : gz gPP gGG gcn (d + 2) gt196 0 (gent [.ref m, .int (zi v), .int (zi n)] 5) [] h (fun q _ => gSs rT 1027 ty [1059, 1061, 1062, 32999] h q.2.2 ∧ ∃ w1 u1 b1 : Int, gfin gt196 q.1 q.2.1 = some none ∧ q.2.2.2.2.2.2 m 59 = .int (zi w1) ∧ 0 ≤ w1 ∧ w1 ≤ 60000 ∧ q.2.2.2.2.2.2 m 61 = .int (zi u1) ∧ 0 ≤ u1 ∧ u1 ≤ 127 ∧ q.2.2.2.2.2.2 m 62 = .int (zi b1) ∧ 0 ≤ b1 ∧ b1 ≤ 7 ∧ (w1 = (eeN (if v < 0 then v - 1 else v) n.toNat sg).1) ∧ (u1 = (eeN (if v < 0 then v - 1 else v) n.toNat sg).2.1) ∧ (b1 = (eeN (if v < 0 then v - 1 else v) n.toNat sg).2.2.1) ∧ (4 * w1 + b1 ≤ 4 * w0 + b0 + n) ∧ (w0 ≤ w1) ∧ (gSO ty (eeN (if v < 0 then v - 1 else v) n.toNat sg) q.2.2) ∧ (eeOk (eeN (if v < 0 then v - 1 else v) n.toNat sg))) := by
  have hS : gSs rT 1027 ty [1059, 1061, 1062, 32999] h h := gSs.rf hJ
  refine gz_s 1 (pc' := 1) (L' := [some (.ref m), some (.int (zi v)), some (.int (zi n)), none, none]) (S' := [.int (zi v)]) rfl ?_
  by_cases hc1 : (0 : Int) ≤ v
  · refine gy_ifT (pc' := 14) rfl (by decide) (by decide) (by omega) hc1 ?_
    refine gz_s 2 (pc' := 16) (L' := [some (.ref m), some (.int (zi v)), some (.int (zi n)), some (.int (zi v)), none]) (S' := []) rfl ?_
    refine gy_s 4 (pc' := 21) (L' := [some (.ref m), some (.int (zi v)), some (.int (zi n)), some (.int (zi v)), some (.int ((zi n) - (zi 1)))]) (S' := []) (L2 := [some (.ref m), some (.int (zi v)), some (.int (zi n)), some (.int (zi v)), some (.int (zi (n - 1)))]) (S2 := []) rfl (by simp only [zi_add, zi_sub, zi_mul, zi_neg, zi_and1, zi_and7, zi_and15, zi_and31, zi_and255]) (by simp only [zi_add, zi_sub, zi_mul, zi_neg, zi_and1, zi_and7, zi_and15, zi_and31, zi_and255]) ?_
    have hk3 : eeK v n.toNat sg (n - 1 - (n - 1)).toNat = sg := by rw [(by omega : (n - 1 - (n - 1)).toNat = 0)]; rfl
    have hk3_1 : (eeK v n.toNat sg (n - 1 - (n - 1)).toNat).1 = (sg).1 := by rw [hk3]
    have hk3_21 : (eeK v n.toNat sg (n - 1 - (n - 1)).toNat).2.1 = (sg).2.1 := by rw [hk3]
    have hk3_221 : (eeK v n.toNat sg (n - 1 - (n - 1)).toNat).2.2.1 = (sg).2.2.1 := by rw [hk3]
    have hso4 : gSO ty (eeK v n.toNat sg (n - 1 - (n - 1)).toNat) h := by rw [hk3]; exact hyso
    have hok5 : eeOk (eeK v n.toNat sg (n - 1 - (n - 1)).toNat) := by rw [hk3]; exact hyok
    have hok5c := hok5.cur
    have lp2 : ∀ (fu : Nat) (h6 : gH) (k : Int) (wv : Int) (uv : Int) (bv : Int), (k + 2).toNat < fu → gSs rT 1027 ty [1059, 1061, 1062, 32999] h h6 → ((-1) ≤ k ∧ k ≤ 12) → (0 ≤ wv ∧ wv ≤ 60000) → (0 ≤ uv ∧ uv ≤ 127) → (0 ≤ bv ∧ bv ≤ 7) → (k < n) → (-1 ≤ k) → (wv = (eeK v n.toNat sg (n - 1 - k).toNat).1) → (uv = (eeK v n.toNat sg (n - 1 - k).toNat).2.1) → (bv = (eeK v n.toNat sg (n - 1 - k).toNat).2.2.1) → (4 * wv + bv + k + 1 ≤ 4 * w0 + b0 + n) → (w0 ≤ wv) → h6.2.2.2.2 m 67 = .int (zi ic) → h6.2.2.2.2 m 59 = .int (zi wv) → h6.2.2.2.2 m 61 = .int (zi uv) → h6.2.2.2.2 m 62 = .int (zi bv) → gSO ty (eeK v n.toNat sg (n - 1 - k).toNat) h6 → eeOk (eeK v n.toNat sg (n - 1 - k).toNat) → gz gPP gGG gcn (d + 2) gt196 21 [some (.ref m), some (.int (zi v)), some (.int (zi n)), some (.int (zi v)), some (.int (zi k))] [] h6 (fun q _ => gSs rT 1027 ty [1059, 1061, 1062, 32999] h q.2.2 ∧ ∃ w1 u1 b1 : Int, gfin gt196 q.1 q.2.1 = some none ∧ q.2.2.2.2.2.2 m 59 = .int (zi w1) ∧ 0 ≤ w1 ∧ w1 ≤ 60000 ∧ q.2.2.2.2.2.2 m 61 = .int (zi u1) ∧ 0 ≤ u1 ∧ u1 ≤ 127 ∧ q.2.2.2.2.2.2 m 62 = .int (zi b1) ∧ 0 ≤ b1 ∧ b1 ≤ 7 ∧ (w1 = (eeN (if v < 0 then v - 1 else v) n.toNat sg).1) ∧ (u1 = (eeN (if v < 0 then v - 1 else v) n.toNat sg).2.1) ∧ (b1 = (eeN (if v < 0 then v - 1 else v) n.toNat sg).2.2.1) ∧ (4 * w1 + b1 ≤ 4 * w0 + b0 + n) ∧ (w0 ≤ w1) ∧ (gSO ty (eeN (if v < 0 then v - 1 else v) n.toNat sg) q.2.2) ∧ (eeOk (eeN (if v < 0 then v - 1 else v) n.toNat sg))) := by
      intro fu
      induction fu with
      | zero => intro h6 k wv uv bv hm; exact absurd hm (Nat.not_lt_zero _)
      | succ fu ihlp2 =>
        intro h6 k wv uv bv lp2m sh6 lp2f0 lp2f1 lp2f2 lp2f3 lp2f4 lp2f5 lp2f6 lp2f7 lp2f8 lp2f9 lp2f10 lp2k0 lp2k1 lp2k2 lp2k3 lp2k4 lp2k5
        refine gz_s 1 (pc' := 23) (L' := [some (.ref m), some (.int (zi v)), some (.int (zi n)), some (.int (zi v)), some (.int (zi k))]) (S' := [.int (zi k)]) rfl ?_
        by_cases hc7 : (k : Int) < 0
        · refine gy_ifT (pc' := 42) rfl (by decide) (by decide) (by omega) hc7 ?_
          have hk8 : eeN (if v < 0 then v - 1 else v) n.toNat sg = eeK v n.toNat sg (n - 1 - k).toNat := by rw [(by omega : (n - 1 - k).toNat = n.toNat)]; exact (eeN_cg (q := 0) (by rw [if_neg (by omega)]; omega)).symm
          have hk8_1 : (eeN (if v < 0 then v - 1 else v) n.toNat sg).1 = (eeK v n.toNat sg (n - 1 - k).toNat).1 := by rw [hk8]
          have hk8_21 : (eeN (if v < 0 then v - 1 else v) n.toNat sg).2.1 = (eeK v n.toNat sg (n - 1 - k).toNat).2.1 := by rw [hk8]
          have hk8_221 : (eeN (if v < 0 then v - 1 else v) n.toNat sg).2.2.1 = (eeK v n.toNat sg (n - 1 - k).toNat).2.2.1 := by rw [hk8]
          have hso9 : gSO ty (eeN (if v < 0 then v - 1 else v) n.toNat sg) h6 := by rw [hk8]; exact lp2k4
          have hok10 : eeOk (eeN (if v < 0 then v - 1 else v) n.toNat sg) := by rw [hk8]; exact lp2k5
          have hok10c := hok10.cur
          exact gz_end (I := .return_) (len := 1) rfl (Or.inl rfl) ⟨sh6, wv, uv, bv, rfl, lp2k1, (by omega), (by omega), lp2k2, (by omega), (by omega), lp2k3, (by omega), (by omega), (by omega), (by omega), (by omega), (by omega), (by omega), hso9, hok10⟩
        · refine gy_ifF rfl (by decide) (by decide) (by omega) hc7 ?_
          refine gz_s 3 (pc' := 30) (L' := [some (.ref m), some (.int (zi v)), some (.int (zi n)), some (.int (zi v)), some (.int (zi k))]) (S' := [.int (zi k), .int (zi v), .ref m]) rfl ?_
          refine gy_shr rfl (by decide) (by omega) (by omega) ?_
          have hx11 := zsh_b (a := v) (n := k) (by omega)
          refine gy_s 2 (pc' := 33) (L' := [some (.ref m), some (.int (zi v)), some (.int (zi n)), some (.int (zi v)), some (.int (zi k))]) (S' := [.int ((zi (v / 2 ^ (k).toNat)) &&& (zi 1)), .ref m]) (L2 := [some (.ref m), some (.int (zi v)), some (.int (zi n)), some (.int (zi v)), some (.int (zi k))]) (S2 := [.int (zi ((v / 2 ^ (k).toNat) % 2)), .ref m]) rfl (by simp only [zi_add, zi_sub, zi_mul, zi_neg, zi_and1, zi_and7, zi_and15, zi_and31, zi_and255]) (by simp only [zi_add, zi_sub, zi_mul, zi_neg, zi_and1, zi_and7, zi_and15, zi_and31, zi_and255]) ?_
          refine gz_call rfl (by decide) rfl (by decide) (by decide) (gcal_of rfl rfl rfl (Nat.le_of_ble_eq_true rfl) (gJ.recv (G := gGG) sh6.1 tm rfl rfl)) (mw_putBit _ sh6.1 m tm ((v / 2 ^ (k).toNat) % 2) (by omega) wv lp2k1 (by omega) uv lp2k2 (by omega) bv lp2k3 (by omega) ic lp2k0 (by omega) (eeK v n.toNat sg (n - 1 - k).toNat) (by omega) (by omega) (by omega) (by omega) uq lp2k4 lp2k5) (fun q12 _ wq12 => ?_)
          obtain ⟨pq12, oq12, hq12⟩ := q12
          obtain ⟨xq12, fq12_0, fq12_1, fq12_2, gq12, efq12_0, afq12_0, bfq12_0, efq12_1, afq12_1, bfq12_1, efq12_2, afq12_2, bfq12_2, uq12_0, uq12_1, uq12_2, uq12_3, uq12_4, yq12_0, yq12_1⟩ := wq12
          refine ⟨_, gq12, ?_⟩
          show gz gPP gGG gcn _ _ 36 [some (.ref m), some (.int (zi v)), some (.int (zi n)), some (.int (zi v)), some (.int (zi k))] [] hq12 _
          have sq12 := gSs.tr sh6 xq12 (by decide)
          have s13 := (xq12.2.2.2.2.2 m 67 (by rw [tm]; decide)).trans lp2k0
          have hk14 : eeK v n.toNat sg (n - 1 - (k + (-1))).toNat = eeb (eeK v n.toNat sg (n - 1 - k).toNat) ((v / 2 ^ (k).toNat) % 2) := by rw [(by omega : (n - 1 - (k + (-1))).toNat = (n - 1 - k).toNat + 1)]; show eeb _ (v / 2 ^ (n.toNat - 1 - (n - 1 - k).toNat) % 2) = _; rw [(by omega : n.toNat - 1 - (n - 1 - k).toNat = (k).toNat)]
          have hk14_1 : (eeK v n.toNat sg (n - 1 - (k + (-1))).toNat).1 = (eeb (eeK v n.toNat sg (n - 1 - k).toNat) ((v / 2 ^ (k).toNat) % 2)).1 := by rw [hk14]
          have hk14_21 : (eeK v n.toNat sg (n - 1 - (k + (-1))).toNat).2.1 = (eeb (eeK v n.toNat sg (n - 1 - k).toNat) ((v / 2 ^ (k).toNat) % 2)).2.1 := by rw [hk14]
          have hk14_221 : (eeK v n.toNat sg (n - 1 - (k + (-1))).toNat).2.2.1 = (eeb (eeK v n.toNat sg (n - 1 - k).toNat) ((v / 2 ^ (k).toNat) % 2)).2.2.1 := by rw [hk14]
          have hso15 : gSO ty (eeK v n.toNat sg (n - 1 - (k + (-1))).toNat) hq12 := by rw [hk14]; exact yq12_0
          have hok16 : eeOk (eeK v n.toNat sg (n - 1 - (k + (-1))).toNat) := by rw [hk14]; exact yq12_1
          have hok16c := hok16.cur
          refine gy_s 2 (pc' := 21) (L' := [some (.ref m), some (.int (zi v)), some (.int (zi n)), some (.int (zi v)), some (.int ((zi k) + zi (-1)))]) (S' := []) (L2 := [some (.ref m), some (.int (zi v)), some (.int (zi n)), some (.int (zi v)), some (.int (zi (k + (-1))))]) (S2 := []) rfl (by simp only [zi_add, zi_sub, zi_mul, zi_neg, zi_and1, zi_and7, zi_and15, zi_and31, zi_and255]) (by simp only [zi_add, zi_sub, zi_mul, zi_neg, zi_and1, zi_and7, zi_and15, zi_and31, zi_and255]) ?_
          exact gz_wk (ihlp2 hq12 (k + (-1)) fq12_0 fq12_1 fq12_2 (by omega) sq12 (by omega) (by omega) (by omega) (by omega) (by omega) (by omega) (by omega) (by omega) (by omega) (by omega) (by omega) s13 efq12_0 efq12_1 efq12_2 hso15 hok16) (gLw.s (gLw.s (gLw.s (gLw.s (gLw.s gLw.z)))))
    exact gz_wk (lp2 _ h (n - 1) w0 u0 b0 (Nat.lt_succ_self _) hS (by omega) (by omega) (by omega) (by omega) (by omega) (by omega) (by omega) (by omega) (by omega) (by omega) (by omega) eic ew0 eu0 eb0 hso4 hok5) (gLw.s (gLw.s (gLw.s (gLw.s (gLw.s gLw.z)))))
  · refine gy_ifF rfl (by decide) (by decide) (by omega) hc1 ?_
    refine gz_s 3 (pc' := 7) (L' := [some (.ref m), some (.int (zi v)), some (.int (zi n)), none, none]) (S' := [.int (zi n), .int (zi 1), .int (zi v)]) rfl ?_
    refine gy_sh1x rfl (by decide) (by omega) (fun az17 bz17 => ?_)
    refine gy_s 5 (pc' := 16) (L' := [some (.ref m), some (.int (zi v)), some (.int (zi n)), some (.int (((zi v) + (zi (2 ^ (n).toNat))) - (zi 1))), none]) (S' := []) (L2 := [some (.ref m), some (.int (zi v)), some (.int (zi n)), some (.int (zi ((v + (2 ^ (n).toNat)) - 1))), none]) (S2 := []) rfl (by simp only [zi_add, zi_sub, zi_mul, zi_neg, zi_and1, zi_and7, zi_and15, zi_and31, zi_and255]) (by simp only [zi_add, zi_sub, zi_mul, zi_neg, zi_and1, zi_and7, zi_and15, zi_and31, zi_and255]) ?_
    refine gy_s 4 (pc' := 21) (L' := [some (.ref m), some (.int (zi v)), some (.int (zi n)), some (.int (zi ((v + (2 ^ (n).toNat)) - 1))), some (.int ((zi n) - (zi 1)))]) (S' := []) (L2 := [some (.ref m), some (.int (zi v)), some (.int (zi n)), some (.int (zi ((v + (2 ^ (n).toNat)) - 1))), some (.int (zi (n - 1)))]) (S2 := []) rfl (by simp only [zi_add, zi_sub, zi_mul, zi_neg, zi_and1, zi_and7, zi_and15, zi_and31, zi_and255]) (by simp only [zi_add, zi_sub, zi_mul, zi_neg, zi_and1, zi_and7, zi_and15, zi_and31, zi_and255]) ?_
    have hk19 : eeK ((v + (2 ^ (n).toNat)) - 1) n.toNat sg (n - 1 - (n - 1)).toNat = sg := by rw [(by omega : (n - 1 - (n - 1)).toNat = 0)]; rfl
    have hk19_1 : (eeK ((v + (2 ^ (n).toNat)) - 1) n.toNat sg (n - 1 - (n - 1)).toNat).1 = (sg).1 := by rw [hk19]
    have hk19_21 : (eeK ((v + (2 ^ (n).toNat)) - 1) n.toNat sg (n - 1 - (n - 1)).toNat).2.1 = (sg).2.1 := by rw [hk19]
    have hk19_221 : (eeK ((v + (2 ^ (n).toNat)) - 1) n.toNat sg (n - 1 - (n - 1)).toNat).2.2.1 = (sg).2.2.1 := by rw [hk19]
    have hso20 : gSO ty (eeK ((v + (2 ^ (n).toNat)) - 1) n.toNat sg (n - 1 - (n - 1)).toNat) h := by rw [hk19]; exact hyso
    have hok21 : eeOk (eeK ((v + (2 ^ (n).toNat)) - 1) n.toNat sg (n - 1 - (n - 1)).toNat) := by rw [hk19]; exact hyok
    have hok21c := hok21.cur
    have lp18 : ∀ (fu : Nat) (h22 : gH) (k : Int) (wv : Int) (uv : Int) (bv : Int), (k + 2).toNat < fu → gSs rT 1027 ty [1059, 1061, 1062, 32999] h h22 → ((-1) ≤ k ∧ k ≤ 12) → (0 ≤ wv ∧ wv ≤ 60000) → (0 ≤ uv ∧ uv ≤ 127) → (0 ≤ bv ∧ bv ≤ 7) → (k < n) → (-1 ≤ k) → (wv = (eeK ((v + (2 ^ (n).toNat)) - 1) n.toNat sg (n - 1 - k).toNat).1) → (uv = (eeK ((v + (2 ^ (n).toNat)) - 1) n.toNat sg (n - 1 - k).toNat).2.1) → (bv = (eeK ((v + (2 ^ (n).toNat)) - 1) n.toNat sg (n - 1 - k).toNat).2.2.1) → (4 * wv + bv + k + 1 ≤ 4 * w0 + b0 + n) → (w0 ≤ wv) → h22.2.2.2.2 m 67 = .int (zi ic) → h22.2.2.2.2 m 59 = .int (zi wv) → h22.2.2.2.2 m 61 = .int (zi uv) → h22.2.2.2.2 m 62 = .int (zi bv) → gSO ty (eeK ((v + (2 ^ (n).toNat)) - 1) n.toNat sg (n - 1 - k).toNat) h22 → eeOk (eeK ((v + (2 ^ (n).toNat)) - 1) n.toNat sg (n - 1 - k).toNat) → gz gPP gGG gcn (d + 2) gt196 21 [some (.ref m), some (.int (zi v)), some (.int (zi n)), some (.int (zi ((v + (2 ^ (n).toNat)) - 1))), some (.int (zi k))] [] h22 (fun q _ => gSs rT 1027 ty [1059, 1061, 1062, 32999] h q.2.2 ∧ ∃ w1 u1 b1 : Int, gfin gt196 q.1 q.2.1 = some none ∧ q.2.2.2.2.2.2 m 59 = .int (zi w1) ∧ 0 ≤ w1 ∧ w1 ≤ 60000 ∧ q.2.2.2.2.2.2 m 61 = .int (zi u1) ∧ 0 ≤ u1 ∧ u1 ≤ 127 ∧ q.2.2.2.2.2.2 m 62 = .int (zi b1) ∧ 0 ≤ b1 ∧ b1 ≤ 7 ∧ (w1 = (eeN (if v < 0 then v - 1 else v) n.toNat sg).1) ∧ (u1 = (eeN (if v < 0 then v - 1 else v) n.toNat sg).2.1) ∧ (b1 = (eeN (if v < 0 then v - 1 else v) n.toNat sg).2.2.1) ∧ (4 * w1 + b1 ≤ 4 * w0 + b0 + n) ∧ (w0 ≤ w1) ∧ (gSO ty (eeN (if v < 0 then v - 1 else v) n.toNat sg) q.2.2) ∧ (eeOk (eeN (if v < 0 then v - 1 else v) n.toNat sg))) := by
      intro fu
      induction fu with
      | zero => intro h22 k wv uv bv hm; exact absurd hm (Nat.not_lt_zero _)
      | succ fu ihlp18 =>
        intro h22 k wv uv bv lp18m sh22 lp18f0 lp18f1 lp18f2 lp18f3 lp18f4 lp18f5 lp18f6 lp18f7 lp18f8 lp18f9 lp18f10 lp18k0 lp18k1 lp18k2 lp18k3 lp18k4 lp18k5
        refine gz_s 1 (pc' := 23) (L' := [some (.ref m), some (.int (zi v)), some (.int (zi n)), some (.int (zi ((v + (2 ^ (n).toNat)) - 1))), some (.int (zi k))]) (S' := [.int (zi k)]) rfl ?_
        by_cases hc23 : (k : Int) < 0
        · refine gy_ifT (pc' := 42) rfl (by decide) (by decide) (by omega) hc23 ?_
          have hk24 : eeN (if v < 0 then v - 1 else v) n.toNat sg = eeK ((v + (2 ^ (n).toNat)) - 1) n.toNat sg (n - 1 - k).toNat := by rw [(by omega : (n - 1 - k).toNat = n.toNat)]; exact (eeN_cg (q := 1) (by rw [if_pos (by omega)]; omega)).symm
          have hk24_1 : (eeN (if v < 0 then v - 1 else v) n.toNat sg).1 = (eeK ((v + (2 ^ (n).toNat)) - 1) n.toNat sg (n - 1 - k).toNat).1 := by rw [hk24]
          have hk24_21 : (eeN (if v < 0 then v - 1 else v) n.toNat sg).2.1 = (eeK ((v + (2 ^ (n).toNat)) - 1) n.toNat sg (n - 1 - k).toNat).2.1 := by rw [hk24]
          have hk24_221 : (eeN (if v < 0 then v - 1 else v) n.toNat sg).2.2.1 = (eeK ((v + (2 ^ (n).toNat)) - 1) n.toNat sg (n - 1 - k).toNat).2.2.1 := by rw [hk24]
          have hso25 : gSO ty (eeN (if v < 0 then v - 1 else v) n.toNat sg) h22 := by rw [hk24]; exact lp18k4
          have hok26 : eeOk (eeN (if v < 0 then v - 1 else v) n.toNat sg) := by rw [hk24]; exact lp18k5
          have hok26c := hok26.cur
          exact gz_end (I := .return_) (len := 1) rfl (Or.inl rfl) ⟨sh22, wv, uv, bv, rfl, lp18k1, (by omega), (by omega), lp18k2, (by omega), (by omega), lp18k3, (by omega), (by omega), (by omega), (by omega), (by omega), (by omega), (by omega), hso25, hok26⟩
        · refine gy_ifF rfl (by decide) (by decide) (by omega) hc23 ?_
          refine gz_s 3 (pc' := 30) (L' := [some (.ref m), some (.int (zi v)), some (.int (zi n)), some (.int (zi ((v + (2 ^ (n).toNat)) - 1))), some (.int (zi k))]) (S' := [.int (zi k), .int (zi ((v + (2 ^ (n).toNat)) - 1)), .ref m]) rfl ?_
          refine gy_shr rfl (by decide) (by omega) (by omega) ?_
          have hx27 := zsh_c (a := (v + (2 ^ (n).toNat)) - 1) (n := k)
          refine gy_s 2 (pc' := 33) (L' := [some (.ref m), some (.int (zi v)), some (.int (zi n)), some (.int (zi ((v + (2 ^ (n).toNat)) - 1))), some (.int (zi k))]) (S' := [.int ((zi (((v + (2 ^ (n).toNat)) - 1) / 2 ^ (k).toNat)) &&& (zi 1)), .ref m]) (L2 := [some (.ref m), some (.int (zi v)), some (.int (zi n)), some (.int (zi ((v + (2 ^ (n).toNat)) - 1))), some (.int (zi k))]) (S2 := [.int (zi ((((v + (2 ^ (n).toNat)) - 1) / 2 ^ (k).toNat) % 2)), .ref m]) rfl (by simp only [zi_add, zi_sub, zi_mul, zi_neg, zi_and1, zi_and7, zi_and15, zi_and31, zi_and255]) (by simp only [zi_add, zi_sub, zi_mul, zi_neg, zi_and1, zi_and7, zi_and15, zi_and31, zi_and255]) ?_
          refine gz_call rfl (by decide) rfl (by decide) (by decide) (gcal_of rfl rfl rfl (Nat.le_of_ble_eq_true rfl) (gJ.recv (G := gGG) sh22.1 tm rfl rfl)) (mw_putBit _ sh22.1 m tm ((((v + (2 ^ (n).toNat)) - 1) / 2 ^ (k).toNat) % 2) (by omega) wv lp18k1 (by omega) uv lp18k2 (by omega) bv lp18k3 (by omega) ic lp18k0 (by omega) (eeK ((v + (2 ^ (n).toNat)) - 1) n.toNat sg (n - 1 - k).toNat) (by omega) (by omega) (by omega) (by omega) uq lp18k4 lp18k5) (fun q28 _ wq28 => ?_)
          obtain ⟨pq28, oq28, hq28⟩ := q28
          obtain ⟨xq28, fq28_0, fq28_1, fq28_2, gq28, efq28_0, afq28_0, bfq28_0, efq28_1, afq28_1, bfq28_1, efq28_2, afq28_2, bfq28_2, uq28_0, uq28_1, uq28_2, uq28_3, uq28_4, yq28_0, yq28_1⟩ := wq28
          refine ⟨_, gq28, ?_⟩
          show gz gPP gGG gcn _ _ 36 [some (.ref m), some (.int (zi v)), some (.int (zi n)), some (.int (zi ((v + (2 ^ (n).toNat)) - 1))), some (.int (zi k))] [] hq28 _
          have sq28 := gSs.tr sh22 xq28 (by decide)
          have s29 := (xq28.2.2.2.2.2 m 67 (by rw [tm]; decide)).trans lp18k0
          have hk30 : eeK ((v + (2 ^ (n).toNat)) - 1) n.toNat sg (n - 1 - (k + (-1))).toNat = eeb (eeK ((v + (2 ^ (n).toNat)) - 1) n.toNat sg (n - 1 - k).toNat) ((((v + (2 ^ (n).toNat)) - 1) / 2 ^ (k).toNat) % 2) := by rw [(by omega : (n - 1 - (k + (-1))).toNat = (n - 1 - k).toNat + 1)]; show eeb _ (((v + (2 ^ (n).toNat)) - 1) / 2 ^ (n.toNat - 1 - (n - 1 - k).toNat) % 2) = _; rw [(by omega : n.toNat - 1 - (n - 1 - k).toNat = (k).toNat)]
          have hk30_1 : (eeK ((v + (2 ^ (n).toNat)) - 1) n.toNat sg (n - 1 - (k + (-1))).toNat).1 = (eeb (eeK ((v + (2 ^ (n).toNat)) - 1) n.toNat sg (n - 1 - k).toNat) ((((v + (2 ^ (n).toNat)) - 1) / 2 ^ (k).toNat) % 2)).1 := by rw [hk30]
          have hk30_21 : (eeK ((v + (2 ^ (n).toNat)) - 1) n.toNat sg (n - 1 - (k + (-1))).toNat).2.1 = (eeb (eeK ((v + (2 ^ (n).toNat)) - 1) n.toNat sg (n - 1 - k).toNat) ((((v + (2 ^ (n).toNat)) - 1) / 2 ^ (k).toNat) % 2)).2.1 := by rw [hk30]
          have hk30_221 : (eeK ((v + (2 ^ (n).toNat)) - 1) n.toNat sg (n - 1 - (k + (-1))).toNat).2.2.1 = (eeb (eeK ((v + (2 ^ (n).toNat)) - 1) n.toNat sg (n - 1 - k).toNat) ((((v + (2 ^ (n).toNat)) - 1) / 2 ^ (k).toNat) % 2)).2.2.1 := by rw [hk30]
          have hso31 : gSO ty (eeK ((v + (2 ^ (n).toNat)) - 1) n.toNat sg (n - 1 - (k + (-1))).toNat) hq28 := by rw [hk30]; exact yq28_0
          have hok32 : eeOk (eeK ((v + (2 ^ (n).toNat)) - 1) n.toNat sg (n - 1 - (k + (-1))).toNat) := by rw [hk30]; exact yq28_1
          have hok32c := hok32.cur
          refine gy_s 2 (pc' := 21) (L' := [some (.ref m), some (.int (zi v)), some (.int (zi n)), some (.int (zi ((v + (2 ^ (n).toNat)) - 1))), some (.int ((zi k) + zi (-1)))]) (S' := []) (L2 := [some (.ref m), some (.int (zi v)), some (.int (zi n)), some (.int (zi ((v + (2 ^ (n).toNat)) - 1))), some (.int (zi (k + (-1))))]) (S2 := []) rfl (by simp only [zi_add, zi_sub, zi_mul, zi_neg, zi_and1, zi_and7, zi_and15, zi_and31, zi_and255]) (by simp only [zi_add, zi_sub, zi_mul, zi_neg, zi_and1, zi_and7, zi_and15, zi_and31, zi_and255]) ?_
          exact gz_wk (ihlp18 hq28 (k + (-1)) fq28_0 fq28_1 fq28_2 (by omega) sq28 (by omega) (by omega) (by omega) (by omega) (by omega) (by omega) (by omega) (by omega) (by omega) (by omega) (by omega) s29 efq28_0 efq28_1 efq28_2 hso31 hok32) (gLw.s (gLw.s (gLw.s (gLw.s (gLw.s gLw.z)))))
    exact gz_wk (lp18 _ h (n - 1) w0 u0 b0 (Nat.lt_succ_self _) hS (by omega) (by omega) (by omega) (by omega) (by omega) (by omega) (by omega) (by omega) (by omega) (by omega) (by omega) eic ew0 eu0 eb0 hso20 hok21) (gLw.s (gLw.s (gLw.s (gLw.s (gLw.s gLw.z)))))
set_option maxRecDepth 20000 in
set_option maxHeartbeats 4000000 in
theorem mn_putNumber (d : Nat) {ty : Nat → Nat} {h : gH} (hJ : gJ rT 1027 ty h) (m : Nat) (tm : ty m = 1) (v : Int) (rv : (-8191) ≤ v ∧ v ≤ 8191) (n : Int) (rn : 0 ≤ n ∧ n ≤ 13) (ic : Int) (eic : h.2.2.2.2 m 67 = .int (zi ic)) (ric : 0 ≤ ic ∧ ic ≤ 0) (uq : gUq ty) : gz gPP gGG gcn (d + 1) gt196 0 (gent [.ref m, .int (zi v), .int (zi n)] 5) [] h (fun q _ => gSs rT 1027 ty [] h q.2.2 ∧ gfin gt196 q.1 q.2.1 = some none) := by
  have hS : gSs rT 1027 ty [] h h := gSs.rf hJ
  refine gz_s 1 (pc' := 1) (L' := [some (.ref m), some (.int (zi v)), some (.int (zi n)), none, none]) (S' := [.int (zi v)]) rfl ?_
  by_cases hc1 : (0 : Int) ≤ v
  · refine gy_ifT (pc' := 14) rfl (by decide) (by decide) (by omega) hc1 ?_
    refine gy_s 6 (pc' := 21) (L' := [some (.ref m), some (.int (zi v)), some (.int (zi n)), some (.int (zi v)), some (.int ((zi n) - (zi 1)))]) (S' := []) (L2 := [some (.ref m), some (.int (zi v)), some (.int (zi n)), some (.int (zi v)), some (.int (zi (n - 1)))]) (S2 := []) rfl (by simp only [zi_add, zi_sub, zi_mul, zi_neg, zi_and1, zi_and7, zi_and15, zi_and31, zi_and255]) (by simp only [zi_add, zi_sub, zi_mul, zi_neg, zi_and1, zi_and7, zi_and15, zi_and31, zi_and255]) ?_
    have lp2 : ∀ (fu : Nat) (h3 : gH) (k : Int), (k + 2).toNat < fu → gSs rT 1027 ty [] h h3 → ((-1) ≤ k ∧ k ≤ 12) → (k < n) → h3.2.2.2.2 m 67 = .int (zi ic) → gz gPP gGG gcn (d + 1) gt196 21 [some (.ref m), some (.int (zi v)), some (.int (zi n)), some (.int (zi v)), some (.int (zi k))] [] h3 (fun q _ => gSs rT 1027 ty [] h q.2.2 ∧ gfin gt196 q.1 q.2.1 = some none) := by
      intro fu
      induction fu with
      | zero => intro h3 k hm; exact absurd hm (Nat.not_lt_zero _)
      | succ fu ihlp2 =>
        intro h3 k lp2m sh3 lp2f0 lp2f1 lp2k0
        refine gz_s 1 (pc' := 23) (L' := [some (.ref m), some (.int (zi v)), some (.int (zi n)), some (.int (zi v)), some (.int (zi k))]) (S' := [.int (zi k)]) rfl ?_
        by_cases hc4 : (k : Int) < 0
        · refine gy_ifT (pc' := 42) rfl (by decide) (by decide) (by omega) hc4 ?_
          exact gz_end (I := .return_) (len := 1) rfl (Or.inl rfl) ⟨sh3, rfl⟩
        · refine gy_ifF rfl (by decide) (by decide) (by omega) hc4 ?_
          refine gz_s 3 (pc' := 30) (L' := [some (.ref m), some (.int (zi v)), some (.int (zi n)), some (.int (zi v)), some (.int (zi k))]) (S' := [.int (zi k), .int (zi v), .ref m]) rfl ?_
          refine gy_shr rfl (by decide) (by omega) (by omega) ?_
          have hx5 := zsh_b (a := v) (n := k) (by omega)
          refine gy_s 2 (pc' := 33) (L' := [some (.ref m), some (.int (zi v)), some (.int (zi n)), some (.int (zi v)), some (.int (zi k))]) (S' := [.int ((zi (v / 2 ^ (k).toNat)) &&& (zi 1)), .ref m]) (L2 := [some (.ref m), some (.int (zi v)), some (.int (zi n)), some (.int (zi v)), some (.int (zi k))]) (S2 := [.int (zi ((v / 2 ^ (k).toNat) % 2)), .ref m]) rfl (by simp only [zi_add, zi_sub, zi_mul, zi_neg, zi_and1, zi_and7, zi_and15, zi_and31, zi_and255]) (by simp only [zi_add, zi_sub, zi_mul, zi_neg, zi_and1, zi_and7, zi_and15, zi_and31, zi_and255]) ?_
          refine gz_call rfl (by decide) rfl (by decide) (by decide) (gcal_of rfl rfl rfl (Nat.le_of_ble_eq_true rfl) (gJ.recv (G := gGG) sh3.1 tm rfl rfl)) (mn_putBit _ sh3.1 m tm ((v / 2 ^ (k).toNat) % 2) (by omega) ic lp2k0 (by omega) uq) (fun q6 _ wq6 => ?_)
          obtain ⟨pq6, oq6, hq6⟩ := q6
          obtain ⟨xq6, gq6⟩ := wq6
          refine ⟨_, gq6, ?_⟩
          show gz gPP gGG gcn _ _ 36 [some (.ref m), some (.int (zi v)), some (.int (zi n)), some (.int (zi v)), some (.int (zi k))] [] hq6 _
          have sq6 := gSs.tr sh3 xq6 (by decide)
          have s7 := (xq6.2.2.2.2.2 m 67 (by rw [tm]; decide)).trans lp2k0
          refine gy_s 2 (pc' := 21) (L' := [some (.ref m), some (.int (zi v)), some (.int (zi n)), some (.int (zi v)), some (.int ((zi k) + zi (-1)))]) (S' := []) (L2 := [some (.ref m), some (.int (zi v)), some (.int (zi n)), some (.int (zi v)), some (.int (zi (k + (-1))))]) (S2 := []) rfl (by simp only [zi_add, zi_sub, zi_mul, zi_neg, zi_and1, zi_and7, zi_and15, zi_and31, zi_and255]) (by simp only [zi_add, zi_sub, zi_mul, zi_neg, zi_and1, zi_and7, zi_and15, zi_and31, zi_and255]) ?_
          exact gz_wk (ihlp2 hq6 (k + (-1)) (by omega) sq6 (by omega) (by omega) s7) (gLw.s (gLw.s (gLw.s (gLw.s (gLw.s gLw.z)))))
    exact gz_wk (lp2 _ h (n - 1) (Nat.lt_succ_self _) hS (by omega) (by omega) eic) (gLw.s (gLw.s (gLw.s (gLw.s (gLw.s gLw.z)))))
  · refine gy_ifF rfl (by decide) (by decide) (by omega) hc1 ?_
    refine gz_s 3 (pc' := 7) (L' := [some (.ref m), some (.int (zi v)), some (.int (zi n)), none, none]) (S' := [.int (zi n), .int (zi 1), .int (zi v)]) rfl ?_
    refine gy_sh1x rfl (by decide) (by omega) (fun az8 bz8 => ?_)
    refine gy_s 9 (pc' := 21) (L' := [some (.ref m), some (.int (zi v)), some (.int (zi n)), some (.int (((zi v) + (zi (2 ^ (n).toNat))) - (zi 1))), some (.int ((zi n) - (zi 1)))]) (S' := []) (L2 := [some (.ref m), some (.int (zi v)), some (.int (zi n)), some (.int (zi ((v + (2 ^ (n).toNat)) - 1))), some (.int (zi (n - 1)))]) (S2 := []) rfl (by simp only [zi_add, zi_sub, zi_mul, zi_neg, zi_and1, zi_and7, zi_and15, zi_and31, zi_and255]) (by simp only [zi_add, zi_sub, zi_mul, zi_neg, zi_and1, zi_and7, zi_and15, zi_and31, zi_and255]) ?_
    have lp9 : ∀ (fu : Nat) (h10 : gH) (k : Int), (k + 2).toNat < fu → gSs rT 1027 ty [] h h10 → ((-1) ≤ k ∧ k ≤ 12) → (k < n) → h10.2.2.2.2 m 67 = .int (zi ic) → gz gPP gGG gcn (d + 1) gt196 21 [some (.ref m), some (.int (zi v)), some (.int (zi n)), some (.int (zi ((v + (2 ^ (n).toNat)) - 1))), some (.int (zi k))] [] h10 (fun q _ => gSs rT 1027 ty [] h q.2.2 ∧ gfin gt196 q.1 q.2.1 = some none) := by
      intro fu
      induction fu with
      | zero => intro h10 k hm; exact absurd hm (Nat.not_lt_zero _)
      | succ fu ihlp9 =>
        intro h10 k lp9m sh10 lp9f0 lp9f1 lp9k0
        refine gz_s 1 (pc' := 23) (L' := [some (.ref m), some (.int (zi v)), some (.int (zi n)), some (.int (zi ((v + (2 ^ (n).toNat)) - 1))), some (.int (zi k))]) (S' := [.int (zi k)]) rfl ?_
        by_cases hc11 : (k : Int) < 0
        · refine gy_ifT (pc' := 42) rfl (by decide) (by decide) (by omega) hc11 ?_
          exact gz_end (I := .return_) (len := 1) rfl (Or.inl rfl) ⟨sh10, rfl⟩
        · refine gy_ifF rfl (by decide) (by decide) (by omega) hc11 ?_
          refine gz_s 3 (pc' := 30) (L' := [some (.ref m), some (.int (zi v)), some (.int (zi n)), some (.int (zi ((v + (2 ^ (n).toNat)) - 1))), some (.int (zi k))]) (S' := [.int (zi k), .int (zi ((v + (2 ^ (n).toNat)) - 1)), .ref m]) rfl ?_
          refine gy_shr rfl (by decide) (by omega) (by omega) ?_
          have hx12 := zsh_c (a := (v + (2 ^ (n).toNat)) - 1) (n := k)
          refine gy_s 2 (pc' := 33) (L' := [some (.ref m), some (.int (zi v)), some (.int (zi n)), some (.int (zi ((v + (2 ^ (n).toNat)) - 1))), some (.int (zi k))]) (S' := [.int ((zi (((v + (2 ^ (n).toNat)) - 1) / 2 ^ (k).toNat)) &&& (zi 1)), .ref m]) (L2 := [some (.ref m), some (.int (zi v)), some (.int (zi n)), some (.int (zi ((v + (2 ^ (n).toNat)) - 1))), some (.int (zi k))]) (S2 := [.int (zi ((((v + (2 ^ (n).toNat)) - 1) / 2 ^ (k).toNat) % 2)), .ref m]) rfl (by simp only [zi_add, zi_sub, zi_mul, zi_neg, zi_and1, zi_and7, zi_and15, zi_and31, zi_and255]) (by simp only [zi_add, zi_sub, zi_mul, zi_neg, zi_and1, zi_and7, zi_and15, zi_and31, zi_and255]) ?_
          refine gz_call rfl (by decide) rfl (by decide) (by decide) (gcal_of rfl rfl rfl (Nat.le_of_ble_eq_true rfl) (gJ.recv (G := gGG) sh10.1 tm rfl rfl)) (mn_putBit _ sh10.1 m tm ((((v + (2 ^ (n).toNat)) - 1) / 2 ^ (k).toNat) % 2) (by omega) ic lp9k0 (by omega) uq) (fun q13 _ wq13 => ?_)
          obtain ⟨pq13, oq13, hq13⟩ := q13
          obtain ⟨xq13, gq13⟩ := wq13
          refine ⟨_, gq13, ?_⟩
          show gz gPP gGG gcn _ _ 36 [some (.ref m), some (.int (zi v)), some (.int (zi n)), some (.int (zi ((v + (2 ^ (n).toNat)) - 1))), some (.int (zi k))] [] hq13 _
          have sq13 := gSs.tr sh10 xq13 (by decide)
          have s14 := (xq13.2.2.2.2.2 m 67 (by rw [tm]; decide)).trans lp9k0
          refine gy_s 2 (pc' := 21) (L' := [some (.ref m), some (.int (zi v)), some (.int (zi n)), some (.int (zi ((v + (2 ^ (n).toNat)) - 1))), some (.int ((zi k) + zi (-1)))]) (S' := []) (L2 := [some (.ref m), some (.int (zi v)), some (.int (zi n)), some (.int (zi ((v + (2 ^ (n).toNat)) - 1))), some (.int (zi (k + (-1))))]) (S2 := []) rfl (by simp only [zi_add, zi_sub, zi_mul, zi_neg, zi_and1, zi_and7, zi_and15, zi_and31, zi_and255]) (by simp only [zi_add, zi_sub, zi_mul, zi_neg, zi_and1, zi_and7, zi_and15, zi_and31, zi_and255]) ?_
          exact gz_wk (ihlp9 hq13 (k + (-1)) (by omega) sq13 (by omega) (by omega) s14) (gLw.s (gLw.s (gLw.s (gLw.s (gLw.s gLw.z)))))
    exact gz_wk (lp9 _ h (n - 1) (Nat.lt_succ_self _) hS (by omega) (by omega) eic) (gLw.s (gLw.s (gLw.s (gLw.s (gLw.s gLw.z)))))
set_option maxRecDepth 20000 in
set_option maxHeartbeats 4000000 in
theorem mw_fillByte (d : Nat) {ty : Nat → Nat} {h : gH} (hJ : gJ rT 1027 ty h) (m : Nat) (tm : ty m = 1) (w0 : Int) (ew0 : h.2.2.2.2 m 59 = .int (zi w0)) (rw0 : 0 ≤ w0 ∧ w0 ≤ 60000) (u0 : Int) (eu0 : h.2.2.2.2 m 61 = .int (zi u0)) (ru0 : 0 ≤ u0 ∧ u0 ≤ 127) (b0 : Int) (eb0 : h.2.2.2.2 m 62 = .int (zi b0)) (rb0 : 0 ≤ b0 ∧ b0 ≤ 7) (ic : Int) (eic : h.2.2.2.2 m 67 = .int (zi ic)) (ric : 1 ≤ ic ∧ ic ≤ 1) (sg : gWt) (pp0 : w0 = sg.1) (pp1 : u0 = sg.2.1) (pp2 : b0 = sg.2.2.1) (pp3 : 4 * w0 + b0 + 8 ≤ 239900) (uq : gUq ty) (hyso : gSO ty sg h) (hyok : eeOk sg) : gz gPP gGG gcn (d + 2) gt191 0 (gent [.ref m] 1) [] h (fun q _ => gSs rT 1027 ty [1059, 1061, 1062, 32999] h q.2.2 ∧ ∃ w1 u1 b1 : Int, gfin gt191 q.1 q.2.1 = some none ∧ q.2.2.2.2.2.2 m 59 = .int (zi w1) ∧ 0 ≤ w1 ∧ w1 ≤ 60000 ∧ q.2.2.2.2.2.2 m 61 = .int (zi u1) ∧ 0 ≤ u1 ∧ u1 ≤ 127 ∧ q.2.2.2.2.2.2 m 62 = .int (zi b1) ∧ 0 ≤ b1 ∧ b1 ≤ 7 ∧ (w1 = (eeF sg).1) ∧ (u1 = (eeF sg).2.1) ∧ (b1 = (eeF sg).2.2.1) ∧ (4 * w1 + b1 ≤ 4 * w0 + b0 + 8) ∧ (w0 ≤ w1) ∧ (b1 = 0) ∧ (gSO ty (eeF sg) q.2.2) ∧ (eeOk (eeF sg))) := by
  have hS : gSs rT 1027 ty [1059, 1061, 1062, 32999] h h := gSs.rf hJ
  have hk2 : eFx sg b0 = sg := by rw [show b0 = sg.2.2.1 by omega]; exact eFx_0 hyok
  have hk2_1 : (eFx sg b0).1 = (sg).1 := by rw [hk2]
  have hk2_21 : (eFx sg b0).2.1 = (sg).2.1 := by rw [hk2]
  have hk2_221 : (eFx sg b0).2.2.1 = (sg).2.2.1 := by rw [hk2]
  have hso3 : gSO ty (eFx sg b0) h := by rw [hk2]; exact hyso
  have hok4 : eeOk (eFx sg b0) := by rw [hk2]; exact hyok
  have hok4c := hok4.cur
  have lp1 : ∀ (fu : Nat) (h5 : gH) (wv : Int) (uv : Int) (bv : Int), ((9 - bv) % 9).toNat < fu → gSs rT 1027 ty [1059, 1061, 1062, 32999] h h5 → (0 ≤ wv ∧ wv ≤ 60000) → (0 ≤ uv ∧ uv ≤ 127) → (0 ≤ bv ∧ bv ≤ 7) → ((wv ≤ w0 ∧ b0 ≤ bv) ∨ (bv = 0 ∧ wv ≤ w0 + 2)) → (bv = 0 ∨ b0 ≤ bv) → (0 < b0 ∨ bv = 0) → (wv = (eFx sg bv).1) → (uv = (eFx sg bv).2.1) → (bv = (eFx sg bv).2.2.1) → (4 * wv + bv ≤ 4 * w0 + b0 + 8) → (w0 ≤ wv) → h5.2.2.2.2 m 67 = .int (zi ic) → h5.2.2.2.2 m 59 = .int (zi wv) → h5.2.2.2.2 m 61 = .int (zi uv) → h5.2.2.2.2 m 62 = .int (zi bv) → gSO ty (eFx sg bv) h5 → eeOk (eFx sg bv) → gz gPP gGG gcn (d + 2) gt191 0 [some (.ref m)] [] h5 (fun q _ => gSs rT 1027 ty [1059, 1061, 1062, 32999] h q.2.2 ∧ ∃ w1 u1 b1 : Int, gfin gt191 q.1 q.2.1 = some none ∧ q.2.2.2.2.2.2 m 59 = .int (zi w1) ∧ 0 ≤ w1 ∧ w1 ≤ 60000 ∧ q.2.2.2.2.2.2 m 61 = .int (zi u1) ∧ 0 ≤ u1 ∧ u1 ≤ 127 ∧ q.2.2.2.2.2.2 m 62 = .int (zi b1) ∧ 0 ≤ b1 ∧ b1 ≤ 7 ∧ (w1 = (eeF sg).1) ∧ (u1 = (eeF sg).2.1) ∧ (b1 = (eeF sg).2.2.1) ∧ (4 * w1 + b1 ≤ 4 * w0 + b0 + 8) ∧ (w0 ≤ w1) ∧ (b1 = 0) ∧ (gSO ty (eeF sg) q.2.2) ∧ (eeOk (eeF sg))) := by
    intro fu
    induction fu with
    | zero => intro h5 wv uv bv hm; exact absurd hm (Nat.not_lt_zero _)
    | succ fu ihlp1 =>
      intro h5 wv uv bv lp1m sh5 lp1f0 lp1f1 lp1f2 lp1f3 lp1f4 lp1f5 lp1f6 lp1f7 lp1f8 lp1f9 lp1f10 lp1k0 lp1k1 lp1k2 lp1k3 lp1k4 lp1k5
      refine gz_s 1 (pc' := 1) (L' := [some (.ref m)]) (S' := [.ref m]) rfl ?_
      refine gs_gtk rfl (by decide) rfl sh5.1 tm rfl rfl lp1k3 ?_
      by_cases hc6 : (bv : Int) ≤ 0
      · refine gy_ifT (pc' := 15) rfl (by decide) (by decide) (by omega) hc6 ?_
        have hk7 : eeF sg = eFx sg bv := (if_neg (by omega)).symm
        have hk7_1 : (eeF sg).1 = (eFx sg bv).1 := by rw [hk7]
        have hk7_21 : (eeF sg).2.1 = (eFx sg bv).2.1 := by rw [hk7]
        have hk7_221 : (eeF sg).2.2.1 = (eFx sg bv).2.2.1 := by rw [hk7]
        have hso8 : gSO ty (eeF sg) h5 := by rw [hk7]; exact lp1k4
        have hok9 : eeOk (eeF sg) := by rw [hk7]; exact lp1k5
        have hok9c := hok9.cur
        exact gz_end (I := .return_) (len := 1) rfl (Or.inl rfl) ⟨sh5, wv, uv, bv, rfl, lp1k1, (by omega), (by omega), lp1k2, (by omega), (by omega), lp1k3, (by omega), (by omega), (by omega), (by omega), (by omega), (by omega), (by omega), (by omega), hso8, hok9⟩
      · refine gy_ifF rfl (by decide) (by decide) (by omega) hc6 ?_
        refine gz_s 2 (pc' := 9) (L' := [some (.ref m)]) (S' := [.int (zi 1), .ref m]) rfl ?_
        refine gz_call rfl (by decide) rfl (by decide) (by decide) (gcal_of rfl rfl rfl (Nat.le_of_ble_eq_true rfl) (gJ.recv (G := gGG) sh5.1 tm rfl rfl)) (mw_putBit _ sh5.1 m tm 1 (by omega) wv lp1k1 (by omega) uv lp1k2 (by omega) bv lp1k3 (by omega) ic lp1k0 (by omega) (eFx sg bv) (by omega) (by omega) (by omega) (by omega) uq lp1k4 lp1k5) (fun q10 _ wq10 => ?_)
        obtain ⟨pq10, oq10, hq10⟩ := q10
        obtain ⟨xq10, fq10_0, fq10_1, fq10_2, gq10, efq10_0, afq10_0, bfq10_0, efq10_1, afq10_1, bfq10_1, efq10_2, afq10_2, bfq10_2, uq10_0, uq10_1, uq10_2, uq10_3, uq10_4, yq10_0, yq10_1⟩ := wq10
        refine ⟨_, gq10, ?_⟩
        show gz gPP gGG gcn _ _ 12 [some (.ref m)] [] hq10 _
        have sq10 := gSs.tr sh5 xq10 (by decide)
        have s11 := (xq10.2.2.2.2.2 m 67 (by rw [tm]; decide)).trans lp1k0
        have hk12 : eFx sg (if bv + 1 = 8 then 0 else bv + 1) = eeb (eFx sg bv) 1 := eFx_s hyok (by omega) (by omega) (by omega)
        have hk12_1 : (eFx sg (if bv + 1 = 8 then 0 else bv + 1)).1 = (eeb (eFx sg bv) 1).1 := by rw [hk12]
        have hk12_21 : (eFx sg (if bv + 1 = 8 then 0 else bv + 1)).2.1 = (eeb (eFx sg bv) 1).2.1 := by rw [hk12]
        have hk12_221 : (eFx sg (if bv + 1 = 8 then 0 else bv + 1)).2.2.1 = (eeb (eFx sg bv) 1).2.2.1 := by rw [hk12]
        have hso13 : gSO ty (eFx sg (if bv + 1 = 8 then 0 else bv + 1)) hq10 := by rw [hk12]; exact yq10_0
        have hok14 : eeOk (eFx sg (if bv + 1 = 8 then 0 else bv + 1)) := by rw [hk12]; exact yq10_1
        have hok14c := hok14.cur
        have hbv9 : fq10_2 = if bv + 1 = 8 then 0 else bv + 1 := by have h8 := eeb_h (s := eFx sg bv) (b := 1); omega
        have hk15 : eFx sg fq10_2 = eFx sg (if bv + 1 = 8 then 0 else bv + 1) := by rw [hbv9]
        have hk15_1 : (eFx sg fq10_2).1 = (eFx sg (if bv + 1 = 8 then 0 else bv + 1)).1 := by rw [hk15]
        have hk15_21 : (eFx sg fq10_2).2.1 = (eFx sg (if bv + 1 = 8 then 0 else bv + 1)).2.1 := by rw [hk15]
        have hk15_221 : (eFx sg fq10_2).2.2.1 = (eFx sg (if bv + 1 = 8 then 0 else bv + 1)).2.2.1 := by rw [hk15]
        have hso16 : gSO ty (eFx sg fq10_2) hq10 := by rw [hk15]; exact hso13
        have hok17 : eeOk (eFx sg fq10_2) := by rw [hk15]; exact hok14
        have hok17c := hok17.cur
        refine gz_s 1 (pc' := 0) (L' := [some (.ref m)]) (S' := []) rfl ?_
        exact gz_wk (ihlp1 hq10 fq10_0 fq10_1 fq10_2 (by omega) sq10 (by omega) (by omega) (by omega) (by omega) (by omega) (by omega) (by omega) (by omega) (by omega) (by omega) (by omega) s11 efq10_0 efq10_1 efq10_2 hso16 hok17) (gLw.s gLw.z)
  exact gz_wk (lp1 _ h w0 u0 b0 (Nat.lt_succ_self _) hS (by omega) (by omega) (by omega) (by omega) (by omega) (by omega) (by omega) (by omega) (by omega) (by omega) (by omega) eic ew0 eu0 eb0 hso3 hok4) (gLw.s gLw.z)
set_option maxRecDepth 20000 in
set_option maxHeartbeats 4000000 in
theorem mn_putSymbol0 (d : Nat) {ty : Nat → Nat} {h : gH} (hJ : gJ rT 1027 ty h) (m : Nat) (tm : ty m = 1) (wh : Int) (rwh : 0 ≤ wh ∧ wh ≤ 0) (s : Int) (rs : 0 ≤ s ∧ s ≤ 255) (ic : Int) (eic : h.2.2.2.2 m 67 = .int (zi ic)) (ric : 0 ≤ ic ∧ ic ≤ 0) (w0 w1 : Nat → Int) (uq : gUq ty) (hyf36 : gRn 514 ty 36 (eeJ w0 w1) h) (hywb : ewB w0 4000) : gz gPP gGG gcn (d + 0) gt195 0 (gent [.ref m, .int (zi wh), .int (zi s)] 5) [] h (fun q _ => gSs rT 1027 ty [36999] h q.2.2 ∧ gfin gt195 q.1 q.2.1 = some none ∧ (gRn 514 ty 36 (eeJ (ecS s w0) w1) q.2.2)) := by
  have hS : gSs rT 1027 ty [36999] h h := gSs.rf hJ
  refine gz_s 1 (pc' := 1) (L' := [some (.ref m), some (.int (zi wh)), some (.int (zi s)), none, none]) (S' := [.ref m]) rfl ?_
  refine gs_gtk rfl (by decide) rfl hS.1 tm rfl rfl eic ?_
  refine gy_ifF rfl (by decide) (by decide) (by omega) (by first | (simp [zc]; done) | (simp only [zc]; omega)) ?_
  refine gz_s 1 (pc' := 8) (L' := [some (.ref m), some (.int (zi wh)), some (.int (zi s)), none, none]) (S' := [.ref m]) rfl ?_
  refine gs_gtr rfl (by decide) rfl hS.1 tm rfl rfl rfl (fun c1 ec1 tc1 => ?_)
  refine gy_s 6 (pc' := 19) (L' := [some (.ref m), some (.int (zi wh)), some (.int (zi s)), none, none]) (S' := [.int (((zi 257) * (zi wh)) + (zi s)), .ref c1, .int (((zi 257) * (zi wh)) + (zi s)), .ref c1]) (L2 := [some (.ref m), some (.int (zi wh)), some (.int (zi s)), none, none]) (S2 := [.int (zi ((257 * wh) + s)), .ref c1, .int (zi ((257 * wh) + s)), .ref c1]) rfl (by simp only [zi_add, zi_sub, zi_mul, zi_neg, zi_and1, zi_and7, zi_and15, zi_and31, zi_and255]) (by simp only [zi_add, zi_sub, zi_mul, zi_neg, zi_and1, zi_and7, zi_and15, zi_and31, zi_and255]) ?_
  have hl2 : 514 ≤ h.2.2.2.1 c1 ∧ h.2.2.2.1 c1 ≤ 514 := gJ.rowl (G := gGG) hS.1 tc1 rfl
  refine gs_ald rfl (by decide) hS.1 tc1 rfl rfl rfl (by decide) (fun _ => rfl) (by omega) (by omega) (fun z3 ez3 az3 bz3 => ?_)
  have hf4 := gRn.at (i := (257 * wh) + s) (z := z3) hyf36 tc1 ez3 (by omega) (by omega) (by omega)
  have hwz : w0 (s).toNat = z3 := by rw [← hf4, show wh = 0 by omega]; exact (eeJ_a0 (by omega) (by omega)).symm
  have hb5 := hywb.at (j := (s).toNat) (by omega)
  rw [hwz] at hb5
  refine gy_s 2 (pc' := 22) (L' := [some (.ref m), some (.int (zi wh)), some (.int (zi s)), none, none]) (S' := [.int ((zi z3) + (zi 1)), .int (zi ((257 * wh) + s)), .ref c1]) (L2 := [some (.ref m), some (.int (zi wh)), some (.int (zi s)), none, none]) (S2 := [.int (zi (z3 + 1)), .int (zi ((257 * wh) + s)), .ref c1]) rfl (by simp only [zi_add, zi_sub, zi_mul, zi_neg, zi_and1, zi_and7, zi_and15, zi_and31, zi_and255]) (by simp only [zi_add, zi_sub, zi_mul, zi_neg, zi_and1, zi_and7, zi_and15, zi_and31, zi_and255]) ?_
  have hl6 : 514 ≤ h.2.2.2.1 c1 ∧ h.2.2.2.1 c1 ≤ 514 := gJ.rowl (G := gGG) hS.1 tc1 rfl
  refine gs_ast rfl (by decide) hS tc1 rfl rfl rfl (by decide) (fun _ => rfl) (by omega) (by omega) (fun _ => (by decide : (36999 : Nat) ∈ ([36999] : List Nat))) (by omega) (by omega) (fun h7 sh7 eh7 fh7 => ?_)
  have pr8 := gRn.put (i := (257 * wh) + s) (z := z3 + 1) uq tc1 (by decide) fh7 eh7 (by omega) (by omega) hyf36
  have s9 := (fh7 m 67 (fun q => absurd (((tm).symm.trans (congrArg ty q.1)).trans tc1) (by decide))).trans eic
  have s10 := (fh7 m 68 (fun q => absurd (((tm).symm.trans (congrArg ty q.1)).trans tc1) (by decide))).trans ec1
  have pr11 := gEl.set (i := (257 * wh) + s) (z := z3 + 1) uq tc1 (by decide) eh7 (by omega) (by omega)
  have hrw12 : gRn 514 ty 36 (eeJ (ecS s w0) w1) h7 := by have e9 := pr8; rw [show wh = 0 by omega, eeJ_p0 (by omega) (by omega), ← hwz] at e9; exact e9
  exact gz_end (I := .return_) (len := 1) rfl (Or.inl rfl) ⟨sh7, rfl, hrw12⟩
set_option maxRecDepth 20000 in
set_option maxHeartbeats 4000000 in
theorem mw_putSymbol0 (d : Nat) {ty : Nat → Nat} {h : gH} (hJ : gJ rT 1027 ty h) (m : Nat) (tm : ty m = 1) (wh : Int) (rwh : 0 ≤ wh ∧ wh ≤ 0) (s : Int) (rs : 0 ≤ s ∧ s ≤ 255) (w0 : Int) (ew0 : h.2.2.2.2 m 59 = .int (zi w0)) (rw0 : 0 ≤ w0 ∧ w0 ≤ 60000) (u0 : Int) (eu0 : h.2.2.2.2 m 61 = .int (zi u0)) (ru0 : 0 ≤ u0 ∧ u0 ≤ 127) (b0 : Int) (eb0 : h.2.2.2.2 m 62 = .int (zi b0)) (rb0 : 0 ≤ b0 ∧ b0 ≤ 7) (ic : Int) (eic : h.2.2.2.2 m 67 = .int (zi ic)) (ric : 1 ≤ ic ∧ ic ≤ 1) (sg : gWt) (ek0 : Nat → Int × Int) (pp0 : w0 = sg.1) (pp1 : u0 = sg.2.1) (pp2 : b0 = sg.2.2.1) (pp3 : 4 * w0 + b0 + 22 ≤ 239900) (uq : gUq ty) (hyso : gSO ty sg h) (hyok : eeOk sg) (hytk0 : gTk (True) 0 ty ek0 h) : gz gPP gGG gcn (d + 2) gt195 0 (gent [.ref m, .int (zi wh), .int (zi s)] 5) [] h (fun q _ => gSs rT 1027 ty [1059, 1061, 1062, 32999] h q.2.2 ∧ ∃ w1 u1 b1 : Int, gfin gt195 q.1 q.2.1 = some none ∧ q.2.2.2.2.2.2 m 59 = .int (zi w1) ∧ 0 ≤ w1 ∧ w1 ≤ 60000 ∧ q.2.2.2.2.2.2 m 61 = .int (zi u1) ∧ 0 ≤ u1 ∧ u1 ≤ 127 ∧ q.2.2.2.2.2.2 m 62 = .int (zi b1) ∧ 0 ≤ b1 ∧ b1 ≤ 7 ∧ (w1 = (ewS ek0 s sg).1) ∧ (u1 = (ewS ek0 s sg).2.1) ∧ (b1 = (ewS ek0 s sg).2.2.1) ∧ (4 * w1 + b1 ≤ 4 * w0 + b0 + 22) ∧ (w0 ≤ w1) ∧ (gSO ty (ewS ek0 s sg) q.2.2) ∧ (eeOk (ewS ek0 s sg))) := by
  have hS : gSs rT 1027 ty [1059, 1061, 1062, 32999] h h := gSs.rf hJ
  refine gz_s 1 (pc' := 1) (L' := [some (.ref m), some (.int (zi wh)), some (.int (zi s)), none, none]) (S' := [.ref m]) rfl ?_
  refine gs_gtk rfl (by decide) rfl hS.1 tm rfl rfl eic ?_
  refine gy_ifT (pc' := 24) rfl (by decide) (by decide) (by omega) (by first | (simp [zc]; done) | (simp only [zc]; omega)) ?_
  refine gz_s 1 (pc' := 25) (L' := [some (.ref m), some (.int (zi wh)), some (.int (zi s)), none, none]) (S' := [.ref m]) rfl ?_
  refine gs_gtr rfl (by decide) rfl hS.1 tm rfl rfl rfl (fun c1 ec1 tc1 => ?_)
  refine gy_s 5 (pc' := 35) (L' := [some (.ref m), some (.int (zi wh)), some (.int (zi s)), none, none]) (S' := [.int (((zi 257) * (zi wh)) + (zi s)), .ref c1]) (L2 := [some (.ref m), some (.int (zi wh)), some (.int (zi s)), none, none]) (S2 := [.int (zi ((257 * wh) + s)), .ref c1]) rfl (by simp only [zi_add, zi_sub, zi_mul, zi_neg, zi_and1, zi_and7, zi_and15, zi_and31, zi_and255]) (by simp only [zi_add, zi_sub, zi_mul, zi_neg, zi_and1, zi_and7, zi_and15, zi_and31, zi_and255]) ?_
  have hl2 : 514 ≤ h.2.2.2.1 c1 ∧ h.2.2.2.1 c1 ≤ 514 := gJ.rowl (G := gGG) hS.1 tc1 rfl
  refine gs_ald rfl (by decide) hS.1 tc1 rfl rfl rfl (by decide) (fun _ => rfl) (by omega) (by omega) (fun z3 ez3 az3 bz3 => ?_)
  have hze := gTk.sz (s := s) (i := 257 * wh + s) hytk0 trivial ⟨by omega, by omega⟩ tc1 (by omega) ez3 ⟨by omega, by omega⟩
  refine gy_s 5 (pc' := 42) (L' := [some (.ref m), some (.int (zi wh)), some (.int (zi s)), some (.int (zi z3)), some (.int ((zi z3) - (zi 1)))]) (S' := []) (L2 := [some (.ref m), some (.int (zi wh)), some (.int (zi s)), some (.int (zi z3)), some (.int (zi (z3 - 1)))]) (S2 := []) rfl (by simp only [zi_add, zi_sub, zi_mul, zi_neg, zi_and1, zi_and7, zi_and15, zi_and31, zi_and255]) (by simp only [zi_add, zi_sub, zi_mul, zi_neg, zi_and1, zi_and7, zi_and15, zi_and31, zi_and255]) ?_
  have hk5 : eeK (ek0 s.toNat).1 (ek0 s.toNat).2.toNat sg ((ek0 s.toNat).2 - 1 - (z3 - 1)).toNat = sg := by rw [(by omega : ((ek0 s.toNat).2 - 1 - (z3 - 1)).toNat = 0)]; rfl
  have hk5_1 : (eeK (ek0 s.toNat).1 (ek0 s.toNat).2.toNat sg ((ek0 s.toNat).2 - 1 - (z3 - 1)).toNat).1 = (sg).1 := by rw [hk5]
  have hk5_21 : (eeK (ek0 s.toNat).1 (ek0 s.toNat).2.toNat sg ((ek0 s.toNat).2 - 1 - (z3 - 1)).toNat).2.1 = (sg).2.1 := by rw [hk5]
  have hk5_221 : (eeK (ek0 s.toNat).1 (ek0 s.toNat).2.toNat sg ((ek0 s.toNat).2 - 1 - (z3 - 1)).toNat).2.2.1 = (sg).2.2.1 := by rw [hk5]
  have hso6 : gSO ty (eeK (ek0 s.toNat).1 (ek0 s.toNat).2.toNat sg ((ek0 s.toNat).2 - 1 - (z3 - 1)).toNat) h := by rw [hk5]; exact hyso
  have hok7 : eeOk (eeK (ek0 s.toNat).1 (ek0 s.toNat).2.toNat sg ((ek0 s.toNat).2 - 1 - (z3 - 1)).toNat) := by rw [hk5]; exact hyok
  have hok7c := hok7.cur
  have lp4 : ∀ (fu : Nat) (h8 : gH) (k : Int) (wv : Int) (uv : Int) (bv : Int), (k + 2).toNat < fu → gSs rT 1027 ty [1059, 1061, 1062, 32999] h h8 → ((-1) ≤ k ∧ k ≤ 21) → (0 ≤ wv ∧ wv ≤ 60000) → (0 ≤ uv ∧ uv ≤ 127) → (0 ≤ bv ∧ bv ≤ 7) → (k < (ek0 s.toNat).2) → (wv = (eeK (ek0 s.toNat).1 (ek0 s.toNat).2.toNat sg ((ek0 s.toNat).2 - 1 - k).toNat).1) → (uv = (eeK (ek0 s.toNat).1 (ek0 s.toNat).2.toNat sg ((ek0 s.toNat).2 - 1 - k).toNat).2.1) → (bv = (eeK (ek0 s.toNat).1 (ek0 s.toNat).2.toNat sg ((ek0 s.toNat).2 - 1 - k).toNat).2.2.1) → (4 * wv + bv + k + 1 ≤ 4 * w0 + b0 + (ek0 s.toNat).2) → (w0 ≤ wv) → h8.2.2.2.2 m 67 = .int (zi ic) → h8.2.2.2.2 m 69 = .ref c1 → h8.2.2.2.2 m 59 = .int (zi wv) → h8.2.2.2.2 m 61 = .int (zi uv) → h8.2.2.2.2 m 62 = .int (zi bv) → gTk (True) 0 ty ek0 h8 → gSO ty (eeK (ek0 s.toNat).1 (ek0 s.toNat).2.toNat sg ((ek0 s.toNat).2 - 1 - k).toNat) h8 → eeOk (eeK (ek0 s.toNat).1 (ek0 s.toNat).2.toNat sg ((ek0 s.toNat).2 - 1 - k).toNat) → gz gPP gGG gcn (d + 2) gt195 42 [some (.ref m), some (.int (zi wh)), some (.int (zi s)), some (.int (zi z3)), some (.int (zi k))] [] h8 (fun q _ => gSs rT 1027 ty [1059, 1061, 1062, 32999] h q.2.2 ∧ ∃ w1 u1 b1 : Int, gfin gt195 q.1 q.2.1 = some none ∧ q.2.2.2.2.2.2 m 59 = .int (zi w1) ∧ 0 ≤ w1 ∧ w1 ≤ 60000 ∧ q.2.2.2.2.2.2 m 61 = .int (zi u1) ∧ 0 ≤ u1 ∧ u1 ≤ 127 ∧ q.2.2.2.2.2.2 m 62 = .int (zi b1) ∧ 0 ≤ b1 ∧ b1 ≤ 7 ∧ (w1 = (ewS ek0 s sg).1) ∧ (u1 = (ewS ek0 s sg).2.1) ∧ (b1 = (ewS ek0 s sg).2.2.1) ∧ (4 * w1 + b1 ≤ 4 * w0 + b0 + 22) ∧ (w0 ≤ w1) ∧ (gSO ty (ewS ek0 s sg) q.2.2) ∧ (eeOk (ewS ek0 s sg))) := by
    intro fu
    induction fu with
    | zero => intro h8 k wv uv bv hm; exact absurd hm (Nat.not_lt_zero _)
    | succ fu ihlp4 =>
      intro h8 k wv uv bv lp4m sh8 lp4f0 lp4f1 lp4f2 lp4f3 lp4f4 lp4f5 lp4f6 lp4f7 lp4f8 lp4f9 lp4k0 lp4k1 lp4k2 lp4k3 lp4k4 lp4k5 lp4k6 lp4k7
      refine gz_s 1 (pc' := 44) (L' := [some (.ref m), some (.int (zi wh)), some (.int (zi s)), some (.int (zi z3)), some (.int (zi k))]) (S' := [.int (zi k)]) rfl ?_
      by_cases hc9 : (k : Int) < 0
      · refine gy_ifT (pc' := 74) rfl (by decide) (by decide) (by omega) hc9 ?_
        have hk10 : ewS ek0 s sg = eeK (ek0 s.toNat).1 (ek0 s.toNat).2.toNat sg ((ek0 s.toNat).2 - 1 - k).toNat := by rw [(by omega : ((ek0 s.toNat).2 - 1 - k).toNat = (ek0 s.toNat).2.toNat)]; rfl
        have hk10_1 : (ewS ek0 s sg).1 = (eeK (ek0 s.toNat).1 (ek0 s.toNat).2.toNat sg ((ek0 s.toNat).2 - 1 - k).toNat).1 := by rw [hk10]
        have hk10_21 : (ewS ek0 s sg).2.1 = (eeK (ek0 s.toNat).1 (ek0 s.toNat).2.toNat sg ((ek0 s.toNat).2 - 1 - k).toNat).2.1 := by rw [hk10]
        have hk10_221 : (ewS ek0 s sg).2.2.1 = (eeK (ek0 s.toNat).1 (ek0 s.toNat).2.toNat sg ((ek0 s.toNat).2 - 1 - k).toNat).2.2.1 := by rw [hk10]
        have hso11 : gSO ty (ewS ek0 s sg) h8 := by rw [hk10]; exact lp4k6
        have hok12 : eeOk (ewS ek0 s sg) := by rw [hk10]; exact lp4k7
        have hok12c := hok12.cur
        exact gz_end (I := .return_) (len := 1) rfl (Or.inl rfl) ⟨sh8, wv, uv, bv, rfl, lp4k2, (by omega), (by omega), lp4k3, (by omega), (by omega), lp4k4, (by omega), (by omega), (by omega), (by omega), (by omega), (by omega), (by omega), hso11, hok12⟩
      · refine gy_ifF rfl (by decide) (by decide) (by omega) hc9 ?_
        refine gz_s 2 (pc' := 49) (L' := [some (.ref m), some (.int (zi wh)), some (.int (zi s)), some (.int (zi z3)), some (.int (zi k))]) (S' := [.ref m, .ref m]) rfl ?_
        refine gs_gtr rfl (by decide) rfl sh8.1 tm rfl rfl rfl (fun c13 ec13 tc13 => ?_)
        refine gy_s 5 (pc' := 59) (L' := [some (.ref m), some (.int (zi wh)), some (.int (zi s)), some (.int (zi z3)), some (.int (zi k))]) (S' := [.int (((zi 257) * (zi wh)) + (zi s)), .ref c13, .ref m]) (L2 := [some (.ref m), some (.int (zi wh)), some (.int (zi s)), some (.int (zi z3)), some (.int (zi k))]) (S2 := [.int (zi ((257 * wh) + s)), .ref c13, .ref m]) rfl (by simp only [zi_add, zi_sub, zi_mul, zi_neg, zi_and1, zi_and7, zi_and15, zi_and31, zi_and255]) (by simp only [zi_add, zi_sub, zi_mul, zi_neg, zi_and1, zi_and7, zi_and15, zi_and31, zi_and255]) ?_
        have hl14 : 514 ≤ h8.2.2.2.1 c13 ∧ h8.2.2.2.1 c13 ≤ 514 := gJ.rowl (G := gGG) sh8.1 tc13 rfl
        refine gs_ald rfl (by decide) sh8.1 tc13 rfl rfl rfl (by decide) (fun _ => rfl) (by omega) (by omega) (fun z15 ez15 az15 bz15 => ?_)
        have hzd := gTk.cd (s := s) (i := 257 * wh + s) lp4k5 trivial ⟨by omega, by omega⟩ tc13 (by omega) ez15 ⟨by omega, by omega⟩ (by omega)
        refine gz_s 1 (pc' := 62) (L' := [some (.ref m), some (.int (zi wh)), some (.int (zi s)), some (.int (zi z3)), some (.int (zi k))]) (S' := [.int (zi k), .int (zi z15), .ref m]) rfl ?_
        refine gy_shr rfl (by decide) (by omega) (by omega) ?_
        have hx16 := zsh_c (a := z15) (n := k)
        refine gy_s 2 (pc' := 65) (L' := [some (.ref m), some (.int (zi wh)), some (.int (zi s)), some (.int (zi z3)), some (.int (zi k))]) (S' := [.int ((zi (z15 / 2 ^ (k).toNat)) &&& (zi 1)), .ref m]) (L2 := [some (.ref m), some (.int (zi wh)), some (.int (zi s)), some (.int (zi z3)), some (.int (zi k))]) (S2 := [.int (zi ((z15 / 2 ^ (k).toNat) % 2)), .ref m]) rfl (by simp only [zi_add, zi_sub, zi_mul, zi_neg, zi_and1, zi_and7, zi_and15, zi_and31, zi_and255]) (by simp only [zi_add, zi_sub, zi_mul, zi_neg, zi_and1, zi_and7, zi_and15, zi_and31, zi_and255]) ?_
        refine gz_call rfl (by decide) rfl (by decide) (by decide) (gcal_of rfl rfl rfl (Nat.le_of_ble_eq_true rfl) (gJ.recv (G := gGG) sh8.1 tm rfl rfl)) (mw_putBit _ sh8.1 m tm ((z15 / 2 ^ (k).toNat) % 2) (by omega) wv lp4k2 (by omega) uv lp4k3 (by omega) bv lp4k4 (by omega) ic lp4k0 (by omega) (eeK (ek0 s.toNat).1 (ek0 s.toNat).2.toNat sg ((ek0 s.toNat).2 - 1 - k).toNat) (by omega) (by omega) (by omega) (by omega) uq lp4k6 lp4k7) (fun q17 _ wq17 => ?_)
        obtain ⟨pq17, oq17, hq17⟩ := q17
        obtain ⟨xq17, fq17_0, fq17_1, fq17_2, gq17, efq17_0, afq17_0, bfq17_0, efq17_1, afq17_1, bfq17_1, efq17_2, afq17_2, bfq17_2, uq17_0, uq17_1, uq17_2, uq17_3, uq17_4, yq17_0, yq17_1⟩ := wq17
        refine ⟨_, gq17, ?_⟩
        show gz gPP gGG gcn _ _ 68 [some (.ref m), some (.int (zi wh)), some (.int (zi s)), some (.int (zi z3)), some (.int (zi k))] [] hq17 _
        have sq17 := gSs.tr sh8 xq17 (by decide)
        have s18 := (xq17.2.2.2.2.2 m 67 (by rw [tm]; decide)).trans lp4k0
        have s19 := (xq17.2.2.2.2.2 m 69 (by rw [tm]; decide)).trans lp4k1
        have s20 := (xq17.2.2.2.2.2 m 70 (by rw [tm]; decide)).trans ec13
        have pr21 := gTk.fr xq17.2 (by decide) (by decide) lp4k5
        have hk22 : eeK (ek0 s.toNat).1 (ek0 s.toNat).2.toNat sg ((ek0 s.toNat).2 - 1 - (k + (-1))).toNat = eeb (eeK (ek0 s.toNat).1 (ek0 s.toNat).2.toNat sg ((ek0 s.toNat).2 - 1 - k).toNat) ((z15 / 2 ^ (k).toNat) % 2) := by rw [hzd, (by omega : ((ek0 s.toNat).2 - 1 - (k + (-1))).toNat = ((ek0 s.toNat).2 - 1 - k).toNat + 1)]; show eeb _ ((ek0 s.toNat).1 / 2 ^ ((ek0 s.toNat).2.toNat - 1 - ((ek0 s.toNat).2 - 1 - k).toNat) % 2) = _; rw [(by omega : (ek0 s.toNat).2.toNat - 1 - ((ek0 s.toNat).2 - 1 - k).toNat = (k).toNat)]
        have hk22_1 : (eeK (ek0 s.toNat).1 (ek0 s.toNat).2.toNat sg ((ek0 s.toNat).2 - 1 - (k + (-1))).toNat).1 = (eeb (eeK (ek0 s.toNat).1 (ek0 s.toNat).2.toNat sg ((ek0 s.toNat).2 - 1 - k).toNat) ((z15 / 2 ^ (k).toNat) % 2)).1 := by rw [hk22]
        have hk22_21 : (eeK (ek0 s.toNat).1 (ek0 s.toNat).2.toNat sg ((ek0 s.toNat).2 - 1 - (k + (-1))).toNat).2.1 = (eeb (eeK (ek0 s.toNat).1 (ek0 s.toNat).2.toNat sg ((ek0 s.toNat).2 - 1 - k).toNat) ((z15 / 2 ^ (k).toNat) % 2)).2.1 := by rw [hk22]
        have hk22_221 : (eeK (ek0 s.toNat).1 (ek0 s.toNat).2.toNat sg ((ek0 s.toNat).2 - 1 - (k + (-1))).toNat).2.2.1 = (eeb (eeK (ek0 s.toNat).1 (ek0 s.toNat).2.toNat sg ((ek0 s.toNat).2 - 1 - k).toNat) ((z15 / 2 ^ (k).toNat) % 2)).2.2.1 := by rw [hk22]
        have hso23 : gSO ty (eeK (ek0 s.toNat).1 (ek0 s.toNat).2.toNat sg ((ek0 s.toNat).2 - 1 - (k + (-1))).toNat) hq17 := by rw [hk22]; exact yq17_0
        have hok24 : eeOk (eeK (ek0 s.toNat).1 (ek0 s.toNat).2.toNat sg ((ek0 s.toNat).2 - 1 - (k + (-1))).toNat) := by rw [hk22]; exact yq17_1
        have hok24c := hok24.cur
        refine gy_s 2 (pc' := 42) (L' := [some (.ref m), some (.int (zi wh)), some (.int (zi s)), some (.int (zi z3)), some (.int ((zi k) + zi (-1)))]) (S' := []) (L2 := [some (.ref m), some (.int (zi wh)), some (.int (zi s)), some (.int (zi z3)), some (.int (zi (k + (-1))))]) (S2 := []) rfl (by simp only [zi_add, zi_sub, zi_mul, zi_neg, zi_and1, zi_and7, zi_and15, zi_and31, zi_and255]) (by simp only [zi_add, zi_sub, zi_mul, zi_neg, zi_and1, zi_and7, zi_and15, zi_and31, zi_and255]) ?_
        exact gz_wk (ihlp4 hq17 (k + (-1)) fq17_0 fq17_1 fq17_2 (by omega) sq17 (by omega) (by omega) (by omega) (by omega) (by omega) (by omega) (by omega) (by omega) (by omega) (by omega) s18 s19 efq17_0 efq17_1 efq17_2 pr21 hso23 hok24) (gLw.s (gLw.s (gLw.s (gLw.s (gLw.s gLw.z)))))
  exact gz_wk (lp4 _ h (z3 - 1) w0 u0 b0 (Nat.lt_succ_self _) hS (by omega) (by omega) (by omega) (by omega) (by omega) (by omega) (by omega) (by omega) (by omega) (by omega) eic ec1 ew0 eu0 eb0 hytk0 hso6 hok7) (gLw.s (gLw.s (gLw.s (gLw.s (gLw.s gLw.z)))))
set_option maxRecDepth 20000 in
set_option maxHeartbeats 4000000 in
theorem mn_putSymbol1 (d : Nat) {ty : Nat → Nat} {h : gH} (hJ : gJ rT 1027 ty h) (m : Nat) (tm : ty m = 1) (wh : Int) (rwh : 1 ≤ wh ∧ wh ≤ 1) (s : Int) (rs : 0 ≤ s ∧ s ≤ 255) (ic : Int) (eic : h.2.2.2.2 m 67 = .int (zi ic)) (ric : 0 ≤ ic ∧ ic ≤ 0) (w0 w1 : Nat → Int) (uq : gUq ty) (hyf36 : gRn 514 ty 36 (eeJ w0 w1) h) (hywb : ewB w1 4000) : gz gPP gGG gcn (d + 0) gt195 0 (gent [.ref m, .int (zi wh), .int (zi s)] 5) [] h (fun q _ => gSs rT 1027 ty [36999] h q.2.2 ∧ gfin gt195 q.1 q.2.1 = some none ∧ (gRn 514 ty 36 (eeJ w0 (ecS s w1)) q.2.2)) := by
  have hS : gSs rT 1027 ty [36999] h h := gSs.rf hJ
  refine gz_s 1 (pc' := 1) (L' := [some (.ref m), some (.int (zi wh)), some (.int (zi s)), none, none]) (S' := [.ref m]) rfl ?_
  refine gs_gtk rfl (by decide) rfl hS.1 tm rfl rfl eic ?_
  refine gy_ifF rfl (by decide) (by decide) (by omega) (by first | (simp [zc]; done) | (simp only [zc]; omega)) ?_
  refine gz_s 1 (pc' := 8) (L' := [some (.ref m), some (.int (zi wh)), some (.int (zi s)), none, none]) (S' := [.ref m]) rfl ?_
  refine gs_gtr rfl (by decide) rfl hS.1 tm rfl rfl rfl (fun c1 ec1 tc1 => ?_)
  refine gy_s 6 (pc' := 19) (L' := [some (.ref m), some (.int (zi wh)), some (.int (zi s)), none, none]) (S' := [.int (((zi 257) * (zi wh)) + (zi s)), .ref c1, .int (((zi 257) * (zi wh)) + (zi s)), .ref c1]) (L2 := [some (.ref m), some (.int (zi wh)), some (.int (zi s)), none, none]) (S2 := [.int (zi ((257 * wh) + s)), .ref c1, .int (zi ((257 * wh) + s)), .ref c1]) rfl (by simp only [zi_add, zi_sub, zi_mul, zi_neg, zi_and1, zi_and7, zi_and15, zi_and31, zi_and255]) (by simp only [zi_add, zi_sub, zi_mul, zi_neg, zi_and1, zi_and7, zi_and15, zi_and31, zi_and255]) ?_
  have hl2 : 514 ≤ h.2.2.2.1 c1 ∧ h.2.2.2.1 c1 ≤ 514 := gJ.rowl (G := gGG) hS.1 tc1 rfl
  refine gs_ald rfl (by decide) hS.1 tc1 rfl rfl rfl (by decide) (fun _ => rfl) (by omega) (by omega) (fun z3 ez3 az3 bz3 => ?_)
  have hf4 := gRn.at (i := (257 * wh) + s) (z := z3) hyf36 tc1 ez3 (by omega) (by omega) (by omega)
  have hwz : w1 (s).toNat = z3 := by rw [← hf4, show wh = 1 by omega]; exact (eeJ_a1 (by omega) (by omega)).symm
  have hb5 := hywb.at (j := (s).toNat) (by omega)
  rw [hwz] at hb5
  refine gy_s 2 (pc' := 22) (L' := [some (.ref m), some (.int (zi wh)), some (.int (zi s)), none, none]) (S' := [.int ((zi z3) + (zi 1)), .int (zi ((257 * wh) + s)), .ref c1]) (L2 := [some (.ref m), some (.int (zi wh)), some (.int (zi s)), none, none]) (S2 := [.int (zi (z3 + 1)), .int (zi ((257 * wh) + s)), .ref c1]) rfl (by simp only [zi_add, zi_sub, zi_mul, zi_neg, zi_and1, zi_and7, zi_and15, zi_and31, zi_and255]) (by simp only [zi_add, zi_sub, zi_mul, zi_neg, zi_and1, zi_and7, zi_and15, zi_and31, zi_and255]) ?_
  have hl6 : 514 ≤ h.2.2.2.1 c1 ∧ h.2.2.2.1 c1 ≤ 514 := gJ.rowl (G := gGG) hS.1 tc1 rfl
  refine gs_ast rfl (by decide) hS tc1 rfl rfl rfl (by decide) (fun _ => rfl) (by omega) (by omega) (fun _ => (by decide : (36999 : Nat) ∈ ([36999] : List Nat))) (by omega) (by omega) (fun h7 sh7 eh7 fh7 => ?_)
  have pr8 := gRn.put (i := (257 * wh) + s) (z := z3 + 1) uq tc1 (by decide) fh7 eh7 (by omega) (by omega) hyf36
  have s9 := (fh7 m 67 (fun q => absurd (((tm).symm.trans (congrArg ty q.1)).trans tc1) (by decide))).trans eic
  have s10 := (fh7 m 68 (fun q => absurd (((tm).symm.trans (congrArg ty q.1)).trans tc1) (by decide))).trans ec1
  have pr11 := gEl.set (i := (257 * wh) + s) (z := z3 + 1) uq tc1 (by decide) eh7 (by omega) (by omega)
  have hrw12 : gRn 514 ty 36 (eeJ w0 (ecS s w1)) h7 := by have e9 := pr8; rw [show wh = 1 by omega, eeJ_p1 (by omega) (by omega), ← hwz] at e9; exact e9
  exact gz_end (I := .return_) (len := 1) rfl (Or.inl rfl) ⟨sh7, rfl, hrw12⟩
set_option maxRecDepth 20000 in
set_option maxHeartbeats 4000000 in
theorem mw_putSymbol1 (d : Nat) {ty : Nat → Nat} {h : gH} (hJ : gJ rT 1027 ty h) (m : Nat) (tm : ty m = 1) (wh : Int) (rwh : 1 ≤ wh ∧ wh ≤ 1) (s : Int) (rs : 0 ≤ s ∧ s ≤ 255) (w0 : Int) (ew0 : h.2.2.2.2 m 59 = .int (zi w0)) (rw0 : 0 ≤ w0 ∧ w0 ≤ 60000) (u0 : Int) (eu0 : h.2.2.2.2 m 61 = .int (zi u0)) (ru0 : 0 ≤ u0 ∧ u0 ≤ 127) (b0 : Int) (eb0 : h.2.2.2.2 m 62 = .int (zi b0)) (rb0 : 0 ≤ b0 ∧ b0 ≤ 7) (ic : Int) (eic : h.2.2.2.2 m 67 = .int (zi ic)) (ric : 1 ≤ ic ∧ ic ≤ 1) (sg : gWt) (ek1 : Nat → Int × Int) (pp0 : w0 = sg.1) (pp1 : u0 = sg.2.1) (pp2 : b0 = sg.2.2.1) (pp3 : 4 * w0 + b0 + 22 ≤ 239900) (uq : gUq ty) (hyso : gSO ty sg h) (hyok : eeOk sg) (hytk1 : gTk (True) 1 ty ek1 h) : gz gPP gGG gcn (d + 2) gt195 0 (gent [.ref m, .int (zi wh), .int (zi s)] 5) [] h (fun q _ => gSs rT 1027 ty [1059, 1061, 1062, 32999] h q.2.2 ∧ ∃ w1 u1 b1 : Int, gfin gt195 q.1 q.2.1 = some none ∧ q.2.2.2.2.2.2 m 59 = .int (zi w1) ∧ 0 ≤ w1 ∧ w1 ≤ 60000 ∧ q.2.2.2.2.2.2 m 61 = .int (zi u1) ∧ 0 ≤ u1 ∧ u1 ≤ 127 ∧ q.2.2.2.2.2.2 m 62 = .int (zi b1) ∧ 0 ≤ b1 ∧ b1 ≤ 7 ∧ (w1 = (ewS ek1 s sg).1) ∧ (u1 = (ewS ek1 s sg).2.1) ∧ (b1 = (ewS ek1 s sg).2.2.1) ∧ (4 * w1 + b1 ≤ 4 * w0 + b0 + 22) ∧ (w0 ≤ w1) ∧ (gSO ty (ewS ek1 s sg) q.2.2) ∧ (eeOk (ewS ek1 s sg))) := by
  have hS : gSs rT 1027 ty [1059, 1061, 1062, 32999] h h := gSs.rf hJ
  refine gz_s 1 (pc' := 1) (L' := [some (.ref m), some (.int (zi wh)), some (.int (zi s)), none, none]) (S' := [.ref m]) rfl ?_
  refine gs_gtk rfl (by decide) rfl hS.1 tm rfl rfl eic ?_
  refine gy_ifT (pc' := 24) rfl (by decide) (by decide) (by omega) (by first | (simp [zc]; done) | (simp only [zc]; omega)) ?_
  refine gz_s 1 (pc' := 25) (L' := [some (.ref m), some (.int (zi wh)), some (.int (zi s)), none, none]) (S' := [.ref m]) rfl ?_
  refine gs_gtr rfl (by decide) rfl hS.1 tm rfl rfl rfl (fun c1 ec1 tc1 => ?_)
  refine gy_s 5 (pc' := 35) (L' := [some (.ref m), some (.int (zi wh)), some (.int (zi s)), none, none]) (S' := [.int (((zi 257) * (zi wh)) + (zi s)), .ref c1]) (L2 := [some (.ref m), some (.int (zi wh)), some (.int (zi s)), none, none]) (S2 := [.int (zi ((257 * wh) + s)), .ref c1]) rfl (by simp only [zi_add, zi_sub, zi_mul, zi_neg, zi_and1, zi_and7, zi_and15, zi_and31, zi_and255]) (by simp only [zi_add, zi_sub, zi_mul, zi_neg, zi_and1, zi_and7, zi_and15, zi_and31, zi_and255]) ?_
  have hl2 : 514 ≤ h.2.2.2.1 c1 ∧ h.2.2.2.1 c1 ≤ 514 := gJ.rowl (G := gGG) hS.1 tc1 rfl
  refine gs_ald rfl (by decide) hS.1 tc1 rfl rfl rfl (by decide) (fun _ => rfl) (by omega) (by omega) (fun z3 ez3 az3 bz3 => ?_)
  have hze := gTk.sz (s := s) (i := 257 * wh + s) hytk1 trivial ⟨by omega, by omega⟩ tc1 (by omega) ez3 ⟨by omega, by omega⟩
  refine gy_s 5 (pc' := 42) (L' := [some (.ref m), some (.int (zi wh)), some (.int (zi s)), some (.int (zi z3)), some (.int ((zi z3) - (zi 1)))]) (S' := []) (L2 := [some (.ref m), some (.int (zi wh)), some (.int (zi s)), some (.int (zi z3)), some (.int (zi (z3 - 1)))]) (S2 := []) rfl (by simp only [zi_add, zi_sub, zi_mul, zi_neg, zi_and1, zi_and7, zi_and15, zi_and31, zi_and255]) (by simp only [zi_add, zi_sub, zi_mul, zi_neg, zi_and1, zi_and7, zi_and15, zi_and31, zi_and255]) ?_
  have hk5 : eeK (ek1 s.toNat).1 (ek1 s.toNat).2.toNat sg ((ek1 s.toNat).2 - 1 - (z3 - 1)).toNat = sg := by rw [(by omega : ((ek1 s.toNat).2 - 1 - (z3 - 1)).toNat = 0)]; rfl
  have hk5_1 : (eeK (ek1 s.toNat).1 (ek1 s.toNat).2.toNat sg ((ek1 s.toNat).2 - 1 - (z3 - 1)).toNat).1 = (sg).1 := by rw [hk5]
  have hk5_21 : (eeK (ek1 s.toNat).1 (ek1 s.toNat).2.toNat sg ((ek1 s.toNat).2 - 1 - (z3 - 1)).toNat).2.1 = (sg).2.1 := by rw [hk5]
  have hk5_221 : (eeK (ek1 s.toNat).1 (ek1 s.toNat).2.toNat sg ((ek1 s.toNat).2 - 1 - (z3 - 1)).toNat).2.2.1 = (sg).2.2.1 := by rw [hk5]
  have hso6 : gSO ty (eeK (ek1 s.toNat).1 (ek1 s.toNat).2.toNat sg ((ek1 s.toNat).2 - 1 - (z3 - 1)).toNat) h := by rw [hk5]; exact hyso
  have hok7 : eeOk (eeK (ek1 s.toNat).1 (ek1 s.toNat).2.toNat sg ((ek1 s.toNat).2 - 1 - (z3 - 1)).toNat) := by rw [hk5]; exact hyok
  have hok7c := hok7.cur
  have lp4 : ∀ (fu : Nat) (h8 : gH) (k : Int) (wv : Int) (uv : Int) (bv : Int), (k + 2).toNat < fu → gSs rT 1027 ty [1059, 1061, 1062, 32999] h h8 → ((-1) ≤ k ∧ k ≤ 21) → (0 ≤ wv ∧ wv ≤ 60000) → (0 ≤ uv ∧ uv ≤ 127) → (0 ≤ bv ∧ bv ≤ 7) → (k < (ek1 s.toNat).2) → (wv = (eeK (ek1 s.toNat).1 (ek1 s.toNat).2.toNat sg ((ek1 s.toNat).2 - 1 - k).toNat).1) → (uv = (eeK (ek1 s.toNat).1 (ek1 s.toNat).2.toNat sg ((ek1 s.toNat).2 - 1 - k).toNat).2.1) → (bv = (eeK (ek1 s.toNat).1 (ek1 s.toNat).2.toNat sg ((ek1 s.toNat).2 - 1 - k).toNat).2.2.1) → (4 * wv + bv + k + 1 ≤ 4 * w0 + b0 + (ek1 s.toNat).2) → (w0 ≤ wv) → h8.2.2.2.2 m 67 = .int (zi ic) → h8.2.2.2.2 m 69 = .ref c1 → h8.2.2.2.2 m 59 = .int (zi wv) → h8.2.2.2.2 m 61 = .int (zi uv) → h8.2.2.2.2 m 62 = .int (zi bv) → gTk (True) 1 ty ek1 h8 → gSO ty (eeK (ek1 s.toNat).1 (ek1 s.toNat).2.toNat sg ((ek1 s.toNat).2 - 1 - k).toNat) h8 → eeOk (eeK (ek1 s.toNat).1 (ek1 s.toNat).2.toNat sg ((ek1 s.toNat).2 - 1 - k).toNat) → gz gPP gGG gcn (d + 2) gt195 42 [some (.ref m), some (.int (zi wh)), some (.int (zi s)), some (.int (zi z3)), some (.int (zi k))] [] h8 (fun q _ => gSs rT 1027 ty [1059, 1061, 1062, 32999] h q.2.2 ∧ ∃ w1 u1 b1 : Int, gfin gt195 q.1 q.2.1 = some none ∧ q.2.2.2.2.2.2 m 59 = .int (zi w1) ∧ 0 ≤ w1 ∧ w1 ≤ 60000 ∧ q.2.2.2.2.2.2 m 61 = .int (zi u1) ∧ 0 ≤ u1 ∧ u1 ≤ 127 ∧ q.2.2.2.2.2.2 m 62 = .int (zi b1) ∧ 0 ≤ b1 ∧ b1 ≤ 7 ∧ (w1 = (ewS ek1 s sg).1) ∧ (u1 = (ewS ek1 s sg).2.1) ∧ (b1 = (ewS ek1 s sg).2.2.1) ∧ (4 * w1 + b1 ≤ 4 * w0 + b0 + 22) ∧ (w0 ≤ w1) ∧ (gSO ty (ewS ek1 s sg) q.2.2) ∧ (eeOk (ewS ek1 s sg))) := by
    intro fu
    induction fu with
    | zero => intro h8 k wv uv bv hm; exact absurd hm (Nat.not_lt_zero _)
    | succ fu ihlp4 =>
      intro h8 k wv uv bv lp4m sh8 lp4f0 lp4f1 lp4f2 lp4f3 lp4f4 lp4f5 lp4f6 lp4f7 lp4f8 lp4f9 lp4k0 lp4k1 lp4k2 lp4k3 lp4k4 lp4k5 lp4k6 lp4k7
      refine gz_s 1 (pc' := 44) (L' := [some (.ref m), some (.int (zi wh)), some (.int (zi s)), some (.int (zi z3)), some (.int (zi k))]) (S' := [.int (zi k)]) rfl ?_
      by_cases hc9 : (k : Int) < 0
      · refine gy_ifT (pc' := 74) rfl (by decide) (by decide) (by omega) hc9 ?_
        have hk10 : ewS ek1 s sg = eeK (ek1 s.toNat).1 (ek1 s.toNat).2.toNat sg ((ek1 s.toNat).2 - 1 - k).toNat := by rw [(by omega : ((ek1 s.toNat).2 - 1 - k).toNat = (ek1 s.toNat).2.toNat)]; rfl
        have hk10_1 : (ewS ek1 s sg).1 = (eeK (ek1 s.toNat).1 (ek1 s.toNat).2.toNat sg ((ek1 s.toNat).2 - 1 - k).toNat).1 := by rw [hk10]
        have hk10_21 : (ewS ek1 s sg).2.1 = (eeK (ek1 s.toNat).1 (ek1 s.toNat).2.toNat sg ((ek1 s.toNat).2 - 1 - k).toNat).2.1 := by rw [hk10]
        have hk10_221 : (ewS ek1 s sg).2.2.1 = (eeK (ek1 s.toNat).1 (ek1 s.toNat).2.toNat sg ((ek1 s.toNat).2 - 1 - k).toNat).2.2.1 := by rw [hk10]
        have hso11 : gSO ty (ewS ek1 s sg) h8 := by rw [hk10]; exact lp4k6
        have hok12 : eeOk (ewS ek1 s sg) := by rw [hk10]; exact lp4k7
        have hok12c := hok12.cur
        exact gz_end (I := .return_) (len := 1) rfl (Or.inl rfl) ⟨sh8, wv, uv, bv, rfl, lp4k2, (by omega), (by omega), lp4k3, (by omega), (by omega), lp4k4, (by omega), (by omega), (by omega), (by omega), (by omega), (by omega), (by omega), hso11, hok12⟩
      · refine gy_ifF rfl (by decide) (by decide) (by omega) hc9 ?_
        refine gz_s 2 (pc' := 49) (L' := [some (.ref m), some (.int (zi wh)), some (.int (zi s)), some (.int (zi z3)), some (.int (zi k))]) (S' := [.ref m, .ref m]) rfl ?_
        refine gs_gtr rfl (by decide) rfl sh8.1 tm rfl rfl rfl (fun c13 ec13 tc13 => ?_)
        refine gy_s 5 (pc' := 59) (L' := [some (.ref m), some (.int (zi wh)), some (.int (zi s)), some (.int (zi z3)), some (.int (zi k))]) (S' := [.int (((zi 257) * (zi wh)) + (zi s)), .ref c13, .ref m]) (L2 := [some (.ref m), some (.int (zi wh)), some (.int (zi s)), some (.int (zi z3)), some (.int (zi k))]) (S2 := [.int (zi ((257 * wh) + s)), .ref c13, .ref m]) rfl (by simp only [zi_add, zi_sub, zi_mul, zi_neg, zi_and1, zi_and7, zi_and15, zi_and31, zi_and255]) (by simp only [zi_add, zi_sub, zi_mul, zi_neg, zi_and1, zi_and7, zi_and15, zi_and31, zi_and255]) ?_
        have hl14 : 514 ≤ h8.2.2.2.1 c13 ∧ h8.2.2.2.1 c13 ≤ 514 := gJ.rowl (G := gGG) sh8.1 tc13 rfl
        refine gs_ald rfl (by decide) sh8.1 tc13 rfl rfl rfl (by decide) (fun _ => rfl) (by omega) (by omega) (fun z15 ez15 az15 bz15 => ?_)
        have hzd := gTk.cd (s := s) (i := 257 * wh + s) lp4k5 trivial ⟨by omega, by omega⟩ tc13 (by omega) ez15 ⟨by omega, by omega⟩ (by omega)
        refine gz_s 1 (pc' := 62) (L' := [some (.ref m), some (.int (zi wh)), some (.int (zi s)), some (.int (zi z3)), some (.int (zi k))]) (S' := [.int (zi k), .int (zi z15), .ref m]) rfl ?_
        refine gy_shr rfl (by decide) (by omega) (by omega) ?_
        have hx16 := zsh_c (a := z15) (n := k)
        refine gy_s 2 (pc' := 65) (L' := [some (.ref m), some (.int (zi wh)), some (.int (zi s)), some (.int (zi z3)), some (.int (zi k))]) (S' := [.int ((zi (z15 / 2 ^ (k).toNat)) &&& (zi 1)), .ref m]) (L2 := [some (.ref m), some (.int (zi wh)), some (.int (zi s)), some (.int (zi z3)), some (.int (zi k))]) (S2 := [.int (zi ((z15 / 2 ^ (k).toNat) % 2)), .ref m]) rfl (by simp only [zi_add, zi_sub, zi_mul, zi_neg, zi_and1, zi_and7, zi_and15, zi_and31, zi_and255]) (by simp only [zi_add, zi_sub, zi_mul, zi_neg, zi_and1, zi_and7, zi_and15, zi_and31, zi_and255]) ?_
        refine gz_call rfl (by decide) rfl (by decide) (by decide) (gcal_of rfl rfl rfl (Nat.le_of_ble_eq_true rfl) (gJ.recv (G := gGG) sh8.1 tm rfl rfl)) (mw_putBit _ sh8.1 m tm ((z15 / 2 ^ (k).toNat) % 2) (by omega) wv lp4k2 (by omega) uv lp4k3 (by omega) bv lp4k4 (by omega) ic lp4k0 (by omega) (eeK (ek1 s.toNat).1 (ek1 s.toNat).2.toNat sg ((ek1 s.toNat).2 - 1 - k).toNat) (by omega) (by omega) (by omega) (by omega) uq lp4k6 lp4k7) (fun q17 _ wq17 => ?_)
        obtain ⟨pq17, oq17, hq17⟩ := q17
        obtain ⟨xq17, fq17_0, fq17_1, fq17_2, gq17, efq17_0, afq17_0, bfq17_0, efq17_1, afq17_1, bfq17_1, efq17_2, afq17_2, bfq17_2, uq17_0, uq17_1, uq17_2, uq17_3, uq17_4, yq17_0, yq17_1⟩ := wq17
        refine ⟨_, gq17, ?_⟩
        show gz gPP gGG gcn _ _ 68 [some (.ref m), some (.int (zi wh)), some (.int (zi s)), some (.int (zi z3)), some (.int (zi k))] [] hq17 _
        have sq17 := gSs.tr sh8 xq17 (by decide)
        have s18 := (xq17.2.2.2.2.2 m 67 (by rw [tm]; decide)).trans lp4k0
        have s19 := (xq17.2.2.2.2.2 m 69 (by rw [tm]; decide)).trans lp4k1
        have s20 := (xq17.2.2.2.2.2 m 70 (by rw [tm]; decide)).trans ec13
        have pr21 := gTk.fr xq17.2 (by decide) (by decide) lp4k5
        have hk22 : eeK (ek1 s.toNat).1 (ek1 s.toNat).2.toNat sg ((ek1 s.toNat).2 - 1 - (k + (-1))).toNat = eeb (eeK (ek1 s.toNat).1 (ek1 s.toNat).2.toNat sg ((ek1 s.toNat).2 - 1 - k).toNat) ((z15 / 2 ^ (k).toNat) % 2) := by rw [hzd, (by omega : ((ek1 s.toNat).2 - 1 - (k + (-1))).toNat = ((ek1 s.toNat).2 - 1 - k).toNat + 1)]; show eeb _ ((ek1 s.toNat).1 / 2 ^ ((ek1 s.toNat).2.toNat - 1 - ((ek1 s.toNat).2 - 1 - k).toNat) % 2) = _; rw [(by omega : (ek1 s.toNat).2.toNat - 1 - ((ek1 s.toNat).2 - 1 - k).toNat = (k).toNat)]
        have hk22_1 : (eeK (ek1 s.toNat).1 (ek1 s.toNat).2.toNat sg ((ek1 s.toNat).2 - 1 - (k + (-1))).toNat).1 = (eeb (eeK (ek1 s.toNat).1 (ek1 s.toNat).2.toNat sg ((ek1 s.toNat).2 - 1 - k).toNat) ((z15 / 2 ^ (k).toNat) % 2)).1 := by rw [hk22]
        have hk22_21 : (eeK (ek1 s.toNat).1 (ek1 s.toNat).2.toNat sg ((ek1 s.toNat).2 - 1 - (k + (-1))).toNat).2.1 = (eeb (eeK (ek1 s.toNat).1 (ek1 s.toNat).2.toNat sg ((ek1 s.toNat).2 - 1 - k).toNat) ((z15 / 2 ^ (k).toNat) % 2)).2.1 := by rw [hk22]
        have hk22_221 : (eeK (ek1 s.toNat).1 (ek1 s.toNat).2.toNat sg ((ek1 s.toNat).2 - 1 - (k + (-1))).toNat).2.2.1 = (eeb (eeK (ek1 s.toNat).1 (ek1 s.toNat).2.toNat sg ((ek1 s.toNat).2 - 1 - k).toNat) ((z15 / 2 ^ (k).toNat) % 2)).2.2.1 := by rw [hk22]
        have hso23 : gSO ty (eeK (ek1 s.toNat).1 (ek1 s.toNat).2.toNat sg ((ek1 s.toNat).2 - 1 - (k + (-1))).toNat) hq17 := by rw [hk22]; exact yq17_0
        have hok24 : eeOk (eeK (ek1 s.toNat).1 (ek1 s.toNat).2.toNat sg ((ek1 s.toNat).2 - 1 - (k + (-1))).toNat) := by rw [hk22]; exact yq17_1
        have hok24c := hok24.cur
        refine gy_s 2 (pc' := 42) (L' := [some (.ref m), some (.int (zi wh)), some (.int (zi s)), some (.int (zi z3)), some (.int ((zi k) + zi (-1)))]) (S' := []) (L2 := [some (.ref m), some (.int (zi wh)), some (.int (zi s)), some (.int (zi z3)), some (.int (zi (k + (-1))))]) (S2 := []) rfl (by simp only [zi_add, zi_sub, zi_mul, zi_neg, zi_and1, zi_and7, zi_and15, zi_and31, zi_and255]) (by simp only [zi_add, zi_sub, zi_mul, zi_neg, zi_and1, zi_and7, zi_and15, zi_and31, zi_and255]) ?_
        exact gz_wk (ihlp4 hq17 (k + (-1)) fq17_0 fq17_1 fq17_2 (by omega) sq17 (by omega) (by omega) (by omega) (by omega) (by omega) (by omega) (by omega) (by omega) (by omega) (by omega) s18 s19 efq17_0 efq17_1 efq17_2 pr21 hso23 hok24) (gLw.s (gLw.s (gLw.s (gLw.s (gLw.s gLw.z)))))
  exact gz_wk (lp4 _ h (z3 - 1) w0 u0 b0 (Nat.lt_succ_self _) hS (by omega) (by omega) (by omega) (by omega) (by omega) (by omega) (by omega) (by omega) (by omega) (by omega) eic ec1 ew0 eu0 eb0 hytk1 hso6 hok7) (gLw.s (gLw.s (gLw.s (gLw.s (gLw.s gLw.z)))))
