/-! ===== methods of the landed text (by program) ===== -/
set_option maxRecDepth 20000 in
set_option maxHeartbeats 4000000 in
theorem cw_makeTable (d : Nat) {ty : Nat → Nat} {h : gH} (hJ : gJ rT 1027 ty h) (x : Nat) (tx : ty x = 71) (nb9 : Nat) (tnb9 : ty nb9 = 53) (qu : Int) (rqu : 1 ≤ qu ∧ qu ≤ 100) (nb : Nat → Int) (uq : gUq ty) (hyf53 : gRn 256 ty 53 nb h) : gz gPP gGG gcn (d + 1) gt92 0 (gent [.ref x, .ref nb9, .int (zi qu)] 6) [] h (fun q _ => gSs rT 1027 ty [72999] h q.2.2 ∧ gfin gt92 q.1 q.2.1 = some none ∧ (gRn 64 ty 72 (eTb nb qu) q.2.2)) := by
  have hS : gSs rT 1027 ty [72999] h h := gSs.rf hJ
  refine gz_s 2 (pc' := 2) (L' := [some (.ref x), some (.ref nb9), some (.int (zi qu)), none, none, none]) (S' := [.int (zi qu), .int (zi 1)]) rfl ?_
  refine gz_call rfl (by decide) rfl (by decide) (by decide) (gcal_of rfl rfl rfl (Nat.le_of_ble_eq_true rfl) rfl) (cl_Math_max _ hS.1 1 ⟨by omega, by omega⟩ qu ⟨by omega, by omega⟩ ) (fun q1 _ wq1 => ?_)
  obtain ⟨pq1, oq1, hq1⟩ := q1
  obtain ⟨xq1, zq1, gq1, aq1, bq1, uq1_0, uq1_1, uq1_2⟩ := wq1
  refine ⟨_, gq1, ?_⟩
  show gz gPP gGG gcn _ _ 5 [some (.ref x), some (.ref nb9), some (.int (zi qu)), none, none, none] [.int (zi zq1)] hq1 _
  have sq1 : gSs rT 1027 ty [72999] h hq1 := gSs.tr hS xq1 (by decide)
  have pr2 := gRn.fr xq1.2 (by decide) hyf53
  refine gz_s 1 (pc' := 6) (L' := [some (.ref x), some (.ref nb9), some (.int (zi qu)), some (.int (zi zq1)), none, none]) (S' := []) rfl ?_
  have hqe1 : zq1 = qu := by omega
  have hqe2 : 5000 / zq1 = 5000 / qu := by rw [hqe1]
  refine gz_s 2 (pc' := 9) (L' := [some (.ref x), some (.ref nb9), some (.int (zi qu)), some (.int (zi zq1)), none, none]) (S' := [.int (zi 50), .int (zi zq1)]) rfl ?_
  have jn3 : ∀ (jn3v0 : Int), ((0 ≤ jn3v0) ∧ (jn3v0 ≤ 5000) ∧ (jn3v0 = if qu < 50 then 5000 / qu else 200 - 2 * qu)) → gz gPP gGG gcn (d + 1) gt92 27 [some (.ref x), some (.ref nb9), some (.int (zi qu)), some (.int (zi zq1)), none, none] [.int (zi jn3v0)] hq1 (fun q _ => gSs rT 1027 ty [72999] h q.2.2 ∧ gfin gt92 q.1 q.2.1 = some none ∧ (gRn 64 ty 72 (eTb nb qu) q.2.2)) := by
    intro jn3v0 jn3d
    refine gz_s 3 (pc' := 32) (L' := [some (.ref x), some (.ref nb9), some (.int (zi qu)), some (.int (zi zq1)), some (.int (zi jn3v0)), some (.int (zi 0))]) (S' := []) rfl ?_
    have lp4 : ∀ (fu : Nat) (h5 : gH) (i : Int), (65 - i).toNat < fu → gSs rT 1027 ty [72999] h h5 → (0 ≤ i ∧ i ≤ 64) → gRn 256 ty 53 nb h5 → gRn (i).toNat ty 72 (eTb nb qu) h5 → gz gPP gGG gcn (d + 1) gt92 32 [some (.ref x), some (.ref nb9), some (.int (zi qu)), some (.int (zi zq1)), some (.int (zi jn3v0)), some (.int (zi i))] [] h5 (fun q _ => gSs rT 1027 ty [72999] h q.2.2 ∧ gfin gt92 q.1 q.2.1 = some none ∧ (gRn 64 ty 72 (eTb nb qu) q.2.2)) := by
      intro fu
      induction fu with
      | zero => intro h5 i hm; exact absurd hm (Nat.not_lt_zero _)
      | succ fu ihlp4 =>
        intro h5 i lp4m sh5 lp4f0 lp4k0 lp4k1
        refine gz_s 2 (pc' := 36) (L' := [some (.ref x), some (.ref nb9), some (.int (zi qu)), some (.int (zi zq1)), some (.int (zi jn3v0)), some (.int (zi i))]) (S' := [.int (zi 64), .int (zi i)]) rfl ?_
        by_cases hc6 : (64 : Int) ≤ i
        · refine gy_icT (pc' := 75) rfl (by decide) (by decide) (by omega) (by omega) hc6 ?_
          have hrw7 : gRn 64 ty 72 (eTb nb qu) h5 := by have e9 := lp4k1; rw [(by omega : (i).toNat = 64)] at e9; exact e9
          exact gz_end (I := .return_) (len := 1) rfl (Or.inl rfl) ⟨sh5, rfl, hrw7⟩
        · refine gy_icF rfl (by decide) (by decide) (by omega) (by omega) hc6 ?_
          refine gz_s 1 (pc' := 40) (L' := [some (.ref x), some (.ref nb9), some (.int (zi qu)), some (.int (zi zq1)), some (.int (zi jn3v0)), some (.int (zi i))]) (S' := [.ref x]) rfl ?_
          refine gs_gtr rfl (by decide) rfl sh5.1 tx rfl rfl rfl (fun c8 ec8 tc8 => ?_)
          refine gz_s 5 (pc' := 52) (L' := [some (.ref x), some (.ref nb9), some (.int (zi qu)), some (.int (zi zq1)), some (.int (zi jn3v0)), some (.int (zi i))]) (S' := [.int (zi i), .ref nb9, .int (zi 255), .int (zi 1), .int (zi i), .ref c8]) rfl ?_
          have hl9 : 256 ≤ h5.2.2.2.1 nb9 ∧ h5.2.2.2.1 nb9 ≤ 256 := gJ.rowl (G := gGG) sh5.1 tnb9 rfl
          refine gs_ald rfl (by decide) sh5.1 tnb9 rfl rfl rfl (by decide) (fun _ => rfl) (by omega) (by omega) (fun z10 ez10 az10 bz10 => ?_)
          have hf11 := gRn.at (i := i) (z := z10) lp4k0 tnb9 ez10 (by omega) (by omega) (by omega)
          have hx12 := zx_f (a := z10) (b := jn3v0) (A := 255) (B := 5000) (by omega) (by omega) (by omega) (by omega)
          refine gy_s 5 (pc' := 61) (L' := [some (.ref x), some (.ref nb9), some (.int (zi qu)), some (.int (zi zq1)), some (.int (zi jn3v0)), some (.int (zi i))]) (S' := [.int (zi 100), .int (((zi z10) * (zi jn3v0)) + (zi 50)), .int (zi 255), .int (zi 1), .int (zi i), .ref c8]) (L2 := [some (.ref x), some (.ref nb9), some (.int (zi qu)), some (.int (zi zq1)), some (.int (zi jn3v0)), some (.int (zi i))]) (S2 := [.int (zi 100), .int (zi ((z10 * jn3v0) + 50)), .int (zi 255), .int (zi 1), .int (zi i), .ref c8]) rfl (by simp only [zi_add, zi_sub, zi_mul, zi_neg, zi_and1, zi_and7, zi_and15, zi_and31, zi_and255]) (by simp only [zi_add, zi_sub, zi_mul, zi_neg, zi_and1, zi_and7, zi_and15, zi_and31, zi_and255]) ?_
          refine gy_div rfl (by decide) (by omega) (by omega) ?_
          refine gz_call rfl (by decide) rfl (by decide) (by decide) (gcal_of rfl rfl rfl (Nat.le_of_ble_eq_true rfl) rfl) (cl_Math_min _ sh5.1 255 ⟨by omega, by omega⟩ (((z10 * jn3v0) + 50) / 100) ⟨by omega, by omega⟩ ) (fun q13 _ wq13 => ?_)
          obtain ⟨pq13, oq13, hq13⟩ := q13
          obtain ⟨xq13, zq13, gq13, aq13, bq13, uq13_0, uq13_1, uq13_2⟩ := wq13
          refine ⟨_, gq13, ?_⟩
          show gz gPP gGG gcn _ _ 65 [some (.ref x), some (.ref nb9), some (.int (zi qu)), some (.int (zi zq1)), some (.int (zi jn3v0)), some (.int (zi i))] [.int (zi zq13), .int (zi 1), .int (zi i), .ref c8] hq13 _
          have sq13 : gSs rT 1027 ty [72999] h hq13 := gSs.tr sh5 xq13 (by decide)
          have s14 := (xq13.2.2.2.2.2 x 1 (by rw [tx]; decide)).trans ec8
          have pr15 := gRn.fr xq13.2 (by decide) lp4k0
          have pr16 := gRn.fr xq13.2 (by decide) lp4k1
          refine gz_call rfl (by decide) rfl (by decide) (by decide) (gcal_of rfl rfl rfl (Nat.le_of_ble_eq_true rfl) rfl) (cl_Math_max _ sq13.1 1 ⟨by omega, by omega⟩ zq13 ⟨by omega, by omega⟩ ) (fun q17 _ wq17 => ?_)
          obtain ⟨pq17, oq17, hq17⟩ := q17
          obtain ⟨xq17, zq17, gq17, aq17, bq17, uq17_0, uq17_1, uq17_2⟩ := wq17
          refine ⟨_, gq17, ?_⟩
          show gz gPP gGG gcn _ _ 68 [some (.ref x), some (.ref nb9), some (.int (zi qu)), some (.int (zi zq1)), some (.int (zi jn3v0)), some (.int (zi i))] [.int (zi zq17), .int (zi i), .ref c8] hq17 _
          have sq17 : gSs rT 1027 ty [72999] h hq17 := gSs.tr sq13 xq17 (by decide)
          have s18 := (xq17.2.2.2.2.2 x 1 (by rw [tx]; decide)).trans s14
          have pr19 := gRn.fr xq17.2 (by decide) pr15
          have pr20 := gRn.fr xq17.2 (by decide) pr16
          have hl21 : 64 ≤ hq17.2.2.2.1 c8 ∧ hq17.2.2.2.1 c8 ≤ 64 := gJ.rowl (G := gGG) sq17.1 tc8 rfl
          refine gs_ast rfl (by decide) sq17 tc8 rfl rfl rfl (by decide) (fun _ => rfl) (by omega) (by omega) (fun _ => (by decide : (72999 : Nat) ∈ ([72999] : List Nat))) (by omega) (by omega) (fun h22 sh22 eh22 fh22 => ?_)
          have pr23 := gRn.pt fh22 tc8 (by decide) pr19
          have s24 := (fh22 x 1 (fun q => absurd (((tx).symm.trans (congrArg ty q.1)).trans tc8) (by decide))).trans s18
          have pr25 := gEl.set (i := i) (z := zq17) uq tc8 (by decide) eh22 (by omega) (by omega)
          have hrw26 : gRn (i + 1).toNat ty 72 (eTb nb qu) h22 := gRn.ext (z := zq17) uq tc8 (by decide) fh22 eh22 (by omega) (by omega) (by omega) (eTb_of (s := jn3v0) (t := ((z10 * jn3v0) + 50) / 100) (m := zq13) hf11 (by omega) (by rfl) (by omega) (by omega) (by omega) (by omega) (by omega) (by omega)) pr20
          refine gy_s 2 (pc' := 32) (L' := [some (.ref x), some (.ref nb9), some (.int (zi qu)), some (.int (zi zq1)), some (.int (zi jn3v0)), some (.int ((zi i) + zi 1))]) (S' := []) (L2 := [some (.ref x), some (.ref nb9), some (.int (zi qu)), some (.int (zi zq1)), some (.int (zi jn3v0)), some (.int (zi (i + 1)))]) (S2 := []) rfl (by simp only [zi_add, zi_sub, zi_mul, zi_neg, zi_and1, zi_and7, zi_and15, zi_and31, zi_and255]) (by simp only [zi_add, zi_sub, zi_mul, zi_neg, zi_and1, zi_and7, zi_and15, zi_and31, zi_and255]) ?_
          exact gz_wk (ihlp4 h22 (i + 1) (by omega) sh22 (by omega) pr23 hrw26) (gLw.s (gLw.s (gLw.s (gLw.s (gLw.s (gLw.s gLw.z))))))
    exact gz_wk (lp4 _ hq1 0 (Nat.lt_succ_self _) sq1 (by omega) pr2 (gRn.nil (fun _ => rfl))) (gLw.s (gLw.s (gLw.s (gLw.s (gLw.s (gLw.s gLw.z))))))
  by_cases hc27 : (50 : Int) ≤ zq1
  · refine gy_icT (pc' := 20) rfl (by decide) (by decide) (by omega) (by omega) hc27 ?_
    refine gy_s 5 (pc' := 27) (L' := [some (.ref x), some (.ref nb9), some (.int (zi qu)), some (.int (zi zq1)), none, none]) (S' := [.int ((zi 200) - ((zi 2) * (zi zq1)))]) (L2 := [some (.ref x), some (.ref nb9), some (.int (zi qu)), some (.int (zi zq1)), none, none]) (S2 := [.int (zi (200 - (2 * zq1)))]) rfl (by simp only [zi_add, zi_sub, zi_mul, zi_neg, zi_and1, zi_and7, zi_and15, zi_and31, zi_and255]) (by simp only [zi_add, zi_sub, zi_mul, zi_neg, zi_and1, zi_and7, zi_and15, zi_and31, zi_and255]) ?_
    exact jn3 (200 - (2 * zq1)) (by omega)
  · refine gy_icF rfl (by decide) (by decide) (by omega) (by omega) hc27 ?_
    refine gz_s 2 (pc' := 16) (L' := [some (.ref x), some (.ref nb9), some (.int (zi qu)), some (.int (zi zq1)), none, none]) (S' := [.int (zi zq1), .int (zi 5000)]) rfl ?_
    refine gy_div rfl (by decide) (by omega) (by omega) ?_
    have hd28 := zd_f (x := 5000) (y := zq1) (by omega) (by omega)
    refine gz_s 1 (pc' := 27) (L' := [some (.ref x), some (.ref nb9), some (.int (zi qu)), some (.int (zi zq1)), none, none]) (S' := [.int (zi (5000 / zq1))]) rfl ?_
    exact jn3 (5000 / zq1) (by omega)
set_option maxRecDepth 20000 in
set_option maxHeartbeats 4000000 in
theorem cw_filledPoint (d : Nat) {ty : Nat → Nat} {h : gH} (hJ : gJ rT 1027 ty h) (x : Nat) (tx : ty x = 55) (px : Int) (rpx : 0 ≤ px ∧ px ≤ 200) (py : Int) (rpy : 0 ≤ py ∧ py ≤ 200) (ww : Int) (eww : h.2.2.2.2 x 1 = .int (zi ww)) (rww : 1 ≤ ww ∧ ww ≤ 32) (hh : Int) (ehh : h.2.2.2.2 x 2 = .int (zi hh)) (rhh : 1 ≤ hh ∧ hh ≤ 32) (C : Nat → Int) (uq : gUq ty) (hyf59 : gRn 1024 ty 59 C h) : gz gPP gGG gcn (d + 1) gt95 0 (gent [.ref x, .int (zi px), .int (zi py)] 5) [] h (fun q _ => gSs rT 1027 ty [] h q.2.2 ∧ ∃ z : Int, gfin gt95 q.1 q.2.1 = some (some (.int (zi z))) ∧ 0 ≤ z ∧ z ≤ 255 ∧ (z - 128 = ePt C ww hh px py)) := by
  have hS : gSs rT 1027 ty [] h h := gSs.rf hJ
  refine gz_s 3 (pc' := 3) (L' := [some (.ref x), some (.int (zi px)), some (.int (zi py)), none, none]) (S' := [.ref x, .int (zi py), .int (zi 0)]) rfl ?_
  refine gs_gtk rfl (by decide) rfl hS.1 tx rfl rfl ehh ?_
  refine gy_s 2 (pc' := 8) (L' := [some (.ref x), some (.int (zi px)), some (.int (zi py)), none, none]) (S' := [.int ((zi hh) - (zi 1)), .int (zi py), .int (zi 0)]) (L2 := [some (.ref x), some (.int (zi px)), some (.int (zi py)), none, none]) (S2 := [.int (zi (hh - 1)), .int (zi py), .int (zi 0)]) rfl (by simp only [zi_add, zi_sub, zi_mul, zi_neg, zi_and1, zi_and7, zi_and15, zi_and31, zi_and255]) (by simp only [zi_add, zi_sub, zi_mul, zi_neg, zi_and1, zi_and7, zi_and15, zi_and31, zi_and255]) ?_
  refine gz_call rfl (by decide) rfl (by decide) (by decide) (gcal_of rfl rfl rfl (Nat.le_of_ble_eq_true rfl) rfl) (cl_Math_min _ hS.1 py ⟨by omega, by omega⟩ (hh - 1) ⟨by omega, by omega⟩ ) (fun q1 _ wq1 => ?_)
  obtain ⟨pq1, oq1, hq1⟩ := q1
  obtain ⟨xq1, zq1, gq1, aq1, bq1, uq1_0, uq1_1, uq1_2⟩ := wq1
  refine ⟨_, gq1, ?_⟩
  show gz gPP gGG gcn _ _ 11 [some (.ref x), some (.int (zi px)), some (.int (zi py)), none, none] [.int (zi zq1), .int (zi 0)] hq1 _
  have sq1 : gSs rT 1027 ty [] h hq1 := gSs.tr hS xq1 (by decide)
  have s2 := (xq1.2.2.2.2.2 x 1 (by rw [tx]; decide)).trans eww
  have s3 := (xq1.2.2.2.2.2 x 2 (by rw [tx]; decide)).trans ehh
  have pr4 := gRn.fr xq1.2 (by decide) hyf59
  refine gz_call rfl (by decide) rfl (by decide) (by decide) (gcal_of rfl rfl rfl (Nat.le_of_ble_eq_true rfl) rfl) (cl_Math_max _ sq1.1 0 ⟨by omega, by omega⟩ zq1 ⟨by omega, by omega⟩ ) (fun q5 _ wq5 => ?_)
  obtain ⟨pq5, oq5, hq5⟩ := q5
  obtain ⟨xq5, zq5, gq5, aq5, bq5, uq5_0, uq5_1, uq5_2⟩ := wq5
  refine ⟨_, gq5, ?_⟩
  show gz gPP gGG gcn _ _ 14 [some (.ref x), some (.int (zi px)), some (.int (zi py)), none, none] [.int (zi zq5)] hq5 _
  have sq5 : gSs rT 1027 ty [] h hq5 := gSs.tr sq1 xq5 (by decide)
  have s6 := (xq5.2.2.2.2.2 x 1 (by rw [tx]; decide)).trans s2
  have s7 := (xq5.2.2.2.2.2 x 2 (by rw [tx]; decide)).trans s3
  have pr8 := gRn.fr xq5.2 (by decide) pr4
  refine gz_s 4 (pc' := 18) (L' := [some (.ref x), some (.int (zi px)), some (.int (zi py)), some (.int (zi zq5)), none]) (S' := [.ref x, .int (zi px), .int (zi 0)]) rfl ?_
  refine gs_gtk rfl (by decide) rfl sq5.1 tx rfl rfl s6 ?_
  refine gy_s 2 (pc' := 23) (L' := [some (.ref x), some (.int (zi px)), some (.int (zi py)), some (.int (zi zq5)), none]) (S' := [.int ((zi ww) - (zi 1)), .int (zi px), .int (zi 0)]) (L2 := [some (.ref x), some (.int (zi px)), some (.int (zi py)), some (.int (zi zq5)), none]) (S2 := [.int (zi (ww - 1)), .int (zi px), .int (zi 0)]) rfl (by simp only [zi_add, zi_sub, zi_mul, zi_neg, zi_and1, zi_and7, zi_and15, zi_and31, zi_and255]) (by simp only [zi_add, zi_sub, zi_mul, zi_neg, zi_and1, zi_and7, zi_and15, zi_and31, zi_and255]) ?_
  refine gz_call rfl (by decide) rfl (by decide) (by decide) (gcal_of rfl rfl rfl (Nat.le_of_ble_eq_true rfl) rfl) (cl_Math_min _ sq5.1 px ⟨by omega, by omega⟩ (ww - 1) ⟨by omega, by omega⟩ ) (fun q9 _ wq9 => ?_)
  obtain ⟨pq9, oq9, hq9⟩ := q9
  obtain ⟨xq9, zq9, gq9, aq9, bq9, uq9_0, uq9_1, uq9_2⟩ := wq9
  refine ⟨_, gq9, ?_⟩
  show gz gPP gGG gcn _ _ 26 [some (.ref x), some (.int (zi px)), some (.int (zi py)), some (.int (zi zq5)), none] [.int (zi zq9), .int (zi 0)] hq9 _
  have sq9 : gSs rT 1027 ty [] h hq9 := gSs.tr sq5 xq9 (by decide)
  have s10 := (xq9.2.2.2.2.2 x 1 (by rw [tx]; decide)).trans s6
  have s11 := (xq9.2.2.2.2.2 x 2 (by rw [tx]; decide)).trans s7
  have pr12 := gRn.fr xq9.2 (by decide) pr8
  refine gz_call rfl (by decide) rfl (by decide) (by decide) (gcal_of rfl rfl rfl (Nat.le_of_ble_eq_true rfl) rfl) (cl_Math_max _ sq9.1 0 ⟨by omega, by omega⟩ zq9 ⟨by omega, by omega⟩ ) (fun q13 _ wq13 => ?_)
  obtain ⟨pq13, oq13, hq13⟩ := q13
  obtain ⟨xq13, zq13, gq13, aq13, bq13, uq13_0, uq13_1, uq13_2⟩ := wq13
  refine ⟨_, gq13, ?_⟩
  show gz gPP gGG gcn _ _ 29 [some (.ref x), some (.int (zi px)), some (.int (zi py)), some (.int (zi zq5)), none] [.int (zi zq13)] hq13 _
  have sq13 : gSs rT 1027 ty [] h hq13 := gSs.tr sq9 xq13 (by decide)
  have s14 := (xq13.2.2.2.2.2 x 1 (by rw [tx]; decide)).trans s10
  have s15 := (xq13.2.2.2.2.2 x 2 (by rw [tx]; decide)).trans s11
  have pr16 := gRn.fr xq13.2 (by decide) pr12
  refine gz_s 2 (pc' := 32) (L' := [some (.ref x), some (.int (zi px)), some (.int (zi py)), some (.int (zi zq5)), some (.int (zi zq13))]) (S' := [.ref x]) rfl ?_
  refine gs_gtr rfl (by decide) rfl sq13.1 tx rfl rfl rfl (fun c17 ec17 tc17 => ?_)
  refine gy_s 5 (pc' := 42) (L' := [some (.ref x), some (.int (zi px)), some (.int (zi py)), some (.int (zi zq5)), some (.int (zi zq13))]) (S' := [.int (((zi zq5) * (zi 32)) + (zi zq13)), .ref c17]) (L2 := [some (.ref x), some (.int (zi px)), some (.int (zi py)), some (.int (zi zq5)), some (.int (zi zq13))]) (S2 := [.int (zi ((zq5 * 32) + zq13)), .ref c17]) rfl (by simp only [zi_add, zi_sub, zi_mul, zi_neg, zi_and1, zi_and7, zi_and15, zi_and31, zi_and255]) (by simp only [zi_add, zi_sub, zi_mul, zi_neg, zi_and1, zi_and7, zi_and15, zi_and31, zi_and255]) ?_
  have hl18 : 1024 ≤ hq13.2.2.2.1 c17 ∧ hq13.2.2.2.1 c17 ≤ 1024 := gJ.rowl (G := gGG) sq13.1 tc17 rfl
  refine gs_ald rfl (by decide) sq13.1 tc17 rfl rfl rfl (by decide) (fun _ => rfl) (by omega) (by omega) (fun z19 ez19 az19 bz19 => ?_)
  have hf20 := gRn.at (i := (zq5 * 32) + zq13) (z := z19) pr16 tc17 ez19 (by omega) (by omega) (by omega)
  have hpt := ePt_of (C := C) (w := ww) (h := hh) (x := px) (y := py) (r := zq5) (c := zq13) (z := z19) (by omega) (by omega) (by omega) (by omega) (by omega) (by omega) hf20
  exact gz_end (I := .ireturn) (len := 1) rfl (Or.inl rfl) ⟨sq13, z19, rfl, (by omega), (by omega), (by omega)⟩
set_option maxRecDepth 20000 in
set_option maxHeartbeats 4000000 in
theorem cw_cosine (d : Nat) {ty : Nat → Nat} {h : gH} (hJ : gJ rT 1027 ty h) (u : Int) (ru : 0 ≤ u ∧ u ≤ 7) (x1 : Int) (rx1 : 0 ≤ x1 ∧ x1 ≤ 7) (hysx : gStx ty h) : gz gPP gGG gcn (d + 0) gt74 0 (gent [.int (zi u), .int (zi x1)] 2) [] h (fun q _ => gSs rT 1027 ty [] h q.2.2 ∧ ∃ z : Int, gfin gt74 q.1 q.2.1 = some (some (.int (zi z))) ∧ (-4096) ≤ z ∧ z ≤ 4096 ∧ (z = eCs u x1)) := by
  have hS : gSs rT 1027 ty [] h h := gSs.rf hJ
  refine gz_s 1 (pc' := 1) (L' := [some (.int (zi u)), some (.int (zi x1))]) (S' := [.int (zi u)]) rfl ?_
  by_cases hc1 : ¬ (u : Int) = 0
  · refine gy_ifT (pc' := 10) rfl (by decide) (by decide) (by omega) hc1 ?_
    refine gz_1 rfl (by decide) rfl rfl (pc' := 13) (S' := [.ref 1]) (h' := h) rfl ?_
    have hx2 := zx_f (a := (2 * x1) + 1) (b := u) (A := 15) (B := 7) (by omega) (by omega) (by omega) (by omega)
    refine gy_s 9 (pc' := 23) (L' := [some (.int (zi u)), some (.int (zi x1))]) (S' := [.int (((((zi 2) * (zi x1)) + (zi 1)) * (zi u)) &&& (zi 31)), .ref 1]) (L2 := [some (.int (zi u)), some (.int (zi x1))]) (S2 := [.int (zi ((((2 * x1) + 1) * u) % 32)), .ref 1]) rfl (by simp only [zi_add, zi_sub, zi_mul, zi_neg, zi_and1, zi_and7, zi_and15, zi_and31, zi_and255]) (by simp only [zi_add, zi_sub, zi_mul, zi_neg, zi_and1, zi_and7, zi_and15, zi_and31, zi_and255]) ?_
    refine gs_st1x rfl (by decide) rfl hysx (by omega) (by omega) ?_
    have hb4 := eWv_b (k := (((2 * x1) + 1) * u) % 32) (by omega) (by omega)
    have hcs : eCs u x1 = eWv ((((2 * x1) + 1) * u) % 32) := eCs_n (by omega) rfl
    exact gz_end (I := .ireturn) (len := 1) rfl (Or.inl rfl) ⟨hS, eWv ((((2 * x1) + 1) * u) % 32), rfl, (by omega), (by omega), (by omega)⟩
  · refine gy_ifF rfl (by decide) (by decide) (by omega) hc1 ?_
    refine gz_s 2 (pc' := 24) (L' := [some (.int (zi u)), some (.int (zi x1))]) (S' := [.int (zi 2896)]) rfl ?_
    have hcs : eCs u x1 = 2896 := by rw [show u = 0 by omega]; rfl
    exact gz_end (I := .ireturn) (len := 1) rfl (Or.inl rfl) ⟨hS, 2896, rfl, (by omega), (by omega), (by omega)⟩
set_option maxRecDepth 20000 in
set_option maxHeartbeats 4000000 in
theorem cw_transformRows (d : Nat) {ty : Nat → Nat} {h : gH} (hJ : gJ rT 1027 ty h) (x : Nat) (tx : ty x = 71) (dr : Nat) (tdr : ty dr = 55) (lf : Int) (rlf : 0 ≤ lf ∧ lf ≤ 160) (tp : Int) (rtp : 0 ≤ tp ∧ tp ≤ 160) (ww : Int) (eww : h.2.2.2.2 dr 1 = .int (zi ww)) (rww : 1 ≤ ww ∧ ww ≤ 32) (hh : Int) (ehh : h.2.2.2.2 dr 2 = .int (zi hh)) (rhh : 1 ≤ hh ∧ hh ≤ 32) (C : Nat → Int) (uq : gUq ty) (hyf59 : gRn 1024 ty 59 C h) (hysx : gStx ty h) : gz gPP gGG gcn (d + 2) gt94 0 (gent [.ref x, .ref dr, .int (zi lf), .int (zi tp)] 9) [] h (fun q _ => gSs rT 1027 ty [74999] h q.2.2 ∧ gfin gt94 q.1 q.2.1 = some none ∧ (gRl 64 ty 74 (eHf C ww hh lf tp) q.2.2)) := by
  have hS : gSs rT 1027 ty [74999] h h := gSs.rf hJ
  refine gz_s 2 (pc' := 3) (L' := [some (.ref x), some (.ref dr), some (.int (zi lf)), some (.int (zi tp)), some (.int (zi 0)), none, none, none, none]) (S' := []) rfl ?_
  have lp1 : ∀ (fu : Nat) (h2 : gH) (y : Int), (9 - y).toNat < fu → gSs rT 1027 ty [74999] h h2 → (0 ≤ y ∧ y ≤ 8) → h2.2.2.2.2 dr 1 = .int (zi ww) → h2.2.2.2.2 dr 2 = .int (zi hh) → gRn 1024 ty 59 C h2 → gStx ty h2 → gRl (8 * y).toNat ty 74 (eHf C ww hh lf tp) h2 → gz gPP gGG gcn (d + 2) gt94 3 [some (.ref x), some (.ref dr), some (.int (zi lf)), some (.int (zi tp)), some (.int (zi y)), none, none, none, none] [] h2 (fun q _ => gSs rT 1027 ty [74999] h q.2.2 ∧ gfin gt94 q.1 q.2.1 = some none ∧ (gRl 64 ty 74 (eHf C ww hh lf tp) q.2.2)) := by
    intro fu
    induction fu with
    | zero => intro h2 y hm; exact absurd hm (Nat.not_lt_zero _)
    | succ fu ihlp1 =>
      intro h2 y lp1m sh2 lp1f0 lp1k0 lp1k1 lp1k2 lp1k3 lp1k4
      refine gz_s 2 (pc' := 7) (L' := [some (.ref x), some (.ref dr), some (.int (zi lf)), some (.int (zi tp)), some (.int (zi y)), none, none, none, none]) (S' := [.int (zi 8), .int (zi y)]) rfl ?_
      by_cases hc3 : (8 : Int) ≤ y
      · refine gy_icT (pc' := 97) rfl (by decide) (by decide) (by omega) (by omega) hc3 ?_
        have hrl4 : gRl 64 ty 74 (eHf C ww hh lf tp) h2 := by
          have e9 := lp1k4
          rw [(by omega : (8 * y).toNat = 64)] at e9
          exact e9
        exact gz_end (I := .return_) (len := 1) rfl (Or.inl rfl) ⟨sh2, rfl, hrl4⟩
      · refine gy_icF rfl (by decide) (by decide) (by omega) (by omega) hc3 ?_
        refine gz_s 2 (pc' := 13) (L' := [some (.ref x), some (.ref dr), some (.int (zi lf)), some (.int (zi tp)), some (.int (zi y)), some (.int (zi 0)), none, none, none]) (S' := []) rfl ?_
        have lp5 : ∀ (fu : Nat) (h6 : gH) (u : Int), (9 - u).toNat < fu → gSs rT 1027 ty [74999] h h6 → (0 ≤ u ∧ u ≤ 8) → h6.2.2.2.2 dr 1 = .int (zi ww) → h6.2.2.2.2 dr 2 = .int (zi hh) → gRn 1024 ty 59 C h6 → gStx ty h6 → gRl (8 * y + u).toNat ty 74 (eHf C ww hh lf tp) h6 → gz gPP gGG gcn (d + 2) gt94 13 [some (.ref x), some (.ref dr), some (.int (zi lf)), some (.int (zi tp)), some (.int (zi y)), some (.int (zi u)), none, none, none] [] h6 (fun q _ => gSs rT 1027 ty [74999] h q.2.2 ∧ gfin gt94 q.1 q.2.1 = some none ∧ (gRl 64 ty 74 (eHf C ww hh lf tp) q.2.2)) := by
          intro fu
          induction fu with
          | zero => intro h6 u hm; exact absurd hm (Nat.not_lt_zero _)
          | succ fu ihlp5 =>
            intro h6 u lp5m sh6 lp5f0 lp5k0 lp5k1 lp5k2 lp5k3 lp5k4
            refine gz_s 2 (pc' := 17) (L' := [some (.ref x), some (.ref dr), some (.int (zi lf)), some (.int (zi tp)), some (.int (zi y)), some (.int (zi u)), none, none, none]) (S' := [.int (zi 8), .int (zi u)]) rfl ?_
            by_cases hc7 : (8 : Int) ≤ u
            · refine gy_icT (pc' := 91) rfl (by decide) (by decide) (by omega) (by omega) hc7 ?_
              have hrl8 : gRl (8 * (y + 1)).toNat ty 74 (eHf C ww hh lf tp) h6 := by
                have e9 := lp5k4
                rw [(by omega : 8 * y + u = 8 * (y + 1))] at e9
                exact e9
              refine gy_s 2 (pc' := 3) (L' := [some (.ref x), some (.ref dr), some (.int (zi lf)), some (.int (zi tp)), some (.int ((zi y) + zi 1)), some (.int (zi u)), none, none, none]) (S' := []) (L2 := [some (.ref x), some (.ref dr), some (.int (zi lf)), some (.int (zi tp)), some (.int (zi (y + 1))), some (.int (zi u)), none, none, none]) (S2 := []) rfl (by simp only [zi_add, zi_sub, zi_mul, zi_neg, zi_and1, zi_and7, zi_and15, zi_and31, zi_and255]) (by simp only [zi_add, zi_sub, zi_mul, zi_neg, zi_and1, zi_and7, zi_and15, zi_and31, zi_and255]) ?_
              exact gz_wk (ihlp1 h6 (y + 1) (by omega) sh6 (by omega) lp5k0 lp5k1 lp5k2 lp5k3 hrl8) (gLw.s (gLw.s (gLw.s (gLw.s (gLw.s (gLw.n (gLw.n (gLw.n (gLw.n gLw.z)))))))))
            · refine gy_icF rfl (by decide) (by decide) (by omega) (by omega) hc7 ?_
              refine gz_s 4 (pc' := 26) (L' := [some (.ref x), some (.ref dr), some (.int (zi lf)), some (.int (zi tp)), some (.int (zi y)), some (.int (zi u)), some (.long (zl 0)), none, some (.int (zi 0))]) (S' := []) rfl ?_
              have lp9 : ∀ (fu : Nat) (h10 : gH) (sm : Int) (xx : Int), (9 - xx).toNat < fu → gSs rT 1027 ty [74999] h h10 → ((-4194304) ≤ sm ∧ sm ≤ 4194304) → (0 ≤ xx ∧ xx ≤ 8) → (-(524288 * xx) ≤ sm) → (sm ≤ 524288 * xx) → (sm = eS8 (fun x9 => eCs u x9 * ePt C ww hh (lf + x9) (tp + y)) (xx).toNat) → h10.2.2.2.2 dr 1 = .int (zi ww) → h10.2.2.2.2 dr 2 = .int (zi hh) → gRn 1024 ty 59 C h10 → gStx ty h10 → gRl (8 * y + u).toNat ty 74 (eHf C ww hh lf tp) h10 → gz gPP gGG gcn (d + 2) gt94 26 [some (.ref x), some (.ref dr), some (.int (zi lf)), some (.int (zi tp)), some (.int (zi y)), some (.int (zi u)), some (.long (zl sm)), none, some (.int (zi xx))] [] h10 (fun q _ => gSs rT 1027 ty [74999] h q.2.2 ∧ gfin gt94 q.1 q.2.1 = some none ∧ (gRl 64 ty 74 (eHf C ww hh lf tp) q.2.2)) := by
                intro fu
                induction fu with
                | zero => intro h10 sm xx hm; exact absurd hm (Nat.not_lt_zero _)
                | succ fu ihlp9 =>
                  intro h10 sm xx lp9m sh10 lp9f0 lp9f1 lp9f2 lp9f3 lp9f4 lp9k0 lp9k1 lp9k2 lp9k3 lp9k4
                  refine gz_s 2 (pc' := 30) (L' := [some (.ref x), some (.ref dr), some (.int (zi lf)), some (.int (zi tp)), some (.int (zi y)), some (.int (zi u)), some (.long (zl sm)), none, some (.int (zi xx))]) (S' := [.int (zi 8), .int (zi xx)]) rfl ?_
                  by_cases hc11 : (8 : Int) ≤ xx
                  · refine gy_icT (pc' := 70) rfl (by decide) (by decide) (by omega) (by omega) hc11 ?_
                    refine gz_s 1 (pc' := 71) (L' := [some (.ref x), some (.ref dr), some (.int (zi lf)), some (.int (zi tp)), some (.int (zi y)), some (.int (zi u)), some (.long (zl sm)), none, some (.int (zi xx))]) (S' := [.ref x]) rfl ?_
                    refine gs_gtr rfl (by decide) rfl sh10.1 tx rfl rfl rfl (fun c12 ec12 tc12 => ?_)
                    refine gy_s 6 (pc' := 84) (L' := [some (.ref x), some (.ref dr), some (.int (zi lf)), some (.int (zi tp)), some (.int (zi y)), some (.int (zi u)), some (.long (zl sm)), none, some (.int (zi xx))]) (S' := [.long (zl sm), .int (((zi 8) * (zi y)) + (zi u)), .ref c12]) (L2 := [some (.ref x), some (.ref dr), some (.int (zi lf)), some (.int (zi tp)), some (.int (zi y)), some (.int (zi u)), some (.long (zl sm)), none, some (.int (zi xx))]) (S2 := [.long (zl sm), .int (zi ((8 * y) + u)), .ref c12]) rfl (by simp only [zi_add, zi_sub, zi_mul, zi_neg, zi_and1, zi_and7, zi_and15, zi_and31, zi_and255, zl_add, zl_sub, zl_mul, zl_neg]) (by simp only [zi_add, zi_sub, zi_mul, zi_neg, zi_and1, zi_and7, zi_and15, zi_and31, zi_and255, zl_add, zl_sub, zl_mul, zl_neg]) ?_
                    have hx8 : eS8 (fun x9 => eCs u x9 * ePt C ww hh (lf + x9) (tp + y)) (xx).toNat = eHw C ww hh lf tp u y := by rw [(by omega : (xx).toNat = 8)]; rfl
                    have hl13 : 64 ≤ h10.2.2.2.1 c12 ∧ h10.2.2.2.1 c12 ≤ 64 := gJ.rowl (G := gGG) sh10.1 tc12 rfl
                    refine gs_last rfl (by decide) sh10 tc12 rfl rfl rfl (by decide) (fun _ => rfl) (by omega) (by omega) (fun _ => (by decide : (74999 : Nat) ∈ ([74999] : List Nat))) (by omega) (by omega) (fun h14 sh14 eh14 fh14 => ?_)
                    have pr15 := gRn.pt fh14 tc12 (by decide) lp9k2
                    have pr16 := gStx.pt sh10 sh14 fh14 tc12 (by decide) lp9k3
                    have s17 := (fh14 dr 1 (fun q => absurd (((tdr).symm.trans (congrArg ty q.1)).trans tc12) (by decide))).trans lp9k0
                    have s18 := (fh14 dr 2 (fun q => absurd (((tdr).symm.trans (congrArg ty q.1)).trans tc12) (by decide))).trans lp9k1
                    have s19 := (fh14 x 3 (fun q => absurd (((tx).symm.trans (congrArg ty q.1)).trans tc12) (by decide))).trans ec12
                    have hrl20 : gRl (8 * y + (u + 1)).toNat ty 74 (eHf C ww hh lf tp) h14 := by
                      rw [(by omega : 8 * y + (u + 1) = 8 * y + u + 1)]
                      refine gRl.ext (z := sm) uq tc12 (by decide) fh14 eh14 (by omega) (by omega) (by omega) ?_ lp9k4
                      rw [show sm = eHw C ww hh lf tp u y by omega]
                      unfold eHf
                      rw [(by omega : (((8 * y + u).toNat % 8 : Nat) : Int) = u), (by omega : (((8 * y + u).toNat / 8 : Nat) : Int) = y)]
                    refine gy_s 2 (pc' := 13) (L' := [some (.ref x), some (.ref dr), some (.int (zi lf)), some (.int (zi tp)), some (.int (zi y)), some (.int ((zi u) + zi 1)), some (.long (zl sm)), none, some (.int (zi xx))]) (S' := []) (L2 := [some (.ref x), some (.ref dr), some (.int (zi lf)), some (.int (zi tp)), some (.int (zi y)), some (.int (zi (u + 1))), some (.long (zl sm)), none, some (.int (zi xx))]) (S2 := []) rfl (by simp only [zi_add, zi_sub, zi_mul, zi_neg, zi_and1, zi_and7, zi_and15, zi_and31, zi_and255, zl_add, zl_sub, zl_mul, zl_neg]) (by simp only [zi_add, zi_sub, zi_mul, zi_neg, zi_and1, zi_and7, zi_and15, zi_and31, zi_and255, zl_add, zl_sub, zl_mul, zl_neg]) ?_
                    exact gz_wk (ihlp5 h14 (u + 1) (by omega) sh14 (by omega) s17 s18 pr15 pr16 hrl20) (gLw.s (gLw.s (gLw.s (gLw.s (gLw.s (gLw.s (gLw.n (gLw.n (gLw.n gLw.z)))))))))
                  · refine gy_icF rfl (by decide) (by decide) (by omega) (by omega) hc11 ?_
                    refine gz_s 3 (pc' := 39) (L' := [some (.ref x), some (.ref dr), some (.int (zi lf)), some (.int (zi tp)), some (.int (zi y)), some (.int (zi u)), some (.long (zl sm)), none, some (.int (zi xx))]) (S' := [.int (zi xx), .int (zi u), .long (zl sm)]) rfl ?_
                    refine gz_call rfl (by decide) rfl (by decide) (by decide) (gcal_of rfl rfl rfl (Nat.le_of_ble_eq_true rfl) rfl) (cw_cosine _ sh10.1 u ⟨by omega, by omega⟩ xx ⟨by omega, by omega⟩ lp9k3) (fun q21 _ wq21 => ?_)
                    obtain ⟨pq21, oq21, hq21⟩ := q21
                    obtain ⟨xq21, zq21, gq21, aq21, bq21, uq21_0⟩ := wq21
                    refine ⟨_, gq21, ?_⟩
                    show gz gPP gGG gcn _ _ 42 [some (.ref x), some (.ref dr), some (.int (zi lf)), some (.int (zi tp)), some (.int (zi y)), some (.int (zi u)), some (.long (zl sm)), none, some (.int (zi xx))] [.int (zi zq21), .long (zl sm)] hq21 _
                    have sq21 : gSs rT 1027 ty [74999] h hq21 := gSs.tr sh10 xq21 (by decide)
                    have s22 := (xq21.2.2.2.2.2 dr 1 (by rw [tdr]; decide)).trans lp9k0
                    have s23 := (xq21.2.2.2.2.2 dr 2 (by rw [tdr]; decide)).trans lp9k1
                    have pr24 := gRn.fr xq21.2 (by decide) lp9k2
                    have pr25 := gStx.fr xq21.2 (by decide) lp9k3
                    have pr26 := gRl.fr xq21.2 (by decide) lp9k4
                    refine gy_i2l rfl (by decide) ⟨by omega, by omega⟩ ?_
                    refine gy_s 7 (pc' := 52) (L' := [some (.ref x), some (.ref dr), some (.int (zi lf)), some (.int (zi tp)), some (.int (zi y)), some (.int (zi u)), some (.long (zl sm)), none, some (.int (zi xx))]) (S' := [.int ((zi tp) + (zi y)), .int ((zi lf) + (zi xx)), .ref dr, .long (zl zq21), .long (zl sm)]) (L2 := [some (.ref x), some (.ref dr), some (.int (zi lf)), some (.int (zi tp)), some (.int (zi y)), some (.int (zi u)), some (.long (zl sm)), none, some (.int (zi xx))]) (S2 := [.int (zi (tp + y)), .int (zi (lf + xx)), .ref dr, .long (zl zq21), .long (zl sm)]) rfl (by simp only [zi_add, zi_sub, zi_mul, zi_neg, zi_and1, zi_and7, zi_and15, zi_and31, zi_and255, zl_add, zl_sub, zl_mul, zl_neg]) (by simp only [zi_add, zi_sub, zi_mul, zi_neg, zi_and1, zi_and7, zi_and15, zi_and31, zi_and255, zl_add, zl_sub, zl_mul, zl_neg]) ?_
                    refine gz_call rfl (by decide) rfl (by decide) (by decide) (gcal_of rfl rfl rfl (Nat.le_of_ble_eq_true rfl) (gJ.recv (G := gGG) sq21.1 tdr rfl rfl)) (cw_filledPoint _ sq21.1 dr tdr (lf + xx) ⟨by omega, by omega⟩ (tp + y) ⟨by omega, by omega⟩ ww s22 ⟨by omega, by omega⟩ hh s23 ⟨by omega, by omega⟩ C uq pr24) (fun q27 _ wq27 => ?_)
                    obtain ⟨pq27, oq27, hq27⟩ := q27
                    obtain ⟨xq27, zq27, gq27, aq27, bq27, uq27_0⟩ := wq27
                    refine ⟨_, gq27, ?_⟩
                    show gz gPP gGG gcn _ _ 55 [some (.ref x), some (.ref dr), some (.int (zi lf)), some (.int (zi tp)), some (.int (zi y)), some (.int (zi u)), some (.long (zl sm)), none, some (.int (zi xx))] [.int (zi zq27), .long (zl zq21), .long (zl sm)] hq27 _
                    have sq27 : gSs rT 1027 ty [74999] h hq27 := gSs.tr sq21 xq27 (by decide)
                    have s28 := (xq27.2.2.2.2.2 dr 1 (by rw [tdr]; decide)).trans s22
                    have s29 := (xq27.2.2.2.2.2 dr 2 (by rw [tdr]; decide)).trans s23
                    have pr30 := gRn.fr xq27.2 (by decide) pr24
                    have pr31 := gStx.fr xq27.2 (by decide) pr25
                    have pr32 := gRl.fr xq27.2 (by decide) pr26
                    refine gy_s 2 (pc' := 59) (L' := [some (.ref x), some (.ref dr), some (.int (zi lf)), some (.int (zi tp)), some (.int (zi y)), some (.int (zi u)), some (.long (zl sm)), none, some (.int (zi xx))]) (S' := [.int ((zi zq27) - (zi 128)), .long (zl zq21), .long (zl sm)]) (L2 := [some (.ref x), some (.ref dr), some (.int (zi lf)), some (.int (zi tp)), some (.int (zi y)), some (.int (zi u)), some (.long (zl sm)), none, some (.int (zi xx))]) (S2 := [.int (zi (zq27 - 128)), .long (zl zq21), .long (zl sm)]) rfl (by simp only [zi_add, zi_sub, zi_mul, zi_neg, zi_and1, zi_and7, zi_and15, zi_and31, zi_and255, zl_add, zl_sub, zl_mul, zl_neg]) (by simp only [zi_add, zi_sub, zi_mul, zi_neg, zi_and1, zi_and7, zi_and15, zi_and31, zi_and255, zl_add, zl_sub, zl_mul, zl_neg]) ?_
                    refine gy_i2l rfl (by decide) ⟨by omega, by omega⟩ ?_
                    have hx33 := zx_s (a := zq21) (b := zq27 - 128) (A := 4096) (B := 128) (by omega) (by omega) (by omega) (by omega)
                    refine gy_s 3 (pc' := 64) (L' := [some (.ref x), some (.ref dr), some (.int (zi lf)), some (.int (zi tp)), some (.int (zi y)), some (.int (zi u)), some (.long ((zl sm) + ((zl zq21) * (zl (zq27 - 128))))), none, some (.int (zi xx))]) (S' := []) (L2 := [some (.ref x), some (.ref dr), some (.int (zi lf)), some (.int (zi tp)), some (.int (zi y)), some (.int (zi u)), some (.long (zl (sm + (zq21 * (zq27 - 128))))), none, some (.int (zi xx))]) (S2 := []) rfl (by simp only [zi_add, zi_sub, zi_mul, zi_neg, zi_and1, zi_and7, zi_and15, zi_and31, zi_and255, zl_add, zl_sub, zl_mul, zl_neg]) (by simp only [zi_add, zi_sub, zi_mul, zi_neg, zi_and1, zi_and7, zi_and15, zi_and31, zi_and255, zl_add, zl_sub, zl_mul, zl_neg]) ?_
                    have hst : eS8 (fun x9 => eCs u x9 * ePt C ww hh (lf + x9) (tp + y)) (xx + 1).toNat = sm + (zq21 * (zq27 - 128)) := by
                      rw [(by omega : (xx + 1).toNat = (xx).toNat + 1), eS8_s]
                      show eS8 (fun x9 => eCs u x9 * ePt C ww hh (lf + x9) (tp + y)) (xx).toNat + eCs u (((xx).toNat : Nat) : Int) * ePt C ww hh (lf + (((xx).toNat : Nat) : Int)) (tp + y) = _
                      rw [(by omega : (((xx).toNat : Nat) : Int) = xx), ← uq21_0, ← uq27_0]
                      omega
                    refine gy_s 2 (pc' := 26) (L' := [some (.ref x), some (.ref dr), some (.int (zi lf)), some (.int (zi tp)), some (.int (zi y)), some (.int (zi u)), some (.long (zl (sm + (zq21 * (zq27 - 128))))), none, some (.int ((zi xx) + zi 1))]) (S' := []) (L2 := [some (.ref x), some (.ref dr), some (.int (zi lf)), some (.int (zi tp)), some (.int (zi y)), some (.int (zi u)), some (.long (zl (sm + (zq21 * (zq27 - 128))))), none, some (.int (zi (xx + 1)))]) (S2 := []) rfl (by simp only [zi_add, zi_sub, zi_mul, zi_neg, zi_and1, zi_and7, zi_and15, zi_and31, zi_and255, zl_add, zl_sub, zl_mul, zl_neg]) (by simp only [zi_add, zi_sub, zi_mul, zi_neg, zi_and1, zi_and7, zi_and15, zi_and31, zi_and255, zl_add, zl_sub, zl_mul, zl_neg]) ?_
                    exact gz_wk (ihlp9 hq27 (sm + (zq21 * (zq27 - 128))) (xx + 1) (by omega) sq27 (by omega) (by omega) (by omega) (by omega) (by omega) s28 s29 pr30 pr31 pr32) (gLw.s (gLw.s (gLw.s (gLw.s (gLw.s (gLw.s (gLw.s (gLw.n (gLw.s gLw.z)))))))))
              have hs0 : eS8 (fun x9 => eCs u x9 * ePt C ww hh (lf + x9) (tp + y)) (0 : Int).toNat = 0 := rfl
              exact gz_wk (lp9 _ h6 0 0 (Nat.lt_succ_self _) sh6 (by omega) (by omega) (by omega) (by omega) (by omega) lp5k0 lp5k1 lp5k2 lp5k3 lp5k4) (gLw.s (gLw.s (gLw.s (gLw.s (gLw.s (gLw.s (gLw.s (gLw.n (gLw.s gLw.z)))))))))
        exact gz_wk (lp5 _ h2 0 (Nat.lt_succ_self _) sh2 (by omega) lp1k0 lp1k1 lp1k2 lp1k3 (show gRl (8 * y + 0).toNat _ _ _ _ by rw [(by omega : 8 * y + 0 = 8 * y)]; exact lp1k4)) (gLw.s (gLw.s (gLw.s (gLw.s (gLw.s (gLw.s (gLw.n (gLw.n (gLw.n gLw.z)))))))))
  exact gz_wk (lp1 _ h 0 (Nat.lt_succ_self _) hS (by omega) eww ehh hyf59 hysx (show gRl (8 * (0 : Int)).toNat _ _ _ _ from gRl.nil (fun _ => rfl))) (gLw.s (gLw.s (gLw.s (gLw.s (gLw.s (gLw.n (gLw.n (gLw.n (gLw.n gLw.z)))))))))
set_option maxRecDepth 20000 in
set_option maxHeartbeats 4000000 in
theorem cw_sumAt (d : Nat) {ty : Nat → Nat} {h : gH} (hJ : gJ rT 1027 ty h) (x : Nat) (tx : ty x = 71) (u : Int) (ru : 0 ≤ u ∧ u ≤ 7) (v : Int) (rv : 0 ≤ v ∧ v ≤ 7) (C : Nat → Int) (ww : Int) (hh : Int) (lf : Int) (tp : Int) (uq : gUq ty) (hyf74 : gRl 64 ty 74 (eHf C ww hh lf tp) h) (hysx : gStx ty h) : gz gPP gGG gcn (d + 1) gt96 0 (gent [.ref x, .int (zi u), .int (zi v)] 6) [] h (fun q _ => gSs rT 1027 ty [] h q.2.2 ∧ ∃ z : Int, gfin gt96 q.1 q.2.1 = some (some (.long (zl z))) ∧ (-137438953472) ≤ z ∧ z ≤ 137438953472 ∧ (z = eSm C ww hh lf tp u v)) := by
  have hS : gSs rT 1027 ty [] h h := gSs.rf hJ
  refine gz_s 4 (pc' := 5) (L' := [some (.ref x), some (.int (zi u)), some (.int (zi v)), some (.long (zl 0)), none, some (.int (zi 0))]) (S' := []) rfl ?_
  have lp1 : ∀ (fu : Nat) (h2 : gH) (sm : Int) (y : Int), (9 - y).toNat < fu → gSs rT 1027 ty [] h h2 → ((-137438953472) ≤ sm ∧ sm ≤ 137438953472) → (0 ≤ y ∧ y ≤ 8) → (-(17179869184 * y) ≤ sm) → (sm ≤ 17179869184 * y) → (sm = eS8 (fun y9 => eCs v y9 * eHw C ww hh lf tp u y9) (y).toNat) → gRl 64 ty 74 (eHf C ww hh lf tp) h2 → gStx ty h2 → gz gPP gGG gcn (d + 1) gt96 5 [some (.ref x), some (.int (zi u)), some (.int (zi v)), some (.long (zl sm)), none, some (.int (zi y))] [] h2 (fun q _ => gSs rT 1027 ty [] h q.2.2 ∧ ∃ z : Int, gfin gt96 q.1 q.2.1 = some (some (.long (zl z))) ∧ (-137438953472) ≤ z ∧ z ≤ 137438953472 ∧ (z = eSm C ww hh lf tp u v)) := by
    intro fu
    induction fu with
    | zero => intro h2 sm y hm; exact absurd hm (Nat.not_lt_zero _)
    | succ fu ihlp1 =>
      intro h2 sm y lp1m sh2 lp1f0 lp1f1 lp1f2 lp1f3 lp1f4 lp1k0 lp1k1
      refine gz_s 2 (pc' := 9) (L' := [some (.ref x), some (.int (zi u)), some (.int (zi v)), some (.long (zl sm)), none, some (.int (zi y))]) (S' := [.int (zi 8), .int (zi y)]) rfl ?_
      by_cases hc3 : (8 : Int) ≤ y
      · refine gy_icT (pc' := 41) rfl (by decide) (by decide) (by omega) (by omega) hc3 ?_
        have hend : eS8 (fun y9 => eCs v y9 * eHw C ww hh lf tp u y9) (y).toNat = eSm C ww hh lf tp u v := by rw [(by omega : (y).toNat = 8)]; rfl
        refine gz_s 1 (pc' := 42) (L' := [some (.ref x), some (.int (zi u)), some (.int (zi v)), some (.long (zl sm)), none, some (.int (zi y))]) (S' := [.long (zl sm)]) rfl ?_
        exact gz_end (I := .lreturn) (len := 1) rfl (Or.inl rfl) ⟨sh2, sm, rfl, (by omega), (by omega), (by omega)⟩
      · refine gy_icF rfl (by decide) (by decide) (by omega) (by omega) hc3 ?_
        refine gz_s 3 (pc' := 16) (L' := [some (.ref x), some (.int (zi u)), some (.int (zi v)), some (.long (zl sm)), none, some (.int (zi y))]) (S' := [.int (zi y), .int (zi v), .long (zl sm)]) rfl ?_
        refine gz_call rfl (by decide) rfl (by decide) (by decide) (gcal_of rfl rfl rfl (Nat.le_of_ble_eq_true rfl) rfl) (cw_cosine _ sh2.1 v ⟨by omega, by omega⟩ y ⟨by omega, by omega⟩ lp1k1) (fun q4 _ wq4 => ?_)
        obtain ⟨pq4, oq4, hq4⟩ := q4
        obtain ⟨xq4, zq4, gq4, aq4, bq4, uq4_0⟩ := wq4
        refine ⟨_, gq4, ?_⟩
        show gz gPP gGG gcn _ _ 19 [some (.ref x), some (.int (zi u)), some (.int (zi v)), some (.long (zl sm)), none, some (.int (zi y))] [.int (zi zq4), .long (zl sm)] hq4 _
        have sq4 : gSs rT 1027 ty [] h hq4 := gSs.tr sh2 xq4 (by decide)
        have pr5 := gRl.fr xq4.2 (by decide) lp1k0
        have pr6 := gStx.fr xq4.2 (by decide) lp1k1
        refine gy_i2l rfl (by decide) ⟨by omega, by omega⟩ ?_
        refine gz_s 1 (pc' := 21) (L' := [some (.ref x), some (.int (zi u)), some (.int (zi v)), some (.long (zl sm)), none, some (.int (zi y))]) (S' := [.ref x, .long (zl zq4), .long (zl sm)]) rfl ?_
        refine gs_gtr rfl (by decide) rfl sq4.1 tx rfl rfl rfl (fun c7 ec7 tc7 => ?_)
        refine gy_s 5 (pc' := 31) (L' := [some (.ref x), some (.int (zi u)), some (.int (zi v)), some (.long (zl sm)), none, some (.int (zi y))]) (S' := [.int (((zi 8) * (zi y)) + (zi u)), .ref c7, .long (zl zq4), .long (zl sm)]) (L2 := [some (.ref x), some (.int (zi u)), some (.int (zi v)), some (.long (zl sm)), none, some (.int (zi y))]) (S2 := [.int (zi ((8 * y) + u)), .ref c7, .long (zl zq4), .long (zl sm)]) rfl (by simp only [zi_add, zi_sub, zi_mul, zi_neg, zi_and1, zi_and7, zi_and15, zi_and31, zi_and255, zl_add, zl_sub, zl_mul, zl_neg]) (by simp only [zi_add, zi_sub, zi_mul, zi_neg, zi_and1, zi_and7, zi_and15, zi_and31, zi_and255, zl_add, zl_sub, zl_mul, zl_neg]) ?_
        have hl8 : 64 ≤ hq4.2.2.2.1 c7 ∧ hq4.2.2.2.1 c7 ≤ 64 := gJ.rowl (G := gGG) sq4.1 tc7 rfl
        refine gs_lald rfl (by decide) sq4.1 tc7 rfl rfl rfl (by decide) (fun _ => rfl) (by omega) (by omega) (fun z9 ez9 az9 bz9 => ?_)
        have hfl := gRl.at (i := 8 * y + u) pr5 tc7 ez9 (by omega) (by omega) (by omega)
        have hhz : z9 = eHw C ww hh lf tp u y := by
          rw [← hfl]
          unfold eHf
          rw [(by omega : (((8 * y + u).toNat % 8 : Nat) : Int) = u), (by omega : (((8 * y + u).toNat / 8 : Nat) : Int) = y)]
        have hx10 := zx_s (a := zq4) (b := z9) (A := 4096) (B := 4194304) (by omega) (by omega) (by omega) (by omega)
        refine gy_s 3 (pc' := 35) (L' := [some (.ref x), some (.int (zi u)), some (.int (zi v)), some (.long ((zl sm) + ((zl zq4) * (zl z9)))), none, some (.int (zi y))]) (S' := []) (L2 := [some (.ref x), some (.int (zi u)), some (.int (zi v)), some (.long (zl (sm + (zq4 * z9)))), none, some (.int (zi y))]) (S2 := []) rfl (by simp only [zi_add, zi_sub, zi_mul, zi_neg, zi_and1, zi_and7, zi_and15, zi_and31, zi_and255, zl_add, zl_sub, zl_mul, zl_neg]) (by simp only [zi_add, zi_sub, zi_mul, zi_neg, zi_and1, zi_and7, zi_and15, zi_and31, zi_and255, zl_add, zl_sub, zl_mul, zl_neg]) ?_
        have hst : eS8 (fun y9 => eCs v y9 * eHw C ww hh lf tp u y9) (y + 1).toNat = sm + (zq4 * z9) := by
          rw [(by omega : (y + 1).toNat = (y).toNat + 1), eS8_s]
          show eS8 (fun y9 => eCs v y9 * eHw C ww hh lf tp u y9) (y).toNat + eCs v (((y).toNat : Nat) : Int) * eHw C ww hh lf tp u (((y).toNat : Nat) : Int) = _
          rw [(by omega : (((y).toNat : Nat) : Int) = y), ← uq4_0, ← hhz]
          omega
        refine gy_s 2 (pc' := 5) (L' := [some (.ref x), some (.int (zi u)), some (.int (zi v)), some (.long (zl (sm + (zq4 * z9)))), none, some (.int ((zi y) + zi 1))]) (S' := []) (L2 := [some (.ref x), some (.int (zi u)), some (.int (zi v)), some (.long (zl (sm + (zq4 * z9)))), none, some (.int (zi (y + 1)))]) (S2 := []) rfl (by simp only [zi_add, zi_sub, zi_mul, zi_neg, zi_and1, zi_and7, zi_and15, zi_and31, zi_and255, zl_add, zl_sub, zl_mul, zl_neg]) (by simp only [zi_add, zi_sub, zi_mul, zi_neg, zi_and1, zi_and7, zi_and15, zi_and31, zi_and255, zl_add, zl_sub, zl_mul, zl_neg]) ?_
        exact gz_wk (ihlp1 hq4 (sm + (zq4 * z9)) (y + 1) (by omega) sq4 (by omega) (by omega) (by omega) (by omega) (by omega) pr5 pr6) (gLw.s (gLw.s (gLw.s (gLw.s (gLw.n (gLw.s gLw.z))))))
  have hs0 : eS8 (fun y9 => eCs v y9 * eHw C ww hh lf tp u y9) (0 : Int).toNat = 0 := rfl
  exact gz_wk (lp1 _ h 0 0 (Nat.lt_succ_self _) hS (by omega) (by omega) (by omega) (by omega) (by omega) hyf74 hysx) (gLw.s (gLw.s (gLw.s (gLw.s (gLw.n (gLw.s gLw.z))))))
set_option maxRecDepth 20000 in
set_option maxHeartbeats 4000000 in
theorem cw_divided (d : Nat) {ty : Nat → Nat} {h : gH} (hJ : gJ rT 1027 ty h) (sm : Int) (rsm : (-137438953472) ≤ sm ∧ sm ≤ 137438953472) (n : Int) (rn : 1 ≤ n ∧ n ≤ 255) : gz gPP gGG gcn (d + 1) gt97 0 (gent [.long (zl sm), .int (zi n)] 6) [] h (fun q _ => gSs rT 1027 ty [] h q.2.2 ∧ ∃ z : Int, gfin gt97 q.1 q.2.1 = some (some (.int (zi z))) ∧ (-2048) ≤ z ∧ z ≤ 2048 ∧ (z = eQt sm n)) := by
  have hS : gSs rT 1027 ty [] h h := gSs.rf hJ
  refine gz_s 2 (pc' := 2) (L' := [some (.long (zl sm)), none, some (.int (zi n)), none, none, none]) (S' := [.int (zi n), .int (zi 1)]) rfl ?_
  refine gz_call rfl (by decide) rfl (by decide) (by decide) (gcal_of rfl rfl rfl (Nat.le_of_ble_eq_true rfl) rfl) (cl_Math_max _ hS.1 1 ⟨by omega, by omega⟩ n ⟨by omega, by omega⟩ ) (fun q1 _ wq1 => ?_)
  obtain ⟨pq1, oq1, hq1⟩ := q1
  obtain ⟨xq1, zq1, gq1, aq1, bq1, uq1_0, uq1_1, uq1_2⟩ := wq1
  refine ⟨_, gq1, ?_⟩
  show gz gPP gGG gcn _ _ 5 [some (.long (zl sm)), none, some (.int (zi n)), none, none, none] [.int (zi zq1)] hq1 _
  have sq1 : gSs rT 1027 ty [] h hq1 := gSs.tr hS xq1 (by decide)
  refine gy_i2l rfl (by decide) ⟨by omega, by omega⟩ ?_
  refine gz_s 1 (pc' := 8) (L' := [some (.long (zl sm)), none, some (.int (zi n)), none, none, none]) (S' := [.int (zi 26), .long (zl zq1)]) rfl ?_
  refine gy_lsh26 rfl (by decide) (by omega) ?_
  refine gz_s 2 (pc' := 11) (L' := [some (.long (zl sm)), none, some (.int (zi n)), some (.long (zl (zq1 * 67108864))), none, none]) (S' := [.long (zl sm)]) rfl ?_
  refine gz_call rfl (by decide) rfl (by decide) (by decide) (gcal_of rfl rfl rfl (Nat.le_of_ble_eq_true rfl) rfl) (cl_Math_absL _ sq1.1 sm ⟨by omega, by omega⟩ ) (fun q2 _ wq2 => ?_)
  obtain ⟨pq2, oq2, hq2⟩ := q2
  obtain ⟨xq2, zq2, gq2, aq2, bq2, uq2_0, uq2_1⟩ := wq2
  refine ⟨_, gq2, ?_⟩
  show gz gPP gGG gcn _ _ 14 [some (.long (zl sm)), none, some (.int (zi n)), some (.long (zl (zq1 * 67108864))), none, none] [.long (zl zq2)] hq2 _
  have sq2 : gSs rT 1027 ty [] h hq2 := gSs.tr sq1 xq2 (by decide)
  refine gz_s 1 (pc' := 15) (L' := [some (.long (zl sm)), none, some (.int (zi n)), some (.long (zl (zq1 * 67108864))), none, none]) (S' := [.long (zl (zq1 * 67108864)), .long (zl zq2)]) rfl ?_
  refine gz_1 rfl (by decide) rfl rfl (pc' := 18) (S' := [.long (zl 2), .long (zl (zq1 * 67108864)), .long (zl zq2)]) (h' := hq2) rfl ?_
  refine gy_ldiv rfl (by decide) (by omega) (by omega) ?_
  refine gy_s 2 (pc' := 21) (L' := [some (.long (zl sm)), none, some (.int (zi n)), some (.long (zl (zq1 * 67108864))), none, none]) (S' := [.long (zl (zq1 * 67108864)), .long ((zl zq2) + (zl ((zq1 * 67108864) / 2)))]) (L2 := [some (.long (zl sm)), none, some (.int (zi n)), some (.long (zl (zq1 * 67108864))), none, none]) (S2 := [.long (zl (zq1 * 67108864)), .long (zl (zq2 + ((zq1 * 67108864) / 2)))]) rfl (by simp only [zi_add, zi_sub, zi_mul, zi_neg, zi_and1, zi_and7, zi_and15, zi_and31, zi_and255, zl_add, zl_sub, zl_mul, zl_neg]) (by simp only [zi_add, zi_sub, zi_mul, zi_neg, zi_and1, zi_and7, zi_and15, zi_and31, zi_and255, zl_add, zl_sub, zl_mul, zl_neg]) ?_
  refine gy_ldiv rfl (by decide) (by omega) (by omega) ?_
  have hd3 := zd_f (x := zq2 + ((zq1 * 67108864) / 2)) (y := zq1 * 67108864) (by omega) (by omega)
  have hdv : 0 ≤ (zq2 + ((zq1 * 67108864) / 2)) / (zq1 * 67108864) ∧ (zq2 + ((zq1 * 67108864) / 2)) / (zq1 * 67108864) ≤ 2048 := zdv (by omega) (by omega)
  refine gy_l2i rfl (by decide) ?_
  refine gz_s 3 (pc' := 27) (L' := [some (.long (zl sm)), none, some (.int (zi n)), some (.long (zl (zq1 * 67108864))), none, some (.int (zi ((zq2 + ((zq1 * 67108864) / 2)) / (zq1 * 67108864))))]) (S' := [.long (zl 0), .long (zl sm)]) rfl ?_
  refine gy_lcmp rfl (by decide) (by omega) (by omega) (fun z4 az4 bz4 cz4 => ?_)
  by_cases hc5 : (0 : Int) ≤ z4
  · refine gy_ifT (pc' := 37) rfl (by decide) (by decide) (by omega) hc5 ?_
    refine gz_s 1 (pc' := 39) (L' := [some (.long (zl sm)), none, some (.int (zi n)), some (.long (zl (zq1 * 67108864))), none, some (.int (zi ((zq2 + ((zq1 * 67108864) / 2)) / (zq1 * 67108864))))]) (S' := [.int (zi ((zq2 + ((zq1 * 67108864) / 2)) / (zq1 * 67108864)))]) rfl ?_
    have hq9 : (zq2 + ((zq1 * 67108864) / 2)) / (zq1 * 67108864) = eQt sm n := by rw [show zq2 = sm by omega]; exact eQt_p (by omega) (by omega)
    exact gz_end (I := .ireturn) (len := 1) rfl (Or.inl rfl) ⟨sq2, (zq2 + ((zq1 * 67108864) / 2)) / (zq1 * 67108864), rfl, (by omega), (by omega), (by omega)⟩
  · refine gy_ifF rfl (by decide) (by decide) (by omega) hc5 ?_
    refine gy_s 3 (pc' := 39) (L' := [some (.long (zl sm)), none, some (.int (zi n)), some (.long (zl (zq1 * 67108864))), none, some (.int (zi ((zq2 + ((zq1 * 67108864) / 2)) / (zq1 * 67108864))))]) (S' := [.int (-(zi ((zq2 + ((zq1 * 67108864) / 2)) / (zq1 * 67108864))))]) (L2 := [some (.long (zl sm)), none, some (.int (zi n)), some (.long (zl (zq1 * 67108864))), none, some (.int (zi ((zq2 + ((zq1 * 67108864) / 2)) / (zq1 * 67108864))))]) (S2 := [.int (zi (-((zq2 + ((zq1 * 67108864) / 2)) / (zq1 * 67108864))))]) rfl (by simp only [zi_add, zi_sub, zi_mul, zi_neg, zi_and1, zi_and7, zi_and15, zi_and31, zi_and255, zl_add, zl_sub, zl_mul, zl_neg]) (by simp only [zi_add, zi_sub, zi_mul, zi_neg, zi_and1, zi_and7, zi_and15, zi_and31, zi_and255, zl_add, zl_sub, zl_mul, zl_neg]) ?_
    have hq9 : -((zq2 + ((zq1 * 67108864) / 2)) / (zq1 * 67108864)) = eQt sm n := eQt_n (by omega) (by omega) (by omega)
    exact gz_end (I := .ireturn) (len := 1) rfl (Or.inl rfl) ⟨sq2, -((zq2 + ((zq1 * 67108864) / 2)) / (zq1 * 67108864)), rfl, (by omega), (by omega), (by omega)⟩
set_option maxRecDepth 20000 in
set_option maxHeartbeats 4000000 in
theorem cw_transformCanvas (d : Nat) {ty : Nat → Nat} {h : gH} (hJ : gJ rT 1027 ty h) (x : Nat) (tx : ty x = 71) (dr : Nat) (tdr : ty dr = 55) (ww : Int) (eww : h.2.2.2.2 dr 1 = .int (zi ww)) (rww : 1 ≤ ww ∧ ww ≤ 32) (hh : Int) (ehh : h.2.2.2.2 dr 2 = .int (zi hh)) (rhh : 1 ≤ hh ∧ hh ≤ 32) (C tb : Nat → Int) (uq : gUq ty) (hyf59 : gRn 1024 ty 59 C h) (hyf72 : gRn 64 ty 72 tb h) (hysx : gStx ty h) (hytbp : ∀ j9 : Nat, j9 < 64 → 1 ≤ tb j9 ∧ tb j9 ≤ 255) : gz gPP gGG gcn (d + 3) gt93 0 (gent [.ref x, .ref dr] 5) [] h (fun q _ => gSs rT 1027 ty [71005, 73999, 74999] h q.2.2 ∧ ∃ b1 : Int, gfin gt93 q.1 q.2.1 = some none ∧ q.2.2.2.2.2.2 x 5 = .int (zi b1) ∧ 1 ≤ b1 ∧ b1 ≤ 16 ∧ (b1 = (zup ww 8) * zup hh 8) ∧ (gRn (64 * b1).toNat ty 73 (eCf C tb ww hh (zup ww 8)) q.2.2)) := by
  have hS : gSs rT 1027 ty [71005, 73999, 74999] h h := gSs.rf hJ
  refine gz_s 2 (pc' := 2) (L' := [some (.ref x), some (.ref dr), none, none, none]) (S' := [.ref dr, .int (zi 1)]) rfl ?_
  refine gs_gtk rfl (by decide) rfl hS.1 tdr rfl rfl eww ?_
  refine gz_s 1 (pc' := 7) (L' := [some (.ref x), some (.ref dr), none, none, none]) (S' := [.int (zi 8), .int (zi ww), .int (zi 1)]) rfl ?_
  refine gz_call rfl (by decide) rfl (by decide) (by decide) (gcal_of rfl rfl rfl (Nat.le_of_ble_eq_true rfl) rfl) (cl_DctFilter_upward _ hS.1 ww ⟨by omega, by omega⟩ 8 ⟨by omega, by omega⟩ ) (fun q1 _ wq1 => ?_)
  obtain ⟨pq1, oq1, hq1⟩ := q1
  obtain ⟨xq1, zq1, gq1, aq1, bq1, uq1_0⟩ := wq1
  refine ⟨_, gq1, ?_⟩
  show gz gPP gGG gcn _ _ 10 [some (.ref x), some (.ref dr), none, none, none] [.int (zi zq1), .int (zi 1)] hq1 _
  have sq1 : gSs rT 1027 ty [71005, 73999, 74999] h hq1 := gSs.tr hS xq1 (by decide)
  have s2 := (xq1.2.2.2.2.2 dr 1 (by rw [tdr]; decide)).trans eww
  have s3 := (xq1.2.2.2.2.2 dr 2 (by rw [tdr]; decide)).trans ehh
  have pr4 := gRn.fr xq1.2 (by decide) hyf59
  have pr5 := gRn.fr xq1.2 (by decide) hyf72
  have pr6 := gStx.fr xq1.2 (by decide) hysx
  have zu1 : zup ww 8 = if ww % 8 = 0 then ww / 8 else ww / 8 + 1 := rfl
  have zu2 : zup hh 8 = if hh % 8 = 0 then hh / 8 else hh / 8 + 1 := rfl
  refine gz_call rfl (by decide) rfl (by decide) (by decide) (gcal_of rfl rfl rfl (Nat.le_of_ble_eq_true rfl) rfl) (cl_Math_max _ sq1.1 1 ⟨by omega, by omega⟩ zq1 ⟨by omega, by omega⟩ ) (fun q7 _ wq7 => ?_)
  obtain ⟨pq7, oq7, hq7⟩ := q7
  obtain ⟨xq7, zq7, gq7, aq7, bq7, uq7_0, uq7_1, uq7_2⟩ := wq7
  refine ⟨_, gq7, ?_⟩
  show gz gPP gGG gcn _ _ 13 [some (.ref x), some (.ref dr), none, none, none] [.int (zi zq7)] hq7 _
  have sq7 : gSs rT 1027 ty [71005, 73999, 74999] h hq7 := gSs.tr sq1 xq7 (by decide)
  have s8 := (xq7.2.2.2.2.2 dr 1 (by rw [tdr]; decide)).trans s2
  have s9 := (xq7.2.2.2.2.2 dr 2 (by rw [tdr]; decide)).trans s3
  have pr10 := gRn.fr xq7.2 (by decide) pr4
  have pr11 := gRn.fr xq7.2 (by decide) pr5
  have pr12 := gStx.fr xq7.2 (by decide) pr6
  have hcl : zq7 = (zup ww 8) := by omega
  refine gz_s 5 (pc' := 19) (L' := [some (.ref x), some (.ref dr), some (.int (zi zq7)), none, none]) (S' := [.ref dr, .int (zi zq7), .int (zi 16), .ref x]) rfl ?_
  refine gs_gtk rfl (by decide) rfl sq7.1 tdr rfl rfl s9 ?_
  refine gz_s 1 (pc' := 24) (L' := [some (.ref x), some (.ref dr), some (.int (zi zq7)), none, none]) (S' := [.int (zi 8), .int (zi hh), .int (zi zq7), .int (zi 16), .ref x]) rfl ?_
  refine gz_call rfl (by decide) rfl (by decide) (by decide) (gcal_of rfl rfl rfl (Nat.le_of_ble_eq_true rfl) rfl) (cl_DctFilter_upward _ sq7.1 hh ⟨by omega, by omega⟩ 8 ⟨by omega, by omega⟩ ) (fun q13 _ wq13 => ?_)
  obtain ⟨pq13, oq13, hq13⟩ := q13
  obtain ⟨xq13, zq13, gq13, aq13, bq13, uq13_0⟩ := wq13
  refine ⟨_, gq13, ?_⟩
  show gz gPP gGG gcn _ _ 27 [some (.ref x), some (.ref dr), some (.int (zi zq7)), none, none] [.int (zi zq13), .int (zi zq7), .int (zi 16), .ref x] hq13 _
  have sq13 : gSs rT 1027 ty [71005, 73999, 74999] h hq13 := gSs.tr sq7 xq13 (by decide)
  have s14 := (xq13.2.2.2.2.2 dr 1 (by rw [tdr]; decide)).trans s8
  have s15 := (xq13.2.2.2.2.2 dr 2 (by rw [tdr]; decide)).trans s9
  have pr16 := gRn.fr xq13.2 (by decide) pr10
  have pr17 := gRn.fr xq13.2 (by decide) pr11
  have pr18 := gStx.fr xq13.2 (by decide) pr12
  have hpr : zq7 * zq13 = (zup ww 8) * zup hh 8 := by rw [hcl, show zq13 = zup hh 8 by omega]
  have hx19 := zx_f (a := zq7) (b := zq13) (A := 4) (B := 4) (by omega) (by omega) (by omega) (by omega)
  refine gy_s 1 (pc' := 28) (L' := [some (.ref x), some (.ref dr), some (.int (zi zq7)), none, none]) (S' := [.int ((zi zq7) * (zi zq13)), .int (zi 16), .ref x]) (L2 := [some (.ref x), some (.ref dr), some (.int (zi zq7)), none, none]) (S2 := [.int (zi (zq7 * zq13)), .int (zi 16), .ref x]) rfl (by simp only [zi_add, zi_sub, zi_mul, zi_neg, zi_and1, zi_and7, zi_and15, zi_and31, zi_and255]) (by simp only [zi_add, zi_sub, zi_mul, zi_neg, zi_and1, zi_and7, zi_and15, zi_and31, zi_and255]) ?_
  refine gz_call rfl (by decide) rfl (by decide) (by decide) (gcal_of rfl rfl rfl (Nat.le_of_ble_eq_true rfl) rfl) (cl_Math_min _ sq13.1 16 ⟨by omega, by omega⟩ (zq7 * zq13) ⟨by omega, by omega⟩ ) (fun q20 _ wq20 => ?_)
  obtain ⟨pq20, oq20, hq20⟩ := q20
  obtain ⟨xq20, zq20, gq20, aq20, bq20, uq20_0, uq20_1, uq20_2⟩ := wq20
  refine ⟨_, gq20, ?_⟩
  show gz gPP gGG gcn _ _ 31 [some (.ref x), some (.ref dr), some (.int (zi zq7)), none, none] [.int (zi zq20), .ref x] hq20 _
  have sq20 : gSs rT 1027 ty [71005, 73999, 74999] h hq20 := gSs.tr sq13 xq20 (by decide)
  have s21 := (xq20.2.2.2.2.2 dr 1 (by rw [tdr]; decide)).trans s14
  have s22 := (xq20.2.2.2.2.2 dr 2 (by rw [tdr]; decide)).trans s15
  have pr23 := gRn.fr xq20.2 (by decide) pr16
  have pr24 := gRn.fr xq20.2 (by decide) pr17
  have pr25 := gStx.fr xq20.2 (by decide) pr18
  have hbs : zq20 = (zup ww 8) * zup hh 8 := by omega
  have hpo : 0 < (zup ww 8) * zup hh 8 := Int.mul_pos (by omega) (by omega)
  refine gs_put rfl (by decide) rfl sq20 tx rfl rfl rfl rfl (Or.inl rfl) (by decide) (by omega) (by omega) (fun h26 sh26 eh26 fh26 => ?_)
  have pr27 := gRn.pt fh26 tx (by decide) pr23
  have pr28 := gRn.pt fh26 tx (by decide) pr24
  have pr29 := gStx.pt sq20 sh26 fh26 tx (by decide) pr25
  have s30 := (fh26 dr 1 (fun q => absurd q.2 (by decide))).trans s21
  have s31 := (fh26 dr 2 (fun q => absurd q.2 (by decide))).trans s22
  refine gz_s 2 (pc' := 36) (L' := [some (.ref x), some (.ref dr), some (.int (zi zq7)), some (.int (zi 0)), none]) (S' := []) rfl ?_
  have lp32 : ∀ (fu : Nat) (h33 : gH) (b : Int), (17 - b).toNat < fu → gSs rT 1027 ty [71005, 73999, 74999] h h33 → (0 ≤ b ∧ b ≤ 16) → (b ≤ zq20) → h33.2.2.2.2 dr 1 = .int (zi ww) → h33.2.2.2.2 dr 2 = .int (zi hh) → h33.2.2.2.2 x 5 = .int (zi zq20) → gRn 1024 ty 59 C h33 → gRn 64 ty 72 tb h33 → gStx ty h33 → (∀ j9 : Nat, j9 < 64 → 1 ≤ tb j9 ∧ tb j9 ≤ 255) → gRn (64 * b).toNat ty 73 (eCf C tb ww hh (zup ww 8)) h33 → gz gPP gGG gcn (d + 3) gt93 36 [some (.ref x), some (.ref dr), some (.int (zi zq7)), some (.int (zi b)), none] [] h33 (fun q _ => gSs rT 1027 ty [71005, 73999, 74999] h q.2.2 ∧ ∃ b1 : Int, gfin gt93 q.1 q.2.1 = some none ∧ q.2.2.2.2.2.2 x 5 = .int (zi b1) ∧ 1 ≤ b1 ∧ b1 ≤ 16 ∧ (b1 = (zup ww 8) * zup hh 8) ∧ (gRn (64 * b1).toNat ty 73 (eCf C tb ww hh (zup ww 8)) q.2.2)) := by
    intro fu
    induction fu with
    | zero => intro h33 b hm; exact absurd hm (Nat.not_lt_zero _)
    | succ fu ihlp32 =>
      intro h33 b lp32m sh33 lp32f0 lp32f1 lp32k0 lp32k1 lp32k2 lp32k3 lp32k4 lp32k5 lp32k6 lp32k7
      refine gz_s 2 (pc' := 38) (L' := [some (.ref x), some (.ref dr), some (.int (zi zq7)), some (.int (zi b)), none]) (S' := [.ref x, .int (zi b)]) rfl ?_
      refine gs_gtk rfl (by decide) rfl sh33.1 tx rfl rfl lp32k2 ?_
      by_cases hc34 : (zq20 : Int) ≤ b
      · refine gy_icT (pc' := 126) rfl (by decide) (by decide) (by omega) (by omega) hc34 ?_
        have hrw35 : gRn (64 * zq20).toNat ty 73 (eCf C tb ww hh (zup ww 8)) h33 := by have e9 := lp32k7; rw [(by omega : (64 * b).toNat = (64 * zq20).toNat)] at e9; exact e9
        exact gz_end (I := .return_) (len := 1) rfl (Or.inl rfl) ⟨sh33, zq20, rfl, lp32k2, (by omega), (by omega), (by omega), hrw35⟩
      · refine gy_icF rfl (by decide) (by decide) (by omega) (by omega) hc34 ?_
        refine gz_s 4 (pc' := 48) (L' := [some (.ref x), some (.ref dr), some (.int (zi zq7)), some (.int (zi b)), none]) (S' := [.int (zi zq7), .int (zi b), .ref dr, .ref x]) rfl ?_
        refine gy_rem rfl (by decide) (by omega) (by omega) ?_
        have hd36 := zm_f (x := b) (y := zq7) (by omega) (by omega)
        refine gy_s 4 (pc' := 54) (L' := [some (.ref x), some (.ref dr), some (.int (zi zq7)), some (.int (zi b)), none]) (S' := [.int (zi zq7), .int (zi b), .int ((zi (b % zq7)) * (zi 8)), .ref dr, .ref x]) (L2 := [some (.ref x), some (.ref dr), some (.int (zi zq7)), some (.int (zi b)), none]) (S2 := [.int (zi zq7), .int (zi b), .int (zi ((b % zq7) * 8)), .ref dr, .ref x]) rfl (by simp only [zi_add, zi_sub, zi_mul, zi_neg, zi_and1, zi_and7, zi_and15, zi_and31, zi_and255]) (by simp only [zi_add, zi_sub, zi_mul, zi_neg, zi_and1, zi_and7, zi_and15, zi_and31, zi_and255]) ?_
        refine gy_div rfl (by decide) (by omega) (by omega) ?_
        have hd37 := zd_f (x := b) (y := zq7) (by omega) (by omega)
        refine gy_s 2 (pc' := 58) (L' := [some (.ref x), some (.ref dr), some (.int (zi zq7)), some (.int (zi b)), none]) (S' := [.int ((zi (b / zq7)) * (zi 8)), .int (zi ((b % zq7) * 8)), .ref dr, .ref x]) (L2 := [some (.ref x), some (.ref dr), some (.int (zi zq7)), some (.int (zi b)), none]) (S2 := [.int (zi ((b / zq7) * 8)), .int (zi ((b % zq7) * 8)), .ref dr, .ref x]) rfl (by simp only [zi_add, zi_sub, zi_mul, zi_neg, zi_and1, zi_and7, zi_and15, zi_and31, zi_and255]) (by simp only [zi_add, zi_sub, zi_mul, zi_neg, zi_and1, zi_and7, zi_and15, zi_and31, zi_and255]) ?_
        refine gz_call rfl (by decide) rfl (by decide) (by decide) (gcal_of rfl rfl rfl (Nat.le_of_ble_eq_true rfl) (gJ.recv (G := gGG) sh33.1 tx rfl rfl)) (cw_transformRows _ sh33.1 x tx dr tdr ((b % zq7) * 8) ⟨by omega, by omega⟩ ((b / zq7) * 8) ⟨by omega, by omega⟩ ww lp32k0 ⟨by omega, by omega⟩ hh lp32k1 ⟨by omega, by omega⟩ C uq lp32k3 lp32k5) (fun q38 _ wq38 => ?_)
        obtain ⟨pq38, oq38, hq38⟩ := q38
        obtain ⟨xq38, gq38, yq38_0⟩ := wq38
        refine ⟨_, gq38, ?_⟩
        show gz gPP gGG gcn _ _ 61 [some (.ref x), some (.ref dr), some (.int (zi zq7)), some (.int (zi b)), none] [] hq38 _
        have sq38 : gSs rT 1027 ty [71005, 73999, 74999] h hq38 := gSs.tr sh33 xq38 (by decide)
        have s39 := (xq38.2.2.2.2.2 dr 1 (by rw [tdr]; decide)).trans lp32k0
        have s40 := (xq38.2.2.2.2.2 dr 2 (by rw [tdr]; decide)).trans lp32k1
        have s41 := (xq38.2.2.2.2.2 x 5 (by rw [tx]; decide)).trans lp32k2
        have pr42 := gRn.fr xq38.2 (by decide) lp32k3
        have pr43 := gRn.fr xq38.2 (by decide) lp32k4
        have pr44 := gStx.fr xq38.2 (by decide) lp32k5
        have pr45 := gRn.fr xq38.2 (by decide) lp32k7
        refine gz_s 2 (pc' := 64) (L' := [some (.ref x), some (.ref dr), some (.int (zi zq7)), some (.int (zi b)), some (.int (zi 0))]) (S' := []) rfl ?_
        have lp46 : ∀ (fu : Nat) (h47 : gH) (i : Int), (65 - i).toNat < fu → gSs rT 1027 ty [71005, 73999, 74999] h h47 → (0 ≤ i ∧ i ≤ 64) → h47.2.2.2.2 dr 1 = .int (zi ww) → h47.2.2.2.2 dr 2 = .int (zi hh) → h47.2.2.2.2 x 5 = .int (zi zq20) → gRn 1024 ty 59 C h47 → gRn 64 ty 72 tb h47 → gStx ty h47 → (∀ j9 : Nat, j9 < 64 → 1 ≤ tb j9 ∧ tb j9 ≤ 255) → gRl 64 ty 74 (eHf C ww hh ((b % zq7) * 8) ((b / zq7) * 8)) h47 → gRn (b * 64 + i).toNat ty 73 (eCf C tb ww hh (zup ww 8)) h47 → gz gPP gGG gcn (d + 3) gt93 64 [some (.ref x), some (.ref dr), some (.int (zi zq7)), some (.int (zi b)), some (.int (zi i))] [] h47 (fun q _ => gSs rT 1027 ty [71005, 73999, 74999] h q.2.2 ∧ ∃ b1 : Int, gfin gt93 q.1 q.2.1 = some none ∧ q.2.2.2.2.2.2 x 5 = .int (zi b1) ∧ 1 ≤ b1 ∧ b1 ≤ 16 ∧ (b1 = (zup ww 8) * zup hh 8) ∧ (gRn (64 * b1).toNat ty 73 (eCf C tb ww hh (zup ww 8)) q.2.2)) := by
          intro fu
          induction fu with
          | zero => intro h47 i hm; exact absurd hm (Nat.not_lt_zero _)
          | succ fu ihlp46 =>
            intro h47 i lp46m sh47 lp46f0 lp46k0 lp46k1 lp46k2 lp46k3 lp46k4 lp46k5 lp46k6 lp46k7 lp46k8
            refine gz_s 2 (pc' := 68) (L' := [some (.ref x), some (.ref dr), some (.int (zi zq7)), some (.int (zi b)), some (.int (zi i))]) (S' := [.int (zi 64), .int (zi i)]) rfl ?_
            by_cases hc48 : (64 : Int) ≤ i
            · refine gy_icT (pc' := 120) rfl (by decide) (by decide) (by omega) (by omega) hc48 ?_
              have hrw49 : gRn (64 * (b + 1)).toNat ty 73 (eCf C tb ww hh (zup ww 8)) h47 := by have e9 := lp46k8; rw [(by omega : b * 64 + i = 64 * (b + 1))] at e9; exact e9
              refine gy_s 2 (pc' := 36) (L' := [some (.ref x), some (.ref dr), some (.int (zi zq7)), some (.int ((zi b) + zi 1)), some (.int (zi i))]) (S' := []) (L2 := [some (.ref x), some (.ref dr), some (.int (zi zq7)), some (.int (zi (b + 1))), some (.int (zi i))]) (S2 := []) rfl (by simp only [zi_add, zi_sub, zi_mul, zi_neg, zi_and1, zi_and7, zi_and15, zi_and31, zi_and255]) (by simp only [zi_add, zi_sub, zi_mul, zi_neg, zi_and1, zi_and7, zi_and15, zi_and31, zi_and255]) ?_
              exact gz_wk (ihlp32 h47 (b + 1) (by omega) sh47 (by omega) (by omega) lp46k0 lp46k1 lp46k2 lp46k3 lp46k4 lp46k5 lp46k6 hrw49) (gLw.s (gLw.s (gLw.s (gLw.s (gLw.n gLw.z)))))
            · refine gy_icF rfl (by decide) (by decide) (by omega) (by omega) hc48 ?_
              refine gz_s 1 (pc' := 72) (L' := [some (.ref x), some (.ref dr), some (.int (zi zq7)), some (.int (zi b)), some (.int (zi i))]) (S' := [.ref x]) rfl ?_
              refine gs_gtr rfl (by decide) rfl sh47.1 tx rfl rfl rfl (fun c50 ec50 tc50 => ?_)
              refine gy_s 6 (pc' := 83) (L' := [some (.ref x), some (.ref dr), some (.int (zi zq7)), some (.int (zi b)), some (.int (zi i))]) (S' := [.ref x, .int (((zi b) * (zi 64)) + (zi i)), .ref c50]) (L2 := [some (.ref x), some (.ref dr), some (.int (zi zq7)), some (.int (zi b)), some (.int (zi i))]) (S2 := [.ref x, .int (zi ((b * 64) + i)), .ref c50]) rfl (by simp only [zi_add, zi_sub, zi_mul, zi_neg, zi_and1, zi_and7, zi_and15, zi_and31, zi_and255]) (by simp only [zi_add, zi_sub, zi_mul, zi_neg, zi_and1, zi_and7, zi_and15, zi_and31, zi_and255]) ?_
              refine gz_1 rfl (by decide) rfl rfl (pc' := 86) (S' := [.ref 0, .ref x, .int (zi ((b * 64) + i)), .ref c50]) (h' := h47) rfl ?_
              refine gz_s 1 (pc' := 88) (L' := [some (.ref x), some (.ref dr), some (.int (zi zq7)), some (.int (zi b)), some (.int (zi i))]) (S' := [.int (zi i), .ref 0, .ref x, .int (zi ((b * 64) + i)), .ref c50]) rfl ?_
              refine gs_st0x rfl (by decide) rfl lp46k5 (by omega) (by omega) ?_
              have hb52 := eZz_b (k := i) (by omega) (by omega)
              refine gy_s 2 (pc' := 92) (L' := [some (.ref x), some (.ref dr), some (.int (zi zq7)), some (.int (zi b)), some (.int (zi i))]) (S' := [.int ((zi (eZz i)) &&& (zi 7)), .ref x, .int (zi ((b * 64) + i)), .ref c50]) (L2 := [some (.ref x), some (.ref dr), some (.int (zi zq7)), some (.int (zi b)), some (.int (zi i))]) (S2 := [.int (zi ((eZz i) % 8)), .ref x, .int (zi ((b * 64) + i)), .ref c50]) rfl (by simp only [zi_add, zi_sub, zi_mul, zi_neg, zi_and1, zi_and7, zi_and15, zi_and31, zi_and255]) (by simp only [zi_add, zi_sub, zi_mul, zi_neg, zi_and1, zi_and7, zi_and15, zi_and31, zi_and255]) ?_
              refine gz_1 rfl (by decide) rfl rfl (pc' := 95) (S' := [.ref 0, .int (zi ((eZz i) % 8)), .ref x, .int (zi ((b * 64) + i)), .ref c50]) (h' := h47) rfl ?_
              refine gz_s 1 (pc' := 97) (L' := [some (.ref x), some (.ref dr), some (.int (zi zq7)), some (.int (zi b)), some (.int (zi i))]) (S' := [.int (zi i), .ref 0, .int (zi ((eZz i) % 8)), .ref x, .int (zi ((b * 64) + i)), .ref c50]) rfl ?_
              refine gs_st0x rfl (by decide) rfl lp46k5 (by omega) (by omega) ?_
              have hb54 := eZz_b (k := i) (by omega) (by omega)
              refine gz_s 1 (pc' := 99) (L' := [some (.ref x), some (.ref dr), some (.int (zi zq7)), some (.int (zi b)), some (.int (zi i))]) (S' := [.int (zi 3), .int (zi (eZz i)), .int (zi ((eZz i) % 8)), .ref x, .int (zi ((b * 64) + i)), .ref c50]) rfl ?_
              refine gy_shc (n := 3) (v := 8) rfl (by decide) (by omega) (by decide) (by decide) rfl ?_
              have hzz := eZz_b (k := i) (by omega) (by omega)
              refine gz_call rfl (by decide) rfl (by decide) (by decide) (gcal_of rfl rfl rfl (Nat.le_of_ble_eq_true rfl) (gJ.recv (G := gGG) sh47.1 tx rfl rfl)) (cw_sumAt _ sh47.1 x tx ((eZz i) % 8) ⟨by omega, by omega⟩ ((eZz i) / 8) ⟨by omega, by omega⟩ C ww hh ((b % zq7) * 8) ((b / zq7) * 8) uq lp46k7 lp46k5) (fun q55 _ wq55 => ?_)
              obtain ⟨pq55, oq55, hq55⟩ := q55
              obtain ⟨xq55, zq55, gq55, aq55, bq55, uq55_0⟩ := wq55
              refine ⟨_, gq55, ?_⟩
              show gz gPP gGG gcn _ _ 103 [some (.ref x), some (.ref dr), some (.int (zi zq7)), some (.int (zi b)), some (.int (zi i))] [.long (zl zq55), .int (zi ((b * 64) + i)), .ref c50] hq55 _
              have sq55 : gSs rT 1027 ty [71005, 73999, 74999] h hq55 := gSs.tr sh47 xq55 (by decide)
              have s56 := (xq55.2.2.2.2.2 dr 1 (by rw [tdr]; decide)).trans lp46k0
              have s57 := (xq55.2.2.2.2.2 dr 2 (by rw [tdr]; decide)).trans lp46k1
              have s58 := (xq55.2.2.2.2.2 x 5 (by rw [tx]; decide)).trans lp46k2
              have s59 := (xq55.2.2.2.2.2 x 2 (by rw [tx]; decide)).trans ec50
              have pr60 := gRn.fr xq55.2 (by decide) lp46k3
              have pr61 := gRn.fr xq55.2 (by decide) lp46k4
              have pr62 := gStx.fr xq55.2 (by decide) lp46k5
              have pr63 := gRl.fr xq55.2 (by decide) lp46k7
              have pr64 := gRn.fr xq55.2 (by decide) lp46k8
              refine gz_s 1 (pc' := 104) (L' := [some (.ref x), some (.ref dr), some (.int (zi zq7)), some (.int (zi b)), some (.int (zi i))]) (S' := [.ref x, .long (zl zq55), .int (zi ((b * 64) + i)), .ref c50]) rfl ?_
              refine gs_gtr rfl (by decide) rfl sq55.1 tx rfl rfl rfl (fun c65 ec65 tc65 => ?_)
              refine gz_s 1 (pc' := 109) (L' := [some (.ref x), some (.ref dr), some (.int (zi zq7)), some (.int (zi b)), some (.int (zi i))]) (S' := [.int (zi i), .ref c65, .long (zl zq55), .int (zi ((b * 64) + i)), .ref c50]) rfl ?_
              have hl66 : 64 ≤ hq55.2.2.2.1 c65 ∧ hq55.2.2.2.1 c65 ≤ 64 := gJ.rowl (G := gGG) sq55.1 tc65 rfl
              refine gs_ald rfl (by decide) sq55.1 tc65 rfl rfl rfl (by decide) (fun _ => rfl) (by omega) (by omega) (fun z67 ez67 az67 bz67 => ?_)
              have hf68 := gRn.at (i := i) (z := z67) pr61 tc65 ez67 (by omega) (by omega) (by omega)
              have htp := lp46k6 (i).toNat (by omega)
              rw [hf68] at htp
              refine gz_call rfl (by decide) rfl (by decide) (by decide) (gcal_of rfl rfl rfl (Nat.le_of_ble_eq_true rfl) rfl) (cw_divided _ sq55.1 zq55 ⟨by omega, by omega⟩ z67 ⟨by omega, by omega⟩ ) (fun q69 _ wq69 => ?_)
              obtain ⟨pq69, oq69, hq69⟩ := q69
              obtain ⟨xq69, zq69, gq69, aq69, bq69, uq69_0⟩ := wq69
              refine ⟨_, gq69, ?_⟩
              show gz gPP gGG gcn _ _ 113 [some (.ref x), some (.ref dr), some (.int (zi zq7)), some (.int (zi b)), some (.int (zi i))] [.int (zi zq69), .int (zi ((b * 64) + i)), .ref c50] hq69 _
              have sq69 : gSs rT 1027 ty [71005, 73999, 74999] h hq69 := gSs.tr sq55 xq69 (by decide)
              have s70 := (xq69.2.2.2.2.2 dr 1 (by rw [tdr]; decide)).trans s56
              have s71 := (xq69.2.2.2.2.2 dr 2 (by rw [tdr]; decide)).trans s57
              have s72 := (xq69.2.2.2.2.2 x 5 (by rw [tx]; decide)).trans s58
              have s73 := (xq69.2.2.2.2.2 x 2 (by rw [tx]; decide)).trans s59
              have s74 := (xq69.2.2.2.2.2 x 1 (by rw [tx]; decide)).trans ec65
              have pr75 := gRn.fr xq69.2 (by decide) pr60
              have pr76 := gRn.fr xq69.2 (by decide) pr61
              have pr77 := gStx.fr xq69.2 (by decide) pr62
              have pr78 := gRl.fr xq69.2 (by decide) pr63
              have pr79 := gRn.fr xq69.2 (by decide) pr64
              have hl80 : 1024 ≤ hq69.2.2.2.1 c50 ∧ hq69.2.2.2.1 c50 ≤ 1024 := gJ.rowl (G := gGG) sq69.1 tc50 rfl
              refine gs_ast rfl (by decide) sq69 tc50 rfl rfl rfl (by decide) (fun _ => rfl) (by omega) (by omega) (fun _ => (by decide : (73999 : Nat) ∈ ([71005, 73999, 74999] : List Nat))) (by omega) (by omega) (fun h81 sh81 eh81 fh81 => ?_)
              have pr82 := gRn.pt fh81 tc50 (by decide) pr75
              have pr83 := gRn.pt fh81 tc50 (by decide) pr76
              have pr84 := gStx.pt sq69 sh81 fh81 tc50 (by decide) pr77
              have pr85 := gRl.pt fh81 tc50 (by decide) pr78
              have s86 := (fh81 dr 1 (fun q => absurd (((tdr).symm.trans (congrArg ty q.1)).trans tc50) (by decide))).trans s70
              have s87 := (fh81 dr 2 (fun q => absurd (((tdr).symm.trans (congrArg ty q.1)).trans tc50) (by decide))).trans s71
              have s88 := (fh81 x 5 (fun q => absurd (((tx).symm.trans (congrArg ty q.1)).trans tc50) (by decide))).trans s72
              have s89 := (fh81 x 2 (fun q => absurd (((tx).symm.trans (congrArg ty q.1)).trans tc50) (by decide))).trans s73
              have s90 := (fh81 x 1 (fun q => absurd (((tx).symm.trans (congrArg ty q.1)).trans tc50) (by decide))).trans s74
              have pr91 := gEl.set (i := (b * 64) + i) (z := zq69) uq tc50 (by decide) eh81 (by omega) (by omega)
              have hcf92 : zq69 = eCf C tb ww hh (zup ww 8) (b * 64 + i).toNat := by
                rw [uq69_0, uq55_0]
                unfold eCf
                rw [(by omega : (((b * 64 + i).toNat / 64 : Nat) : Int) = b), (by omega : (((b * 64 + i).toNat % 64 : Nat) : Int) = i), (by omega : (b * 64 + i).toNat % 64 = (i).toNat), hf68, hcl]
              have hcf92x : b * 64 + (i + 1) = b * 64 + i + 1 := by omega
              have hrw93 : gRn (b * 64 + (i + 1)).toNat ty 73 (eCf C tb ww hh (zup ww 8)) h81 := by rw [hcf92x]; exact gRn.ext (z := zq69) uq tc50 (by decide) fh81 eh81 (by omega) (by omega) (by omega) hcf92 pr79
              refine gy_s 2 (pc' := 64) (L' := [some (.ref x), some (.ref dr), some (.int (zi zq7)), some (.int (zi b)), some (.int ((zi i) + zi 1))]) (S' := []) (L2 := [some (.ref x), some (.ref dr), some (.int (zi zq7)), some (.int (zi b)), some (.int (zi (i + 1)))]) (S2 := []) rfl (by simp only [zi_add, zi_sub, zi_mul, zi_neg, zi_and1, zi_and7, zi_and15, zi_and31, zi_and255]) (by simp only [zi_add, zi_sub, zi_mul, zi_neg, zi_and1, zi_and7, zi_and15, zi_and31, zi_and255]) ?_
              exact gz_wk (ihlp46 h81 (i + 1) (by omega) sh81 (by omega) s86 s87 s88 pr82 pr83 pr84 lp46k6 pr85 hrw93) (gLw.s (gLw.s (gLw.s (gLw.s (gLw.s gLw.z)))))
        exact gz_wk (lp46 _ hq38 0 (Nat.lt_succ_self _) sq38 (by omega) s39 s40 s41 pr42 pr43 pr44 lp32k6 yq38_0 (show gRn (b * 64 + 0).toNat _ _ _ _ by rw [(by omega : b * 64 + 0 = 64 * b)]; exact pr45)) (gLw.s (gLw.s (gLw.s (gLw.s (gLw.s gLw.z)))))
  exact gz_wk (lp32 _ h26 0 (Nat.lt_succ_self _) sh26 (by omega) (by omega) s30 s31 eh26 pr27 pr28 pr29 hytbp (show gRn (64 * (0 : Int)).toNat _ _ _ _ from gRn.nil (fun _ => rfl))) (gLw.s (gLw.s (gLw.s (gLw.s (gLw.n gLw.z)))))
