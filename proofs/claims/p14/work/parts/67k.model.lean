/-! ===== the model: methods (by program) ===== -/
set_option maxRecDepth 20000 in
set_option maxHeartbeats 4000000 in
theorem mm_readScan (d : Nat) {ty : Nat → Nat} {h : gH} (hJ : gJ rT 1027 ty h) (m : Nat) (tm : ty m = 1) (mk : Int) (rmk : 0 ≤ mk ∧ mk ≤ 4000) (bg : Int) (rbg : 0 ≤ bg ∧ bg ≤ 4000) (n : Int) (rn : 0 ≤ n ∧ n ≤ 65535) (f0 : Int) (ef0 : h.2.2.2.2 m 7 = .int (zi f0)) (rf0 : (-1) ≤ f0 ∧ f0 ≤ (-1)) (p0 : Int) (ep0 : h.2.2.2.2 m 5 = .int (zi p0)) (rp0 : 0 ≤ p0 ∧ p0 ≤ 2000) (en : Int) (een : h.2.2.2.2 m 6 = .int (zi en)) (ren : 0 ≤ en ∧ en ≤ 2000) (sz : Int) (esz : h.2.2.2.2 m 3 = .int (zi sz)) (rsz : 0 ≤ sz ∧ sz ≤ 2000) (ip : Int) (eip : h.2.2.2.2 m 16 = .int (zi ip)) (rip : 0 ≤ ip ∧ ip ≤ 1) (w : Int) (ew : h.2.2.2.2 m 18 = .int (zi w)) (rw : 0 ≤ w ∧ w ≤ 64) (hh : Int) (ehh : h.2.2.2.2 m 19 = .int (zi hh)) (rhh : 0 ≤ hh ∧ hh ≤ 64) (wd : Int) (ewd : h.2.2.2.2 m 21 = .int (zi wd)) (rwd : 0 ≤ wd ∧ wd ≤ 2) (hg : Int) (ehg : h.2.2.2.2 m 22 = .int (zi hg)) (rhg : 0 ≤ hg ∧ hg ≤ 2) (bs : Int) (ebs : h.2.2.2.2 m 20 = .int (zi bs)) (rbs : 0 ≤ bs ∧ bs ≤ 3) (pp0 : p0 + n = en + 2) (pp1 : en ≤ sz) (uq : gUq ty) (hypi : gPi ty ip w hh wd hg bs h) : gz gPP gGG gcn (d + 8) gt141 0 (gent [.ref m, .int (zi mk), .int (zi bg), .int (zi n)] 9) [] h (fun q _ => gSs rT 1027 ty [1005, 1007, 1024, 1039, 1041, 1042, 1043, 1044, 1045, 1046, 1047, 1048, 20999, 21999, 22999, 23999, 24999, 25999] h q.2.2 ∧ ∃ f1 p1 : Int, gfin gt141 q.1 q.2.1 = some none ∧ q.2.2.2.2.2.2 m 7 = .int (zi f1) ∧ (-1) ≤ f1 ∧ f1 ≤ 4000 ∧ q.2.2.2.2.2.2 m 5 = .int (zi p1) ∧ 0 ≤ p1 ∧ p1 ≤ 4000 ∧ (f1 = -1 → (en ≤ p1 ∧ p1 ≤ sz))) := by
  have hS : gSs rT 1027 ty [1005, 1007, 1024, 1039, 1041, 1042, 1043, 1044, 1045, 1046, 1047, 1048, 20999, 21999, 22999, 23999, 24999, 25999] h h := gSs.rf hJ
  refine gz_s 2 (pc' := 2) (L' := [some (.ref m), some (.int (zi mk)), some (.int (zi bg)), some (.int (zi n)), none, none, none, none, none]) (S' := [.ref m, .ref m]) rfl ?_
  refine gs_gtk rfl (by decide) rfl hS.1 tm rfl rfl eip ?_
  refine gz_s 1 (pc' := 6) (L' := [some (.ref m), some (.int (zi mk)), some (.int (zi bg)), some (.int (zi n)), none, none, none, none, none]) (S' := [.int (zi mk), .int (zi ip), .ref m]) rfl ?_
  refine gz_call rfl (by decide) rfl (by decide) (by decide) (gcal_of rfl rfl rfl (Nat.le_of_ble_eq_true rfl) (gJ.recv (G := gGG) hS.1 tm rfl rfl)) (mm_must _ hS.1 m tm ip (by omega) mk (by omega) f0 ef0 (by omega)) (fun q1 _ wq1 => ?_)
  obtain ⟨pq1, oq1, hq1⟩ := q1
  obtain ⟨xq1, zq1, fq1_0, gq1, aq1, bq1, efq1_0, afq1_0, bfq1_0, uq1_0, uq1_1⟩ := wq1
  refine ⟨_, gq1, ?_⟩
  show gz gPP gGG gcn _ _ 9 [some (.ref m), some (.int (zi mk)), some (.int (zi bg)), some (.int (zi n)), none, none, none, none, none] [.int (zi zq1)] hq1 _
  have sq1 := gSs.tr hS xq1 (by decide)
  have s2 := (xq1.2.2.2.2.2 m 5 (by rw [tm]; decide)).trans ep0
  have s3 := (xq1.2.2.2.2.2 m 6 (by rw [tm]; decide)).trans een
  have s4 := (xq1.2.2.2.2.2 m 3 (by rw [tm]; decide)).trans esz
  have s5 := (xq1.2.2.2.2.2 m 16 (by rw [tm]; decide)).trans eip
  have s6 := (xq1.2.2.2.2.2 m 18 (by rw [tm]; decide)).trans ew
  have s7 := (xq1.2.2.2.2.2 m 19 (by rw [tm]; decide)).trans ehh
  have s8 := (xq1.2.2.2.2.2 m 21 (by rw [tm]; decide)).trans ewd
  have s9 := (xq1.2.2.2.2.2 m 22 (by rw [tm]; decide)).trans ehg
  have s10 := (xq1.2.2.2.2.2 m 20 (by rw [tm]; decide)).trans ebs
  have pr11 := gPi.fr xq1.2 (by decide) hypi
  by_cases hc12 : (zq1 : Int) = 0
  · refine gy_ifT (pc' := 31) rfl (by decide) (by decide) (by omega) hc12 ?_
    exact gz_end (I := .return_) (len := 1) rfl (Or.inl rfl) ⟨sq1, fq1_0, p0, rfl, efq1_0, (by omega), (by omega), s2, (by omega), (by omega), (by omega)⟩
  · refine gy_ifF rfl (by decide) (by decide) (by omega) hc12 ?_
    refine gz_s 3 (pc' := 16) (L' := [some (.ref m), some (.int (zi mk)), some (.int (zi bg)), some (.int (zi n)), none, none, none, none, none]) (S' := [.int (zi 8), .int (zi n), .ref m]) rfl ?_
    by_cases hc13 : (n : Int) < 8
    · refine gy_icT (pc' := 23) rfl (by decide) (by decide) (by omega) (by omega) hc13 ?_
      refine gz_s 2 (pc' := 25) (L' := [some (.ref m), some (.int (zi mk)), some (.int (zi bg)), some (.int (zi n)), none, none, none, none, none]) (S' := [.int (zi bg), .int (zi 0), .ref m]) rfl ?_
      refine gz_call rfl (by decide) rfl (by decide) (by decide) (gcal_of rfl rfl rfl (Nat.le_of_ble_eq_true rfl) (gJ.recv (G := gGG) sq1.1 tm rfl rfl)) (mm_must _ sq1.1 m tm 0 (by omega) bg (by omega) fq1_0 efq1_0 (by omega)) (fun q14 _ wq14 => ?_)
      obtain ⟨pq14, oq14, hq14⟩ := q14
      obtain ⟨xq14, zq14, fq14_0, gq14, aq14, bq14, efq14_0, afq14_0, bfq14_0, uq14_0, uq14_1⟩ := wq14
      refine ⟨_, gq14, ?_⟩
      show gz gPP gGG gcn _ _ 28 [some (.ref m), some (.int (zi mk)), some (.int (zi bg)), some (.int (zi n)), none, none, none, none, none] [.int (zi zq14)] hq14 _
      have sq14 := gSs.tr sq1 xq14 (by decide)
      have s15 := (xq14.2.2.2.2.2 m 5 (by rw [tm]; decide)).trans s2
      have s16 := (xq14.2.2.2.2.2 m 6 (by rw [tm]; decide)).trans s3
      have s17 := (xq14.2.2.2.2.2 m 3 (by rw [tm]; decide)).trans s4
      have s18 := (xq14.2.2.2.2.2 m 16 (by rw [tm]; decide)).trans s5
      have s19 := (xq14.2.2.2.2.2 m 18 (by rw [tm]; decide)).trans s6
      have s20 := (xq14.2.2.2.2.2 m 19 (by rw [tm]; decide)).trans s7
      have s21 := (xq14.2.2.2.2.2 m 21 (by rw [tm]; decide)).trans s8
      have s22 := (xq14.2.2.2.2.2 m 22 (by rw [tm]; decide)).trans s9
      have s23 := (xq14.2.2.2.2.2 m 20 (by rw [tm]; decide)).trans s10
      have pr24 := gPi.fr xq14.2 (by decide) pr11
      refine gy_ifF rfl (by decide) (by decide) (by omega) (by first | (simp [zc]; done) | (simp only [zc]; omega)) ?_
      exact gz_end (I := .return_) (len := 1) rfl (Or.inl rfl) ⟨sq14, fq14_0, p0, rfl, efq14_0, (by omega), (by omega), s15, (by omega), (by omega), (by omega)⟩
    · refine gy_icF rfl (by decide) (by decide) (by omega) (by omega) hc13 ?_
      refine gz_s 3 (pc' := 25) (L' := [some (.ref m), some (.int (zi mk)), some (.int (zi bg)), some (.int (zi n)), none, none, none, none, none]) (S' := [.int (zi bg), .int (zi 1), .ref m]) rfl ?_
      refine gz_call rfl (by decide) rfl (by decide) (by decide) (gcal_of rfl rfl rfl (Nat.le_of_ble_eq_true rfl) (gJ.recv (G := gGG) sq1.1 tm rfl rfl)) (mm_must _ sq1.1 m tm 1 (by omega) bg (by omega) fq1_0 efq1_0 (by omega)) (fun q25 _ wq25 => ?_)
      obtain ⟨pq25, oq25, hq25⟩ := q25
      obtain ⟨xq25, zq25, fq25_0, gq25, aq25, bq25, efq25_0, afq25_0, bfq25_0, uq25_0, uq25_1⟩ := wq25
      refine ⟨_, gq25, ?_⟩
      show gz gPP gGG gcn _ _ 28 [some (.ref m), some (.int (zi mk)), some (.int (zi bg)), some (.int (zi n)), none, none, none, none, none] [.int (zi zq25)] hq25 _
      have sq25 := gSs.tr sq1 xq25 (by decide)
      have s26 := (xq25.2.2.2.2.2 m 5 (by rw [tm]; decide)).trans s2
      have s27 := (xq25.2.2.2.2.2 m 6 (by rw [tm]; decide)).trans s3
      have s28 := (xq25.2.2.2.2.2 m 3 (by rw [tm]; decide)).trans s4
      have s29 := (xq25.2.2.2.2.2 m 16 (by rw [tm]; decide)).trans s5
      have s30 := (xq25.2.2.2.2.2 m 18 (by rw [tm]; decide)).trans s6
      have s31 := (xq25.2.2.2.2.2 m 19 (by rw [tm]; decide)).trans s7
      have s32 := (xq25.2.2.2.2.2 m 21 (by rw [tm]; decide)).trans s8
      have s33 := (xq25.2.2.2.2.2 m 22 (by rw [tm]; decide)).trans s9
      have s34 := (xq25.2.2.2.2.2 m 20 (by rw [tm]; decide)).trans s10
      have pr35 := gPi.fr xq25.2 (by decide) pr11
      by_cases hc36 : ¬ (zq25 : Int) = 0
      · refine gy_ifT (pc' := 32) rfl (by decide) (by decide) (by omega) hc36 ?_
        have hpc : gPic ty w hh wd hg bs hq25 := pr35 (by omega)
        have hpr := hpc.1
        refine gz_s 1 (pc' := 33) (L' := [some (.ref m), some (.int (zi mk)), some (.int (zi bg)), some (.int (zi n)), none, none, none, none, none]) (S' := [.ref m]) rfl ?_
        refine gs_gtr rfl (by decide) rfl sq25.1 tm rfl rfl rfl (fun c37 ec37 tc37 => ?_)
        refine gz_s 1 (pc' := 37) (L' := [some (.ref m), some (.int (zi mk)), some (.int (zi bg)), some (.int (zi n)), none, none, none, none, none]) (S' := [.ref m, .ref c37]) rfl ?_
        refine gs_gtk rfl (by decide) rfl sq25.1 tm rfl rfl s26 ?_
        have hl38 : 2000 ≤ hq25.2.2.2.1 c37 ∧ hq25.2.2.2.1 c37 ≤ 2000 := gJ.rowl (G := gGG) sq25.1 tc37 rfl
        refine gs_ald rfl (by decide) sq25.1 tc37 rfl rfl rfl (by decide) (fun _ => rfl) (by omega) (by omega) (fun z39 ez39 az39 bz39 => ?_)
        refine gz_s 4 (pc' := 47) (L' := [some (.ref m), some (.int (zi mk)), some (.int (zi bg)), some (.int (zi n)), some (.int (zi z39)), none, none, none, none]) (S' := [.int (zi 1), .int (zi z39), .ref m]) rfl ?_
        have jn40 : ∀ (jn40v0 : Int), ((0 ≤ jn40v0) ∧ (jn40v0 ≤ 1) ∧ (jn40v0 = 1 → (z39 = 1 ∨ z39 = bs))) → gz gPP gGG gcn (d + 8) gt141 64 [some (.ref m), some (.int (zi mk)), some (.int (zi bg)), some (.int (zi n)), some (.int (zi z39)), none, none, none, none] [.int (zi jn40v0), .ref m] hq25 (fun q _ => gSs rT 1027 ty [1005, 1007, 1024, 1039, 1041, 1042, 1043, 1044, 1045, 1046, 1047, 1048, 20999, 21999, 22999, 23999, 24999, 25999] h q.2.2 ∧ ∃ f1 p1 : Int, gfin gt141 q.1 q.2.1 = some none ∧ q.2.2.2.2.2.2 m 7 = .int (zi f1) ∧ (-1) ≤ f1 ∧ f1 ≤ 4000 ∧ q.2.2.2.2.2.2 m 5 = .int (zi p1) ∧ 0 ≤ p1 ∧ p1 ≤ 4000 ∧ (f1 = -1 → (en ≤ p1 ∧ p1 ≤ sz))) := by
          intro jn40v0 jn40d
          refine gz_s 1 (pc' := 65) (L' := [some (.ref m), some (.int (zi mk)), some (.int (zi bg)), some (.int (zi n)), some (.int (zi z39)), none, none, none, none]) (S' := [.ref m, .int (zi jn40v0), .ref m]) rfl ?_
          refine gs_gtk rfl (by decide) rfl sq25.1 tm rfl rfl s26 ?_
          refine gz_call rfl (by decide) rfl (by decide) (by decide) (gcal_of rfl rfl rfl (Nat.le_of_ble_eq_true rfl) (gJ.recv (G := gGG) sq25.1 tm rfl rfl)) (mm_must _ sq25.1 m tm jn40v0 (by omega) p0 (by omega) fq25_0 efq25_0 (by omega)) (fun q41 _ wq41 => ?_)
          obtain ⟨pq41, oq41, hq41⟩ := q41
          obtain ⟨xq41, zq41, fq41_0, gq41, aq41, bq41, efq41_0, afq41_0, bfq41_0, uq41_0, uq41_1⟩ := wq41
          refine ⟨_, gq41, ?_⟩
          show gz gPP gGG gcn _ _ 71 [some (.ref m), some (.int (zi mk)), some (.int (zi bg)), some (.int (zi n)), some (.int (zi z39)), none, none, none, none] [.int (zi zq41)] hq41 _
          have sq41 := gSs.tr sq25 xq41 (by decide)
          have s42 := (xq41.2.2.2.2.2 m 5 (by rw [tm]; decide)).trans s26
          have s43 := (xq41.2.2.2.2.2 m 6 (by rw [tm]; decide)).trans s27
          have s44 := (xq41.2.2.2.2.2 m 3 (by rw [tm]; decide)).trans s28
          have s45 := (xq41.2.2.2.2.2 m 16 (by rw [tm]; decide)).trans s29
          have s46 := (xq41.2.2.2.2.2 m 18 (by rw [tm]; decide)).trans s30
          have s47 := (xq41.2.2.2.2.2 m 19 (by rw [tm]; decide)).trans s31
          have s48 := (xq41.2.2.2.2.2 m 21 (by rw [tm]; decide)).trans s32
          have s49 := (xq41.2.2.2.2.2 m 22 (by rw [tm]; decide)).trans s33
          have s50 := (xq41.2.2.2.2.2 m 20 (by rw [tm]; decide)).trans s34
          have s51 := (xq41.2.2.2.2.2 m 4 (by rw [tm]; decide)).trans ec37
          have pr52 := gPi.fr xq41.2 (by decide) pr35
          have pr53 := gPic.fr xq41.2 (by decide) hpc
          by_cases hc54 : (zq41 : Int) = 0
          · refine gy_ifT (pc' := 98) rfl (by decide) (by decide) (by omega) hc54 ?_
            exact gz_end (I := .return_) (len := 1) rfl (Or.inl rfl) ⟨sq41, fq41_0, p0, rfl, efq41_0, (by omega), (by omega), s42, (by omega), (by omega), (by omega)⟩
          · refine gy_ifF rfl (by decide) (by decide) (by omega) hc54 ?_
            refine gy_s 7 (pc' := 83) (L' := [some (.ref m), some (.int (zi mk)), some (.int (zi bg)), some (.int (zi n)), some (.int (zi z39)), none, none, none, none]) (S' := [.int ((zi 6) + ((zi 2) * (zi z39))), .int (zi n), .ref m]) (L2 := [some (.ref m), some (.int (zi mk)), some (.int (zi bg)), some (.int (zi n)), some (.int (zi z39)), none, none, none, none]) (S2 := [.int (zi (6 + (2 * z39))), .int (zi n), .ref m]) rfl (by simp only [zi_add, zi_sub, zi_mul, zi_neg, zi_and1, zi_and7, zi_and15, zi_and31, zi_and255]) (by simp only [zi_add, zi_sub, zi_mul, zi_neg, zi_and1, zi_and7, zi_and15, zi_and31, zi_and255]) ?_
            by_cases hc55 : ¬ (n : Int) = 6 + (2 * z39)
            · refine gy_icT (pc' := 90) rfl (by decide) (by decide) (by omega) (by omega) hc55 ?_
              refine gz_s 2 (pc' := 92) (L' := [some (.ref m), some (.int (zi mk)), some (.int (zi bg)), some (.int (zi n)), some (.int (zi z39)), none, none, none, none]) (S' := [.int (zi bg), .int (zi 0), .ref m]) rfl ?_
              refine gz_call rfl (by decide) rfl (by decide) (by decide) (gcal_of rfl rfl rfl (Nat.le_of_ble_eq_true rfl) (gJ.recv (G := gGG) sq41.1 tm rfl rfl)) (mm_must _ sq41.1 m tm 0 (by omega) bg (by omega) fq41_0 efq41_0 (by omega)) (fun q56 _ wq56 => ?_)
              obtain ⟨pq56, oq56, hq56⟩ := q56
              obtain ⟨xq56, zq56, fq56_0, gq56, aq56, bq56, efq56_0, afq56_0, bfq56_0, uq56_0, uq56_1⟩ := wq56
              refine ⟨_, gq56, ?_⟩
              show gz gPP gGG gcn _ _ 95 [some (.ref m), some (.int (zi mk)), some (.int (zi bg)), some (.int (zi n)), some (.int (zi z39)), none, none, none, none] [.int (zi zq56)] hq56 _
              have sq56 := gSs.tr sq41 xq56 (by decide)
              have s57 := (xq56.2.2.2.2.2 m 5 (by rw [tm]; decide)).trans s42
              have s58 := (xq56.2.2.2.2.2 m 6 (by rw [tm]; decide)).trans s43
              have s59 := (xq56.2.2.2.2.2 m 3 (by rw [tm]; decide)).trans s44
              have s60 := (xq56.2.2.2.2.2 m 16 (by rw [tm]; decide)).trans s45
              have s61 := (xq56.2.2.2.2.2 m 18 (by rw [tm]; decide)).trans s46
              have s62 := (xq56.2.2.2.2.2 m 19 (by rw [tm]; decide)).trans s47
              have s63 := (xq56.2.2.2.2.2 m 21 (by rw [tm]; decide)).trans s48
              have s64 := (xq56.2.2.2.2.2 m 22 (by rw [tm]; decide)).trans s49
              have s65 := (xq56.2.2.2.2.2 m 20 (by rw [tm]; decide)).trans s50
              have s66 := (xq56.2.2.2.2.2 m 4 (by rw [tm]; decide)).trans s51
              have pr67 := gPi.fr xq56.2 (by decide) pr52
              have pr68 := gPic.fr xq56.2 (by decide) pr53
              refine gy_ifF rfl (by decide) (by decide) (by omega) (by first | (simp [zc]; done) | (simp only [zc]; omega)) ?_
              exact gz_end (I := .return_) (len := 1) rfl (Or.inl rfl) ⟨sq56, fq56_0, p0, rfl, efq56_0, (by omega), (by omega), s57, (by omega), (by omega), (by omega)⟩
            · refine gy_icF rfl (by decide) (by decide) (by omega) (by omega) hc55 ?_
              refine gz_s 3 (pc' := 92) (L' := [some (.ref m), some (.int (zi mk)), some (.int (zi bg)), some (.int (zi n)), some (.int (zi z39)), none, none, none, none]) (S' := [.int (zi bg), .int (zi 1), .ref m]) rfl ?_
              refine gz_call rfl (by decide) rfl (by decide) (by decide) (gcal_of rfl rfl rfl (Nat.le_of_ble_eq_true rfl) (gJ.recv (G := gGG) sq41.1 tm rfl rfl)) (mm_must _ sq41.1 m tm 1 (by omega) bg (by omega) fq41_0 efq41_0 (by omega)) (fun q69 _ wq69 => ?_)
              obtain ⟨pq69, oq69, hq69⟩ := q69
              obtain ⟨xq69, zq69, fq69_0, gq69, aq69, bq69, efq69_0, afq69_0, bfq69_0, uq69_0, uq69_1⟩ := wq69
              refine ⟨_, gq69, ?_⟩
              show gz gPP gGG gcn _ _ 95 [some (.ref m), some (.int (zi mk)), some (.int (zi bg)), some (.int (zi n)), some (.int (zi z39)), none, none, none, none] [.int (zi zq69)] hq69 _
              have sq69 := gSs.tr sq41 xq69 (by decide)
              have s70 := (xq69.2.2.2.2.2 m 5 (by rw [tm]; decide)).trans s42
              have s71 := (xq69.2.2.2.2.2 m 6 (by rw [tm]; decide)).trans s43
              have s72 := (xq69.2.2.2.2.2 m 3 (by rw [tm]; decide)).trans s44
              have s73 := (xq69.2.2.2.2.2 m 16 (by rw [tm]; decide)).trans s45
              have s74 := (xq69.2.2.2.2.2 m 18 (by rw [tm]; decide)).trans s46
              have s75 := (xq69.2.2.2.2.2 m 19 (by rw [tm]; decide)).trans s47
              have s76 := (xq69.2.2.2.2.2 m 21 (by rw [tm]; decide)).trans s48
              have s77 := (xq69.2.2.2.2.2 m 22 (by rw [tm]; decide)).trans s49
              have s78 := (xq69.2.2.2.2.2 m 20 (by rw [tm]; decide)).trans s50
              have s79 := (xq69.2.2.2.2.2 m 4 (by rw [tm]; decide)).trans s51
              have pr80 := gPi.fr xq69.2 (by decide) pr52
              have pr81 := gPic.fr xq69.2 (by decide) pr53
              by_cases hc82 : ¬ (zq69 : Int) = 0
              · refine gy_ifT (pc' := 99) rfl (by decide) (by decide) (by omega) hc82 ?_
                refine gz_s 2 (pc' := 102) (L' := [some (.ref m), some (.int (zi mk)), some (.int (zi bg)), some (.int (zi n)), some (.int (zi z39)), some (.int (zi 0)), none, none, none]) (S' := []) rfl ?_
                have hsb84 : gSbc ty fq69_0 0 bs hq69 := fun _ i i0 i1 => absurd i1 (by omega)
                have lp83 : ∀ (fu : Nat) (h85 : gH) (k : Int) (fv : Int), (4 - k).toNat < fu → gSs rT 1027 ty [1005, 1007, 1024, 1039, 1041, 1042, 1043, 1044, 1045, 1046, 1047, 1048, 20999, 21999, 22999, 23999, 24999, 25999] h h85 → (0 ≤ k ∧ k ≤ 3) → ((-1) ≤ fv ∧ fv ≤ 4000) → (k ≤ z39) → h85.2.2.2.2 m 5 = .int (zi p0) → h85.2.2.2.2 m 6 = .int (zi en) → h85.2.2.2.2 m 3 = .int (zi sz) → h85.2.2.2.2 m 16 = .int (zi ip) → h85.2.2.2.2 m 18 = .int (zi w) → h85.2.2.2.2 m 19 = .int (zi hh) → h85.2.2.2.2 m 21 = .int (zi wd) → h85.2.2.2.2 m 22 = .int (zi hg) → h85.2.2.2.2 m 20 = .int (zi bs) → h85.2.2.2.2 m 4 = .ref c37 → h85.2.2.2.2 m 7 = .int (zi fv) → gPi ty ip w hh wd hg bs h85 → gPic ty w hh wd hg bs h85 → gSbc ty fv k bs h85 → gz gPP gGG gcn (d + 8) gt141 102 [some (.ref m), some (.int (zi mk)), some (.int (zi bg)), some (.int (zi n)), some (.int (zi z39)), some (.int (zi k)), none, none, none] [] h85 (fun q _ => gSs rT 1027 ty [1005, 1007, 1024, 1039, 1041, 1042, 1043, 1044, 1045, 1046, 1047, 1048, 20999, 21999, 22999, 23999, 24999, 25999] h q.2.2 ∧ ∃ f1 p1 : Int, gfin gt141 q.1 q.2.1 = some none ∧ q.2.2.2.2.2.2 m 7 = .int (zi f1) ∧ (-1) ≤ f1 ∧ f1 ≤ 4000 ∧ q.2.2.2.2.2.2 m 5 = .int (zi p1) ∧ 0 ≤ p1 ∧ p1 ≤ 4000 ∧ (f1 = -1 → (en ≤ p1 ∧ p1 ≤ sz))) := by
                  intro fu
                  induction fu with
                  | zero => intro h85 k fv hm; exact absurd hm (Nat.not_lt_zero _)
                  | succ fu ihlp83 =>
                    intro h85 k fv lp83m sh85 lp83f0 lp83f1 lp83f2 lp83k0 lp83k1 lp83k2 lp83k3 lp83k4 lp83k5 lp83k6 lp83k7 lp83k8 lp83k9 lp83k10 lp83k11 lp83k12 lp83k13
                    refine gz_s 2 (pc' := 106) (L' := [some (.ref m), some (.int (zi mk)), some (.int (zi bg)), some (.int (zi n)), some (.int (zi z39)), some (.int (zi k)), none, none, none]) (S' := [.int (zi z39), .int (zi k)]) rfl ?_
                    by_cases hc86 : (z39 : Int) ≤ k
                    · refine gy_icT (pc' := 285) rfl (by decide) (by decide) (by omega) (by omega) hc86 ?_
                      refine gz_s 1 (pc' := 286) (L' := [some (.ref m), some (.int (zi mk)), some (.int (zi bg)), some (.int (zi n)), some (.int (zi z39)), some (.int (zi k)), none, none, none]) (S' := [.ref m]) rfl ?_
                      refine gs_gtk rfl (by decide) rfl sh85.1 tm rfl rfl lp83k10 ?_
                      refine gz_s 1 (pc' := 290) (L' := [some (.ref m), some (.int (zi mk)), some (.int (zi bg)), some (.int (zi n)), some (.int (zi z39)), some (.int (zi k)), none, none, none]) (S' := [.int (zi (-1)), .int (zi fv)]) rfl ?_
                      by_cases hc87 : (fv : Int) = (-1)
                      · refine gy_icT (pc' := 294) rfl (by decide) (by decide) (by omega) (by omega) hc87 ?_
                        have hsb : gSb ty z39 bs h85 := by
                          have e9 : z39 = k := by omega
                          rw [e9]
                          exact ⟨by omega, lp83k13 (by omega)⟩
                        refine gz_s 1 (pc' := 295) (L' := [some (.ref m), some (.int (zi mk)), some (.int (zi bg)), some (.int (zi n)), some (.int (zi z39)), some (.int (zi k)), none, none, none]) (S' := [.ref m]) rfl ?_
                        refine gs_gtk rfl (by decide) rfl sh85.1 tm rfl rfl lp83k0 ?_
                        refine gy_s 9 (pc' := 309) (L' := [some (.ref m), some (.int (zi mk)), some (.int (zi bg)), some (.int (zi n)), some (.int (zi z39)), some (.int (((zi p0) + (zi 1)) + ((zi 2) * (zi z39)))), none, none, none]) (S' := [.ref m, .ref m]) (L2 := [some (.ref m), some (.int (zi mk)), some (.int (zi bg)), some (.int (zi n)), some (.int (zi z39)), some (.int (zi ((p0 + 1) + (2 * z39)))), none, none, none]) (S2 := [.ref m, .ref m]) rfl (by simp only [zi_add, zi_sub, zi_mul, zi_neg, zi_and1, zi_and7, zi_and15, zi_and31, zi_and255]) (by simp only [zi_add, zi_sub, zi_mul, zi_neg, zi_and1, zi_and7, zi_and15, zi_and31, zi_and255]) ?_
                        refine gs_gtk rfl (by decide) rfl sh85.1 tm rfl rfl lp83k9 ?_
                        refine gz_s 1 (pc' := 314) (L' := [some (.ref m), some (.int (zi mk)), some (.int (zi bg)), some (.int (zi n)), some (.int (zi z39)), some (.int (zi ((p0 + 1) + (2 * z39)))), none, none, none]) (S' := [.int (zi ((p0 + 1) + (2 * z39))), .ref c37, .ref m]) rfl ?_
                        have hl88 : 2000 ≤ h85.2.2.2.1 c37 ∧ h85.2.2.2.1 c37 ≤ 2000 := gJ.rowl (G := gGG) sh85.1 tc37 rfl
                        refine gs_ald rfl (by decide) sh85.1 tc37 rfl rfl rfl (by decide) (fun _ => rfl) (by omega) (by omega) (fun z89 ez89 az89 bz89 => ?_)
                        refine gs_put rfl (by decide) rfl sh85 tm rfl rfl rfl rfl (Or.inl rfl) (by decide) (by omega) (by omega) (fun h90 sh90 eh90 fh90 => ?_)
                        have pr91 := gPi.pt fh90 tm (by decide) lp83k11
                        have pr92 := gPic.pt fh90 tm (by decide) lp83k12
                        have pr93 := gSbc.pt fh90 tm (by decide) lp83k13
                        have pr94 := gSb.pt fh90 tm (by decide) hsb
                        have s95 := (fh90 m 5 (fun q => absurd q.2 (by decide))).trans lp83k0
                        have s96 := (fh90 m 6 (fun q => absurd q.2 (by decide))).trans lp83k1
                        have s97 := (fh90 m 3 (fun q => absurd q.2 (by decide))).trans lp83k2
                        have s98 := (fh90 m 16 (fun q => absurd q.2 (by decide))).trans lp83k3
                        have s99 := (fh90 m 18 (fun q => absurd q.2 (by decide))).trans lp83k4
                        have s100 := (fh90 m 19 (fun q => absurd q.2 (by decide))).trans lp83k5
                        have s101 := (fh90 m 21 (fun q => absurd q.2 (by decide))).trans lp83k6
                        have s102 := (fh90 m 22 (fun q => absurd q.2 (by decide))).trans lp83k7
                        have s103 := (fh90 m 20 (fun q => absurd q.2 (by decide))).trans lp83k8
                        have s104 := (fh90 m 4 (fun q => absurd q.2 (by decide))).trans lp83k9
                        have s105 := (fh90 m 7 (fun q => absurd q.2 (by decide))).trans lp83k10
                        refine gz_s 2 (pc' := 320) (L' := [some (.ref m), some (.int (zi mk)), some (.int (zi bg)), some (.int (zi n)), some (.int (zi z39)), some (.int (zi ((p0 + 1) + (2 * z39)))), none, none, none]) (S' := [.ref m, .ref m]) rfl ?_
                        refine gs_gtk rfl (by decide) rfl sh90.1 tm rfl rfl s104 ?_
                        refine gy_s 3 (pc' := 327) (L' := [some (.ref m), some (.int (zi mk)), some (.int (zi bg)), some (.int (zi n)), some (.int (zi z39)), some (.int (zi ((p0 + 1) + (2 * z39)))), none, none, none]) (S' := [.int ((zi ((p0 + 1) + (2 * z39))) + (zi 1)), .ref c37, .ref m]) (L2 := [some (.ref m), some (.int (zi mk)), some (.int (zi bg)), some (.int (zi n)), some (.int (zi z39)), some (.int (zi ((p0 + 1) + (2 * z39)))), none, none, none]) (S2 := [.int (zi (((p0 + 1) + (2 * z39)) + 1)), .ref c37, .ref m]) rfl (by simp only [zi_add, zi_sub, zi_mul, zi_neg, zi_and1, zi_and7, zi_and15, zi_and31, zi_and255]) (by simp only [zi_add, zi_sub, zi_mul, zi_neg, zi_and1, zi_and7, zi_and15, zi_and31, zi_and255]) ?_
                        have hl106 : 2000 ≤ h90.2.2.2.1 c37 ∧ h90.2.2.2.1 c37 ≤ 2000 := gJ.rowl (G := gGG) sh90.1 tc37 rfl
                        refine gs_ald rfl (by decide) sh90.1 tc37 rfl rfl rfl (by decide) (fun _ => rfl) (by omega) (by omega) (fun z107 ez107 az107 bz107 => ?_)
                        refine gs_put rfl (by decide) rfl sh90 tm rfl rfl rfl rfl (Or.inl rfl) (by decide) (by omega) (by omega) (fun h108 sh108 eh108 fh108 => ?_)
                        have pr109 := gPi.pt fh108 tm (by decide) pr91
                        have pr110 := gPic.pt fh108 tm (by decide) pr92
                        have pr111 := gSbc.pt fh108 tm (by decide) pr93
                        have pr112 := gSb.pt fh108 tm (by decide) pr94
                        have s113 := (fh108 m 5 (fun q => absurd q.2 (by decide))).trans s95
                        have s114 := (fh108 m 6 (fun q => absurd q.2 (by decide))).trans s96
                        have s115 := (fh108 m 3 (fun q => absurd q.2 (by decide))).trans s97
                        have s116 := (fh108 m 16 (fun q => absurd q.2 (by decide))).trans s98
                        have s117 := (fh108 m 18 (fun q => absurd q.2 (by decide))).trans s99
                        have s118 := (fh108 m 19 (fun q => absurd q.2 (by decide))).trans s100
                        have s119 := (fh108 m 21 (fun q => absurd q.2 (by decide))).trans s101
                        have s120 := (fh108 m 22 (fun q => absurd q.2 (by decide))).trans s102
                        have s121 := (fh108 m 20 (fun q => absurd q.2 (by decide))).trans s103
                        have s122 := (fh108 m 4 (fun q => absurd q.2 (by decide))).trans s104
                        have s123 := (fh108 m 7 (fun q => absurd q.2 (by decide))).trans s105
                        have s124 := (fh108 m 41 (fun q => absurd q.2 (by decide))).trans eh90
                        refine gz_s 2 (pc' := 333) (L' := [some (.ref m), some (.int (zi mk)), some (.int (zi bg)), some (.int (zi n)), some (.int (zi z39)), some (.int (zi ((p0 + 1) + (2 * z39)))), none, none, none]) (S' := [.ref m, .ref m]) rfl ?_
                        refine gs_gtk rfl (by decide) rfl sh108.1 tm rfl rfl s122 ?_
                        refine gy_s 3 (pc' := 340) (L' := [some (.ref m), some (.int (zi mk)), some (.int (zi bg)), some (.int (zi n)), some (.int (zi z39)), some (.int (zi ((p0 + 1) + (2 * z39)))), none, none, none]) (S' := [.int ((zi ((p0 + 1) + (2 * z39))) + (zi 2)), .ref c37, .ref m]) (L2 := [some (.ref m), some (.int (zi mk)), some (.int (zi bg)), some (.int (zi n)), some (.int (zi z39)), some (.int (zi ((p0 + 1) + (2 * z39)))), none, none, none]) (S2 := [.int (zi (((p0 + 1) + (2 * z39)) + 2)), .ref c37, .ref m]) rfl (by simp only [zi_add, zi_sub, zi_mul, zi_neg, zi_and1, zi_and7, zi_and15, zi_and31, zi_and255]) (by simp only [zi_add, zi_sub, zi_mul, zi_neg, zi_and1, zi_and7, zi_and15, zi_and31, zi_and255]) ?_
                        have hl125 : 2000 ≤ h108.2.2.2.1 c37 ∧ h108.2.2.2.1 c37 ≤ 2000 := gJ.rowl (G := gGG) sh108.1 tc37 rfl
                        refine gs_ald rfl (by decide) sh108.1 tc37 rfl rfl rfl (by decide) (fun _ => rfl) (by omega) (by omega) (fun z126 ez126 az126 bz126 => ?_)
                        refine gz_s 1 (pc' := 343) (L' := [some (.ref m), some (.int (zi mk)), some (.int (zi bg)), some (.int (zi n)), some (.int (zi z39)), some (.int (zi ((p0 + 1) + (2 * z39)))), none, none, none]) (S' := [.int (zi 16), .int (zi z126), .ref m]) rfl ?_
                        refine gy_div rfl (by decide) (by omega) (by omega) ?_
                        refine gs_put rfl (by decide) rfl sh108 tm rfl rfl rfl rfl (Or.inl rfl) (by decide) (by omega) (by omega) (fun h127 sh127 eh127 fh127 => ?_)
                        have pr128 := gPi.pt fh127 tm (by decide) pr109
                        have pr129 := gPic.pt fh127 tm (by decide) pr110
                        have pr130 := gSbc.pt fh127 tm (by decide) pr111
                        have pr131 := gSb.pt fh127 tm (by decide) pr112
                        have s132 := (fh127 m 5 (fun q => absurd q.2 (by decide))).trans s113
                        have s133 := (fh127 m 6 (fun q => absurd q.2 (by decide))).trans s114
                        have s134 := (fh127 m 3 (fun q => absurd q.2 (by decide))).trans s115
                        have s135 := (fh127 m 16 (fun q => absurd q.2 (by decide))).trans s116
                        have s136 := (fh127 m 18 (fun q => absurd q.2 (by decide))).trans s117
                        have s137 := (fh127 m 19 (fun q => absurd q.2 (by decide))).trans s118
                        have s138 := (fh127 m 21 (fun q => absurd q.2 (by decide))).trans s119
                        have s139 := (fh127 m 22 (fun q => absurd q.2 (by decide))).trans s120
                        have s140 := (fh127 m 20 (fun q => absurd q.2 (by decide))).trans s121
                        have s141 := (fh127 m 4 (fun q => absurd q.2 (by decide))).trans s122
                        have s142 := (fh127 m 7 (fun q => absurd q.2 (by decide))).trans s123
                        have s143 := (fh127 m 41 (fun q => absurd q.2 (by decide))).trans s124
                        have s144 := (fh127 m 42 (fun q => absurd q.2 (by decide))).trans eh108
                        refine gz_s 2 (pc' := 349) (L' := [some (.ref m), some (.int (zi mk)), some (.int (zi bg)), some (.int (zi n)), some (.int (zi z39)), some (.int (zi ((p0 + 1) + (2 * z39)))), none, none, none]) (S' := [.ref m, .ref m]) rfl ?_
                        refine gs_gtk rfl (by decide) rfl sh127.1 tm rfl rfl s141 ?_
                        refine gy_s 3 (pc' := 356) (L' := [some (.ref m), some (.int (zi mk)), some (.int (zi bg)), some (.int (zi n)), some (.int (zi z39)), some (.int (zi ((p0 + 1) + (2 * z39)))), none, none, none]) (S' := [.int ((zi ((p0 + 1) + (2 * z39))) + (zi 2)), .ref c37, .ref m]) (L2 := [some (.ref m), some (.int (zi mk)), some (.int (zi bg)), some (.int (zi n)), some (.int (zi z39)), some (.int (zi ((p0 + 1) + (2 * z39)))), none, none, none]) (S2 := [.int (zi (((p0 + 1) + (2 * z39)) + 2)), .ref c37, .ref m]) rfl (by simp only [zi_add, zi_sub, zi_mul, zi_neg, zi_and1, zi_and7, zi_and15, zi_and31, zi_and255]) (by simp only [zi_add, zi_sub, zi_mul, zi_neg, zi_and1, zi_and7, zi_and15, zi_and31, zi_and255]) ?_
                        have hl145 : 2000 ≤ h127.2.2.2.1 c37 ∧ h127.2.2.2.1 c37 ≤ 2000 := gJ.rowl (G := gGG) sh127.1 tc37 rfl
                        refine gs_ald rfl (by decide) sh127.1 tc37 rfl rfl rfl (by decide) (fun _ => rfl) (by omega) (by omega) (fun z146 ez146 az146 bz146 => ?_)
                        refine gz_s 1 (pc' := 359) (L' := [some (.ref m), some (.int (zi mk)), some (.int (zi bg)), some (.int (zi n)), some (.int (zi z39)), some (.int (zi ((p0 + 1) + (2 * z39)))), none, none, none]) (S' := [.int (zi 16), .int (zi z146), .ref m]) rfl ?_
                        refine gy_rem rfl (by decide) (by omega) (by omega) ?_
                        refine gs_put rfl (by decide) rfl sh127 tm rfl rfl rfl rfl (Or.inl rfl) (by decide) (by omega) (by omega) (fun h147 sh147 eh147 fh147 => ?_)
                        have pr148 := gPi.pt fh147 tm (by decide) pr128
                        have pr149 := gPic.pt fh147 tm (by decide) pr129
                        have pr150 := gSbc.pt fh147 tm (by decide) pr130
                        have pr151 := gSb.pt fh147 tm (by decide) pr131
                        have s152 := (fh147 m 5 (fun q => absurd q.2 (by decide))).trans s132
                        have s153 := (fh147 m 6 (fun q => absurd q.2 (by decide))).trans s133
                        have s154 := (fh147 m 3 (fun q => absurd q.2 (by decide))).trans s134
                        have s155 := (fh147 m 16 (fun q => absurd q.2 (by decide))).trans s135
                        have s156 := (fh147 m 18 (fun q => absurd q.2 (by decide))).trans s136
                        have s157 := (fh147 m 19 (fun q => absurd q.2 (by decide))).trans s137
                        have s158 := (fh147 m 21 (fun q => absurd q.2 (by decide))).trans s138
                        have s159 := (fh147 m 22 (fun q => absurd q.2 (by decide))).trans s139
                        have s160 := (fh147 m 20 (fun q => absurd q.2 (by decide))).trans s140
                        have s161 := (fh147 m 4 (fun q => absurd q.2 (by decide))).trans s141
                        have s162 := (fh147 m 7 (fun q => absurd q.2 (by decide))).trans s142
                        have s163 := (fh147 m 41 (fun q => absurd q.2 (by decide))).trans s143
                        have s164 := (fh147 m 42 (fun q => absurd q.2 (by decide))).trans s144
                        have s165 := (fh147 m 43 (fun q => absurd q.2 (by decide))).trans eh127
                        refine gz_s 1 (pc' := 364) (L' := [some (.ref m), some (.int (zi mk)), some (.int (zi bg)), some (.int (zi n)), some (.int (zi z39)), some (.int (zi ((p0 + 1) + (2 * z39)))), none, none, none]) (S' := [.ref m]) rfl ?_
                        refine gs_gtk rfl (by decide) rfl sh147.1 tm rfl rfl s163 ?_
                        have jn166 : ∀ (jn166v0 : Int), ((0 ≤ jn166v0) ∧ (jn166v0 ≤ 1) ∧ (jn166v0 = 1 → (z89 ≤ z107 ∧ z107 ≤ 63))) → gz gPP gGG gcn (d + 8) gt141 416 [some (.ref m), some (.int (zi mk)), some (.int (zi bg)), some (.int (zi n)), some (.int (zi z39)), some (.int (zi ((p0 + 1) + (2 * z39)))), none, none, none] [.int (zi jn166v0)] h147 (fun q _ => gSs rT 1027 ty [1005, 1007, 1024, 1039, 1041, 1042, 1043, 1044, 1045, 1046, 1047, 1048, 20999, 21999, 22999, 23999, 24999, 25999] h q.2.2 ∧ ∃ f1 p1 : Int, gfin gt141 q.1 q.2.1 = some none ∧ q.2.2.2.2.2.2 m 7 = .int (zi f1) ∧ (-1) ≤ f1 ∧ f1 ≤ 4000 ∧ q.2.2.2.2.2.2 m 5 = .int (zi p1) ∧ 0 ≤ p1 ∧ p1 ≤ 4000 ∧ (f1 = -1 → (en ≤ p1 ∧ p1 ≤ sz))) := by
                          intro jn166v0 jn166d
                          refine gz_s 2 (pc' := 420) (L' := [some (.ref m), some (.int (zi mk)), some (.int (zi bg)), some (.int (zi n)), some (.int (zi z39)), some (.int (zi ((p0 + 1) + (2 * z39)))), some (.int (zi jn166v0)), none, none]) (S' := [.int (zi jn166v0)]) rfl ?_
                          have jn167 : ∀ (jn167v0 : Int), ((0 ≤ jn167v0) ∧ (jn167v0 ≤ 1) ∧ (jn167v0 = 1 → (z89 ≤ z107 ∧ z107 ≤ 63 ∧ (z146 % 16) ≤ 13))) → gz gPP gGG gcn (d + 8) gt141 457 [some (.ref m), some (.int (zi mk)), some (.int (zi bg)), some (.int (zi n)), some (.int (zi z39)), some (.int (zi ((p0 + 1) + (2 * z39)))), some (.int (zi jn166v0)), none, none] [.int (zi jn167v0)] h147 (fun q _ => gSs rT 1027 ty [1005, 1007, 1024, 1039, 1041, 1042, 1043, 1044, 1045, 1046, 1047, 1048, 20999, 21999, 22999, 23999, 24999, 25999] h q.2.2 ∧ ∃ f1 p1 : Int, gfin gt141 q.1 q.2.1 = some none ∧ q.2.2.2.2.2.2 m 7 = .int (zi f1) ∧ (-1) ≤ f1 ∧ f1 ≤ 4000 ∧ q.2.2.2.2.2.2 m 5 = .int (zi p1) ∧ 0 ≤ p1 ∧ p1 ≤ 4000 ∧ (f1 = -1 → (en ≤ p1 ∧ p1 ≤ sz))) := by
                            intro jn167v0 jn167d
                            refine gz_s 3 (pc' := 461) (L' := [some (.ref m), some (.int (zi mk)), some (.int (zi bg)), some (.int (zi n)), some (.int (zi z39)), some (.int (zi ((p0 + 1) + (2 * z39)))), some (.int (zi jn167v0)), none, none]) (S' := [.ref m, .ref m]) rfl ?_
                            refine gs_get rfl (by decide) rfl sh147.1 tm rfl rfl rfl (fun z168 ez168 az168 bz168 => ?_)
                            have jn169 : ∀ (jn169v0 : Int), ((0 ≤ jn169v0) ∧ (jn169v0 ≤ 1) ∧ (jn169v0 = 1 → (z89 ≤ z107 ∧ z107 ≤ 63 ∧ (z146 % 16) ≤ 13))) → gz gPP gGG gcn (d + 8) gt141 507 [some (.ref m), some (.int (zi mk)), some (.int (zi bg)), some (.int (zi n)), some (.int (zi z39)), some (.int (zi ((p0 + 1) + (2 * z39)))), some (.int (zi jn167v0)), none, none] [.int (zi jn169v0), .ref m] h147 (fun q _ => gSs rT 1027 ty [1005, 1007, 1024, 1039, 1041, 1042, 1043, 1044, 1045, 1046, 1047, 1048, 20999, 21999, 22999, 23999, 24999, 25999] h q.2.2 ∧ ∃ f1 p1 : Int, gfin gt141 q.1 q.2.1 = some none ∧ q.2.2.2.2.2.2 m 7 = .int (zi f1) ∧ (-1) ≤ f1 ∧ f1 ≤ 4000 ∧ q.2.2.2.2.2.2 m 5 = .int (zi p1) ∧ 0 ≤ p1 ∧ p1 ≤ 4000 ∧ (f1 = -1 → (en ≤ p1 ∧ p1 ≤ sz))) := by
                              intro jn169v0 jn169d
                              refine gz_s 1 (pc' := 509) (L' := [some (.ref m), some (.int (zi mk)), some (.int (zi bg)), some (.int (zi n)), some (.int (zi z39)), some (.int (zi ((p0 + 1) + (2 * z39)))), some (.int (zi jn167v0)), none, none]) (S' := [.int (zi ((p0 + 1) + (2 * z39))), .int (zi jn169v0), .ref m]) rfl ?_
                              refine gz_call rfl (by decide) rfl (by decide) (by decide) (gcal_of rfl rfl rfl (Nat.le_of_ble_eq_true rfl) (gJ.recv (G := gGG) sh147.1 tm rfl rfl)) (mm_must _ sh147.1 m tm jn169v0 (by omega) ((p0 + 1) + (2 * z39)) (by omega) fv s162 (by omega)) (fun q170 _ wq170 => ?_)
                              obtain ⟨pq170, oq170, hq170⟩ := q170
                              obtain ⟨xq170, zq170, fq170_0, gq170, aq170, bq170, efq170_0, afq170_0, bfq170_0, uq170_0, uq170_1⟩ := wq170
                              refine ⟨_, gq170, ?_⟩
                              show gz gPP gGG gcn _ _ 512 [some (.ref m), some (.int (zi mk)), some (.int (zi bg)), some (.int (zi n)), some (.int (zi z39)), some (.int (zi ((p0 + 1) + (2 * z39)))), some (.int (zi jn167v0)), none, none] [.int (zi zq170)] hq170 _
                              have sq170 := gSs.tr sh147 xq170 (by decide)
                              have s171 := (xq170.2.2.2.2.2 m 5 (by rw [tm]; decide)).trans s152
                              have s172 := (xq170.2.2.2.2.2 m 6 (by rw [tm]; decide)).trans s153
                              have s173 := (xq170.2.2.2.2.2 m 3 (by rw [tm]; decide)).trans s154
                              have s174 := (xq170.2.2.2.2.2 m 16 (by rw [tm]; decide)).trans s155
                              have s175 := (xq170.2.2.2.2.2 m 18 (by rw [tm]; decide)).trans s156
                              have s176 := (xq170.2.2.2.2.2 m 19 (by rw [tm]; decide)).trans s157
                              have s177 := (xq170.2.2.2.2.2 m 21 (by rw [tm]; decide)).trans s158
                              have s178 := (xq170.2.2.2.2.2 m 22 (by rw [tm]; decide)).trans s159
                              have s179 := (xq170.2.2.2.2.2 m 20 (by rw [tm]; decide)).trans s160
                              have s180 := (xq170.2.2.2.2.2 m 4 (by rw [tm]; decide)).trans s161
                              have s181 := (xq170.2.2.2.2.2 m 41 (by rw [tm]; decide)).trans s163
                              have s182 := (xq170.2.2.2.2.2 m 42 (by rw [tm]; decide)).trans s164
                              have s183 := (xq170.2.2.2.2.2 m 43 (by rw [tm]; decide)).trans s165
                              have s184 := (xq170.2.2.2.2.2 m 44 (by rw [tm]; decide)).trans eh147
                              have s185 := (xq170.2.2.2.2.2 m 17 (by rw [tm]; decide)).trans ez168
                              have pr186 := gPi.fr xq170.2 (by decide) pr148
                              have pr187 := gPic.fr xq170.2 (by decide) pr149
                              have pr188 := gSbc.fr xq170.2 (by decide) pr150
                              have pr189 := gSb.fr xq170.2 (by decide) pr151
                              by_cases hc190 : ¬ (zq170 : Int) = 0
                              · refine gy_ifT (pc' := 516) rfl (by decide) (by decide) (by omega) hc190 ?_
                                refine gz_s 2 (pc' := 519) (L' := [some (.ref m), some (.int (zi mk)), some (.int (zi bg)), some (.int (zi n)), some (.int (zi z39)), some (.int (zi ((p0 + 1) + (2 * z39)))), some (.int (zi jn167v0)), none, none]) (S' := [.int (zi z39), .ref m]) rfl ?_
                                refine gs_put rfl (by decide) rfl sq170 tm rfl rfl rfl rfl (Or.inl rfl) (by decide) (by omega) (by omega) (fun h191 sh191 eh191 fh191 => ?_)
                                have pr192 := gPi.pt fh191 tm (by decide) pr186
                                have pr193 := gPic.pt fh191 tm (by decide) pr187
                                have pr194 := gSbc.pt fh191 tm (by decide) pr188
                                have pr195 := gSb.pt fh191 tm (by decide) pr189
                                have s196 := (fh191 m 5 (fun q => absurd q.2 (by decide))).trans s171
                                have s197 := (fh191 m 6 (fun q => absurd q.2 (by decide))).trans s172
                                have s198 := (fh191 m 3 (fun q => absurd q.2 (by decide))).trans s173
                                have s199 := (fh191 m 16 (fun q => absurd q.2 (by decide))).trans s174
                                have s200 := (fh191 m 18 (fun q => absurd q.2 (by decide))).trans s175
                                have s201 := (fh191 m 19 (fun q => absurd q.2 (by decide))).trans s176
                                have s202 := (fh191 m 21 (fun q => absurd q.2 (by decide))).trans s177
                                have s203 := (fh191 m 22 (fun q => absurd q.2 (by decide))).trans s178
                                have s204 := (fh191 m 20 (fun q => absurd q.2 (by decide))).trans s179
                                have s205 := (fh191 m 4 (fun q => absurd q.2 (by decide))).trans s180
                                have s206 := (fh191 m 41 (fun q => absurd q.2 (by decide))).trans s181
                                have s207 := (fh191 m 42 (fun q => absurd q.2 (by decide))).trans s182
                                have s208 := (fh191 m 43 (fun q => absurd q.2 (by decide))).trans s183
                                have s209 := (fh191 m 44 (fun q => absurd q.2 (by decide))).trans s184
                                have s210 := (fh191 m 17 (fun q => absurd q.2 (by decide))).trans s185
                                have s211 := (fh191 m 7 (fun q => absurd q.2 (by decide))).trans efq170_0
                                refine gz_s 2 (pc' := 524) (L' := [some (.ref m), some (.int (zi mk)), some (.int (zi bg)), some (.int (zi n)), some (.int (zi z39)), some (.int (zi ((p0 + 1) + (2 * z39)))), some (.int (zi jn167v0)), none, none]) (S' := [.ref m, .ref m]) rfl ?_
                                refine gs_gtk rfl (by decide) rfl sh191.1 tm rfl rfl s197 ?_
                                refine gs_put rfl (by decide) rfl sh191 tm rfl rfl rfl rfl (Or.inl rfl) (by decide) (by omega) (by omega) (fun h212 sh212 eh212 fh212 => ?_)
                                have pr213 := gPi.pt fh212 tm (by decide) pr192
                                have pr214 := gPic.pt fh212 tm (by decide) pr193
                                have pr215 := gSbc.pt fh212 tm (by decide) pr194
                                have pr216 := gSb.pt fh212 tm (by decide) pr195
                                have s217 := (fh212 m 5 (fun q => absurd q.2 (by decide))).trans s196
                                have s218 := (fh212 m 6 (fun q => absurd q.2 (by decide))).trans s197
                                have s219 := (fh212 m 3 (fun q => absurd q.2 (by decide))).trans s198
                                have s220 := (fh212 m 16 (fun q => absurd q.2 (by decide))).trans s199
                                have s221 := (fh212 m 18 (fun q => absurd q.2 (by decide))).trans s200
                                have s222 := (fh212 m 19 (fun q => absurd q.2 (by decide))).trans s201
                                have s223 := (fh212 m 21 (fun q => absurd q.2 (by decide))).trans s202
                                have s224 := (fh212 m 22 (fun q => absurd q.2 (by decide))).trans s203
                                have s225 := (fh212 m 20 (fun q => absurd q.2 (by decide))).trans s204
                                have s226 := (fh212 m 4 (fun q => absurd q.2 (by decide))).trans s205
                                have s227 := (fh212 m 41 (fun q => absurd q.2 (by decide))).trans s206
                                have s228 := (fh212 m 42 (fun q => absurd q.2 (by decide))).trans s207
                                have s229 := (fh212 m 43 (fun q => absurd q.2 (by decide))).trans s208
                                have s230 := (fh212 m 44 (fun q => absurd q.2 (by decide))).trans s209
                                have s231 := (fh212 m 17 (fun q => absurd q.2 (by decide))).trans s210
                                have s232 := (fh212 m 7 (fun q => absurd q.2 (by decide))).trans s211
                                have s233 := (fh212 m 39 (fun q => absurd q.2 (by decide))).trans eh191
                                refine gz_s 2 (pc' := 532) (L' := [some (.ref m), some (.int (zi mk)), some (.int (zi bg)), some (.int (zi n)), some (.int (zi z39)), some (.int (zi ((p0 + 1) + (2 * z39)))), some (.int (zi jn167v0)), none, none]) (S' := [.int (zi 0), .ref m]) rfl ?_
                                refine gs_put rfl (by decide) rfl sh212 tm rfl rfl rfl rfl (Or.inl rfl) (by decide) (by omega) (by omega) (fun h234 sh234 eh234 fh234 => ?_)
                                have pr235 := gPi.pt fh234 tm (by decide) pr213
                                have pr236 := gPic.pt fh234 tm (by decide) pr214
                                have pr237 := gSbc.pt fh234 tm (by decide) pr215
                                have pr238 := gSb.pt fh234 tm (by decide) pr216
                                have s239 := (fh234 m 5 (fun q => absurd q.2 (by decide))).trans s217
                                have s240 := (fh234 m 6 (fun q => absurd q.2 (by decide))).trans s218
                                have s241 := (fh234 m 3 (fun q => absurd q.2 (by decide))).trans s219
                                have s242 := (fh234 m 16 (fun q => absurd q.2 (by decide))).trans s220
                                have s243 := (fh234 m 18 (fun q => absurd q.2 (by decide))).trans s221
                                have s244 := (fh234 m 19 (fun q => absurd q.2 (by decide))).trans s222
                                have s245 := (fh234 m 21 (fun q => absurd q.2 (by decide))).trans s223
                                have s246 := (fh234 m 22 (fun q => absurd q.2 (by decide))).trans s224
                                have s247 := (fh234 m 20 (fun q => absurd q.2 (by decide))).trans s225
                                have s248 := (fh234 m 4 (fun q => absurd q.2 (by decide))).trans s226
                                have s249 := (fh234 m 41 (fun q => absurd q.2 (by decide))).trans s227
                                have s250 := (fh234 m 42 (fun q => absurd q.2 (by decide))).trans s228
                                have s251 := (fh234 m 43 (fun q => absurd q.2 (by decide))).trans s229
                                have s252 := (fh234 m 44 (fun q => absurd q.2 (by decide))).trans s230
                                have s253 := (fh234 m 17 (fun q => absurd q.2 (by decide))).trans s231
                                have s254 := (fh234 m 7 (fun q => absurd q.2 (by decide))).trans s232
                                have s255 := (fh234 m 39 (fun q => absurd q.2 (by decide))).trans s233
                                have s256 := (fh234 m 47 (fun q => absurd q.2 (by decide))).trans eh212
                                refine gz_s 1 (pc' := 536) (L' := [some (.ref m), some (.int (zi mk)), some (.int (zi bg)), some (.int (zi n)), some (.int (zi z39)), some (.int (zi ((p0 + 1) + (2 * z39)))), some (.int (zi jn167v0)), none, none]) (S' := [.ref m]) rfl ?_
                                obtain ⟨z257, ez257, az257, bz257⟩ := gJ.int (k := 46) (G := gGG) sh234.1 tm rfl rfl rfl
                                obtain ⟨z258, ez258, az258, bz258⟩ := gJ.int (k := 8) (G := gGG) sh234.1 tm rfl rfl rfl
                                refine gz_call rfl (by decide) rfl (by decide) (by decide) (gcal_of rfl rfl rfl (Nat.le_of_ble_eq_true rfl) (gJ.recv (G := gGG) sh234.1 tm rfl rfl)) (mm_readUnits _ sh234.1 m tm en s256 (by omega) 0 eh234 (by omega) sz s241 (by omega) z257 ez257 (by omega) z258 ez258 (by omega) z39 s255 (by omega) z168 s253 (by omega) z89 s249 (by omega) z107 s250 (by omega) (z126 / 16) s251 (by omega) (z146 % 16) s252 (by omega) w s243 (by omega) hh s244 (by omega) wd s245 (by omega) hg s246 (by omega) bs s247 (by omega) (by omega) pr236 pr238) (fun q259 _ wq259 => ?_)
                                obtain ⟨pq259, oq259, hq259⟩ := q259
                                obtain ⟨xq259, fq259_0, fq259_1, gq259, efq259_0, afq259_0, bfq259_0, efq259_1, afq259_1, bfq259_1, uq259_0, uq259_1⟩ := wq259
                                refine ⟨_, gq259, ?_⟩
                                show gz gPP gGG gcn _ _ 539 [some (.ref m), some (.int (zi mk)), some (.int (zi bg)), some (.int (zi n)), some (.int (zi z39)), some (.int (zi ((p0 + 1) + (2 * z39)))), some (.int (zi jn167v0)), none, none] [] hq259 _
                                have sq259 := gSs.tr sh234 xq259 (by decide)
                                have s260 := (xq259.2.2.2.2.2 m 5 (by rw [tm]; decide)).trans s239
                                have s261 := (xq259.2.2.2.2.2 m 6 (by rw [tm]; decide)).trans s240
                                have s262 := (xq259.2.2.2.2.2 m 3 (by rw [tm]; decide)).trans s241
                                have s263 := (xq259.2.2.2.2.2 m 16 (by rw [tm]; decide)).trans s242
                                have s264 := (xq259.2.2.2.2.2 m 18 (by rw [tm]; decide)).trans s243
                                have s265 := (xq259.2.2.2.2.2 m 19 (by rw [tm]; decide)).trans s244
                                have s266 := (xq259.2.2.2.2.2 m 21 (by rw [tm]; decide)).trans s245
                                have s267 := (xq259.2.2.2.2.2 m 22 (by rw [tm]; decide)).trans s246
                                have s268 := (xq259.2.2.2.2.2 m 20 (by rw [tm]; decide)).trans s247
                                have s269 := (xq259.2.2.2.2.2 m 4 (by rw [tm]; decide)).trans s248
                                have s270 := (xq259.2.2.2.2.2 m 41 (by rw [tm]; decide)).trans s249
                                have s271 := (xq259.2.2.2.2.2 m 42 (by rw [tm]; decide)).trans s250
                                have s272 := (xq259.2.2.2.2.2 m 43 (by rw [tm]; decide)).trans s251
                                have s273 := (xq259.2.2.2.2.2 m 44 (by rw [tm]; decide)).trans s252
                                have s274 := (xq259.2.2.2.2.2 m 17 (by rw [tm]; decide)).trans s253
                                have s275 := (xq259.2.2.2.2.2 m 7 (by rw [tm]; decide)).trans s254
                                have s276 := (xq259.2.2.2.2.2 m 39 (by rw [tm]; decide)).trans s255
                                have s277 := (xq259.2.2.2.2.2 m 8 (by rw [tm]; decide)).trans ez258
                                have pr278 := gPi.fr xq259.2 (by decide) pr235
                                have pr279 := gPic.fr xq259.2 (by decide) pr236
                                have pr280 := gSbc.fr xq259.2 (by decide) pr237
                                have pr281 := gSb.fr xq259.2 (by decide) pr238
                                refine gz_s 2 (pc' := 541) (L' := [some (.ref m), some (.int (zi mk)), some (.int (zi bg)), some (.int (zi n)), some (.int (zi z39)), some (.int (zi ((p0 + 1) + (2 * z39)))), some (.int (zi jn167v0)), none, none]) (S' := [.ref m, .ref m]) rfl ?_
                                refine gs_get rfl (by decide) rfl sq259.1 tm rfl rfl rfl (fun z282 ez282 az282 bz282 => ?_)
                                refine gy_s 2 (pc' := 546) (L' := [some (.ref m), some (.int (zi mk)), some (.int (zi bg)), some (.int (zi n)), some (.int (zi z39)), some (.int (zi ((p0 + 1) + (2 * z39)))), some (.int (zi jn167v0)), none, none]) (S' := [.int ((zi z282) + (zi 1)), .ref m]) (L2 := [some (.ref m), some (.int (zi mk)), some (.int (zi bg)), some (.int (zi n)), some (.int (zi z39)), some (.int (zi ((p0 + 1) + (2 * z39)))), some (.int (zi jn167v0)), none, none]) (S2 := [.int (zi (z282 + 1)), .ref m]) rfl (by simp only [zi_add, zi_sub, zi_mul, zi_neg, zi_and1, zi_and7, zi_and15, zi_and31, zi_and255]) (by simp only [zi_add, zi_sub, zi_mul, zi_neg, zi_and1, zi_and7, zi_and15, zi_and31, zi_and255]) ?_
                                refine gy_any (fun z284 ez284 az284 bz284 => ?_)
                                refine gs_put rfl (by decide) rfl sq259 tm rfl rfl rfl rfl (Or.inl rfl) (by decide) (by omega) (by omega) (fun h283 sh283 eh283 fh283 => ?_)
                                have pr285 := gPi.pt fh283 tm (by decide) pr278
                                have pr286 := gPic.pt fh283 tm (by decide) pr279
                                have pr287 := gSbc.pt fh283 tm (by decide) pr280
                                have pr288 := gSb.pt fh283 tm (by decide) pr281
                                have s289 := (fh283 m 5 (fun q => absurd q.2 (by decide))).trans s260
                                have s290 := (fh283 m 6 (fun q => absurd q.2 (by decide))).trans s261
                                have s291 := (fh283 m 3 (fun q => absurd q.2 (by decide))).trans s262
                                have s292 := (fh283 m 16 (fun q => absurd q.2 (by decide))).trans s263
                                have s293 := (fh283 m 18 (fun q => absurd q.2 (by decide))).trans s264
                                have s294 := (fh283 m 19 (fun q => absurd q.2 (by decide))).trans s265
                                have s295 := (fh283 m 21 (fun q => absurd q.2 (by decide))).trans s266
                                have s296 := (fh283 m 22 (fun q => absurd q.2 (by decide))).trans s267
                                have s297 := (fh283 m 20 (fun q => absurd q.2 (by decide))).trans s268
                                have s298 := (fh283 m 4 (fun q => absurd q.2 (by decide))).trans s269
                                have s299 := (fh283 m 41 (fun q => absurd q.2 (by decide))).trans s270
                                have s300 := (fh283 m 42 (fun q => absurd q.2 (by decide))).trans s271
                                have s301 := (fh283 m 43 (fun q => absurd q.2 (by decide))).trans s272
                                have s302 := (fh283 m 44 (fun q => absurd q.2 (by decide))).trans s273
                                have s303 := (fh283 m 17 (fun q => absurd q.2 (by decide))).trans s274
                                have s304 := (fh283 m 7 (fun q => absurd q.2 (by decide))).trans s275
                                have s305 := (fh283 m 39 (fun q => absurd q.2 (by decide))).trans s276
                                have s306 := (fh283 m 8 (fun q => absurd q.2 (by decide))).trans s277
                                have s307 := (fh283 m 47 (fun q => absurd q.2 (by decide))).trans efq259_0
                                have s308 := (fh283 m 48 (fun q => absurd q.2 (by decide))).trans efq259_1
                                refine gz_s 2 (pc' := 551) (L' := [some (.ref m), some (.int (zi mk)), some (.int (zi bg)), some (.int (zi n)), some (.int (zi z39)), some (.int (zi ((p0 + 1) + (2 * z39)))), some (.int (zi jn167v0)), none, none]) (S' := [.ref m, .ref m]) rfl ?_
                                refine gz_call rfl (by decide) rfl (by decide) (by decide) (gcal_of rfl rfl rfl (Nat.le_of_ble_eq_true rfl) (gJ.recv (G := gGG) sh283.1 tm rfl rfl)) (mm_nextByte _ sh283.1 m tm fq259_0 s307 (by omega) fq259_1 s308 (by omega) sz s291 (by omega) (by omega)) (fun q309 _ wq309 => ?_)
                                obtain ⟨pq309, oq309, hq309⟩ := q309
                                obtain ⟨xq309, zq309, gq309, aq309, bq309, uq309_0, uq309_1, uq309_2, uq309_3⟩ := wq309
                                refine ⟨_, gq309, ?_⟩
                                show gz gPP gGG gcn _ _ 554 [some (.ref m), some (.int (zi mk)), some (.int (zi bg)), some (.int (zi n)), some (.int (zi z39)), some (.int (zi ((p0 + 1) + (2 * z39)))), some (.int (zi jn167v0)), none, none] [.int (zi zq309), .ref m] hq309 _
                                have sq309 := gSs.tr sh283 xq309 (by decide)
                                have s310 := (xq309.2.2.2.2.2 m 5 (by rw [tm]; decide)).trans s289
                                have s311 := (xq309.2.2.2.2.2 m 6 (by rw [tm]; decide)).trans s290
                                have s312 := (xq309.2.2.2.2.2 m 3 (by rw [tm]; decide)).trans s291
                                have s313 := (xq309.2.2.2.2.2 m 16 (by rw [tm]; decide)).trans s292
                                have s314 := (xq309.2.2.2.2.2 m 18 (by rw [tm]; decide)).trans s293
                                have s315 := (xq309.2.2.2.2.2 m 19 (by rw [tm]; decide)).trans s294
                                have s316 := (xq309.2.2.2.2.2 m 21 (by rw [tm]; decide)).trans s295
                                have s317 := (xq309.2.2.2.2.2 m 22 (by rw [tm]; decide)).trans s296
                                have s318 := (xq309.2.2.2.2.2 m 20 (by rw [tm]; decide)).trans s297
                                have s319 := (xq309.2.2.2.2.2 m 4 (by rw [tm]; decide)).trans s298
                                have s320 := (xq309.2.2.2.2.2 m 41 (by rw [tm]; decide)).trans s299
                                have s321 := (xq309.2.2.2.2.2 m 42 (by rw [tm]; decide)).trans s300
                                have s322 := (xq309.2.2.2.2.2 m 43 (by rw [tm]; decide)).trans s301
                                have s323 := (xq309.2.2.2.2.2 m 44 (by rw [tm]; decide)).trans s302
                                have s324 := (xq309.2.2.2.2.2 m 17 (by rw [tm]; decide)).trans s303
                                have s325 := (xq309.2.2.2.2.2 m 7 (by rw [tm]; decide)).trans s304
                                have s326 := (xq309.2.2.2.2.2 m 39 (by rw [tm]; decide)).trans s305
                                have s327 := (xq309.2.2.2.2.2 m 8 (by rw [tm]; decide)).trans s306
                                have s328 := (xq309.2.2.2.2.2 m 47 (by rw [tm]; decide)).trans s307
                                have s329 := (xq309.2.2.2.2.2 m 48 (by rw [tm]; decide)).trans s308
                                have s330 := (xq309.2.2.2.2.2 m 24 (by rw [tm]; decide)).trans eh283
                                have pr331 := gPi.fr xq309.2 (by decide) pr285
                                have pr332 := gPic.fr xq309.2 (by decide) pr286
                                have pr333 := gSbc.fr xq309.2 (by decide) pr287
                                have pr334 := gSb.fr xq309.2 (by decide) pr288
                                refine gs_put rfl (by decide) rfl sq309 tm rfl rfl rfl rfl (Or.inl rfl) (by decide) (by omega) (by omega) (fun h335 sh335 eh335 fh335 => ?_)
                                have pr336 := gPi.pt fh335 tm (by decide) pr331
                                have pr337 := gPic.pt fh335 tm (by decide) pr332
                                have pr338 := gSbc.pt fh335 tm (by decide) pr333
                                have pr339 := gSb.pt fh335 tm (by decide) pr334
                                have s340 := (fh335 m 6 (fun q => absurd q.2 (by decide))).trans s311
                                have s341 := (fh335 m 3 (fun q => absurd q.2 (by decide))).trans s312
                                have s342 := (fh335 m 16 (fun q => absurd q.2 (by decide))).trans s313
                                have s343 := (fh335 m 18 (fun q => absurd q.2 (by decide))).trans s314
                                have s344 := (fh335 m 19 (fun q => absurd q.2 (by decide))).trans s315
                                have s345 := (fh335 m 21 (fun q => absurd q.2 (by decide))).trans s316
                                have s346 := (fh335 m 22 (fun q => absurd q.2 (by decide))).trans s317
                                have s347 := (fh335 m 20 (fun q => absurd q.2 (by decide))).trans s318
                                have s348 := (fh335 m 4 (fun q => absurd q.2 (by decide))).trans s319
                                have s349 := (fh335 m 41 (fun q => absurd q.2 (by decide))).trans s320
                                have s350 := (fh335 m 42 (fun q => absurd q.2 (by decide))).trans s321
                                have s351 := (fh335 m 43 (fun q => absurd q.2 (by decide))).trans s322
                                have s352 := (fh335 m 44 (fun q => absurd q.2 (by decide))).trans s323
                                have s353 := (fh335 m 17 (fun q => absurd q.2 (by decide))).trans s324
                                have s354 := (fh335 m 7 (fun q => absurd q.2 (by decide))).trans s325
                                have s355 := (fh335 m 39 (fun q => absurd q.2 (by decide))).trans s326
                                have s356 := (fh335 m 8 (fun q => absurd q.2 (by decide))).trans s327
                                have s357 := (fh335 m 47 (fun q => absurd q.2 (by decide))).trans s328
                                have s358 := (fh335 m 48 (fun q => absurd q.2 (by decide))).trans s329
                                have s359 := (fh335 m 24 (fun q => absurd q.2 (by decide))).trans s330
                                refine gz_s 2 (pc' := 560) (L' := [some (.ref m), some (.int (zi mk)), some (.int (zi bg)), some (.int (zi n)), some (.int (zi z39)), some (.int (zi ((p0 + 1) + (2 * z39)))), some (.int (zi jn167v0)), some (.int (zi 1)), none]) (S' := []) rfl ?_
                                have lp360 : ∀ (fu : Nat) (h361 : gH) (mo : Int) (pv : Int), (2 * (5000 - pv) + mo).toNat < fu → gSs rT 1027 ty [1005, 1007, 1024, 1039, 1041, 1042, 1043, 1044, 1045, 1046, 1047, 1048, 20999, 21999, 22999, 23999, 24999, 25999] h h361 → (0 ≤ mo ∧ mo ≤ 1) → (0 ≤ pv ∧ pv ≤ 4000) → (en ≤ pv) → (mo = 0 → pv + 1 < sz) → h361.2.2.2.2 m 6 = .int (zi en) → h361.2.2.2.2 m 3 = .int (zi sz) → h361.2.2.2.2 m 16 = .int (zi ip) → h361.2.2.2.2 m 18 = .int (zi w) → h361.2.2.2.2 m 19 = .int (zi hh) → h361.2.2.2.2 m 21 = .int (zi wd) → h361.2.2.2.2 m 22 = .int (zi hg) → h361.2.2.2.2 m 20 = .int (zi bs) → h361.2.2.2.2 m 4 = .ref c37 → h361.2.2.2.2 m 41 = .int (zi z89) → h361.2.2.2.2 m 42 = .int (zi z107) → h361.2.2.2.2 m 43 = .int (zi (z126 / 16)) → h361.2.2.2.2 m 44 = .int (zi (z146 % 16)) → h361.2.2.2.2 m 17 = .int (zi z168) → h361.2.2.2.2 m 7 = .int (zi fq170_0) → h361.2.2.2.2 m 39 = .int (zi z39) → h361.2.2.2.2 m 8 = .int (zi z258) → h361.2.2.2.2 m 47 = .int (zi fq259_0) → h361.2.2.2.2 m 48 = .int (zi fq259_1) → h361.2.2.2.2 m 24 = .int (zi z284) → h361.2.2.2.2 m 5 = .int (zi pv) → gPi ty ip w hh wd hg bs h361 → gPic ty w hh wd hg bs h361 → gSbc ty fv k bs h361 → gSb ty z39 bs h361 → gz gPP gGG gcn (d + 8) gt141 560 [some (.ref m), some (.int (zi mk)), some (.int (zi bg)), some (.int (zi n)), some (.int (zi z39)), some (.int (zi ((p0 + 1) + (2 * z39)))), some (.int (zi jn167v0)), some (.int (zi mo)), none] [] h361 (fun q _ => gSs rT 1027 ty [1005, 1007, 1024, 1039, 1041, 1042, 1043, 1044, 1045, 1046, 1047, 1048, 20999, 21999, 22999, 23999, 24999, 25999] h q.2.2 ∧ ∃ f1 p1 : Int, gfin gt141 q.1 q.2.1 = some none ∧ q.2.2.2.2.2.2 m 7 = .int (zi f1) ∧ (-1) ≤ f1 ∧ f1 ≤ 4000 ∧ q.2.2.2.2.2.2 m 5 = .int (zi p1) ∧ 0 ≤ p1 ∧ p1 ≤ 4000 ∧ (f1 = -1 → (en ≤ p1 ∧ p1 ≤ sz))) := by
                                  intro fu
                                  induction fu with
                                  | zero => intro h361 mo pv hm; exact absurd hm (Nat.not_lt_zero _)
                                  | succ fu ihlp360 =>
                                    intro h361 mo pv lp360m sh361 lp360f0 lp360f1 lp360f2 lp360f3 lp360k0 lp360k1 lp360k2 lp360k3 lp360k4 lp360k5 lp360k6 lp360k7 lp360k8 lp360k9 lp360k10 lp360k11 lp360k12 lp360k13 lp360k14 lp360k15 lp360k16 lp360k17 lp360k18 lp360k19 lp360k20 lp360k21 lp360k22 lp360k23 lp360k24
                                    refine gz_s 1 (pc' := 562) (L' := [some (.ref m), some (.int (zi mk)), some (.int (zi bg)), some (.int (zi n)), some (.int (zi z39)), some (.int (zi ((p0 + 1) + (2 * z39)))), some (.int (zi jn167v0)), some (.int (zi mo)), none]) (S' := [.int (zi mo)]) rfl ?_
                                    by_cases hc362 : (mo : Int) = 0
                                    · refine gy_ifT (pc' := 659) rfl (by decide) (by decide) (by omega) hc362 ?_
                                      refine gz_s 2 (pc' := 662) (L' := [some (.ref m), some (.int (zi mk)), some (.int (zi bg)), some (.int (zi n)), some (.int (zi z39)), some (.int (zi ((p0 + 1) + (2 * z39)))), some (.int (zi jn167v0)), some (.int (zi mo)), none]) (S' := [.int (zi mo), .ref m]) rfl ?_
                                      refine gy_ifT (pc' := 672) rfl (by decide) (by decide) (by omega) (by first | (simp [zc]; done) | (simp only [zc]; omega)) ?_
                                      refine gz_s 1 (pc' := 673) (L' := [some (.ref m), some (.int (zi mk)), some (.int (zi bg)), some (.int (zi n)), some (.int (zi z39)), some (.int (zi ((p0 + 1) + (2 * z39)))), some (.int (zi jn167v0)), some (.int (zi mo)), none]) (S' := [.ref m, .ref m]) rfl ?_
                                      refine gs_gtk rfl (by decide) rfl sh361.1 tm rfl rfl lp360k20 ?_
                                      refine gs_put rfl (by decide) rfl sh361 tm rfl rfl rfl rfl (Or.inl rfl) (by decide) (by omega) (by omega) (fun h363 sh363 eh363 fh363 => ?_)
                                      have pr364 := gPi.pt fh363 tm (by decide) lp360k21
                                      have pr365 := gPic.pt fh363 tm (by decide) lp360k22
                                      have pr366 := gSbc.pt fh363 tm (by decide) lp360k23
                                      have pr367 := gSb.pt fh363 tm (by decide) lp360k24
                                      have s368 := (fh363 m 6 (fun q => absurd q.2 (by decide))).trans lp360k0
                                      have s369 := (fh363 m 3 (fun q => absurd q.2 (by decide))).trans lp360k1
                                      have s370 := (fh363 m 16 (fun q => absurd q.2 (by decide))).trans lp360k2
                                      have s371 := (fh363 m 18 (fun q => absurd q.2 (by decide))).trans lp360k3
                                      have s372 := (fh363 m 19 (fun q => absurd q.2 (by decide))).trans lp360k4
                                      have s373 := (fh363 m 21 (fun q => absurd q.2 (by decide))).trans lp360k5
                                      have s374 := (fh363 m 22 (fun q => absurd q.2 (by decide))).trans lp360k6
                                      have s375 := (fh363 m 20 (fun q => absurd q.2 (by decide))).trans lp360k7
                                      have s376 := (fh363 m 4 (fun q => absurd q.2 (by decide))).trans lp360k8
                                      have s377 := (fh363 m 41 (fun q => absurd q.2 (by decide))).trans lp360k9
                                      have s378 := (fh363 m 42 (fun q => absurd q.2 (by decide))).trans lp360k10
                                      have s379 := (fh363 m 43 (fun q => absurd q.2 (by decide))).trans lp360k11
                                      have s380 := (fh363 m 44 (fun q => absurd q.2 (by decide))).trans lp360k12
                                      have s381 := (fh363 m 17 (fun q => absurd q.2 (by decide))).trans lp360k13
                                      have s382 := (fh363 m 7 (fun q => absurd q.2 (by decide))).trans lp360k14
                                      have s383 := (fh363 m 39 (fun q => absurd q.2 (by decide))).trans lp360k15
                                      have s384 := (fh363 m 8 (fun q => absurd q.2 (by decide))).trans lp360k16
                                      have s385 := (fh363 m 47 (fun q => absurd q.2 (by decide))).trans lp360k17
                                      have s386 := (fh363 m 48 (fun q => absurd q.2 (by decide))).trans lp360k18
                                      have s387 := (fh363 m 24 (fun q => absurd q.2 (by decide))).trans lp360k19
                                      exact gz_end (I := .return_) (len := 1) rfl (Or.inl rfl) ⟨sh363, fq170_0, pv, rfl, s382, (by omega), (by omega), eh363, (by omega), (by omega), (by omega)⟩
                                    · refine gy_ifF rfl (by decide) (by decide) (by omega) hc362 ?_
                                      refine gz_s 1 (pc' := 566) (L' := [some (.ref m), some (.int (zi mk)), some (.int (zi bg)), some (.int (zi n)), some (.int (zi z39)), some (.int (zi ((p0 + 1) + (2 * z39)))), some (.int (zi jn167v0)), some (.int (zi mo)), none]) (S' := [.ref m]) rfl ?_
                                      refine gs_gtk rfl (by decide) rfl sh361.1 tm rfl rfl lp360k20 ?_
                                      refine gy_s 3 (pc' := 572) (L' := [some (.ref m), some (.int (zi mk)), some (.int (zi bg)), some (.int (zi n)), some (.int (zi z39)), some (.int (zi ((p0 + 1) + (2 * z39)))), some (.int (zi jn167v0)), some (.int (zi mo)), none]) (S' := [.ref m, .int ((zi pv) + (zi 1))]) (L2 := [some (.ref m), some (.int (zi mk)), some (.int (zi bg)), some (.int (zi n)), some (.int (zi z39)), some (.int (zi ((p0 + 1) + (2 * z39)))), some (.int (zi jn167v0)), some (.int (zi mo)), none]) (S2 := [.ref m, .int (zi (pv + 1))]) rfl (by simp only [zi_add, zi_sub, zi_mul, zi_neg, zi_and1, zi_and7, zi_and15, zi_and31, zi_and255]) (by simp only [zi_add, zi_sub, zi_mul, zi_neg, zi_and1, zi_and7, zi_and15, zi_and31, zi_and255]) ?_
                                      refine gs_gtk rfl (by decide) rfl sh361.1 tm rfl rfl lp360k1 ?_
                                      by_cases hc388 : (sz : Int) ≤ pv + 1
                                      · refine gy_icT (pc' := 659) rfl (by decide) (by decide) (by omega) (by omega) hc388 ?_
                                        refine gz_s 2 (pc' := 662) (L' := [some (.ref m), some (.int (zi mk)), some (.int (zi bg)), some (.int (zi n)), some (.int (zi z39)), some (.int (zi ((p0 + 1) + (2 * z39)))), some (.int (zi jn167v0)), some (.int (zi mo)), none]) (S' := [.int (zi mo), .ref m]) rfl ?_
                                        refine gy_ifF rfl (by decide) (by decide) (by omega) (by first | (simp [zc]; done) | (simp only [zc]; omega)) ?_
                                        refine gz_s 1 (pc' := 666) (L' := [some (.ref m), some (.int (zi mk)), some (.int (zi bg)), some (.int (zi n)), some (.int (zi z39)), some (.int (zi ((p0 + 1) + (2 * z39)))), some (.int (zi jn167v0)), some (.int (zi mo)), none]) (S' := [.ref m, .ref m]) rfl ?_
                                        refine gs_gtk rfl (by decide) rfl sh361.1 tm rfl rfl lp360k1 ?_
                                        refine gz_s 1 (pc' := 676) (L' := [some (.ref m), some (.int (zi mk)), some (.int (zi bg)), some (.int (zi n)), some (.int (zi z39)), some (.int (zi ((p0 + 1) + (2 * z39)))), some (.int (zi jn167v0)), some (.int (zi mo)), none]) (S' := [.int (zi sz), .ref m]) rfl ?_
                                        refine gs_put rfl (by decide) rfl sh361 tm rfl rfl rfl rfl (Or.inl rfl) (by decide) (by omega) (by omega) (fun h389 sh389 eh389 fh389 => ?_)
                                        have pr390 := gPi.pt fh389 tm (by decide) lp360k21
                                        have pr391 := gPic.pt fh389 tm (by decide) lp360k22
                                        have pr392 := gSbc.pt fh389 tm (by decide) lp360k23
                                        have pr393 := gSb.pt fh389 tm (by decide) lp360k24
                                        have s394 := (fh389 m 6 (fun q => absurd q.2 (by decide))).trans lp360k0
                                        have s395 := (fh389 m 3 (fun q => absurd q.2 (by decide))).trans lp360k1
                                        have s396 := (fh389 m 16 (fun q => absurd q.2 (by decide))).trans lp360k2
                                        have s397 := (fh389 m 18 (fun q => absurd q.2 (by decide))).trans lp360k3
                                        have s398 := (fh389 m 19 (fun q => absurd q.2 (by decide))).trans lp360k4
                                        have s399 := (fh389 m 21 (fun q => absurd q.2 (by decide))).trans lp360k5
                                        have s400 := (fh389 m 22 (fun q => absurd q.2 (by decide))).trans lp360k6
                                        have s401 := (fh389 m 20 (fun q => absurd q.2 (by decide))).trans lp360k7
                                        have s402 := (fh389 m 4 (fun q => absurd q.2 (by decide))).trans lp360k8
                                        have s403 := (fh389 m 41 (fun q => absurd q.2 (by decide))).trans lp360k9
                                        have s404 := (fh389 m 42 (fun q => absurd q.2 (by decide))).trans lp360k10
                                        have s405 := (fh389 m 43 (fun q => absurd q.2 (by decide))).trans lp360k11
                                        have s406 := (fh389 m 44 (fun q => absurd q.2 (by decide))).trans lp360k12
                                        have s407 := (fh389 m 17 (fun q => absurd q.2 (by decide))).trans lp360k13
                                        have s408 := (fh389 m 7 (fun q => absurd q.2 (by decide))).trans lp360k14
                                        have s409 := (fh389 m 39 (fun q => absurd q.2 (by decide))).trans lp360k15
                                        have s410 := (fh389 m 8 (fun q => absurd q.2 (by decide))).trans lp360k16
                                        have s411 := (fh389 m 47 (fun q => absurd q.2 (by decide))).trans lp360k17
                                        have s412 := (fh389 m 48 (fun q => absurd q.2 (by decide))).trans lp360k18
                                        have s413 := (fh389 m 24 (fun q => absurd q.2 (by decide))).trans lp360k19
                                        exact gz_end (I := .return_) (len := 1) rfl (Or.inl rfl) ⟨sh389, fq170_0, sz, rfl, s408, (by omega), (by omega), eh389, (by omega), (by omega), (by omega)⟩
                                      · refine gy_icF rfl (by decide) (by decide) (by omega) (by omega) hc388 ?_
                                        refine gz_s 1 (pc' := 579) (L' := [some (.ref m), some (.int (zi mk)), some (.int (zi bg)), some (.int (zi n)), some (.int (zi z39)), some (.int (zi ((p0 + 1) + (2 * z39)))), some (.int (zi jn167v0)), some (.int (zi mo)), none]) (S' := [.ref m]) rfl ?_
                                        refine gs_gtk rfl (by decide) rfl sh361.1 tm rfl rfl lp360k8 ?_
                                        refine gz_s 1 (pc' := 583) (L' := [some (.ref m), some (.int (zi mk)), some (.int (zi bg)), some (.int (zi n)), some (.int (zi z39)), some (.int (zi ((p0 + 1) + (2 * z39)))), some (.int (zi jn167v0)), some (.int (zi mo)), none]) (S' := [.ref m, .ref c37]) rfl ?_
                                        refine gs_gtk rfl (by decide) rfl sh361.1 tm rfl rfl lp360k20 ?_
                                        refine gy_s 2 (pc' := 588) (L' := [some (.ref m), some (.int (zi mk)), some (.int (zi bg)), some (.int (zi n)), some (.int (zi z39)), some (.int (zi ((p0 + 1) + (2 * z39)))), some (.int (zi jn167v0)), some (.int (zi mo)), none]) (S' := [.int ((zi pv) + (zi 1)), .ref c37]) (L2 := [some (.ref m), some (.int (zi mk)), some (.int (zi bg)), some (.int (zi n)), some (.int (zi z39)), some (.int (zi ((p0 + 1) + (2 * z39)))), some (.int (zi jn167v0)), some (.int (zi mo)), none]) (S2 := [.int (zi (pv + 1)), .ref c37]) rfl (by simp only [zi_add, zi_sub, zi_mul, zi_neg, zi_and1, zi_and7, zi_and15, zi_and31, zi_and255]) (by simp only [zi_add, zi_sub, zi_mul, zi_neg, zi_and1, zi_and7, zi_and15, zi_and31, zi_and255]) ?_
                                        have hl414 : 2000 ≤ h361.2.2.2.1 c37 ∧ h361.2.2.2.1 c37 ≤ 2000 := gJ.rowl (G := gGG) sh361.1 tc37 rfl
                                        refine gs_ald rfl (by decide) sh361.1 tc37 rfl rfl rfl (by decide) (fun _ => rfl) (by omega) (by omega) (fun z415 ez415 az415 bz415 => ?_)
                                        refine gz_s 2 (pc' := 592) (L' := [some (.ref m), some (.int (zi mk)), some (.int (zi bg)), some (.int (zi n)), some (.int (zi z39)), some (.int (zi ((p0 + 1) + (2 * z39)))), some (.int (zi jn167v0)), some (.int (zi mo)), some (.int (zi z415))]) (S' := [.ref m]) rfl ?_
                                        refine gs_gtk rfl (by decide) rfl sh361.1 tm rfl rfl lp360k8 ?_
                                        refine gz_s 1 (pc' := 596) (L' := [some (.ref m), some (.int (zi mk)), some (.int (zi bg)), some (.int (zi n)), some (.int (zi z39)), some (.int (zi ((p0 + 1) + (2 * z39)))), some (.int (zi jn167v0)), some (.int (zi mo)), some (.int (zi z415))]) (S' := [.ref m, .ref c37]) rfl ?_
                                        refine gs_gtk rfl (by decide) rfl sh361.1 tm rfl rfl lp360k20 ?_
                                        have hl416 : 2000 ≤ h361.2.2.2.1 c37 ∧ h361.2.2.2.1 c37 ≤ 2000 := gJ.rowl (G := gGG) sh361.1 tc37 rfl
                                        refine gs_ald rfl (by decide) sh361.1 tc37 rfl rfl rfl (by decide) (fun _ => rfl) (by omega) (by omega) (fun z417 ez417 az417 bz417 => ?_)
                                        refine gz_s 1 (pc' := 603) (L' := [some (.ref m), some (.int (zi mk)), some (.int (zi bg)), some (.int (zi n)), some (.int (zi z39)), some (.int (zi ((p0 + 1) + (2 * z39)))), some (.int (zi jn167v0)), some (.int (zi mo)), some (.int (zi z415))]) (S' := [.int (zi 255), .int (zi z417)]) rfl ?_
                                        have jn418 : ∀ (jn418v0 : Int), ((0 ≤ jn418v0) ∧ (jn418v0 ≤ 1)) → gz gPP gGG gcn (d + 8) gt141 632 [some (.ref m), some (.int (zi mk)), some (.int (zi bg)), some (.int (zi n)), some (.int (zi z39)), some (.int (zi ((p0 + 1) + (2 * z39)))), some (.int (zi jn167v0)), some (.int (zi mo)), some (.int (zi z415))] [.int (zi jn418v0)] h361 (fun q _ => gSs rT 1027 ty [1005, 1007, 1024, 1039, 1041, 1042, 1043, 1044, 1045, 1046, 1047, 1048, 20999, 21999, 22999, 23999, 24999, 25999] h q.2.2 ∧ ∃ f1 p1 : Int, gfin gt141 q.1 q.2.1 = some none ∧ q.2.2.2.2.2.2 m 7 = .int (zi f1) ∧ (-1) ≤ f1 ∧ f1 ≤ 4000 ∧ q.2.2.2.2.2.2 m 5 = .int (zi p1) ∧ 0 ≤ p1 ∧ p1 ≤ 4000 ∧ (f1 = -1 → (en ≤ p1 ∧ p1 ≤ sz))) := by
                                          intro jn418v0 jn418d
                                          refine gz_s 3 (pc' := 637) (L' := [some (.ref m), some (.int (zi mk)), some (.int (zi bg)), some (.int (zi n)), some (.int (zi z39)), some (.int (zi ((p0 + 1) + (2 * z39)))), some (.int (zi jn167v0)), some (.int (zi jn418v0)), some (.int (zi z415))]) (S' := [.int (zi jn418v0), .ref m]) rfl ?_
                                          by_cases hc419 : (jn418v0 : Int) = 0
                                          · refine gy_ifT (pc' := 649) rfl (by decide) (by decide) (by omega) hc419 ?_
                                            refine gz_s 1 (pc' := 650) (L' := [some (.ref m), some (.int (zi mk)), some (.int (zi bg)), some (.int (zi n)), some (.int (zi z39)), some (.int (zi ((p0 + 1) + (2 * z39)))), some (.int (zi jn167v0)), some (.int (zi jn418v0)), some (.int (zi z415))]) (S' := [.ref m, .ref m]) rfl ?_
                                            refine gs_gtk rfl (by decide) rfl sh361.1 tm rfl rfl lp360k20 ?_
                                            refine gs_put rfl (by decide) rfl sh361 tm rfl rfl rfl rfl (Or.inl rfl) (by decide) (by omega) (by omega) (fun h420 sh420 eh420 fh420 => ?_)
                                            have pr421 := gPi.pt fh420 tm (by decide) lp360k21
                                            have pr422 := gPic.pt fh420 tm (by decide) lp360k22
                                            have pr423 := gSbc.pt fh420 tm (by decide) lp360k23
                                            have pr424 := gSb.pt fh420 tm (by decide) lp360k24
                                            have s425 := (fh420 m 6 (fun q => absurd q.2 (by decide))).trans lp360k0
                                            have s426 := (fh420 m 3 (fun q => absurd q.2 (by decide))).trans lp360k1
                                            have s427 := (fh420 m 16 (fun q => absurd q.2 (by decide))).trans lp360k2
                                            have s428 := (fh420 m 18 (fun q => absurd q.2 (by decide))).trans lp360k3
                                            have s429 := (fh420 m 19 (fun q => absurd q.2 (by decide))).trans lp360k4
                                            have s430 := (fh420 m 21 (fun q => absurd q.2 (by decide))).trans lp360k5
                                            have s431 := (fh420 m 22 (fun q => absurd q.2 (by decide))).trans lp360k6
                                            have s432 := (fh420 m 20 (fun q => absurd q.2 (by decide))).trans lp360k7
                                            have s433 := (fh420 m 4 (fun q => absurd q.2 (by decide))).trans lp360k8
                                            have s434 := (fh420 m 41 (fun q => absurd q.2 (by decide))).trans lp360k9
                                            have s435 := (fh420 m 42 (fun q => absurd q.2 (by decide))).trans lp360k10
                                            have s436 := (fh420 m 43 (fun q => absurd q.2 (by decide))).trans lp360k11
                                            have s437 := (fh420 m 44 (fun q => absurd q.2 (by decide))).trans lp360k12
                                            have s438 := (fh420 m 17 (fun q => absurd q.2 (by decide))).trans lp360k13
                                            have s439 := (fh420 m 7 (fun q => absurd q.2 (by decide))).trans lp360k14
                                            have s440 := (fh420 m 39 (fun q => absurd q.2 (by decide))).trans lp360k15
                                            have s441 := (fh420 m 8 (fun q => absurd q.2 (by decide))).trans lp360k16
                                            have s442 := (fh420 m 47 (fun q => absurd q.2 (by decide))).trans lp360k17
                                            have s443 := (fh420 m 48 (fun q => absurd q.2 (by decide))).trans lp360k18
                                            have s444 := (fh420 m 24 (fun q => absurd q.2 (by decide))).trans lp360k19
                                            refine gz_s 1 (pc' := 560) (L' := [some (.ref m), some (.int (zi mk)), some (.int (zi bg)), some (.int (zi n)), some (.int (zi z39)), some (.int (zi ((p0 + 1) + (2 * z39)))), some (.int (zi jn167v0)), some (.int (zi jn418v0)), some (.int (zi z415))]) (S' := []) rfl ?_
                                            exact gz_wk (ihlp360 h420 jn418v0 pv (by omega) sh420 (by omega) (by omega) (by omega) (by omega) s425 s426 s427 s428 s429 s430 s431 s432 s433 s434 s435 s436 s437 s438 s439 s440 s441 s442 s443 s444 eh420 pr421 pr422 pr423 pr424) (gLw.s (gLw.s (gLw.s (gLw.s (gLw.s (gLw.s (gLw.s (gLw.s (gLw.n gLw.z)))))))))
                                          · refine gy_ifF rfl (by decide) (by decide) (by omega) hc419 ?_
                                            refine gz_s 1 (pc' := 641) (L' := [some (.ref m), some (.int (zi mk)), some (.int (zi bg)), some (.int (zi n)), some (.int (zi z39)), some (.int (zi ((p0 + 1) + (2 * z39)))), some (.int (zi jn167v0)), some (.int (zi jn418v0)), some (.int (zi z415))]) (S' := [.ref m, .ref m]) rfl ?_
                                            refine gs_gtk rfl (by decide) rfl sh361.1 tm rfl rfl lp360k20 ?_
                                            refine gy_s 3 (pc' := 653) (L' := [some (.ref m), some (.int (zi mk)), some (.int (zi bg)), some (.int (zi n)), some (.int (zi z39)), some (.int (zi ((p0 + 1) + (2 * z39)))), some (.int (zi jn167v0)), some (.int (zi jn418v0)), some (.int (zi z415))]) (S' := [.int ((zi pv) + (zi 1)), .ref m]) (L2 := [some (.ref m), some (.int (zi mk)), some (.int (zi bg)), some (.int (zi n)), some (.int (zi z39)), some (.int (zi ((p0 + 1) + (2 * z39)))), some (.int (zi jn167v0)), some (.int (zi jn418v0)), some (.int (zi z415))]) (S2 := [.int (zi (pv + 1)), .ref m]) rfl (by simp only [zi_add, zi_sub, zi_mul, zi_neg, zi_and1, zi_and7, zi_and15, zi_and31, zi_and255]) (by simp only [zi_add, zi_sub, zi_mul, zi_neg, zi_and1, zi_and7, zi_and15, zi_and31, zi_and255]) ?_
                                            refine gs_put rfl (by decide) rfl sh361 tm rfl rfl rfl rfl (Or.inl rfl) (by decide) (by omega) (by omega) (fun h445 sh445 eh445 fh445 => ?_)
                                            have pr446 := gPi.pt fh445 tm (by decide) lp360k21
                                            have pr447 := gPic.pt fh445 tm (by decide) lp360k22
                                            have pr448 := gSbc.pt fh445 tm (by decide) lp360k23
                                            have pr449 := gSb.pt fh445 tm (by decide) lp360k24
                                            have s450 := (fh445 m 6 (fun q => absurd q.2 (by decide))).trans lp360k0
                                            have s451 := (fh445 m 3 (fun q => absurd q.2 (by decide))).trans lp360k1
                                            have s452 := (fh445 m 16 (fun q => absurd q.2 (by decide))).trans lp360k2
                                            have s453 := (fh445 m 18 (fun q => absurd q.2 (by decide))).trans lp360k3
                                            have s454 := (fh445 m 19 (fun q => absurd q.2 (by decide))).trans lp360k4
                                            have s455 := (fh445 m 21 (fun q => absurd q.2 (by decide))).trans lp360k5
                                            have s456 := (fh445 m 22 (fun q => absurd q.2 (by decide))).trans lp360k6
                                            have s457 := (fh445 m 20 (fun q => absurd q.2 (by decide))).trans lp360k7
                                            have s458 := (fh445 m 4 (fun q => absurd q.2 (by decide))).trans lp360k8
                                            have s459 := (fh445 m 41 (fun q => absurd q.2 (by decide))).trans lp360k9
                                            have s460 := (fh445 m 42 (fun q => absurd q.2 (by decide))).trans lp360k10
                                            have s461 := (fh445 m 43 (fun q => absurd q.2 (by decide))).trans lp360k11
                                            have s462 := (fh445 m 44 (fun q => absurd q.2 (by decide))).trans lp360k12
                                            have s463 := (fh445 m 17 (fun q => absurd q.2 (by decide))).trans lp360k13
                                            have s464 := (fh445 m 7 (fun q => absurd q.2 (by decide))).trans lp360k14
                                            have s465 := (fh445 m 39 (fun q => absurd q.2 (by decide))).trans lp360k15
                                            have s466 := (fh445 m 8 (fun q => absurd q.2 (by decide))).trans lp360k16
                                            have s467 := (fh445 m 47 (fun q => absurd q.2 (by decide))).trans lp360k17
                                            have s468 := (fh445 m 48 (fun q => absurd q.2 (by decide))).trans lp360k18
                                            have s469 := (fh445 m 24 (fun q => absurd q.2 (by decide))).trans lp360k19
                                            refine gz_s 1 (pc' := 560) (L' := [some (.ref m), some (.int (zi mk)), some (.int (zi bg)), some (.int (zi n)), some (.int (zi z39)), some (.int (zi ((p0 + 1) + (2 * z39)))), some (.int (zi jn167v0)), some (.int (zi jn418v0)), some (.int (zi z415))]) (S' := []) rfl ?_
                                            exact gz_wk (ihlp360 h445 jn418v0 (pv + 1) (by omega) sh445 (by omega) (by omega) (by omega) (by omega) s450 s451 s452 s453 s454 s455 s456 s457 s458 s459 s460 s461 s462 s463 s464 s465 s466 s467 s468 s469 eh445 pr446 pr447 pr448 pr449) (gLw.s (gLw.s (gLw.s (gLw.s (gLw.s (gLw.s (gLw.s (gLw.s (gLw.n gLw.z)))))))))
                                        by_cases hc470 : ¬ (z417 : Int) = 255
                                        · refine gy_icT (pc' := 627) rfl (by decide) (by decide) (by omega) (by omega) hc470 ?_
                                          refine gz_s 2 (pc' := 632) (L' := [some (.ref m), some (.int (zi mk)), some (.int (zi bg)), some (.int (zi n)), some (.int (zi z39)), some (.int (zi ((p0 + 1) + (2 * z39)))), some (.int (zi jn167v0)), some (.int (zi mo)), some (.int (zi z415))]) (S' := [.int (zi 1)]) rfl ?_
                                          exact jn418 1 (by omega)
                                        · refine gy_icF rfl (by decide) (by decide) (by omega) (by omega) hc470 ?_
                                          refine gz_s 1 (pc' := 608) (L' := [some (.ref m), some (.int (zi mk)), some (.int (zi bg)), some (.int (zi n)), some (.int (zi z39)), some (.int (zi ((p0 + 1) + (2 * z39)))), some (.int (zi jn167v0)), some (.int (zi mo)), some (.int (zi z415))]) (S' := [.int (zi z415)]) rfl ?_
                                          by_cases hc471 : (z415 : Int) = 0
                                          · refine gy_ifT (pc' := 627) rfl (by decide) (by decide) (by omega) hc471 ?_
                                            refine gz_s 2 (pc' := 632) (L' := [some (.ref m), some (.int (zi mk)), some (.int (zi bg)), some (.int (zi n)), some (.int (zi z39)), some (.int (zi ((p0 + 1) + (2 * z39)))), some (.int (zi jn167v0)), some (.int (zi mo)), some (.int (zi z415))]) (S' := [.int (zi 1)]) rfl ?_
                                            exact jn418 1 (by omega)
                                          · refine gy_ifF rfl (by decide) (by decide) (by omega) hc471 ?_
                                            refine gz_s 2 (pc' := 616) (L' := [some (.ref m), some (.int (zi mk)), some (.int (zi bg)), some (.int (zi n)), some (.int (zi z39)), some (.int (zi ((p0 + 1) + (2 * z39)))), some (.int (zi jn167v0)), some (.int (zi mo)), some (.int (zi z415))]) (S' := [.int (zi 208), .int (zi z415)]) rfl ?_
                                            by_cases hc472 : (z415 : Int) < 208
                                            · refine gy_icT (pc' := 631) rfl (by decide) (by decide) (by omega) (by omega) hc472 ?_
                                              refine gz_s 1 (pc' := 632) (L' := [some (.ref m), some (.int (zi mk)), some (.int (zi bg)), some (.int (zi n)), some (.int (zi z39)), some (.int (zi ((p0 + 1) + (2 * z39)))), some (.int (zi jn167v0)), some (.int (zi mo)), some (.int (zi z415))]) (S' := [.int (zi 0)]) rfl ?_
                                              exact jn418 0 (by omega)
                                            · refine gy_icF rfl (by decide) (by decide) (by omega) (by omega) hc472 ?_
                                              refine gz_s 2 (pc' := 624) (L' := [some (.ref m), some (.int (zi mk)), some (.int (zi bg)), some (.int (zi n)), some (.int (zi z39)), some (.int (zi ((p0 + 1) + (2 * z39)))), some (.int (zi jn167v0)), some (.int (zi mo)), some (.int (zi z415))]) (S' := [.int (zi 216), .int (zi z415)]) rfl ?_
                                              by_cases hc473 : (216 : Int) ≤ z415
                                              · refine gy_icT (pc' := 631) rfl (by decide) (by decide) (by omega) (by omega) hc473 ?_
                                                refine gz_s 1 (pc' := 632) (L' := [some (.ref m), some (.int (zi mk)), some (.int (zi bg)), some (.int (zi n)), some (.int (zi z39)), some (.int (zi ((p0 + 1) + (2 * z39)))), some (.int (zi jn167v0)), some (.int (zi mo)), some (.int (zi z415))]) (S' := [.int (zi 0)]) rfl ?_
                                                exact jn418 0 (by omega)
                                              · refine gy_icF rfl (by decide) (by decide) (by omega) (by omega) hc473 ?_
                                                refine gz_s 2 (pc' := 632) (L' := [some (.ref m), some (.int (zi mk)), some (.int (zi bg)), some (.int (zi n)), some (.int (zi z39)), some (.int (zi ((p0 + 1) + (2 * z39)))), some (.int (zi jn167v0)), some (.int (zi mo)), some (.int (zi z415))]) (S' := [.int (zi 1)]) rfl ?_
                                                exact jn418 1 (by omega)
                                exact gz_wk (lp360 _ h335 1 zq309 (Nat.lt_succ_self _) sh335 (by omega) (by omega) (by omega) (by omega) s340 s341 s342 s343 s344 s345 s346 s347 s348 s349 s350 s351 s352 s353 s354 s355 s356 s357 s358 s359 eh335 pr336 pr337 pr338 pr339) (gLw.s (gLw.s (gLw.s (gLw.s (gLw.s (gLw.s (gLw.s (gLw.s (gLw.n gLw.z)))))))))
                              · refine gy_ifF rfl (by decide) (by decide) (by omega) hc190 ?_
                                exact gz_end (I := .return_) (len := 1) rfl (Or.inl rfl) ⟨sq170, fq170_0, p0, rfl, efq170_0, (by omega), (by omega), s171, (by omega), (by omega), (by omega)⟩
                            by_cases hc474 : (z168 : Int) = 0
                            · refine gy_ifT (pc' := 472) rfl (by decide) (by decide) (by omega) hc474 ?_
                              refine gz_s 1 (pc' := 473) (L' := [some (.ref m), some (.int (zi mk)), some (.int (zi bg)), some (.int (zi n)), some (.int (zi z39)), some (.int (zi ((p0 + 1) + (2 * z39)))), some (.int (zi jn167v0)), none, none]) (S' := [.ref m, .ref m]) rfl ?_
                              refine gs_gtk rfl (by decide) rfl sh147.1 tm rfl rfl s163 ?_
                              by_cases hc475 : ¬ (z89 : Int) = 0
                              · refine gy_ifT (pc' := 506) rfl (by decide) (by decide) (by omega) hc475 ?_
                                refine gz_s 1 (pc' := 507) (L' := [some (.ref m), some (.int (zi mk)), some (.int (zi bg)), some (.int (zi n)), some (.int (zi z39)), some (.int (zi ((p0 + 1) + (2 * z39)))), some (.int (zi jn167v0)), none, none]) (S' := [.int (zi 0), .ref m]) rfl ?_
                                exact jn169 0 (by omega)
                              · refine gy_ifF rfl (by decide) (by decide) (by omega) hc475 ?_
                                refine gz_s 1 (pc' := 480) (L' := [some (.ref m), some (.int (zi mk)), some (.int (zi bg)), some (.int (zi n)), some (.int (zi z39)), some (.int (zi ((p0 + 1) + (2 * z39)))), some (.int (zi jn167v0)), none, none]) (S' := [.ref m, .ref m]) rfl ?_
                                refine gs_gtk rfl (by decide) rfl sh147.1 tm rfl rfl s164 ?_
                                refine gz_s 1 (pc' := 485) (L' := [some (.ref m), some (.int (zi mk)), some (.int (zi bg)), some (.int (zi n)), some (.int (zi z39)), some (.int (zi ((p0 + 1) + (2 * z39)))), some (.int (zi jn167v0)), none, none]) (S' := [.int (zi 63), .int (zi z107), .ref m]) rfl ?_
                                by_cases hc476 : ¬ (z107 : Int) = 63
                                · refine gy_icT (pc' := 506) rfl (by decide) (by decide) (by omega) (by omega) hc476 ?_
                                  refine gz_s 1 (pc' := 507) (L' := [some (.ref m), some (.int (zi mk)), some (.int (zi bg)), some (.int (zi n)), some (.int (zi z39)), some (.int (zi ((p0 + 1) + (2 * z39)))), some (.int (zi jn167v0)), none, none]) (S' := [.int (zi 0), .ref m]) rfl ?_
                                  exact jn169 0 (by omega)
                                · refine gy_icF rfl (by decide) (by decide) (by omega) (by omega) hc476 ?_
                                  refine gz_s 1 (pc' := 489) (L' := [some (.ref m), some (.int (zi mk)), some (.int (zi bg)), some (.int (zi n)), some (.int (zi z39)), some (.int (zi ((p0 + 1) + (2 * z39)))), some (.int (zi jn167v0)), none, none]) (S' := [.ref m, .ref m]) rfl ?_
                                  refine gs_gtk rfl (by decide) rfl sh147.1 tm rfl rfl s165 ?_
                                  by_cases hc477 : ¬ (z126 / 16 : Int) = 0
                                  · refine gy_ifT (pc' := 506) rfl (by decide) (by decide) (by omega) hc477 ?_
                                    refine gz_s 1 (pc' := 507) (L' := [some (.ref m), some (.int (zi mk)), some (.int (zi bg)), some (.int (zi n)), some (.int (zi z39)), some (.int (zi ((p0 + 1) + (2 * z39)))), some (.int (zi jn167v0)), none, none]) (S' := [.int (zi 0), .ref m]) rfl ?_
                                    exact jn169 0 (by omega)
                                  · refine gy_ifF rfl (by decide) (by decide) (by omega) hc477 ?_
                                    refine gz_s 1 (pc' := 496) (L' := [some (.ref m), some (.int (zi mk)), some (.int (zi bg)), some (.int (zi n)), some (.int (zi z39)), some (.int (zi ((p0 + 1) + (2 * z39)))), some (.int (zi jn167v0)), none, none]) (S' := [.ref m, .ref m]) rfl ?_
                                    refine gs_gtk rfl (by decide) rfl sh147.1 tm rfl rfl eh147 ?_
                                    by_cases hc478 : ¬ (z146 % 16 : Int) = 0
                                    · refine gy_ifT (pc' := 506) rfl (by decide) (by decide) (by omega) hc478 ?_
                                      refine gz_s 1 (pc' := 507) (L' := [some (.ref m), some (.int (zi mk)), some (.int (zi bg)), some (.int (zi n)), some (.int (zi z39)), some (.int (zi ((p0 + 1) + (2 * z39)))), some (.int (zi jn167v0)), none, none]) (S' := [.int (zi 0), .ref m]) rfl ?_
                                      exact jn169 0 (by omega)
                                    · refine gy_ifF rfl (by decide) (by decide) (by omega) hc478 ?_
                                      refine gz_s 2 (pc' := 507) (L' := [some (.ref m), some (.int (zi mk)), some (.int (zi bg)), some (.int (zi n)), some (.int (zi z39)), some (.int (zi ((p0 + 1) + (2 * z39)))), some (.int (zi jn167v0)), none, none]) (S' := [.int (zi 1), .ref m]) rfl ?_
                                      exact jn169 1 (by omega)
                            · refine gy_ifF rfl (by decide) (by decide) (by omega) hc474 ?_
                              refine gz_s 2 (pc' := 507) (L' := [some (.ref m), some (.int (zi mk)), some (.int (zi bg)), some (.int (zi n)), some (.int (zi z39)), some (.int (zi ((p0 + 1) + (2 * z39)))), some (.int (zi jn167v0)), none, none]) (S' := [.int (zi jn167v0), .ref m]) rfl ?_
                              exact jn169 jn167v0 (by omega)
                          by_cases hc479 : (jn166v0 : Int) = 0
                          · refine gy_ifT (pc' := 456) rfl (by decide) (by decide) (by omega) hc479 ?_
                            refine gz_s 1 (pc' := 457) (L' := [some (.ref m), some (.int (zi mk)), some (.int (zi bg)), some (.int (zi n)), some (.int (zi z39)), some (.int (zi ((p0 + 1) + (2 * z39)))), some (.int (zi jn166v0)), none, none]) (S' := [.int (zi 0)]) rfl ?_
                            exact jn167 0 (by omega)
                          · refine gy_ifF rfl (by decide) (by decide) (by omega) hc479 ?_
                            refine gz_s 1 (pc' := 424) (L' := [some (.ref m), some (.int (zi mk)), some (.int (zi bg)), some (.int (zi n)), some (.int (zi z39)), some (.int (zi ((p0 + 1) + (2 * z39)))), some (.int (zi jn166v0)), none, none]) (S' := [.ref m]) rfl ?_
                            refine gs_gtk rfl (by decide) rfl sh147.1 tm rfl rfl eh147 ?_
                            refine gz_s 1 (pc' := 429) (L' := [some (.ref m), some (.int (zi mk)), some (.int (zi bg)), some (.int (zi n)), some (.int (zi z39)), some (.int (zi ((p0 + 1) + (2 * z39)))), some (.int (zi jn166v0)), none, none]) (S' := [.int (zi 13), .int (zi (z146 % 16))]) rfl ?_
                            by_cases hc480 : (13 : Int) < z146 % 16
                            · refine gy_icT (pc' := 456) rfl (by decide) (by decide) (by omega) (by omega) hc480 ?_
                              refine gz_s 1 (pc' := 457) (L' := [some (.ref m), some (.int (zi mk)), some (.int (zi bg)), some (.int (zi n)), some (.int (zi z39)), some (.int (zi ((p0 + 1) + (2 * z39)))), some (.int (zi jn166v0)), none, none]) (S' := [.int (zi 0)]) rfl ?_
                              exact jn167 0 (by omega)
                            · refine gy_icF rfl (by decide) (by decide) (by omega) (by omega) hc480 ?_
                              refine gz_s 1 (pc' := 433) (L' := [some (.ref m), some (.int (zi mk)), some (.int (zi bg)), some (.int (zi n)), some (.int (zi z39)), some (.int (zi ((p0 + 1) + (2 * z39)))), some (.int (zi jn166v0)), none, none]) (S' := [.ref m]) rfl ?_
                              refine gs_gtk rfl (by decide) rfl sh147.1 tm rfl rfl s165 ?_
                              by_cases hc481 : (z126 / 16 : Int) = 0
                              · refine gy_ifT (pc' := 452) rfl (by decide) (by decide) (by omega) hc481 ?_
                                refine gz_s 2 (pc' := 457) (L' := [some (.ref m), some (.int (zi mk)), some (.int (zi bg)), some (.int (zi n)), some (.int (zi z39)), some (.int (zi ((p0 + 1) + (2 * z39)))), some (.int (zi jn166v0)), none, none]) (S' := [.int (zi 1)]) rfl ?_
                                exact jn167 1 (by omega)
                              · refine gy_ifF rfl (by decide) (by decide) (by omega) hc481 ?_
                                refine gz_s 1 (pc' := 440) (L' := [some (.ref m), some (.int (zi mk)), some (.int (zi bg)), some (.int (zi n)), some (.int (zi z39)), some (.int (zi ((p0 + 1) + (2 * z39)))), some (.int (zi jn166v0)), none, none]) (S' := [.ref m]) rfl ?_
                                refine gs_gtk rfl (by decide) rfl sh147.1 tm rfl rfl s165 ?_
                                refine gz_s 1 (pc' := 444) (L' := [some (.ref m), some (.int (zi mk)), some (.int (zi bg)), some (.int (zi n)), some (.int (zi z39)), some (.int (zi ((p0 + 1) + (2 * z39)))), some (.int (zi jn166v0)), none, none]) (S' := [.ref m, .int (zi (z126 / 16))]) rfl ?_
                                refine gs_gtk rfl (by decide) rfl sh147.1 tm rfl rfl eh147 ?_
                                refine gy_s 2 (pc' := 449) (L' := [some (.ref m), some (.int (zi mk)), some (.int (zi bg)), some (.int (zi n)), some (.int (zi z39)), some (.int (zi ((p0 + 1) + (2 * z39)))), some (.int (zi jn166v0)), none, none]) (S' := [.int ((zi (z146 % 16)) + (zi 1)), .int (zi (z126 / 16))]) (L2 := [some (.ref m), some (.int (zi mk)), some (.int (zi bg)), some (.int (zi n)), some (.int (zi z39)), some (.int (zi ((p0 + 1) + (2 * z39)))), some (.int (zi jn166v0)), none, none]) (S2 := [.int (zi ((z146 % 16) + 1)), .int (zi (z126 / 16))]) rfl (by simp only [zi_add, zi_sub, zi_mul, zi_neg, zi_and1, zi_and7, zi_and15, zi_and31, zi_and255]) (by simp only [zi_add, zi_sub, zi_mul, zi_neg, zi_and1, zi_and7, zi_and15, zi_and31, zi_and255]) ?_
                                by_cases hc482 : ¬ (z126 / 16 : Int) = (z146 % 16) + 1
                                · refine gy_icT (pc' := 456) rfl (by decide) (by decide) (by omega) (by omega) hc482 ?_
                                  refine gz_s 1 (pc' := 457) (L' := [some (.ref m), some (.int (zi mk)), some (.int (zi bg)), some (.int (zi n)), some (.int (zi z39)), some (.int (zi ((p0 + 1) + (2 * z39)))), some (.int (zi jn166v0)), none, none]) (S' := [.int (zi 0)]) rfl ?_
                                  exact jn167 0 (by omega)
                                · refine gy_icF rfl (by decide) (by decide) (by omega) (by omega) hc482 ?_
                                  refine gz_s 2 (pc' := 457) (L' := [some (.ref m), some (.int (zi mk)), some (.int (zi bg)), some (.int (zi n)), some (.int (zi z39)), some (.int (zi ((p0 + 1) + (2 * z39)))), some (.int (zi jn166v0)), none, none]) (S' := [.int (zi 1)]) rfl ?_
                                  exact jn167 1 (by omega)
                        by_cases hc483 : ¬ (z89 : Int) = 0
                        · refine gy_ifT (pc' := 385) rfl (by decide) (by decide) (by omega) hc483 ?_
                          refine gz_s 1 (pc' := 386) (L' := [some (.ref m), some (.int (zi mk)), some (.int (zi bg)), some (.int (zi n)), some (.int (zi z39)), some (.int (zi ((p0 + 1) + (2 * z39)))), none, none, none]) (S' := [.ref m]) rfl ?_
                          refine gs_gtk rfl (by decide) rfl sh147.1 tm rfl rfl s163 ?_
                          refine gz_s 1 (pc' := 390) (L' := [some (.ref m), some (.int (zi mk)), some (.int (zi bg)), some (.int (zi n)), some (.int (zi z39)), some (.int (zi ((p0 + 1) + (2 * z39)))), none, none, none]) (S' := [.ref m, .int (zi z89)]) rfl ?_
                          refine gs_gtk rfl (by decide) rfl sh147.1 tm rfl rfl s164 ?_
                          by_cases hc484 : (z107 : Int) < z89
                          · refine gy_icT (pc' := 415) rfl (by decide) (by decide) (by omega) (by omega) hc484 ?_
                            refine gz_s 1 (pc' := 416) (L' := [some (.ref m), some (.int (zi mk)), some (.int (zi bg)), some (.int (zi n)), some (.int (zi z39)), some (.int (zi ((p0 + 1) + (2 * z39)))), none, none, none]) (S' := [.int (zi 0)]) rfl ?_
                            exact jn166 0 (by omega)
                          · refine gy_icF rfl (by decide) (by decide) (by omega) (by omega) hc484 ?_
                            refine gz_s 1 (pc' := 397) (L' := [some (.ref m), some (.int (zi mk)), some (.int (zi bg)), some (.int (zi n)), some (.int (zi z39)), some (.int (zi ((p0 + 1) + (2 * z39)))), none, none, none]) (S' := [.ref m]) rfl ?_
                            refine gs_gtk rfl (by decide) rfl sh147.1 tm rfl rfl s164 ?_
                            refine gz_s 1 (pc' := 402) (L' := [some (.ref m), some (.int (zi mk)), some (.int (zi bg)), some (.int (zi n)), some (.int (zi z39)), some (.int (zi ((p0 + 1) + (2 * z39)))), none, none, none]) (S' := [.int (zi 63), .int (zi z107)]) rfl ?_
                            by_cases hc485 : (63 : Int) < z107
                            · refine gy_icT (pc' := 415) rfl (by decide) (by decide) (by omega) (by omega) hc485 ?_
                              refine gz_s 1 (pc' := 416) (L' := [some (.ref m), some (.int (zi mk)), some (.int (zi bg)), some (.int (zi n)), some (.int (zi z39)), some (.int (zi ((p0 + 1) + (2 * z39)))), none, none, none]) (S' := [.int (zi 0)]) rfl ?_
                              exact jn166 0 (by omega)
                            · refine gy_icF rfl (by decide) (by decide) (by omega) (by omega) hc485 ?_
                              refine gz_s 2 (pc' := 408) (L' := [some (.ref m), some (.int (zi mk)), some (.int (zi bg)), some (.int (zi n)), some (.int (zi z39)), some (.int (zi ((p0 + 1) + (2 * z39)))), none, none, none]) (S' := [.int (zi 1), .int (zi z39)]) rfl ?_
                              by_cases hc486 : ¬ (z39 : Int) = 1
                              · refine gy_icT (pc' := 415) rfl (by decide) (by decide) (by omega) (by omega) hc486 ?_
                                refine gz_s 1 (pc' := 416) (L' := [some (.ref m), some (.int (zi mk)), some (.int (zi bg)), some (.int (zi n)), some (.int (zi z39)), some (.int (zi ((p0 + 1) + (2 * z39)))), none, none, none]) (S' := [.int (zi 0)]) rfl ?_
                                exact jn166 0 (by omega)
                              · refine gy_icF rfl (by decide) (by decide) (by omega) (by omega) hc486 ?_
                                refine gz_s 2 (pc' := 416) (L' := [some (.ref m), some (.int (zi mk)), some (.int (zi bg)), some (.int (zi n)), some (.int (zi z39)), some (.int (zi ((p0 + 1) + (2 * z39)))), none, none, none]) (S' := [.int (zi 1)]) rfl ?_
                                exact jn166 1 (by omega)
                        · refine gy_ifF rfl (by decide) (by decide) (by omega) hc483 ?_
                          refine gz_s 1 (pc' := 371) (L' := [some (.ref m), some (.int (zi mk)), some (.int (zi bg)), some (.int (zi n)), some (.int (zi z39)), some (.int (zi ((p0 + 1) + (2 * z39)))), none, none, none]) (S' := [.ref m]) rfl ?_
                          refine gs_gtk rfl (by decide) rfl sh147.1 tm rfl rfl s164 ?_
                          by_cases hc487 : ¬ (z107 : Int) = 0
                          · refine gy_ifT (pc' := 381) rfl (by decide) (by decide) (by omega) hc487 ?_
                            refine gz_s 2 (pc' := 416) (L' := [some (.ref m), some (.int (zi mk)), some (.int (zi bg)), some (.int (zi n)), some (.int (zi z39)), some (.int (zi ((p0 + 1) + (2 * z39)))), none, none, none]) (S' := [.int (zi 0)]) rfl ?_
                            exact jn166 0 (by omega)
                          · refine gy_ifF rfl (by decide) (by decide) (by omega) hc487 ?_
                            refine gz_s 2 (pc' := 416) (L' := [some (.ref m), some (.int (zi mk)), some (.int (zi bg)), some (.int (zi n)), some (.int (zi z39)), some (.int (zi ((p0 + 1) + (2 * z39)))), none, none, none]) (S' := [.int (zi 1)]) rfl ?_
                            exact jn166 1 (by omega)
                      · refine gy_icF rfl (by decide) (by decide) (by omega) (by omega) hc87 ?_
                        exact gz_end (I := .return_) (len := 1) rfl (Or.inl rfl) ⟨sh85, fv, p0, rfl, lp83k10, (by omega), (by omega), lp83k0, (by omega), (by omega), (by omega)⟩
                    · refine gy_icF rfl (by decide) (by decide) (by omega) (by omega) hc86 ?_
                      refine gz_s 1 (pc' := 110) (L' := [some (.ref m), some (.int (zi mk)), some (.int (zi bg)), some (.int (zi n)), some (.int (zi z39)), some (.int (zi k)), none, none, none]) (S' := [.ref m]) rfl ?_
                      refine gs_gtk rfl (by decide) rfl sh85.1 tm rfl rfl lp83k10 ?_
                      refine gz_s 1 (pc' := 114) (L' := [some (.ref m), some (.int (zi mk)), some (.int (zi bg)), some (.int (zi n)), some (.int (zi z39)), some (.int (zi k)), none, none, none]) (S' := [.int (zi (-1)), .int (zi fv)]) rfl ?_
                      by_cases hc488 : ¬ (fv : Int) = (-1)
                      · refine gy_icT (pc' := 285) rfl (by decide) (by decide) (by omega) (by omega) hc488 ?_
                        refine gz_s 1 (pc' := 286) (L' := [some (.ref m), some (.int (zi mk)), some (.int (zi bg)), some (.int (zi n)), some (.int (zi z39)), some (.int (zi k)), none, none, none]) (S' := [.ref m]) rfl ?_
                        refine gs_gtk rfl (by decide) rfl sh85.1 tm rfl rfl lp83k10 ?_
                        refine gz_s 1 (pc' := 290) (L' := [some (.ref m), some (.int (zi mk)), some (.int (zi bg)), some (.int (zi n)), some (.int (zi z39)), some (.int (zi k)), none, none, none]) (S' := [.int (zi (-1)), .int (zi fv)]) rfl ?_
                        refine gy_icF rfl (by decide) (by decide) (by omega) (by omega) (by first | (simp [zc]; done) | (simp only [zc]; omega)) ?_
                        exact gz_end (I := .return_) (len := 1) rfl (Or.inl rfl) ⟨sh85, fv, p0, rfl, lp83k10, (by omega), (by omega), lp83k0, (by omega), (by omega), (by omega)⟩
                      · refine gy_icF rfl (by decide) (by decide) (by omega) (by omega) hc488 ?_
                        refine gz_s 1 (pc' := 118) (L' := [some (.ref m), some (.int (zi mk)), some (.int (zi bg)), some (.int (zi n)), some (.int (zi z39)), some (.int (zi k)), none, none, none]) (S' := [.ref m]) rfl ?_
                        refine gs_gtk rfl (by decide) rfl sh85.1 tm rfl rfl lp83k0 ?_
                        refine gy_s 9 (pc' := 133) (L' := [some (.ref m), some (.int (zi mk)), some (.int (zi bg)), some (.int (zi n)), some (.int (zi z39)), some (.int (zi k)), some (.int (((zi p0) + (zi 1)) + ((zi 2) * (zi k)))), none, none]) (S' := [.int (zi 1), .int (zi z39)]) (L2 := [some (.ref m), some (.int (zi mk)), some (.int (zi bg)), some (.int (zi n)), some (.int (zi z39)), some (.int (zi k)), some (.int (zi ((p0 + 1) + (2 * k)))), none, none]) (S2 := [.int (zi 1), .int (zi z39)]) rfl (by simp only [zi_add, zi_sub, zi_mul, zi_neg, zi_and1, zi_and7, zi_and15, zi_and31, zi_and255]) (by simp only [zi_add, zi_sub, zi_mul, zi_neg, zi_and1, zi_and7, zi_and15, zi_and31, zi_and255]) ?_
                        by_cases hc489 : (z39 : Int) ≤ 1
                        · refine gy_icT (pc' := 141) rfl (by decide) (by decide) (by omega) (by omega) hc489 ?_
                          refine gz_s 2 (pc' := 143) (L' := [some (.ref m), some (.int (zi mk)), some (.int (zi bg)), some (.int (zi n)), some (.int (zi z39)), some (.int (zi k)), some (.int (zi ((p0 + 1) + (2 * k)))), none, none]) (S' := [.ref m, .ref m]) rfl ?_
                          refine gs_gtk rfl (by decide) rfl sh85.1 tm rfl rfl lp83k9 ?_
                          refine gz_s 1 (pc' := 148) (L' := [some (.ref m), some (.int (zi mk)), some (.int (zi bg)), some (.int (zi n)), some (.int (zi z39)), some (.int (zi k)), some (.int (zi ((p0 + 1) + (2 * k)))), none, none]) (S' := [.int (zi ((p0 + 1) + (2 * k))), .ref c37, .ref m]) rfl ?_
                          have hl490 : 2000 ≤ h85.2.2.2.1 c37 ∧ h85.2.2.2.1 c37 ≤ 2000 := gJ.rowl (G := gGG) sh85.1 tc37 rfl
                          refine gs_ald rfl (by decide) sh85.1 tc37 rfl rfl rfl (by decide) (fun _ => rfl) (by omega) (by omega) (fun z491 ez491 az491 bz491 => ?_)
                          refine gz_call rfl (by decide) rfl (by decide) (by decide) (gcal_of rfl rfl rfl (Nat.le_of_ble_eq_true rfl) (gJ.recv (G := gGG) sh85.1 tm rfl rfl)) (mm_named _ sh85.1 m tm z491 (by omega) bs lp83k8 (by omega)) (fun q492 _ wq492 => ?_)
                          obtain ⟨pq492, oq492, hq492⟩ := q492
                          obtain ⟨xq492, zq492, gq492, aq492, bq492, uq492_0⟩ := wq492
                          refine ⟨_, gq492, ?_⟩
                          show gz gPP gGG gcn _ _ 152 [some (.ref m), some (.int (zi mk)), some (.int (zi bg)), some (.int (zi n)), some (.int (zi z39)), some (.int (zi k)), some (.int (zi ((p0 + 1) + (2 * k)))), none, none] [.int (zi zq492)] hq492 _
                          have sq492 := gSs.tr sh85 xq492 (by decide)
                          have s493 := (xq492.2.2.2.2.2 m 5 (by rw [tm]; decide)).trans lp83k0
                          have s494 := (xq492.2.2.2.2.2 m 6 (by rw [tm]; decide)).trans lp83k1
                          have s495 := (xq492.2.2.2.2.2 m 3 (by rw [tm]; decide)).trans lp83k2
                          have s496 := (xq492.2.2.2.2.2 m 16 (by rw [tm]; decide)).trans lp83k3
                          have s497 := (xq492.2.2.2.2.2 m 18 (by rw [tm]; decide)).trans lp83k4
                          have s498 := (xq492.2.2.2.2.2 m 19 (by rw [tm]; decide)).trans lp83k5
                          have s499 := (xq492.2.2.2.2.2 m 21 (by rw [tm]; decide)).trans lp83k6
                          have s500 := (xq492.2.2.2.2.2 m 22 (by rw [tm]; decide)).trans lp83k7
                          have s501 := (xq492.2.2.2.2.2 m 20 (by rw [tm]; decide)).trans lp83k8
                          have s502 := (xq492.2.2.2.2.2 m 4 (by rw [tm]; decide)).trans lp83k9
                          have s503 := (xq492.2.2.2.2.2 m 7 (by rw [tm]; decide)).trans lp83k10
                          have pr504 := gPi.fr xq492.2 (by decide) lp83k11
                          have pr505 := gPic.fr xq492.2 (by decide) lp83k12
                          have pr506 := gSbc.fr xq492.2 (by decide) lp83k13
                          refine gz_s 4 (pc' := 158) (L' := [some (.ref m), some (.int (zi mk)), some (.int (zi bg)), some (.int (zi n)), some (.int (zi z39)), some (.int (zi k)), some (.int (zi ((p0 + 1) + (2 * k)))), some (.int (zi zq492)), none]) (S' := [.int (zi (-1)), .int (zi zq492), .ref m]) rfl ?_
                          by_cases hc507 : (zq492 : Int) = (-1)
                          · refine gy_icT (pc' := 192) rfl (by decide) (by decide) (by omega) (by omega) hc507 ?_
                            refine gz_s 2 (pc' := 195) (L' := [some (.ref m), some (.int (zi mk)), some (.int (zi bg)), some (.int (zi n)), some (.int (zi z39)), some (.int (zi k)), some (.int (zi ((p0 + 1) + (2 * k)))), some (.int (zi zq492)), none]) (S' := [.int (zi ((p0 + 1) + (2 * k))), .int (zi 0), .ref m]) rfl ?_
                            refine gz_call rfl (by decide) rfl (by decide) (by decide) (gcal_of rfl rfl rfl (Nat.le_of_ble_eq_true rfl) (gJ.recv (G := gGG) sq492.1 tm rfl rfl)) (mm_must _ sq492.1 m tm 0 (by omega) ((p0 + 1) + (2 * k)) (by omega) fv s503 (by omega)) (fun q508 _ wq508 => ?_)
                            obtain ⟨pq508, oq508, hq508⟩ := q508
                            obtain ⟨xq508, zq508, fq508_0, gq508, aq508, bq508, efq508_0, afq508_0, bfq508_0, uq508_0, uq508_1⟩ := wq508
                            refine ⟨_, gq508, ?_⟩
                            show gz gPP gGG gcn _ _ 198 [some (.ref m), some (.int (zi mk)), some (.int (zi bg)), some (.int (zi n)), some (.int (zi z39)), some (.int (zi k)), some (.int (zi ((p0 + 1) + (2 * k)))), some (.int (zi zq492)), none] [.int (zi zq508)] hq508 _
                            have sq508 := gSs.tr sq492 xq508 (by decide)
                            have s509 := (xq508.2.2.2.2.2 m 5 (by rw [tm]; decide)).trans s493
                            have s510 := (xq508.2.2.2.2.2 m 6 (by rw [tm]; decide)).trans s494
                            have s511 := (xq508.2.2.2.2.2 m 3 (by rw [tm]; decide)).trans s495
                            have s512 := (xq508.2.2.2.2.2 m 16 (by rw [tm]; decide)).trans s496
                            have s513 := (xq508.2.2.2.2.2 m 18 (by rw [tm]; decide)).trans s497
                            have s514 := (xq508.2.2.2.2.2 m 19 (by rw [tm]; decide)).trans s498
                            have s515 := (xq508.2.2.2.2.2 m 21 (by rw [tm]; decide)).trans s499
                            have s516 := (xq508.2.2.2.2.2 m 22 (by rw [tm]; decide)).trans s500
                            have s517 := (xq508.2.2.2.2.2 m 20 (by rw [tm]; decide)).trans s501
                            have s518 := (xq508.2.2.2.2.2 m 4 (by rw [tm]; decide)).trans s502
                            have pr519 := gPi.fr xq508.2 (by decide) pr504
                            have pr520 := gPic.fr xq508.2 (by decide) pr505
                            have pr521 := gSbc.fr xq508.2 (by decide) pr506
                            refine gy_ifT (pc' := 279) rfl (by decide) (by decide) (by omega) (by first | (simp [zc]; done) | (simp only [zc]; omega)) ?_
                            have hsb522 : gSbc ty fq508_0 (k + 1) bs hq508 := fun e => absurd e (by omega)
                            refine gy_s 2 (pc' := 102) (L' := [some (.ref m), some (.int (zi mk)), some (.int (zi bg)), some (.int (zi n)), some (.int (zi z39)), some (.int ((zi k) + zi 1)), some (.int (zi ((p0 + 1) + (2 * k)))), some (.int (zi zq492)), none]) (S' := []) (L2 := [some (.ref m), some (.int (zi mk)), some (.int (zi bg)), some (.int (zi n)), some (.int (zi z39)), some (.int (zi (k + 1))), some (.int (zi ((p0 + 1) + (2 * k)))), some (.int (zi zq492)), none]) (S2 := []) rfl (by simp only [zi_add, zi_sub, zi_mul, zi_neg, zi_and1, zi_and7, zi_and15, zi_and31, zi_and255]) (by simp only [zi_add, zi_sub, zi_mul, zi_neg, zi_and1, zi_and7, zi_and15, zi_and31, zi_and255]) ?_
                            exact gz_wk (ihlp83 hq508 (k + 1) fq508_0 (by omega) sq508 (by omega) (by omega) (by omega) s509 s510 s511 s512 s513 s514 s515 s516 s517 s518 efq508_0 pr519 pr520 hsb522) (gLw.s (gLw.s (gLw.s (gLw.s (gLw.s (gLw.s (gLw.n (gLw.n (gLw.n gLw.z)))))))))
                          · refine gy_icF rfl (by decide) (by decide) (by omega) (by omega) hc507 ?_
                            refine gz_s 1 (pc' := 162) (L' := [some (.ref m), some (.int (zi mk)), some (.int (zi bg)), some (.int (zi n)), some (.int (zi z39)), some (.int (zi k)), some (.int (zi ((p0 + 1) + (2 * k)))), some (.int (zi zq492)), none]) (S' := [.ref m, .ref m]) rfl ?_
                            refine gs_gtr rfl (by decide) rfl sq492.1 tm rfl rfl rfl (fun c523 ec523 tc523 => ?_)
                            refine gz_s 2 (pc' := 168) (L' := [some (.ref m), some (.int (zi mk)), some (.int (zi bg)), some (.int (zi n)), some (.int (zi z39)), some (.int (zi k)), some (.int (zi ((p0 + 1) + (2 * k)))), some (.int (zi zq492)), none]) (S' := [.int (zi (-1)), .int (zi zq492), .ref c523, .ref m]) rfl ?_
                            refine gy_icT (pc' := 175) rfl (by decide) (by decide) (by omega) (by omega) (by first | (simp [zc]; done) | (simp only [zc]; omega)) ?_
                            refine gz_s 1 (pc' := 177) (L' := [some (.ref m), some (.int (zi mk)), some (.int (zi bg)), some (.int (zi n)), some (.int (zi z39)), some (.int (zi k)), some (.int (zi ((p0 + 1) + (2 * k)))), some (.int (zi zq492)), none]) (S' := [.int (zi zq492), .ref c523, .ref m]) rfl ?_
                            have hl524 : 3 ≤ hq492.2.2.2.1 c523 ∧ hq492.2.2.2.1 c523 ≤ 3 := gJ.rowl (G := gGG) sq492.1 tc523 rfl
                            refine gs_ald rfl (by decide) sq492.1 tc523 rfl rfl rfl (by decide) (fun _ => rfl) (by omega) (by omega) (fun z525 ez525 az525 bz525 => ?_)
                            refine gz_s 1 (pc' := 179) (L' := [some (.ref m), some (.int (zi mk)), some (.int (zi bg)), some (.int (zi n)), some (.int (zi z39)), some (.int (zi k)), some (.int (zi ((p0 + 1) + (2 * k)))), some (.int (zi zq492)), none]) (S' := [.ref m, .int (zi z525), .ref m]) rfl ?_
                            refine gs_gtk rfl (by decide) rfl sq492.1 tm rfl rfl s502 ?_
                            refine gz_s 1 (pc' := 184) (L' := [some (.ref m), some (.int (zi mk)), some (.int (zi bg)), some (.int (zi n)), some (.int (zi z39)), some (.int (zi k)), some (.int (zi ((p0 + 1) + (2 * k)))), some (.int (zi zq492)), none]) (S' := [.int (zi ((p0 + 1) + (2 * k))), .ref c37, .int (zi z525), .ref m]) rfl ?_
                            have hl526 : 2000 ≤ hq492.2.2.2.1 c37 ∧ hq492.2.2.2.1 c37 ≤ 2000 := gJ.rowl (G := gGG) sq492.1 tc37 rfl
                            refine gs_ald rfl (by decide) sq492.1 tc37 rfl rfl rfl (by decide) (fun _ => rfl) (by omega) (by omega) (fun z527 ez527 az527 bz527 => ?_)
                            by_cases hc528 : ¬ (z525 : Int) = z527
                            · refine gy_icT (pc' := 192) rfl (by decide) (by decide) (by omega) (by omega) hc528 ?_
                              refine gz_s 2 (pc' := 195) (L' := [some (.ref m), some (.int (zi mk)), some (.int (zi bg)), some (.int (zi n)), some (.int (zi z39)), some (.int (zi k)), some (.int (zi ((p0 + 1) + (2 * k)))), some (.int (zi zq492)), none]) (S' := [.int (zi ((p0 + 1) + (2 * k))), .int (zi 0), .ref m]) rfl ?_
                              refine gz_call rfl (by decide) rfl (by decide) (by decide) (gcal_of rfl rfl rfl (Nat.le_of_ble_eq_true rfl) (gJ.recv (G := gGG) sq492.1 tm rfl rfl)) (mm_must _ sq492.1 m tm 0 (by omega) ((p0 + 1) + (2 * k)) (by omega) fv s503 (by omega)) (fun q529 _ wq529 => ?_)
                              obtain ⟨pq529, oq529, hq529⟩ := q529
                              obtain ⟨xq529, zq529, fq529_0, gq529, aq529, bq529, efq529_0, afq529_0, bfq529_0, uq529_0, uq529_1⟩ := wq529
                              refine ⟨_, gq529, ?_⟩
                              show gz gPP gGG gcn _ _ 198 [some (.ref m), some (.int (zi mk)), some (.int (zi bg)), some (.int (zi n)), some (.int (zi z39)), some (.int (zi k)), some (.int (zi ((p0 + 1) + (2 * k)))), some (.int (zi zq492)), none] [.int (zi zq529)] hq529 _
                              have sq529 := gSs.tr sq492 xq529 (by decide)
                              have s530 := (xq529.2.2.2.2.2 m 5 (by rw [tm]; decide)).trans s493
                              have s531 := (xq529.2.2.2.2.2 m 6 (by rw [tm]; decide)).trans s494
                              have s532 := (xq529.2.2.2.2.2 m 3 (by rw [tm]; decide)).trans s495
                              have s533 := (xq529.2.2.2.2.2 m 16 (by rw [tm]; decide)).trans s496
                              have s534 := (xq529.2.2.2.2.2 m 18 (by rw [tm]; decide)).trans s497
                              have s535 := (xq529.2.2.2.2.2 m 19 (by rw [tm]; decide)).trans s498
                              have s536 := (xq529.2.2.2.2.2 m 21 (by rw [tm]; decide)).trans s499
                              have s537 := (xq529.2.2.2.2.2 m 22 (by rw [tm]; decide)).trans s500
                              have s538 := (xq529.2.2.2.2.2 m 20 (by rw [tm]; decide)).trans s501
                              have s539 := (xq529.2.2.2.2.2 m 4 (by rw [tm]; decide)).trans s502
                              have s540 := (xq529.2.2.2.2.2 m 25 (by rw [tm]; decide)).trans ec523
                              have pr541 := gPi.fr xq529.2 (by decide) pr504
                              have pr542 := gPic.fr xq529.2 (by decide) pr505
                              have pr543 := gSbc.fr xq529.2 (by decide) pr506
                              refine gy_ifT (pc' := 279) rfl (by decide) (by decide) (by omega) (by first | (simp [zc]; done) | (simp only [zc]; omega)) ?_
                              have hsb544 : gSbc ty fq529_0 (k + 1) bs hq529 := fun e => absurd e (by omega)
                              refine gy_s 2 (pc' := 102) (L' := [some (.ref m), some (.int (zi mk)), some (.int (zi bg)), some (.int (zi n)), some (.int (zi z39)), some (.int ((zi k) + zi 1)), some (.int (zi ((p0 + 1) + (2 * k)))), some (.int (zi zq492)), none]) (S' := []) (L2 := [some (.ref m), some (.int (zi mk)), some (.int (zi bg)), some (.int (zi n)), some (.int (zi z39)), some (.int (zi (k + 1))), some (.int (zi ((p0 + 1) + (2 * k)))), some (.int (zi zq492)), none]) (S2 := []) rfl (by simp only [zi_add, zi_sub, zi_mul, zi_neg, zi_and1, zi_and7, zi_and15, zi_and31, zi_and255]) (by simp only [zi_add, zi_sub, zi_mul, zi_neg, zi_and1, zi_and7, zi_and15, zi_and31, zi_and255]) ?_
                              exact gz_wk (ihlp83 hq529 (k + 1) fq529_0 (by omega) sq529 (by omega) (by omega) (by omega) s530 s531 s532 s533 s534 s535 s536 s537 s538 s539 efq529_0 pr541 pr542 hsb544) (gLw.s (gLw.s (gLw.s (gLw.s (gLw.s (gLw.s (gLw.n (gLw.n (gLw.n gLw.z)))))))))
                            · refine gy_icF rfl (by decide) (by decide) (by omega) (by omega) hc528 ?_
                              refine gz_s 3 (pc' := 195) (L' := [some (.ref m), some (.int (zi mk)), some (.int (zi bg)), some (.int (zi n)), some (.int (zi z39)), some (.int (zi k)), some (.int (zi ((p0 + 1) + (2 * k)))), some (.int (zi zq492)), none]) (S' := [.int (zi ((p0 + 1) + (2 * k))), .int (zi 1), .ref m]) rfl ?_
                              refine gz_call rfl (by decide) rfl (by decide) (by decide) (gcal_of rfl rfl rfl (Nat.le_of_ble_eq_true rfl) (gJ.recv (G := gGG) sq492.1 tm rfl rfl)) (mm_must _ sq492.1 m tm 1 (by omega) ((p0 + 1) + (2 * k)) (by omega) fv s503 (by omega)) (fun q545 _ wq545 => ?_)
                              obtain ⟨pq545, oq545, hq545⟩ := q545
                              obtain ⟨xq545, zq545, fq545_0, gq545, aq545, bq545, efq545_0, afq545_0, bfq545_0, uq545_0, uq545_1⟩ := wq545
                              refine ⟨_, gq545, ?_⟩
                              show gz gPP gGG gcn _ _ 198 [some (.ref m), some (.int (zi mk)), some (.int (zi bg)), some (.int (zi n)), some (.int (zi z39)), some (.int (zi k)), some (.int (zi ((p0 + 1) + (2 * k)))), some (.int (zi zq492)), none] [.int (zi zq545)] hq545 _
                              have sq545 := gSs.tr sq492 xq545 (by decide)
                              have s546 := (xq545.2.2.2.2.2 m 5 (by rw [tm]; decide)).trans s493
                              have s547 := (xq545.2.2.2.2.2 m 6 (by rw [tm]; decide)).trans s494
                              have s548 := (xq545.2.2.2.2.2 m 3 (by rw [tm]; decide)).trans s495
                              have s549 := (xq545.2.2.2.2.2 m 16 (by rw [tm]; decide)).trans s496
                              have s550 := (xq545.2.2.2.2.2 m 18 (by rw [tm]; decide)).trans s497
                              have s551 := (xq545.2.2.2.2.2 m 19 (by rw [tm]; decide)).trans s498
                              have s552 := (xq545.2.2.2.2.2 m 21 (by rw [tm]; decide)).trans s499
                              have s553 := (xq545.2.2.2.2.2 m 22 (by rw [tm]; decide)).trans s500
                              have s554 := (xq545.2.2.2.2.2 m 20 (by rw [tm]; decide)).trans s501
                              have s555 := (xq545.2.2.2.2.2 m 4 (by rw [tm]; decide)).trans s502
                              have s556 := (xq545.2.2.2.2.2 m 25 (by rw [tm]; decide)).trans ec523
                              have pr557 := gPi.fr xq545.2 (by decide) pr504
                              have pr558 := gPic.fr xq545.2 (by decide) pr505
                              have pr559 := gSbc.fr xq545.2 (by decide) pr506
                              refine gy_ifF rfl (by decide) (by decide) (by omega) (by first | (simp [zc]; done) | (simp only [zc]; omega)) ?_
                              refine gz_s 1 (pc' := 202) (L' := [some (.ref m), some (.int (zi mk)), some (.int (zi bg)), some (.int (zi n)), some (.int (zi z39)), some (.int (zi k)), some (.int (zi ((p0 + 1) + (2 * k)))), some (.int (zi zq492)), none]) (S' := [.ref m]) rfl ?_
                              refine gs_gtk rfl (by decide) rfl sq545.1 tm rfl rfl s555 ?_
                              refine gy_s 3 (pc' := 209) (L' := [some (.ref m), some (.int (zi mk)), some (.int (zi bg)), some (.int (zi n)), some (.int (zi z39)), some (.int (zi k)), some (.int (zi ((p0 + 1) + (2 * k)))), some (.int (zi zq492)), none]) (S' := [.int ((zi ((p0 + 1) + (2 * k))) + (zi 1)), .ref c37]) (L2 := [some (.ref m), some (.int (zi mk)), some (.int (zi bg)), some (.int (zi n)), some (.int (zi z39)), some (.int (zi k)), some (.int (zi ((p0 + 1) + (2 * k)))), some (.int (zi zq492)), none]) (S2 := [.int (zi (((p0 + 1) + (2 * k)) + 1)), .ref c37]) rfl (by simp only [zi_add, zi_sub, zi_mul, zi_neg, zi_and1, zi_and7, zi_and15, zi_and31, zi_and255]) (by simp only [zi_add, zi_sub, zi_mul, zi_neg, zi_and1, zi_and7, zi_and15, zi_and31, zi_and255]) ?_
                              have hl560 : 2000 ≤ hq545.2.2.2.1 c37 ∧ hq545.2.2.2.1 c37 ≤ 2000 := gJ.rowl (G := gGG) sq545.1 tc37 rfl
                              refine gs_ald rfl (by decide) sq545.1 tc37 rfl rfl rfl (by decide) (fun _ => rfl) (by omega) (by omega) (fun z561 ez561 az561 bz561 => ?_)
                              refine gz_s 4 (pc' := 217) (L' := [some (.ref m), some (.int (zi mk)), some (.int (zi bg)), some (.int (zi n)), some (.int (zi z39)), some (.int (zi k)), some (.int (zi ((p0 + 1) + (2 * k)))), some (.int (zi zq492)), some (.int (zi z561))]) (S' := [.int (zi 16), .int (zi z561), .ref m]) rfl ?_
                              refine gy_div rfl (by decide) (by omega) (by omega) ?_
                              refine gz_s 1 (pc' := 219) (L' := [some (.ref m), some (.int (zi mk)), some (.int (zi bg)), some (.int (zi n)), some (.int (zi z39)), some (.int (zi k)), some (.int (zi ((p0 + 1) + (2 * k)))), some (.int (zi zq492)), some (.int (zi z561))]) (S' := [.int (zi 4), .int (zi (z561 / 16)), .ref m]) rfl ?_
                              by_cases hc562 : (4 : Int) ≤ z561 / 16
                              · refine gy_icT (pc' := 235) rfl (by decide) (by decide) (by omega) (by omega) hc562 ?_
                                refine gy_s 4 (pc' := 240) (L' := [some (.ref m), some (.int (zi mk)), some (.int (zi bg)), some (.int (zi n)), some (.int (zi z39)), some (.int (zi k)), some (.int (zi ((p0 + 1) + (2 * k)))), some (.int (zi zq492)), some (.int (zi z561))]) (S' := [.int ((zi ((p0 + 1) + (2 * k))) + (zi 1)), .int (zi 0), .ref m]) (L2 := [some (.ref m), some (.int (zi mk)), some (.int (zi bg)), some (.int (zi n)), some (.int (zi z39)), some (.int (zi k)), some (.int (zi ((p0 + 1) + (2 * k)))), some (.int (zi zq492)), some (.int (zi z561))]) (S2 := [.int (zi (((p0 + 1) + (2 * k)) + 1)), .int (zi 0), .ref m]) rfl (by simp only [zi_add, zi_sub, zi_mul, zi_neg, zi_and1, zi_and7, zi_and15, zi_and31, zi_and255]) (by simp only [zi_add, zi_sub, zi_mul, zi_neg, zi_and1, zi_and7, zi_and15, zi_and31, zi_and255]) ?_
                                refine gz_call rfl (by decide) rfl (by decide) (by decide) (gcal_of rfl rfl rfl (Nat.le_of_ble_eq_true rfl) (gJ.recv (G := gGG) sq545.1 tm rfl rfl)) (mm_must _ sq545.1 m tm 0 (by omega) (((p0 + 1) + (2 * k)) + 1) (by omega) fq545_0 efq545_0 (by omega)) (fun q563 _ wq563 => ?_)
                                obtain ⟨pq563, oq563, hq563⟩ := q563
                                obtain ⟨xq563, zq563, fq563_0, gq563, aq563, bq563, efq563_0, afq563_0, bfq563_0, uq563_0, uq563_1⟩ := wq563
                                refine ⟨_, gq563, ?_⟩
                                show gz gPP gGG gcn _ _ 243 [some (.ref m), some (.int (zi mk)), some (.int (zi bg)), some (.int (zi n)), some (.int (zi z39)), some (.int (zi k)), some (.int (zi ((p0 + 1) + (2 * k)))), some (.int (zi zq492)), some (.int (zi z561))] [.int (zi zq563)] hq563 _
                                have sq563 := gSs.tr sq545 xq563 (by decide)
                                have s564 := (xq563.2.2.2.2.2 m 5 (by rw [tm]; decide)).trans s546
                                have s565 := (xq563.2.2.2.2.2 m 6 (by rw [tm]; decide)).trans s547
                                have s566 := (xq563.2.2.2.2.2 m 3 (by rw [tm]; decide)).trans s548
                                have s567 := (xq563.2.2.2.2.2 m 16 (by rw [tm]; decide)).trans s549
                                have s568 := (xq563.2.2.2.2.2 m 18 (by rw [tm]; decide)).trans s550
                                have s569 := (xq563.2.2.2.2.2 m 19 (by rw [tm]; decide)).trans s551
                                have s570 := (xq563.2.2.2.2.2 m 21 (by rw [tm]; decide)).trans s552
                                have s571 := (xq563.2.2.2.2.2 m 22 (by rw [tm]; decide)).trans s553
                                have s572 := (xq563.2.2.2.2.2 m 20 (by rw [tm]; decide)).trans s554
                                have s573 := (xq563.2.2.2.2.2 m 4 (by rw [tm]; decide)).trans s555
                                have s574 := (xq563.2.2.2.2.2 m 25 (by rw [tm]; decide)).trans s556
                                have pr575 := gPi.fr xq563.2 (by decide) pr557
                                have pr576 := gPic.fr xq563.2 (by decide) pr558
                                have pr577 := gSbc.fr xq563.2 (by decide) pr559
                                refine gz_s 1 (pc' := 244) (L' := [some (.ref m), some (.int (zi mk)), some (.int (zi bg)), some (.int (zi n)), some (.int (zi z39)), some (.int (zi k)), some (.int (zi ((p0 + 1) + (2 * k)))), some (.int (zi zq492)), some (.int (zi z561))]) (S' := []) rfl ?_
                                refine gz_s 1 (pc' := 245) (L' := [some (.ref m), some (.int (zi mk)), some (.int (zi bg)), some (.int (zi n)), some (.int (zi z39)), some (.int (zi k)), some (.int (zi ((p0 + 1) + (2 * k)))), some (.int (zi zq492)), some (.int (zi z561))]) (S' := [.ref m]) rfl ?_
                                refine gs_gtr rfl (by decide) rfl sq563.1 tm rfl rfl rfl (fun c578 ec578 tc578 => ?_)
                                refine gz_s 2 (pc' := 252) (L' := [some (.ref m), some (.int (zi mk)), some (.int (zi bg)), some (.int (zi n)), some (.int (zi z39)), some (.int (zi k)), some (.int (zi ((p0 + 1) + (2 * k)))), some (.int (zi zq492)), some (.int (zi z561))]) (S' := [.int (zi zq492), .int (zi k), .ref c578]) rfl ?_
                                have hl579 : 3 ≤ hq563.2.2.2.1 c578 ∧ hq563.2.2.2.1 c578 ≤ 3 := gJ.rowl (G := gGG) sq563.1 tc578 rfl
                                refine gs_ast rfl (by decide) sq563 tc578 rfl rfl rfl (by decide) (fun _ => rfl) (by omega) (by omega) (fun _ => (by decide : (25999 : Nat) ∈ ([1005, 1007, 1024, 1039, 1041, 1042, 1043, 1044, 1045, 1046, 1047, 1048, 20999, 21999, 22999, 23999, 24999, 25999] : List Nat))) (by omega) (by omega) (fun h580 sh580 eh580 fh580 => ?_)
                                have pr581 := gPi.pt fh580 tc578 (by decide) pr575
                                have pr582 := gPic.pt fh580 tc578 (by decide) pr576
                                have s583 := (fh580 m 5 (fun q => absurd (((tm).symm.trans (congrArg ty q.1)).trans tc578) (by decide))).trans s564
                                have s584 := (fh580 m 6 (fun q => absurd (((tm).symm.trans (congrArg ty q.1)).trans tc578) (by decide))).trans s565
                                have s585 := (fh580 m 3 (fun q => absurd (((tm).symm.trans (congrArg ty q.1)).trans tc578) (by decide))).trans s566
                                have s586 := (fh580 m 16 (fun q => absurd (((tm).symm.trans (congrArg ty q.1)).trans tc578) (by decide))).trans s567
                                have s587 := (fh580 m 18 (fun q => absurd (((tm).symm.trans (congrArg ty q.1)).trans tc578) (by decide))).trans s568
                                have s588 := (fh580 m 19 (fun q => absurd (((tm).symm.trans (congrArg ty q.1)).trans tc578) (by decide))).trans s569
                                have s589 := (fh580 m 21 (fun q => absurd (((tm).symm.trans (congrArg ty q.1)).trans tc578) (by decide))).trans s570
                                have s590 := (fh580 m 22 (fun q => absurd (((tm).symm.trans (congrArg ty q.1)).trans tc578) (by decide))).trans s571
                                have s591 := (fh580 m 20 (fun q => absurd (((tm).symm.trans (congrArg ty q.1)).trans tc578) (by decide))).trans s572
                                have s592 := (fh580 m 4 (fun q => absurd (((tm).symm.trans (congrArg ty q.1)).trans tc578) (by decide))).trans s573
                                have s593 := (fh580 m 25 (fun q => absurd (((tm).symm.trans (congrArg ty q.1)).trans tc578) (by decide))).trans s574
                                have s594 := (fh580 m 7 (fun q => absurd (((tm).symm.trans (congrArg ty q.1)).trans tc578) (by decide))).trans efq563_0
                                have s595 := (fh580 m 40 (fun q => absurd (((tm).symm.trans (congrArg ty q.1)).trans tc578) (by decide))).trans ec578
                                have pr596 := gEl.set (i := k) (z := zq492) uq tc578 (by decide) eh580 (by omega) (by omega)
                                refine gz_s 1 (pc' := 254) (L' := [some (.ref m), some (.int (zi mk)), some (.int (zi bg)), some (.int (zi n)), some (.int (zi z39)), some (.int (zi k)), some (.int (zi ((p0 + 1) + (2 * k)))), some (.int (zi zq492)), some (.int (zi z561))]) (S' := [.ref m]) rfl ?_
                                refine gs_gtr rfl (by decide) rfl sh580.1 tm rfl rfl rfl (fun c597 ec597 tc597 => ?_)
                                refine gz_s 3 (pc' := 263) (L' := [some (.ref m), some (.int (zi mk)), some (.int (zi bg)), some (.int (zi n)), some (.int (zi z39)), some (.int (zi k)), some (.int (zi ((p0 + 1) + (2 * k)))), some (.int (zi zq492)), some (.int (zi z561))]) (S' := [.int (zi 16), .int (zi z561), .int (zi zq492), .ref c597]) rfl ?_
                                refine gy_div rfl (by decide) (by omega) (by omega) ?_
                                have hl598 : 3 ≤ h580.2.2.2.1 c597 ∧ h580.2.2.2.1 c597 ≤ 3 := gJ.rowl (G := gGG) sh580.1 tc597 rfl
                                refine gs_ast rfl (by decide) sh580 tc597 rfl rfl rfl (by decide) (fun _ => rfl) (by omega) (by omega) (fun _ => (by decide : (21999 : Nat) ∈ ([1005, 1007, 1024, 1039, 1041, 1042, 1043, 1044, 1045, 1046, 1047, 1048, 20999, 21999, 22999, 23999, 24999, 25999] : List Nat))) (by omega) (by omega) (fun h599 sh599 eh599 fh599 => ?_)
                                have pr600 := gPi.pt fh599 tc597 (by decide) pr581
                                have pr601 := gPic.pt fh599 tc597 (by decide) pr582
                                have pr602 := gEl.pt fh599 tc597 (by decide) pr596
                                have s603 := (fh599 m 5 (fun q => absurd (((tm).symm.trans (congrArg ty q.1)).trans tc597) (by decide))).trans s583
                                have s604 := (fh599 m 6 (fun q => absurd (((tm).symm.trans (congrArg ty q.1)).trans tc597) (by decide))).trans s584
                                have s605 := (fh599 m 3 (fun q => absurd (((tm).symm.trans (congrArg ty q.1)).trans tc597) (by decide))).trans s585
                                have s606 := (fh599 m 16 (fun q => absurd (((tm).symm.trans (congrArg ty q.1)).trans tc597) (by decide))).trans s586
                                have s607 := (fh599 m 18 (fun q => absurd (((tm).symm.trans (congrArg ty q.1)).trans tc597) (by decide))).trans s587
                                have s608 := (fh599 m 19 (fun q => absurd (((tm).symm.trans (congrArg ty q.1)).trans tc597) (by decide))).trans s588
                                have s609 := (fh599 m 21 (fun q => absurd (((tm).symm.trans (congrArg ty q.1)).trans tc597) (by decide))).trans s589
                                have s610 := (fh599 m 22 (fun q => absurd (((tm).symm.trans (congrArg ty q.1)).trans tc597) (by decide))).trans s590
                                have s611 := (fh599 m 20 (fun q => absurd (((tm).symm.trans (congrArg ty q.1)).trans tc597) (by decide))).trans s591
                                have s612 := (fh599 m 4 (fun q => absurd (((tm).symm.trans (congrArg ty q.1)).trans tc597) (by decide))).trans s592
                                have s613 := (fh599 m 25 (fun q => absurd (((tm).symm.trans (congrArg ty q.1)).trans tc597) (by decide))).trans s593
                                have s614 := (fh599 m 7 (fun q => absurd (((tm).symm.trans (congrArg ty q.1)).trans tc597) (by decide))).trans s594
                                have s615 := (fh599 m 40 (fun q => absurd (((tm).symm.trans (congrArg ty q.1)).trans tc597) (by decide))).trans s595
                                have s616 := (fh599 m 35 (fun q => absurd (((tm).symm.trans (congrArg ty q.1)).trans tc597) (by decide))).trans ec597
                                have pr617 := gEl.set (i := zq492) (z := z561 / 16) uq tc597 (by decide) eh599 (by omega) (by omega)
                                refine gz_s 1 (pc' := 266) (L' := [some (.ref m), some (.int (zi mk)), some (.int (zi bg)), some (.int (zi n)), some (.int (zi z39)), some (.int (zi k)), some (.int (zi ((p0 + 1) + (2 * k)))), some (.int (zi zq492)), some (.int (zi z561))]) (S' := [.ref m]) rfl ?_
                                refine gs_gtr rfl (by decide) rfl sh599.1 tm rfl rfl rfl (fun c618 ec618 tc618 => ?_)
                                refine gz_s 4 (pc' := 276) (L' := [some (.ref m), some (.int (zi mk)), some (.int (zi bg)), some (.int (zi n)), some (.int (zi z39)), some (.int (zi k)), some (.int (zi ((p0 + 1) + (2 * k)))), some (.int (zi zq492)), some (.int (zi z561))]) (S' := [.int (zi 16), .int (zi z561), .int (zi 4), .int (zi zq492), .ref c618]) rfl ?_
                                refine gy_rem rfl (by decide) (by omega) (by omega) ?_
                                refine gy_s 1 (pc' := 278) (L' := [some (.ref m), some (.int (zi mk)), some (.int (zi bg)), some (.int (zi n)), some (.int (zi z39)), some (.int (zi k)), some (.int (zi ((p0 + 1) + (2 * k)))), some (.int (zi zq492)), some (.int (zi z561))]) (S' := [.int ((zi 4) + (zi (z561 % 16))), .int (zi zq492), .ref c618]) (L2 := [some (.ref m), some (.int (zi mk)), some (.int (zi bg)), some (.int (zi n)), some (.int (zi z39)), some (.int (zi k)), some (.int (zi ((p0 + 1) + (2 * k)))), some (.int (zi zq492)), some (.int (zi z561))]) (S2 := [.int (zi (4 + (z561 % 16))), .int (zi zq492), .ref c618]) rfl (by simp only [zi_add, zi_sub, zi_mul, zi_neg, zi_and1, zi_and7, zi_and15, zi_and31, zi_and255]) (by simp only [zi_add, zi_sub, zi_mul, zi_neg, zi_and1, zi_and7, zi_and15, zi_and31, zi_and255]) ?_
                                have hl619 : 3 ≤ h599.2.2.2.1 c618 ∧ h599.2.2.2.1 c618 ≤ 3 := gJ.rowl (G := gGG) sh599.1 tc618 rfl
                                refine gs_ast rfl (by decide) sh599 tc618 rfl rfl rfl (by decide) (fun _ => rfl) (by omega) (by omega) (fun _ => (by decide : (22999 : Nat) ∈ ([1005, 1007, 1024, 1039, 1041, 1042, 1043, 1044, 1045, 1046, 1047, 1048, 20999, 21999, 22999, 23999, 24999, 25999] : List Nat))) (by omega) (by omega) (fun h620 sh620 eh620 fh620 => ?_)
                                have pr621 := gPi.pt fh620 tc618 (by decide) pr600
                                have pr622 := gPic.pt fh620 tc618 (by decide) pr601
                                have pr623 := gEl.pt fh620 tc618 (by decide) pr602
                                have pr624 := gEl.pt fh620 tc618 (by decide) pr617
                                have s625 := (fh620 m 5 (fun q => absurd (((tm).symm.trans (congrArg ty q.1)).trans tc618) (by decide))).trans s603
                                have s626 := (fh620 m 6 (fun q => absurd (((tm).symm.trans (congrArg ty q.1)).trans tc618) (by decide))).trans s604
                                have s627 := (fh620 m 3 (fun q => absurd (((tm).symm.trans (congrArg ty q.1)).trans tc618) (by decide))).trans s605
                                have s628 := (fh620 m 16 (fun q => absurd (((tm).symm.trans (congrArg ty q.1)).trans tc618) (by decide))).trans s606
                                have s629 := (fh620 m 18 (fun q => absurd (((tm).symm.trans (congrArg ty q.1)).trans tc618) (by decide))).trans s607
                                have s630 := (fh620 m 19 (fun q => absurd (((tm).symm.trans (congrArg ty q.1)).trans tc618) (by decide))).trans s608
                                have s631 := (fh620 m 21 (fun q => absurd (((tm).symm.trans (congrArg ty q.1)).trans tc618) (by decide))).trans s609
                                have s632 := (fh620 m 22 (fun q => absurd (((tm).symm.trans (congrArg ty q.1)).trans tc618) (by decide))).trans s610
                                have s633 := (fh620 m 20 (fun q => absurd (((tm).symm.trans (congrArg ty q.1)).trans tc618) (by decide))).trans s611
                                have s634 := (fh620 m 4 (fun q => absurd (((tm).symm.trans (congrArg ty q.1)).trans tc618) (by decide))).trans s612
                                have s635 := (fh620 m 25 (fun q => absurd (((tm).symm.trans (congrArg ty q.1)).trans tc618) (by decide))).trans s613
                                have s636 := (fh620 m 7 (fun q => absurd (((tm).symm.trans (congrArg ty q.1)).trans tc618) (by decide))).trans s614
                                have s637 := (fh620 m 40 (fun q => absurd (((tm).symm.trans (congrArg ty q.1)).trans tc618) (by decide))).trans s615
                                have s638 := (fh620 m 35 (fun q => absurd (((tm).symm.trans (congrArg ty q.1)).trans tc618) (by decide))).trans s616
                                have s639 := (fh620 m 36 (fun q => absurd (((tm).symm.trans (congrArg ty q.1)).trans tc618) (by decide))).trans ec618
                                have pr640 := gEl.set (i := zq492) (z := 4 + (z561 % 16)) uq tc618 (by decide) eh620 (by omega) (by omega)
                                have hsb641 : gSbc ty fq563_0 (k + 1) bs h620 := gSbc.step (b := zq492) (v1 := z561 / 16) (v2 := 4 + (z561 % 16)) uq tc578 tc597 tc618 fh580 eh580 fh599 eh599 fh620 eh620 (by omega) (by omega) (by omega) pr577
                                refine gy_s 2 (pc' := 102) (L' := [some (.ref m), some (.int (zi mk)), some (.int (zi bg)), some (.int (zi n)), some (.int (zi z39)), some (.int ((zi k) + zi 1)), some (.int (zi ((p0 + 1) + (2 * k)))), some (.int (zi zq492)), some (.int (zi z561))]) (S' := []) (L2 := [some (.ref m), some (.int (zi mk)), some (.int (zi bg)), some (.int (zi n)), some (.int (zi z39)), some (.int (zi (k + 1))), some (.int (zi ((p0 + 1) + (2 * k)))), some (.int (zi zq492)), some (.int (zi z561))]) (S2 := []) rfl (by simp only [zi_add, zi_sub, zi_mul, zi_neg, zi_and1, zi_and7, zi_and15, zi_and31, zi_and255]) (by simp only [zi_add, zi_sub, zi_mul, zi_neg, zi_and1, zi_and7, zi_and15, zi_and31, zi_and255]) ?_
                                exact gz_wk (ihlp83 h620 (k + 1) fq563_0 (by omega) sh620 (by omega) (by omega) (by omega) s625 s626 s627 s628 s629 s630 s631 s632 s633 s634 s636 pr621 pr622 hsb641) (gLw.s (gLw.s (gLw.s (gLw.s (gLw.s (gLw.s (gLw.n (gLw.n (gLw.n gLw.z)))))))))
                              · refine gy_icF rfl (by decide) (by decide) (by omega) (by omega) hc562 ?_
                                refine gz_s 2 (pc' := 226) (L' := [some (.ref m), some (.int (zi mk)), some (.int (zi bg)), some (.int (zi n)), some (.int (zi z39)), some (.int (zi k)), some (.int (zi ((p0 + 1) + (2 * k)))), some (.int (zi zq492)), some (.int (zi z561))]) (S' := [.int (zi 16), .int (zi z561), .ref m]) rfl ?_
                                refine gy_rem rfl (by decide) (by omega) (by omega) ?_
                                refine gz_s 1 (pc' := 228) (L' := [some (.ref m), some (.int (zi mk)), some (.int (zi bg)), some (.int (zi n)), some (.int (zi z39)), some (.int (zi k)), some (.int (zi ((p0 + 1) + (2 * k)))), some (.int (zi zq492)), some (.int (zi z561))]) (S' := [.int (zi 4), .int (zi (z561 % 16)), .ref m]) rfl ?_
                                by_cases hc642 : (4 : Int) ≤ z561 % 16
                                · refine gy_icT (pc' := 235) rfl (by decide) (by decide) (by omega) (by omega) hc642 ?_
                                  refine gy_s 4 (pc' := 240) (L' := [some (.ref m), some (.int (zi mk)), some (.int (zi bg)), some (.int (zi n)), some (.int (zi z39)), some (.int (zi k)), some (.int (zi ((p0 + 1) + (2 * k)))), some (.int (zi zq492)), some (.int (zi z561))]) (S' := [.int ((zi ((p0 + 1) + (2 * k))) + (zi 1)), .int (zi 0), .ref m]) (L2 := [some (.ref m), some (.int (zi mk)), some (.int (zi bg)), some (.int (zi n)), some (.int (zi z39)), some (.int (zi k)), some (.int (zi ((p0 + 1) + (2 * k)))), some (.int (zi zq492)), some (.int (zi z561))]) (S2 := [.int (zi (((p0 + 1) + (2 * k)) + 1)), .int (zi 0), .ref m]) rfl (by simp only [zi_add, zi_sub, zi_mul, zi_neg, zi_and1, zi_and7, zi_and15, zi_and31, zi_and255]) (by simp only [zi_add, zi_sub, zi_mul, zi_neg, zi_and1, zi_and7, zi_and15, zi_and31, zi_and255]) ?_
                                  refine gz_call rfl (by decide) rfl (by decide) (by decide) (gcal_of rfl rfl rfl (Nat.le_of_ble_eq_true rfl) (gJ.recv (G := gGG) sq545.1 tm rfl rfl)) (mm_must _ sq545.1 m tm 0 (by omega) (((p0 + 1) + (2 * k)) + 1) (by omega) fq545_0 efq545_0 (by omega)) (fun q643 _ wq643 => ?_)
                                  obtain ⟨pq643, oq643, hq643⟩ := q643
                                  obtain ⟨xq643, zq643, fq643_0, gq643, aq643, bq643, efq643_0, afq643_0, bfq643_0, uq643_0, uq643_1⟩ := wq643
                                  refine ⟨_, gq643, ?_⟩
                                  show gz gPP gGG gcn _ _ 243 [some (.ref m), some (.int (zi mk)), some (.int (zi bg)), some (.int (zi n)), some (.int (zi z39)), some (.int (zi k)), some (.int (zi ((p0 + 1) + (2 * k)))), some (.int (zi zq492)), some (.int (zi z561))] [.int (zi zq643)] hq643 _
                                  have sq643 := gSs.tr sq545 xq643 (by decide)
                                  have s644 := (xq643.2.2.2.2.2 m 5 (by rw [tm]; decide)).trans s546
                                  have s645 := (xq643.2.2.2.2.2 m 6 (by rw [tm]; decide)).trans s547
                                  have s646 := (xq643.2.2.2.2.2 m 3 (by rw [tm]; decide)).trans s548
                                  have s647 := (xq643.2.2.2.2.2 m 16 (by rw [tm]; decide)).trans s549
                                  have s648 := (xq643.2.2.2.2.2 m 18 (by rw [tm]; decide)).trans s550
                                  have s649 := (xq643.2.2.2.2.2 m 19 (by rw [tm]; decide)).trans s551
                                  have s650 := (xq643.2.2.2.2.2 m 21 (by rw [tm]; decide)).trans s552
                                  have s651 := (xq643.2.2.2.2.2 m 22 (by rw [tm]; decide)).trans s553
                                  have s652 := (xq643.2.2.2.2.2 m 20 (by rw [tm]; decide)).trans s554
                                  have s653 := (xq643.2.2.2.2.2 m 4 (by rw [tm]; decide)).trans s555
                                  have s654 := (xq643.2.2.2.2.2 m 25 (by rw [tm]; decide)).trans s556
                                  have pr655 := gPi.fr xq643.2 (by decide) pr557
                                  have pr656 := gPic.fr xq643.2 (by decide) pr558
                                  have pr657 := gSbc.fr xq643.2 (by decide) pr559
                                  refine gz_s 1 (pc' := 244) (L' := [some (.ref m), some (.int (zi mk)), some (.int (zi bg)), some (.int (zi n)), some (.int (zi z39)), some (.int (zi k)), some (.int (zi ((p0 + 1) + (2 * k)))), some (.int (zi zq492)), some (.int (zi z561))]) (S' := []) rfl ?_
                                  refine gz_s 1 (pc' := 245) (L' := [some (.ref m), some (.int (zi mk)), some (.int (zi bg)), some (.int (zi n)), some (.int (zi z39)), some (.int (zi k)), some (.int (zi ((p0 + 1) + (2 * k)))), some (.int (zi zq492)), some (.int (zi z561))]) (S' := [.ref m]) rfl ?_
                                  refine gs_gtr rfl (by decide) rfl sq643.1 tm rfl rfl rfl (fun c658 ec658 tc658 => ?_)
                                  refine gz_s 2 (pc' := 252) (L' := [some (.ref m), some (.int (zi mk)), some (.int (zi bg)), some (.int (zi n)), some (.int (zi z39)), some (.int (zi k)), some (.int (zi ((p0 + 1) + (2 * k)))), some (.int (zi zq492)), some (.int (zi z561))]) (S' := [.int (zi zq492), .int (zi k), .ref c658]) rfl ?_
                                  have hl659 : 3 ≤ hq643.2.2.2.1 c658 ∧ hq643.2.2.2.1 c658 ≤ 3 := gJ.rowl (G := gGG) sq643.1 tc658 rfl
                                  refine gs_ast rfl (by decide) sq643 tc658 rfl rfl rfl (by decide) (fun _ => rfl) (by omega) (by omega) (fun _ => (by decide : (25999 : Nat) ∈ ([1005, 1007, 1024, 1039, 1041, 1042, 1043, 1044, 1045, 1046, 1047, 1048, 20999, 21999, 22999, 23999, 24999, 25999] : List Nat))) (by omega) (by omega) (fun h660 sh660 eh660 fh660 => ?_)
                                  have pr661 := gPi.pt fh660 tc658 (by decide) pr655
                                  have pr662 := gPic.pt fh660 tc658 (by decide) pr656
                                  have s663 := (fh660 m 5 (fun q => absurd (((tm).symm.trans (congrArg ty q.1)).trans tc658) (by decide))).trans s644
                                  have s664 := (fh660 m 6 (fun q => absurd (((tm).symm.trans (congrArg ty q.1)).trans tc658) (by decide))).trans s645
                                  have s665 := (fh660 m 3 (fun q => absurd (((tm).symm.trans (congrArg ty q.1)).trans tc658) (by decide))).trans s646
                                  have s666 := (fh660 m 16 (fun q => absurd (((tm).symm.trans (congrArg ty q.1)).trans tc658) (by decide))).trans s647
                                  have s667 := (fh660 m 18 (fun q => absurd (((tm).symm.trans (congrArg ty q.1)).trans tc658) (by decide))).trans s648
                                  have s668 := (fh660 m 19 (fun q => absurd (((tm).symm.trans (congrArg ty q.1)).trans tc658) (by decide))).trans s649
                                  have s669 := (fh660 m 21 (fun q => absurd (((tm).symm.trans (congrArg ty q.1)).trans tc658) (by decide))).trans s650
                                  have s670 := (fh660 m 22 (fun q => absurd (((tm).symm.trans (congrArg ty q.1)).trans tc658) (by decide))).trans s651
                                  have s671 := (fh660 m 20 (fun q => absurd (((tm).symm.trans (congrArg ty q.1)).trans tc658) (by decide))).trans s652
                                  have s672 := (fh660 m 4 (fun q => absurd (((tm).symm.trans (congrArg ty q.1)).trans tc658) (by decide))).trans s653
                                  have s673 := (fh660 m 25 (fun q => absurd (((tm).symm.trans (congrArg ty q.1)).trans tc658) (by decide))).trans s654
                                  have s674 := (fh660 m 7 (fun q => absurd (((tm).symm.trans (congrArg ty q.1)).trans tc658) (by decide))).trans efq643_0
                                  have s675 := (fh660 m 40 (fun q => absurd (((tm).symm.trans (congrArg ty q.1)).trans tc658) (by decide))).trans ec658
                                  have pr676 := gEl.set (i := k) (z := zq492) uq tc658 (by decide) eh660 (by omega) (by omega)
                                  refine gz_s 1 (pc' := 254) (L' := [some (.ref m), some (.int (zi mk)), some (.int (zi bg)), some (.int (zi n)), some (.int (zi z39)), some (.int (zi k)), some (.int (zi ((p0 + 1) + (2 * k)))), some (.int (zi zq492)), some (.int (zi z561))]) (S' := [.ref m]) rfl ?_
                                  refine gs_gtr rfl (by decide) rfl sh660.1 tm rfl rfl rfl (fun c677 ec677 tc677 => ?_)
                                  refine gz_s 3 (pc' := 263) (L' := [some (.ref m), some (.int (zi mk)), some (.int (zi bg)), some (.int (zi n)), some (.int (zi z39)), some (.int (zi k)), some (.int (zi ((p0 + 1) + (2 * k)))), some (.int (zi zq492)), some (.int (zi z561))]) (S' := [.int (zi 16), .int (zi z561), .int (zi zq492), .ref c677]) rfl ?_
                                  refine gy_div rfl (by decide) (by omega) (by omega) ?_
                                  have hl678 : 3 ≤ h660.2.2.2.1 c677 ∧ h660.2.2.2.1 c677 ≤ 3 := gJ.rowl (G := gGG) sh660.1 tc677 rfl
                                  refine gs_ast rfl (by decide) sh660 tc677 rfl rfl rfl (by decide) (fun _ => rfl) (by omega) (by omega) (fun _ => (by decide : (21999 : Nat) ∈ ([1005, 1007, 1024, 1039, 1041, 1042, 1043, 1044, 1045, 1046, 1047, 1048, 20999, 21999, 22999, 23999, 24999, 25999] : List Nat))) (by omega) (by omega) (fun h679 sh679 eh679 fh679 => ?_)
                                  have pr680 := gPi.pt fh679 tc677 (by decide) pr661
                                  have pr681 := gPic.pt fh679 tc677 (by decide) pr662
                                  have pr682 := gEl.pt fh679 tc677 (by decide) pr676
                                  have s683 := (fh679 m 5 (fun q => absurd (((tm).symm.trans (congrArg ty q.1)).trans tc677) (by decide))).trans s663
                                  have s684 := (fh679 m 6 (fun q => absurd (((tm).symm.trans (congrArg ty q.1)).trans tc677) (by decide))).trans s664
                                  have s685 := (fh679 m 3 (fun q => absurd (((tm).symm.trans (congrArg ty q.1)).trans tc677) (by decide))).trans s665
                                  have s686 := (fh679 m 16 (fun q => absurd (((tm).symm.trans (congrArg ty q.1)).trans tc677) (by decide))).trans s666
                                  have s687 := (fh679 m 18 (fun q => absurd (((tm).symm.trans (congrArg ty q.1)).trans tc677) (by decide))).trans s667
                                  have s688 := (fh679 m 19 (fun q => absurd (((tm).symm.trans (congrArg ty q.1)).trans tc677) (by decide))).trans s668
                                  have s689 := (fh679 m 21 (fun q => absurd (((tm).symm.trans (congrArg ty q.1)).trans tc677) (by decide))).trans s669
                                  have s690 := (fh679 m 22 (fun q => absurd (((tm).symm.trans (congrArg ty q.1)).trans tc677) (by decide))).trans s670
                                  have s691 := (fh679 m 20 (fun q => absurd (((tm).symm.trans (congrArg ty q.1)).trans tc677) (by decide))).trans s671
                                  have s692 := (fh679 m 4 (fun q => absurd (((tm).symm.trans (congrArg ty q.1)).trans tc677) (by decide))).trans s672
                                  have s693 := (fh679 m 25 (fun q => absurd (((tm).symm.trans (congrArg ty q.1)).trans tc677) (by decide))).trans s673
                                  have s694 := (fh679 m 7 (fun q => absurd (((tm).symm.trans (congrArg ty q.1)).trans tc677) (by decide))).trans s674
                                  have s695 := (fh679 m 40 (fun q => absurd (((tm).symm.trans (congrArg ty q.1)).trans tc677) (by decide))).trans s675
                                  have s696 := (fh679 m 35 (fun q => absurd (((tm).symm.trans (congrArg ty q.1)).trans tc677) (by decide))).trans ec677
                                  have pr697 := gEl.set (i := zq492) (z := z561 / 16) uq tc677 (by decide) eh679 (by omega) (by omega)
                                  refine gz_s 1 (pc' := 266) (L' := [some (.ref m), some (.int (zi mk)), some (.int (zi bg)), some (.int (zi n)), some (.int (zi z39)), some (.int (zi k)), some (.int (zi ((p0 + 1) + (2 * k)))), some (.int (zi zq492)), some (.int (zi z561))]) (S' := [.ref m]) rfl ?_
                                  refine gs_gtr rfl (by decide) rfl sh679.1 tm rfl rfl rfl (fun c698 ec698 tc698 => ?_)
                                  refine gz_s 4 (pc' := 276) (L' := [some (.ref m), some (.int (zi mk)), some (.int (zi bg)), some (.int (zi n)), some (.int (zi z39)), some (.int (zi k)), some (.int (zi ((p0 + 1) + (2 * k)))), some (.int (zi zq492)), some (.int (zi z561))]) (S' := [.int (zi 16), .int (zi z561), .int (zi 4), .int (zi zq492), .ref c698]) rfl ?_
                                  refine gy_rem rfl (by decide) (by omega) (by omega) ?_
                                  refine gy_s 1 (pc' := 278) (L' := [some (.ref m), some (.int (zi mk)), some (.int (zi bg)), some (.int (zi n)), some (.int (zi z39)), some (.int (zi k)), some (.int (zi ((p0 + 1) + (2 * k)))), some (.int (zi zq492)), some (.int (zi z561))]) (S' := [.int ((zi 4) + (zi (z561 % 16))), .int (zi zq492), .ref c698]) (L2 := [some (.ref m), some (.int (zi mk)), some (.int (zi bg)), some (.int (zi n)), some (.int (zi z39)), some (.int (zi k)), some (.int (zi ((p0 + 1) + (2 * k)))), some (.int (zi zq492)), some (.int (zi z561))]) (S2 := [.int (zi (4 + (z561 % 16))), .int (zi zq492), .ref c698]) rfl (by simp only [zi_add, zi_sub, zi_mul, zi_neg, zi_and1, zi_and7, zi_and15, zi_and31, zi_and255]) (by simp only [zi_add, zi_sub, zi_mul, zi_neg, zi_and1, zi_and7, zi_and15, zi_and31, zi_and255]) ?_
                                  have hl699 : 3 ≤ h679.2.2.2.1 c698 ∧ h679.2.2.2.1 c698 ≤ 3 := gJ.rowl (G := gGG) sh679.1 tc698 rfl
                                  refine gs_ast rfl (by decide) sh679 tc698 rfl rfl rfl (by decide) (fun _ => rfl) (by omega) (by omega) (fun _ => (by decide : (22999 : Nat) ∈ ([1005, 1007, 1024, 1039, 1041, 1042, 1043, 1044, 1045, 1046, 1047, 1048, 20999, 21999, 22999, 23999, 24999, 25999] : List Nat))) (by omega) (by omega) (fun h700 sh700 eh700 fh700 => ?_)
                                  have pr701 := gPi.pt fh700 tc698 (by decide) pr680
                                  have pr702 := gPic.pt fh700 tc698 (by decide) pr681
                                  have pr703 := gEl.pt fh700 tc698 (by decide) pr682
                                  have pr704 := gEl.pt fh700 tc698 (by decide) pr697
                                  have s705 := (fh700 m 5 (fun q => absurd (((tm).symm.trans (congrArg ty q.1)).trans tc698) (by decide))).trans s683
                                  have s706 := (fh700 m 6 (fun q => absurd (((tm).symm.trans (congrArg ty q.1)).trans tc698) (by decide))).trans s684
                                  have s707 := (fh700 m 3 (fun q => absurd (((tm).symm.trans (congrArg ty q.1)).trans tc698) (by decide))).trans s685
                                  have s708 := (fh700 m 16 (fun q => absurd (((tm).symm.trans (congrArg ty q.1)).trans tc698) (by decide))).trans s686
                                  have s709 := (fh700 m 18 (fun q => absurd (((tm).symm.trans (congrArg ty q.1)).trans tc698) (by decide))).trans s687
                                  have s710 := (fh700 m 19 (fun q => absurd (((tm).symm.trans (congrArg ty q.1)).trans tc698) (by decide))).trans s688
                                  have s711 := (fh700 m 21 (fun q => absurd (((tm).symm.trans (congrArg ty q.1)).trans tc698) (by decide))).trans s689
                                  have s712 := (fh700 m 22 (fun q => absurd (((tm).symm.trans (congrArg ty q.1)).trans tc698) (by decide))).trans s690
                                  have s713 := (fh700 m 20 (fun q => absurd (((tm).symm.trans (congrArg ty q.1)).trans tc698) (by decide))).trans s691
                                  have s714 := (fh700 m 4 (fun q => absurd (((tm).symm.trans (congrArg ty q.1)).trans tc698) (by decide))).trans s692
                                  have s715 := (fh700 m 25 (fun q => absurd (((tm).symm.trans (congrArg ty q.1)).trans tc698) (by decide))).trans s693
                                  have s716 := (fh700 m 7 (fun q => absurd (((tm).symm.trans (congrArg ty q.1)).trans tc698) (by decide))).trans s694
                                  have s717 := (fh700 m 40 (fun q => absurd (((tm).symm.trans (congrArg ty q.1)).trans tc698) (by decide))).trans s695
                                  have s718 := (fh700 m 35 (fun q => absurd (((tm).symm.trans (congrArg ty q.1)).trans tc698) (by decide))).trans s696
                                  have s719 := (fh700 m 36 (fun q => absurd (((tm).symm.trans (congrArg ty q.1)).trans tc698) (by decide))).trans ec698
                                  have pr720 := gEl.set (i := zq492) (z := 4 + (z561 % 16)) uq tc698 (by decide) eh700 (by omega) (by omega)
                                  have hsb721 : gSbc ty fq643_0 (k + 1) bs h700 := gSbc.step (b := zq492) (v1 := z561 / 16) (v2 := 4 + (z561 % 16)) uq tc658 tc677 tc698 fh660 eh660 fh679 eh679 fh700 eh700 (by omega) (by omega) (by omega) pr657
                                  refine gy_s 2 (pc' := 102) (L' := [some (.ref m), some (.int (zi mk)), some (.int (zi bg)), some (.int (zi n)), some (.int (zi z39)), some (.int ((zi k) + zi 1)), some (.int (zi ((p0 + 1) + (2 * k)))), some (.int (zi zq492)), some (.int (zi z561))]) (S' := []) (L2 := [some (.ref m), some (.int (zi mk)), some (.int (zi bg)), some (.int (zi n)), some (.int (zi z39)), some (.int (zi (k + 1))), some (.int (zi ((p0 + 1) + (2 * k)))), some (.int (zi zq492)), some (.int (zi z561))]) (S2 := []) rfl (by simp only [zi_add, zi_sub, zi_mul, zi_neg, zi_and1, zi_and7, zi_and15, zi_and31, zi_and255]) (by simp only [zi_add, zi_sub, zi_mul, zi_neg, zi_and1, zi_and7, zi_and15, zi_and31, zi_and255]) ?_
                                  exact gz_wk (ihlp83 h700 (k + 1) fq643_0 (by omega) sh700 (by omega) (by omega) (by omega) s705 s706 s707 s708 s709 s710 s711 s712 s713 s714 s716 pr701 pr702 hsb721) (gLw.s (gLw.s (gLw.s (gLw.s (gLw.s (gLw.s (gLw.n (gLw.n (gLw.n gLw.z)))))))))
                                · refine gy_icF rfl (by decide) (by decide) (by omega) (by omega) hc642 ?_
                                  refine gy_s 5 (pc' := 240) (L' := [some (.ref m), some (.int (zi mk)), some (.int (zi bg)), some (.int (zi n)), some (.int (zi z39)), some (.int (zi k)), some (.int (zi ((p0 + 1) + (2 * k)))), some (.int (zi zq492)), some (.int (zi z561))]) (S' := [.int ((zi ((p0 + 1) + (2 * k))) + (zi 1)), .int (zi 1), .ref m]) (L2 := [some (.ref m), some (.int (zi mk)), some (.int (zi bg)), some (.int (zi n)), some (.int (zi z39)), some (.int (zi k)), some (.int (zi ((p0 + 1) + (2 * k)))), some (.int (zi zq492)), some (.int (zi z561))]) (S2 := [.int (zi (((p0 + 1) + (2 * k)) + 1)), .int (zi 1), .ref m]) rfl (by simp only [zi_add, zi_sub, zi_mul, zi_neg, zi_and1, zi_and7, zi_and15, zi_and31, zi_and255]) (by simp only [zi_add, zi_sub, zi_mul, zi_neg, zi_and1, zi_and7, zi_and15, zi_and31, zi_and255]) ?_
                                  refine gz_call rfl (by decide) rfl (by decide) (by decide) (gcal_of rfl rfl rfl (Nat.le_of_ble_eq_true rfl) (gJ.recv (G := gGG) sq545.1 tm rfl rfl)) (mm_must _ sq545.1 m tm 1 (by omega) (((p0 + 1) + (2 * k)) + 1) (by omega) fq545_0 efq545_0 (by omega)) (fun q722 _ wq722 => ?_)
                                  obtain ⟨pq722, oq722, hq722⟩ := q722
                                  obtain ⟨xq722, zq722, fq722_0, gq722, aq722, bq722, efq722_0, afq722_0, bfq722_0, uq722_0, uq722_1⟩ := wq722
                                  refine ⟨_, gq722, ?_⟩
                                  show gz gPP gGG gcn _ _ 243 [some (.ref m), some (.int (zi mk)), some (.int (zi bg)), some (.int (zi n)), some (.int (zi z39)), some (.int (zi k)), some (.int (zi ((p0 + 1) + (2 * k)))), some (.int (zi zq492)), some (.int (zi z561))] [.int (zi zq722)] hq722 _
                                  have sq722 := gSs.tr sq545 xq722 (by decide)
                                  have s723 := (xq722.2.2.2.2.2 m 5 (by rw [tm]; decide)).trans s546
                                  have s724 := (xq722.2.2.2.2.2 m 6 (by rw [tm]; decide)).trans s547
                                  have s725 := (xq722.2.2.2.2.2 m 3 (by rw [tm]; decide)).trans s548
                                  have s726 := (xq722.2.2.2.2.2 m 16 (by rw [tm]; decide)).trans s549
                                  have s727 := (xq722.2.2.2.2.2 m 18 (by rw [tm]; decide)).trans s550
                                  have s728 := (xq722.2.2.2.2.2 m 19 (by rw [tm]; decide)).trans s551
                                  have s729 := (xq722.2.2.2.2.2 m 21 (by rw [tm]; decide)).trans s552
                                  have s730 := (xq722.2.2.2.2.2 m 22 (by rw [tm]; decide)).trans s553
                                  have s731 := (xq722.2.2.2.2.2 m 20 (by rw [tm]; decide)).trans s554
                                  have s732 := (xq722.2.2.2.2.2 m 4 (by rw [tm]; decide)).trans s555
                                  have s733 := (xq722.2.2.2.2.2 m 25 (by rw [tm]; decide)).trans s556
                                  have pr734 := gPi.fr xq722.2 (by decide) pr557
                                  have pr735 := gPic.fr xq722.2 (by decide) pr558
                                  have pr736 := gSbc.fr xq722.2 (by decide) pr559
                                  refine gz_s 1 (pc' := 244) (L' := [some (.ref m), some (.int (zi mk)), some (.int (zi bg)), some (.int (zi n)), some (.int (zi z39)), some (.int (zi k)), some (.int (zi ((p0 + 1) + (2 * k)))), some (.int (zi zq492)), some (.int (zi z561))]) (S' := []) rfl ?_
                                  refine gz_s 1 (pc' := 245) (L' := [some (.ref m), some (.int (zi mk)), some (.int (zi bg)), some (.int (zi n)), some (.int (zi z39)), some (.int (zi k)), some (.int (zi ((p0 + 1) + (2 * k)))), some (.int (zi zq492)), some (.int (zi z561))]) (S' := [.ref m]) rfl ?_
                                  refine gs_gtr rfl (by decide) rfl sq722.1 tm rfl rfl rfl (fun c737 ec737 tc737 => ?_)
                                  refine gz_s 2 (pc' := 252) (L' := [some (.ref m), some (.int (zi mk)), some (.int (zi bg)), some (.int (zi n)), some (.int (zi z39)), some (.int (zi k)), some (.int (zi ((p0 + 1) + (2 * k)))), some (.int (zi zq492)), some (.int (zi z561))]) (S' := [.int (zi zq492), .int (zi k), .ref c737]) rfl ?_
                                  have hl738 : 3 ≤ hq722.2.2.2.1 c737 ∧ hq722.2.2.2.1 c737 ≤ 3 := gJ.rowl (G := gGG) sq722.1 tc737 rfl
                                  refine gs_ast rfl (by decide) sq722 tc737 rfl rfl rfl (by decide) (fun _ => rfl) (by omega) (by omega) (fun _ => (by decide : (25999 : Nat) ∈ ([1005, 1007, 1024, 1039, 1041, 1042, 1043, 1044, 1045, 1046, 1047, 1048, 20999, 21999, 22999, 23999, 24999, 25999] : List Nat))) (by omega) (by omega) (fun h739 sh739 eh739 fh739 => ?_)
                                  have pr740 := gPi.pt fh739 tc737 (by decide) pr734
                                  have pr741 := gPic.pt fh739 tc737 (by decide) pr735
                                  have s742 := (fh739 m 5 (fun q => absurd (((tm).symm.trans (congrArg ty q.1)).trans tc737) (by decide))).trans s723
                                  have s743 := (fh739 m 6 (fun q => absurd (((tm).symm.trans (congrArg ty q.1)).trans tc737) (by decide))).trans s724
                                  have s744 := (fh739 m 3 (fun q => absurd (((tm).symm.trans (congrArg ty q.1)).trans tc737) (by decide))).trans s725
                                  have s745 := (fh739 m 16 (fun q => absurd (((tm).symm.trans (congrArg ty q.1)).trans tc737) (by decide))).trans s726
                                  have s746 := (fh739 m 18 (fun q => absurd (((tm).symm.trans (congrArg ty q.1)).trans tc737) (by decide))).trans s727
                                  have s747 := (fh739 m 19 (fun q => absurd (((tm).symm.trans (congrArg ty q.1)).trans tc737) (by decide))).trans s728
                                  have s748 := (fh739 m 21 (fun q => absurd (((tm).symm.trans (congrArg ty q.1)).trans tc737) (by decide))).trans s729
                                  have s749 := (fh739 m 22 (fun q => absurd (((tm).symm.trans (congrArg ty q.1)).trans tc737) (by decide))).trans s730
                                  have s750 := (fh739 m 20 (fun q => absurd (((tm).symm.trans (congrArg ty q.1)).trans tc737) (by decide))).trans s731
                                  have s751 := (fh739 m 4 (fun q => absurd (((tm).symm.trans (congrArg ty q.1)).trans tc737) (by decide))).trans s732
                                  have s752 := (fh739 m 25 (fun q => absurd (((tm).symm.trans (congrArg ty q.1)).trans tc737) (by decide))).trans s733
                                  have s753 := (fh739 m 7 (fun q => absurd (((tm).symm.trans (congrArg ty q.1)).trans tc737) (by decide))).trans efq722_0
                                  have s754 := (fh739 m 40 (fun q => absurd (((tm).symm.trans (congrArg ty q.1)).trans tc737) (by decide))).trans ec737
                                  have pr755 := gEl.set (i := k) (z := zq492) uq tc737 (by decide) eh739 (by omega) (by omega)
                                  refine gz_s 1 (pc' := 254) (L' := [some (.ref m), some (.int (zi mk)), some (.int (zi bg)), some (.int (zi n)), some (.int (zi z39)), some (.int (zi k)), some (.int (zi ((p0 + 1) + (2 * k)))), some (.int (zi zq492)), some (.int (zi z561))]) (S' := [.ref m]) rfl ?_
                                  refine gs_gtr rfl (by decide) rfl sh739.1 tm rfl rfl rfl (fun c756 ec756 tc756 => ?_)
                                  refine gz_s 3 (pc' := 263) (L' := [some (.ref m), some (.int (zi mk)), some (.int (zi bg)), some (.int (zi n)), some (.int (zi z39)), some (.int (zi k)), some (.int (zi ((p0 + 1) + (2 * k)))), some (.int (zi zq492)), some (.int (zi z561))]) (S' := [.int (zi 16), .int (zi z561), .int (zi zq492), .ref c756]) rfl ?_
                                  refine gy_div rfl (by decide) (by omega) (by omega) ?_
                                  have hl757 : 3 ≤ h739.2.2.2.1 c756 ∧ h739.2.2.2.1 c756 ≤ 3 := gJ.rowl (G := gGG) sh739.1 tc756 rfl
                                  refine gs_ast rfl (by decide) sh739 tc756 rfl rfl rfl (by decide) (fun _ => rfl) (by omega) (by omega) (fun _ => (by decide : (21999 : Nat) ∈ ([1005, 1007, 1024, 1039, 1041, 1042, 1043, 1044, 1045, 1046, 1047, 1048, 20999, 21999, 22999, 23999, 24999, 25999] : List Nat))) (by omega) (by omega) (fun h758 sh758 eh758 fh758 => ?_)
                                  have pr759 := gPi.pt fh758 tc756 (by decide) pr740
                                  have pr760 := gPic.pt fh758 tc756 (by decide) pr741
                                  have pr761 := gEl.pt fh758 tc756 (by decide) pr755
                                  have s762 := (fh758 m 5 (fun q => absurd (((tm).symm.trans (congrArg ty q.1)).trans tc756) (by decide))).trans s742
                                  have s763 := (fh758 m 6 (fun q => absurd (((tm).symm.trans (congrArg ty q.1)).trans tc756) (by decide))).trans s743
                                  have s764 := (fh758 m 3 (fun q => absurd (((tm).symm.trans (congrArg ty q.1)).trans tc756) (by decide))).trans s744
                                  have s765 := (fh758 m 16 (fun q => absurd (((tm).symm.trans (congrArg ty q.1)).trans tc756) (by decide))).trans s745
                                  have s766 := (fh758 m 18 (fun q => absurd (((tm).symm.trans (congrArg ty q.1)).trans tc756) (by decide))).trans s746
                                  have s767 := (fh758 m 19 (fun q => absurd (((tm).symm.trans (congrArg ty q.1)).trans tc756) (by decide))).trans s747
                                  have s768 := (fh758 m 21 (fun q => absurd (((tm).symm.trans (congrArg ty q.1)).trans tc756) (by decide))).trans s748
                                  have s769 := (fh758 m 22 (fun q => absurd (((tm).symm.trans (congrArg ty q.1)).trans tc756) (by decide))).trans s749
                                  have s770 := (fh758 m 20 (fun q => absurd (((tm).symm.trans (congrArg ty q.1)).trans tc756) (by decide))).trans s750
                                  have s771 := (fh758 m 4 (fun q => absurd (((tm).symm.trans (congrArg ty q.1)).trans tc756) (by decide))).trans s751
                                  have s772 := (fh758 m 25 (fun q => absurd (((tm).symm.trans (congrArg ty q.1)).trans tc756) (by decide))).trans s752
                                  have s773 := (fh758 m 7 (fun q => absurd (((tm).symm.trans (congrArg ty q.1)).trans tc756) (by decide))).trans s753
                                  have s774 := (fh758 m 40 (fun q => absurd (((tm).symm.trans (congrArg ty q.1)).trans tc756) (by decide))).trans s754
                                  have s775 := (fh758 m 35 (fun q => absurd (((tm).symm.trans (congrArg ty q.1)).trans tc756) (by decide))).trans ec756
                                  have pr776 := gEl.set (i := zq492) (z := z561 / 16) uq tc756 (by decide) eh758 (by omega) (by omega)
                                  refine gz_s 1 (pc' := 266) (L' := [some (.ref m), some (.int (zi mk)), some (.int (zi bg)), some (.int (zi n)), some (.int (zi z39)), some (.int (zi k)), some (.int (zi ((p0 + 1) + (2 * k)))), some (.int (zi zq492)), some (.int (zi z561))]) (S' := [.ref m]) rfl ?_
                                  refine gs_gtr rfl (by decide) rfl sh758.1 tm rfl rfl rfl (fun c777 ec777 tc777 => ?_)
                                  refine gz_s 4 (pc' := 276) (L' := [some (.ref m), some (.int (zi mk)), some (.int (zi bg)), some (.int (zi n)), some (.int (zi z39)), some (.int (zi k)), some (.int (zi ((p0 + 1) + (2 * k)))), some (.int (zi zq492)), some (.int (zi z561))]) (S' := [.int (zi 16), .int (zi z561), .int (zi 4), .int (zi zq492), .ref c777]) rfl ?_
                                  refine gy_rem rfl (by decide) (by omega) (by omega) ?_
                                  refine gy_s 1 (pc' := 278) (L' := [some (.ref m), some (.int (zi mk)), some (.int (zi bg)), some (.int (zi n)), some (.int (zi z39)), some (.int (zi k)), some (.int (zi ((p0 + 1) + (2 * k)))), some (.int (zi zq492)), some (.int (zi z561))]) (S' := [.int ((zi 4) + (zi (z561 % 16))), .int (zi zq492), .ref c777]) (L2 := [some (.ref m), some (.int (zi mk)), some (.int (zi bg)), some (.int (zi n)), some (.int (zi z39)), some (.int (zi k)), some (.int (zi ((p0 + 1) + (2 * k)))), some (.int (zi zq492)), some (.int (zi z561))]) (S2 := [.int (zi (4 + (z561 % 16))), .int (zi zq492), .ref c777]) rfl (by simp only [zi_add, zi_sub, zi_mul, zi_neg, zi_and1, zi_and7, zi_and15, zi_and31, zi_and255]) (by simp only [zi_add, zi_sub, zi_mul, zi_neg, zi_and1, zi_and7, zi_and15, zi_and31, zi_and255]) ?_
                                  have hl778 : 3 ≤ h758.2.2.2.1 c777 ∧ h758.2.2.2.1 c777 ≤ 3 := gJ.rowl (G := gGG) sh758.1 tc777 rfl
                                  refine gs_ast rfl (by decide) sh758 tc777 rfl rfl rfl (by decide) (fun _ => rfl) (by omega) (by omega) (fun _ => (by decide : (22999 : Nat) ∈ ([1005, 1007, 1024, 1039, 1041, 1042, 1043, 1044, 1045, 1046, 1047, 1048, 20999, 21999, 22999, 23999, 24999, 25999] : List Nat))) (by omega) (by omega) (fun h779 sh779 eh779 fh779 => ?_)
                                  have pr780 := gPi.pt fh779 tc777 (by decide) pr759
                                  have pr781 := gPic.pt fh779 tc777 (by decide) pr760
                                  have pr782 := gEl.pt fh779 tc777 (by decide) pr761
                                  have pr783 := gEl.pt fh779 tc777 (by decide) pr776
                                  have s784 := (fh779 m 5 (fun q => absurd (((tm).symm.trans (congrArg ty q.1)).trans tc777) (by decide))).trans s762
                                  have s785 := (fh779 m 6 (fun q => absurd (((tm).symm.trans (congrArg ty q.1)).trans tc777) (by decide))).trans s763
                                  have s786 := (fh779 m 3 (fun q => absurd (((tm).symm.trans (congrArg ty q.1)).trans tc777) (by decide))).trans s764
                                  have s787 := (fh779 m 16 (fun q => absurd (((tm).symm.trans (congrArg ty q.1)).trans tc777) (by decide))).trans s765
                                  have s788 := (fh779 m 18 (fun q => absurd (((tm).symm.trans (congrArg ty q.1)).trans tc777) (by decide))).trans s766
                                  have s789 := (fh779 m 19 (fun q => absurd (((tm).symm.trans (congrArg ty q.1)).trans tc777) (by decide))).trans s767
                                  have s790 := (fh779 m 21 (fun q => absurd (((tm).symm.trans (congrArg ty q.1)).trans tc777) (by decide))).trans s768
                                  have s791 := (fh779 m 22 (fun q => absurd (((tm).symm.trans (congrArg ty q.1)).trans tc777) (by decide))).trans s769
                                  have s792 := (fh779 m 20 (fun q => absurd (((tm).symm.trans (congrArg ty q.1)).trans tc777) (by decide))).trans s770
                                  have s793 := (fh779 m 4 (fun q => absurd (((tm).symm.trans (congrArg ty q.1)).trans tc777) (by decide))).trans s771
                                  have s794 := (fh779 m 25 (fun q => absurd (((tm).symm.trans (congrArg ty q.1)).trans tc777) (by decide))).trans s772
                                  have s795 := (fh779 m 7 (fun q => absurd (((tm).symm.trans (congrArg ty q.1)).trans tc777) (by decide))).trans s773
                                  have s796 := (fh779 m 40 (fun q => absurd (((tm).symm.trans (congrArg ty q.1)).trans tc777) (by decide))).trans s774
                                  have s797 := (fh779 m 35 (fun q => absurd (((tm).symm.trans (congrArg ty q.1)).trans tc777) (by decide))).trans s775
                                  have s798 := (fh779 m 36 (fun q => absurd (((tm).symm.trans (congrArg ty q.1)).trans tc777) (by decide))).trans ec777
                                  have pr799 := gEl.set (i := zq492) (z := 4 + (z561 % 16)) uq tc777 (by decide) eh779 (by omega) (by omega)
                                  have hsb800 : gSbc ty fq722_0 (k + 1) bs h779 := gSbc.step (b := zq492) (v1 := z561 / 16) (v2 := 4 + (z561 % 16)) uq tc737 tc756 tc777 fh739 eh739 fh758 eh758 fh779 eh779 (by omega) (by omega) (by omega) pr736
                                  refine gy_s 2 (pc' := 102) (L' := [some (.ref m), some (.int (zi mk)), some (.int (zi bg)), some (.int (zi n)), some (.int (zi z39)), some (.int ((zi k) + zi 1)), some (.int (zi ((p0 + 1) + (2 * k)))), some (.int (zi zq492)), some (.int (zi z561))]) (S' := []) (L2 := [some (.ref m), some (.int (zi mk)), some (.int (zi bg)), some (.int (zi n)), some (.int (zi z39)), some (.int (zi (k + 1))), some (.int (zi ((p0 + 1) + (2 * k)))), some (.int (zi zq492)), some (.int (zi z561))]) (S2 := []) rfl (by simp only [zi_add, zi_sub, zi_mul, zi_neg, zi_and1, zi_and7, zi_and15, zi_and31, zi_and255]) (by simp only [zi_add, zi_sub, zi_mul, zi_neg, zi_and1, zi_and7, zi_and15, zi_and31, zi_and255]) ?_
                                  exact gz_wk (ihlp83 h779 (k + 1) fq722_0 (by omega) sh779 (by omega) (by omega) (by omega) s784 s785 s786 s787 s788 s789 s790 s791 s792 s793 s795 pr780 pr781 hsb800) (gLw.s (gLw.s (gLw.s (gLw.s (gLw.s (gLw.s (gLw.n (gLw.n (gLw.n gLw.z)))))))))
                        · refine gy_icF rfl (by decide) (by decide) (by omega) (by omega) hc489 ?_
                          refine gz_s 6 (pc' := 158) (L' := [some (.ref m), some (.int (zi mk)), some (.int (zi bg)), some (.int (zi n)), some (.int (zi z39)), some (.int (zi k)), some (.int (zi ((p0 + 1) + (2 * k)))), some (.int (zi k)), none]) (S' := [.int (zi (-1)), .int (zi k), .ref m]) rfl ?_
                          refine gy_icF rfl (by decide) (by decide) (by omega) (by omega) (by first | (simp [zc]; done) | (simp only [zc]; omega)) ?_
                          refine gz_s 1 (pc' := 162) (L' := [some (.ref m), some (.int (zi mk)), some (.int (zi bg)), some (.int (zi n)), some (.int (zi z39)), some (.int (zi k)), some (.int (zi ((p0 + 1) + (2 * k)))), some (.int (zi k)), none]) (S' := [.ref m, .ref m]) rfl ?_
                          refine gs_gtr rfl (by decide) rfl sh85.1 tm rfl rfl rfl (fun c801 ec801 tc801 => ?_)
                          refine gz_s 2 (pc' := 168) (L' := [some (.ref m), some (.int (zi mk)), some (.int (zi bg)), some (.int (zi n)), some (.int (zi z39)), some (.int (zi k)), some (.int (zi ((p0 + 1) + (2 * k)))), some (.int (zi k)), none]) (S' := [.int (zi (-1)), .int (zi k), .ref c801, .ref m]) rfl ?_
                          refine gy_icT (pc' := 175) rfl (by decide) (by decide) (by omega) (by omega) (by first | (simp [zc]; done) | (simp only [zc]; omega)) ?_
                          refine gz_s 1 (pc' := 177) (L' := [some (.ref m), some (.int (zi mk)), some (.int (zi bg)), some (.int (zi n)), some (.int (zi z39)), some (.int (zi k)), some (.int (zi ((p0 + 1) + (2 * k)))), some (.int (zi k)), none]) (S' := [.int (zi k), .ref c801, .ref m]) rfl ?_
                          have hl802 : 3 ≤ h85.2.2.2.1 c801 ∧ h85.2.2.2.1 c801 ≤ 3 := gJ.rowl (G := gGG) sh85.1 tc801 rfl
                          refine gs_ald rfl (by decide) sh85.1 tc801 rfl rfl rfl (by decide) (fun _ => rfl) (by omega) (by omega) (fun z803 ez803 az803 bz803 => ?_)
                          refine gz_s 1 (pc' := 179) (L' := [some (.ref m), some (.int (zi mk)), some (.int (zi bg)), some (.int (zi n)), some (.int (zi z39)), some (.int (zi k)), some (.int (zi ((p0 + 1) + (2 * k)))), some (.int (zi k)), none]) (S' := [.ref m, .int (zi z803), .ref m]) rfl ?_
                          refine gs_gtk rfl (by decide) rfl sh85.1 tm rfl rfl lp83k9 ?_
                          refine gz_s 1 (pc' := 184) (L' := [some (.ref m), some (.int (zi mk)), some (.int (zi bg)), some (.int (zi n)), some (.int (zi z39)), some (.int (zi k)), some (.int (zi ((p0 + 1) + (2 * k)))), some (.int (zi k)), none]) (S' := [.int (zi ((p0 + 1) + (2 * k))), .ref c37, .int (zi z803), .ref m]) rfl ?_
                          have hl804 : 2000 ≤ h85.2.2.2.1 c37 ∧ h85.2.2.2.1 c37 ≤ 2000 := gJ.rowl (G := gGG) sh85.1 tc37 rfl
                          refine gs_ald rfl (by decide) sh85.1 tc37 rfl rfl rfl (by decide) (fun _ => rfl) (by omega) (by omega) (fun z805 ez805 az805 bz805 => ?_)
                          by_cases hc806 : ¬ (z803 : Int) = z805
                          · refine gy_icT (pc' := 192) rfl (by decide) (by decide) (by omega) (by omega) hc806 ?_
                            refine gz_s 2 (pc' := 195) (L' := [some (.ref m), some (.int (zi mk)), some (.int (zi bg)), some (.int (zi n)), some (.int (zi z39)), some (.int (zi k)), some (.int (zi ((p0 + 1) + (2 * k)))), some (.int (zi k)), none]) (S' := [.int (zi ((p0 + 1) + (2 * k))), .int (zi 0), .ref m]) rfl ?_
                            refine gz_call rfl (by decide) rfl (by decide) (by decide) (gcal_of rfl rfl rfl (Nat.le_of_ble_eq_true rfl) (gJ.recv (G := gGG) sh85.1 tm rfl rfl)) (mm_must _ sh85.1 m tm 0 (by omega) ((p0 + 1) + (2 * k)) (by omega) fv lp83k10 (by omega)) (fun q807 _ wq807 => ?_)
                            obtain ⟨pq807, oq807, hq807⟩ := q807
                            obtain ⟨xq807, zq807, fq807_0, gq807, aq807, bq807, efq807_0, afq807_0, bfq807_0, uq807_0, uq807_1⟩ := wq807
                            refine ⟨_, gq807, ?_⟩
                            show gz gPP gGG gcn _ _ 198 [some (.ref m), some (.int (zi mk)), some (.int (zi bg)), some (.int (zi n)), some (.int (zi z39)), some (.int (zi k)), some (.int (zi ((p0 + 1) + (2 * k)))), some (.int (zi k)), none] [.int (zi zq807)] hq807 _
                            have sq807 := gSs.tr sh85 xq807 (by decide)
                            have s808 := (xq807.2.2.2.2.2 m 5 (by rw [tm]; decide)).trans lp83k0
                            have s809 := (xq807.2.2.2.2.2 m 6 (by rw [tm]; decide)).trans lp83k1
                            have s810 := (xq807.2.2.2.2.2 m 3 (by rw [tm]; decide)).trans lp83k2
                            have s811 := (xq807.2.2.2.2.2 m 16 (by rw [tm]; decide)).trans lp83k3
                            have s812 := (xq807.2.2.2.2.2 m 18 (by rw [tm]; decide)).trans lp83k4
                            have s813 := (xq807.2.2.2.2.2 m 19 (by rw [tm]; decide)).trans lp83k5
                            have s814 := (xq807.2.2.2.2.2 m 21 (by rw [tm]; decide)).trans lp83k6
                            have s815 := (xq807.2.2.2.2.2 m 22 (by rw [tm]; decide)).trans lp83k7
                            have s816 := (xq807.2.2.2.2.2 m 20 (by rw [tm]; decide)).trans lp83k8
                            have s817 := (xq807.2.2.2.2.2 m 4 (by rw [tm]; decide)).trans lp83k9
                            have s818 := (xq807.2.2.2.2.2 m 25 (by rw [tm]; decide)).trans ec801
                            have pr819 := gPi.fr xq807.2 (by decide) lp83k11
                            have pr820 := gPic.fr xq807.2 (by decide) lp83k12
                            have pr821 := gSbc.fr xq807.2 (by decide) lp83k13
                            refine gy_ifT (pc' := 279) rfl (by decide) (by decide) (by omega) (by first | (simp [zc]; done) | (simp only [zc]; omega)) ?_
                            have hsb822 : gSbc ty fq807_0 (k + 1) bs hq807 := fun e => absurd e (by omega)
                            refine gy_s 2 (pc' := 102) (L' := [some (.ref m), some (.int (zi mk)), some (.int (zi bg)), some (.int (zi n)), some (.int (zi z39)), some (.int ((zi k) + zi 1)), some (.int (zi ((p0 + 1) + (2 * k)))), some (.int (zi k)), none]) (S' := []) (L2 := [some (.ref m), some (.int (zi mk)), some (.int (zi bg)), some (.int (zi n)), some (.int (zi z39)), some (.int (zi (k + 1))), some (.int (zi ((p0 + 1) + (2 * k)))), some (.int (zi k)), none]) (S2 := []) rfl (by simp only [zi_add, zi_sub, zi_mul, zi_neg, zi_and1, zi_and7, zi_and15, zi_and31, zi_and255]) (by simp only [zi_add, zi_sub, zi_mul, zi_neg, zi_and1, zi_and7, zi_and15, zi_and31, zi_and255]) ?_
                            exact gz_wk (ihlp83 hq807 (k + 1) fq807_0 (by omega) sq807 (by omega) (by omega) (by omega) s808 s809 s810 s811 s812 s813 s814 s815 s816 s817 efq807_0 pr819 pr820 hsb822) (gLw.s (gLw.s (gLw.s (gLw.s (gLw.s (gLw.s (gLw.n (gLw.n (gLw.n gLw.z)))))))))
                          · refine gy_icF rfl (by decide) (by decide) (by omega) (by omega) hc806 ?_
                            refine gz_s 3 (pc' := 195) (L' := [some (.ref m), some (.int (zi mk)), some (.int (zi bg)), some (.int (zi n)), some (.int (zi z39)), some (.int (zi k)), some (.int (zi ((p0 + 1) + (2 * k)))), some (.int (zi k)), none]) (S' := [.int (zi ((p0 + 1) + (2 * k))), .int (zi 1), .ref m]) rfl ?_
                            refine gz_call rfl (by decide) rfl (by decide) (by decide) (gcal_of rfl rfl rfl (Nat.le_of_ble_eq_true rfl) (gJ.recv (G := gGG) sh85.1 tm rfl rfl)) (mm_must _ sh85.1 m tm 1 (by omega) ((p0 + 1) + (2 * k)) (by omega) fv lp83k10 (by omega)) (fun q823 _ wq823 => ?_)
                            obtain ⟨pq823, oq823, hq823⟩ := q823
                            obtain ⟨xq823, zq823, fq823_0, gq823, aq823, bq823, efq823_0, afq823_0, bfq823_0, uq823_0, uq823_1⟩ := wq823
                            refine ⟨_, gq823, ?_⟩
                            show gz gPP gGG gcn _ _ 198 [some (.ref m), some (.int (zi mk)), some (.int (zi bg)), some (.int (zi n)), some (.int (zi z39)), some (.int (zi k)), some (.int (zi ((p0 + 1) + (2 * k)))), some (.int (zi k)), none] [.int (zi zq823)] hq823 _
                            have sq823 := gSs.tr sh85 xq823 (by decide)
                            have s824 := (xq823.2.2.2.2.2 m 5 (by rw [tm]; decide)).trans lp83k0
                            have s825 := (xq823.2.2.2.2.2 m 6 (by rw [tm]; decide)).trans lp83k1
                            have s826 := (xq823.2.2.2.2.2 m 3 (by rw [tm]; decide)).trans lp83k2
                            have s827 := (xq823.2.2.2.2.2 m 16 (by rw [tm]; decide)).trans lp83k3
                            have s828 := (xq823.2.2.2.2.2 m 18 (by rw [tm]; decide)).trans lp83k4
                            have s829 := (xq823.2.2.2.2.2 m 19 (by rw [tm]; decide)).trans lp83k5
                            have s830 := (xq823.2.2.2.2.2 m 21 (by rw [tm]; decide)).trans lp83k6
                            have s831 := (xq823.2.2.2.2.2 m 22 (by rw [tm]; decide)).trans lp83k7
                            have s832 := (xq823.2.2.2.2.2 m 20 (by rw [tm]; decide)).trans lp83k8
                            have s833 := (xq823.2.2.2.2.2 m 4 (by rw [tm]; decide)).trans lp83k9
                            have s834 := (xq823.2.2.2.2.2 m 25 (by rw [tm]; decide)).trans ec801
                            have pr835 := gPi.fr xq823.2 (by decide) lp83k11
                            have pr836 := gPic.fr xq823.2 (by decide) lp83k12
                            have pr837 := gSbc.fr xq823.2 (by decide) lp83k13
                            refine gy_ifF rfl (by decide) (by decide) (by omega) (by first | (simp [zc]; done) | (simp only [zc]; omega)) ?_
                            refine gz_s 1 (pc' := 202) (L' := [some (.ref m), some (.int (zi mk)), some (.int (zi bg)), some (.int (zi n)), some (.int (zi z39)), some (.int (zi k)), some (.int (zi ((p0 + 1) + (2 * k)))), some (.int (zi k)), none]) (S' := [.ref m]) rfl ?_
                            refine gs_gtk rfl (by decide) rfl sq823.1 tm rfl rfl s833 ?_
                            refine gy_s 3 (pc' := 209) (L' := [some (.ref m), some (.int (zi mk)), some (.int (zi bg)), some (.int (zi n)), some (.int (zi z39)), some (.int (zi k)), some (.int (zi ((p0 + 1) + (2 * k)))), some (.int (zi k)), none]) (S' := [.int ((zi ((p0 + 1) + (2 * k))) + (zi 1)), .ref c37]) (L2 := [some (.ref m), some (.int (zi mk)), some (.int (zi bg)), some (.int (zi n)), some (.int (zi z39)), some (.int (zi k)), some (.int (zi ((p0 + 1) + (2 * k)))), some (.int (zi k)), none]) (S2 := [.int (zi (((p0 + 1) + (2 * k)) + 1)), .ref c37]) rfl (by simp only [zi_add, zi_sub, zi_mul, zi_neg, zi_and1, zi_and7, zi_and15, zi_and31, zi_and255]) (by simp only [zi_add, zi_sub, zi_mul, zi_neg, zi_and1, zi_and7, zi_and15, zi_and31, zi_and255]) ?_
                            have hl838 : 2000 ≤ hq823.2.2.2.1 c37 ∧ hq823.2.2.2.1 c37 ≤ 2000 := gJ.rowl (G := gGG) sq823.1 tc37 rfl
                            refine gs_ald rfl (by decide) sq823.1 tc37 rfl rfl rfl (by decide) (fun _ => rfl) (by omega) (by omega) (fun z839 ez839 az839 bz839 => ?_)
                            refine gz_s 4 (pc' := 217) (L' := [some (.ref m), some (.int (zi mk)), some (.int (zi bg)), some (.int (zi n)), some (.int (zi z39)), some (.int (zi k)), some (.int (zi ((p0 + 1) + (2 * k)))), some (.int (zi k)), some (.int (zi z839))]) (S' := [.int (zi 16), .int (zi z839), .ref m]) rfl ?_
                            refine gy_div rfl (by decide) (by omega) (by omega) ?_
                            refine gz_s 1 (pc' := 219) (L' := [some (.ref m), some (.int (zi mk)), some (.int (zi bg)), some (.int (zi n)), some (.int (zi z39)), some (.int (zi k)), some (.int (zi ((p0 + 1) + (2 * k)))), some (.int (zi k)), some (.int (zi z839))]) (S' := [.int (zi 4), .int (zi (z839 / 16)), .ref m]) rfl ?_
                            by_cases hc840 : (4 : Int) ≤ z839 / 16
                            · refine gy_icT (pc' := 235) rfl (by decide) (by decide) (by omega) (by omega) hc840 ?_
                              refine gy_s 4 (pc' := 240) (L' := [some (.ref m), some (.int (zi mk)), some (.int (zi bg)), some (.int (zi n)), some (.int (zi z39)), some (.int (zi k)), some (.int (zi ((p0 + 1) + (2 * k)))), some (.int (zi k)), some (.int (zi z839))]) (S' := [.int ((zi ((p0 + 1) + (2 * k))) + (zi 1)), .int (zi 0), .ref m]) (L2 := [some (.ref m), some (.int (zi mk)), some (.int (zi bg)), some (.int (zi n)), some (.int (zi z39)), some (.int (zi k)), some (.int (zi ((p0 + 1) + (2 * k)))), some (.int (zi k)), some (.int (zi z839))]) (S2 := [.int (zi (((p0 + 1) + (2 * k)) + 1)), .int (zi 0), .ref m]) rfl (by simp only [zi_add, zi_sub, zi_mul, zi_neg, zi_and1, zi_and7, zi_and15, zi_and31, zi_and255]) (by simp only [zi_add, zi_sub, zi_mul, zi_neg, zi_and1, zi_and7, zi_and15, zi_and31, zi_and255]) ?_
                              refine gz_call rfl (by decide) rfl (by decide) (by decide) (gcal_of rfl rfl rfl (Nat.le_of_ble_eq_true rfl) (gJ.recv (G := gGG) sq823.1 tm rfl rfl)) (mm_must _ sq823.1 m tm 0 (by omega) (((p0 + 1) + (2 * k)) + 1) (by omega) fq823_0 efq823_0 (by omega)) (fun q841 _ wq841 => ?_)
                              obtain ⟨pq841, oq841, hq841⟩ := q841
                              obtain ⟨xq841, zq841, fq841_0, gq841, aq841, bq841, efq841_0, afq841_0, bfq841_0, uq841_0, uq841_1⟩ := wq841
                              refine ⟨_, gq841, ?_⟩
                              show gz gPP gGG gcn _ _ 243 [some (.ref m), some (.int (zi mk)), some (.int (zi bg)), some (.int (zi n)), some (.int (zi z39)), some (.int (zi k)), some (.int (zi ((p0 + 1) + (2 * k)))), some (.int (zi k)), some (.int (zi z839))] [.int (zi zq841)] hq841 _
                              have sq841 := gSs.tr sq823 xq841 (by decide)
                              have s842 := (xq841.2.2.2.2.2 m 5 (by rw [tm]; decide)).trans s824
                              have s843 := (xq841.2.2.2.2.2 m 6 (by rw [tm]; decide)).trans s825
                              have s844 := (xq841.2.2.2.2.2 m 3 (by rw [tm]; decide)).trans s826
                              have s845 := (xq841.2.2.2.2.2 m 16 (by rw [tm]; decide)).trans s827
                              have s846 := (xq841.2.2.2.2.2 m 18 (by rw [tm]; decide)).trans s828
                              have s847 := (xq841.2.2.2.2.2 m 19 (by rw [tm]; decide)).trans s829
                              have s848 := (xq841.2.2.2.2.2 m 21 (by rw [tm]; decide)).trans s830
                              have s849 := (xq841.2.2.2.2.2 m 22 (by rw [tm]; decide)).trans s831
                              have s850 := (xq841.2.2.2.2.2 m 20 (by rw [tm]; decide)).trans s832
                              have s851 := (xq841.2.2.2.2.2 m 4 (by rw [tm]; decide)).trans s833
                              have s852 := (xq841.2.2.2.2.2 m 25 (by rw [tm]; decide)).trans s834
                              have pr853 := gPi.fr xq841.2 (by decide) pr835
                              have pr854 := gPic.fr xq841.2 (by decide) pr836
                              have pr855 := gSbc.fr xq841.2 (by decide) pr837
                              refine gz_s 1 (pc' := 244) (L' := [some (.ref m), some (.int (zi mk)), some (.int (zi bg)), some (.int (zi n)), some (.int (zi z39)), some (.int (zi k)), some (.int (zi ((p0 + 1) + (2 * k)))), some (.int (zi k)), some (.int (zi z839))]) (S' := []) rfl ?_
                              refine gz_s 1 (pc' := 245) (L' := [some (.ref m), some (.int (zi mk)), some (.int (zi bg)), some (.int (zi n)), some (.int (zi z39)), some (.int (zi k)), some (.int (zi ((p0 + 1) + (2 * k)))), some (.int (zi k)), some (.int (zi z839))]) (S' := [.ref m]) rfl ?_
                              refine gs_gtr rfl (by decide) rfl sq841.1 tm rfl rfl rfl (fun c856 ec856 tc856 => ?_)
                              refine gz_s 2 (pc' := 252) (L' := [some (.ref m), some (.int (zi mk)), some (.int (zi bg)), some (.int (zi n)), some (.int (zi z39)), some (.int (zi k)), some (.int (zi ((p0 + 1) + (2 * k)))), some (.int (zi k)), some (.int (zi z839))]) (S' := [.int (zi k), .int (zi k), .ref c856]) rfl ?_
                              have hl857 : 3 ≤ hq841.2.2.2.1 c856 ∧ hq841.2.2.2.1 c856 ≤ 3 := gJ.rowl (G := gGG) sq841.1 tc856 rfl
                              refine gs_ast rfl (by decide) sq841 tc856 rfl rfl rfl (by decide) (fun _ => rfl) (by omega) (by omega) (fun _ => (by decide : (25999 : Nat) ∈ ([1005, 1007, 1024, 1039, 1041, 1042, 1043, 1044, 1045, 1046, 1047, 1048, 20999, 21999, 22999, 23999, 24999, 25999] : List Nat))) (by omega) (by omega) (fun h858 sh858 eh858 fh858 => ?_)
                              have pr859 := gPi.pt fh858 tc856 (by decide) pr853
                              have pr860 := gPic.pt fh858 tc856 (by decide) pr854
                              have s861 := (fh858 m 5 (fun q => absurd (((tm).symm.trans (congrArg ty q.1)).trans tc856) (by decide))).trans s842
                              have s862 := (fh858 m 6 (fun q => absurd (((tm).symm.trans (congrArg ty q.1)).trans tc856) (by decide))).trans s843
                              have s863 := (fh858 m 3 (fun q => absurd (((tm).symm.trans (congrArg ty q.1)).trans tc856) (by decide))).trans s844
                              have s864 := (fh858 m 16 (fun q => absurd (((tm).symm.trans (congrArg ty q.1)).trans tc856) (by decide))).trans s845
                              have s865 := (fh858 m 18 (fun q => absurd (((tm).symm.trans (congrArg ty q.1)).trans tc856) (by decide))).trans s846
                              have s866 := (fh858 m 19 (fun q => absurd (((tm).symm.trans (congrArg ty q.1)).trans tc856) (by decide))).trans s847
                              have s867 := (fh858 m 21 (fun q => absurd (((tm).symm.trans (congrArg ty q.1)).trans tc856) (by decide))).trans s848
                              have s868 := (fh858 m 22 (fun q => absurd (((tm).symm.trans (congrArg ty q.1)).trans tc856) (by decide))).trans s849
                              have s869 := (fh858 m 20 (fun q => absurd (((tm).symm.trans (congrArg ty q.1)).trans tc856) (by decide))).trans s850
                              have s870 := (fh858 m 4 (fun q => absurd (((tm).symm.trans (congrArg ty q.1)).trans tc856) (by decide))).trans s851
                              have s871 := (fh858 m 25 (fun q => absurd (((tm).symm.trans (congrArg ty q.1)).trans tc856) (by decide))).trans s852
                              have s872 := (fh858 m 7 (fun q => absurd (((tm).symm.trans (congrArg ty q.1)).trans tc856) (by decide))).trans efq841_0
                              have s873 := (fh858 m 40 (fun q => absurd (((tm).symm.trans (congrArg ty q.1)).trans tc856) (by decide))).trans ec856
                              have pr874 := gEl.set (i := k) (z := k) uq tc856 (by decide) eh858 (by omega) (by omega)
                              refine gz_s 1 (pc' := 254) (L' := [some (.ref m), some (.int (zi mk)), some (.int (zi bg)), some (.int (zi n)), some (.int (zi z39)), some (.int (zi k)), some (.int (zi ((p0 + 1) + (2 * k)))), some (.int (zi k)), some (.int (zi z839))]) (S' := [.ref m]) rfl ?_
                              refine gs_gtr rfl (by decide) rfl sh858.1 tm rfl rfl rfl (fun c875 ec875 tc875 => ?_)
                              refine gz_s 3 (pc' := 263) (L' := [some (.ref m), some (.int (zi mk)), some (.int (zi bg)), some (.int (zi n)), some (.int (zi z39)), some (.int (zi k)), some (.int (zi ((p0 + 1) + (2 * k)))), some (.int (zi k)), some (.int (zi z839))]) (S' := [.int (zi 16), .int (zi z839), .int (zi k), .ref c875]) rfl ?_
                              refine gy_div rfl (by decide) (by omega) (by omega) ?_
                              have hl876 : 3 ≤ h858.2.2.2.1 c875 ∧ h858.2.2.2.1 c875 ≤ 3 := gJ.rowl (G := gGG) sh858.1 tc875 rfl
                              refine gs_ast rfl (by decide) sh858 tc875 rfl rfl rfl (by decide) (fun _ => rfl) (by omega) (by omega) (fun _ => (by decide : (21999 : Nat) ∈ ([1005, 1007, 1024, 1039, 1041, 1042, 1043, 1044, 1045, 1046, 1047, 1048, 20999, 21999, 22999, 23999, 24999, 25999] : List Nat))) (by omega) (by omega) (fun h877 sh877 eh877 fh877 => ?_)
                              have pr878 := gPi.pt fh877 tc875 (by decide) pr859
                              have pr879 := gPic.pt fh877 tc875 (by decide) pr860
                              have pr880 := gEl.pt fh877 tc875 (by decide) pr874
                              have s881 := (fh877 m 5 (fun q => absurd (((tm).symm.trans (congrArg ty q.1)).trans tc875) (by decide))).trans s861
                              have s882 := (fh877 m 6 (fun q => absurd (((tm).symm.trans (congrArg ty q.1)).trans tc875) (by decide))).trans s862
                              have s883 := (fh877 m 3 (fun q => absurd (((tm).symm.trans (congrArg ty q.1)).trans tc875) (by decide))).trans s863
                              have s884 := (fh877 m 16 (fun q => absurd (((tm).symm.trans (congrArg ty q.1)).trans tc875) (by decide))).trans s864
                              have s885 := (fh877 m 18 (fun q => absurd (((tm).symm.trans (congrArg ty q.1)).trans tc875) (by decide))).trans s865
                              have s886 := (fh877 m 19 (fun q => absurd (((tm).symm.trans (congrArg ty q.1)).trans tc875) (by decide))).trans s866
                              have s887 := (fh877 m 21 (fun q => absurd (((tm).symm.trans (congrArg ty q.1)).trans tc875) (by decide))).trans s867
                              have s888 := (fh877 m 22 (fun q => absurd (((tm).symm.trans (congrArg ty q.1)).trans tc875) (by decide))).trans s868
                              have s889 := (fh877 m 20 (fun q => absurd (((tm).symm.trans (congrArg ty q.1)).trans tc875) (by decide))).trans s869
                              have s890 := (fh877 m 4 (fun q => absurd (((tm).symm.trans (congrArg ty q.1)).trans tc875) (by decide))).trans s870
                              have s891 := (fh877 m 25 (fun q => absurd (((tm).symm.trans (congrArg ty q.1)).trans tc875) (by decide))).trans s871
                              have s892 := (fh877 m 7 (fun q => absurd (((tm).symm.trans (congrArg ty q.1)).trans tc875) (by decide))).trans s872
                              have s893 := (fh877 m 40 (fun q => absurd (((tm).symm.trans (congrArg ty q.1)).trans tc875) (by decide))).trans s873
                              have s894 := (fh877 m 35 (fun q => absurd (((tm).symm.trans (congrArg ty q.1)).trans tc875) (by decide))).trans ec875
                              have pr895 := gEl.set (i := k) (z := z839 / 16) uq tc875 (by decide) eh877 (by omega) (by omega)
                              refine gz_s 1 (pc' := 266) (L' := [some (.ref m), some (.int (zi mk)), some (.int (zi bg)), some (.int (zi n)), some (.int (zi z39)), some (.int (zi k)), some (.int (zi ((p0 + 1) + (2 * k)))), some (.int (zi k)), some (.int (zi z839))]) (S' := [.ref m]) rfl ?_
                              refine gs_gtr rfl (by decide) rfl sh877.1 tm rfl rfl rfl (fun c896 ec896 tc896 => ?_)
                              refine gz_s 4 (pc' := 276) (L' := [some (.ref m), some (.int (zi mk)), some (.int (zi bg)), some (.int (zi n)), some (.int (zi z39)), some (.int (zi k)), some (.int (zi ((p0 + 1) + (2 * k)))), some (.int (zi k)), some (.int (zi z839))]) (S' := [.int (zi 16), .int (zi z839), .int (zi 4), .int (zi k), .ref c896]) rfl ?_
                              refine gy_rem rfl (by decide) (by omega) (by omega) ?_
                              refine gy_s 1 (pc' := 278) (L' := [some (.ref m), some (.int (zi mk)), some (.int (zi bg)), some (.int (zi n)), some (.int (zi z39)), some (.int (zi k)), some (.int (zi ((p0 + 1) + (2 * k)))), some (.int (zi k)), some (.int (zi z839))]) (S' := [.int ((zi 4) + (zi (z839 % 16))), .int (zi k), .ref c896]) (L2 := [some (.ref m), some (.int (zi mk)), some (.int (zi bg)), some (.int (zi n)), some (.int (zi z39)), some (.int (zi k)), some (.int (zi ((p0 + 1) + (2 * k)))), some (.int (zi k)), some (.int (zi z839))]) (S2 := [.int (zi (4 + (z839 % 16))), .int (zi k), .ref c896]) rfl (by simp only [zi_add, zi_sub, zi_mul, zi_neg, zi_and1, zi_and7, zi_and15, zi_and31, zi_and255]) (by simp only [zi_add, zi_sub, zi_mul, zi_neg, zi_and1, zi_and7, zi_and15, zi_and31, zi_and255]) ?_
                              have hl897 : 3 ≤ h877.2.2.2.1 c896 ∧ h877.2.2.2.1 c896 ≤ 3 := gJ.rowl (G := gGG) sh877.1 tc896 rfl
                              refine gs_ast rfl (by decide) sh877 tc896 rfl rfl rfl (by decide) (fun _ => rfl) (by omega) (by omega) (fun _ => (by decide : (22999 : Nat) ∈ ([1005, 1007, 1024, 1039, 1041, 1042, 1043, 1044, 1045, 1046, 1047, 1048, 20999, 21999, 22999, 23999, 24999, 25999] : List Nat))) (by omega) (by omega) (fun h898 sh898 eh898 fh898 => ?_)
                              have pr899 := gPi.pt fh898 tc896 (by decide) pr878
                              have pr900 := gPic.pt fh898 tc896 (by decide) pr879
                              have pr901 := gEl.pt fh898 tc896 (by decide) pr880
                              have pr902 := gEl.pt fh898 tc896 (by decide) pr895
                              have s903 := (fh898 m 5 (fun q => absurd (((tm).symm.trans (congrArg ty q.1)).trans tc896) (by decide))).trans s881
                              have s904 := (fh898 m 6 (fun q => absurd (((tm).symm.trans (congrArg ty q.1)).trans tc896) (by decide))).trans s882
                              have s905 := (fh898 m 3 (fun q => absurd (((tm).symm.trans (congrArg ty q.1)).trans tc896) (by decide))).trans s883
                              have s906 := (fh898 m 16 (fun q => absurd (((tm).symm.trans (congrArg ty q.1)).trans tc896) (by decide))).trans s884
                              have s907 := (fh898 m 18 (fun q => absurd (((tm).symm.trans (congrArg ty q.1)).trans tc896) (by decide))).trans s885
                              have s908 := (fh898 m 19 (fun q => absurd (((tm).symm.trans (congrArg ty q.1)).trans tc896) (by decide))).trans s886
                              have s909 := (fh898 m 21 (fun q => absurd (((tm).symm.trans (congrArg ty q.1)).trans tc896) (by decide))).trans s887
                              have s910 := (fh898 m 22 (fun q => absurd (((tm).symm.trans (congrArg ty q.1)).trans tc896) (by decide))).trans s888
                              have s911 := (fh898 m 20 (fun q => absurd (((tm).symm.trans (congrArg ty q.1)).trans tc896) (by decide))).trans s889
                              have s912 := (fh898 m 4 (fun q => absurd (((tm).symm.trans (congrArg ty q.1)).trans tc896) (by decide))).trans s890
                              have s913 := (fh898 m 25 (fun q => absurd (((tm).symm.trans (congrArg ty q.1)).trans tc896) (by decide))).trans s891
                              have s914 := (fh898 m 7 (fun q => absurd (((tm).symm.trans (congrArg ty q.1)).trans tc896) (by decide))).trans s892
                              have s915 := (fh898 m 40 (fun q => absurd (((tm).symm.trans (congrArg ty q.1)).trans tc896) (by decide))).trans s893
                              have s916 := (fh898 m 35 (fun q => absurd (((tm).symm.trans (congrArg ty q.1)).trans tc896) (by decide))).trans s894
                              have s917 := (fh898 m 36 (fun q => absurd (((tm).symm.trans (congrArg ty q.1)).trans tc896) (by decide))).trans ec896
                              have pr918 := gEl.set (i := k) (z := 4 + (z839 % 16)) uq tc896 (by decide) eh898 (by omega) (by omega)
                              have hsb919 : gSbc ty fq841_0 (k + 1) bs h898 := gSbc.step (b := k) (v1 := z839 / 16) (v2 := 4 + (z839 % 16)) uq tc856 tc875 tc896 fh858 eh858 fh877 eh877 fh898 eh898 (by omega) (by omega) (by omega) pr855
                              refine gy_s 2 (pc' := 102) (L' := [some (.ref m), some (.int (zi mk)), some (.int (zi bg)), some (.int (zi n)), some (.int (zi z39)), some (.int ((zi k) + zi 1)), some (.int (zi ((p0 + 1) + (2 * k)))), some (.int (zi k)), some (.int (zi z839))]) (S' := []) (L2 := [some (.ref m), some (.int (zi mk)), some (.int (zi bg)), some (.int (zi n)), some (.int (zi z39)), some (.int (zi (k + 1))), some (.int (zi ((p0 + 1) + (2 * k)))), some (.int (zi k)), some (.int (zi z839))]) (S2 := []) rfl (by simp only [zi_add, zi_sub, zi_mul, zi_neg, zi_and1, zi_and7, zi_and15, zi_and31, zi_and255]) (by simp only [zi_add, zi_sub, zi_mul, zi_neg, zi_and1, zi_and7, zi_and15, zi_and31, zi_and255]) ?_
                              exact gz_wk (ihlp83 h898 (k + 1) fq841_0 (by omega) sh898 (by omega) (by omega) (by omega) s903 s904 s905 s906 s907 s908 s909 s910 s911 s912 s914 pr899 pr900 hsb919) (gLw.s (gLw.s (gLw.s (gLw.s (gLw.s (gLw.s (gLw.n (gLw.n (gLw.n gLw.z)))))))))
                            · refine gy_icF rfl (by decide) (by decide) (by omega) (by omega) hc840 ?_
                              refine gz_s 2 (pc' := 226) (L' := [some (.ref m), some (.int (zi mk)), some (.int (zi bg)), some (.int (zi n)), some (.int (zi z39)), some (.int (zi k)), some (.int (zi ((p0 + 1) + (2 * k)))), some (.int (zi k)), some (.int (zi z839))]) (S' := [.int (zi 16), .int (zi z839), .ref m]) rfl ?_
                              refine gy_rem rfl (by decide) (by omega) (by omega) ?_
                              refine gz_s 1 (pc' := 228) (L' := [some (.ref m), some (.int (zi mk)), some (.int (zi bg)), some (.int (zi n)), some (.int (zi z39)), some (.int (zi k)), some (.int (zi ((p0 + 1) + (2 * k)))), some (.int (zi k)), some (.int (zi z839))]) (S' := [.int (zi 4), .int (zi (z839 % 16)), .ref m]) rfl ?_
                              by_cases hc920 : (4 : Int) ≤ z839 % 16
                              · refine gy_icT (pc' := 235) rfl (by decide) (by decide) (by omega) (by omega) hc920 ?_
                                refine gy_s 4 (pc' := 240) (L' := [some (.ref m), some (.int (zi mk)), some (.int (zi bg)), some (.int (zi n)), some (.int (zi z39)), some (.int (zi k)), some (.int (zi ((p0 + 1) + (2 * k)))), some (.int (zi k)), some (.int (zi z839))]) (S' := [.int ((zi ((p0 + 1) + (2 * k))) + (zi 1)), .int (zi 0), .ref m]) (L2 := [some (.ref m), some (.int (zi mk)), some (.int (zi bg)), some (.int (zi n)), some (.int (zi z39)), some (.int (zi k)), some (.int (zi ((p0 + 1) + (2 * k)))), some (.int (zi k)), some (.int (zi z839))]) (S2 := [.int (zi (((p0 + 1) + (2 * k)) + 1)), .int (zi 0), .ref m]) rfl (by simp only [zi_add, zi_sub, zi_mul, zi_neg, zi_and1, zi_and7, zi_and15, zi_and31, zi_and255]) (by simp only [zi_add, zi_sub, zi_mul, zi_neg, zi_and1, zi_and7, zi_and15, zi_and31, zi_and255]) ?_
                                refine gz_call rfl (by decide) rfl (by decide) (by decide) (gcal_of rfl rfl rfl (Nat.le_of_ble_eq_true rfl) (gJ.recv (G := gGG) sq823.1 tm rfl rfl)) (mm_must _ sq823.1 m tm 0 (by omega) (((p0 + 1) + (2 * k)) + 1) (by omega) fq823_0 efq823_0 (by omega)) (fun q921 _ wq921 => ?_)
                                obtain ⟨pq921, oq921, hq921⟩ := q921
                                obtain ⟨xq921, zq921, fq921_0, gq921, aq921, bq921, efq921_0, afq921_0, bfq921_0, uq921_0, uq921_1⟩ := wq921
                                refine ⟨_, gq921, ?_⟩
                                show gz gPP gGG gcn _ _ 243 [some (.ref m), some (.int (zi mk)), some (.int (zi bg)), some (.int (zi n)), some (.int (zi z39)), some (.int (zi k)), some (.int (zi ((p0 + 1) + (2 * k)))), some (.int (zi k)), some (.int (zi z839))] [.int (zi zq921)] hq921 _
                                have sq921 := gSs.tr sq823 xq921 (by decide)
                                have s922 := (xq921.2.2.2.2.2 m 5 (by rw [tm]; decide)).trans s824
                                have s923 := (xq921.2.2.2.2.2 m 6 (by rw [tm]; decide)).trans s825
                                have s924 := (xq921.2.2.2.2.2 m 3 (by rw [tm]; decide)).trans s826
                                have s925 := (xq921.2.2.2.2.2 m 16 (by rw [tm]; decide)).trans s827
                                have s926 := (xq921.2.2.2.2.2 m 18 (by rw [tm]; decide)).trans s828
                                have s927 := (xq921.2.2.2.2.2 m 19 (by rw [tm]; decide)).trans s829
                                have s928 := (xq921.2.2.2.2.2 m 21 (by rw [tm]; decide)).trans s830
                                have s929 := (xq921.2.2.2.2.2 m 22 (by rw [tm]; decide)).trans s831
                                have s930 := (xq921.2.2.2.2.2 m 20 (by rw [tm]; decide)).trans s832
                                have s931 := (xq921.2.2.2.2.2 m 4 (by rw [tm]; decide)).trans s833
                                have s932 := (xq921.2.2.2.2.2 m 25 (by rw [tm]; decide)).trans s834
                                have pr933 := gPi.fr xq921.2 (by decide) pr835
                                have pr934 := gPic.fr xq921.2 (by decide) pr836
                                have pr935 := gSbc.fr xq921.2 (by decide) pr837
                                refine gz_s 1 (pc' := 244) (L' := [some (.ref m), some (.int (zi mk)), some (.int (zi bg)), some (.int (zi n)), some (.int (zi z39)), some (.int (zi k)), some (.int (zi ((p0 + 1) + (2 * k)))), some (.int (zi k)), some (.int (zi z839))]) (S' := []) rfl ?_
                                refine gz_s 1 (pc' := 245) (L' := [some (.ref m), some (.int (zi mk)), some (.int (zi bg)), some (.int (zi n)), some (.int (zi z39)), some (.int (zi k)), some (.int (zi ((p0 + 1) + (2 * k)))), some (.int (zi k)), some (.int (zi z839))]) (S' := [.ref m]) rfl ?_
                                refine gs_gtr rfl (by decide) rfl sq921.1 tm rfl rfl rfl (fun c936 ec936 tc936 => ?_)
                                refine gz_s 2 (pc' := 252) (L' := [some (.ref m), some (.int (zi mk)), some (.int (zi bg)), some (.int (zi n)), some (.int (zi z39)), some (.int (zi k)), some (.int (zi ((p0 + 1) + (2 * k)))), some (.int (zi k)), some (.int (zi z839))]) (S' := [.int (zi k), .int (zi k), .ref c936]) rfl ?_
                                have hl937 : 3 ≤ hq921.2.2.2.1 c936 ∧ hq921.2.2.2.1 c936 ≤ 3 := gJ.rowl (G := gGG) sq921.1 tc936 rfl
                                refine gs_ast rfl (by decide) sq921 tc936 rfl rfl rfl (by decide) (fun _ => rfl) (by omega) (by omega) (fun _ => (by decide : (25999 : Nat) ∈ ([1005, 1007, 1024, 1039, 1041, 1042, 1043, 1044, 1045, 1046, 1047, 1048, 20999, 21999, 22999, 23999, 24999, 25999] : List Nat))) (by omega) (by omega) (fun h938 sh938 eh938 fh938 => ?_)
                                have pr939 := gPi.pt fh938 tc936 (by decide) pr933
                                have pr940 := gPic.pt fh938 tc936 (by decide) pr934
                                have s941 := (fh938 m 5 (fun q => absurd (((tm).symm.trans (congrArg ty q.1)).trans tc936) (by decide))).trans s922
                                have s942 := (fh938 m 6 (fun q => absurd (((tm).symm.trans (congrArg ty q.1)).trans tc936) (by decide))).trans s923
                                have s943 := (fh938 m 3 (fun q => absurd (((tm).symm.trans (congrArg ty q.1)).trans tc936) (by decide))).trans s924
                                have s944 := (fh938 m 16 (fun q => absurd (((tm).symm.trans (congrArg ty q.1)).trans tc936) (by decide))).trans s925
                                have s945 := (fh938 m 18 (fun q => absurd (((tm).symm.trans (congrArg ty q.1)).trans tc936) (by decide))).trans s926
                                have s946 := (fh938 m 19 (fun q => absurd (((tm).symm.trans (congrArg ty q.1)).trans tc936) (by decide))).trans s927
                                have s947 := (fh938 m 21 (fun q => absurd (((tm).symm.trans (congrArg ty q.1)).trans tc936) (by decide))).trans s928
                                have s948 := (fh938 m 22 (fun q => absurd (((tm).symm.trans (congrArg ty q.1)).trans tc936) (by decide))).trans s929
                                have s949 := (fh938 m 20 (fun q => absurd (((tm).symm.trans (congrArg ty q.1)).trans tc936) (by decide))).trans s930
                                have s950 := (fh938 m 4 (fun q => absurd (((tm).symm.trans (congrArg ty q.1)).trans tc936) (by decide))).trans s931
                                have s951 := (fh938 m 25 (fun q => absurd (((tm).symm.trans (congrArg ty q.1)).trans tc936) (by decide))).trans s932
                                have s952 := (fh938 m 7 (fun q => absurd (((tm).symm.trans (congrArg ty q.1)).trans tc936) (by decide))).trans efq921_0
                                have s953 := (fh938 m 40 (fun q => absurd (((tm).symm.trans (congrArg ty q.1)).trans tc936) (by decide))).trans ec936
                                have pr954 := gEl.set (i := k) (z := k) uq tc936 (by decide) eh938 (by omega) (by omega)
                                refine gz_s 1 (pc' := 254) (L' := [some (.ref m), some (.int (zi mk)), some (.int (zi bg)), some (.int (zi n)), some (.int (zi z39)), some (.int (zi k)), some (.int (zi ((p0 + 1) + (2 * k)))), some (.int (zi k)), some (.int (zi z839))]) (S' := [.ref m]) rfl ?_
                                refine gs_gtr rfl (by decide) rfl sh938.1 tm rfl rfl rfl (fun c955 ec955 tc955 => ?_)
                                refine gz_s 3 (pc' := 263) (L' := [some (.ref m), some (.int (zi mk)), some (.int (zi bg)), some (.int (zi n)), some (.int (zi z39)), some (.int (zi k)), some (.int (zi ((p0 + 1) + (2 * k)))), some (.int (zi k)), some (.int (zi z839))]) (S' := [.int (zi 16), .int (zi z839), .int (zi k), .ref c955]) rfl ?_
                                refine gy_div rfl (by decide) (by omega) (by omega) ?_
                                have hl956 : 3 ≤ h938.2.2.2.1 c955 ∧ h938.2.2.2.1 c955 ≤ 3 := gJ.rowl (G := gGG) sh938.1 tc955 rfl
                                refine gs_ast rfl (by decide) sh938 tc955 rfl rfl rfl (by decide) (fun _ => rfl) (by omega) (by omega) (fun _ => (by decide : (21999 : Nat) ∈ ([1005, 1007, 1024, 1039, 1041, 1042, 1043, 1044, 1045, 1046, 1047, 1048, 20999, 21999, 22999, 23999, 24999, 25999] : List Nat))) (by omega) (by omega) (fun h957 sh957 eh957 fh957 => ?_)
                                have pr958 := gPi.pt fh957 tc955 (by decide) pr939
                                have pr959 := gPic.pt fh957 tc955 (by decide) pr940
                                have pr960 := gEl.pt fh957 tc955 (by decide) pr954
                                have s961 := (fh957 m 5 (fun q => absurd (((tm).symm.trans (congrArg ty q.1)).trans tc955) (by decide))).trans s941
                                have s962 := (fh957 m 6 (fun q => absurd (((tm).symm.trans (congrArg ty q.1)).trans tc955) (by decide))).trans s942
                                have s963 := (fh957 m 3 (fun q => absurd (((tm).symm.trans (congrArg ty q.1)).trans tc955) (by decide))).trans s943
                                have s964 := (fh957 m 16 (fun q => absurd (((tm).symm.trans (congrArg ty q.1)).trans tc955) (by decide))).trans s944
                                have s965 := (fh957 m 18 (fun q => absurd (((tm).symm.trans (congrArg ty q.1)).trans tc955) (by decide))).trans s945
                                have s966 := (fh957 m 19 (fun q => absurd (((tm).symm.trans (congrArg ty q.1)).trans tc955) (by decide))).trans s946
                                have s967 := (fh957 m 21 (fun q => absurd (((tm).symm.trans (congrArg ty q.1)).trans tc955) (by decide))).trans s947
                                have s968 := (fh957 m 22 (fun q => absurd (((tm).symm.trans (congrArg ty q.1)).trans tc955) (by decide))).trans s948
                                have s969 := (fh957 m 20 (fun q => absurd (((tm).symm.trans (congrArg ty q.1)).trans tc955) (by decide))).trans s949
                                have s970 := (fh957 m 4 (fun q => absurd (((tm).symm.trans (congrArg ty q.1)).trans tc955) (by decide))).trans s950
                                have s971 := (fh957 m 25 (fun q => absurd (((tm).symm.trans (congrArg ty q.1)).trans tc955) (by decide))).trans s951
                                have s972 := (fh957 m 7 (fun q => absurd (((tm).symm.trans (congrArg ty q.1)).trans tc955) (by decide))).trans s952
                                have s973 := (fh957 m 40 (fun q => absurd (((tm).symm.trans (congrArg ty q.1)).trans tc955) (by decide))).trans s953
                                have s974 := (fh957 m 35 (fun q => absurd (((tm).symm.trans (congrArg ty q.1)).trans tc955) (by decide))).trans ec955
                                have pr975 := gEl.set (i := k) (z := z839 / 16) uq tc955 (by decide) eh957 (by omega) (by omega)
                                refine gz_s 1 (pc' := 266) (L' := [some (.ref m), some (.int (zi mk)), some (.int (zi bg)), some (.int (zi n)), some (.int (zi z39)), some (.int (zi k)), some (.int (zi ((p0 + 1) + (2 * k)))), some (.int (zi k)), some (.int (zi z839))]) (S' := [.ref m]) rfl ?_
                                refine gs_gtr rfl (by decide) rfl sh957.1 tm rfl rfl rfl (fun c976 ec976 tc976 => ?_)
                                refine gz_s 4 (pc' := 276) (L' := [some (.ref m), some (.int (zi mk)), some (.int (zi bg)), some (.int (zi n)), some (.int (zi z39)), some (.int (zi k)), some (.int (zi ((p0 + 1) + (2 * k)))), some (.int (zi k)), some (.int (zi z839))]) (S' := [.int (zi 16), .int (zi z839), .int (zi 4), .int (zi k), .ref c976]) rfl ?_
                                refine gy_rem rfl (by decide) (by omega) (by omega) ?_
                                refine gy_s 1 (pc' := 278) (L' := [some (.ref m), some (.int (zi mk)), some (.int (zi bg)), some (.int (zi n)), some (.int (zi z39)), some (.int (zi k)), some (.int (zi ((p0 + 1) + (2 * k)))), some (.int (zi k)), some (.int (zi z839))]) (S' := [.int ((zi 4) + (zi (z839 % 16))), .int (zi k), .ref c976]) (L2 := [some (.ref m), some (.int (zi mk)), some (.int (zi bg)), some (.int (zi n)), some (.int (zi z39)), some (.int (zi k)), some (.int (zi ((p0 + 1) + (2 * k)))), some (.int (zi k)), some (.int (zi z839))]) (S2 := [.int (zi (4 + (z839 % 16))), .int (zi k), .ref c976]) rfl (by simp only [zi_add, zi_sub, zi_mul, zi_neg, zi_and1, zi_and7, zi_and15, zi_and31, zi_and255]) (by simp only [zi_add, zi_sub, zi_mul, zi_neg, zi_and1, zi_and7, zi_and15, zi_and31, zi_and255]) ?_
                                have hl977 : 3 ≤ h957.2.2.2.1 c976 ∧ h957.2.2.2.1 c976 ≤ 3 := gJ.rowl (G := gGG) sh957.1 tc976 rfl
                                refine gs_ast rfl (by decide) sh957 tc976 rfl rfl rfl (by decide) (fun _ => rfl) (by omega) (by omega) (fun _ => (by decide : (22999 : Nat) ∈ ([1005, 1007, 1024, 1039, 1041, 1042, 1043, 1044, 1045, 1046, 1047, 1048, 20999, 21999, 22999, 23999, 24999, 25999] : List Nat))) (by omega) (by omega) (fun h978 sh978 eh978 fh978 => ?_)
                                have pr979 := gPi.pt fh978 tc976 (by decide) pr958
                                have pr980 := gPic.pt fh978 tc976 (by decide) pr959
                                have pr981 := gEl.pt fh978 tc976 (by decide) pr960
                                have pr982 := gEl.pt fh978 tc976 (by decide) pr975
                                have s983 := (fh978 m 5 (fun q => absurd (((tm).symm.trans (congrArg ty q.1)).trans tc976) (by decide))).trans s961
                                have s984 := (fh978 m 6 (fun q => absurd (((tm).symm.trans (congrArg ty q.1)).trans tc976) (by decide))).trans s962
                                have s985 := (fh978 m 3 (fun q => absurd (((tm).symm.trans (congrArg ty q.1)).trans tc976) (by decide))).trans s963
                                have s986 := (fh978 m 16 (fun q => absurd (((tm).symm.trans (congrArg ty q.1)).trans tc976) (by decide))).trans s964
                                have s987 := (fh978 m 18 (fun q => absurd (((tm).symm.trans (congrArg ty q.1)).trans tc976) (by decide))).trans s965
                                have s988 := (fh978 m 19 (fun q => absurd (((tm).symm.trans (congrArg ty q.1)).trans tc976) (by decide))).trans s966
                                have s989 := (fh978 m 21 (fun q => absurd (((tm).symm.trans (congrArg ty q.1)).trans tc976) (by decide))).trans s967
                                have s990 := (fh978 m 22 (fun q => absurd (((tm).symm.trans (congrArg ty q.1)).trans tc976) (by decide))).trans s968
                                have s991 := (fh978 m 20 (fun q => absurd (((tm).symm.trans (congrArg ty q.1)).trans tc976) (by decide))).trans s969
                                have s992 := (fh978 m 4 (fun q => absurd (((tm).symm.trans (congrArg ty q.1)).trans tc976) (by decide))).trans s970
                                have s993 := (fh978 m 25 (fun q => absurd (((tm).symm.trans (congrArg ty q.1)).trans tc976) (by decide))).trans s971
                                have s994 := (fh978 m 7 (fun q => absurd (((tm).symm.trans (congrArg ty q.1)).trans tc976) (by decide))).trans s972
                                have s995 := (fh978 m 40 (fun q => absurd (((tm).symm.trans (congrArg ty q.1)).trans tc976) (by decide))).trans s973
                                have s996 := (fh978 m 35 (fun q => absurd (((tm).symm.trans (congrArg ty q.1)).trans tc976) (by decide))).trans s974
                                have s997 := (fh978 m 36 (fun q => absurd (((tm).symm.trans (congrArg ty q.1)).trans tc976) (by decide))).trans ec976
                                have pr998 := gEl.set (i := k) (z := 4 + (z839 % 16)) uq tc976 (by decide) eh978 (by omega) (by omega)
                                have hsb999 : gSbc ty fq921_0 (k + 1) bs h978 := gSbc.step (b := k) (v1 := z839 / 16) (v2 := 4 + (z839 % 16)) uq tc936 tc955 tc976 fh938 eh938 fh957 eh957 fh978 eh978 (by omega) (by omega) (by omega) pr935
                                refine gy_s 2 (pc' := 102) (L' := [some (.ref m), some (.int (zi mk)), some (.int (zi bg)), some (.int (zi n)), some (.int (zi z39)), some (.int ((zi k) + zi 1)), some (.int (zi ((p0 + 1) + (2 * k)))), some (.int (zi k)), some (.int (zi z839))]) (S' := []) (L2 := [some (.ref m), some (.int (zi mk)), some (.int (zi bg)), some (.int (zi n)), some (.int (zi z39)), some (.int (zi (k + 1))), some (.int (zi ((p0 + 1) + (2 * k)))), some (.int (zi k)), some (.int (zi z839))]) (S2 := []) rfl (by simp only [zi_add, zi_sub, zi_mul, zi_neg, zi_and1, zi_and7, zi_and15, zi_and31, zi_and255]) (by simp only [zi_add, zi_sub, zi_mul, zi_neg, zi_and1, zi_and7, zi_and15, zi_and31, zi_and255]) ?_
                                exact gz_wk (ihlp83 h978 (k + 1) fq921_0 (by omega) sh978 (by omega) (by omega) (by omega) s983 s984 s985 s986 s987 s988 s989 s990 s991 s992 s994 pr979 pr980 hsb999) (gLw.s (gLw.s (gLw.s (gLw.s (gLw.s (gLw.s (gLw.n (gLw.n (gLw.n gLw.z)))))))))
                              · refine gy_icF rfl (by decide) (by decide) (by omega) (by omega) hc920 ?_
                                refine gy_s 5 (pc' := 240) (L' := [some (.ref m), some (.int (zi mk)), some (.int (zi bg)), some (.int (zi n)), some (.int (zi z39)), some (.int (zi k)), some (.int (zi ((p0 + 1) + (2 * k)))), some (.int (zi k)), some (.int (zi z839))]) (S' := [.int ((zi ((p0 + 1) + (2 * k))) + (zi 1)), .int (zi 1), .ref m]) (L2 := [some (.ref m), some (.int (zi mk)), some (.int (zi bg)), some (.int (zi n)), some (.int (zi z39)), some (.int (zi k)), some (.int (zi ((p0 + 1) + (2 * k)))), some (.int (zi k)), some (.int (zi z839))]) (S2 := [.int (zi (((p0 + 1) + (2 * k)) + 1)), .int (zi 1), .ref m]) rfl (by simp only [zi_add, zi_sub, zi_mul, zi_neg, zi_and1, zi_and7, zi_and15, zi_and31, zi_and255]) (by simp only [zi_add, zi_sub, zi_mul, zi_neg, zi_and1, zi_and7, zi_and15, zi_and31, zi_and255]) ?_
                                refine gz_call rfl (by decide) rfl (by decide) (by decide) (gcal_of rfl rfl rfl (Nat.le_of_ble_eq_true rfl) (gJ.recv (G := gGG) sq823.1 tm rfl rfl)) (mm_must _ sq823.1 m tm 1 (by omega) (((p0 + 1) + (2 * k)) + 1) (by omega) fq823_0 efq823_0 (by omega)) (fun q1000 _ wq1000 => ?_)
                                obtain ⟨pq1000, oq1000, hq1000⟩ := q1000
                                obtain ⟨xq1000, zq1000, fq1000_0, gq1000, aq1000, bq1000, efq1000_0, afq1000_0, bfq1000_0, uq1000_0, uq1000_1⟩ := wq1000
                                refine ⟨_, gq1000, ?_⟩
                                show gz gPP gGG gcn _ _ 243 [some (.ref m), some (.int (zi mk)), some (.int (zi bg)), some (.int (zi n)), some (.int (zi z39)), some (.int (zi k)), some (.int (zi ((p0 + 1) + (2 * k)))), some (.int (zi k)), some (.int (zi z839))] [.int (zi zq1000)] hq1000 _
                                have sq1000 := gSs.tr sq823 xq1000 (by decide)
                                have s1001 := (xq1000.2.2.2.2.2 m 5 (by rw [tm]; decide)).trans s824
                                have s1002 := (xq1000.2.2.2.2.2 m 6 (by rw [tm]; decide)).trans s825
                                have s1003 := (xq1000.2.2.2.2.2 m 3 (by rw [tm]; decide)).trans s826
                                have s1004 := (xq1000.2.2.2.2.2 m 16 (by rw [tm]; decide)).trans s827
                                have s1005 := (xq1000.2.2.2.2.2 m 18 (by rw [tm]; decide)).trans s828
                                have s1006 := (xq1000.2.2.2.2.2 m 19 (by rw [tm]; decide)).trans s829
                                have s1007 := (xq1000.2.2.2.2.2 m 21 (by rw [tm]; decide)).trans s830
                                have s1008 := (xq1000.2.2.2.2.2 m 22 (by rw [tm]; decide)).trans s831
                                have s1009 := (xq1000.2.2.2.2.2 m 20 (by rw [tm]; decide)).trans s832
                                have s1010 := (xq1000.2.2.2.2.2 m 4 (by rw [tm]; decide)).trans s833
                                have s1011 := (xq1000.2.2.2.2.2 m 25 (by rw [tm]; decide)).trans s834
                                have pr1012 := gPi.fr xq1000.2 (by decide) pr835
                                have pr1013 := gPic.fr xq1000.2 (by decide) pr836
                                have pr1014 := gSbc.fr xq1000.2 (by decide) pr837
                                refine gz_s 1 (pc' := 244) (L' := [some (.ref m), some (.int (zi mk)), some (.int (zi bg)), some (.int (zi n)), some (.int (zi z39)), some (.int (zi k)), some (.int (zi ((p0 + 1) + (2 * k)))), some (.int (zi k)), some (.int (zi z839))]) (S' := []) rfl ?_
                                refine gz_s 1 (pc' := 245) (L' := [some (.ref m), some (.int (zi mk)), some (.int (zi bg)), some (.int (zi n)), some (.int (zi z39)), some (.int (zi k)), some (.int (zi ((p0 + 1) + (2 * k)))), some (.int (zi k)), some (.int (zi z839))]) (S' := [.ref m]) rfl ?_
                                refine gs_gtr rfl (by decide) rfl sq1000.1 tm rfl rfl rfl (fun c1015 ec1015 tc1015 => ?_)
                                refine gz_s 2 (pc' := 252) (L' := [some (.ref m), some (.int (zi mk)), some (.int (zi bg)), some (.int (zi n)), some (.int (zi z39)), some (.int (zi k)), some (.int (zi ((p0 + 1) + (2 * k)))), some (.int (zi k)), some (.int (zi z839))]) (S' := [.int (zi k), .int (zi k), .ref c1015]) rfl ?_
                                have hl1016 : 3 ≤ hq1000.2.2.2.1 c1015 ∧ hq1000.2.2.2.1 c1015 ≤ 3 := gJ.rowl (G := gGG) sq1000.1 tc1015 rfl
                                refine gs_ast rfl (by decide) sq1000 tc1015 rfl rfl rfl (by decide) (fun _ => rfl) (by omega) (by omega) (fun _ => (by decide : (25999 : Nat) ∈ ([1005, 1007, 1024, 1039, 1041, 1042, 1043, 1044, 1045, 1046, 1047, 1048, 20999, 21999, 22999, 23999, 24999, 25999] : List Nat))) (by omega) (by omega) (fun h1017 sh1017 eh1017 fh1017 => ?_)
                                have pr1018 := gPi.pt fh1017 tc1015 (by decide) pr1012
                                have pr1019 := gPic.pt fh1017 tc1015 (by decide) pr1013
                                have s1020 := (fh1017 m 5 (fun q => absurd (((tm).symm.trans (congrArg ty q.1)).trans tc1015) (by decide))).trans s1001
                                have s1021 := (fh1017 m 6 (fun q => absurd (((tm).symm.trans (congrArg ty q.1)).trans tc1015) (by decide))).trans s1002
                                have s1022 := (fh1017 m 3 (fun q => absurd (((tm).symm.trans (congrArg ty q.1)).trans tc1015) (by decide))).trans s1003
                                have s1023 := (fh1017 m 16 (fun q => absurd (((tm).symm.trans (congrArg ty q.1)).trans tc1015) (by decide))).trans s1004
                                have s1024 := (fh1017 m 18 (fun q => absurd (((tm).symm.trans (congrArg ty q.1)).trans tc1015) (by decide))).trans s1005
                                have s1025 := (fh1017 m 19 (fun q => absurd (((tm).symm.trans (congrArg ty q.1)).trans tc1015) (by decide))).trans s1006
                                have s1026 := (fh1017 m 21 (fun q => absurd (((tm).symm.trans (congrArg ty q.1)).trans tc1015) (by decide))).trans s1007
                                have s1027 := (fh1017 m 22 (fun q => absurd (((tm).symm.trans (congrArg ty q.1)).trans tc1015) (by decide))).trans s1008
                                have s1028 := (fh1017 m 20 (fun q => absurd (((tm).symm.trans (congrArg ty q.1)).trans tc1015) (by decide))).trans s1009
                                have s1029 := (fh1017 m 4 (fun q => absurd (((tm).symm.trans (congrArg ty q.1)).trans tc1015) (by decide))).trans s1010
                                have s1030 := (fh1017 m 25 (fun q => absurd (((tm).symm.trans (congrArg ty q.1)).trans tc1015) (by decide))).trans s1011
                                have s1031 := (fh1017 m 7 (fun q => absurd (((tm).symm.trans (congrArg ty q.1)).trans tc1015) (by decide))).trans efq1000_0
                                have s1032 := (fh1017 m 40 (fun q => absurd (((tm).symm.trans (congrArg ty q.1)).trans tc1015) (by decide))).trans ec1015
                                have pr1033 := gEl.set (i := k) (z := k) uq tc1015 (by decide) eh1017 (by omega) (by omega)
                                refine gz_s 1 (pc' := 254) (L' := [some (.ref m), some (.int (zi mk)), some (.int (zi bg)), some (.int (zi n)), some (.int (zi z39)), some (.int (zi k)), some (.int (zi ((p0 + 1) + (2 * k)))), some (.int (zi k)), some (.int (zi z839))]) (S' := [.ref m]) rfl ?_
                                refine gs_gtr rfl (by decide) rfl sh1017.1 tm rfl rfl rfl (fun c1034 ec1034 tc1034 => ?_)
                                refine gz_s 3 (pc' := 263) (L' := [some (.ref m), some (.int (zi mk)), some (.int (zi bg)), some (.int (zi n)), some (.int (zi z39)), some (.int (zi k)), some (.int (zi ((p0 + 1) + (2 * k)))), some (.int (zi k)), some (.int (zi z839))]) (S' := [.int (zi 16), .int (zi z839), .int (zi k), .ref c1034]) rfl ?_
                                refine gy_div rfl (by decide) (by omega) (by omega) ?_
                                have hl1035 : 3 ≤ h1017.2.2.2.1 c1034 ∧ h1017.2.2.2.1 c1034 ≤ 3 := gJ.rowl (G := gGG) sh1017.1 tc1034 rfl
                                refine gs_ast rfl (by decide) sh1017 tc1034 rfl rfl rfl (by decide) (fun _ => rfl) (by omega) (by omega) (fun _ => (by decide : (21999 : Nat) ∈ ([1005, 1007, 1024, 1039, 1041, 1042, 1043, 1044, 1045, 1046, 1047, 1048, 20999, 21999, 22999, 23999, 24999, 25999] : List Nat))) (by omega) (by omega) (fun h1036 sh1036 eh1036 fh1036 => ?_)
                                have pr1037 := gPi.pt fh1036 tc1034 (by decide) pr1018
                                have pr1038 := gPic.pt fh1036 tc1034 (by decide) pr1019
                                have pr1039 := gEl.pt fh1036 tc1034 (by decide) pr1033
                                have s1040 := (fh1036 m 5 (fun q => absurd (((tm).symm.trans (congrArg ty q.1)).trans tc1034) (by decide))).trans s1020
                                have s1041 := (fh1036 m 6 (fun q => absurd (((tm).symm.trans (congrArg ty q.1)).trans tc1034) (by decide))).trans s1021
                                have s1042 := (fh1036 m 3 (fun q => absurd (((tm).symm.trans (congrArg ty q.1)).trans tc1034) (by decide))).trans s1022
                                have s1043 := (fh1036 m 16 (fun q => absurd (((tm).symm.trans (congrArg ty q.1)).trans tc1034) (by decide))).trans s1023
                                have s1044 := (fh1036 m 18 (fun q => absurd (((tm).symm.trans (congrArg ty q.1)).trans tc1034) (by decide))).trans s1024
                                have s1045 := (fh1036 m 19 (fun q => absurd (((tm).symm.trans (congrArg ty q.1)).trans tc1034) (by decide))).trans s1025
                                have s1046 := (fh1036 m 21 (fun q => absurd (((tm).symm.trans (congrArg ty q.1)).trans tc1034) (by decide))).trans s1026
                                have s1047 := (fh1036 m 22 (fun q => absurd (((tm).symm.trans (congrArg ty q.1)).trans tc1034) (by decide))).trans s1027
                                have s1048 := (fh1036 m 20 (fun q => absurd (((tm).symm.trans (congrArg ty q.1)).trans tc1034) (by decide))).trans s1028
                                have s1049 := (fh1036 m 4 (fun q => absurd (((tm).symm.trans (congrArg ty q.1)).trans tc1034) (by decide))).trans s1029
                                have s1050 := (fh1036 m 25 (fun q => absurd (((tm).symm.trans (congrArg ty q.1)).trans tc1034) (by decide))).trans s1030
                                have s1051 := (fh1036 m 7 (fun q => absurd (((tm).symm.trans (congrArg ty q.1)).trans tc1034) (by decide))).trans s1031
                                have s1052 := (fh1036 m 40 (fun q => absurd (((tm).symm.trans (congrArg ty q.1)).trans tc1034) (by decide))).trans s1032
                                have s1053 := (fh1036 m 35 (fun q => absurd (((tm).symm.trans (congrArg ty q.1)).trans tc1034) (by decide))).trans ec1034
                                have pr1054 := gEl.set (i := k) (z := z839 / 16) uq tc1034 (by decide) eh1036 (by omega) (by omega)
                                refine gz_s 1 (pc' := 266) (L' := [some (.ref m), some (.int (zi mk)), some (.int (zi bg)), some (.int (zi n)), some (.int (zi z39)), some (.int (zi k)), some (.int (zi ((p0 + 1) + (2 * k)))), some (.int (zi k)), some (.int (zi z839))]) (S' := [.ref m]) rfl ?_
                                refine gs_gtr rfl (by decide) rfl sh1036.1 tm rfl rfl rfl (fun c1055 ec1055 tc1055 => ?_)
                                refine gz_s 4 (pc' := 276) (L' := [some (.ref m), some (.int (zi mk)), some (.int (zi bg)), some (.int (zi n)), some (.int (zi z39)), some (.int (zi k)), some (.int (zi ((p0 + 1) + (2 * k)))), some (.int (zi k)), some (.int (zi z839))]) (S' := [.int (zi 16), .int (zi z839), .int (zi 4), .int (zi k), .ref c1055]) rfl ?_
                                refine gy_rem rfl (by decide) (by omega) (by omega) ?_
                                refine gy_s 1 (pc' := 278) (L' := [some (.ref m), some (.int (zi mk)), some (.int (zi bg)), some (.int (zi n)), some (.int (zi z39)), some (.int (zi k)), some (.int (zi ((p0 + 1) + (2 * k)))), some (.int (zi k)), some (.int (zi z839))]) (S' := [.int ((zi 4) + (zi (z839 % 16))), .int (zi k), .ref c1055]) (L2 := [some (.ref m), some (.int (zi mk)), some (.int (zi bg)), some (.int (zi n)), some (.int (zi z39)), some (.int (zi k)), some (.int (zi ((p0 + 1) + (2 * k)))), some (.int (zi k)), some (.int (zi z839))]) (S2 := [.int (zi (4 + (z839 % 16))), .int (zi k), .ref c1055]) rfl (by simp only [zi_add, zi_sub, zi_mul, zi_neg, zi_and1, zi_and7, zi_and15, zi_and31, zi_and255]) (by simp only [zi_add, zi_sub, zi_mul, zi_neg, zi_and1, zi_and7, zi_and15, zi_and31, zi_and255]) ?_
                                have hl1056 : 3 ≤ h1036.2.2.2.1 c1055 ∧ h1036.2.2.2.1 c1055 ≤ 3 := gJ.rowl (G := gGG) sh1036.1 tc1055 rfl
                                refine gs_ast rfl (by decide) sh1036 tc1055 rfl rfl rfl (by decide) (fun _ => rfl) (by omega) (by omega) (fun _ => (by decide : (22999 : Nat) ∈ ([1005, 1007, 1024, 1039, 1041, 1042, 1043, 1044, 1045, 1046, 1047, 1048, 20999, 21999, 22999, 23999, 24999, 25999] : List Nat))) (by omega) (by omega) (fun h1057 sh1057 eh1057 fh1057 => ?_)
                                have pr1058 := gPi.pt fh1057 tc1055 (by decide) pr1037
                                have pr1059 := gPic.pt fh1057 tc1055 (by decide) pr1038
                                have pr1060 := gEl.pt fh1057 tc1055 (by decide) pr1039
                                have pr1061 := gEl.pt fh1057 tc1055 (by decide) pr1054
                                have s1062 := (fh1057 m 5 (fun q => absurd (((tm).symm.trans (congrArg ty q.1)).trans tc1055) (by decide))).trans s1040
                                have s1063 := (fh1057 m 6 (fun q => absurd (((tm).symm.trans (congrArg ty q.1)).trans tc1055) (by decide))).trans s1041
                                have s1064 := (fh1057 m 3 (fun q => absurd (((tm).symm.trans (congrArg ty q.1)).trans tc1055) (by decide))).trans s1042
                                have s1065 := (fh1057 m 16 (fun q => absurd (((tm).symm.trans (congrArg ty q.1)).trans tc1055) (by decide))).trans s1043
                                have s1066 := (fh1057 m 18 (fun q => absurd (((tm).symm.trans (congrArg ty q.1)).trans tc1055) (by decide))).trans s1044
                                have s1067 := (fh1057 m 19 (fun q => absurd (((tm).symm.trans (congrArg ty q.1)).trans tc1055) (by decide))).trans s1045
                                have s1068 := (fh1057 m 21 (fun q => absurd (((tm).symm.trans (congrArg ty q.1)).trans tc1055) (by decide))).trans s1046
                                have s1069 := (fh1057 m 22 (fun q => absurd (((tm).symm.trans (congrArg ty q.1)).trans tc1055) (by decide))).trans s1047
                                have s1070 := (fh1057 m 20 (fun q => absurd (((tm).symm.trans (congrArg ty q.1)).trans tc1055) (by decide))).trans s1048
                                have s1071 := (fh1057 m 4 (fun q => absurd (((tm).symm.trans (congrArg ty q.1)).trans tc1055) (by decide))).trans s1049
                                have s1072 := (fh1057 m 25 (fun q => absurd (((tm).symm.trans (congrArg ty q.1)).trans tc1055) (by decide))).trans s1050
                                have s1073 := (fh1057 m 7 (fun q => absurd (((tm).symm.trans (congrArg ty q.1)).trans tc1055) (by decide))).trans s1051
                                have s1074 := (fh1057 m 40 (fun q => absurd (((tm).symm.trans (congrArg ty q.1)).trans tc1055) (by decide))).trans s1052
                                have s1075 := (fh1057 m 35 (fun q => absurd (((tm).symm.trans (congrArg ty q.1)).trans tc1055) (by decide))).trans s1053
                                have s1076 := (fh1057 m 36 (fun q => absurd (((tm).symm.trans (congrArg ty q.1)).trans tc1055) (by decide))).trans ec1055
                                have pr1077 := gEl.set (i := k) (z := 4 + (z839 % 16)) uq tc1055 (by decide) eh1057 (by omega) (by omega)
                                have hsb1078 : gSbc ty fq1000_0 (k + 1) bs h1057 := gSbc.step (b := k) (v1 := z839 / 16) (v2 := 4 + (z839 % 16)) uq tc1015 tc1034 tc1055 fh1017 eh1017 fh1036 eh1036 fh1057 eh1057 (by omega) (by omega) (by omega) pr1014
                                refine gy_s 2 (pc' := 102) (L' := [some (.ref m), some (.int (zi mk)), some (.int (zi bg)), some (.int (zi n)), some (.int (zi z39)), some (.int ((zi k) + zi 1)), some (.int (zi ((p0 + 1) + (2 * k)))), some (.int (zi k)), some (.int (zi z839))]) (S' := []) (L2 := [some (.ref m), some (.int (zi mk)), some (.int (zi bg)), some (.int (zi n)), some (.int (zi z39)), some (.int (zi (k + 1))), some (.int (zi ((p0 + 1) + (2 * k)))), some (.int (zi k)), some (.int (zi z839))]) (S2 := []) rfl (by simp only [zi_add, zi_sub, zi_mul, zi_neg, zi_and1, zi_and7, zi_and15, zi_and31, zi_and255]) (by simp only [zi_add, zi_sub, zi_mul, zi_neg, zi_and1, zi_and7, zi_and15, zi_and31, zi_and255]) ?_
                                exact gz_wk (ihlp83 h1057 (k + 1) fq1000_0 (by omega) sh1057 (by omega) (by omega) (by omega) s1062 s1063 s1064 s1065 s1066 s1067 s1068 s1069 s1070 s1071 s1073 pr1058 pr1059 hsb1078) (gLw.s (gLw.s (gLw.s (gLw.s (gLw.s (gLw.s (gLw.n (gLw.n (gLw.n gLw.z)))))))))
                exact gz_wk (lp83 _ hq69 0 fq69_0 (Nat.lt_succ_self _) sq69 (by omega) (by omega) (by omega) s70 s71 s72 s73 s74 s75 s76 s77 s78 s79 efq69_0 pr80 pr81 hsb84) (gLw.s (gLw.s (gLw.s (gLw.s (gLw.s (gLw.s (gLw.n (gLw.n (gLw.n gLw.z)))))))))
              · refine gy_ifF rfl (by decide) (by decide) (by omega) hc82 ?_
                exact gz_end (I := .return_) (len := 1) rfl (Or.inl rfl) ⟨sq69, fq69_0, p0, rfl, efq69_0, (by omega), (by omega), s70, (by omega), (by omega), (by omega)⟩
        by_cases hc1079 : (z39 : Int) = 1
        · refine gy_icT (pc' := 59) rfl (by decide) (by decide) (by omega) (by omega) hc1079 ?_
          refine gz_s 2 (pc' := 64) (L' := [some (.ref m), some (.int (zi mk)), some (.int (zi bg)), some (.int (zi n)), some (.int (zi z39)), none, none, none, none]) (S' := [.int (zi 1), .ref m]) rfl ?_
          exact jn40 1 (by omega)
        · refine gy_icF rfl (by decide) (by decide) (by omega) (by omega) hc1079 ?_
          refine gz_s 2 (pc' := 53) (L' := [some (.ref m), some (.int (zi mk)), some (.int (zi bg)), some (.int (zi n)), some (.int (zi z39)), none, none, none, none]) (S' := [.ref m, .int (zi z39), .ref m]) rfl ?_
          refine gs_gtk rfl (by decide) rfl sq25.1 tm rfl rfl s34 ?_
          by_cases hc1080 : ¬ (z39 : Int) = bs
          · refine gy_icT (pc' := 63) rfl (by decide) (by decide) (by omega) (by omega) hc1080 ?_
            refine gz_s 1 (pc' := 64) (L' := [some (.ref m), some (.int (zi mk)), some (.int (zi bg)), some (.int (zi n)), some (.int (zi z39)), none, none, none, none]) (S' := [.int (zi 0), .ref m]) rfl ?_
            exact jn40 0 (by omega)
          · refine gy_icF rfl (by decide) (by decide) (by omega) (by omega) hc1080 ?_
            refine gz_s 2 (pc' := 64) (L' := [some (.ref m), some (.int (zi mk)), some (.int (zi bg)), some (.int (zi n)), some (.int (zi z39)), none, none, none, none]) (S' := [.int (zi 1), .ref m]) rfl ?_
            exact jn40 1 (by omega)
      · refine gy_ifF rfl (by decide) (by decide) (by omega) hc36 ?_
        exact gz_end (I := .return_) (len := 1) rfl (Or.inl rfl) ⟨sq25, fq25_0, p0, rfl, efq25_0, (by omega), (by omega), s26, (by omega), (by omega), (by omega)⟩
set_option maxRecDepth 20000 in
set_option maxHeartbeats 4000000 in
theorem mm_segment (d : Nat) {ty : Nat → Nat} {h : gH} (hJ : gJ rT 1027 ty h) (m : Nat) (tm : ty m = 1) (mm : Int) (rmm : 0 ≤ mm ∧ mm ≤ 255) (f0 : Int) (ef0 : h.2.2.2.2 m 7 = .int (zi f0)) (rf0 : (-1) ≤ f0 ∧ f0 ≤ (-1)) (p0 : Int) (ep0 : h.2.2.2.2 m 5 = .int (zi p0)) (rp0 : 1 ≤ p0 ∧ p0 ≤ 2000) (sz : Int) (esz : h.2.2.2.2 m 3 = .int (zi sz)) (rsz : 0 ≤ sz ∧ sz ≤ 2000) (ip : Int) (eip : h.2.2.2.2 m 16 = .int (zi ip)) (rip : 0 ≤ ip ∧ ip ≤ 1) (w : Int) (ew : h.2.2.2.2 m 18 = .int (zi w)) (rw : 0 ≤ w ∧ w ≤ 64) (hh : Int) (ehh : h.2.2.2.2 m 19 = .int (zi hh)) (rhh : 0 ≤ hh ∧ hh ≤ 64) (wd : Int) (ewd : h.2.2.2.2 m 21 = .int (zi wd)) (rwd : 0 ≤ wd ∧ wd ≤ 2) (hg : Int) (ehg : h.2.2.2.2 m 22 = .int (zi hg)) (rhg : 0 ≤ hg ∧ hg ≤ 2) (bs : Int) (ebs : h.2.2.2.2 m 20 = .int (zi bs)) (rbs : 0 ≤ bs ∧ bs ≤ 3) (uq : gUq ty) (hypi : gPi ty ip w hh wd hg bs h) : gz gPP gGG gcn (d + 9) gt137 0 (gent [.ref m, .int (zi mm)] 5) [] h (fun q _ => gSs rT 1027 ty [1005, 1006, 1007, 1008, 1016, 1017, 1018, 1019, 1020, 1021, 1022, 1023, 1024, 1039, 1041, 1042, 1043, 1044, 1045, 1046, 1047, 1048, 4999, 5999, 6999, 7999, 9999, 11999, 12999, 13999, 14999, 15999, 16999, 17999, 18999, 19999, 20999, 21999, 22999, 23999, 24999, 25999, 35999] h q.2.2 ∧ ∃ f1 p1 ip1 w1 hh1 wd1 hg1 bs1 : Int, gfin gt137 q.1 q.2.1 = some none ∧ q.2.2.2.2.2.2 m 7 = .int (zi f1) ∧ (-1) ≤ f1 ∧ f1 ≤ 4000 ∧ q.2.2.2.2.2.2 m 5 = .int (zi p1) ∧ 0 ≤ p1 ∧ p1 ≤ 4000 ∧ q.2.2.2.2.2.2 m 16 = .int (zi ip1) ∧ 0 ≤ ip1 ∧ ip1 ≤ 1 ∧ q.2.2.2.2.2.2 m 18 = .int (zi w1) ∧ 0 ≤ w1 ∧ w1 ≤ 64 ∧ q.2.2.2.2.2.2 m 19 = .int (zi hh1) ∧ 0 ≤ hh1 ∧ hh1 ≤ 64 ∧ q.2.2.2.2.2.2 m 21 = .int (zi wd1) ∧ 0 ≤ wd1 ∧ wd1 ≤ 2 ∧ q.2.2.2.2.2.2 m 22 = .int (zi hg1) ∧ 0 ≤ hg1 ∧ hg1 ≤ 2 ∧ q.2.2.2.2.2.2 m 20 = .int (zi bs1) ∧ 0 ≤ bs1 ∧ bs1 ≤ 3 ∧ (f1 = -1 → (p0 + 2 ≤ p1 ∧ p1 ≤ sz)) ∧ (gPi ty ip1 w1 hh1 wd1 hg1 bs1 q.2.2)) := by
  have hS : gSs rT 1027 ty [1005, 1006, 1007, 1008, 1016, 1017, 1018, 1019, 1020, 1021, 1022, 1023, 1024, 1039, 1041, 1042, 1043, 1044, 1045, 1046, 1047, 1048, 4999, 5999, 6999, 7999, 9999, 11999, 12999, 13999, 14999, 15999, 16999, 17999, 18999, 19999, 20999, 21999, 22999, 23999, 24999, 25999, 35999] h h := gSs.rf hJ
  refine gz_s 1 (pc' := 1) (L' := [some (.ref m), some (.int (zi mm)), none, none, none]) (S' := [.ref m]) rfl ?_
  refine gs_gtk rfl (by decide) rfl hS.1 tm rfl rfl ep0 ?_
  refine gy_s 4 (pc' := 8) (L' := [some (.ref m), some (.int (zi mm)), some (.int ((zi p0) - (zi 1))), none, none]) (S' := [.ref m]) (L2 := [some (.ref m), some (.int (zi mm)), some (.int (zi (p0 - 1))), none, none]) (S2 := [.ref m]) rfl (by simp only [zi_add, zi_sub, zi_mul, zi_neg, zi_and1, zi_and7, zi_and15, zi_and31, zi_and255]) (by simp only [zi_add, zi_sub, zi_mul, zi_neg, zi_and1, zi_and7, zi_and15, zi_and31, zi_and255]) ?_
  refine gs_gtk rfl (by decide) rfl hS.1 tm rfl rfl ep0 ?_
  refine gz_s 3 (pc' := 14) (L' := [some (.ref m), some (.int (zi mm)), some (.int (zi (p0 - 1))), some (.int (zi p0)), none]) (S' := [.int (zi p0), .ref m]) rfl ?_
  refine gz_call rfl (by decide) rfl (by decide) (by decide) (gcal_of rfl rfl rfl (Nat.le_of_ble_eq_true rfl) (gJ.recv (G := gGG) hS.1 tm rfl rfl)) (mm_two _ hS.1 m tm p0 (by omega) f0 ef0 (by omega) sz esz (by omega)) (fun q1 _ wq1 => ?_)
  obtain ⟨pq1, oq1, hq1⟩ := q1
  obtain ⟨xq1, zq1, fq1_0, gq1, aq1, bq1, efq1_0, afq1_0, bfq1_0, uq1_0⟩ := wq1
  refine ⟨_, gq1, ?_⟩
  show gz gPP gGG gcn _ _ 17 [some (.ref m), some (.int (zi mm)), some (.int (zi (p0 - 1))), some (.int (zi p0)), none] [.int (zi zq1)] hq1 _
  have sq1 := gSs.tr hS xq1 (by decide)
  have s2 := (xq1.2.2.2.2.2 m 5 (by rw [tm]; decide)).trans ep0
  have s3 := (xq1.2.2.2.2.2 m 3 (by rw [tm]; decide)).trans esz
  have s4 := (xq1.2.2.2.2.2 m 16 (by rw [tm]; decide)).trans eip
  have s5 := (xq1.2.2.2.2.2 m 18 (by rw [tm]; decide)).trans ew
  have s6 := (xq1.2.2.2.2.2 m 19 (by rw [tm]; decide)).trans ehh
  have s7 := (xq1.2.2.2.2.2 m 21 (by rw [tm]; decide)).trans ewd
  have s8 := (xq1.2.2.2.2.2 m 22 (by rw [tm]; decide)).trans ehg
  have s9 := (xq1.2.2.2.2.2 m 20 (by rw [tm]; decide)).trans ebs
  have pr10 := gPi.fr xq1.2 (by decide) hypi
  refine gz_s 2 (pc' := 20) (L' := [some (.ref m), some (.int (zi mm)), some (.int (zi (p0 - 1))), some (.int (zi p0)), some (.int (zi zq1))]) (S' := [.ref m]) rfl ?_
  refine gs_gtk rfl (by decide) rfl sq1.1 tm rfl rfl efq1_0 ?_
  refine gz_s 1 (pc' := 24) (L' := [some (.ref m), some (.int (zi mm)), some (.int (zi (p0 - 1))), some (.int (zi p0)), some (.int (zi zq1))]) (S' := [.int (zi (-1)), .int (zi fq1_0)]) rfl ?_
  by_cases hc11 : ¬ (fq1_0 : Int) = (-1)
  · refine gy_icT (pc' := 57) rfl (by decide) (by decide) (by omega) (by omega) hc11 ?_
    have hpi12 : gPi ty ip w hh wd hg bs hq1 := pr10
    exact gz_end (I := .return_) (len := 1) rfl (Or.inl rfl) ⟨sq1, fq1_0, p0, ip, w, hh, wd, hg, bs, rfl, efq1_0, (by omega), (by omega), s2, (by omega), (by omega), s4, (by omega), (by omega), s5, (by omega), (by omega), s6, (by omega), (by omega), s7, (by omega), (by omega), s8, (by omega), (by omega), s9, (by omega), (by omega), (by omega), hpi12⟩
  · refine gy_icF rfl (by decide) (by decide) (by omega) (by omega) hc11 ?_
    refine gz_s 3 (pc' := 31) (L' := [some (.ref m), some (.int (zi mm)), some (.int (zi (p0 - 1))), some (.int (zi p0)), some (.int (zi zq1))]) (S' := [.int (zi 2), .int (zi zq1), .ref m]) rfl ?_
    have jn13 : ∀ (jn13v0 : Int), ((0 ≤ jn13v0) ∧ (jn13v0 ≤ 1) ∧ (jn13v0 = 1 → (2 ≤ zq1 ∧ p0 + zq1 ≤ sz))) → gz gPP gGG gcn (d + 9) gt137 50 [some (.ref m), some (.int (zi mm)), some (.int (zi (p0 - 1))), some (.int (zi p0)), some (.int (zi zq1))] [.int (zi jn13v0), .ref m] hq1 (fun q _ => gSs rT 1027 ty [1005, 1006, 1007, 1008, 1016, 1017, 1018, 1019, 1020, 1021, 1022, 1023, 1024, 1039, 1041, 1042, 1043, 1044, 1045, 1046, 1047, 1048, 4999, 5999, 6999, 7999, 9999, 11999, 12999, 13999, 14999, 15999, 16999, 17999, 18999, 19999, 20999, 21999, 22999, 23999, 24999, 25999, 35999] h q.2.2 ∧ ∃ f1 p1 ip1 w1 hh1 wd1 hg1 bs1 : Int, gfin gt137 q.1 q.2.1 = some none ∧ q.2.2.2.2.2.2 m 7 = .int (zi f1) ∧ (-1) ≤ f1 ∧ f1 ≤ 4000 ∧ q.2.2.2.2.2.2 m 5 = .int (zi p1) ∧ 0 ≤ p1 ∧ p1 ≤ 4000 ∧ q.2.2.2.2.2.2 m 16 = .int (zi ip1) ∧ 0 ≤ ip1 ∧ ip1 ≤ 1 ∧ q.2.2.2.2.2.2 m 18 = .int (zi w1) ∧ 0 ≤ w1 ∧ w1 ≤ 64 ∧ q.2.2.2.2.2.2 m 19 = .int (zi hh1) ∧ 0 ≤ hh1 ∧ hh1 ≤ 64 ∧ q.2.2.2.2.2.2 m 21 = .int (zi wd1) ∧ 0 ≤ wd1 ∧ wd1 ≤ 2 ∧ q.2.2.2.2.2.2 m 22 = .int (zi hg1) ∧ 0 ≤ hg1 ∧ hg1 ≤ 2 ∧ q.2.2.2.2.2.2 m 20 = .int (zi bs1) ∧ 0 ≤ bs1 ∧ bs1 ≤ 3 ∧ (f1 = -1 → (p0 + 2 ≤ p1 ∧ p1 ≤ sz)) ∧ (gPi ty ip1 w1 hh1 wd1 hg1 bs1 q.2.2)) := by
      intro jn13v0 jn13d
      refine gz_s 1 (pc' := 51) (L' := [some (.ref m), some (.int (zi mm)), some (.int (zi (p0 - 1))), some (.int (zi p0)), some (.int (zi zq1))]) (S' := [.int (zi p0), .int (zi jn13v0), .ref m]) rfl ?_
      refine gz_call rfl (by decide) rfl (by decide) (by decide) (gcal_of rfl rfl rfl (Nat.le_of_ble_eq_true rfl) (gJ.recv (G := gGG) sq1.1 tm rfl rfl)) (mm_must _ sq1.1 m tm jn13v0 (by omega) p0 (by omega) fq1_0 efq1_0 (by omega)) (fun q14 _ wq14 => ?_)
      obtain ⟨pq14, oq14, hq14⟩ := q14
      obtain ⟨xq14, zq14, fq14_0, gq14, aq14, bq14, efq14_0, afq14_0, bfq14_0, uq14_0, uq14_1⟩ := wq14
      refine ⟨_, gq14, ?_⟩
      show gz gPP gGG gcn _ _ 54 [some (.ref m), some (.int (zi mm)), some (.int (zi (p0 - 1))), some (.int (zi p0)), some (.int (zi zq1))] [.int (zi zq14)] hq14 _
      have sq14 := gSs.tr sq1 xq14 (by decide)
      have s15 := (xq14.2.2.2.2.2 m 5 (by rw [tm]; decide)).trans s2
      have s16 := (xq14.2.2.2.2.2 m 3 (by rw [tm]; decide)).trans s3
      have s17 := (xq14.2.2.2.2.2 m 16 (by rw [tm]; decide)).trans s4
      have s18 := (xq14.2.2.2.2.2 m 18 (by rw [tm]; decide)).trans s5
      have s19 := (xq14.2.2.2.2.2 m 19 (by rw [tm]; decide)).trans s6
      have s20 := (xq14.2.2.2.2.2 m 21 (by rw [tm]; decide)).trans s7
      have s21 := (xq14.2.2.2.2.2 m 22 (by rw [tm]; decide)).trans s8
      have s22 := (xq14.2.2.2.2.2 m 20 (by rw [tm]; decide)).trans s9
      have pr23 := gPi.fr xq14.2 (by decide) pr10
      by_cases hc24 : ¬ (zq14 : Int) = 0
      · refine gy_ifT (pc' := 58) rfl (by decide) (by decide) (by omega) hc24 ?_
        refine gy_s 4 (pc' := 63) (L' := [some (.ref m), some (.int (zi mm)), some (.int (zi (p0 - 1))), some (.int (zi p0)), some (.int (zi zq1))]) (S' := [.int ((zi p0) + (zi zq1)), .ref m]) (L2 := [some (.ref m), some (.int (zi mm)), some (.int (zi (p0 - 1))), some (.int (zi p0)), some (.int (zi zq1))]) (S2 := [.int (zi (p0 + zq1)), .ref m]) rfl (by simp only [zi_add, zi_sub, zi_mul, zi_neg, zi_and1, zi_and7, zi_and15, zi_and31, zi_and255]) (by simp only [zi_add, zi_sub, zi_mul, zi_neg, zi_and1, zi_and7, zi_and15, zi_and31, zi_and255]) ?_
        refine gs_put rfl (by decide) rfl sq14 tm rfl rfl rfl rfl (Or.inl rfl) (by decide) (by omega) (by omega) (fun h25 sh25 eh25 fh25 => ?_)
        have pr26 := gPi.pt fh25 tm (by decide) pr23
        have s27 := (fh25 m 5 (fun q => absurd q.2 (by decide))).trans s15
        have s28 := (fh25 m 3 (fun q => absurd q.2 (by decide))).trans s16
        have s29 := (fh25 m 16 (fun q => absurd q.2 (by decide))).trans s17
        have s30 := (fh25 m 18 (fun q => absurd q.2 (by decide))).trans s18
        have s31 := (fh25 m 19 (fun q => absurd q.2 (by decide))).trans s19
        have s32 := (fh25 m 21 (fun q => absurd q.2 (by decide))).trans s20
        have s33 := (fh25 m 22 (fun q => absurd q.2 (by decide))).trans s21
        have s34 := (fh25 m 20 (fun q => absurd q.2 (by decide))).trans s22
        have s35 := (fh25 m 7 (fun q => absurd q.2 (by decide))).trans efq14_0
        refine gy_s 4 (pc' := 70) (L' := [some (.ref m), some (.int (zi mm)), some (.int (zi (p0 - 1))), some (.int (zi p0)), some (.int (zi zq1))]) (S' := [.int ((zi p0) + (zi 2)), .ref m]) (L2 := [some (.ref m), some (.int (zi mm)), some (.int (zi (p0 - 1))), some (.int (zi p0)), some (.int (zi zq1))]) (S2 := [.int (zi (p0 + 2)), .ref m]) rfl (by simp only [zi_add, zi_sub, zi_mul, zi_neg, zi_and1, zi_and7, zi_and15, zi_and31, zi_and255]) (by simp only [zi_add, zi_sub, zi_mul, zi_neg, zi_and1, zi_and7, zi_and15, zi_and31, zi_and255]) ?_
        refine gs_put rfl (by decide) rfl sh25 tm rfl rfl rfl rfl (Or.inl rfl) (by decide) (by omega) (by omega) (fun h36 sh36 eh36 fh36 => ?_)
        have pr37 := gPi.pt fh36 tm (by decide) pr26
        have s38 := (fh36 m 3 (fun q => absurd q.2 (by decide))).trans s28
        have s39 := (fh36 m 16 (fun q => absurd q.2 (by decide))).trans s29
        have s40 := (fh36 m 18 (fun q => absurd q.2 (by decide))).trans s30
        have s41 := (fh36 m 19 (fun q => absurd q.2 (by decide))).trans s31
        have s42 := (fh36 m 21 (fun q => absurd q.2 (by decide))).trans s32
        have s43 := (fh36 m 22 (fun q => absurd q.2 (by decide))).trans s33
        have s44 := (fh36 m 20 (fun q => absurd q.2 (by decide))).trans s34
        have s45 := (fh36 m 7 (fun q => absurd q.2 (by decide))).trans s35
        have s46 := (fh36 m 6 (fun q => absurd q.2 (by decide))).trans eh25
        refine gz_s 2 (pc' := 77) (L' := [some (.ref m), some (.int (zi mm)), some (.int (zi (p0 - 1))), some (.int (zi p0)), some (.int (zi zq1))]) (S' := [.int (zi 219), .int (zi mm)]) rfl ?_
        by_cases hc47 : ¬ (mm : Int) = 219
        · refine gy_icT (pc' := 106) rfl (by decide) (by decide) (by omega) (by omega) hc47 ?_
          refine gz_s 2 (pc' := 110) (L' := [some (.ref m), some (.int (zi mm)), some (.int (zi (p0 - 1))), some (.int (zi p0)), some (.int (zi zq1))]) (S' := [.int (zi 196), .int (zi mm)]) rfl ?_
          by_cases hc48 : ¬ (mm : Int) = 196
          · refine gy_icT (pc' := 139) rfl (by decide) (by decide) (by omega) (by omega) hc48 ?_
            refine gz_s 2 (pc' := 143) (L' := [some (.ref m), some (.int (zi mm)), some (.int (zi (p0 - 1))), some (.int (zi p0)), some (.int (zi zq1))]) (S' := [.int (zi 221), .int (zi mm)]) rfl ?_
            by_cases hc49 : ¬ (mm : Int) = 221
            · refine gy_icT (pc' := 180) rfl (by decide) (by decide) (by omega) (by omega) hc49 ?_
              refine gz_s 2 (pc' := 184) (L' := [some (.ref m), some (.int (zi mm)), some (.int (zi (p0 - 1))), some (.int (zi p0)), some (.int (zi zq1))]) (S' := [.int (zi 218), .int (zi mm)]) rfl ?_
              by_cases hc50 : ¬ (mm : Int) = 218
              · refine gy_icT (pc' := 196) rfl (by decide) (by decide) (by omega) (by omega) hc50 ?_
                refine gz_s 2 (pc' := 200) (L' := [some (.ref m), some (.int (zi mm)), some (.int (zi (p0 - 1))), some (.int (zi p0)), some (.int (zi zq1))]) (S' := [.int (zi 192), .int (zi mm)]) rfl ?_
                by_cases hc51 : (mm : Int) = 192
                · refine gy_icT (pc' := 210) rfl (by decide) (by decide) (by omega) (by omega) hc51 ?_
                  refine gz_s 3 (pc' := 215) (L' := [some (.ref m), some (.int (zi mm)), some (.int (zi (p0 - 1))), some (.int (zi p0)), some (.int (zi zq1))]) (S' := [.int (zi 194), .int (zi mm), .ref m]) rfl ?_
                  refine gy_icT (pc' := 222) rfl (by decide) (by decide) (by omega) (by omega) (by first | (simp [zc]; done) | (simp only [zc]; omega)) ?_
                  refine gz_s 4 (pc' := 227) (L' := [some (.ref m), some (.int (zi mm)), some (.int (zi (p0 - 1))), some (.int (zi p0)), some (.int (zi zq1))]) (S' := [.int (zi zq1), .int (zi p0), .int (zi (p0 - 1)), .int (zi 0), .ref m]) rfl ?_
                  refine gz_call rfl (by decide) rfl (by decide) (by decide) (gcal_of rfl rfl rfl (Nat.le_of_ble_eq_true rfl) (gJ.recv (G := gGG) sh36.1 tm rfl rfl)) (mm_readFrame _ sh36.1 m tm 0 (by omega) (p0 - 1) (by omega) p0 (by omega) zq1 (by omega) fq14_0 s45 (by omega) (p0 + 2) eh36 (by omega) (p0 + zq1) s46 (by omega) sz s38 (by omega) ip s39 (by omega) w s40 (by omega) hh s41 (by omega) wd s42 (by omega) hg s43 (by omega) bs s44 (by omega) (by omega) (by omega) uq pr37) (fun q52 _ wq52 => ?_)
                  obtain ⟨pq52, oq52, hq52⟩ := q52
                  obtain ⟨xq52, fq52_0, fq52_1, fq52_2, fq52_3, fq52_4, fq52_5, fq52_6, gq52, efq52_0, afq52_0, bfq52_0, efq52_1, afq52_1, bfq52_1, efq52_2, afq52_2, bfq52_2, efq52_3, afq52_3, bfq52_3, efq52_4, afq52_4, bfq52_4, efq52_5, afq52_5, bfq52_5, efq52_6, afq52_6, bfq52_6, yq52_0⟩ := wq52
                  refine ⟨_, gq52, ?_⟩
                  show gz gPP gGG gcn _ _ 230 [some (.ref m), some (.int (zi mm)), some (.int (zi (p0 - 1))), some (.int (zi p0)), some (.int (zi zq1))] [] hq52 _
                  have sq52 := gSs.tr sh36 xq52 (by decide)
                  have s53 := (xq52.2.2.2.2.2 m 3 (by rw [tm]; decide)).trans s38
                  have s54 := (xq52.2.2.2.2.2 m 6 (by rw [tm]; decide)).trans s46
                  have s55 := (xq52.2.2.2.2.2 m 5 (by rw [tm]; decide)).trans eh36
                  refine gz_s 3 (pc' := 274) (L' := [some (.ref m), some (.int (zi mm)), some (.int (zi (p0 - 1))), some (.int (zi p0)), some (.int (zi zq1))]) (S' := [.ref m, .ref m]) rfl ?_
                  refine gs_gtk rfl (by decide) rfl sq52.1 tm rfl rfl s54 ?_
                  refine gs_put rfl (by decide) rfl sq52 tm rfl rfl rfl rfl (Or.inl rfl) (by decide) (by omega) (by omega) (fun h56 sh56 eh56 fh56 => ?_)
                  have pr57 := gPi.pt fh56 tm (by decide) yq52_0
                  have s58 := (fh56 m 3 (fun q => absurd q.2 (by decide))).trans s53
                  have s59 := (fh56 m 6 (fun q => absurd q.2 (by decide))).trans s54
                  have s60 := (fh56 m 7 (fun q => absurd q.2 (by decide))).trans efq52_0
                  have s61 := (fh56 m 16 (fun q => absurd q.2 (by decide))).trans efq52_1
                  have s62 := (fh56 m 18 (fun q => absurd q.2 (by decide))).trans efq52_2
                  have s63 := (fh56 m 19 (fun q => absurd q.2 (by decide))).trans efq52_3
                  have s64 := (fh56 m 21 (fun q => absurd q.2 (by decide))).trans efq52_4
                  have s65 := (fh56 m 22 (fun q => absurd q.2 (by decide))).trans efq52_5
                  have s66 := (fh56 m 20 (fun q => absurd q.2 (by decide))).trans efq52_6
                  have hpi67 : gPi ty fq52_1 fq52_2 fq52_3 fq52_4 fq52_5 fq52_6 h56 := pr57
                  exact gz_end (I := .return_) (len := 1) rfl (Or.inl rfl) ⟨sh56, fq52_0, p0 + zq1, fq52_1, fq52_2, fq52_3, fq52_4, fq52_5, fq52_6, rfl, s60, (by omega), (by omega), eh56, (by omega), (by omega), s61, (by omega), (by omega), s62, (by omega), (by omega), s63, (by omega), (by omega), s64, (by omega), (by omega), s65, (by omega), (by omega), s66, (by omega), (by omega), (by omega), hpi67⟩
                · refine gy_icF rfl (by decide) (by decide) (by omega) (by omega) hc51 ?_
                  refine gz_s 2 (pc' := 207) (L' := [some (.ref m), some (.int (zi mm)), some (.int (zi (p0 - 1))), some (.int (zi p0)), some (.int (zi zq1))]) (S' := [.int (zi 194), .int (zi mm)]) rfl ?_
                  by_cases hc68 : ¬ (mm : Int) = 194
                  · refine gy_icT (pc' := 233) rfl (by decide) (by decide) (by omega) (by omega) hc68 ?_
                    refine gz_s 3 (pc' := 238) (L' := [some (.ref m), some (.int (zi mm)), some (.int (zi (p0 - 1))), some (.int (zi p0)), some (.int (zi zq1))]) (S' := [.int (zi 193), .int (zi mm), .ref m]) rfl ?_
                    have jn69 : ∀ (jn69v0 : Int), ((0 ≤ jn69v0) ∧ (jn69v0 ≤ 1)) → gz gPP gGG gcn (d + 9) gt137 267 [some (.ref m), some (.int (zi mm)), some (.int (zi (p0 - 1))), some (.int (zi p0)), some (.int (zi zq1))] [.int (zi jn69v0), .ref m] h36 (fun q _ => gSs rT 1027 ty [1005, 1006, 1007, 1008, 1016, 1017, 1018, 1019, 1020, 1021, 1022, 1023, 1024, 1039, 1041, 1042, 1043, 1044, 1045, 1046, 1047, 1048, 4999, 5999, 6999, 7999, 9999, 11999, 12999, 13999, 14999, 15999, 16999, 17999, 18999, 19999, 20999, 21999, 22999, 23999, 24999, 25999, 35999] h q.2.2 ∧ ∃ f1 p1 ip1 w1 hh1 wd1 hg1 bs1 : Int, gfin gt137 q.1 q.2.1 = some none ∧ q.2.2.2.2.2.2 m 7 = .int (zi f1) ∧ (-1) ≤ f1 ∧ f1 ≤ 4000 ∧ q.2.2.2.2.2.2 m 5 = .int (zi p1) ∧ 0 ≤ p1 ∧ p1 ≤ 4000 ∧ q.2.2.2.2.2.2 m 16 = .int (zi ip1) ∧ 0 ≤ ip1 ∧ ip1 ≤ 1 ∧ q.2.2.2.2.2.2 m 18 = .int (zi w1) ∧ 0 ≤ w1 ∧ w1 ≤ 64 ∧ q.2.2.2.2.2.2 m 19 = .int (zi hh1) ∧ 0 ≤ hh1 ∧ hh1 ≤ 64 ∧ q.2.2.2.2.2.2 m 21 = .int (zi wd1) ∧ 0 ≤ wd1 ∧ wd1 ≤ 2 ∧ q.2.2.2.2.2.2 m 22 = .int (zi hg1) ∧ 0 ≤ hg1 ∧ hg1 ≤ 2 ∧ q.2.2.2.2.2.2 m 20 = .int (zi bs1) ∧ 0 ≤ bs1 ∧ bs1 ≤ 3 ∧ (f1 = -1 → (p0 + 2 ≤ p1 ∧ p1 ≤ sz)) ∧ (gPi ty ip1 w1 hh1 wd1 hg1 bs1 q.2.2)) := by
                      intro jn69v0 jn69d
                      refine gz_s 1 (pc' := 268) (L' := [some (.ref m), some (.int (zi mm)), some (.int (zi (p0 - 1))), some (.int (zi p0)), some (.int (zi zq1))]) (S' := [.int (zi (p0 - 1)), .int (zi jn69v0), .ref m]) rfl ?_
                      refine gz_call rfl (by decide) rfl (by decide) (by decide) (gcal_of rfl rfl rfl (Nat.le_of_ble_eq_true rfl) (gJ.recv (G := gGG) sh36.1 tm rfl rfl)) (mm_must _ sh36.1 m tm jn69v0 (by omega) (p0 - 1) (by omega) fq14_0 s45 (by omega)) (fun q70 _ wq70 => ?_)
                      obtain ⟨pq70, oq70, hq70⟩ := q70
                      obtain ⟨xq70, zq70, fq70_0, gq70, aq70, bq70, efq70_0, afq70_0, bfq70_0, uq70_0, uq70_1⟩ := wq70
                      refine ⟨_, gq70, ?_⟩
                      show gz gPP gGG gcn _ _ 271 [some (.ref m), some (.int (zi mm)), some (.int (zi (p0 - 1))), some (.int (zi p0)), some (.int (zi zq1))] [.int (zi zq70)] hq70 _
                      have sq70 := gSs.tr sh36 xq70 (by decide)
                      have s71 := (xq70.2.2.2.2.2 m 3 (by rw [tm]; decide)).trans s38
                      have s72 := (xq70.2.2.2.2.2 m 16 (by rw [tm]; decide)).trans s39
                      have s73 := (xq70.2.2.2.2.2 m 18 (by rw [tm]; decide)).trans s40
                      have s74 := (xq70.2.2.2.2.2 m 19 (by rw [tm]; decide)).trans s41
                      have s75 := (xq70.2.2.2.2.2 m 21 (by rw [tm]; decide)).trans s42
                      have s76 := (xq70.2.2.2.2.2 m 22 (by rw [tm]; decide)).trans s43
                      have s77 := (xq70.2.2.2.2.2 m 20 (by rw [tm]; decide)).trans s44
                      have s78 := (xq70.2.2.2.2.2 m 6 (by rw [tm]; decide)).trans s46
                      have s79 := (xq70.2.2.2.2.2 m 5 (by rw [tm]; decide)).trans eh36
                      have pr80 := gPi.fr xq70.2 (by decide) pr37
                      refine gz_s 3 (pc' := 274) (L' := [some (.ref m), some (.int (zi mm)), some (.int (zi (p0 - 1))), some (.int (zi p0)), some (.int (zi zq1))]) (S' := [.ref m, .ref m]) rfl ?_
                      refine gs_gtk rfl (by decide) rfl sq70.1 tm rfl rfl s78 ?_
                      refine gs_put rfl (by decide) rfl sq70 tm rfl rfl rfl rfl (Or.inl rfl) (by decide) (by omega) (by omega) (fun h81 sh81 eh81 fh81 => ?_)
                      have pr82 := gPi.pt fh81 tm (by decide) pr80
                      have s83 := (fh81 m 3 (fun q => absurd q.2 (by decide))).trans s71
                      have s84 := (fh81 m 16 (fun q => absurd q.2 (by decide))).trans s72
                      have s85 := (fh81 m 18 (fun q => absurd q.2 (by decide))).trans s73
                      have s86 := (fh81 m 19 (fun q => absurd q.2 (by decide))).trans s74
                      have s87 := (fh81 m 21 (fun q => absurd q.2 (by decide))).trans s75
                      have s88 := (fh81 m 22 (fun q => absurd q.2 (by decide))).trans s76
                      have s89 := (fh81 m 20 (fun q => absurd q.2 (by decide))).trans s77
                      have s90 := (fh81 m 6 (fun q => absurd q.2 (by decide))).trans s78
                      have s91 := (fh81 m 7 (fun q => absurd q.2 (by decide))).trans efq70_0
                      have hpi92 : gPi ty ip w hh wd hg bs h81 := pr82
                      exact gz_end (I := .return_) (len := 1) rfl (Or.inl rfl) ⟨sh81, fq70_0, p0 + zq1, ip, w, hh, wd, hg, bs, rfl, s91, (by omega), (by omega), eh81, (by omega), (by omega), s84, (by omega), (by omega), s85, (by omega), (by omega), s86, (by omega), (by omega), s87, (by omega), (by omega), s88, (by omega), (by omega), s89, (by omega), (by omega), (by omega), hpi92⟩
                    by_cases hc93 : (mm : Int) < 193
                    · refine gy_icT (pc' := 262) rfl (by decide) (by decide) (by omega) (by omega) hc93 ?_
                      refine gz_s 2 (pc' := 267) (L' := [some (.ref m), some (.int (zi mm)), some (.int (zi (p0 - 1))), some (.int (zi p0)), some (.int (zi zq1))]) (S' := [.int (zi 1), .ref m]) rfl ?_
                      exact jn69 1 (by omega)
                    · refine gy_icF rfl (by decide) (by decide) (by omega) (by omega) hc93 ?_
                      refine gz_s 2 (pc' := 245) (L' := [some (.ref m), some (.int (zi mm)), some (.int (zi (p0 - 1))), some (.int (zi p0)), some (.int (zi zq1))]) (S' := [.int (zi 207), .int (zi mm), .ref m]) rfl ?_
                      by_cases hc94 : (207 : Int) < mm
                      · refine gy_icT (pc' := 262) rfl (by decide) (by decide) (by omega) (by omega) hc94 ?_
                        refine gz_s 2 (pc' := 267) (L' := [some (.ref m), some (.int (zi mm)), some (.int (zi (p0 - 1))), some (.int (zi p0)), some (.int (zi zq1))]) (S' := [.int (zi 1), .ref m]) rfl ?_
                        exact jn69 1 (by omega)
                      · refine gy_icF rfl (by decide) (by decide) (by omega) (by omega) hc94 ?_
                        refine gz_s 2 (pc' := 252) (L' := [some (.ref m), some (.int (zi mm)), some (.int (zi (p0 - 1))), some (.int (zi p0)), some (.int (zi zq1))]) (S' := [.int (zi 200), .int (zi mm), .ref m]) rfl ?_
                        by_cases hc95 : (mm : Int) = 200
                        · refine gy_icT (pc' := 262) rfl (by decide) (by decide) (by omega) (by omega) hc95 ?_
                          refine gz_s 2 (pc' := 267) (L' := [some (.ref m), some (.int (zi mm)), some (.int (zi (p0 - 1))), some (.int (zi p0)), some (.int (zi zq1))]) (S' := [.int (zi 1), .ref m]) rfl ?_
                          exact jn69 1 (by omega)
                        · refine gy_icF rfl (by decide) (by decide) (by omega) (by omega) hc95 ?_
                          refine gz_s 2 (pc' := 259) (L' := [some (.ref m), some (.int (zi mm)), some (.int (zi (p0 - 1))), some (.int (zi p0)), some (.int (zi zq1))]) (S' := [.int (zi 204), .int (zi mm), .ref m]) rfl ?_
                          by_cases hc96 : ¬ (mm : Int) = 204
                          · refine gy_icT (pc' := 266) rfl (by decide) (by decide) (by omega) (by omega) hc96 ?_
                            refine gz_s 1 (pc' := 267) (L' := [some (.ref m), some (.int (zi mm)), some (.int (zi (p0 - 1))), some (.int (zi p0)), some (.int (zi zq1))]) (S' := [.int (zi 0), .ref m]) rfl ?_
                            exact jn69 0 (by omega)
                          · refine gy_icF rfl (by decide) (by decide) (by omega) (by omega) hc96 ?_
                            refine gz_s 2 (pc' := 267) (L' := [some (.ref m), some (.int (zi mm)), some (.int (zi (p0 - 1))), some (.int (zi p0)), some (.int (zi zq1))]) (S' := [.int (zi 1), .ref m]) rfl ?_
                            exact jn69 1 (by omega)
                  · refine gy_icF rfl (by decide) (by decide) (by omega) (by omega) hc68 ?_
                    refine gz_s 3 (pc' := 215) (L' := [some (.ref m), some (.int (zi mm)), some (.int (zi (p0 - 1))), some (.int (zi p0)), some (.int (zi zq1))]) (S' := [.int (zi 194), .int (zi mm), .ref m]) rfl ?_
                    refine gy_icF rfl (by decide) (by decide) (by omega) (by omega) (by first | (simp [zc]; done) | (simp only [zc]; omega)) ?_
                    refine gz_s 5 (pc' := 227) (L' := [some (.ref m), some (.int (zi mm)), some (.int (zi (p0 - 1))), some (.int (zi p0)), some (.int (zi zq1))]) (S' := [.int (zi zq1), .int (zi p0), .int (zi (p0 - 1)), .int (zi 1), .ref m]) rfl ?_
                    refine gz_call rfl (by decide) rfl (by decide) (by decide) (gcal_of rfl rfl rfl (Nat.le_of_ble_eq_true rfl) (gJ.recv (G := gGG) sh36.1 tm rfl rfl)) (mm_readFrame _ sh36.1 m tm 1 (by omega) (p0 - 1) (by omega) p0 (by omega) zq1 (by omega) fq14_0 s45 (by omega) (p0 + 2) eh36 (by omega) (p0 + zq1) s46 (by omega) sz s38 (by omega) ip s39 (by omega) w s40 (by omega) hh s41 (by omega) wd s42 (by omega) hg s43 (by omega) bs s44 (by omega) (by omega) (by omega) uq pr37) (fun q97 _ wq97 => ?_)
                    obtain ⟨pq97, oq97, hq97⟩ := q97
                    obtain ⟨xq97, fq97_0, fq97_1, fq97_2, fq97_3, fq97_4, fq97_5, fq97_6, gq97, efq97_0, afq97_0, bfq97_0, efq97_1, afq97_1, bfq97_1, efq97_2, afq97_2, bfq97_2, efq97_3, afq97_3, bfq97_3, efq97_4, afq97_4, bfq97_4, efq97_5, afq97_5, bfq97_5, efq97_6, afq97_6, bfq97_6, yq97_0⟩ := wq97
                    refine ⟨_, gq97, ?_⟩
                    show gz gPP gGG gcn _ _ 230 [some (.ref m), some (.int (zi mm)), some (.int (zi (p0 - 1))), some (.int (zi p0)), some (.int (zi zq1))] [] hq97 _
                    have sq97 := gSs.tr sh36 xq97 (by decide)
                    have s98 := (xq97.2.2.2.2.2 m 3 (by rw [tm]; decide)).trans s38
                    have s99 := (xq97.2.2.2.2.2 m 6 (by rw [tm]; decide)).trans s46
                    have s100 := (xq97.2.2.2.2.2 m 5 (by rw [tm]; decide)).trans eh36
                    refine gz_s 3 (pc' := 274) (L' := [some (.ref m), some (.int (zi mm)), some (.int (zi (p0 - 1))), some (.int (zi p0)), some (.int (zi zq1))]) (S' := [.ref m, .ref m]) rfl ?_
                    refine gs_gtk rfl (by decide) rfl sq97.1 tm rfl rfl s99 ?_
                    refine gs_put rfl (by decide) rfl sq97 tm rfl rfl rfl rfl (Or.inl rfl) (by decide) (by omega) (by omega) (fun h101 sh101 eh101 fh101 => ?_)
                    have pr102 := gPi.pt fh101 tm (by decide) yq97_0
                    have s103 := (fh101 m 3 (fun q => absurd q.2 (by decide))).trans s98
                    have s104 := (fh101 m 6 (fun q => absurd q.2 (by decide))).trans s99
                    have s105 := (fh101 m 7 (fun q => absurd q.2 (by decide))).trans efq97_0
                    have s106 := (fh101 m 16 (fun q => absurd q.2 (by decide))).trans efq97_1
                    have s107 := (fh101 m 18 (fun q => absurd q.2 (by decide))).trans efq97_2
                    have s108 := (fh101 m 19 (fun q => absurd q.2 (by decide))).trans efq97_3
                    have s109 := (fh101 m 21 (fun q => absurd q.2 (by decide))).trans efq97_4
                    have s110 := (fh101 m 22 (fun q => absurd q.2 (by decide))).trans efq97_5
                    have s111 := (fh101 m 20 (fun q => absurd q.2 (by decide))).trans efq97_6
                    have hpi112 : gPi ty fq97_1 fq97_2 fq97_3 fq97_4 fq97_5 fq97_6 h101 := pr102
                    exact gz_end (I := .return_) (len := 1) rfl (Or.inl rfl) ⟨sh101, fq97_0, p0 + zq1, fq97_1, fq97_2, fq97_3, fq97_4, fq97_5, fq97_6, rfl, s105, (by omega), (by omega), eh101, (by omega), (by omega), s106, (by omega), (by omega), s107, (by omega), (by omega), s108, (by omega), (by omega), s109, (by omega), (by omega), s110, (by omega), (by omega), s111, (by omega), (by omega), (by omega), hpi112⟩
              · refine gy_icF rfl (by decide) (by decide) (by omega) (by omega) hc50 ?_
                refine gz_s 4 (pc' := 192) (L' := [some (.ref m), some (.int (zi mm)), some (.int (zi (p0 - 1))), some (.int (zi p0)), some (.int (zi zq1))]) (S' := [.int (zi zq1), .int (zi p0), .int (zi (p0 - 1)), .ref m]) rfl ?_
                refine gz_call rfl (by decide) rfl (by decide) (by decide) (gcal_of rfl rfl rfl (Nat.le_of_ble_eq_true rfl) (gJ.recv (G := gGG) sh36.1 tm rfl rfl)) (mm_readScan _ sh36.1 m tm (p0 - 1) (by omega) p0 (by omega) zq1 (by omega) fq14_0 s45 (by omega) (p0 + 2) eh36 (by omega) (p0 + zq1) s46 (by omega) sz s38 (by omega) ip s39 (by omega) w s40 (by omega) hh s41 (by omega) wd s42 (by omega) hg s43 (by omega) bs s44 (by omega) (by omega) (by omega) uq pr37) (fun q113 _ wq113 => ?_)
                obtain ⟨pq113, oq113, hq113⟩ := q113
                obtain ⟨xq113, fq113_0, fq113_1, gq113, efq113_0, afq113_0, bfq113_0, efq113_1, afq113_1, bfq113_1, uq113_0⟩ := wq113
                refine ⟨_, gq113, ?_⟩
                show gz gPP gGG gcn _ _ 195 [some (.ref m), some (.int (zi mm)), some (.int (zi (p0 - 1))), some (.int (zi p0)), some (.int (zi zq1))] [] hq113 _
                have sq113 := gSs.tr sh36 xq113 (by decide)
                have s114 := (xq113.2.2.2.2.2 m 3 (by rw [tm]; decide)).trans s38
                have s115 := (xq113.2.2.2.2.2 m 16 (by rw [tm]; decide)).trans s39
                have s116 := (xq113.2.2.2.2.2 m 18 (by rw [tm]; decide)).trans s40
                have s117 := (xq113.2.2.2.2.2 m 19 (by rw [tm]; decide)).trans s41
                have s118 := (xq113.2.2.2.2.2 m 21 (by rw [tm]; decide)).trans s42
                have s119 := (xq113.2.2.2.2.2 m 22 (by rw [tm]; decide)).trans s43
                have s120 := (xq113.2.2.2.2.2 m 20 (by rw [tm]; decide)).trans s44
                have s121 := (xq113.2.2.2.2.2 m 6 (by rw [tm]; decide)).trans s46
                have pr122 := gPi.fr xq113.2 (by decide) pr37
                have hpi123 : gPi ty ip w hh wd hg bs hq113 := pr122
                exact gz_end (I := .return_) (len := 1) rfl (Or.inl rfl) ⟨sq113, fq113_0, fq113_1, ip, w, hh, wd, hg, bs, rfl, efq113_0, (by omega), (by omega), efq113_1, (by omega), (by omega), s115, (by omega), (by omega), s116, (by omega), (by omega), s117, (by omega), (by omega), s118, (by omega), (by omega), s119, (by omega), (by omega), s120, (by omega), (by omega), (by omega), hpi123⟩
            · refine gy_icF rfl (by decide) (by decide) (by omega) (by omega) hc49 ?_
              refine gz_s 3 (pc' := 150) (L' := [some (.ref m), some (.int (zi mm)), some (.int (zi (p0 - 1))), some (.int (zi p0)), some (.int (zi zq1))]) (S' := [.int (zi 4), .int (zi zq1), .ref m]) rfl ?_
              by_cases hc124 : ¬ (zq1 : Int) = 4
              · refine gy_icT (pc' := 157) rfl (by decide) (by decide) (by omega) (by omega) hc124 ?_
                refine gz_s 2 (pc' := 159) (L' := [some (.ref m), some (.int (zi mm)), some (.int (zi (p0 - 1))), some (.int (zi p0)), some (.int (zi zq1))]) (S' := [.int (zi p0), .int (zi 0), .ref m]) rfl ?_
                refine gz_call rfl (by decide) rfl (by decide) (by decide) (gcal_of rfl rfl rfl (Nat.le_of_ble_eq_true rfl) (gJ.recv (G := gGG) sh36.1 tm rfl rfl)) (mm_must _ sh36.1 m tm 0 (by omega) p0 (by omega) fq14_0 s45 (by omega)) (fun q125 _ wq125 => ?_)
                obtain ⟨pq125, oq125, hq125⟩ := q125
                obtain ⟨xq125, zq125, fq125_0, gq125, aq125, bq125, efq125_0, afq125_0, bfq125_0, uq125_0, uq125_1⟩ := wq125
                refine ⟨_, gq125, ?_⟩
                show gz gPP gGG gcn _ _ 162 [some (.ref m), some (.int (zi mm)), some (.int (zi (p0 - 1))), some (.int (zi p0)), some (.int (zi zq1))] [.int (zi zq125)] hq125 _
                have sq125 := gSs.tr sh36 xq125 (by decide)
                have s126 := (xq125.2.2.2.2.2 m 3 (by rw [tm]; decide)).trans s38
                have s127 := (xq125.2.2.2.2.2 m 16 (by rw [tm]; decide)).trans s39
                have s128 := (xq125.2.2.2.2.2 m 18 (by rw [tm]; decide)).trans s40
                have s129 := (xq125.2.2.2.2.2 m 19 (by rw [tm]; decide)).trans s41
                have s130 := (xq125.2.2.2.2.2 m 21 (by rw [tm]; decide)).trans s42
                have s131 := (xq125.2.2.2.2.2 m 22 (by rw [tm]; decide)).trans s43
                have s132 := (xq125.2.2.2.2.2 m 20 (by rw [tm]; decide)).trans s44
                have s133 := (xq125.2.2.2.2.2 m 6 (by rw [tm]; decide)).trans s46
                have s134 := (xq125.2.2.2.2.2 m 5 (by rw [tm]; decide)).trans eh36
                have pr135 := gPi.fr xq125.2 (by decide) pr37
                refine gy_ifT (pc' := 272) rfl (by decide) (by decide) (by omega) (by first | (simp [zc]; done) | (simp only [zc]; omega)) ?_
                refine gz_s 2 (pc' := 274) (L' := [some (.ref m), some (.int (zi mm)), some (.int (zi (p0 - 1))), some (.int (zi p0)), some (.int (zi zq1))]) (S' := [.ref m, .ref m]) rfl ?_
                refine gs_gtk rfl (by decide) rfl sq125.1 tm rfl rfl s133 ?_
                refine gs_put rfl (by decide) rfl sq125 tm rfl rfl rfl rfl (Or.inl rfl) (by decide) (by omega) (by omega) (fun h136 sh136 eh136 fh136 => ?_)
                have pr137 := gPi.pt fh136 tm (by decide) pr135
                have s138 := (fh136 m 3 (fun q => absurd q.2 (by decide))).trans s126
                have s139 := (fh136 m 16 (fun q => absurd q.2 (by decide))).trans s127
                have s140 := (fh136 m 18 (fun q => absurd q.2 (by decide))).trans s128
                have s141 := (fh136 m 19 (fun q => absurd q.2 (by decide))).trans s129
                have s142 := (fh136 m 21 (fun q => absurd q.2 (by decide))).trans s130
                have s143 := (fh136 m 22 (fun q => absurd q.2 (by decide))).trans s131
                have s144 := (fh136 m 20 (fun q => absurd q.2 (by decide))).trans s132
                have s145 := (fh136 m 6 (fun q => absurd q.2 (by decide))).trans s133
                have s146 := (fh136 m 7 (fun q => absurd q.2 (by decide))).trans efq125_0
                have hpi147 : gPi ty ip w hh wd hg bs h136 := pr137
                exact gz_end (I := .return_) (len := 1) rfl (Or.inl rfl) ⟨sh136, fq125_0, p0 + zq1, ip, w, hh, wd, hg, bs, rfl, s146, (by omega), (by omega), eh136, (by omega), (by omega), s139, (by omega), (by omega), s140, (by omega), (by omega), s141, (by omega), (by omega), s142, (by omega), (by omega), s143, (by omega), (by omega), s144, (by omega), (by omega), (by omega), hpi147⟩
              · refine gy_icF rfl (by decide) (by decide) (by omega) (by omega) hc124 ?_
                refine gz_s 3 (pc' := 159) (L' := [some (.ref m), some (.int (zi mm)), some (.int (zi (p0 - 1))), some (.int (zi p0)), some (.int (zi zq1))]) (S' := [.int (zi p0), .int (zi 1), .ref m]) rfl ?_
                refine gz_call rfl (by decide) rfl (by decide) (by decide) (gcal_of rfl rfl rfl (Nat.le_of_ble_eq_true rfl) (gJ.recv (G := gGG) sh36.1 tm rfl rfl)) (mm_must _ sh36.1 m tm 1 (by omega) p0 (by omega) fq14_0 s45 (by omega)) (fun q148 _ wq148 => ?_)
                obtain ⟨pq148, oq148, hq148⟩ := q148
                obtain ⟨xq148, zq148, fq148_0, gq148, aq148, bq148, efq148_0, afq148_0, bfq148_0, uq148_0, uq148_1⟩ := wq148
                refine ⟨_, gq148, ?_⟩
                show gz gPP gGG gcn _ _ 162 [some (.ref m), some (.int (zi mm)), some (.int (zi (p0 - 1))), some (.int (zi p0)), some (.int (zi zq1))] [.int (zi zq148)] hq148 _
                have sq148 := gSs.tr sh36 xq148 (by decide)
                have s149 := (xq148.2.2.2.2.2 m 3 (by rw [tm]; decide)).trans s38
                have s150 := (xq148.2.2.2.2.2 m 16 (by rw [tm]; decide)).trans s39
                have s151 := (xq148.2.2.2.2.2 m 18 (by rw [tm]; decide)).trans s40
                have s152 := (xq148.2.2.2.2.2 m 19 (by rw [tm]; decide)).trans s41
                have s153 := (xq148.2.2.2.2.2 m 21 (by rw [tm]; decide)).trans s42
                have s154 := (xq148.2.2.2.2.2 m 22 (by rw [tm]; decide)).trans s43
                have s155 := (xq148.2.2.2.2.2 m 20 (by rw [tm]; decide)).trans s44
                have s156 := (xq148.2.2.2.2.2 m 6 (by rw [tm]; decide)).trans s46
                have s157 := (xq148.2.2.2.2.2 m 5 (by rw [tm]; decide)).trans eh36
                have pr158 := gPi.fr xq148.2 (by decide) pr37
                by_cases hc159 : (zq148 : Int) = 0
                · refine gy_ifT (pc' := 272) rfl (by decide) (by decide) (by omega) hc159 ?_
                  refine gz_s 2 (pc' := 274) (L' := [some (.ref m), some (.int (zi mm)), some (.int (zi (p0 - 1))), some (.int (zi p0)), some (.int (zi zq1))]) (S' := [.ref m, .ref m]) rfl ?_
                  refine gs_gtk rfl (by decide) rfl sq148.1 tm rfl rfl s156 ?_
                  refine gs_put rfl (by decide) rfl sq148 tm rfl rfl rfl rfl (Or.inl rfl) (by decide) (by omega) (by omega) (fun h160 sh160 eh160 fh160 => ?_)
                  have pr161 := gPi.pt fh160 tm (by decide) pr158
                  have s162 := (fh160 m 3 (fun q => absurd q.2 (by decide))).trans s149
                  have s163 := (fh160 m 16 (fun q => absurd q.2 (by decide))).trans s150
                  have s164 := (fh160 m 18 (fun q => absurd q.2 (by decide))).trans s151
                  have s165 := (fh160 m 19 (fun q => absurd q.2 (by decide))).trans s152
                  have s166 := (fh160 m 21 (fun q => absurd q.2 (by decide))).trans s153
                  have s167 := (fh160 m 22 (fun q => absurd q.2 (by decide))).trans s154
                  have s168 := (fh160 m 20 (fun q => absurd q.2 (by decide))).trans s155
                  have s169 := (fh160 m 6 (fun q => absurd q.2 (by decide))).trans s156
                  have s170 := (fh160 m 7 (fun q => absurd q.2 (by decide))).trans efq148_0
                  have hpi171 : gPi ty ip w hh wd hg bs h160 := pr161
                  exact gz_end (I := .return_) (len := 1) rfl (Or.inl rfl) ⟨sh160, fq148_0, p0 + zq1, ip, w, hh, wd, hg, bs, rfl, s170, (by omega), (by omega), eh160, (by omega), (by omega), s163, (by omega), (by omega), s164, (by omega), (by omega), s165, (by omega), (by omega), s166, (by omega), (by omega), s167, (by omega), (by omega), s168, (by omega), (by omega), (by omega), hpi171⟩
                · refine gy_ifF rfl (by decide) (by decide) (by omega) hc159 ?_
                  refine gz_s 3 (pc' := 168) (L' := [some (.ref m), some (.int (zi mm)), some (.int (zi (p0 - 1))), some (.int (zi p0)), some (.int (zi zq1))]) (S' := [.ref m, .ref m, .ref m]) rfl ?_
                  refine gs_gtk rfl (by decide) rfl sq148.1 tm rfl rfl s157 ?_
                  refine gz_call rfl (by decide) rfl (by decide) (by decide) (gcal_of rfl rfl rfl (Nat.le_of_ble_eq_true rfl) (gJ.recv (G := gGG) sq148.1 tm rfl rfl)) (mm_two _ sq148.1 m tm (p0 + 2) (by omega) fq148_0 efq148_0 (by omega) sz s149 (by omega)) (fun q172 _ wq172 => ?_)
                  obtain ⟨pq172, oq172, hq172⟩ := q172
                  obtain ⟨xq172, zq172, fq172_0, gq172, aq172, bq172, efq172_0, afq172_0, bfq172_0, uq172_0⟩ := wq172
                  refine ⟨_, gq172, ?_⟩
                  show gz gPP gGG gcn _ _ 174 [some (.ref m), some (.int (zi mm)), some (.int (zi (p0 - 1))), some (.int (zi p0)), some (.int (zi zq1))] [.int (zi zq172), .ref m] hq172 _
                  have sq172 := gSs.tr sq148 xq172 (by decide)
                  have s173 := (xq172.2.2.2.2.2 m 3 (by rw [tm]; decide)).trans s149
                  have s174 := (xq172.2.2.2.2.2 m 16 (by rw [tm]; decide)).trans s150
                  have s175 := (xq172.2.2.2.2.2 m 18 (by rw [tm]; decide)).trans s151
                  have s176 := (xq172.2.2.2.2.2 m 19 (by rw [tm]; decide)).trans s152
                  have s177 := (xq172.2.2.2.2.2 m 21 (by rw [tm]; decide)).trans s153
                  have s178 := (xq172.2.2.2.2.2 m 22 (by rw [tm]; decide)).trans s154
                  have s179 := (xq172.2.2.2.2.2 m 20 (by rw [tm]; decide)).trans s155
                  have s180 := (xq172.2.2.2.2.2 m 6 (by rw [tm]; decide)).trans s156
                  have s181 := (xq172.2.2.2.2.2 m 5 (by rw [tm]; decide)).trans s157
                  have pr182 := gPi.fr xq172.2 (by decide) pr158
                  refine gs_put rfl (by decide) rfl sq172 tm rfl rfl rfl rfl (Or.inl rfl) (by decide) (by omega) (by omega) (fun h183 sh183 eh183 fh183 => ?_)
                  have pr184 := gPi.pt fh183 tm (by decide) pr182
                  have s185 := (fh183 m 3 (fun q => absurd q.2 (by decide))).trans s173
                  have s186 := (fh183 m 16 (fun q => absurd q.2 (by decide))).trans s174
                  have s187 := (fh183 m 18 (fun q => absurd q.2 (by decide))).trans s175
                  have s188 := (fh183 m 19 (fun q => absurd q.2 (by decide))).trans s176
                  have s189 := (fh183 m 21 (fun q => absurd q.2 (by decide))).trans s177
                  have s190 := (fh183 m 22 (fun q => absurd q.2 (by decide))).trans s178
                  have s191 := (fh183 m 20 (fun q => absurd q.2 (by decide))).trans s179
                  have s192 := (fh183 m 6 (fun q => absurd q.2 (by decide))).trans s180
                  have s193 := (fh183 m 5 (fun q => absurd q.2 (by decide))).trans s181
                  have s194 := (fh183 m 7 (fun q => absurd q.2 (by decide))).trans efq172_0
                  refine gz_s 3 (pc' := 274) (L' := [some (.ref m), some (.int (zi mm)), some (.int (zi (p0 - 1))), some (.int (zi p0)), some (.int (zi zq1))]) (S' := [.ref m, .ref m]) rfl ?_
                  refine gs_gtk rfl (by decide) rfl sh183.1 tm rfl rfl s192 ?_
                  refine gs_put rfl (by decide) rfl sh183 tm rfl rfl rfl rfl (Or.inl rfl) (by decide) (by omega) (by omega) (fun h195 sh195 eh195 fh195 => ?_)
                  have pr196 := gPi.pt fh195 tm (by decide) pr184
                  have s197 := (fh195 m 3 (fun q => absurd q.2 (by decide))).trans s185
                  have s198 := (fh195 m 16 (fun q => absurd q.2 (by decide))).trans s186
                  have s199 := (fh195 m 18 (fun q => absurd q.2 (by decide))).trans s187
                  have s200 := (fh195 m 19 (fun q => absurd q.2 (by decide))).trans s188
                  have s201 := (fh195 m 21 (fun q => absurd q.2 (by decide))).trans s189
                  have s202 := (fh195 m 22 (fun q => absurd q.2 (by decide))).trans s190
                  have s203 := (fh195 m 20 (fun q => absurd q.2 (by decide))).trans s191
                  have s204 := (fh195 m 6 (fun q => absurd q.2 (by decide))).trans s192
                  have s205 := (fh195 m 7 (fun q => absurd q.2 (by decide))).trans s194
                  have s206 := (fh195 m 8 (fun q => absurd q.2 (by decide))).trans eh183
                  have hpi207 : gPi ty ip w hh wd hg bs h195 := pr196
                  exact gz_end (I := .return_) (len := 1) rfl (Or.inl rfl) ⟨sh195, fq172_0, p0 + zq1, ip, w, hh, wd, hg, bs, rfl, s205, (by omega), (by omega), eh195, (by omega), (by omega), s198, (by omega), (by omega), s199, (by omega), (by omega), s200, (by omega), (by omega), s201, (by omega), (by omega), s202, (by omega), (by omega), s203, (by omega), (by omega), (by omega), hpi207⟩
          · refine gy_icF rfl (by decide) (by decide) (by omega) (by omega) hc48 ?_
            have lp208 : ∀ (fu : Nat) (h209 : gH) (fv : Int) (pv : Int), (if fv = -1 then 5000 - pv else 0).toNat < fu → gSs rT 1027 ty [1005, 1006, 1007, 1008, 1016, 1017, 1018, 1019, 1020, 1021, 1022, 1023, 1024, 1039, 1041, 1042, 1043, 1044, 1045, 1046, 1047, 1048, 4999, 5999, 6999, 7999, 9999, 11999, 12999, 13999, 14999, 15999, 16999, 17999, 18999, 19999, 20999, 21999, 22999, 23999, 24999, 25999, 35999] h h209 → ((-1) ≤ fv ∧ fv ≤ 4000) → (0 ≤ pv ∧ pv ≤ 4000) → (fv = -1 → p0 + 2 ≤ pv) → (fv = -1 → pv ≤ p0 + zq1) → h209.2.2.2.2 m 3 = .int (zi sz) → h209.2.2.2.2 m 16 = .int (zi ip) → h209.2.2.2.2 m 18 = .int (zi w) → h209.2.2.2.2 m 19 = .int (zi hh) → h209.2.2.2.2 m 21 = .int (zi wd) → h209.2.2.2.2 m 22 = .int (zi hg) → h209.2.2.2.2 m 20 = .int (zi bs) → h209.2.2.2.2 m 6 = .int (zi (p0 + zq1)) → h209.2.2.2.2 m 7 = .int (zi fv) → h209.2.2.2.2 m 5 = .int (zi pv) → gPi ty ip w hh wd hg bs h209 → gz gPP gGG gcn (d + 9) gt137 113 [some (.ref m), some (.int (zi mm)), some (.int (zi (p0 - 1))), some (.int (zi p0)), some (.int (zi zq1))] [] h209 (fun q _ => gSs rT 1027 ty [1005, 1006, 1007, 1008, 1016, 1017, 1018, 1019, 1020, 1021, 1022, 1023, 1024, 1039, 1041, 1042, 1043, 1044, 1045, 1046, 1047, 1048, 4999, 5999, 6999, 7999, 9999, 11999, 12999, 13999, 14999, 15999, 16999, 17999, 18999, 19999, 20999, 21999, 22999, 23999, 24999, 25999, 35999] h q.2.2 ∧ ∃ f1 p1 ip1 w1 hh1 wd1 hg1 bs1 : Int, gfin gt137 q.1 q.2.1 = some none ∧ q.2.2.2.2.2.2 m 7 = .int (zi f1) ∧ (-1) ≤ f1 ∧ f1 ≤ 4000 ∧ q.2.2.2.2.2.2 m 5 = .int (zi p1) ∧ 0 ≤ p1 ∧ p1 ≤ 4000 ∧ q.2.2.2.2.2.2 m 16 = .int (zi ip1) ∧ 0 ≤ ip1 ∧ ip1 ≤ 1 ∧ q.2.2.2.2.2.2 m 18 = .int (zi w1) ∧ 0 ≤ w1 ∧ w1 ≤ 64 ∧ q.2.2.2.2.2.2 m 19 = .int (zi hh1) ∧ 0 ≤ hh1 ∧ hh1 ≤ 64 ∧ q.2.2.2.2.2.2 m 21 = .int (zi wd1) ∧ 0 ≤ wd1 ∧ wd1 ≤ 2 ∧ q.2.2.2.2.2.2 m 22 = .int (zi hg1) ∧ 0 ≤ hg1 ∧ hg1 ≤ 2 ∧ q.2.2.2.2.2.2 m 20 = .int (zi bs1) ∧ 0 ≤ bs1 ∧ bs1 ≤ 3 ∧ (f1 = -1 → (p0 + 2 ≤ p1 ∧ p1 ≤ sz)) ∧ (gPi ty ip1 w1 hh1 wd1 hg1 bs1 q.2.2)) := by
              intro fu
              induction fu with
              | zero => intro h209 fv pv hm; exact absurd hm (Nat.not_lt_zero _)
              | succ fu ihlp208 =>
                intro h209 fv pv lp208m sh209 lp208f0 lp208f1 lp208f2 lp208f3 lp208k0 lp208k1 lp208k2 lp208k3 lp208k4 lp208k5 lp208k6 lp208k7 lp208k8 lp208k9 lp208k10
                refine gz_s 1 (pc' := 114) (L' := [some (.ref m), some (.int (zi mm)), some (.int (zi (p0 - 1))), some (.int (zi p0)), some (.int (zi zq1))]) (S' := [.ref m]) rfl ?_
                refine gs_gtk rfl (by decide) rfl sh209.1 tm rfl rfl lp208k9 ?_
                refine gz_s 1 (pc' := 118) (L' := [some (.ref m), some (.int (zi mm)), some (.int (zi (p0 - 1))), some (.int (zi p0)), some (.int (zi zq1))]) (S' := [.ref m, .int (zi pv)]) rfl ?_
                refine gs_gtk rfl (by decide) rfl sh209.1 tm rfl rfl lp208k7 ?_
                by_cases hc210 : (p0 + zq1 : Int) ≤ pv
                · refine gy_icT (pc' := 272) rfl (by decide) (by decide) (by omega) (by omega) hc210 ?_
                  refine gz_s 2 (pc' := 274) (L' := [some (.ref m), some (.int (zi mm)), some (.int (zi (p0 - 1))), some (.int (zi p0)), some (.int (zi zq1))]) (S' := [.ref m, .ref m]) rfl ?_
                  refine gs_gtk rfl (by decide) rfl sh209.1 tm rfl rfl lp208k7 ?_
                  refine gs_put rfl (by decide) rfl sh209 tm rfl rfl rfl rfl (Or.inl rfl) (by decide) (by omega) (by omega) (fun h211 sh211 eh211 fh211 => ?_)
                  have pr212 := gPi.pt fh211 tm (by decide) lp208k10
                  have s213 := (fh211 m 3 (fun q => absurd q.2 (by decide))).trans lp208k0
                  have s214 := (fh211 m 16 (fun q => absurd q.2 (by decide))).trans lp208k1
                  have s215 := (fh211 m 18 (fun q => absurd q.2 (by decide))).trans lp208k2
                  have s216 := (fh211 m 19 (fun q => absurd q.2 (by decide))).trans lp208k3
                  have s217 := (fh211 m 21 (fun q => absurd q.2 (by decide))).trans lp208k4
                  have s218 := (fh211 m 22 (fun q => absurd q.2 (by decide))).trans lp208k5
                  have s219 := (fh211 m 20 (fun q => absurd q.2 (by decide))).trans lp208k6
                  have s220 := (fh211 m 6 (fun q => absurd q.2 (by decide))).trans lp208k7
                  have s221 := (fh211 m 7 (fun q => absurd q.2 (by decide))).trans lp208k8
                  have hpi222 : gPi ty ip w hh wd hg bs h211 := pr212
                  exact gz_end (I := .return_) (len := 1) rfl (Or.inl rfl) ⟨sh211, fv, p0 + zq1, ip, w, hh, wd, hg, bs, rfl, s221, (by omega), (by omega), eh211, (by omega), (by omega), s214, (by omega), (by omega), s215, (by omega), (by omega), s216, (by omega), (by omega), s217, (by omega), (by omega), s218, (by omega), (by omega), s219, (by omega), (by omega), (by omega), hpi222⟩
                · refine gy_icF rfl (by decide) (by decide) (by omega) (by omega) hc210 ?_
                  refine gz_s 1 (pc' := 125) (L' := [some (.ref m), some (.int (zi mm)), some (.int (zi (p0 - 1))), some (.int (zi p0)), some (.int (zi zq1))]) (S' := [.ref m]) rfl ?_
                  refine gs_gtk rfl (by decide) rfl sh209.1 tm rfl rfl lp208k8 ?_
                  refine gz_s 1 (pc' := 129) (L' := [some (.ref m), some (.int (zi mm)), some (.int (zi (p0 - 1))), some (.int (zi p0)), some (.int (zi zq1))]) (S' := [.int (zi (-1)), .int (zi fv)]) rfl ?_
                  by_cases hc223 : ¬ (fv : Int) = (-1)
                  · refine gy_icT (pc' := 272) rfl (by decide) (by decide) (by omega) (by omega) hc223 ?_
                    refine gz_s 2 (pc' := 274) (L' := [some (.ref m), some (.int (zi mm)), some (.int (zi (p0 - 1))), some (.int (zi p0)), some (.int (zi zq1))]) (S' := [.ref m, .ref m]) rfl ?_
                    refine gs_gtk rfl (by decide) rfl sh209.1 tm rfl rfl lp208k7 ?_
                    refine gs_put rfl (by decide) rfl sh209 tm rfl rfl rfl rfl (Or.inl rfl) (by decide) (by omega) (by omega) (fun h224 sh224 eh224 fh224 => ?_)
                    have pr225 := gPi.pt fh224 tm (by decide) lp208k10
                    have s226 := (fh224 m 3 (fun q => absurd q.2 (by decide))).trans lp208k0
                    have s227 := (fh224 m 16 (fun q => absurd q.2 (by decide))).trans lp208k1
                    have s228 := (fh224 m 18 (fun q => absurd q.2 (by decide))).trans lp208k2
                    have s229 := (fh224 m 19 (fun q => absurd q.2 (by decide))).trans lp208k3
                    have s230 := (fh224 m 21 (fun q => absurd q.2 (by decide))).trans lp208k4
                    have s231 := (fh224 m 22 (fun q => absurd q.2 (by decide))).trans lp208k5
                    have s232 := (fh224 m 20 (fun q => absurd q.2 (by decide))).trans lp208k6
                    have s233 := (fh224 m 6 (fun q => absurd q.2 (by decide))).trans lp208k7
                    have s234 := (fh224 m 7 (fun q => absurd q.2 (by decide))).trans lp208k8
                    have hpi235 : gPi ty ip w hh wd hg bs h224 := pr225
                    exact gz_end (I := .return_) (len := 1) rfl (Or.inl rfl) ⟨sh224, fv, p0 + zq1, ip, w, hh, wd, hg, bs, rfl, s234, (by omega), (by omega), eh224, (by omega), (by omega), s227, (by omega), (by omega), s228, (by omega), (by omega), s229, (by omega), (by omega), s230, (by omega), (by omega), s231, (by omega), (by omega), s232, (by omega), (by omega), (by omega), hpi235⟩
                  · refine gy_icF rfl (by decide) (by decide) (by omega) (by omega) hc223 ?_
                    refine gz_s 1 (pc' := 133) (L' := [some (.ref m), some (.int (zi mm)), some (.int (zi (p0 - 1))), some (.int (zi p0)), some (.int (zi zq1))]) (S' := [.ref m]) rfl ?_
                    refine gz_call rfl (by decide) rfl (by decide) (by decide) (gcal_of rfl rfl rfl (Nat.le_of_ble_eq_true rfl) (gJ.recv (G := gGG) sh209.1 tm rfl rfl)) (mm_readCodes _ sh209.1 m tm fv lp208k8 (by omega) pv lp208k9 (by omega) (p0 + zq1) lp208k7 (by omega) sz lp208k0 (by omega) (by omega) (by omega) uq) (fun q236 _ wq236 => ?_)
                    obtain ⟨pq236, oq236, hq236⟩ := q236
                    obtain ⟨xq236, fq236_0, fq236_1, gq236, efq236_0, afq236_0, bfq236_0, efq236_1, afq236_1, bfq236_1, uq236_0⟩ := wq236
                    refine ⟨_, gq236, ?_⟩
                    show gz gPP gGG gcn _ _ 136 [some (.ref m), some (.int (zi mm)), some (.int (zi (p0 - 1))), some (.int (zi p0)), some (.int (zi zq1))] [] hq236 _
                    have sq236 := gSs.tr sh209 xq236 (by decide)
                    have s237 := (xq236.2.2.2.2.2 m 3 (by rw [tm]; decide)).trans lp208k0
                    have s238 := (xq236.2.2.2.2.2 m 16 (by rw [tm]; decide)).trans lp208k1
                    have s239 := (xq236.2.2.2.2.2 m 18 (by rw [tm]; decide)).trans lp208k2
                    have s240 := (xq236.2.2.2.2.2 m 19 (by rw [tm]; decide)).trans lp208k3
                    have s241 := (xq236.2.2.2.2.2 m 21 (by rw [tm]; decide)).trans lp208k4
                    have s242 := (xq236.2.2.2.2.2 m 22 (by rw [tm]; decide)).trans lp208k5
                    have s243 := (xq236.2.2.2.2.2 m 20 (by rw [tm]; decide)).trans lp208k6
                    have s244 := (xq236.2.2.2.2.2 m 6 (by rw [tm]; decide)).trans lp208k7
                    have pr245 := gPi.fr xq236.2 (by decide) lp208k10
                    refine gz_s 1 (pc' := 113) (L' := [some (.ref m), some (.int (zi mm)), some (.int (zi (p0 - 1))), some (.int (zi p0)), some (.int (zi zq1))]) (S' := []) rfl ?_
                    exact gz_wk (ihlp208 hq236 fq236_0 fq236_1 (by omega) sq236 (by omega) (by omega) (by omega) (by omega) s237 s238 s239 s240 s241 s242 s243 s244 efq236_0 efq236_1 pr245) (gLw.s (gLw.s (gLw.s (gLw.s (gLw.s gLw.z)))))
            exact gz_wk (lp208 _ h36 fq14_0 (p0 + 2) (Nat.lt_succ_self _) sh36 (by omega) (by omega) (by omega) (by omega) s38 s39 s40 s41 s42 s43 s44 s46 s45 eh36 pr37) (gLw.s (gLw.s (gLw.s (gLw.s (gLw.s gLw.z)))))
        · refine gy_icF rfl (by decide) (by decide) (by omega) (by omega) hc47 ?_
          have lp246 : ∀ (fu : Nat) (h247 : gH) (fv : Int) (pv : Int), (if fv = -1 then 5000 - pv else 0).toNat < fu → gSs rT 1027 ty [1005, 1006, 1007, 1008, 1016, 1017, 1018, 1019, 1020, 1021, 1022, 1023, 1024, 1039, 1041, 1042, 1043, 1044, 1045, 1046, 1047, 1048, 4999, 5999, 6999, 7999, 9999, 11999, 12999, 13999, 14999, 15999, 16999, 17999, 18999, 19999, 20999, 21999, 22999, 23999, 24999, 25999, 35999] h h247 → ((-1) ≤ fv ∧ fv ≤ 4000) → (0 ≤ pv ∧ pv ≤ 4000) → (fv = -1 → p0 + 2 ≤ pv) → (fv = -1 → pv ≤ p0 + zq1) → h247.2.2.2.2 m 3 = .int (zi sz) → h247.2.2.2.2 m 16 = .int (zi ip) → h247.2.2.2.2 m 18 = .int (zi w) → h247.2.2.2.2 m 19 = .int (zi hh) → h247.2.2.2.2 m 21 = .int (zi wd) → h247.2.2.2.2 m 22 = .int (zi hg) → h247.2.2.2.2 m 20 = .int (zi bs) → h247.2.2.2.2 m 6 = .int (zi (p0 + zq1)) → h247.2.2.2.2 m 7 = .int (zi fv) → h247.2.2.2.2 m 5 = .int (zi pv) → gPi ty ip w hh wd hg bs h247 → gz gPP gGG gcn (d + 9) gt137 80 [some (.ref m), some (.int (zi mm)), some (.int (zi (p0 - 1))), some (.int (zi p0)), some (.int (zi zq1))] [] h247 (fun q _ => gSs rT 1027 ty [1005, 1006, 1007, 1008, 1016, 1017, 1018, 1019, 1020, 1021, 1022, 1023, 1024, 1039, 1041, 1042, 1043, 1044, 1045, 1046, 1047, 1048, 4999, 5999, 6999, 7999, 9999, 11999, 12999, 13999, 14999, 15999, 16999, 17999, 18999, 19999, 20999, 21999, 22999, 23999, 24999, 25999, 35999] h q.2.2 ∧ ∃ f1 p1 ip1 w1 hh1 wd1 hg1 bs1 : Int, gfin gt137 q.1 q.2.1 = some none ∧ q.2.2.2.2.2.2 m 7 = .int (zi f1) ∧ (-1) ≤ f1 ∧ f1 ≤ 4000 ∧ q.2.2.2.2.2.2 m 5 = .int (zi p1) ∧ 0 ≤ p1 ∧ p1 ≤ 4000 ∧ q.2.2.2.2.2.2 m 16 = .int (zi ip1) ∧ 0 ≤ ip1 ∧ ip1 ≤ 1 ∧ q.2.2.2.2.2.2 m 18 = .int (zi w1) ∧ 0 ≤ w1 ∧ w1 ≤ 64 ∧ q.2.2.2.2.2.2 m 19 = .int (zi hh1) ∧ 0 ≤ hh1 ∧ hh1 ≤ 64 ∧ q.2.2.2.2.2.2 m 21 = .int (zi wd1) ∧ 0 ≤ wd1 ∧ wd1 ≤ 2 ∧ q.2.2.2.2.2.2 m 22 = .int (zi hg1) ∧ 0 ≤ hg1 ∧ hg1 ≤ 2 ∧ q.2.2.2.2.2.2 m 20 = .int (zi bs1) ∧ 0 ≤ bs1 ∧ bs1 ≤ 3 ∧ (f1 = -1 → (p0 + 2 ≤ p1 ∧ p1 ≤ sz)) ∧ (gPi ty ip1 w1 hh1 wd1 hg1 bs1 q.2.2)) := by
            intro fu
            induction fu with
            | zero => intro h247 fv pv hm; exact absurd hm (Nat.not_lt_zero _)
            | succ fu ihlp246 =>
              intro h247 fv pv lp246m sh247 lp246f0 lp246f1 lp246f2 lp246f3 lp246k0 lp246k1 lp246k2 lp246k3 lp246k4 lp246k5 lp246k6 lp246k7 lp246k8 lp246k9 lp246k10
              refine gz_s 1 (pc' := 81) (L' := [some (.ref m), some (.int (zi mm)), some (.int (zi (p0 - 1))), some (.int (zi p0)), some (.int (zi zq1))]) (S' := [.ref m]) rfl ?_
              refine gs_gtk rfl (by decide) rfl sh247.1 tm rfl rfl lp246k9 ?_
              refine gz_s 1 (pc' := 85) (L' := [some (.ref m), some (.int (zi mm)), some (.int (zi (p0 - 1))), some (.int (zi p0)), some (.int (zi zq1))]) (S' := [.ref m, .int (zi pv)]) rfl ?_
              refine gs_gtk rfl (by decide) rfl sh247.1 tm rfl rfl lp246k7 ?_
              by_cases hc248 : (p0 + zq1 : Int) ≤ pv
              · refine gy_icT (pc' := 272) rfl (by decide) (by decide) (by omega) (by omega) hc248 ?_
                refine gz_s 2 (pc' := 274) (L' := [some (.ref m), some (.int (zi mm)), some (.int (zi (p0 - 1))), some (.int (zi p0)), some (.int (zi zq1))]) (S' := [.ref m, .ref m]) rfl ?_
                refine gs_gtk rfl (by decide) rfl sh247.1 tm rfl rfl lp246k7 ?_
                refine gs_put rfl (by decide) rfl sh247 tm rfl rfl rfl rfl (Or.inl rfl) (by decide) (by omega) (by omega) (fun h249 sh249 eh249 fh249 => ?_)
                have pr250 := gPi.pt fh249 tm (by decide) lp246k10
                have s251 := (fh249 m 3 (fun q => absurd q.2 (by decide))).trans lp246k0
                have s252 := (fh249 m 16 (fun q => absurd q.2 (by decide))).trans lp246k1
                have s253 := (fh249 m 18 (fun q => absurd q.2 (by decide))).trans lp246k2
                have s254 := (fh249 m 19 (fun q => absurd q.2 (by decide))).trans lp246k3
                have s255 := (fh249 m 21 (fun q => absurd q.2 (by decide))).trans lp246k4
                have s256 := (fh249 m 22 (fun q => absurd q.2 (by decide))).trans lp246k5
                have s257 := (fh249 m 20 (fun q => absurd q.2 (by decide))).trans lp246k6
                have s258 := (fh249 m 6 (fun q => absurd q.2 (by decide))).trans lp246k7
                have s259 := (fh249 m 7 (fun q => absurd q.2 (by decide))).trans lp246k8
                have hpi260 : gPi ty ip w hh wd hg bs h249 := pr250
                exact gz_end (I := .return_) (len := 1) rfl (Or.inl rfl) ⟨sh249, fv, p0 + zq1, ip, w, hh, wd, hg, bs, rfl, s259, (by omega), (by omega), eh249, (by omega), (by omega), s252, (by omega), (by omega), s253, (by omega), (by omega), s254, (by omega), (by omega), s255, (by omega), (by omega), s256, (by omega), (by omega), s257, (by omega), (by omega), (by omega), hpi260⟩
              · refine gy_icF rfl (by decide) (by decide) (by omega) (by omega) hc248 ?_
                refine gz_s 1 (pc' := 92) (L' := [some (.ref m), some (.int (zi mm)), some (.int (zi (p0 - 1))), some (.int (zi p0)), some (.int (zi zq1))]) (S' := [.ref m]) rfl ?_
                refine gs_gtk rfl (by decide) rfl sh247.1 tm rfl rfl lp246k8 ?_
                refine gz_s 1 (pc' := 96) (L' := [some (.ref m), some (.int (zi mm)), some (.int (zi (p0 - 1))), some (.int (zi p0)), some (.int (zi zq1))]) (S' := [.int (zi (-1)), .int (zi fv)]) rfl ?_
                by_cases hc261 : ¬ (fv : Int) = (-1)
                · refine gy_icT (pc' := 272) rfl (by decide) (by decide) (by omega) (by omega) hc261 ?_
                  refine gz_s 2 (pc' := 274) (L' := [some (.ref m), some (.int (zi mm)), some (.int (zi (p0 - 1))), some (.int (zi p0)), some (.int (zi zq1))]) (S' := [.ref m, .ref m]) rfl ?_
                  refine gs_gtk rfl (by decide) rfl sh247.1 tm rfl rfl lp246k7 ?_
                  refine gs_put rfl (by decide) rfl sh247 tm rfl rfl rfl rfl (Or.inl rfl) (by decide) (by omega) (by omega) (fun h262 sh262 eh262 fh262 => ?_)
                  have pr263 := gPi.pt fh262 tm (by decide) lp246k10
                  have s264 := (fh262 m 3 (fun q => absurd q.2 (by decide))).trans lp246k0
                  have s265 := (fh262 m 16 (fun q => absurd q.2 (by decide))).trans lp246k1
                  have s266 := (fh262 m 18 (fun q => absurd q.2 (by decide))).trans lp246k2
                  have s267 := (fh262 m 19 (fun q => absurd q.2 (by decide))).trans lp246k3
                  have s268 := (fh262 m 21 (fun q => absurd q.2 (by decide))).trans lp246k4
                  have s269 := (fh262 m 22 (fun q => absurd q.2 (by decide))).trans lp246k5
                  have s270 := (fh262 m 20 (fun q => absurd q.2 (by decide))).trans lp246k6
                  have s271 := (fh262 m 6 (fun q => absurd q.2 (by decide))).trans lp246k7
                  have s272 := (fh262 m 7 (fun q => absurd q.2 (by decide))).trans lp246k8
                  have hpi273 : gPi ty ip w hh wd hg bs h262 := pr263
                  exact gz_end (I := .return_) (len := 1) rfl (Or.inl rfl) ⟨sh262, fv, p0 + zq1, ip, w, hh, wd, hg, bs, rfl, s272, (by omega), (by omega), eh262, (by omega), (by omega), s265, (by omega), (by omega), s266, (by omega), (by omega), s267, (by omega), (by omega), s268, (by omega), (by omega), s269, (by omega), (by omega), s270, (by omega), (by omega), (by omega), hpi273⟩
                · refine gy_icF rfl (by decide) (by decide) (by omega) (by omega) hc261 ?_
                  refine gz_s 1 (pc' := 100) (L' := [some (.ref m), some (.int (zi mm)), some (.int (zi (p0 - 1))), some (.int (zi p0)), some (.int (zi zq1))]) (S' := [.ref m]) rfl ?_
                  refine gz_call rfl (by decide) rfl (by decide) (by decide) (gcal_of rfl rfl rfl (Nat.le_of_ble_eq_true rfl) (gJ.recv (G := gGG) sh247.1 tm rfl rfl)) (mm_readTable _ sh247.1 m tm fv lp246k8 (by omega) pv lp246k9 (by omega) (p0 + zq1) lp246k7 (by omega) sz lp246k0 (by omega) (by omega) (by omega) uq) (fun q274 _ wq274 => ?_)
                  obtain ⟨pq274, oq274, hq274⟩ := q274
                  obtain ⟨xq274, fq274_0, fq274_1, gq274, efq274_0, afq274_0, bfq274_0, efq274_1, afq274_1, bfq274_1, uq274_0⟩ := wq274
                  refine ⟨_, gq274, ?_⟩
                  show gz gPP gGG gcn _ _ 103 [some (.ref m), some (.int (zi mm)), some (.int (zi (p0 - 1))), some (.int (zi p0)), some (.int (zi zq1))] [] hq274 _
                  have sq274 := gSs.tr sh247 xq274 (by decide)
                  have s275 := (xq274.2.2.2.2.2 m 3 (by rw [tm]; decide)).trans lp246k0
                  have s276 := (xq274.2.2.2.2.2 m 16 (by rw [tm]; decide)).trans lp246k1
                  have s277 := (xq274.2.2.2.2.2 m 18 (by rw [tm]; decide)).trans lp246k2
                  have s278 := (xq274.2.2.2.2.2 m 19 (by rw [tm]; decide)).trans lp246k3
                  have s279 := (xq274.2.2.2.2.2 m 21 (by rw [tm]; decide)).trans lp246k4
                  have s280 := (xq274.2.2.2.2.2 m 22 (by rw [tm]; decide)).trans lp246k5
                  have s281 := (xq274.2.2.2.2.2 m 20 (by rw [tm]; decide)).trans lp246k6
                  have s282 := (xq274.2.2.2.2.2 m 6 (by rw [tm]; decide)).trans lp246k7
                  have pr283 := gPi.fr xq274.2 (by decide) lp246k10
                  refine gz_s 1 (pc' := 80) (L' := [some (.ref m), some (.int (zi mm)), some (.int (zi (p0 - 1))), some (.int (zi p0)), some (.int (zi zq1))]) (S' := []) rfl ?_
                  exact gz_wk (ihlp246 hq274 fq274_0 fq274_1 (by omega) sq274 (by omega) (by omega) (by omega) (by omega) s275 s276 s277 s278 s279 s280 s281 s282 efq274_0 efq274_1 pr283) (gLw.s (gLw.s (gLw.s (gLw.s (gLw.s gLw.z)))))
          exact gz_wk (lp246 _ h36 fq14_0 (p0 + 2) (Nat.lt_succ_self _) sh36 (by omega) (by omega) (by omega) (by omega) s38 s39 s40 s41 s42 s43 s44 s46 s45 eh36 pr37) (gLw.s (gLw.s (gLw.s (gLw.s (gLw.s gLw.z)))))
      · refine gy_ifF rfl (by decide) (by decide) (by omega) hc24 ?_
        have hpi284 : gPi ty ip w hh wd hg bs hq14 := pr23
        exact gz_end (I := .return_) (len := 1) rfl (Or.inl rfl) ⟨sq14, fq14_0, p0, ip, w, hh, wd, hg, bs, rfl, efq14_0, (by omega), (by omega), s15, (by omega), (by omega), s17, (by omega), (by omega), s18, (by omega), (by omega), s19, (by omega), (by omega), s20, (by omega), (by omega), s21, (by omega), (by omega), s22, (by omega), (by omega), (by omega), hpi284⟩
    by_cases hc285 : (zq1 : Int) < 2
    · refine gy_icT (pc' := 49) rfl (by decide) (by decide) (by omega) (by omega) hc285 ?_
      refine gz_s 1 (pc' := 50) (L' := [some (.ref m), some (.int (zi mm)), some (.int (zi (p0 - 1))), some (.int (zi p0)), some (.int (zi zq1))]) (S' := [.int (zi 0), .ref m]) rfl ?_
      exact jn13 0 (by omega)
    · refine gy_icF rfl (by decide) (by decide) (by omega) (by omega) hc285 ?_
      refine gy_s 4 (pc' := 39) (L' := [some (.ref m), some (.int (zi mm)), some (.int (zi (p0 - 1))), some (.int (zi p0)), some (.int (zi zq1))]) (S' := [.ref m, .int ((zi p0) + (zi zq1)), .ref m]) (L2 := [some (.ref m), some (.int (zi mm)), some (.int (zi (p0 - 1))), some (.int (zi p0)), some (.int (zi zq1))]) (S2 := [.ref m, .int (zi (p0 + zq1)), .ref m]) rfl (by simp only [zi_add, zi_sub, zi_mul, zi_neg, zi_and1, zi_and7, zi_and15, zi_and31, zi_and255]) (by simp only [zi_add, zi_sub, zi_mul, zi_neg, zi_and1, zi_and7, zi_and15, zi_and31, zi_and255]) ?_
      refine gs_gtk rfl (by decide) rfl sq1.1 tm rfl rfl s3 ?_
      by_cases hc286 : (sz : Int) < p0 + zq1
      · refine gy_icT (pc' := 49) rfl (by decide) (by decide) (by omega) (by omega) hc286 ?_
        refine gz_s 1 (pc' := 50) (L' := [some (.ref m), some (.int (zi mm)), some (.int (zi (p0 - 1))), some (.int (zi p0)), some (.int (zi zq1))]) (S' := [.int (zi 0), .ref m]) rfl ?_
        exact jn13 0 (by omega)
      · refine gy_icF rfl (by decide) (by decide) (by omega) (by omega) hc286 ?_
        refine gz_s 2 (pc' := 50) (L' := [some (.ref m), some (.int (zi mm)), some (.int (zi (p0 - 1))), some (.int (zi p0)), some (.int (zi zq1))]) (S' := [.int (zi 1), .ref m]) rfl ?_
        exact jn13 1 (by omega)
