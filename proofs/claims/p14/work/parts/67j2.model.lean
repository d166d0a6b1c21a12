/-! ===== the model: methods (by program) ===== -/
set_option maxRecDepth 20000 in
set_option maxHeartbeats 4000000 in
theorem mm_readFrame (d : Nat) {ty : Nat → Nat} {h : gH} (hJ : gJ rT 1027 ty h) (m : Nat) (tm : ty m = 1) (by2 : Int) (rby2 : 0 ≤ by2 ∧ by2 ≤ 1) (mk : Int) (rmk : 0 ≤ mk ∧ mk ≤ 4000) (bg : Int) (rbg : 0 ≤ bg ∧ bg ≤ 4000) (n : Int) (rn : 0 ≤ n ∧ n ≤ 65535) (f0 : Int) (ef0 : h.2.2.2.2 m 7 = .int (zi f0)) (rf0 : (-1) ≤ f0 ∧ f0 ≤ (-1)) (p0 : Int) (ep0 : h.2.2.2.2 m 5 = .int (zi p0)) (rp0 : 0 ≤ p0 ∧ p0 ≤ 2000) (en : Int) (een : h.2.2.2.2 m 6 = .int (zi en)) (ren : 0 ≤ en ∧ en ≤ 2000) (sz : Int) (esz : h.2.2.2.2 m 3 = .int (zi sz)) (rsz : 0 ≤ sz ∧ sz ≤ 2000) (ip : Int) (eip : h.2.2.2.2 m 16 = .int (zi ip)) (rip : 0 ≤ ip ∧ ip ≤ 1) (w : Int) (ew : h.2.2.2.2 m 18 = .int (zi w)) (rw : 0 ≤ w ∧ w ≤ 64) (hh : Int) (ehh : h.2.2.2.2 m 19 = .int (zi hh)) (rhh : 0 ≤ hh ∧ hh ≤ 64) (wd : Int) (ewd : h.2.2.2.2 m 21 = .int (zi wd)) (rwd : 0 ≤ wd ∧ wd ≤ 2) (hg : Int) (ehg : h.2.2.2.2 m 22 = .int (zi hg)) (rhg : 0 ≤ hg ∧ hg ≤ 2) (bs : Int) (ebs : h.2.2.2.2 m 20 = .int (zi bs)) (rbs : 0 ≤ bs ∧ bs ≤ 3) (pp0 : p0 + n = en + 2) (pp1 : en ≤ sz) (uq : gUq ty) (hypi : gPi ty ip w hh wd hg bs h) : gz gPP gGG gcn (d + 4) gt165 0 (gent [.ref m, .int (zi by2), .int (zi mk), .int (zi bg), .int (zi n)] 11) [] h (fun q _ => gSs rT 1027 ty [1007, 1016, 1017, 1018, 1019, 1020, 1021, 1022, 1023, 1024, 11999, 12999, 13999, 14999, 15999, 16999, 17999, 18999, 19999, 23999, 24999] h q.2.2 ∧ ∃ f1 ip1 w1 hh1 wd1 hg1 bs1 : Int, gfin gt165 q.1 q.2.1 = some none ∧ q.2.2.2.2.2.2 m 7 = .int (zi f1) ∧ (-1) ≤ f1 ∧ f1 ≤ 4000 ∧ q.2.2.2.2.2.2 m 16 = .int (zi ip1) ∧ 0 ≤ ip1 ∧ ip1 ≤ 1 ∧ q.2.2.2.2.2.2 m 18 = .int (zi w1) ∧ 0 ≤ w1 ∧ w1 ≤ 64 ∧ q.2.2.2.2.2.2 m 19 = .int (zi hh1) ∧ 0 ≤ hh1 ∧ hh1 ≤ 64 ∧ q.2.2.2.2.2.2 m 21 = .int (zi wd1) ∧ 0 ≤ wd1 ∧ wd1 ≤ 2 ∧ q.2.2.2.2.2.2 m 22 = .int (zi hg1) ∧ 0 ≤ hg1 ∧ hg1 ≤ 2 ∧ q.2.2.2.2.2.2 m 20 = .int (zi bs1) ∧ 0 ≤ bs1 ∧ bs1 ≤ 3 ∧ (gPi ty ip1 w1 hh1 wd1 hg1 bs1 q.2.2)) := by
  have hS : gSs rT 1027 ty [1007, 1016, 1017, 1018, 1019, 1020, 1021, 1022, 1023, 1024, 11999, 12999, 13999, 14999, 15999, 16999, 17999, 18999, 19999, 23999, 24999] h h := gSs.rf hJ
  refine gz_s 2 (pc' := 2) (L' := [some (.ref m), some (.int (zi by2)), some (.int (zi mk)), some (.int (zi bg)), some (.int (zi n)), none, none, none, none, none, none]) (S' := [.ref m, .ref m]) rfl ?_
  refine gs_gtk rfl (by decide) rfl hS.1 tm rfl rfl eip ?_
  by_cases hc1 : ¬ (ip : Int) = 0
  · refine gy_ifT (pc' := 12) rfl (by decide) (by decide) (by omega) hc1 ?_
    refine gz_s 2 (pc' := 14) (L' := [some (.ref m), some (.int (zi by2)), some (.int (zi mk)), some (.int (zi bg)), some (.int (zi n)), none, none, none, none, none, none]) (S' := [.int (zi mk), .int (zi 0), .ref m]) rfl ?_
    refine gz_call rfl (by decide) rfl (by decide) (by decide) (gcal_of rfl rfl rfl (Nat.le_of_ble_eq_true rfl) (gJ.recv (G := gGG) hS.1 tm rfl rfl)) (mm_must _ hS.1 m tm 0 (by omega) mk (by omega) f0 ef0 (by omega)) (fun q2 _ wq2 => ?_)
    obtain ⟨pq2, oq2, hq2⟩ := q2
    obtain ⟨xq2, zq2, fq2_0, gq2, aq2, bq2, efq2_0, afq2_0, bfq2_0, uq2_0, uq2_1⟩ := wq2
    refine ⟨_, gq2, ?_⟩
    show gz gPP gGG gcn _ _ 17 [some (.ref m), some (.int (zi by2)), some (.int (zi mk)), some (.int (zi bg)), some (.int (zi n)), none, none, none, none, none, none] [.int (zi zq2)] hq2 _
    have sq2 := gSs.tr hS xq2 (by decide)
    have s3 := (xq2.2.2.2.2.2 m 5 (by rw [tm]; decide)).trans ep0
    have s4 := (xq2.2.2.2.2.2 m 6 (by rw [tm]; decide)).trans een
    have s5 := (xq2.2.2.2.2.2 m 3 (by rw [tm]; decide)).trans esz
    have s6 := (xq2.2.2.2.2.2 m 16 (by rw [tm]; decide)).trans eip
    have s7 := (xq2.2.2.2.2.2 m 18 (by rw [tm]; decide)).trans ew
    have s8 := (xq2.2.2.2.2.2 m 19 (by rw [tm]; decide)).trans ehh
    have s9 := (xq2.2.2.2.2.2 m 21 (by rw [tm]; decide)).trans ewd
    have s10 := (xq2.2.2.2.2.2 m 22 (by rw [tm]; decide)).trans ehg
    have s11 := (xq2.2.2.2.2.2 m 20 (by rw [tm]; decide)).trans ebs
    have pr12 := gPi.fr xq2.2 (by decide) hypi
    refine gy_ifT (pc' := 70) rfl (by decide) (by decide) (by omega) (by first | (simp [zc]; done) | (simp only [zc]; omega)) ?_
    have hpi13 : gPi ty ip w hh wd hg bs hq2 := pr12
    exact gz_end (I := .return_) (len := 1) rfl (Or.inl rfl) ⟨sq2, fq2_0, ip, w, hh, wd, hg, bs, rfl, efq2_0, (by omega), (by omega), s6, (by omega), (by omega), s7, (by omega), (by omega), s8, (by omega), (by omega), s9, (by omega), (by omega), s10, (by omega), (by omega), s11, (by omega), (by omega), hpi13⟩
  · refine gy_ifF rfl (by decide) (by decide) (by omega) hc1 ?_
    refine gz_s 3 (pc' := 14) (L' := [some (.ref m), some (.int (zi by2)), some (.int (zi mk)), some (.int (zi bg)), some (.int (zi n)), none, none, none, none, none, none]) (S' := [.int (zi mk), .int (zi 1), .ref m]) rfl ?_
    refine gz_call rfl (by decide) rfl (by decide) (by decide) (gcal_of rfl rfl rfl (Nat.le_of_ble_eq_true rfl) (gJ.recv (G := gGG) hS.1 tm rfl rfl)) (mm_must _ hS.1 m tm 1 (by omega) mk (by omega) f0 ef0 (by omega)) (fun q14 _ wq14 => ?_)
    obtain ⟨pq14, oq14, hq14⟩ := q14
    obtain ⟨xq14, zq14, fq14_0, gq14, aq14, bq14, efq14_0, afq14_0, bfq14_0, uq14_0, uq14_1⟩ := wq14
    refine ⟨_, gq14, ?_⟩
    show gz gPP gGG gcn _ _ 17 [some (.ref m), some (.int (zi by2)), some (.int (zi mk)), some (.int (zi bg)), some (.int (zi n)), none, none, none, none, none, none] [.int (zi zq14)] hq14 _
    have sq14 := gSs.tr hS xq14 (by decide)
    have s15 := (xq14.2.2.2.2.2 m 5 (by rw [tm]; decide)).trans ep0
    have s16 := (xq14.2.2.2.2.2 m 6 (by rw [tm]; decide)).trans een
    have s17 := (xq14.2.2.2.2.2 m 3 (by rw [tm]; decide)).trans esz
    have s18 := (xq14.2.2.2.2.2 m 16 (by rw [tm]; decide)).trans eip
    have s19 := (xq14.2.2.2.2.2 m 18 (by rw [tm]; decide)).trans ew
    have s20 := (xq14.2.2.2.2.2 m 19 (by rw [tm]; decide)).trans ehh
    have s21 := (xq14.2.2.2.2.2 m 21 (by rw [tm]; decide)).trans ewd
    have s22 := (xq14.2.2.2.2.2 m 22 (by rw [tm]; decide)).trans ehg
    have s23 := (xq14.2.2.2.2.2 m 20 (by rw [tm]; decide)).trans ebs
    have pr24 := gPi.fr xq14.2 (by decide) hypi
    refine gy_ifF rfl (by decide) (by decide) (by omega) (by first | (simp [zc]; done) | (simp only [zc]; omega)) ?_
    refine gz_s 3 (pc' := 25) (L' := [some (.ref m), some (.int (zi by2)), some (.int (zi mk)), some (.int (zi bg)), some (.int (zi n)), none, none, none, none, none, none]) (S' := [.int (zi 8), .int (zi n), .ref m]) rfl ?_
    by_cases hc25 : (n : Int) < 8
    · refine gy_icT (pc' := 32) rfl (by decide) (by decide) (by omega) (by omega) hc25 ?_
      refine gz_s 2 (pc' := 34) (L' := [some (.ref m), some (.int (zi by2)), some (.int (zi mk)), some (.int (zi bg)), some (.int (zi n)), none, none, none, none, none, none]) (S' := [.int (zi bg), .int (zi 0), .ref m]) rfl ?_
      refine gz_call rfl (by decide) rfl (by decide) (by decide) (gcal_of rfl rfl rfl (Nat.le_of_ble_eq_true rfl) (gJ.recv (G := gGG) sq14.1 tm rfl rfl)) (mm_must _ sq14.1 m tm 0 (by omega) bg (by omega) fq14_0 efq14_0 (by omega)) (fun q26 _ wq26 => ?_)
      obtain ⟨pq26, oq26, hq26⟩ := q26
      obtain ⟨xq26, zq26, fq26_0, gq26, aq26, bq26, efq26_0, afq26_0, bfq26_0, uq26_0, uq26_1⟩ := wq26
      refine ⟨_, gq26, ?_⟩
      show gz gPP gGG gcn _ _ 37 [some (.ref m), some (.int (zi by2)), some (.int (zi mk)), some (.int (zi bg)), some (.int (zi n)), none, none, none, none, none, none] [.int (zi zq26)] hq26 _
      have sq26 := gSs.tr sq14 xq26 (by decide)
      have s27 := (xq26.2.2.2.2.2 m 5 (by rw [tm]; decide)).trans s15
      have s28 := (xq26.2.2.2.2.2 m 6 (by rw [tm]; decide)).trans s16
      have s29 := (xq26.2.2.2.2.2 m 3 (by rw [tm]; decide)).trans s17
      have s30 := (xq26.2.2.2.2.2 m 16 (by rw [tm]; decide)).trans s18
      have s31 := (xq26.2.2.2.2.2 m 18 (by rw [tm]; decide)).trans s19
      have s32 := (xq26.2.2.2.2.2 m 19 (by rw [tm]; decide)).trans s20
      have s33 := (xq26.2.2.2.2.2 m 21 (by rw [tm]; decide)).trans s21
      have s34 := (xq26.2.2.2.2.2 m 22 (by rw [tm]; decide)).trans s22
      have s35 := (xq26.2.2.2.2.2 m 20 (by rw [tm]; decide)).trans s23
      have pr36 := gPi.fr xq26.2 (by decide) pr24
      clear s15 s16 s17 s18 s19 s20 s21 s22 s23 pr24
      refine gy_ifT (pc' := 70) rfl (by decide) (by decide) (by omega) (by first | (simp [zc]; done) | (simp only [zc]; omega)) ?_
      have hpi37 : gPi ty ip w hh wd hg bs hq26 := fun e => absurd e (by omega)
      exact gz_end (I := .return_) (len := 1) rfl (Or.inl rfl) ⟨sq26, fq26_0, ip, w, hh, wd, hg, bs, rfl, efq26_0, (by omega), (by omega), s30, (by omega), (by omega), s31, (by omega), (by omega), s32, (by omega), (by omega), s33, (by omega), (by omega), s34, (by omega), (by omega), s35, (by omega), (by omega), hpi37⟩
    · refine gy_icF rfl (by decide) (by decide) (by omega) (by omega) hc25 ?_
      refine gz_s 3 (pc' := 34) (L' := [some (.ref m), some (.int (zi by2)), some (.int (zi mk)), some (.int (zi bg)), some (.int (zi n)), none, none, none, none, none, none]) (S' := [.int (zi bg), .int (zi 1), .ref m]) rfl ?_
      refine gz_call rfl (by decide) rfl (by decide) (by decide) (gcal_of rfl rfl rfl (Nat.le_of_ble_eq_true rfl) (gJ.recv (G := gGG) sq14.1 tm rfl rfl)) (mm_must _ sq14.1 m tm 1 (by omega) bg (by omega) fq14_0 efq14_0 (by omega)) (fun q38 _ wq38 => ?_)
      obtain ⟨pq38, oq38, hq38⟩ := q38
      obtain ⟨xq38, zq38, fq38_0, gq38, aq38, bq38, efq38_0, afq38_0, bfq38_0, uq38_0, uq38_1⟩ := wq38
      refine ⟨_, gq38, ?_⟩
      show gz gPP gGG gcn _ _ 37 [some (.ref m), some (.int (zi by2)), some (.int (zi mk)), some (.int (zi bg)), some (.int (zi n)), none, none, none, none, none, none] [.int (zi zq38)] hq38 _
      have sq38 := gSs.tr sq14 xq38 (by decide)
      have s39 := (xq38.2.2.2.2.2 m 5 (by rw [tm]; decide)).trans s15
      have s40 := (xq38.2.2.2.2.2 m 6 (by rw [tm]; decide)).trans s16
      have s41 := (xq38.2.2.2.2.2 m 3 (by rw [tm]; decide)).trans s17
      have s42 := (xq38.2.2.2.2.2 m 16 (by rw [tm]; decide)).trans s18
      have s43 := (xq38.2.2.2.2.2 m 18 (by rw [tm]; decide)).trans s19
      have s44 := (xq38.2.2.2.2.2 m 19 (by rw [tm]; decide)).trans s20
      have s45 := (xq38.2.2.2.2.2 m 21 (by rw [tm]; decide)).trans s21
      have s46 := (xq38.2.2.2.2.2 m 22 (by rw [tm]; decide)).trans s22
      have s47 := (xq38.2.2.2.2.2 m 20 (by rw [tm]; decide)).trans s23
      have pr48 := gPi.fr xq38.2 (by decide) pr24
      clear s15 s16 s17 s18 s19 s20 s21 s22 s23 pr24
      refine gy_ifF rfl (by decide) (by decide) (by omega) (by first | (simp [zc]; done) | (simp only [zc]; omega)) ?_
      refine gz_s 2 (pc' := 42) (L' := [some (.ref m), some (.int (zi by2)), some (.int (zi mk)), some (.int (zi bg)), some (.int (zi n)), none, none, none, none, none, none]) (S' := [.ref m, .ref m]) rfl ?_
      refine gs_gtr rfl (by decide) rfl sq38.1 tm rfl rfl rfl (fun c49 ec49 tc49 => ?_)
      refine gz_s 1 (pc' := 46) (L' := [some (.ref m), some (.int (zi by2)), some (.int (zi mk)), some (.int (zi bg)), some (.int (zi n)), none, none, none, none, none, none]) (S' := [.ref m, .ref c49, .ref m]) rfl ?_
      refine gs_gtk rfl (by decide) rfl sq38.1 tm rfl rfl s39 ?_
      have hl50 : 2000 ≤ hq38.2.2.2.1 c49 ∧ hq38.2.2.2.1 c49 ≤ 2000 := gJ.rowl (G := gGG) sq38.1 tc49 rfl
      refine gs_ald rfl (by decide) sq38.1 tc49 rfl rfl rfl (by decide) (fun _ => rfl) (by omega) (by omega) (fun z51 ez51 az51 bz51 => ?_)
      refine gz_s 1 (pc' := 52) (L' := [some (.ref m), some (.int (zi by2)), some (.int (zi mk)), some (.int (zi bg)), some (.int (zi n)), none, none, none, none, none, none]) (S' := [.int (zi 8), .int (zi z51), .ref m]) rfl ?_
      by_cases hc52 : ¬ (z51 : Int) = 8
      · refine gy_icT (pc' := 59) rfl (by decide) (by decide) (by omega) (by omega) hc52 ?_
        refine gz_s 2 (pc' := 61) (L' := [some (.ref m), some (.int (zi by2)), some (.int (zi mk)), some (.int (zi bg)), some (.int (zi n)), none, none, none, none, none, none]) (S' := [.ref m, .int (zi 0), .ref m]) rfl ?_
        refine gs_gtk rfl (by decide) rfl sq38.1 tm rfl rfl s39 ?_
        refine gz_call rfl (by decide) rfl (by decide) (by decide) (gcal_of rfl rfl rfl (Nat.le_of_ble_eq_true rfl) (gJ.recv (G := gGG) sq38.1 tm rfl rfl)) (mm_must _ sq38.1 m tm 0 (by omega) p0 (by omega) fq38_0 efq38_0 (by omega)) (fun q53 _ wq53 => ?_)
        obtain ⟨pq53, oq53, hq53⟩ := q53
        obtain ⟨xq53, zq53, fq53_0, gq53, aq53, bq53, efq53_0, afq53_0, bfq53_0, uq53_0, uq53_1⟩ := wq53
        refine ⟨_, gq53, ?_⟩
        show gz gPP gGG gcn _ _ 67 [some (.ref m), some (.int (zi by2)), some (.int (zi mk)), some (.int (zi bg)), some (.int (zi n)), none, none, none, none, none, none] [.int (zi zq53)] hq53 _
        have sq53 := gSs.tr sq38 xq53 (by decide)
        have s54 := (xq53.2.2.2.2.2 m 5 (by rw [tm]; decide)).trans s39
        have s55 := (xq53.2.2.2.2.2 m 6 (by rw [tm]; decide)).trans s40
        have s56 := (xq53.2.2.2.2.2 m 3 (by rw [tm]; decide)).trans s41
        have s57 := (xq53.2.2.2.2.2 m 16 (by rw [tm]; decide)).trans s42
        have s58 := (xq53.2.2.2.2.2 m 18 (by rw [tm]; decide)).trans s43
        have s59 := (xq53.2.2.2.2.2 m 19 (by rw [tm]; decide)).trans s44
        have s60 := (xq53.2.2.2.2.2 m 21 (by rw [tm]; decide)).trans s45
        have s61 := (xq53.2.2.2.2.2 m 22 (by rw [tm]; decide)).trans s46
        have s62 := (xq53.2.2.2.2.2 m 20 (by rw [tm]; decide)).trans s47
        have s63 := (xq53.2.2.2.2.2 m 4 (by rw [tm]; decide)).trans ec49
        have pr64 := gPi.fr xq53.2 (by decide) pr48
        clear s39 s40 s41 s42 s43 s44 s45 s46 s47 pr48
        refine gy_ifF rfl (by decide) (by decide) (by omega) (by first | (simp [zc]; done) | (simp only [zc]; omega)) ?_
        have hpi65 : gPi ty ip w hh wd hg bs hq53 := fun e => absurd e (by omega)
        exact gz_end (I := .return_) (len := 1) rfl (Or.inl rfl) ⟨sq53, fq53_0, ip, w, hh, wd, hg, bs, rfl, efq53_0, (by omega), (by omega), s57, (by omega), (by omega), s58, (by omega), (by omega), s59, (by omega), (by omega), s60, (by omega), (by omega), s61, (by omega), (by omega), s62, (by omega), (by omega), hpi65⟩
      · refine gy_icF rfl (by decide) (by decide) (by omega) (by omega) hc52 ?_
        refine gz_s 3 (pc' := 61) (L' := [some (.ref m), some (.int (zi by2)), some (.int (zi mk)), some (.int (zi bg)), some (.int (zi n)), none, none, none, none, none, none]) (S' := [.ref m, .int (zi 1), .ref m]) rfl ?_
        refine gs_gtk rfl (by decide) rfl sq38.1 tm rfl rfl s39 ?_
        refine gz_call rfl (by decide) rfl (by decide) (by decide) (gcal_of rfl rfl rfl (Nat.le_of_ble_eq_true rfl) (gJ.recv (G := gGG) sq38.1 tm rfl rfl)) (mm_must _ sq38.1 m tm 1 (by omega) p0 (by omega) fq38_0 efq38_0 (by omega)) (fun q66 _ wq66 => ?_)
        obtain ⟨pq66, oq66, hq66⟩ := q66
        obtain ⟨xq66, zq66, fq66_0, gq66, aq66, bq66, efq66_0, afq66_0, bfq66_0, uq66_0, uq66_1⟩ := wq66
        refine ⟨_, gq66, ?_⟩
        show gz gPP gGG gcn _ _ 67 [some (.ref m), some (.int (zi by2)), some (.int (zi mk)), some (.int (zi bg)), some (.int (zi n)), none, none, none, none, none, none] [.int (zi zq66)] hq66 _
        have sq66 := gSs.tr sq38 xq66 (by decide)
        have s67 := (xq66.2.2.2.2.2 m 5 (by rw [tm]; decide)).trans s39
        have s68 := (xq66.2.2.2.2.2 m 6 (by rw [tm]; decide)).trans s40
        have s69 := (xq66.2.2.2.2.2 m 3 (by rw [tm]; decide)).trans s41
        have s70 := (xq66.2.2.2.2.2 m 16 (by rw [tm]; decide)).trans s42
        have s71 := (xq66.2.2.2.2.2 m 18 (by rw [tm]; decide)).trans s43
        have s72 := (xq66.2.2.2.2.2 m 19 (by rw [tm]; decide)).trans s44
        have s73 := (xq66.2.2.2.2.2 m 21 (by rw [tm]; decide)).trans s45
        have s74 := (xq66.2.2.2.2.2 m 22 (by rw [tm]; decide)).trans s46
        have s75 := (xq66.2.2.2.2.2 m 20 (by rw [tm]; decide)).trans s47
        have s76 := (xq66.2.2.2.2.2 m 4 (by rw [tm]; decide)).trans ec49
        have pr77 := gPi.fr xq66.2 (by decide) pr48
        clear s39 s40 s41 s42 s43 s44 s45 s46 s47 pr48
        refine gy_ifT (pc' := 71) rfl (by decide) (by decide) (by omega) (by first | (simp [zc]; done) | (simp only [zc]; omega)) ?_
        refine gz_s 2 (pc' := 73) (L' := [some (.ref m), some (.int (zi by2)), some (.int (zi mk)), some (.int (zi bg)), some (.int (zi n)), none, none, none, none, none, none]) (S' := [.ref m, .ref m]) rfl ?_
        refine gs_gtk rfl (by decide) rfl sq66.1 tm rfl rfl s67 ?_
        refine gy_s 2 (pc' := 78) (L' := [some (.ref m), some (.int (zi by2)), some (.int (zi mk)), some (.int (zi bg)), some (.int (zi n)), none, none, none, none, none, none]) (S' := [.int ((zi p0) + (zi 1)), .ref m]) (L2 := [some (.ref m), some (.int (zi by2)), some (.int (zi mk)), some (.int (zi bg)), some (.int (zi n)), none, none, none, none, none, none]) (S2 := [.int (zi (p0 + 1)), .ref m]) rfl (by simp only [zi_add, zi_sub, zi_mul, zi_neg, zi_and1, zi_and7, zi_and15, zi_and31, zi_and255, Int.reduceAdd, Int.reduceMul, Int.reduceSub]) (by simp only [zi_add, zi_sub, zi_mul, zi_neg, zi_and1, zi_and7, zi_and15, zi_and31, zi_and255, Int.reduceAdd, Int.reduceMul, Int.reduceSub]) ?_
        refine gz_call rfl (by decide) rfl (by decide) (by decide) (gcal_of rfl rfl rfl (Nat.le_of_ble_eq_true rfl) (gJ.recv (G := gGG) sq66.1 tm rfl rfl)) (mm_two _ sq66.1 m tm (p0 + 1) (by omega) fq66_0 efq66_0 (by omega) sz s69 (by omega)) (fun q78 _ wq78 => ?_)
        obtain ⟨pq78, oq78, hq78⟩ := q78
        obtain ⟨xq78, zq78, fq78_0, gq78, aq78, bq78, efq78_0, afq78_0, bfq78_0, uq78_0⟩ := wq78
        refine ⟨_, gq78, ?_⟩
        show gz gPP gGG gcn _ _ 81 [some (.ref m), some (.int (zi by2)), some (.int (zi mk)), some (.int (zi bg)), some (.int (zi n)), none, none, none, none, none, none] [.int (zi zq78)] hq78 _
        have sq78 := gSs.tr sq66 xq78 (by decide)
        have s79 := (xq78.2.2.2.2.2 m 5 (by rw [tm]; decide)).trans s67
        have s80 := (xq78.2.2.2.2.2 m 6 (by rw [tm]; decide)).trans s68
        have s81 := (xq78.2.2.2.2.2 m 3 (by rw [tm]; decide)).trans s69
        have s82 := (xq78.2.2.2.2.2 m 16 (by rw [tm]; decide)).trans s70
        have s83 := (xq78.2.2.2.2.2 m 18 (by rw [tm]; decide)).trans s71
        have s84 := (xq78.2.2.2.2.2 m 19 (by rw [tm]; decide)).trans s72
        have s85 := (xq78.2.2.2.2.2 m 21 (by rw [tm]; decide)).trans s73
        have s86 := (xq78.2.2.2.2.2 m 22 (by rw [tm]; decide)).trans s74
        have s87 := (xq78.2.2.2.2.2 m 20 (by rw [tm]; decide)).trans s75
        have s88 := (xq78.2.2.2.2.2 m 4 (by rw [tm]; decide)).trans s76
        have pr89 := gPi.fr xq78.2 (by decide) pr77
        clear s67 s68 s69 s70 s71 s72 s73 s74 s75 s76 pr77
        refine gz_s 2 (pc' := 85) (L' := [some (.ref m), some (.int (zi by2)), some (.int (zi mk)), some (.int (zi bg)), some (.int (zi n)), some (.int (zi zq78)), none, none, none, none, none]) (S' := [.int (zi zq78)]) rfl ?_
        by_cases hc90 : ¬ (zq78 : Int) = 0
        · refine gy_ifT (pc' := 101) rfl (by decide) (by decide) (by omega) hc90 ?_
          refine gz_s 5 (pc' := 109) (L' := [some (.ref m), some (.int (zi by2)), some (.int (zi mk)), some (.int (zi bg)), some (.int (zi n)), some (.int (zi zq78)), none, none, none, none, none]) (S' := [.int (zi 1), .int (zi zq78), .ref m]) rfl ?_
          refine gy_icF rfl (by decide) (by decide) (by omega) (by omega) (by first | (simp [zc]; done) | (simp only [zc]; omega)) ?_
          refine gz_s 2 (pc' := 116) (L' := [some (.ref m), some (.int (zi by2)), some (.int (zi mk)), some (.int (zi bg)), some (.int (zi n)), some (.int (zi zq78)), none, none, none, none, none]) (S' := [.int (zi 64), .int (zi zq78), .ref m]) rfl ?_
          by_cases hc91 : (64 : Int) < zq78
          · refine gy_icT (pc' := 123) rfl (by decide) (by decide) (by omega) (by omega) hc91 ?_
            refine gz_s 2 (pc' := 125) (L' := [some (.ref m), some (.int (zi by2)), some (.int (zi mk)), some (.int (zi bg)), some (.int (zi n)), some (.int (zi zq78)), none, none, none, none, none]) (S' := [.ref m, .int (zi 0), .ref m]) rfl ?_
            refine gs_gtk rfl (by decide) rfl sq78.1 tm rfl rfl s79 ?_
            refine gy_s 2 (pc' := 130) (L' := [some (.ref m), some (.int (zi by2)), some (.int (zi mk)), some (.int (zi bg)), some (.int (zi n)), some (.int (zi zq78)), none, none, none, none, none]) (S' := [.int ((zi p0) + (zi 1)), .int (zi 0), .ref m]) (L2 := [some (.ref m), some (.int (zi by2)), some (.int (zi mk)), some (.int (zi bg)), some (.int (zi n)), some (.int (zi zq78)), none, none, none, none, none]) (S2 := [.int (zi (p0 + 1)), .int (zi 0), .ref m]) rfl (by simp only [zi_add, zi_sub, zi_mul, zi_neg, zi_and1, zi_and7, zi_and15, zi_and31, zi_and255, Int.reduceAdd, Int.reduceMul, Int.reduceSub]) (by simp only [zi_add, zi_sub, zi_mul, zi_neg, zi_and1, zi_and7, zi_and15, zi_and31, zi_and255, Int.reduceAdd, Int.reduceMul, Int.reduceSub]) ?_
            refine gz_call rfl (by decide) rfl (by decide) (by decide) (gcal_of rfl rfl rfl (Nat.le_of_ble_eq_true rfl) (gJ.recv (G := gGG) sq78.1 tm rfl rfl)) (mm_must _ sq78.1 m tm 0 (by omega) (p0 + 1) (by omega) fq78_0 efq78_0 (by omega)) (fun q92 _ wq92 => ?_)
            obtain ⟨pq92, oq92, hq92⟩ := q92
            obtain ⟨xq92, zq92, fq92_0, gq92, aq92, bq92, efq92_0, afq92_0, bfq92_0, uq92_0, uq92_1⟩ := wq92
            refine ⟨_, gq92, ?_⟩
            show gz gPP gGG gcn _ _ 133 [some (.ref m), some (.int (zi by2)), some (.int (zi mk)), some (.int (zi bg)), some (.int (zi n)), some (.int (zi zq78)), none, none, none, none, none] [.int (zi zq92)] hq92 _
            have sq92 := gSs.tr sq78 xq92 (by decide)
            have s93 := (xq92.2.2.2.2.2 m 5 (by rw [tm]; decide)).trans s79
            have s94 := (xq92.2.2.2.2.2 m 6 (by rw [tm]; decide)).trans s80
            have s95 := (xq92.2.2.2.2.2 m 3 (by rw [tm]; decide)).trans s81
            have s96 := (xq92.2.2.2.2.2 m 16 (by rw [tm]; decide)).trans s82
            have s97 := (xq92.2.2.2.2.2 m 18 (by rw [tm]; decide)).trans s83
            have s98 := (xq92.2.2.2.2.2 m 19 (by rw [tm]; decide)).trans s84
            have s99 := (xq92.2.2.2.2.2 m 21 (by rw [tm]; decide)).trans s85
            have s100 := (xq92.2.2.2.2.2 m 22 (by rw [tm]; decide)).trans s86
            have s101 := (xq92.2.2.2.2.2 m 20 (by rw [tm]; decide)).trans s87
            have s102 := (xq92.2.2.2.2.2 m 4 (by rw [tm]; decide)).trans s88
            have pr103 := gPi.fr xq92.2 (by decide) pr89
            clear s79 s80 s81 s82 s83 s84 s85 s86 s87 s88 pr89
            refine gy_ifF rfl (by decide) (by decide) (by omega) (by first | (simp [zc]; done) | (simp only [zc]; omega)) ?_
            have hpi104 : gPi ty ip w hh wd hg bs hq92 := fun e => absurd e (by omega)
            exact gz_end (I := .return_) (len := 1) rfl (Or.inl rfl) ⟨sq92, fq92_0, ip, w, hh, wd, hg, bs, rfl, efq92_0, (by omega), (by omega), s96, (by omega), (by omega), s97, (by omega), (by omega), s98, (by omega), (by omega), s99, (by omega), (by omega), s100, (by omega), (by omega), s101, (by omega), (by omega), hpi104⟩
          · refine gy_icF rfl (by decide) (by decide) (by omega) (by omega) hc91 ?_
            refine gz_s 3 (pc' := 125) (L' := [some (.ref m), some (.int (zi by2)), some (.int (zi mk)), some (.int (zi bg)), some (.int (zi n)), some (.int (zi zq78)), none, none, none, none, none]) (S' := [.ref m, .int (zi 1), .ref m]) rfl ?_
            refine gs_gtk rfl (by decide) rfl sq78.1 tm rfl rfl s79 ?_
            refine gy_s 2 (pc' := 130) (L' := [some (.ref m), some (.int (zi by2)), some (.int (zi mk)), some (.int (zi bg)), some (.int (zi n)), some (.int (zi zq78)), none, none, none, none, none]) (S' := [.int ((zi p0) + (zi 1)), .int (zi 1), .ref m]) (L2 := [some (.ref m), some (.int (zi by2)), some (.int (zi mk)), some (.int (zi bg)), some (.int (zi n)), some (.int (zi zq78)), none, none, none, none, none]) (S2 := [.int (zi (p0 + 1)), .int (zi 1), .ref m]) rfl (by simp only [zi_add, zi_sub, zi_mul, zi_neg, zi_and1, zi_and7, zi_and15, zi_and31, zi_and255, Int.reduceAdd, Int.reduceMul, Int.reduceSub]) (by simp only [zi_add, zi_sub, zi_mul, zi_neg, zi_and1, zi_and7, zi_and15, zi_and31, zi_and255, Int.reduceAdd, Int.reduceMul, Int.reduceSub]) ?_
            refine gz_call rfl (by decide) rfl (by decide) (by decide) (gcal_of rfl rfl rfl (Nat.le_of_ble_eq_true rfl) (gJ.recv (G := gGG) sq78.1 tm rfl rfl)) (mm_must _ sq78.1 m tm 1 (by omega) (p0 + 1) (by omega) fq78_0 efq78_0 (by omega)) (fun q105 _ wq105 => ?_)
            obtain ⟨pq105, oq105, hq105⟩ := q105
            obtain ⟨xq105, zq105, fq105_0, gq105, aq105, bq105, efq105_0, afq105_0, bfq105_0, uq105_0, uq105_1⟩ := wq105
            refine ⟨_, gq105, ?_⟩
            show gz gPP gGG gcn _ _ 133 [some (.ref m), some (.int (zi by2)), some (.int (zi mk)), some (.int (zi bg)), some (.int (zi n)), some (.int (zi zq78)), none, none, none, none, none] [.int (zi zq105)] hq105 _
            have sq105 := gSs.tr sq78 xq105 (by decide)
            have s106 := (xq105.2.2.2.2.2 m 5 (by rw [tm]; decide)).trans s79
            have s107 := (xq105.2.2.2.2.2 m 6 (by rw [tm]; decide)).trans s80
            have s108 := (xq105.2.2.2.2.2 m 3 (by rw [tm]; decide)).trans s81
            have s109 := (xq105.2.2.2.2.2 m 16 (by rw [tm]; decide)).trans s82
            have s110 := (xq105.2.2.2.2.2 m 18 (by rw [tm]; decide)).trans s83
            have s111 := (xq105.2.2.2.2.2 m 19 (by rw [tm]; decide)).trans s84
            have s112 := (xq105.2.2.2.2.2 m 21 (by rw [tm]; decide)).trans s85
            have s113 := (xq105.2.2.2.2.2 m 22 (by rw [tm]; decide)).trans s86
            have s114 := (xq105.2.2.2.2.2 m 20 (by rw [tm]; decide)).trans s87
            have s115 := (xq105.2.2.2.2.2 m 4 (by rw [tm]; decide)).trans s88
            have pr116 := gPi.fr xq105.2 (by decide) pr89
            clear s79 s80 s81 s82 s83 s84 s85 s86 s87 s88 pr89
            by_cases hc117 : ¬ (zq105 : Int) = 0
            · refine gy_ifT (pc' := 137) rfl (by decide) (by decide) (by omega) hc117 ?_
              refine gz_s 2 (pc' := 139) (L' := [some (.ref m), some (.int (zi by2)), some (.int (zi mk)), some (.int (zi bg)), some (.int (zi n)), some (.int (zi zq78)), none, none, none, none, none]) (S' := [.ref m, .ref m]) rfl ?_
              refine gs_gtk rfl (by decide) rfl sq105.1 tm rfl rfl s106 ?_
              refine gy_s 2 (pc' := 144) (L' := [some (.ref m), some (.int (zi by2)), some (.int (zi mk)), some (.int (zi bg)), some (.int (zi n)), some (.int (zi zq78)), none, none, none, none, none]) (S' := [.int ((zi p0) + (zi 3)), .ref m]) (L2 := [some (.ref m), some (.int (zi by2)), some (.int (zi mk)), some (.int (zi bg)), some (.int (zi n)), some (.int (zi zq78)), none, none, none, none, none]) (S2 := [.int (zi (p0 + 3)), .ref m]) rfl (by simp only [zi_add, zi_sub, zi_mul, zi_neg, zi_and1, zi_and7, zi_and15, zi_and31, zi_and255, Int.reduceAdd, Int.reduceMul, Int.reduceSub]) (by simp only [zi_add, zi_sub, zi_mul, zi_neg, zi_and1, zi_and7, zi_and15, zi_and31, zi_and255, Int.reduceAdd, Int.reduceMul, Int.reduceSub]) ?_
              refine gz_call rfl (by decide) rfl (by decide) (by decide) (gcal_of rfl rfl rfl (Nat.le_of_ble_eq_true rfl) (gJ.recv (G := gGG) sq105.1 tm rfl rfl)) (mm_two _ sq105.1 m tm (p0 + 3) (by omega) fq105_0 efq105_0 (by omega) sz s108 (by omega)) (fun q118 _ wq118 => ?_)
              obtain ⟨pq118, oq118, hq118⟩ := q118
              obtain ⟨xq118, zq118, fq118_0, gq118, aq118, bq118, efq118_0, afq118_0, bfq118_0, uq118_0⟩ := wq118
              refine ⟨_, gq118, ?_⟩
              show gz gPP gGG gcn _ _ 147 [some (.ref m), some (.int (zi by2)), some (.int (zi mk)), some (.int (zi bg)), some (.int (zi n)), some (.int (zi zq78)), none, none, none, none, none] [.int (zi zq118)] hq118 _
              have sq118 := gSs.tr sq105 xq118 (by decide)
              have s119 := (xq118.2.2.2.2.2 m 5 (by rw [tm]; decide)).trans s106
              have s120 := (xq118.2.2.2.2.2 m 6 (by rw [tm]; decide)).trans s107
              have s121 := (xq118.2.2.2.2.2 m 3 (by rw [tm]; decide)).trans s108
              have s122 := (xq118.2.2.2.2.2 m 16 (by rw [tm]; decide)).trans s109
              have s123 := (xq118.2.2.2.2.2 m 18 (by rw [tm]; decide)).trans s110
              have s124 := (xq118.2.2.2.2.2 m 19 (by rw [tm]; decide)).trans s111
              have s125 := (xq118.2.2.2.2.2 m 21 (by rw [tm]; decide)).trans s112
              have s126 := (xq118.2.2.2.2.2 m 22 (by rw [tm]; decide)).trans s113
              have s127 := (xq118.2.2.2.2.2 m 20 (by rw [tm]; decide)).trans s114
              have s128 := (xq118.2.2.2.2.2 m 4 (by rw [tm]; decide)).trans s115
              have pr129 := gPi.fr xq118.2 (by decide) pr116
              clear s106 s107 s108 s109 s110 s111 s112 s113 s114 s115 pr116
              refine gz_s 4 (pc' := 153) (L' := [some (.ref m), some (.int (zi by2)), some (.int (zi mk)), some (.int (zi bg)), some (.int (zi n)), some (.int (zi zq78)), some (.int (zi zq118)), none, none, none, none]) (S' := [.int (zi 1), .int (zi zq118), .ref m]) rfl ?_
              by_cases hc130 : (zq118 : Int) < 1
              · refine gy_icT (pc' := 167) rfl (by decide) (by decide) (by omega) (by omega) hc130 ?_
                refine gz_s 2 (pc' := 169) (L' := [some (.ref m), some (.int (zi by2)), some (.int (zi mk)), some (.int (zi bg)), some (.int (zi n)), some (.int (zi zq78)), some (.int (zi zq118)), none, none, none, none]) (S' := [.ref m, .int (zi 0), .ref m]) rfl ?_
                refine gs_gtk rfl (by decide) rfl sq118.1 tm rfl rfl s119 ?_
                refine gy_s 2 (pc' := 174) (L' := [some (.ref m), some (.int (zi by2)), some (.int (zi mk)), some (.int (zi bg)), some (.int (zi n)), some (.int (zi zq78)), some (.int (zi zq118)), none, none, none, none]) (S' := [.int ((zi p0) + (zi 3)), .int (zi 0), .ref m]) (L2 := [some (.ref m), some (.int (zi by2)), some (.int (zi mk)), some (.int (zi bg)), some (.int (zi n)), some (.int (zi zq78)), some (.int (zi zq118)), none, none, none, none]) (S2 := [.int (zi (p0 + 3)), .int (zi 0), .ref m]) rfl (by simp only [zi_add, zi_sub, zi_mul, zi_neg, zi_and1, zi_and7, zi_and15, zi_and31, zi_and255, Int.reduceAdd, Int.reduceMul, Int.reduceSub]) (by simp only [zi_add, zi_sub, zi_mul, zi_neg, zi_and1, zi_and7, zi_and15, zi_and31, zi_and255, Int.reduceAdd, Int.reduceMul, Int.reduceSub]) ?_
                refine gz_call rfl (by decide) rfl (by decide) (by decide) (gcal_of rfl rfl rfl (Nat.le_of_ble_eq_true rfl) (gJ.recv (G := gGG) sq118.1 tm rfl rfl)) (mm_must _ sq118.1 m tm 0 (by omega) (p0 + 3) (by omega) fq118_0 efq118_0 (by omega)) (fun q131 _ wq131 => ?_)
                obtain ⟨pq131, oq131, hq131⟩ := q131
                obtain ⟨xq131, zq131, fq131_0, gq131, aq131, bq131, efq131_0, afq131_0, bfq131_0, uq131_0, uq131_1⟩ := wq131
                refine ⟨_, gq131, ?_⟩
                show gz gPP gGG gcn _ _ 177 [some (.ref m), some (.int (zi by2)), some (.int (zi mk)), some (.int (zi bg)), some (.int (zi n)), some (.int (zi zq78)), some (.int (zi zq118)), none, none, none, none] [.int (zi zq131)] hq131 _
                have sq131 := gSs.tr sq118 xq131 (by decide)
                have s132 := (xq131.2.2.2.2.2 m 5 (by rw [tm]; decide)).trans s119
                have s133 := (xq131.2.2.2.2.2 m 6 (by rw [tm]; decide)).trans s120
                have s134 := (xq131.2.2.2.2.2 m 3 (by rw [tm]; decide)).trans s121
                have s135 := (xq131.2.2.2.2.2 m 16 (by rw [tm]; decide)).trans s122
                have s136 := (xq131.2.2.2.2.2 m 18 (by rw [tm]; decide)).trans s123
                have s137 := (xq131.2.2.2.2.2 m 19 (by rw [tm]; decide)).trans s124
                have s138 := (xq131.2.2.2.2.2 m 21 (by rw [tm]; decide)).trans s125
                have s139 := (xq131.2.2.2.2.2 m 22 (by rw [tm]; decide)).trans s126
                have s140 := (xq131.2.2.2.2.2 m 20 (by rw [tm]; decide)).trans s127
                have s141 := (xq131.2.2.2.2.2 m 4 (by rw [tm]; decide)).trans s128
                have pr142 := gPi.fr xq131.2 (by decide) pr129
                clear s119 s120 s121 s122 s123 s124 s125 s126 s127 s128 pr129
                refine gy_ifF rfl (by decide) (by decide) (by omega) (by first | (simp [zc]; done) | (simp only [zc]; omega)) ?_
                have hpi143 : gPi ty ip w hh wd hg bs hq131 := fun e => absurd e (by omega)
                exact gz_end (I := .return_) (len := 1) rfl (Or.inl rfl) ⟨sq131, fq131_0, ip, w, hh, wd, hg, bs, rfl, efq131_0, (by omega), (by omega), s135, (by omega), (by omega), s136, (by omega), (by omega), s137, (by omega), (by omega), s138, (by omega), (by omega), s139, (by omega), (by omega), s140, (by omega), (by omega), hpi143⟩
              · refine gy_icF rfl (by decide) (by decide) (by omega) (by omega) hc130 ?_
                refine gz_s 2 (pc' := 160) (L' := [some (.ref m), some (.int (zi by2)), some (.int (zi mk)), some (.int (zi bg)), some (.int (zi n)), some (.int (zi zq78)), some (.int (zi zq118)), none, none, none, none]) (S' := [.int (zi 64), .int (zi zq118), .ref m]) rfl ?_
                by_cases hc144 : (64 : Int) < zq118
                · refine gy_icT (pc' := 167) rfl (by decide) (by decide) (by omega) (by omega) hc144 ?_
                  refine gz_s 2 (pc' := 169) (L' := [some (.ref m), some (.int (zi by2)), some (.int (zi mk)), some (.int (zi bg)), some (.int (zi n)), some (.int (zi zq78)), some (.int (zi zq118)), none, none, none, none]) (S' := [.ref m, .int (zi 0), .ref m]) rfl ?_
                  refine gs_gtk rfl (by decide) rfl sq118.1 tm rfl rfl s119 ?_
                  refine gy_s 2 (pc' := 174) (L' := [some (.ref m), some (.int (zi by2)), some (.int (zi mk)), some (.int (zi bg)), some (.int (zi n)), some (.int (zi zq78)), some (.int (zi zq118)), none, none, none, none]) (S' := [.int ((zi p0) + (zi 3)), .int (zi 0), .ref m]) (L2 := [some (.ref m), some (.int (zi by2)), some (.int (zi mk)), some (.int (zi bg)), some (.int (zi n)), some (.int (zi zq78)), some (.int (zi zq118)), none, none, none, none]) (S2 := [.int (zi (p0 + 3)), .int (zi 0), .ref m]) rfl (by simp only [zi_add, zi_sub, zi_mul, zi_neg, zi_and1, zi_and7, zi_and15, zi_and31, zi_and255, Int.reduceAdd, Int.reduceMul, Int.reduceSub]) (by simp only [zi_add, zi_sub, zi_mul, zi_neg, zi_and1, zi_and7, zi_and15, zi_and31, zi_and255, Int.reduceAdd, Int.reduceMul, Int.reduceSub]) ?_
                  refine gz_call rfl (by decide) rfl (by decide) (by decide) (gcal_of rfl rfl rfl (Nat.le_of_ble_eq_true rfl) (gJ.recv (G := gGG) sq118.1 tm rfl rfl)) (mm_must _ sq118.1 m tm 0 (by omega) (p0 + 3) (by omega) fq118_0 efq118_0 (by omega)) (fun q145 _ wq145 => ?_)
                  obtain ⟨pq145, oq145, hq145⟩ := q145
                  obtain ⟨xq145, zq145, fq145_0, gq145, aq145, bq145, efq145_0, afq145_0, bfq145_0, uq145_0, uq145_1⟩ := wq145
                  refine ⟨_, gq145, ?_⟩
                  show gz gPP gGG gcn _ _ 177 [some (.ref m), some (.int (zi by2)), some (.int (zi mk)), some (.int (zi bg)), some (.int (zi n)), some (.int (zi zq78)), some (.int (zi zq118)), none, none, none, none] [.int (zi zq145)] hq145 _
                  have sq145 := gSs.tr sq118 xq145 (by decide)
                  have s146 := (xq145.2.2.2.2.2 m 5 (by rw [tm]; decide)).trans s119
                  have s147 := (xq145.2.2.2.2.2 m 6 (by rw [tm]; decide)).trans s120
                  have s148 := (xq145.2.2.2.2.2 m 3 (by rw [tm]; decide)).trans s121
                  have s149 := (xq145.2.2.2.2.2 m 16 (by rw [tm]; decide)).trans s122
                  have s150 := (xq145.2.2.2.2.2 m 18 (by rw [tm]; decide)).trans s123
                  have s151 := (xq145.2.2.2.2.2 m 19 (by rw [tm]; decide)).trans s124
                  have s152 := (xq145.2.2.2.2.2 m 21 (by rw [tm]; decide)).trans s125
                  have s153 := (xq145.2.2.2.2.2 m 22 (by rw [tm]; decide)).trans s126
                  have s154 := (xq145.2.2.2.2.2 m 20 (by rw [tm]; decide)).trans s127
                  have s155 := (xq145.2.2.2.2.2 m 4 (by rw [tm]; decide)).trans s128
                  have pr156 := gPi.fr xq145.2 (by decide) pr129
                  clear s119 s120 s121 s122 s123 s124 s125 s126 s127 s128 pr129
                  refine gy_ifF rfl (by decide) (by decide) (by omega) (by first | (simp [zc]; done) | (simp only [zc]; omega)) ?_
                  have hpi157 : gPi ty ip w hh wd hg bs hq145 := fun e => absurd e (by omega)
                  exact gz_end (I := .return_) (len := 1) rfl (Or.inl rfl) ⟨sq145, fq145_0, ip, w, hh, wd, hg, bs, rfl, efq145_0, (by omega), (by omega), s149, (by omega), (by omega), s150, (by omega), (by omega), s151, (by omega), (by omega), s152, (by omega), (by omega), s153, (by omega), (by omega), s154, (by omega), (by omega), hpi157⟩
                · refine gy_icF rfl (by decide) (by decide) (by omega) (by omega) hc144 ?_
                  refine gz_s 3 (pc' := 169) (L' := [some (.ref m), some (.int (zi by2)), some (.int (zi mk)), some (.int (zi bg)), some (.int (zi n)), some (.int (zi zq78)), some (.int (zi zq118)), none, none, none, none]) (S' := [.ref m, .int (zi 1), .ref m]) rfl ?_
                  refine gs_gtk rfl (by decide) rfl sq118.1 tm rfl rfl s119 ?_
                  refine gy_s 2 (pc' := 174) (L' := [some (.ref m), some (.int (zi by2)), some (.int (zi mk)), some (.int (zi bg)), some (.int (zi n)), some (.int (zi zq78)), some (.int (zi zq118)), none, none, none, none]) (S' := [.int ((zi p0) + (zi 3)), .int (zi 1), .ref m]) (L2 := [some (.ref m), some (.int (zi by2)), some (.int (zi mk)), some (.int (zi bg)), some (.int (zi n)), some (.int (zi zq78)), some (.int (zi zq118)), none, none, none, none]) (S2 := [.int (zi (p0 + 3)), .int (zi 1), .ref m]) rfl (by simp only [zi_add, zi_sub, zi_mul, zi_neg, zi_and1, zi_and7, zi_and15, zi_and31, zi_and255, Int.reduceAdd, Int.reduceMul, Int.reduceSub]) (by simp only [zi_add, zi_sub, zi_mul, zi_neg, zi_and1, zi_and7, zi_and15, zi_and31, zi_and255, Int.reduceAdd, Int.reduceMul, Int.reduceSub]) ?_
                  refine gz_call rfl (by decide) rfl (by decide) (by decide) (gcal_of rfl rfl rfl (Nat.le_of_ble_eq_true rfl) (gJ.recv (G := gGG) sq118.1 tm rfl rfl)) (mm_must _ sq118.1 m tm 1 (by omega) (p0 + 3) (by omega) fq118_0 efq118_0 (by omega)) (fun q158 _ wq158 => ?_)
                  obtain ⟨pq158, oq158, hq158⟩ := q158
                  obtain ⟨xq158, zq158, fq158_0, gq158, aq158, bq158, efq158_0, afq158_0, bfq158_0, uq158_0, uq158_1⟩ := wq158
                  refine ⟨_, gq158, ?_⟩
                  show gz gPP gGG gcn _ _ 177 [some (.ref m), some (.int (zi by2)), some (.int (zi mk)), some (.int (zi bg)), some (.int (zi n)), some (.int (zi zq78)), some (.int (zi zq118)), none, none, none, none] [.int (zi zq158)] hq158 _
                  have sq158 := gSs.tr sq118 xq158 (by decide)
                  have s159 := (xq158.2.2.2.2.2 m 5 (by rw [tm]; decide)).trans s119
                  have s160 := (xq158.2.2.2.2.2 m 6 (by rw [tm]; decide)).trans s120
                  have s161 := (xq158.2.2.2.2.2 m 3 (by rw [tm]; decide)).trans s121
                  have s162 := (xq158.2.2.2.2.2 m 16 (by rw [tm]; decide)).trans s122
                  have s163 := (xq158.2.2.2.2.2 m 18 (by rw [tm]; decide)).trans s123
                  have s164 := (xq158.2.2.2.2.2 m 19 (by rw [tm]; decide)).trans s124
                  have s165 := (xq158.2.2.2.2.2 m 21 (by rw [tm]; decide)).trans s125
                  have s166 := (xq158.2.2.2.2.2 m 22 (by rw [tm]; decide)).trans s126
                  have s167 := (xq158.2.2.2.2.2 m 20 (by rw [tm]; decide)).trans s127
                  have s168 := (xq158.2.2.2.2.2 m 4 (by rw [tm]; decide)).trans s128
                  have pr169 := gPi.fr xq158.2 (by decide) pr129
                  clear s119 s120 s121 s122 s123 s124 s125 s126 s127 s128 pr129
                  by_cases hc170 : ¬ (zq158 : Int) = 0
                  · refine gy_ifT (pc' := 181) rfl (by decide) (by decide) (by omega) hc170 ?_
                    refine gz_s 1 (pc' := 182) (L' := [some (.ref m), some (.int (zi by2)), some (.int (zi mk)), some (.int (zi bg)), some (.int (zi n)), some (.int (zi zq78)), some (.int (zi zq118)), none, none, none, none]) (S' := [.ref m]) rfl ?_
                    refine gs_gtk rfl (by decide) rfl sq158.1 tm rfl rfl s168 ?_
                    refine gz_s 1 (pc' := 186) (L' := [some (.ref m), some (.int (zi by2)), some (.int (zi mk)), some (.int (zi bg)), some (.int (zi n)), some (.int (zi zq78)), some (.int (zi zq118)), none, none, none, none]) (S' := [.ref m, .ref c49]) rfl ?_
                    refine gs_gtk rfl (by decide) rfl sq158.1 tm rfl rfl s159 ?_
                    refine gy_s 2 (pc' := 191) (L' := [some (.ref m), some (.int (zi by2)), some (.int (zi mk)), some (.int (zi bg)), some (.int (zi n)), some (.int (zi zq78)), some (.int (zi zq118)), none, none, none, none]) (S' := [.int ((zi p0) + (zi 5)), .ref c49]) (L2 := [some (.ref m), some (.int (zi by2)), some (.int (zi mk)), some (.int (zi bg)), some (.int (zi n)), some (.int (zi zq78)), some (.int (zi zq118)), none, none, none, none]) (S2 := [.int (zi (p0 + 5)), .ref c49]) rfl (by simp only [zi_add, zi_sub, zi_mul, zi_neg, zi_and1, zi_and7, zi_and15, zi_and31, zi_and255, Int.reduceAdd, Int.reduceMul, Int.reduceSub]) (by simp only [zi_add, zi_sub, zi_mul, zi_neg, zi_and1, zi_and7, zi_and15, zi_and31, zi_and255, Int.reduceAdd, Int.reduceMul, Int.reduceSub]) ?_
                    have hl171 : 2000 ≤ hq158.2.2.2.1 c49 ∧ hq158.2.2.2.1 c49 ≤ 2000 := gJ.rowl (G := gGG) sq158.1 tc49 rfl
                    refine gs_ald rfl (by decide) sq158.1 tc49 rfl rfl rfl (by decide) (fun _ => rfl) (by omega) (by omega) (fun z172 ez172 az172 bz172 => ?_)
                    refine gz_s 4 (pc' := 198) (L' := [some (.ref m), some (.int (zi by2)), some (.int (zi mk)), some (.int (zi bg)), some (.int (zi n)), some (.int (zi zq78)), some (.int (zi zq118)), some (.int (zi z172)), none, none, none]) (S' := [.int (zi 1), .int (zi z172), .ref m]) rfl ?_
                    by_cases hc173 : (z172 : Int) = 1
                    · refine gy_icT (pc' := 207) rfl (by decide) (by decide) (by omega) (by omega) hc173 ?_
                      refine gz_s 3 (pc' := 213) (L' := [some (.ref m), some (.int (zi by2)), some (.int (zi mk)), some (.int (zi bg)), some (.int (zi n)), some (.int (zi zq78)), some (.int (zi zq118)), some (.int (zi z172)), none, none, none]) (S' := [.ref m, .int (zi 1), .ref m]) rfl ?_
                      refine gs_gtk rfl (by decide) rfl sq158.1 tm rfl rfl s159 ?_
                      refine gy_s 2 (pc' := 218) (L' := [some (.ref m), some (.int (zi by2)), some (.int (zi mk)), some (.int (zi bg)), some (.int (zi n)), some (.int (zi zq78)), some (.int (zi zq118)), some (.int (zi z172)), none, none, none]) (S' := [.int ((zi p0) + (zi 5)), .int (zi 1), .ref m]) (L2 := [some (.ref m), some (.int (zi by2)), some (.int (zi mk)), some (.int (zi bg)), some (.int (zi n)), some (.int (zi zq78)), some (.int (zi zq118)), some (.int (zi z172)), none, none, none]) (S2 := [.int (zi (p0 + 5)), .int (zi 1), .ref m]) rfl (by simp only [zi_add, zi_sub, zi_mul, zi_neg, zi_and1, zi_and7, zi_and15, zi_and31, zi_and255, Int.reduceAdd, Int.reduceMul, Int.reduceSub]) (by simp only [zi_add, zi_sub, zi_mul, zi_neg, zi_and1, zi_and7, zi_and15, zi_and31, zi_and255, Int.reduceAdd, Int.reduceMul, Int.reduceSub]) ?_
                      refine gz_call rfl (by decide) rfl (by decide) (by decide) (gcal_of rfl rfl rfl (Nat.le_of_ble_eq_true rfl) (gJ.recv (G := gGG) sq158.1 tm rfl rfl)) (mm_must _ sq158.1 m tm 1 (by omega) (p0 + 5) (by omega) fq158_0 efq158_0 (by omega)) (fun q174 _ wq174 => ?_)
                      obtain ⟨pq174, oq174, hq174⟩ := q174
                      obtain ⟨xq174, zq174, fq174_0, gq174, aq174, bq174, efq174_0, afq174_0, bfq174_0, uq174_0, uq174_1⟩ := wq174
                      refine ⟨_, gq174, ?_⟩
                      show gz gPP gGG gcn _ _ 221 [some (.ref m), some (.int (zi by2)), some (.int (zi mk)), some (.int (zi bg)), some (.int (zi n)), some (.int (zi zq78)), some (.int (zi zq118)), some (.int (zi z172)), none, none, none] [.int (zi zq174)] hq174 _
                      have sq174 := gSs.tr sq158 xq174 (by decide)
                      have s175 := (xq174.2.2.2.2.2 m 5 (by rw [tm]; decide)).trans s159
                      have s176 := (xq174.2.2.2.2.2 m 6 (by rw [tm]; decide)).trans s160
                      have s177 := (xq174.2.2.2.2.2 m 3 (by rw [tm]; decide)).trans s161
                      have s178 := (xq174.2.2.2.2.2 m 16 (by rw [tm]; decide)).trans s162
                      have s179 := (xq174.2.2.2.2.2 m 18 (by rw [tm]; decide)).trans s163
                      have s180 := (xq174.2.2.2.2.2 m 19 (by rw [tm]; decide)).trans s164
                      have s181 := (xq174.2.2.2.2.2 m 21 (by rw [tm]; decide)).trans s165
                      have s182 := (xq174.2.2.2.2.2 m 22 (by rw [tm]; decide)).trans s166
                      have s183 := (xq174.2.2.2.2.2 m 20 (by rw [tm]; decide)).trans s167
                      have s184 := (xq174.2.2.2.2.2 m 4 (by rw [tm]; decide)).trans s168
                      have pr185 := gPi.fr xq174.2 (by decide) pr169
                      clear s159 s160 s161 s162 s163 s164 s165 s166 s167 s168 pr169
                      by_cases hc186 : (zq174 : Int) = 0
                      · refine gy_ifT (pc' := 249) rfl (by decide) (by decide) (by omega) hc186 ?_
                        have hpi187 : gPi ty ip w hh wd hg bs hq174 := fun e => absurd e (by omega)
                        exact gz_end (I := .return_) (len := 1) rfl (Or.inl rfl) ⟨sq174, fq174_0, ip, w, hh, wd, hg, bs, rfl, efq174_0, (by omega), (by omega), s178, (by omega), (by omega), s179, (by omega), (by omega), s180, (by omega), (by omega), s181, (by omega), (by omega), s182, (by omega), (by omega), s183, (by omega), (by omega), hpi187⟩
                      · refine gy_ifF rfl (by decide) (by decide) (by omega) hc186 ?_
                        refine gy_s 7 (pc' := 234) (L' := [some (.ref m), some (.int (zi by2)), some (.int (zi mk)), some (.int (zi bg)), some (.int (zi n)), some (.int (zi zq78)), some (.int (zi zq118)), some (.int (zi z172)), none, none, none]) (S' := [.int ((zi 8) + ((zi 3) * (zi z172))), .int (zi n), .ref m]) (L2 := [some (.ref m), some (.int (zi by2)), some (.int (zi mk)), some (.int (zi bg)), some (.int (zi n)), some (.int (zi zq78)), some (.int (zi zq118)), some (.int (zi z172)), none, none, none]) (S2 := [.int (zi (8 + (3 * z172))), .int (zi n), .ref m]) rfl (by simp only [zi_add, zi_sub, zi_mul, zi_neg, zi_and1, zi_and7, zi_and15, zi_and31, zi_and255, Int.reduceAdd, Int.reduceMul, Int.reduceSub]) (by simp only [zi_add, zi_sub, zi_mul, zi_neg, zi_and1, zi_and7, zi_and15, zi_and31, zi_and255, Int.reduceAdd, Int.reduceMul, Int.reduceSub]) ?_
                        by_cases hc188 : ¬ (n : Int) = 8 + (3 * z172)
                        · refine gy_icT (pc' := 241) rfl (by decide) (by decide) (by omega) (by omega) hc188 ?_
                          refine gz_s 2 (pc' := 243) (L' := [some (.ref m), some (.int (zi by2)), some (.int (zi mk)), some (.int (zi bg)), some (.int (zi n)), some (.int (zi zq78)), some (.int (zi zq118)), some (.int (zi z172)), none, none, none]) (S' := [.int (zi bg), .int (zi 0), .ref m]) rfl ?_
                          refine gz_call rfl (by decide) rfl (by decide) (by decide) (gcal_of rfl rfl rfl (Nat.le_of_ble_eq_true rfl) (gJ.recv (G := gGG) sq174.1 tm rfl rfl)) (mm_must _ sq174.1 m tm 0 (by omega) bg (by omega) fq174_0 efq174_0 (by omega)) (fun q189 _ wq189 => ?_)
                          obtain ⟨pq189, oq189, hq189⟩ := q189
                          obtain ⟨xq189, zq189, fq189_0, gq189, aq189, bq189, efq189_0, afq189_0, bfq189_0, uq189_0, uq189_1⟩ := wq189
                          refine ⟨_, gq189, ?_⟩
                          show gz gPP gGG gcn _ _ 246 [some (.ref m), some (.int (zi by2)), some (.int (zi mk)), some (.int (zi bg)), some (.int (zi n)), some (.int (zi zq78)), some (.int (zi zq118)), some (.int (zi z172)), none, none, none] [.int (zi zq189)] hq189 _
                          have sq189 := gSs.tr sq174 xq189 (by decide)
                          have s190 := (xq189.2.2.2.2.2 m 5 (by rw [tm]; decide)).trans s175
                          have s191 := (xq189.2.2.2.2.2 m 6 (by rw [tm]; decide)).trans s176
                          have s192 := (xq189.2.2.2.2.2 m 3 (by rw [tm]; decide)).trans s177
                          have s193 := (xq189.2.2.2.2.2 m 16 (by rw [tm]; decide)).trans s178
                          have s194 := (xq189.2.2.2.2.2 m 18 (by rw [tm]; decide)).trans s179
                          have s195 := (xq189.2.2.2.2.2 m 19 (by rw [tm]; decide)).trans s180
                          have s196 := (xq189.2.2.2.2.2 m 21 (by rw [tm]; decide)).trans s181
                          have s197 := (xq189.2.2.2.2.2 m 22 (by rw [tm]; decide)).trans s182
                          have s198 := (xq189.2.2.2.2.2 m 20 (by rw [tm]; decide)).trans s183
                          have s199 := (xq189.2.2.2.2.2 m 4 (by rw [tm]; decide)).trans s184
                          have pr200 := gPi.fr xq189.2 (by decide) pr185
                          clear s175 s176 s177 s178 s179 s180 s181 s182 s183 s184 pr185
                          refine gy_ifF rfl (by decide) (by decide) (by omega) (by first | (simp [zc]; done) | (simp only [zc]; omega)) ?_
                          have hpi201 : gPi ty ip w hh wd hg bs hq189 := fun e => absurd e (by omega)
                          exact gz_end (I := .return_) (len := 1) rfl (Or.inl rfl) ⟨sq189, fq189_0, ip, w, hh, wd, hg, bs, rfl, efq189_0, (by omega), (by omega), s193, (by omega), (by omega), s194, (by omega), (by omega), s195, (by omega), (by omega), s196, (by omega), (by omega), s197, (by omega), (by omega), s198, (by omega), (by omega), hpi201⟩
                        · refine gy_icF rfl (by decide) (by decide) (by omega) (by omega) hc188 ?_
                          refine gz_s 3 (pc' := 243) (L' := [some (.ref m), some (.int (zi by2)), some (.int (zi mk)), some (.int (zi bg)), some (.int (zi n)), some (.int (zi zq78)), some (.int (zi zq118)), some (.int (zi z172)), none, none, none]) (S' := [.int (zi bg), .int (zi 1), .ref m]) rfl ?_
                          refine gz_call rfl (by decide) rfl (by decide) (by decide) (gcal_of rfl rfl rfl (Nat.le_of_ble_eq_true rfl) (gJ.recv (G := gGG) sq174.1 tm rfl rfl)) (mm_must _ sq174.1 m tm 1 (by omega) bg (by omega) fq174_0 efq174_0 (by omega)) (fun q202 _ wq202 => ?_)
                          obtain ⟨pq202, oq202, hq202⟩ := q202
                          obtain ⟨xq202, zq202, fq202_0, gq202, aq202, bq202, efq202_0, afq202_0, bfq202_0, uq202_0, uq202_1⟩ := wq202
                          refine ⟨_, gq202, ?_⟩
                          show gz gPP gGG gcn _ _ 246 [some (.ref m), some (.int (zi by2)), some (.int (zi mk)), some (.int (zi bg)), some (.int (zi n)), some (.int (zi zq78)), some (.int (zi zq118)), some (.int (zi z172)), none, none, none] [.int (zi zq202)] hq202 _
                          have sq202 := gSs.tr sq174 xq202 (by decide)
                          have s203 := (xq202.2.2.2.2.2 m 5 (by rw [tm]; decide)).trans s175
                          have s204 := (xq202.2.2.2.2.2 m 6 (by rw [tm]; decide)).trans s176
                          have s205 := (xq202.2.2.2.2.2 m 3 (by rw [tm]; decide)).trans s177
                          have s206 := (xq202.2.2.2.2.2 m 16 (by rw [tm]; decide)).trans s178
                          have s207 := (xq202.2.2.2.2.2 m 18 (by rw [tm]; decide)).trans s179
                          have s208 := (xq202.2.2.2.2.2 m 19 (by rw [tm]; decide)).trans s180
                          have s209 := (xq202.2.2.2.2.2 m 21 (by rw [tm]; decide)).trans s181
                          have s210 := (xq202.2.2.2.2.2 m 22 (by rw [tm]; decide)).trans s182
                          have s211 := (xq202.2.2.2.2.2 m 20 (by rw [tm]; decide)).trans s183
                          have s212 := (xq202.2.2.2.2.2 m 4 (by rw [tm]; decide)).trans s184
                          have pr213 := gPi.fr xq202.2 (by decide) pr185
                          clear s175 s176 s177 s178 s179 s180 s181 s182 s183 s184 pr185
                          by_cases hc214 : ¬ (zq202 : Int) = 0
                          · refine gy_ifT (pc' := 250) rfl (by decide) (by decide) (by omega) hc214 ?_
                            refine gz_s 4 (pc' := 257) (L' := [some (.ref m), some (.int (zi by2)), some (.int (zi mk)), some (.int (zi bg)), some (.int (zi n)), some (.int (zi zq78)), some (.int (zi zq118)), some (.int (zi z172)), some (.int (zi 0)), none, none]) (S' := [.int (zi z172), .int (zi 0)]) rfl ?_
                            refine gy_icF rfl (by decide) (by decide) (by omega) (by omega) (by first | (simp [zc]; done) | (simp only [zc]; omega)) ?_
                            refine gz_s 1 (pc' := 261) (L' := [some (.ref m), some (.int (zi by2)), some (.int (zi mk)), some (.int (zi bg)), some (.int (zi n)), some (.int (zi zq78)), some (.int (zi zq118)), some (.int (zi z172)), some (.int (zi 0)), none, none]) (S' := [.ref m]) rfl ?_
                            refine gs_gtk rfl (by decide) rfl sq202.1 tm rfl rfl efq202_0 ?_
                            refine gz_s 1 (pc' := 265) (L' := [some (.ref m), some (.int (zi by2)), some (.int (zi mk)), some (.int (zi bg)), some (.int (zi n)), some (.int (zi zq78)), some (.int (zi zq118)), some (.int (zi z172)), some (.int (zi 0)), none, none]) (S' := [.int (zi (-1)), .int (zi fq202_0)]) rfl ?_
                            by_cases hc215 : ¬ (fq202_0 : Int) = (-1)
                            · refine gy_icT (pc' := 484) rfl (by decide) (by decide) (by omega) (by omega) hc215 ?_
                              refine gz_s 1 (pc' := 485) (L' := [some (.ref m), some (.int (zi by2)), some (.int (zi mk)), some (.int (zi bg)), some (.int (zi n)), some (.int (zi zq78)), some (.int (zi zq118)), some (.int (zi z172)), some (.int (zi 0)), none, none]) (S' := [.ref m]) rfl ?_
                              refine gs_gtk rfl (by decide) rfl sq202.1 tm rfl rfl efq202_0 ?_
                              refine gz_s 1 (pc' := 489) (L' := [some (.ref m), some (.int (zi by2)), some (.int (zi mk)), some (.int (zi bg)), some (.int (zi n)), some (.int (zi zq78)), some (.int (zi zq118)), some (.int (zi z172)), some (.int (zi 0)), none, none]) (S' := [.int (zi (-1)), .int (zi fq202_0)]) rfl ?_
                              refine gy_icF rfl (by decide) (by decide) (by omega) (by omega) (by first | (simp [zc]; done) | (simp only [zc]; omega)) ?_
                              have hpi216 : gPi ty ip w hh wd hg bs hq202 := fun e => absurd e (by omega)
                              exact gz_end (I := .return_) (len := 1) rfl (Or.inl rfl) ⟨sq202, fq202_0, ip, w, hh, wd, hg, bs, rfl, efq202_0, (by omega), (by omega), s206, (by omega), (by omega), s207, (by omega), (by omega), s208, (by omega), (by omega), s209, (by omega), (by omega), s210, (by omega), (by omega), s211, (by omega), (by omega), hpi216⟩
                            · refine gy_icF rfl (by decide) (by decide) (by omega) (by omega) hc215 ?_
                              refine gz_s 1 (pc' := 269) (L' := [some (.ref m), some (.int (zi by2)), some (.int (zi mk)), some (.int (zi bg)), some (.int (zi n)), some (.int (zi zq78)), some (.int (zi zq118)), some (.int (zi z172)), some (.int (zi 0)), none, none]) (S' := [.ref m]) rfl ?_
                              refine gs_gtk rfl (by decide) rfl sq202.1 tm rfl rfl s203 ?_
                              refine gy_s 8 (pc' := 283) (L' := [some (.ref m), some (.int (zi by2)), some (.int (zi mk)), some (.int (zi bg)), some (.int (zi n)), some (.int (zi zq78)), some (.int (zi zq118)), some (.int (zi z172)), some (.int (zi 0)), some (.int (((zi p0) + (zi 6)) + ((zi 3) * (zi 0)))), none]) (S' := [.ref m]) (L2 := [some (.ref m), some (.int (zi by2)), some (.int (zi mk)), some (.int (zi bg)), some (.int (zi n)), some (.int (zi zq78)), some (.int (zi zq118)), some (.int (zi z172)), some (.int (zi 0)), some (.int (zi ((p0 + 6) + 0))), none]) (S2 := [.ref m]) rfl (by simp only [zi_add, zi_sub, zi_mul, zi_neg, zi_and1, zi_and7, zi_and15, zi_and31, zi_and255, Int.reduceAdd, Int.reduceMul, Int.reduceSub]) (by simp only [zi_add, zi_sub, zi_mul, zi_neg, zi_and1, zi_and7, zi_and15, zi_and31, zi_and255, Int.reduceAdd, Int.reduceMul, Int.reduceSub]) ?_
                              refine gs_gtr rfl (by decide) rfl sq202.1 tm rfl rfl rfl (fun c217 ec217 tc217 => ?_)
                              refine gz_s 2 (pc' := 289) (L' := [some (.ref m), some (.int (zi by2)), some (.int (zi mk)), some (.int (zi bg)), some (.int (zi n)), some (.int (zi zq78)), some (.int (zi zq118)), some (.int (zi z172)), some (.int (zi 0)), some (.int (zi ((p0 + 6) + 0))), none]) (S' := [.ref m, .int (zi 0), .ref c217]) rfl ?_
                              refine gs_gtk rfl (by decide) rfl sq202.1 tm rfl rfl s212 ?_
                              refine gz_s 1 (pc' := 294) (L' := [some (.ref m), some (.int (zi by2)), some (.int (zi mk)), some (.int (zi bg)), some (.int (zi n)), some (.int (zi zq78)), some (.int (zi zq118)), some (.int (zi z172)), some (.int (zi 0)), some (.int (zi ((p0 + 6) + 0))), none]) (S' := [.int (zi ((p0 + 6) + 0)), .ref c49, .int (zi 0), .ref c217]) rfl ?_
                              have hl218 : 2000 ≤ hq202.2.2.2.1 c49 ∧ hq202.2.2.2.1 c49 ≤ 2000 := gJ.rowl (G := gGG) sq202.1 tc49 rfl
                              refine gs_ald rfl (by decide) sq202.1 tc49 rfl rfl rfl (by decide) (fun _ => rfl) (by omega) (by omega) (fun z219 ez219 az219 bz219 => ?_)
                              have hl220 : 3 ≤ hq202.2.2.2.1 c217 ∧ hq202.2.2.2.1 c217 ≤ 3 := gJ.rowl (G := gGG) sq202.1 tc217 rfl
                              refine gs_ast rfl (by decide) sq202 tc217 rfl rfl rfl (by decide) (fun _ => rfl) (by omega) (by omega) (fun _ => (by decide : (11999 : Nat) ∈ ([1007, 1016, 1017, 1018, 1019, 1020, 1021, 1022, 1023, 1024, 11999, 12999, 13999, 14999, 15999, 16999, 17999, 18999, 19999, 23999, 24999] : List Nat))) (by omega) (by omega) (fun h221 sh221 eh221 fh221 => ?_)
                              have pr222 := gPi.pt fh221 tc217 (by decide) pr213
                              have s223 := (fh221 m 5 (fun q => absurd (((tm).symm.trans (congrArg ty q.1)).trans tc217) (by decide))).trans s203
                              have s224 := (fh221 m 6 (fun q => absurd (((tm).symm.trans (congrArg ty q.1)).trans tc217) (by decide))).trans s204
                              have s225 := (fh221 m 3 (fun q => absurd (((tm).symm.trans (congrArg ty q.1)).trans tc217) (by decide))).trans s205
                              have s226 := (fh221 m 16 (fun q => absurd (((tm).symm.trans (congrArg ty q.1)).trans tc217) (by decide))).trans s206
                              have s227 := (fh221 m 18 (fun q => absurd (((tm).symm.trans (congrArg ty q.1)).trans tc217) (by decide))).trans s207
                              have s228 := (fh221 m 19 (fun q => absurd (((tm).symm.trans (congrArg ty q.1)).trans tc217) (by decide))).trans s208
                              have s229 := (fh221 m 21 (fun q => absurd (((tm).symm.trans (congrArg ty q.1)).trans tc217) (by decide))).trans s209
                              have s230 := (fh221 m 22 (fun q => absurd (((tm).symm.trans (congrArg ty q.1)).trans tc217) (by decide))).trans s210
                              have s231 := (fh221 m 20 (fun q => absurd (((tm).symm.trans (congrArg ty q.1)).trans tc217) (by decide))).trans s211
                              have s232 := (fh221 m 4 (fun q => absurd (((tm).symm.trans (congrArg ty q.1)).trans tc217) (by decide))).trans s212
                              have s233 := (fh221 m 7 (fun q => absurd (((tm).symm.trans (congrArg ty q.1)).trans tc217) (by decide))).trans efq202_0
                              have s234 := (fh221 m 25 (fun q => absurd (((tm).symm.trans (congrArg ty q.1)).trans tc217) (by decide))).trans ec217
                              clear s203 s204 s205 s206 s207 s208 s209 s210 s211 s212 pr213
                              have pr235 := gEl.set (i := 0) (z := z219) uq tc217 (by decide) eh221 (by omega) (by omega)
                              refine gz_s 4 (pc' := 303) (L' := [some (.ref m), some (.int (zi by2)), some (.int (zi mk)), some (.int (zi bg)), some (.int (zi n)), some (.int (zi zq78)), some (.int (zi zq118)), some (.int (zi z172)), some (.int (zi 0)), some (.int (zi ((p0 + 6) + 0))), some (.int (zi 0))]) (S' := [.int (zi 0), .int (zi 0)]) rfl ?_
                              refine gy_icT (pc' := 341) rfl (by decide) (by decide) (by omega) (by omega) (by first | (simp [zc]; done) | (simp only [zc]; omega)) ?_
                              refine gz_s 1 (pc' := 342) (L' := [some (.ref m), some (.int (zi by2)), some (.int (zi mk)), some (.int (zi bg)), some (.int (zi n)), some (.int (zi zq78)), some (.int (zi zq118)), some (.int (zi z172)), some (.int (zi 0)), some (.int (zi ((p0 + 6) + 0))), some (.int (zi 0))]) (S' := [.ref m]) rfl ?_
                              refine gs_gtr rfl (by decide) rfl sh221.1 tm rfl rfl rfl (fun c236 ec236 tc236 => ?_)
                              refine gz_s 2 (pc' := 348) (L' := [some (.ref m), some (.int (zi by2)), some (.int (zi mk)), some (.int (zi bg)), some (.int (zi n)), some (.int (zi zq78)), some (.int (zi zq118)), some (.int (zi z172)), some (.int (zi 0)), some (.int (zi ((p0 + 6) + 0))), some (.int (zi 0))]) (S' := [.ref m, .int (zi 0), .ref c236]) rfl ?_
                              refine gs_gtk rfl (by decide) rfl sh221.1 tm rfl rfl s232 ?_
                              refine gy_s 3 (pc' := 355) (L' := [some (.ref m), some (.int (zi by2)), some (.int (zi mk)), some (.int (zi bg)), some (.int (zi n)), some (.int (zi zq78)), some (.int (zi zq118)), some (.int (zi z172)), some (.int (zi 0)), some (.int (zi ((p0 + 6) + 0))), some (.int (zi 0))]) (S' := [.int ((zi ((p0 + 6) + 0)) + (zi 1)), .ref c49, .int (zi 0), .ref c236]) (L2 := [some (.ref m), some (.int (zi by2)), some (.int (zi mk)), some (.int (zi bg)), some (.int (zi n)), some (.int (zi zq78)), some (.int (zi zq118)), some (.int (zi z172)), some (.int (zi 0)), some (.int (zi ((p0 + 6) + 0))), some (.int (zi 0))]) (S2 := [.int (zi (((p0 + 6) + 0) + 1)), .ref c49, .int (zi 0), .ref c236]) rfl (by simp only [zi_add, zi_sub, zi_mul, zi_neg, zi_and1, zi_and7, zi_and15, zi_and31, zi_and255, Int.reduceAdd, Int.reduceMul, Int.reduceSub]) (by simp only [zi_add, zi_sub, zi_mul, zi_neg, zi_and1, zi_and7, zi_and15, zi_and31, zi_and255, Int.reduceAdd, Int.reduceMul, Int.reduceSub]) ?_
                              have hl237 : 2000 ≤ h221.2.2.2.1 c49 ∧ h221.2.2.2.1 c49 ≤ 2000 := gJ.rowl (G := gGG) sh221.1 tc49 rfl
                              refine gs_ald rfl (by decide) sh221.1 tc49 rfl rfl rfl (by decide) (fun _ => rfl) (by omega) (by omega) (fun z238 ez238 az238 bz238 => ?_)
                              refine gz_s 1 (pc' := 358) (L' := [some (.ref m), some (.int (zi by2)), some (.int (zi mk)), some (.int (zi bg)), some (.int (zi n)), some (.int (zi zq78)), some (.int (zi zq118)), some (.int (zi z172)), some (.int (zi 0)), some (.int (zi ((p0 + 6) + 0))), some (.int (zi 0))]) (S' := [.int (zi 16), .int (zi z238), .int (zi 0), .ref c236]) rfl ?_
                              refine gy_div rfl (by decide) (by omega) (by omega) ?_
                              have hl239 : 3 ≤ h221.2.2.2.1 c236 ∧ h221.2.2.2.1 c236 ≤ 3 := gJ.rowl (G := gGG) sh221.1 tc236 rfl
                              refine gs_ast rfl (by decide) sh221 tc236 rfl rfl rfl (by decide) (fun _ => rfl) (by omega) (by omega) (fun _ => (by decide : (12999 : Nat) ∈ ([1007, 1016, 1017, 1018, 1019, 1020, 1021, 1022, 1023, 1024, 11999, 12999, 13999, 14999, 15999, 16999, 17999, 18999, 19999, 23999, 24999] : List Nat))) (by omega) (by omega) (fun h240 sh240 eh240 fh240 => ?_)
                              have pr241 := gEl.pt fh240 tc236 (by decide) pr235
                              have s242 := (fh240 m 5 (fun q => absurd (((tm).symm.trans (congrArg ty q.1)).trans tc236) (by decide))).trans s223
                              have s243 := (fh240 m 6 (fun q => absurd (((tm).symm.trans (congrArg ty q.1)).trans tc236) (by decide))).trans s224
                              have s244 := (fh240 m 3 (fun q => absurd (((tm).symm.trans (congrArg ty q.1)).trans tc236) (by decide))).trans s225
                              have s245 := (fh240 m 16 (fun q => absurd (((tm).symm.trans (congrArg ty q.1)).trans tc236) (by decide))).trans s226
                              have s246 := (fh240 m 18 (fun q => absurd (((tm).symm.trans (congrArg ty q.1)).trans tc236) (by decide))).trans s227
                              have s247 := (fh240 m 19 (fun q => absurd (((tm).symm.trans (congrArg ty q.1)).trans tc236) (by decide))).trans s228
                              have s248 := (fh240 m 21 (fun q => absurd (((tm).symm.trans (congrArg ty q.1)).trans tc236) (by decide))).trans s229
                              have s249 := (fh240 m 22 (fun q => absurd (((tm).symm.trans (congrArg ty q.1)).trans tc236) (by decide))).trans s230
                              have s250 := (fh240 m 20 (fun q => absurd (((tm).symm.trans (congrArg ty q.1)).trans tc236) (by decide))).trans s231
                              have s251 := (fh240 m 4 (fun q => absurd (((tm).symm.trans (congrArg ty q.1)).trans tc236) (by decide))).trans s232
                              have s252 := (fh240 m 7 (fun q => absurd (((tm).symm.trans (congrArg ty q.1)).trans tc236) (by decide))).trans s233
                              have s253 := (fh240 m 25 (fun q => absurd (((tm).symm.trans (congrArg ty q.1)).trans tc236) (by decide))).trans s234
                              have s254 := (fh240 m 26 (fun q => absurd (((tm).symm.trans (congrArg ty q.1)).trans tc236) (by decide))).trans ec236
                              clear s223 s224 s225 s226 s227 s228 s229 s230 s231 s232 s233 s234 pr222 pr235
                              have pr255 := gEl.set (i := 0) (z := z238 / 16) uq tc236 (by decide) eh240 (by omega) (by omega)
                              refine gz_s 1 (pc' := 361) (L' := [some (.ref m), some (.int (zi by2)), some (.int (zi mk)), some (.int (zi bg)), some (.int (zi n)), some (.int (zi zq78)), some (.int (zi zq118)), some (.int (zi z172)), some (.int (zi 0)), some (.int (zi ((p0 + 6) + 0))), some (.int (zi 0))]) (S' := [.ref m]) rfl ?_
                              refine gs_gtr rfl (by decide) rfl sh240.1 tm rfl rfl rfl (fun c256 ec256 tc256 => ?_)
                              refine gz_s 2 (pc' := 367) (L' := [some (.ref m), some (.int (zi by2)), some (.int (zi mk)), some (.int (zi bg)), some (.int (zi n)), some (.int (zi zq78)), some (.int (zi zq118)), some (.int (zi z172)), some (.int (zi 0)), some (.int (zi ((p0 + 6) + 0))), some (.int (zi 0))]) (S' := [.ref m, .int (zi 0), .ref c256]) rfl ?_
                              refine gs_gtk rfl (by decide) rfl sh240.1 tm rfl rfl s251 ?_
                              refine gy_s 3 (pc' := 374) (L' := [some (.ref m), some (.int (zi by2)), some (.int (zi mk)), some (.int (zi bg)), some (.int (zi n)), some (.int (zi zq78)), some (.int (zi zq118)), some (.int (zi z172)), some (.int (zi 0)), some (.int (zi ((p0 + 6) + 0))), some (.int (zi 0))]) (S' := [.int ((zi ((p0 + 6) + 0)) + (zi 1)), .ref c49, .int (zi 0), .ref c256]) (L2 := [some (.ref m), some (.int (zi by2)), some (.int (zi mk)), some (.int (zi bg)), some (.int (zi n)), some (.int (zi zq78)), some (.int (zi zq118)), some (.int (zi z172)), some (.int (zi 0)), some (.int (zi ((p0 + 6) + 0))), some (.int (zi 0))]) (S2 := [.int (zi (((p0 + 6) + 0) + 1)), .ref c49, .int (zi 0), .ref c256]) rfl (by simp only [zi_add, zi_sub, zi_mul, zi_neg, zi_and1, zi_and7, zi_and15, zi_and31, zi_and255, Int.reduceAdd, Int.reduceMul, Int.reduceSub]) (by simp only [zi_add, zi_sub, zi_mul, zi_neg, zi_and1, zi_and7, zi_and15, zi_and31, zi_and255, Int.reduceAdd, Int.reduceMul, Int.reduceSub]) ?_
                              have hl257 : 2000 ≤ h240.2.2.2.1 c49 ∧ h240.2.2.2.1 c49 ≤ 2000 := gJ.rowl (G := gGG) sh240.1 tc49 rfl
                              refine gs_ald rfl (by decide) sh240.1 tc49 rfl rfl rfl (by decide) (fun _ => rfl) (by omega) (by omega) (fun z258 ez258 az258 bz258 => ?_)
                              refine gz_s 1 (pc' := 377) (L' := [some (.ref m), some (.int (zi by2)), some (.int (zi mk)), some (.int (zi bg)), some (.int (zi n)), some (.int (zi zq78)), some (.int (zi zq118)), some (.int (zi z172)), some (.int (zi 0)), some (.int (zi ((p0 + 6) + 0))), some (.int (zi 0))]) (S' := [.int (zi 16), .int (zi z258), .int (zi 0), .ref c256]) rfl ?_
                              refine gy_rem rfl (by decide) (by omega) (by omega) ?_
                              have hl259 : 3 ≤ h240.2.2.2.1 c256 ∧ h240.2.2.2.1 c256 ≤ 3 := gJ.rowl (G := gGG) sh240.1 tc256 rfl
                              refine gs_ast rfl (by decide) sh240 tc256 rfl rfl rfl (by decide) (fun _ => rfl) (by omega) (by omega) (fun _ => (by decide : (13999 : Nat) ∈ ([1007, 1016, 1017, 1018, 1019, 1020, 1021, 1022, 1023, 1024, 11999, 12999, 13999, 14999, 15999, 16999, 17999, 18999, 19999, 23999, 24999] : List Nat))) (by omega) (by omega) (fun h260 sh260 eh260 fh260 => ?_)
                              have pr261 := gEl.pt fh260 tc256 (by decide) pr241
                              have pr262 := gEl.pt fh260 tc256 (by decide) pr255
                              have s263 := (fh260 m 5 (fun q => absurd (((tm).symm.trans (congrArg ty q.1)).trans tc256) (by decide))).trans s242
                              have s264 := (fh260 m 6 (fun q => absurd (((tm).symm.trans (congrArg ty q.1)).trans tc256) (by decide))).trans s243
                              have s265 := (fh260 m 3 (fun q => absurd (((tm).symm.trans (congrArg ty q.1)).trans tc256) (by decide))).trans s244
                              have s266 := (fh260 m 16 (fun q => absurd (((tm).symm.trans (congrArg ty q.1)).trans tc256) (by decide))).trans s245
                              have s267 := (fh260 m 18 (fun q => absurd (((tm).symm.trans (congrArg ty q.1)).trans tc256) (by decide))).trans s246
                              have s268 := (fh260 m 19 (fun q => absurd (((tm).symm.trans (congrArg ty q.1)).trans tc256) (by decide))).trans s247
                              have s269 := (fh260 m 21 (fun q => absurd (((tm).symm.trans (congrArg ty q.1)).trans tc256) (by decide))).trans s248
                              have s270 := (fh260 m 22 (fun q => absurd (((tm).symm.trans (congrArg ty q.1)).trans tc256) (by decide))).trans s249
                              have s271 := (fh260 m 20 (fun q => absurd (((tm).symm.trans (congrArg ty q.1)).trans tc256) (by decide))).trans s250
                              have s272 := (fh260 m 4 (fun q => absurd (((tm).symm.trans (congrArg ty q.1)).trans tc256) (by decide))).trans s251
                              have s273 := (fh260 m 7 (fun q => absurd (((tm).symm.trans (congrArg ty q.1)).trans tc256) (by decide))).trans s252
                              have s274 := (fh260 m 25 (fun q => absurd (((tm).symm.trans (congrArg ty q.1)).trans tc256) (by decide))).trans s253
                              have s275 := (fh260 m 26 (fun q => absurd (((tm).symm.trans (congrArg ty q.1)).trans tc256) (by decide))).trans s254
                              have s276 := (fh260 m 27 (fun q => absurd (((tm).symm.trans (congrArg ty q.1)).trans tc256) (by decide))).trans ec256
                              clear s242 s243 s244 s245 s246 s247 s248 s249 s250 s251 s252 s253 s254 pr241 pr255
                              have pr277 := gEl.set (i := 0) (z := z258 % 16) uq tc256 (by decide) eh260 (by omega) (by omega)
                              refine gz_s 2 (pc' := 381) (L' := [some (.ref m), some (.int (zi by2)), some (.int (zi mk)), some (.int (zi bg)), some (.int (zi n)), some (.int (zi zq78)), some (.int (zi zq118)), some (.int (zi z172)), some (.int (zi 0)), some (.int (zi ((p0 + 6) + 0))), some (.int (zi 0))]) (S' := [.ref m, .ref m]) rfl ?_
                              refine gs_gtk rfl (by decide) rfl sh260.1 tm rfl rfl s275 ?_
                              refine gz_s 1 (pc' := 386) (L' := [some (.ref m), some (.int (zi by2)), some (.int (zi mk)), some (.int (zi bg)), some (.int (zi n)), some (.int (zi zq78)), some (.int (zi zq118)), some (.int (zi z172)), some (.int (zi 0)), some (.int (zi ((p0 + 6) + 0))), some (.int (zi 0))]) (S' := [.int (zi 0), .ref c236, .ref m]) rfl ?_
                              have hl278 : 3 ≤ h260.2.2.2.1 c236 ∧ h260.2.2.2.1 c236 ≤ 3 := gJ.rowl (G := gGG) sh260.1 tc236 rfl
                              refine gs_alx rfl (by decide) sh260.1 tc236 rfl rfl rfl (by decide) (fun _ => rfl) (by omega) (by omega) (by decide) pr262 (fun ex279 ax279 bx279 => ?_)
                              refine gz_s 1 (pc' := 388) (L' := [some (.ref m), some (.int (zi by2)), some (.int (zi mk)), some (.int (zi bg)), some (.int (zi n)), some (.int (zi zq78)), some (.int (zi zq118)), some (.int (zi z172)), some (.int (zi 0)), some (.int (zi ((p0 + 6) + 0))), some (.int (zi 0))]) (S' := [.int (zi 1), .int (zi (z238 / 16)), .ref m]) rfl ?_
                              have jn280 : ∀ (jn280v0 : Int), ((0 ≤ jn280v0) ∧ (jn280v0 ≤ 1) ∧ (jn280v0 = 1 → (1 ≤ z238 / 16 ∧ z238 / 16 ≤ 2 ∧ 1 ≤ z258 % 16 ∧ z258 % 16 ≤ 2))) → gz gPP gGG gcn (d + 4) gt165 429 [some (.ref m), some (.int (zi by2)), some (.int (zi mk)), some (.int (zi bg)), some (.int (zi n)), some (.int (zi zq78)), some (.int (zi zq118)), some (.int (zi z172)), some (.int (zi 0)), some (.int (zi ((p0 + 6) + 0))), some (.int (zi 0))] [.int (zi jn280v0), .ref m] h260 (fun q _ => gSs rT 1027 ty [1007, 1016, 1017, 1018, 1019, 1020, 1021, 1022, 1023, 1024, 11999, 12999, 13999, 14999, 15999, 16999, 17999, 18999, 19999, 23999, 24999] h q.2.2 ∧ ∃ f1 ip1 w1 hh1 wd1 hg1 bs1 : Int, gfin gt165 q.1 q.2.1 = some none ∧ q.2.2.2.2.2.2 m 7 = .int (zi f1) ∧ (-1) ≤ f1 ∧ f1 ≤ 4000 ∧ q.2.2.2.2.2.2 m 16 = .int (zi ip1) ∧ 0 ≤ ip1 ∧ ip1 ≤ 1 ∧ q.2.2.2.2.2.2 m 18 = .int (zi w1) ∧ 0 ≤ w1 ∧ w1 ≤ 64 ∧ q.2.2.2.2.2.2 m 19 = .int (zi hh1) ∧ 0 ≤ hh1 ∧ hh1 ≤ 64 ∧ q.2.2.2.2.2.2 m 21 = .int (zi wd1) ∧ 0 ≤ wd1 ∧ wd1 ≤ 2 ∧ q.2.2.2.2.2.2 m 22 = .int (zi hg1) ∧ 0 ≤ hg1 ∧ hg1 ≤ 2 ∧ q.2.2.2.2.2.2 m 20 = .int (zi bs1) ∧ 0 ≤ bs1 ∧ bs1 ≤ 3 ∧ (gPi ty ip1 w1 hh1 wd1 hg1 bs1 q.2.2)) := by
                                intro jn280v0 jn280d
                                refine gy_s 3 (pc' := 433) (L' := [some (.ref m), some (.int (zi by2)), some (.int (zi mk)), some (.int (zi bg)), some (.int (zi n)), some (.int (zi zq78)), some (.int (zi zq118)), some (.int (zi z172)), some (.int (zi 0)), some (.int (zi ((p0 + 6) + 0))), some (.int (zi 0))]) (S' := [.int ((zi ((p0 + 6) + 0)) + (zi 1)), .int (zi jn280v0), .ref m]) (L2 := [some (.ref m), some (.int (zi by2)), some (.int (zi mk)), some (.int (zi bg)), some (.int (zi n)), some (.int (zi zq78)), some (.int (zi zq118)), some (.int (zi z172)), some (.int (zi 0)), some (.int (zi ((p0 + 6) + 0))), some (.int (zi 0))]) (S2 := [.int (zi (((p0 + 6) + 0) + 1)), .int (zi jn280v0), .ref m]) rfl (by simp only [zi_add, zi_sub, zi_mul, zi_neg, zi_and1, zi_and7, zi_and15, zi_and31, zi_and255, Int.reduceAdd, Int.reduceMul, Int.reduceSub]) (by simp only [zi_add, zi_sub, zi_mul, zi_neg, zi_and1, zi_and7, zi_and15, zi_and31, zi_and255, Int.reduceAdd, Int.reduceMul, Int.reduceSub]) ?_
                                refine gz_call rfl (by decide) rfl (by decide) (by decide) (gcal_of rfl rfl rfl (Nat.le_of_ble_eq_true rfl) (gJ.recv (G := gGG) sh260.1 tm rfl rfl)) (mm_must _ sh260.1 m tm jn280v0 (by omega) (((p0 + 6) + 0) + 1) (by omega) fq202_0 s273 (by omega)) (fun q281 _ wq281 => ?_)
                                obtain ⟨pq281, oq281, hq281⟩ := q281
                                obtain ⟨xq281, zq281, fq281_0, gq281, aq281, bq281, efq281_0, afq281_0, bfq281_0, uq281_0, uq281_1⟩ := wq281
                                refine ⟨_, gq281, ?_⟩
                                show gz gPP gGG gcn _ _ 436 [some (.ref m), some (.int (zi by2)), some (.int (zi mk)), some (.int (zi bg)), some (.int (zi n)), some (.int (zi zq78)), some (.int (zi zq118)), some (.int (zi z172)), some (.int (zi 0)), some (.int (zi ((p0 + 6) + 0))), some (.int (zi 0))] [.int (zi zq281)] hq281 _
                                have sq281 := gSs.tr sh260 xq281 (by decide)
                                have s282 := (xq281.2.2.2.2.2 m 5 (by rw [tm]; decide)).trans s263
                                have s283 := (xq281.2.2.2.2.2 m 6 (by rw [tm]; decide)).trans s264
                                have s284 := (xq281.2.2.2.2.2 m 3 (by rw [tm]; decide)).trans s265
                                have s285 := (xq281.2.2.2.2.2 m 16 (by rw [tm]; decide)).trans s266
                                have s286 := (xq281.2.2.2.2.2 m 18 (by rw [tm]; decide)).trans s267
                                have s287 := (xq281.2.2.2.2.2 m 19 (by rw [tm]; decide)).trans s268
                                have s288 := (xq281.2.2.2.2.2 m 21 (by rw [tm]; decide)).trans s269
                                have s289 := (xq281.2.2.2.2.2 m 22 (by rw [tm]; decide)).trans s270
                                have s290 := (xq281.2.2.2.2.2 m 20 (by rw [tm]; decide)).trans s271
                                have s291 := (xq281.2.2.2.2.2 m 4 (by rw [tm]; decide)).trans s272
                                have s292 := (xq281.2.2.2.2.2 m 25 (by rw [tm]; decide)).trans s274
                                have s293 := (xq281.2.2.2.2.2 m 26 (by rw [tm]; decide)).trans s275
                                have s294 := (xq281.2.2.2.2.2 m 27 (by rw [tm]; decide)).trans s276
                                have pr295 := gEl.fr xq281.2 (by decide) (fun _ => rfl) pr261
                                have pr296 := gEl.fr xq281.2 (by decide) (fun _ => rfl) pr262
                                have pr297 := gEl.fr xq281.2 (by decide) (fun _ => rfl) pr277
                                clear s263 s264 s265 s266 s267 s268 s269 s270 s271 s272 s273 s274 s275 s276 pr261 pr262 pr277
                                refine gz_s 2 (pc' := 438) (L' := [some (.ref m), some (.int (zi by2)), some (.int (zi mk)), some (.int (zi bg)), some (.int (zi n)), some (.int (zi zq78)), some (.int (zi zq118)), some (.int (zi z172)), some (.int (zi 0)), some (.int (zi ((p0 + 6) + 0))), some (.int (zi 0))]) (S' := [.ref m]) rfl ?_
                                refine gs_gtr rfl (by decide) rfl sq281.1 tm rfl rfl rfl (fun c298 ec298 tc298 => ?_)
                                refine gz_s 2 (pc' := 444) (L' := [some (.ref m), some (.int (zi by2)), some (.int (zi mk)), some (.int (zi bg)), some (.int (zi n)), some (.int (zi zq78)), some (.int (zi zq118)), some (.int (zi z172)), some (.int (zi 0)), some (.int (zi ((p0 + 6) + 0))), some (.int (zi 0))]) (S' := [.ref m, .int (zi 0), .ref c298]) rfl ?_
                                refine gs_gtk rfl (by decide) rfl sq281.1 tm rfl rfl s291 ?_
                                refine gy_s 3 (pc' := 451) (L' := [some (.ref m), some (.int (zi by2)), some (.int (zi mk)), some (.int (zi bg)), some (.int (zi n)), some (.int (zi zq78)), some (.int (zi zq118)), some (.int (zi z172)), some (.int (zi 0)), some (.int (zi ((p0 + 6) + 0))), some (.int (zi 0))]) (S' := [.int ((zi ((p0 + 6) + 0)) + (zi 2)), .ref c49, .int (zi 0), .ref c298]) (L2 := [some (.ref m), some (.int (zi by2)), some (.int (zi mk)), some (.int (zi bg)), some (.int (zi n)), some (.int (zi zq78)), some (.int (zi zq118)), some (.int (zi z172)), some (.int (zi 0)), some (.int (zi ((p0 + 6) + 0))), some (.int (zi 0))]) (S2 := [.int (zi (((p0 + 6) + 0) + 2)), .ref c49, .int (zi 0), .ref c298]) rfl (by simp only [zi_add, zi_sub, zi_mul, zi_neg, zi_and1, zi_and7, zi_and15, zi_and31, zi_and255, Int.reduceAdd, Int.reduceMul, Int.reduceSub]) (by simp only [zi_add, zi_sub, zi_mul, zi_neg, zi_and1, zi_and7, zi_and15, zi_and31, zi_and255, Int.reduceAdd, Int.reduceMul, Int.reduceSub]) ?_
                                have hl299 : 2000 ≤ hq281.2.2.2.1 c49 ∧ hq281.2.2.2.1 c49 ≤ 2000 := gJ.rowl (G := gGG) sq281.1 tc49 rfl
                                refine gs_ald rfl (by decide) sq281.1 tc49 rfl rfl rfl (by decide) (fun _ => rfl) (by omega) (by omega) (fun z300 ez300 az300 bz300 => ?_)
                                have hl301 : 3 ≤ hq281.2.2.2.1 c298 ∧ hq281.2.2.2.1 c298 ≤ 3 := gJ.rowl (G := gGG) sq281.1 tc298 rfl
                                refine gs_ast rfl (by decide) sq281 tc298 rfl rfl rfl (by decide) (fun _ => rfl) (by omega) (by omega) (fun _ => (by decide : (14999 : Nat) ∈ ([1007, 1016, 1017, 1018, 1019, 1020, 1021, 1022, 1023, 1024, 11999, 12999, 13999, 14999, 15999, 16999, 17999, 18999, 19999, 23999, 24999] : List Nat))) (by omega) (by omega) (fun h302 sh302 eh302 fh302 => ?_)
                                have pr303 := gEl.pt fh302 tc298 (by decide) pr295
                                have pr304 := gEl.pt fh302 tc298 (by decide) pr296
                                have pr305 := gEl.pt fh302 tc298 (by decide) pr297
                                have s306 := (fh302 m 5 (fun q => absurd (((tm).symm.trans (congrArg ty q.1)).trans tc298) (by decide))).trans s282
                                have s307 := (fh302 m 6 (fun q => absurd (((tm).symm.trans (congrArg ty q.1)).trans tc298) (by decide))).trans s283
                                have s308 := (fh302 m 3 (fun q => absurd (((tm).symm.trans (congrArg ty q.1)).trans tc298) (by decide))).trans s284
                                have s309 := (fh302 m 16 (fun q => absurd (((tm).symm.trans (congrArg ty q.1)).trans tc298) (by decide))).trans s285
                                have s310 := (fh302 m 18 (fun q => absurd (((tm).symm.trans (congrArg ty q.1)).trans tc298) (by decide))).trans s286
                                have s311 := (fh302 m 19 (fun q => absurd (((tm).symm.trans (congrArg ty q.1)).trans tc298) (by decide))).trans s287
                                have s312 := (fh302 m 21 (fun q => absurd (((tm).symm.trans (congrArg ty q.1)).trans tc298) (by decide))).trans s288
                                have s313 := (fh302 m 22 (fun q => absurd (((tm).symm.trans (congrArg ty q.1)).trans tc298) (by decide))).trans s289
                                have s314 := (fh302 m 20 (fun q => absurd (((tm).symm.trans (congrArg ty q.1)).trans tc298) (by decide))).trans s290
                                have s315 := (fh302 m 4 (fun q => absurd (((tm).symm.trans (congrArg ty q.1)).trans tc298) (by decide))).trans s291
                                have s316 := (fh302 m 25 (fun q => absurd (((tm).symm.trans (congrArg ty q.1)).trans tc298) (by decide))).trans s292
                                have s317 := (fh302 m 26 (fun q => absurd (((tm).symm.trans (congrArg ty q.1)).trans tc298) (by decide))).trans s293
                                have s318 := (fh302 m 27 (fun q => absurd (((tm).symm.trans (congrArg ty q.1)).trans tc298) (by decide))).trans s294
                                have s319 := (fh302 m 7 (fun q => absurd (((tm).symm.trans (congrArg ty q.1)).trans tc298) (by decide))).trans efq281_0
                                have s320 := (fh302 m 28 (fun q => absurd (((tm).symm.trans (congrArg ty q.1)).trans tc298) (by decide))).trans ec298
                                clear s282 s283 s284 s285 s286 s287 s288 s289 s290 s291 s292 s293 s294 pr295 pr296 pr297
                                have pr321 := gEl.set (i := 0) (z := z300) uq tc298 (by decide) eh302 (by omega) (by omega)
                                refine gz_s 2 (pc' := 455) (L' := [some (.ref m), some (.int (zi by2)), some (.int (zi mk)), some (.int (zi bg)), some (.int (zi n)), some (.int (zi zq78)), some (.int (zi zq118)), some (.int (zi z172)), some (.int (zi 0)), some (.int (zi ((p0 + 6) + 0))), some (.int (zi 0))]) (S' := [.ref m, .ref m]) rfl ?_
                                refine gs_gtk rfl (by decide) rfl sh302.1 tm rfl rfl s320 ?_
                                refine gz_s 1 (pc' := 460) (L' := [some (.ref m), some (.int (zi by2)), some (.int (zi mk)), some (.int (zi bg)), some (.int (zi n)), some (.int (zi zq78)), some (.int (zi zq118)), some (.int (zi z172)), some (.int (zi 0)), some (.int (zi ((p0 + 6) + 0))), some (.int (zi 0))]) (S' := [.int (zi 0), .ref c298, .ref m]) rfl ?_
                                have hl322 : 3 ≤ h302.2.2.2.1 c298 ∧ h302.2.2.2.1 c298 ≤ 3 := gJ.rowl (G := gGG) sh302.1 tc298 rfl
                                refine gs_alx rfl (by decide) sh302.1 tc298 rfl rfl rfl (by decide) (fun _ => rfl) (by omega) (by omega) (by decide) pr321 (fun ex323 ax323 bx323 => ?_)
                                refine gz_s 1 (pc' := 462) (L' := [some (.ref m), some (.int (zi by2)), some (.int (zi mk)), some (.int (zi bg)), some (.int (zi n)), some (.int (zi zq78)), some (.int (zi zq118)), some (.int (zi z172)), some (.int (zi 0)), some (.int (zi ((p0 + 6) + 0))), some (.int (zi 0))]) (S' := [.int (zi 4), .int (zi z300), .ref m]) rfl ?_
                                have jn324 : ∀ (jn324v0 : Int), ((0 ≤ jn324v0) ∧ (jn324v0 ≤ 1) ∧ (jn324v0 = 1 → z300 ≤ 3)) → gz gPP gGG gcn (d + 4) gt165 470 [some (.ref m), some (.int (zi by2)), some (.int (zi mk)), some (.int (zi bg)), some (.int (zi n)), some (.int (zi zq78)), some (.int (zi zq118)), some (.int (zi z172)), some (.int (zi 0)), some (.int (zi ((p0 + 6) + 0))), some (.int (zi 0))] [.int (zi jn324v0), .ref m] h302 (fun q _ => gSs rT 1027 ty [1007, 1016, 1017, 1018, 1019, 1020, 1021, 1022, 1023, 1024, 11999, 12999, 13999, 14999, 15999, 16999, 17999, 18999, 19999, 23999, 24999] h q.2.2 ∧ ∃ f1 ip1 w1 hh1 wd1 hg1 bs1 : Int, gfin gt165 q.1 q.2.1 = some none ∧ q.2.2.2.2.2.2 m 7 = .int (zi f1) ∧ (-1) ≤ f1 ∧ f1 ≤ 4000 ∧ q.2.2.2.2.2.2 m 16 = .int (zi ip1) ∧ 0 ≤ ip1 ∧ ip1 ≤ 1 ∧ q.2.2.2.2.2.2 m 18 = .int (zi w1) ∧ 0 ≤ w1 ∧ w1 ≤ 64 ∧ q.2.2.2.2.2.2 m 19 = .int (zi hh1) ∧ 0 ≤ hh1 ∧ hh1 ≤ 64 ∧ q.2.2.2.2.2.2 m 21 = .int (zi wd1) ∧ 0 ≤ wd1 ∧ wd1 ≤ 2 ∧ q.2.2.2.2.2.2 m 22 = .int (zi hg1) ∧ 0 ≤ hg1 ∧ hg1 ≤ 2 ∧ q.2.2.2.2.2.2 m 20 = .int (zi bs1) ∧ 0 ≤ bs1 ∧ bs1 ≤ 3 ∧ (gPi ty ip1 w1 hh1 wd1 hg1 bs1 q.2.2)) := by
                                  intro jn324v0 jn324d
                                  refine gy_s 3 (pc' := 474) (L' := [some (.ref m), some (.int (zi by2)), some (.int (zi mk)), some (.int (zi bg)), some (.int (zi n)), some (.int (zi zq78)), some (.int (zi zq118)), some (.int (zi z172)), some (.int (zi 0)), some (.int (zi ((p0 + 6) + 0))), some (.int (zi 0))]) (S' := [.int ((zi ((p0 + 6) + 0)) + (zi 2)), .int (zi jn324v0), .ref m]) (L2 := [some (.ref m), some (.int (zi by2)), some (.int (zi mk)), some (.int (zi bg)), some (.int (zi n)), some (.int (zi zq78)), some (.int (zi zq118)), some (.int (zi z172)), some (.int (zi 0)), some (.int (zi ((p0 + 6) + 0))), some (.int (zi 0))]) (S2 := [.int (zi (((p0 + 6) + 0) + 2)), .int (zi jn324v0), .ref m]) rfl (by simp only [zi_add, zi_sub, zi_mul, zi_neg, zi_and1, zi_and7, zi_and15, zi_and31, zi_and255, Int.reduceAdd, Int.reduceMul, Int.reduceSub]) (by simp only [zi_add, zi_sub, zi_mul, zi_neg, zi_and1, zi_and7, zi_and15, zi_and31, zi_and255, Int.reduceAdd, Int.reduceMul, Int.reduceSub]) ?_
                                  refine gz_call rfl (by decide) rfl (by decide) (by decide) (gcal_of rfl rfl rfl (Nat.le_of_ble_eq_true rfl) (gJ.recv (G := gGG) sh302.1 tm rfl rfl)) (mm_must _ sh302.1 m tm jn324v0 (by omega) (((p0 + 6) + 0) + 2) (by omega) fq281_0 s319 (by omega)) (fun q325 _ wq325 => ?_)
                                  obtain ⟨pq325, oq325, hq325⟩ := q325
                                  obtain ⟨xq325, zq325, fq325_0, gq325, aq325, bq325, efq325_0, afq325_0, bfq325_0, uq325_0, uq325_1⟩ := wq325
                                  refine ⟨_, gq325, ?_⟩
                                  show gz gPP gGG gcn _ _ 477 [some (.ref m), some (.int (zi by2)), some (.int (zi mk)), some (.int (zi bg)), some (.int (zi n)), some (.int (zi zq78)), some (.int (zi zq118)), some (.int (zi z172)), some (.int (zi 0)), some (.int (zi ((p0 + 6) + 0))), some (.int (zi 0))] [.int (zi zq325)] hq325 _
                                  have sq325 := gSs.tr sh302 xq325 (by decide)
                                  have s326 := (xq325.2.2.2.2.2 m 5 (by rw [tm]; decide)).trans s306
                                  have s327 := (xq325.2.2.2.2.2 m 6 (by rw [tm]; decide)).trans s307
                                  have s328 := (xq325.2.2.2.2.2 m 3 (by rw [tm]; decide)).trans s308
                                  have s329 := (xq325.2.2.2.2.2 m 16 (by rw [tm]; decide)).trans s309
                                  have s330 := (xq325.2.2.2.2.2 m 18 (by rw [tm]; decide)).trans s310
                                  have s331 := (xq325.2.2.2.2.2 m 19 (by rw [tm]; decide)).trans s311
                                  have s332 := (xq325.2.2.2.2.2 m 21 (by rw [tm]; decide)).trans s312
                                  have s333 := (xq325.2.2.2.2.2 m 22 (by rw [tm]; decide)).trans s313
                                  have s334 := (xq325.2.2.2.2.2 m 20 (by rw [tm]; decide)).trans s314
                                  have s335 := (xq325.2.2.2.2.2 m 4 (by rw [tm]; decide)).trans s315
                                  have s336 := (xq325.2.2.2.2.2 m 25 (by rw [tm]; decide)).trans s316
                                  have s337 := (xq325.2.2.2.2.2 m 26 (by rw [tm]; decide)).trans s317
                                  have s338 := (xq325.2.2.2.2.2 m 27 (by rw [tm]; decide)).trans s318
                                  have s339 := (xq325.2.2.2.2.2 m 28 (by rw [tm]; decide)).trans s320
                                  have pr340 := gEl.fr xq325.2 (by decide) (fun _ => rfl) pr303
                                  have pr341 := gEl.fr xq325.2 (by decide) (fun _ => rfl) pr304
                                  have pr342 := gEl.fr xq325.2 (by decide) (fun _ => rfl) pr305
                                  have pr343 := gEl.fr xq325.2 (by decide) (fun _ => rfl) pr321
                                  clear s306 s307 s308 s309 s310 s311 s312 s313 s314 s315 s316 s317 s318 s319 s320 pr303 pr304 pr305 pr321
                                  refine gy_s 5 (pc' := 257) (L' := [some (.ref m), some (.int (zi by2)), some (.int (zi mk)), some (.int (zi bg)), some (.int (zi n)), some (.int (zi zq78)), some (.int (zi zq118)), some (.int (zi z172)), some (.int ((zi 0) + zi 1)), some (.int (zi ((p0 + 6) + 0))), some (.int (zi 0))]) (S' := [.int (zi z172), .int ((zi 0) + zi 1)]) (L2 := [some (.ref m), some (.int (zi by2)), some (.int (zi mk)), some (.int (zi bg)), some (.int (zi n)), some (.int (zi zq78)), some (.int (zi zq118)), some (.int (zi z172)), some (.int (zi 1)), some (.int (zi ((p0 + 6) + 0))), some (.int (zi 0))]) (S2 := [.int (zi z172), .int (zi 1)]) rfl (by simp only [zi_add, zi_sub, zi_mul, zi_neg, zi_and1, zi_and7, zi_and15, zi_and31, zi_and255, Int.reduceAdd, Int.reduceMul, Int.reduceSub]) (by simp only [zi_add, zi_sub, zi_mul, zi_neg, zi_and1, zi_and7, zi_and15, zi_and31, zi_and255, Int.reduceAdd, Int.reduceMul, Int.reduceSub]) ?_
                                  refine gy_icT (pc' := 484) rfl (by decide) (by decide) (by omega) (by omega) (by first | (simp [zc]; done) | (simp only [zc]; omega)) ?_
                                  refine gz_s 1 (pc' := 485) (L' := [some (.ref m), some (.int (zi by2)), some (.int (zi mk)), some (.int (zi bg)), some (.int (zi n)), some (.int (zi zq78)), some (.int (zi zq118)), some (.int (zi z172)), some (.int (zi 1)), some (.int (zi ((p0 + 6) + 0))), some (.int (zi 0))]) (S' := [.ref m]) rfl ?_
                                  refine gs_gtk rfl (by decide) rfl sq325.1 tm rfl rfl efq325_0 ?_
                                  refine gz_s 1 (pc' := 489) (L' := [some (.ref m), some (.int (zi by2)), some (.int (zi mk)), some (.int (zi bg)), some (.int (zi n)), some (.int (zi zq78)), some (.int (zi zq118)), some (.int (zi z172)), some (.int (zi 1)), some (.int (zi ((p0 + 6) + 0))), some (.int (zi 0))]) (S' := [.int (zi (-1)), .int (zi fq325_0)]) rfl ?_
                                  by_cases hc344 : (fq325_0 : Int) = (-1)
                                  · refine gy_icT (pc' := 493) rfl (by decide) (by decide) (by omega) (by omega) hc344 ?_
                                    refine gz_s 2 (pc' := 495) (L' := [some (.ref m), some (.int (zi by2)), some (.int (zi mk)), some (.int (zi bg)), some (.int (zi n)), some (.int (zi zq78)), some (.int (zi zq118)), some (.int (zi z172)), some (.int (zi 1)), some (.int (zi ((p0 + 6) + 0))), some (.int (zi 0))]) (S' := [.int (zi 1), .ref m]) rfl ?_
                                    refine gs_put rfl (by decide) rfl sq325 tm rfl rfl rfl rfl (Or.inl rfl) (by decide) (by omega) (by omega) (fun h345 sh345 eh345 fh345 => ?_)
                                    have pr346 := gEl.pt fh345 tm (by decide) pr340
                                    have pr347 := gEl.pt fh345 tm (by decide) pr341
                                    have pr348 := gEl.pt fh345 tm (by decide) pr342
                                    have pr349 := gEl.pt fh345 tm (by decide) pr343
                                    have s350 := (fh345 m 5 (fun q => absurd q.2 (by decide))).trans s326
                                    have s351 := (fh345 m 6 (fun q => absurd q.2 (by decide))).trans s327
                                    have s352 := (fh345 m 3 (fun q => absurd q.2 (by decide))).trans s328
                                    have s353 := (fh345 m 18 (fun q => absurd q.2 (by decide))).trans s330
                                    have s354 := (fh345 m 19 (fun q => absurd q.2 (by decide))).trans s331
                                    have s355 := (fh345 m 21 (fun q => absurd q.2 (by decide))).trans s332
                                    have s356 := (fh345 m 22 (fun q => absurd q.2 (by decide))).trans s333
                                    have s357 := (fh345 m 20 (fun q => absurd q.2 (by decide))).trans s334
                                    have s358 := (fh345 m 4 (fun q => absurd q.2 (by decide))).trans s335
                                    have s359 := (fh345 m 25 (fun q => absurd q.2 (by decide))).trans s336
                                    have s360 := (fh345 m 26 (fun q => absurd q.2 (by decide))).trans s337
                                    have s361 := (fh345 m 27 (fun q => absurd q.2 (by decide))).trans s338
                                    have s362 := (fh345 m 28 (fun q => absurd q.2 (by decide))).trans s339
                                    have s363 := (fh345 m 7 (fun q => absurd q.2 (by decide))).trans efq325_0
                                    clear s326 s327 s328 s329 s330 s331 s332 s333 s334 s335 s336 s337 s338 s339 pr340 pr341 pr342 pr343
                                    refine gz_s 2 (pc' := 500) (L' := [some (.ref m), some (.int (zi by2)), some (.int (zi mk)), some (.int (zi bg)), some (.int (zi n)), some (.int (zi zq78)), some (.int (zi zq118)), some (.int (zi z172)), some (.int (zi 1)), some (.int (zi ((p0 + 6) + 0))), some (.int (zi 0))]) (S' := [.int (zi by2), .ref m]) rfl ?_
                                    refine gs_put rfl (by decide) rfl sh345 tm rfl rfl rfl (gfit_z (by omega)) (Or.inl rfl) (by decide) (by omega) (by omega) (fun h364 sh364 eh364 fh364 => ?_)
                                    have pr365 := gEl.pt fh364 tm (by decide) pr346
                                    have pr366 := gEl.pt fh364 tm (by decide) pr347
                                    have pr367 := gEl.pt fh364 tm (by decide) pr348
                                    have pr368 := gEl.pt fh364 tm (by decide) pr349
                                    have s369 := (fh364 m 5 (fun q => absurd q.2 (by decide))).trans s350
                                    have s370 := (fh364 m 6 (fun q => absurd q.2 (by decide))).trans s351
                                    have s371 := (fh364 m 3 (fun q => absurd q.2 (by decide))).trans s352
                                    have s372 := (fh364 m 18 (fun q => absurd q.2 (by decide))).trans s353
                                    have s373 := (fh364 m 19 (fun q => absurd q.2 (by decide))).trans s354
                                    have s374 := (fh364 m 21 (fun q => absurd q.2 (by decide))).trans s355
                                    have s375 := (fh364 m 22 (fun q => absurd q.2 (by decide))).trans s356
                                    have s376 := (fh364 m 20 (fun q => absurd q.2 (by decide))).trans s357
                                    have s377 := (fh364 m 4 (fun q => absurd q.2 (by decide))).trans s358
                                    have s378 := (fh364 m 25 (fun q => absurd q.2 (by decide))).trans s359
                                    have s379 := (fh364 m 26 (fun q => absurd q.2 (by decide))).trans s360
                                    have s380 := (fh364 m 27 (fun q => absurd q.2 (by decide))).trans s361
                                    have s381 := (fh364 m 28 (fun q => absurd q.2 (by decide))).trans s362
                                    have s382 := (fh364 m 7 (fun q => absurd q.2 (by decide))).trans s363
                                    have s383 := (fh364 m 16 (fun q => absurd q.2 (by decide))).trans eh345
                                    clear s350 s351 s352 s353 s354 s355 s356 s357 s358 s359 s360 s361 s362 s363 pr346 pr347 pr348 pr349
                                    refine gz_s 2 (pc' := 506) (L' := [some (.ref m), some (.int (zi by2)), some (.int (zi mk)), some (.int (zi bg)), some (.int (zi n)), some (.int (zi zq78)), some (.int (zi zq118)), some (.int (zi z172)), some (.int (zi 1)), some (.int (zi ((p0 + 6) + 0))), some (.int (zi 0))]) (S' := [.int (zi zq118), .ref m]) rfl ?_
                                    refine gs_put rfl (by decide) rfl sh364 tm rfl rfl rfl rfl (Or.inl rfl) (by decide) (by omega) (by omega) (fun h384 sh384 eh384 fh384 => ?_)
                                    have pr385 := gEl.pt fh384 tm (by decide) pr365
                                    have pr386 := gEl.pt fh384 tm (by decide) pr366
                                    have pr387 := gEl.pt fh384 tm (by decide) pr367
                                    have pr388 := gEl.pt fh384 tm (by decide) pr368
                                    have s389 := (fh384 m 5 (fun q => absurd q.2 (by decide))).trans s369
                                    have s390 := (fh384 m 6 (fun q => absurd q.2 (by decide))).trans s370
                                    have s391 := (fh384 m 3 (fun q => absurd q.2 (by decide))).trans s371
                                    have s392 := (fh384 m 19 (fun q => absurd q.2 (by decide))).trans s373
                                    have s393 := (fh384 m 21 (fun q => absurd q.2 (by decide))).trans s374
                                    have s394 := (fh384 m 22 (fun q => absurd q.2 (by decide))).trans s375
                                    have s395 := (fh384 m 20 (fun q => absurd q.2 (by decide))).trans s376
                                    have s396 := (fh384 m 4 (fun q => absurd q.2 (by decide))).trans s377
                                    have s397 := (fh384 m 25 (fun q => absurd q.2 (by decide))).trans s378
                                    have s398 := (fh384 m 26 (fun q => absurd q.2 (by decide))).trans s379
                                    have s399 := (fh384 m 27 (fun q => absurd q.2 (by decide))).trans s380
                                    have s400 := (fh384 m 28 (fun q => absurd q.2 (by decide))).trans s381
                                    have s401 := (fh384 m 7 (fun q => absurd q.2 (by decide))).trans s382
                                    have s402 := (fh384 m 16 (fun q => absurd q.2 (by decide))).trans s383
                                    have s403 := (fh384 m 17 (fun q => absurd q.2 (by decide))).trans eh364
                                    clear s369 s370 s371 s372 s373 s374 s375 s376 s377 s378 s379 s380 s381 s382 s383 pr365 pr366 pr367 pr368
                                    refine gz_s 2 (pc' := 512) (L' := [some (.ref m), some (.int (zi by2)), some (.int (zi mk)), some (.int (zi bg)), some (.int (zi n)), some (.int (zi zq78)), some (.int (zi zq118)), some (.int (zi z172)), some (.int (zi 1)), some (.int (zi ((p0 + 6) + 0))), some (.int (zi 0))]) (S' := [.int (zi zq78), .ref m]) rfl ?_
                                    refine gs_put rfl (by decide) rfl sh384 tm rfl rfl rfl rfl (Or.inl rfl) (by decide) (by omega) (by omega) (fun h404 sh404 eh404 fh404 => ?_)
                                    have pr405 := gEl.pt fh404 tm (by decide) pr385
                                    have pr406 := gEl.pt fh404 tm (by decide) pr386
                                    have pr407 := gEl.pt fh404 tm (by decide) pr387
                                    have pr408 := gEl.pt fh404 tm (by decide) pr388
                                    have s409 := (fh404 m 5 (fun q => absurd q.2 (by decide))).trans s389
                                    have s410 := (fh404 m 6 (fun q => absurd q.2 (by decide))).trans s390
                                    have s411 := (fh404 m 3 (fun q => absurd q.2 (by decide))).trans s391
                                    have s412 := (fh404 m 21 (fun q => absurd q.2 (by decide))).trans s393
                                    have s413 := (fh404 m 22 (fun q => absurd q.2 (by decide))).trans s394
                                    have s414 := (fh404 m 20 (fun q => absurd q.2 (by decide))).trans s395
                                    have s415 := (fh404 m 4 (fun q => absurd q.2 (by decide))).trans s396
                                    have s416 := (fh404 m 25 (fun q => absurd q.2 (by decide))).trans s397
                                    have s417 := (fh404 m 26 (fun q => absurd q.2 (by decide))).trans s398
                                    have s418 := (fh404 m 27 (fun q => absurd q.2 (by decide))).trans s399
                                    have s419 := (fh404 m 28 (fun q => absurd q.2 (by decide))).trans s400
                                    have s420 := (fh404 m 7 (fun q => absurd q.2 (by decide))).trans s401
                                    have s421 := (fh404 m 16 (fun q => absurd q.2 (by decide))).trans s402
                                    have s422 := (fh404 m 17 (fun q => absurd q.2 (by decide))).trans s403
                                    have s423 := (fh404 m 18 (fun q => absurd q.2 (by decide))).trans eh384
                                    clear s389 s390 s391 s392 s393 s394 s395 s396 s397 s398 s399 s400 s401 s402 s403 pr385 pr386 pr387 pr388
                                    refine gz_s 2 (pc' := 518) (L' := [some (.ref m), some (.int (zi by2)), some (.int (zi mk)), some (.int (zi bg)), some (.int (zi n)), some (.int (zi zq78)), some (.int (zi zq118)), some (.int (zi z172)), some (.int (zi 1)), some (.int (zi ((p0 + 6) + 0))), some (.int (zi 0))]) (S' := [.int (zi z172), .ref m]) rfl ?_
                                    refine gs_put rfl (by decide) rfl sh404 tm rfl rfl rfl rfl (Or.inl rfl) (by decide) (by omega) (by omega) (fun h424 sh424 eh424 fh424 => ?_)
                                    have pr425 := gEl.pt fh424 tm (by decide) pr405
                                    have pr426 := gEl.pt fh424 tm (by decide) pr406
                                    have pr427 := gEl.pt fh424 tm (by decide) pr407
                                    have pr428 := gEl.pt fh424 tm (by decide) pr408
                                    have s429 := (fh424 m 5 (fun q => absurd q.2 (by decide))).trans s409
                                    have s430 := (fh424 m 6 (fun q => absurd q.2 (by decide))).trans s410
                                    have s431 := (fh424 m 3 (fun q => absurd q.2 (by decide))).trans s411
                                    have s432 := (fh424 m 21 (fun q => absurd q.2 (by decide))).trans s412
                                    have s433 := (fh424 m 22 (fun q => absurd q.2 (by decide))).trans s413
                                    have s434 := (fh424 m 4 (fun q => absurd q.2 (by decide))).trans s415
                                    have s435 := (fh424 m 25 (fun q => absurd q.2 (by decide))).trans s416
                                    have s436 := (fh424 m 26 (fun q => absurd q.2 (by decide))).trans s417
                                    have s437 := (fh424 m 27 (fun q => absurd q.2 (by decide))).trans s418
                                    have s438 := (fh424 m 28 (fun q => absurd q.2 (by decide))).trans s419
                                    have s439 := (fh424 m 7 (fun q => absurd q.2 (by decide))).trans s420
                                    have s440 := (fh424 m 16 (fun q => absurd q.2 (by decide))).trans s421
                                    have s441 := (fh424 m 17 (fun q => absurd q.2 (by decide))).trans s422
                                    have s442 := (fh424 m 18 (fun q => absurd q.2 (by decide))).trans s423
                                    have s443 := (fh424 m 19 (fun q => absurd q.2 (by decide))).trans eh404
                                    clear s409 s410 s411 s412 s413 s414 s415 s416 s417 s418 s419 s420 s421 s422 s423 pr405 pr406 pr407 pr408
                                    refine gz_s 1 (pc' := 522) (L' := [some (.ref m), some (.int (zi by2)), some (.int (zi mk)), some (.int (zi bg)), some (.int (zi n)), some (.int (zi zq78)), some (.int (zi zq118)), some (.int (zi z172)), some (.int (zi 1)), some (.int (zi ((p0 + 6) + 0))), some (.int (zi 0))]) (S' := [.ref m]) rfl ?_
                                    refine gz_call rfl (by decide) rfl (by decide) (by decide) (gcal_of rfl rfl rfl (Nat.le_of_ble_eq_true rfl) (gJ.recv (G := gGG) sh424.1 tm rfl rfl)) (mm_layOut1 _ sh424.1 m tm zq118 s442 (by omega) zq78 s443 (by omega) z172 eh424 (by omega) (z238 / 16) (by omega) (z258 % 16) (by omega) uq pr426 pr427 (gEl.wd pr428 (by omega) (by omega))) (fun q444 _ wq444 => ?_)
                                    obtain ⟨pq444, oq444, hq444⟩ := q444
                                    obtain ⟨xq444, fq444_0, fq444_1, gq444, efq444_0, afq444_0, bfq444_0, efq444_1, afq444_1, bfq444_1, yq444_0⟩ := wq444
                                    refine ⟨_, gq444, ?_⟩
                                    show gz gPP gGG gcn _ _ 525 [some (.ref m), some (.int (zi by2)), some (.int (zi mk)), some (.int (zi bg)), some (.int (zi n)), some (.int (zi zq78)), some (.int (zi zq118)), some (.int (zi z172)), some (.int (zi 1)), some (.int (zi ((p0 + 6) + 0))), some (.int (zi 0))] [] hq444 _
                                    have sq444 := gSs.tr sh424 xq444 (by decide)
                                    have s445 := (xq444.2.2.2.2.2 m 5 (by rw [tm]; decide)).trans s429
                                    have s446 := (xq444.2.2.2.2.2 m 6 (by rw [tm]; decide)).trans s430
                                    have s447 := (xq444.2.2.2.2.2 m 3 (by rw [tm]; decide)).trans s431
                                    have s448 := (xq444.2.2.2.2.2 m 4 (by rw [tm]; decide)).trans s434
                                    have s449 := (xq444.2.2.2.2.2 m 25 (by rw [tm]; decide)).trans s435
                                    have s450 := (xq444.2.2.2.2.2 m 26 (by rw [tm]; decide)).trans s436
                                    have s451 := (xq444.2.2.2.2.2 m 27 (by rw [tm]; decide)).trans s437
                                    have s452 := (xq444.2.2.2.2.2 m 28 (by rw [tm]; decide)).trans s438
                                    have s453 := (xq444.2.2.2.2.2 m 7 (by rw [tm]; decide)).trans s439
                                    have s454 := (xq444.2.2.2.2.2 m 16 (by rw [tm]; decide)).trans s440
                                    have s455 := (xq444.2.2.2.2.2 m 17 (by rw [tm]; decide)).trans s441
                                    have s456 := (xq444.2.2.2.2.2 m 18 (by rw [tm]; decide)).trans s442
                                    have s457 := (xq444.2.2.2.2.2 m 19 (by rw [tm]; decide)).trans s443
                                    have s458 := (xq444.2.2.2.2.2 m 20 (by rw [tm]; decide)).trans eh424
                                    have pr459 := gEl.fr xq444.2 (by decide) (fun _ => rfl) pr425
                                    have pr460 := gEl.fr xq444.2 (by decide) (fun _ => rfl) pr426
                                    have pr461 := gEl.fr xq444.2 (by decide) (fun _ => rfl) pr427
                                    have pr462 := gEl.fr xq444.2 (by decide) (fun _ => rfl) pr428
                                    clear s429 s430 s431 s432 s433 s434 s435 s436 s437 s438 s439 s440 s441 s442 s443 pr425 pr426 pr427 pr428
                                    have hpi463 : gPi ty 1 zq118 zq78 fq444_0 fq444_1 z172 hq444 := fun _ => yq444_0
                                    exact gz_end (I := .return_) (len := 1) rfl (Or.inl rfl) ⟨sq444, fq325_0, 1, zq118, zq78, fq444_0, fq444_1, z172, rfl, s453, (by omega), (by omega), s454, (by omega), (by omega), s456, (by omega), (by omega), s457, (by omega), (by omega), efq444_0, (by omega), (by omega), efq444_1, (by omega), (by omega), s458, (by omega), (by omega), hpi463⟩
                                  · refine gy_icF rfl (by decide) (by decide) (by omega) (by omega) hc344 ?_
                                    have hpi464 : gPi ty ip w hh wd hg bs hq325 := fun e => absurd e (by omega)
                                    exact gz_end (I := .return_) (len := 1) rfl (Or.inl rfl) ⟨sq325, fq325_0, ip, w, hh, wd, hg, bs, rfl, efq325_0, (by omega), (by omega), s329, (by omega), (by omega), s330, (by omega), (by omega), s331, (by omega), (by omega), s332, (by omega), (by omega), s333, (by omega), (by omega), s334, (by omega), (by omega), hpi464⟩
                                by_cases hc465 : (4 : Int) ≤ z300
                                · refine gy_icT (pc' := 469) rfl (by decide) (by decide) (by omega) (by omega) hc465 ?_
                                  refine gz_s 1 (pc' := 470) (L' := [some (.ref m), some (.int (zi by2)), some (.int (zi mk)), some (.int (zi bg)), some (.int (zi n)), some (.int (zi zq78)), some (.int (zi zq118)), some (.int (zi z172)), some (.int (zi 0)), some (.int (zi ((p0 + 6) + 0))), some (.int (zi 0))]) (S' := [.int (zi 0), .ref m]) rfl ?_
                                  exact jn324 0 (by omega)
                                · refine gy_icF rfl (by decide) (by decide) (by omega) (by omega) hc465 ?_
                                  refine gz_s 2 (pc' := 470) (L' := [some (.ref m), some (.int (zi by2)), some (.int (zi mk)), some (.int (zi bg)), some (.int (zi n)), some (.int (zi zq78)), some (.int (zi zq118)), some (.int (zi z172)), some (.int (zi 0)), some (.int (zi ((p0 + 6) + 0))), some (.int (zi 0))]) (S' := [.int (zi 1), .ref m]) rfl ?_
                                  exact jn324 1 (by omega)
                              by_cases hc466 : (z238 / 16 : Int) < 1
                              · refine gy_icT (pc' := 428) rfl (by decide) (by decide) (by omega) (by omega) hc466 ?_
                                refine gz_s 1 (pc' := 429) (L' := [some (.ref m), some (.int (zi by2)), some (.int (zi mk)), some (.int (zi bg)), some (.int (zi n)), some (.int (zi zq78)), some (.int (zi zq118)), some (.int (zi z172)), some (.int (zi 0)), some (.int (zi ((p0 + 6) + 0))), some (.int (zi 0))]) (S' := [.int (zi 0), .ref m]) rfl ?_
                                exact jn280 0 (by omega)
                              · refine gy_icF rfl (by decide) (by decide) (by omega) (by omega) hc466 ?_
                                refine gz_s 1 (pc' := 392) (L' := [some (.ref m), some (.int (zi by2)), some (.int (zi mk)), some (.int (zi bg)), some (.int (zi n)), some (.int (zi zq78)), some (.int (zi zq118)), some (.int (zi z172)), some (.int (zi 0)), some (.int (zi ((p0 + 6) + 0))), some (.int (zi 0))]) (S' := [.ref m, .ref m]) rfl ?_
                                refine gs_gtk rfl (by decide) rfl sh260.1 tm rfl rfl s275 ?_
                                refine gz_s 1 (pc' := 397) (L' := [some (.ref m), some (.int (zi by2)), some (.int (zi mk)), some (.int (zi bg)), some (.int (zi n)), some (.int (zi zq78)), some (.int (zi zq118)), some (.int (zi z172)), some (.int (zi 0)), some (.int (zi ((p0 + 6) + 0))), some (.int (zi 0))]) (S' := [.int (zi 0), .ref c236, .ref m]) rfl ?_
                                have hl467 : 3 ≤ h260.2.2.2.1 c236 ∧ h260.2.2.2.1 c236 ≤ 3 := gJ.rowl (G := gGG) sh260.1 tc236 rfl
                                refine gs_alx rfl (by decide) sh260.1 tc236 rfl rfl rfl (by decide) (fun _ => rfl) (by omega) (by omega) (by decide) pr262 (fun ex468 ax468 bx468 => ?_)
                                refine gz_s 1 (pc' := 399) (L' := [some (.ref m), some (.int (zi by2)), some (.int (zi mk)), some (.int (zi bg)), some (.int (zi n)), some (.int (zi zq78)), some (.int (zi zq118)), some (.int (zi z172)), some (.int (zi 0)), some (.int (zi ((p0 + 6) + 0))), some (.int (zi 0))]) (S' := [.int (zi 2), .int (zi (z238 / 16)), .ref m]) rfl ?_
                                by_cases hc469 : (2 : Int) < z238 / 16
                                · refine gy_icT (pc' := 428) rfl (by decide) (by decide) (by omega) (by omega) hc469 ?_
                                  refine gz_s 1 (pc' := 429) (L' := [some (.ref m), some (.int (zi by2)), some (.int (zi mk)), some (.int (zi bg)), some (.int (zi n)), some (.int (zi zq78)), some (.int (zi zq118)), some (.int (zi z172)), some (.int (zi 0)), some (.int (zi ((p0 + 6) + 0))), some (.int (zi 0))]) (S' := [.int (zi 0), .ref m]) rfl ?_
                                  exact jn280 0 (by omega)
                                · refine gy_icF rfl (by decide) (by decide) (by omega) (by omega) hc469 ?_
                                  refine gz_s 1 (pc' := 403) (L' := [some (.ref m), some (.int (zi by2)), some (.int (zi mk)), some (.int (zi bg)), some (.int (zi n)), some (.int (zi zq78)), some (.int (zi zq118)), some (.int (zi z172)), some (.int (zi 0)), some (.int (zi ((p0 + 6) + 0))), some (.int (zi 0))]) (S' := [.ref m, .ref m]) rfl ?_
                                  refine gs_gtk rfl (by decide) rfl sh260.1 tm rfl rfl s276 ?_
                                  refine gz_s 1 (pc' := 408) (L' := [some (.ref m), some (.int (zi by2)), some (.int (zi mk)), some (.int (zi bg)), some (.int (zi n)), some (.int (zi zq78)), some (.int (zi zq118)), some (.int (zi z172)), some (.int (zi 0)), some (.int (zi ((p0 + 6) + 0))), some (.int (zi 0))]) (S' := [.int (zi 0), .ref c256, .ref m]) rfl ?_
                                  have hl470 : 3 ≤ h260.2.2.2.1 c256 ∧ h260.2.2.2.1 c256 ≤ 3 := gJ.rowl (G := gGG) sh260.1 tc256 rfl
                                  refine gs_alx rfl (by decide) sh260.1 tc256 rfl rfl rfl (by decide) (fun _ => rfl) (by omega) (by omega) (by decide) pr277 (fun ex471 ax471 bx471 => ?_)
                                  refine gz_s 1 (pc' := 410) (L' := [some (.ref m), some (.int (zi by2)), some (.int (zi mk)), some (.int (zi bg)), some (.int (zi n)), some (.int (zi zq78)), some (.int (zi zq118)), some (.int (zi z172)), some (.int (zi 0)), some (.int (zi ((p0 + 6) + 0))), some (.int (zi 0))]) (S' := [.int (zi 1), .int (zi (z258 % 16)), .ref m]) rfl ?_
                                  by_cases hc472 : (z258 % 16 : Int) < 1
                                  · refine gy_icT (pc' := 428) rfl (by decide) (by decide) (by omega) (by omega) hc472 ?_
                                    refine gz_s 1 (pc' := 429) (L' := [some (.ref m), some (.int (zi by2)), some (.int (zi mk)), some (.int (zi bg)), some (.int (zi n)), some (.int (zi zq78)), some (.int (zi zq118)), some (.int (zi z172)), some (.int (zi 0)), some (.int (zi ((p0 + 6) + 0))), some (.int (zi 0))]) (S' := [.int (zi 0), .ref m]) rfl ?_
                                    exact jn280 0 (by omega)
                                  · refine gy_icF rfl (by decide) (by decide) (by omega) (by omega) hc472 ?_
                                    refine gz_s 1 (pc' := 414) (L' := [some (.ref m), some (.int (zi by2)), some (.int (zi mk)), some (.int (zi bg)), some (.int (zi n)), some (.int (zi zq78)), some (.int (zi zq118)), some (.int (zi z172)), some (.int (zi 0)), some (.int (zi ((p0 + 6) + 0))), some (.int (zi 0))]) (S' := [.ref m, .ref m]) rfl ?_
                                    refine gs_gtk rfl (by decide) rfl sh260.1 tm rfl rfl s276 ?_
                                    refine gz_s 1 (pc' := 419) (L' := [some (.ref m), some (.int (zi by2)), some (.int (zi mk)), some (.int (zi bg)), some (.int (zi n)), some (.int (zi zq78)), some (.int (zi zq118)), some (.int (zi z172)), some (.int (zi 0)), some (.int (zi ((p0 + 6) + 0))), some (.int (zi 0))]) (S' := [.int (zi 0), .ref c256, .ref m]) rfl ?_
                                    have hl473 : 3 ≤ h260.2.2.2.1 c256 ∧ h260.2.2.2.1 c256 ≤ 3 := gJ.rowl (G := gGG) sh260.1 tc256 rfl
                                    refine gs_alx rfl (by decide) sh260.1 tc256 rfl rfl rfl (by decide) (fun _ => rfl) (by omega) (by omega) (by decide) pr277 (fun ex474 ax474 bx474 => ?_)
                                    refine gz_s 1 (pc' := 421) (L' := [some (.ref m), some (.int (zi by2)), some (.int (zi mk)), some (.int (zi bg)), some (.int (zi n)), some (.int (zi zq78)), some (.int (zi zq118)), some (.int (zi z172)), some (.int (zi 0)), some (.int (zi ((p0 + 6) + 0))), some (.int (zi 0))]) (S' := [.int (zi 2), .int (zi (z258 % 16)), .ref m]) rfl ?_
                                    by_cases hc475 : (2 : Int) < z258 % 16
                                    · refine gy_icT (pc' := 428) rfl (by decide) (by decide) (by omega) (by omega) hc475 ?_
                                      refine gz_s 1 (pc' := 429) (L' := [some (.ref m), some (.int (zi by2)), some (.int (zi mk)), some (.int (zi bg)), some (.int (zi n)), some (.int (zi zq78)), some (.int (zi zq118)), some (.int (zi z172)), some (.int (zi 0)), some (.int (zi ((p0 + 6) + 0))), some (.int (zi 0))]) (S' := [.int (zi 0), .ref m]) rfl ?_
                                      exact jn280 0 (by omega)
                                    · refine gy_icF rfl (by decide) (by decide) (by omega) (by omega) hc475 ?_
                                      refine gz_s 2 (pc' := 429) (L' := [some (.ref m), some (.int (zi by2)), some (.int (zi mk)), some (.int (zi bg)), some (.int (zi n)), some (.int (zi zq78)), some (.int (zi zq118)), some (.int (zi z172)), some (.int (zi 0)), some (.int (zi ((p0 + 6) + 0))), some (.int (zi 0))]) (S' := [.int (zi 1), .ref m]) rfl ?_
                                      exact jn280 1 (by omega)
                          · refine gy_ifF rfl (by decide) (by decide) (by omega) hc214 ?_
                            have hpi476 : gPi ty ip w hh wd hg bs hq202 := fun e => absurd e (by omega)
                            exact gz_end (I := .return_) (len := 1) rfl (Or.inl rfl) ⟨sq202, fq202_0, ip, w, hh, wd, hg, bs, rfl, efq202_0, (by omega), (by omega), s206, (by omega), (by omega), s207, (by omega), (by omega), s208, (by omega), (by omega), s209, (by omega), (by omega), s210, (by omega), (by omega), s211, (by omega), (by omega), hpi476⟩
                    · refine gy_icF rfl (by decide) (by decide) (by omega) (by omega) hc173 ?_
                      refine gz_s 2 (pc' := 204) (L' := [some (.ref m), some (.int (zi by2)), some (.int (zi mk)), some (.int (zi bg)), some (.int (zi n)), some (.int (zi zq78)), some (.int (zi zq118)), some (.int (zi z172)), none, none, none]) (S' := [.int (zi 3), .int (zi z172), .ref m]) rfl ?_
                      by_cases hc477 : ¬ (z172 : Int) = 3
                      · refine gy_icT (pc' := 211) rfl (by decide) (by decide) (by omega) (by omega) hc477 ?_
                        refine gz_s 2 (pc' := 213) (L' := [some (.ref m), some (.int (zi by2)), some (.int (zi mk)), some (.int (zi bg)), some (.int (zi n)), some (.int (zi zq78)), some (.int (zi zq118)), some (.int (zi z172)), none, none, none]) (S' := [.ref m, .int (zi 0), .ref m]) rfl ?_
                        refine gs_gtk rfl (by decide) rfl sq158.1 tm rfl rfl s159 ?_
                        refine gy_s 2 (pc' := 218) (L' := [some (.ref m), some (.int (zi by2)), some (.int (zi mk)), some (.int (zi bg)), some (.int (zi n)), some (.int (zi zq78)), some (.int (zi zq118)), some (.int (zi z172)), none, none, none]) (S' := [.int ((zi p0) + (zi 5)), .int (zi 0), .ref m]) (L2 := [some (.ref m), some (.int (zi by2)), some (.int (zi mk)), some (.int (zi bg)), some (.int (zi n)), some (.int (zi zq78)), some (.int (zi zq118)), some (.int (zi z172)), none, none, none]) (S2 := [.int (zi (p0 + 5)), .int (zi 0), .ref m]) rfl (by simp only [zi_add, zi_sub, zi_mul, zi_neg, zi_and1, zi_and7, zi_and15, zi_and31, zi_and255, Int.reduceAdd, Int.reduceMul, Int.reduceSub]) (by simp only [zi_add, zi_sub, zi_mul, zi_neg, zi_and1, zi_and7, zi_and15, zi_and31, zi_and255, Int.reduceAdd, Int.reduceMul, Int.reduceSub]) ?_
                        refine gz_call rfl (by decide) rfl (by decide) (by decide) (gcal_of rfl rfl rfl (Nat.le_of_ble_eq_true rfl) (gJ.recv (G := gGG) sq158.1 tm rfl rfl)) (mm_must _ sq158.1 m tm 0 (by omega) (p0 + 5) (by omega) fq158_0 efq158_0 (by omega)) (fun q478 _ wq478 => ?_)
                        obtain ⟨pq478, oq478, hq478⟩ := q478
                        obtain ⟨xq478, zq478, fq478_0, gq478, aq478, bq478, efq478_0, afq478_0, bfq478_0, uq478_0, uq478_1⟩ := wq478
                        refine ⟨_, gq478, ?_⟩
                        show gz gPP gGG gcn _ _ 221 [some (.ref m), some (.int (zi by2)), some (.int (zi mk)), some (.int (zi bg)), some (.int (zi n)), some (.int (zi zq78)), some (.int (zi zq118)), some (.int (zi z172)), none, none, none] [.int (zi zq478)] hq478 _
                        have sq478 := gSs.tr sq158 xq478 (by decide)
                        have s479 := (xq478.2.2.2.2.2 m 5 (by rw [tm]; decide)).trans s159
                        have s480 := (xq478.2.2.2.2.2 m 6 (by rw [tm]; decide)).trans s160
                        have s481 := (xq478.2.2.2.2.2 m 3 (by rw [tm]; decide)).trans s161
                        have s482 := (xq478.2.2.2.2.2 m 16 (by rw [tm]; decide)).trans s162
                        have s483 := (xq478.2.2.2.2.2 m 18 (by rw [tm]; decide)).trans s163
                        have s484 := (xq478.2.2.2.2.2 m 19 (by rw [tm]; decide)).trans s164
                        have s485 := (xq478.2.2.2.2.2 m 21 (by rw [tm]; decide)).trans s165
                        have s486 := (xq478.2.2.2.2.2 m 22 (by rw [tm]; decide)).trans s166
                        have s487 := (xq478.2.2.2.2.2 m 20 (by rw [tm]; decide)).trans s167
                        have s488 := (xq478.2.2.2.2.2 m 4 (by rw [tm]; decide)).trans s168
                        have pr489 := gPi.fr xq478.2 (by decide) pr169
                        clear s159 s160 s161 s162 s163 s164 s165 s166 s167 s168 pr169
                        refine gy_ifT (pc' := 249) rfl (by decide) (by decide) (by omega) (by first | (simp [zc]; done) | (simp only [zc]; omega)) ?_
                        have hpi490 : gPi ty ip w hh wd hg bs hq478 := fun e => absurd e (by omega)
                        exact gz_end (I := .return_) (len := 1) rfl (Or.inl rfl) ⟨sq478, fq478_0, ip, w, hh, wd, hg, bs, rfl, efq478_0, (by omega), (by omega), s482, (by omega), (by omega), s483, (by omega), (by omega), s484, (by omega), (by omega), s485, (by omega), (by omega), s486, (by omega), (by omega), s487, (by omega), (by omega), hpi490⟩
                      · refine gy_icF rfl (by decide) (by decide) (by omega) (by omega) hc477 ?_
                        refine gz_s 3 (pc' := 213) (L' := [some (.ref m), some (.int (zi by2)), some (.int (zi mk)), some (.int (zi bg)), some (.int (zi n)), some (.int (zi zq78)), some (.int (zi zq118)), some (.int (zi z172)), none, none, none]) (S' := [.ref m, .int (zi 1), .ref m]) rfl ?_
                        refine gs_gtk rfl (by decide) rfl sq158.1 tm rfl rfl s159 ?_
                        refine gy_s 2 (pc' := 218) (L' := [some (.ref m), some (.int (zi by2)), some (.int (zi mk)), some (.int (zi bg)), some (.int (zi n)), some (.int (zi zq78)), some (.int (zi zq118)), some (.int (zi z172)), none, none, none]) (S' := [.int ((zi p0) + (zi 5)), .int (zi 1), .ref m]) (L2 := [some (.ref m), some (.int (zi by2)), some (.int (zi mk)), some (.int (zi bg)), some (.int (zi n)), some (.int (zi zq78)), some (.int (zi zq118)), some (.int (zi z172)), none, none, none]) (S2 := [.int (zi (p0 + 5)), .int (zi 1), .ref m]) rfl (by simp only [zi_add, zi_sub, zi_mul, zi_neg, zi_and1, zi_and7, zi_and15, zi_and31, zi_and255, Int.reduceAdd, Int.reduceMul, Int.reduceSub]) (by simp only [zi_add, zi_sub, zi_mul, zi_neg, zi_and1, zi_and7, zi_and15, zi_and31, zi_and255, Int.reduceAdd, Int.reduceMul, Int.reduceSub]) ?_
                        refine gz_call rfl (by decide) rfl (by decide) (by decide) (gcal_of rfl rfl rfl (Nat.le_of_ble_eq_true rfl) (gJ.recv (G := gGG) sq158.1 tm rfl rfl)) (mm_must _ sq158.1 m tm 1 (by omega) (p0 + 5) (by omega) fq158_0 efq158_0 (by omega)) (fun q491 _ wq491 => ?_)
                        obtain ⟨pq491, oq491, hq491⟩ := q491
                        obtain ⟨xq491, zq491, fq491_0, gq491, aq491, bq491, efq491_0, afq491_0, bfq491_0, uq491_0, uq491_1⟩ := wq491
                        refine ⟨_, gq491, ?_⟩
                        show gz gPP gGG gcn _ _ 221 [some (.ref m), some (.int (zi by2)), some (.int (zi mk)), some (.int (zi bg)), some (.int (zi n)), some (.int (zi zq78)), some (.int (zi zq118)), some (.int (zi z172)), none, none, none] [.int (zi zq491)] hq491 _
                        have sq491 := gSs.tr sq158 xq491 (by decide)
                        have s492 := (xq491.2.2.2.2.2 m 5 (by rw [tm]; decide)).trans s159
                        have s493 := (xq491.2.2.2.2.2 m 6 (by rw [tm]; decide)).trans s160
                        have s494 := (xq491.2.2.2.2.2 m 3 (by rw [tm]; decide)).trans s161
                        have s495 := (xq491.2.2.2.2.2 m 16 (by rw [tm]; decide)).trans s162
                        have s496 := (xq491.2.2.2.2.2 m 18 (by rw [tm]; decide)).trans s163
                        have s497 := (xq491.2.2.2.2.2 m 19 (by rw [tm]; decide)).trans s164
                        have s498 := (xq491.2.2.2.2.2 m 21 (by rw [tm]; decide)).trans s165
                        have s499 := (xq491.2.2.2.2.2 m 22 (by rw [tm]; decide)).trans s166
                        have s500 := (xq491.2.2.2.2.2 m 20 (by rw [tm]; decide)).trans s167
                        have s501 := (xq491.2.2.2.2.2 m 4 (by rw [tm]; decide)).trans s168
                        have pr502 := gPi.fr xq491.2 (by decide) pr169
                        clear s159 s160 s161 s162 s163 s164 s165 s166 s167 s168 pr169
                        by_cases hc503 : (zq491 : Int) = 0
                        · refine gy_ifT (pc' := 249) rfl (by decide) (by decide) (by omega) hc503 ?_
                          have hpi504 : gPi ty ip w hh wd hg bs hq491 := fun e => absurd e (by omega)
                          exact gz_end (I := .return_) (len := 1) rfl (Or.inl rfl) ⟨sq491, fq491_0, ip, w, hh, wd, hg, bs, rfl, efq491_0, (by omega), (by omega), s495, (by omega), (by omega), s496, (by omega), (by omega), s497, (by omega), (by omega), s498, (by omega), (by omega), s499, (by omega), (by omega), s500, (by omega), (by omega), hpi504⟩
                        · refine gy_ifF rfl (by decide) (by decide) (by omega) hc503 ?_
                          refine gy_s 7 (pc' := 234) (L' := [some (.ref m), some (.int (zi by2)), some (.int (zi mk)), some (.int (zi bg)), some (.int (zi n)), some (.int (zi zq78)), some (.int (zi zq118)), some (.int (zi z172)), none, none, none]) (S' := [.int ((zi 8) + ((zi 3) * (zi z172))), .int (zi n), .ref m]) (L2 := [some (.ref m), some (.int (zi by2)), some (.int (zi mk)), some (.int (zi bg)), some (.int (zi n)), some (.int (zi zq78)), some (.int (zi zq118)), some (.int (zi z172)), none, none, none]) (S2 := [.int (zi (8 + (3 * z172))), .int (zi n), .ref m]) rfl (by simp only [zi_add, zi_sub, zi_mul, zi_neg, zi_and1, zi_and7, zi_and15, zi_and31, zi_and255, Int.reduceAdd, Int.reduceMul, Int.reduceSub]) (by simp only [zi_add, zi_sub, zi_mul, zi_neg, zi_and1, zi_and7, zi_and15, zi_and31, zi_and255, Int.reduceAdd, Int.reduceMul, Int.reduceSub]) ?_
                          by_cases hc505 : ¬ (n : Int) = 8 + (3 * z172)
                          · refine gy_icT (pc' := 241) rfl (by decide) (by decide) (by omega) (by omega) hc505 ?_
                            refine gz_s 2 (pc' := 243) (L' := [some (.ref m), some (.int (zi by2)), some (.int (zi mk)), some (.int (zi bg)), some (.int (zi n)), some (.int (zi zq78)), some (.int (zi zq118)), some (.int (zi z172)), none, none, none]) (S' := [.int (zi bg), .int (zi 0), .ref m]) rfl ?_
                            refine gz_call rfl (by decide) rfl (by decide) (by decide) (gcal_of rfl rfl rfl (Nat.le_of_ble_eq_true rfl) (gJ.recv (G := gGG) sq491.1 tm rfl rfl)) (mm_must _ sq491.1 m tm 0 (by omega) bg (by omega) fq491_0 efq491_0 (by omega)) (fun q506 _ wq506 => ?_)
                            obtain ⟨pq506, oq506, hq506⟩ := q506
                            obtain ⟨xq506, zq506, fq506_0, gq506, aq506, bq506, efq506_0, afq506_0, bfq506_0, uq506_0, uq506_1⟩ := wq506
                            refine ⟨_, gq506, ?_⟩
                            show gz gPP gGG gcn _ _ 246 [some (.ref m), some (.int (zi by2)), some (.int (zi mk)), some (.int (zi bg)), some (.int (zi n)), some (.int (zi zq78)), some (.int (zi zq118)), some (.int (zi z172)), none, none, none] [.int (zi zq506)] hq506 _
                            have sq506 := gSs.tr sq491 xq506 (by decide)
                            have s507 := (xq506.2.2.2.2.2 m 5 (by rw [tm]; decide)).trans s492
                            have s508 := (xq506.2.2.2.2.2 m 6 (by rw [tm]; decide)).trans s493
                            have s509 := (xq506.2.2.2.2.2 m 3 (by rw [tm]; decide)).trans s494
                            have s510 := (xq506.2.2.2.2.2 m 16 (by rw [tm]; decide)).trans s495
                            have s511 := (xq506.2.2.2.2.2 m 18 (by rw [tm]; decide)).trans s496
                            have s512 := (xq506.2.2.2.2.2 m 19 (by rw [tm]; decide)).trans s497
                            have s513 := (xq506.2.2.2.2.2 m 21 (by rw [tm]; decide)).trans s498
                            have s514 := (xq506.2.2.2.2.2 m 22 (by rw [tm]; decide)).trans s499
                            have s515 := (xq506.2.2.2.2.2 m 20 (by rw [tm]; decide)).trans s500
                            have s516 := (xq506.2.2.2.2.2 m 4 (by rw [tm]; decide)).trans s501
                            have pr517 := gPi.fr xq506.2 (by decide) pr502
                            clear s492 s493 s494 s495 s496 s497 s498 s499 s500 s501 pr502
                            refine gy_ifF rfl (by decide) (by decide) (by omega) (by first | (simp [zc]; done) | (simp only [zc]; omega)) ?_
                            have hpi518 : gPi ty ip w hh wd hg bs hq506 := fun e => absurd e (by omega)
                            exact gz_end (I := .return_) (len := 1) rfl (Or.inl rfl) ⟨sq506, fq506_0, ip, w, hh, wd, hg, bs, rfl, efq506_0, (by omega), (by omega), s510, (by omega), (by omega), s511, (by omega), (by omega), s512, (by omega), (by omega), s513, (by omega), (by omega), s514, (by omega), (by omega), s515, (by omega), (by omega), hpi518⟩
                          · refine gy_icF rfl (by decide) (by decide) (by omega) (by omega) hc505 ?_
                            refine gz_s 3 (pc' := 243) (L' := [some (.ref m), some (.int (zi by2)), some (.int (zi mk)), some (.int (zi bg)), some (.int (zi n)), some (.int (zi zq78)), some (.int (zi zq118)), some (.int (zi z172)), none, none, none]) (S' := [.int (zi bg), .int (zi 1), .ref m]) rfl ?_
                            refine gz_call rfl (by decide) rfl (by decide) (by decide) (gcal_of rfl rfl rfl (Nat.le_of_ble_eq_true rfl) (gJ.recv (G := gGG) sq491.1 tm rfl rfl)) (mm_must _ sq491.1 m tm 1 (by omega) bg (by omega) fq491_0 efq491_0 (by omega)) (fun q519 _ wq519 => ?_)
                            obtain ⟨pq519, oq519, hq519⟩ := q519
                            obtain ⟨xq519, zq519, fq519_0, gq519, aq519, bq519, efq519_0, afq519_0, bfq519_0, uq519_0, uq519_1⟩ := wq519
                            refine ⟨_, gq519, ?_⟩
                            show gz gPP gGG gcn _ _ 246 [some (.ref m), some (.int (zi by2)), some (.int (zi mk)), some (.int (zi bg)), some (.int (zi n)), some (.int (zi zq78)), some (.int (zi zq118)), some (.int (zi z172)), none, none, none] [.int (zi zq519)] hq519 _
                            have sq519 := gSs.tr sq491 xq519 (by decide)
                            have s520 := (xq519.2.2.2.2.2 m 5 (by rw [tm]; decide)).trans s492
                            have s521 := (xq519.2.2.2.2.2 m 6 (by rw [tm]; decide)).trans s493
                            have s522 := (xq519.2.2.2.2.2 m 3 (by rw [tm]; decide)).trans s494
                            have s523 := (xq519.2.2.2.2.2 m 16 (by rw [tm]; decide)).trans s495
                            have s524 := (xq519.2.2.2.2.2 m 18 (by rw [tm]; decide)).trans s496
                            have s525 := (xq519.2.2.2.2.2 m 19 (by rw [tm]; decide)).trans s497
                            have s526 := (xq519.2.2.2.2.2 m 21 (by rw [tm]; decide)).trans s498
                            have s527 := (xq519.2.2.2.2.2 m 22 (by rw [tm]; decide)).trans s499
                            have s528 := (xq519.2.2.2.2.2 m 20 (by rw [tm]; decide)).trans s500
                            have s529 := (xq519.2.2.2.2.2 m 4 (by rw [tm]; decide)).trans s501
                            have pr530 := gPi.fr xq519.2 (by decide) pr502
                            clear s492 s493 s494 s495 s496 s497 s498 s499 s500 s501 pr502
                            by_cases hc531 : ¬ (zq519 : Int) = 0
                            · refine gy_ifT (pc' := 250) rfl (by decide) (by decide) (by omega) hc531 ?_
                              refine gz_s 4 (pc' := 257) (L' := [some (.ref m), some (.int (zi by2)), some (.int (zi mk)), some (.int (zi bg)), some (.int (zi n)), some (.int (zi zq78)), some (.int (zi zq118)), some (.int (zi z172)), some (.int (zi 0)), none, none]) (S' := [.int (zi z172), .int (zi 0)]) rfl ?_
                              refine gy_icF rfl (by decide) (by decide) (by omega) (by omega) (by first | (simp [zc]; done) | (simp only [zc]; omega)) ?_
                              refine gz_s 1 (pc' := 261) (L' := [some (.ref m), some (.int (zi by2)), some (.int (zi mk)), some (.int (zi bg)), some (.int (zi n)), some (.int (zi zq78)), some (.int (zi zq118)), some (.int (zi z172)), some (.int (zi 0)), none, none]) (S' := [.ref m]) rfl ?_
                              refine gs_gtk rfl (by decide) rfl sq519.1 tm rfl rfl efq519_0 ?_
                              refine gz_s 1 (pc' := 265) (L' := [some (.ref m), some (.int (zi by2)), some (.int (zi mk)), some (.int (zi bg)), some (.int (zi n)), some (.int (zi zq78)), some (.int (zi zq118)), some (.int (zi z172)), some (.int (zi 0)), none, none]) (S' := [.int (zi (-1)), .int (zi fq519_0)]) rfl ?_
                              by_cases hc532 : ¬ (fq519_0 : Int) = (-1)
                              · refine gy_icT (pc' := 484) rfl (by decide) (by decide) (by omega) (by omega) hc532 ?_
                                refine gz_s 1 (pc' := 485) (L' := [some (.ref m), some (.int (zi by2)), some (.int (zi mk)), some (.int (zi bg)), some (.int (zi n)), some (.int (zi zq78)), some (.int (zi zq118)), some (.int (zi z172)), some (.int (zi 0)), none, none]) (S' := [.ref m]) rfl ?_
                                refine gs_gtk rfl (by decide) rfl sq519.1 tm rfl rfl efq519_0 ?_
                                refine gz_s 1 (pc' := 489) (L' := [some (.ref m), some (.int (zi by2)), some (.int (zi mk)), some (.int (zi bg)), some (.int (zi n)), some (.int (zi zq78)), some (.int (zi zq118)), some (.int (zi z172)), some (.int (zi 0)), none, none]) (S' := [.int (zi (-1)), .int (zi fq519_0)]) rfl ?_
                                refine gy_icF rfl (by decide) (by decide) (by omega) (by omega) (by first | (simp [zc]; done) | (simp only [zc]; omega)) ?_
                                have hpi533 : gPi ty ip w hh wd hg bs hq519 := fun e => absurd e (by omega)
                                exact gz_end (I := .return_) (len := 1) rfl (Or.inl rfl) ⟨sq519, fq519_0, ip, w, hh, wd, hg, bs, rfl, efq519_0, (by omega), (by omega), s523, (by omega), (by omega), s524, (by omega), (by omega), s525, (by omega), (by omega), s526, (by omega), (by omega), s527, (by omega), (by omega), s528, (by omega), (by omega), hpi533⟩
                              · refine gy_icF rfl (by decide) (by decide) (by omega) (by omega) hc532 ?_
                                refine gz_s 1 (pc' := 269) (L' := [some (.ref m), some (.int (zi by2)), some (.int (zi mk)), some (.int (zi bg)), some (.int (zi n)), some (.int (zi zq78)), some (.int (zi zq118)), some (.int (zi z172)), some (.int (zi 0)), none, none]) (S' := [.ref m]) rfl ?_
                                refine gs_gtk rfl (by decide) rfl sq519.1 tm rfl rfl s520 ?_
                                refine gy_s 8 (pc' := 283) (L' := [some (.ref m), some (.int (zi by2)), some (.int (zi mk)), some (.int (zi bg)), some (.int (zi n)), some (.int (zi zq78)), some (.int (zi zq118)), some (.int (zi z172)), some (.int (zi 0)), some (.int (((zi p0) + (zi 6)) + ((zi 3) * (zi 0)))), none]) (S' := [.ref m]) (L2 := [some (.ref m), some (.int (zi by2)), some (.int (zi mk)), some (.int (zi bg)), some (.int (zi n)), some (.int (zi zq78)), some (.int (zi zq118)), some (.int (zi z172)), some (.int (zi 0)), some (.int (zi ((p0 + 6) + 0))), none]) (S2 := [.ref m]) rfl (by simp only [zi_add, zi_sub, zi_mul, zi_neg, zi_and1, zi_and7, zi_and15, zi_and31, zi_and255, Int.reduceAdd, Int.reduceMul, Int.reduceSub]) (by simp only [zi_add, zi_sub, zi_mul, zi_neg, zi_and1, zi_and7, zi_and15, zi_and31, zi_and255, Int.reduceAdd, Int.reduceMul, Int.reduceSub]) ?_
                                refine gs_gtr rfl (by decide) rfl sq519.1 tm rfl rfl rfl (fun c534 ec534 tc534 => ?_)
                                refine gz_s 2 (pc' := 289) (L' := [some (.ref m), some (.int (zi by2)), some (.int (zi mk)), some (.int (zi bg)), some (.int (zi n)), some (.int (zi zq78)), some (.int (zi zq118)), some (.int (zi z172)), some (.int (zi 0)), some (.int (zi ((p0 + 6) + 0))), none]) (S' := [.ref m, .int (zi 0), .ref c534]) rfl ?_
                                refine gs_gtk rfl (by decide) rfl sq519.1 tm rfl rfl s529 ?_
                                refine gz_s 1 (pc' := 294) (L' := [some (.ref m), some (.int (zi by2)), some (.int (zi mk)), some (.int (zi bg)), some (.int (zi n)), some (.int (zi zq78)), some (.int (zi zq118)), some (.int (zi z172)), some (.int (zi 0)), some (.int (zi ((p0 + 6) + 0))), none]) (S' := [.int (zi ((p0 + 6) + 0)), .ref c49, .int (zi 0), .ref c534]) rfl ?_
                                have hl535 : 2000 ≤ hq519.2.2.2.1 c49 ∧ hq519.2.2.2.1 c49 ≤ 2000 := gJ.rowl (G := gGG) sq519.1 tc49 rfl
                                refine gs_ald rfl (by decide) sq519.1 tc49 rfl rfl rfl (by decide) (fun _ => rfl) (by omega) (by omega) (fun z536 ez536 az536 bz536 => ?_)
                                have hl537 : 3 ≤ hq519.2.2.2.1 c534 ∧ hq519.2.2.2.1 c534 ≤ 3 := gJ.rowl (G := gGG) sq519.1 tc534 rfl
                                refine gs_ast rfl (by decide) sq519 tc534 rfl rfl rfl (by decide) (fun _ => rfl) (by omega) (by omega) (fun _ => (by decide : (11999 : Nat) ∈ ([1007, 1016, 1017, 1018, 1019, 1020, 1021, 1022, 1023, 1024, 11999, 12999, 13999, 14999, 15999, 16999, 17999, 18999, 19999, 23999, 24999] : List Nat))) (by omega) (by omega) (fun h538 sh538 eh538 fh538 => ?_)
                                have pr539 := gPi.pt fh538 tc534 (by decide) pr530
                                have s540 := (fh538 m 5 (fun q => absurd (((tm).symm.trans (congrArg ty q.1)).trans tc534) (by decide))).trans s520
                                have s541 := (fh538 m 6 (fun q => absurd (((tm).symm.trans (congrArg ty q.1)).trans tc534) (by decide))).trans s521
                                have s542 := (fh538 m 3 (fun q => absurd (((tm).symm.trans (congrArg ty q.1)).trans tc534) (by decide))).trans s522
                                have s543 := (fh538 m 16 (fun q => absurd (((tm).symm.trans (congrArg ty q.1)).trans tc534) (by decide))).trans s523
                                have s544 := (fh538 m 18 (fun q => absurd (((tm).symm.trans (congrArg ty q.1)).trans tc534) (by decide))).trans s524
                                have s545 := (fh538 m 19 (fun q => absurd (((tm).symm.trans (congrArg ty q.1)).trans tc534) (by decide))).trans s525
                                have s546 := (fh538 m 21 (fun q => absurd (((tm).symm.trans (congrArg ty q.1)).trans tc534) (by decide))).trans s526
                                have s547 := (fh538 m 22 (fun q => absurd (((tm).symm.trans (congrArg ty q.1)).trans tc534) (by decide))).trans s527
                                have s548 := (fh538 m 20 (fun q => absurd (((tm).symm.trans (congrArg ty q.1)).trans tc534) (by decide))).trans s528
                                have s549 := (fh538 m 4 (fun q => absurd (((tm).symm.trans (congrArg ty q.1)).trans tc534) (by decide))).trans s529
                                have s550 := (fh538 m 7 (fun q => absurd (((tm).symm.trans (congrArg ty q.1)).trans tc534) (by decide))).trans efq519_0
                                have s551 := (fh538 m 25 (fun q => absurd (((tm).symm.trans (congrArg ty q.1)).trans tc534) (by decide))).trans ec534
                                clear s520 s521 s522 s523 s524 s525 s526 s527 s528 s529 pr530
                                have pr552 := gEl.set (i := 0) (z := z536) uq tc534 (by decide) eh538 (by omega) (by omega)
                                refine gz_s 4 (pc' := 303) (L' := [some (.ref m), some (.int (zi by2)), some (.int (zi mk)), some (.int (zi bg)), some (.int (zi n)), some (.int (zi zq78)), some (.int (zi zq118)), some (.int (zi z172)), some (.int (zi 0)), some (.int (zi ((p0 + 6) + 0))), some (.int (zi 0))]) (S' := [.int (zi 0), .int (zi 0)]) rfl ?_
                                refine gy_icT (pc' := 341) rfl (by decide) (by decide) (by omega) (by omega) (by first | (simp [zc]; done) | (simp only [zc]; omega)) ?_
                                refine gz_s 1 (pc' := 342) (L' := [some (.ref m), some (.int (zi by2)), some (.int (zi mk)), some (.int (zi bg)), some (.int (zi n)), some (.int (zi zq78)), some (.int (zi zq118)), some (.int (zi z172)), some (.int (zi 0)), some (.int (zi ((p0 + 6) + 0))), some (.int (zi 0))]) (S' := [.ref m]) rfl ?_
                                refine gs_gtr rfl (by decide) rfl sh538.1 tm rfl rfl rfl (fun c553 ec553 tc553 => ?_)
                                refine gz_s 2 (pc' := 348) (L' := [some (.ref m), some (.int (zi by2)), some (.int (zi mk)), some (.int (zi bg)), some (.int (zi n)), some (.int (zi zq78)), some (.int (zi zq118)), some (.int (zi z172)), some (.int (zi 0)), some (.int (zi ((p0 + 6) + 0))), some (.int (zi 0))]) (S' := [.ref m, .int (zi 0), .ref c553]) rfl ?_
                                refine gs_gtk rfl (by decide) rfl sh538.1 tm rfl rfl s549 ?_
                                refine gy_s 3 (pc' := 355) (L' := [some (.ref m), some (.int (zi by2)), some (.int (zi mk)), some (.int (zi bg)), some (.int (zi n)), some (.int (zi zq78)), some (.int (zi zq118)), some (.int (zi z172)), some (.int (zi 0)), some (.int (zi ((p0 + 6) + 0))), some (.int (zi 0))]) (S' := [.int ((zi ((p0 + 6) + 0)) + (zi 1)), .ref c49, .int (zi 0), .ref c553]) (L2 := [some (.ref m), some (.int (zi by2)), some (.int (zi mk)), some (.int (zi bg)), some (.int (zi n)), some (.int (zi zq78)), some (.int (zi zq118)), some (.int (zi z172)), some (.int (zi 0)), some (.int (zi ((p0 + 6) + 0))), some (.int (zi 0))]) (S2 := [.int (zi (((p0 + 6) + 0) + 1)), .ref c49, .int (zi 0), .ref c553]) rfl (by simp only [zi_add, zi_sub, zi_mul, zi_neg, zi_and1, zi_and7, zi_and15, zi_and31, zi_and255, Int.reduceAdd, Int.reduceMul, Int.reduceSub]) (by simp only [zi_add, zi_sub, zi_mul, zi_neg, zi_and1, zi_and7, zi_and15, zi_and31, zi_and255, Int.reduceAdd, Int.reduceMul, Int.reduceSub]) ?_
                                have hl554 : 2000 ≤ h538.2.2.2.1 c49 ∧ h538.2.2.2.1 c49 ≤ 2000 := gJ.rowl (G := gGG) sh538.1 tc49 rfl
                                refine gs_ald rfl (by decide) sh538.1 tc49 rfl rfl rfl (by decide) (fun _ => rfl) (by omega) (by omega) (fun z555 ez555 az555 bz555 => ?_)
                                refine gz_s 1 (pc' := 358) (L' := [some (.ref m), some (.int (zi by2)), some (.int (zi mk)), some (.int (zi bg)), some (.int (zi n)), some (.int (zi zq78)), some (.int (zi zq118)), some (.int (zi z172)), some (.int (zi 0)), some (.int (zi ((p0 + 6) + 0))), some (.int (zi 0))]) (S' := [.int (zi 16), .int (zi z555), .int (zi 0), .ref c553]) rfl ?_
                                refine gy_div rfl (by decide) (by omega) (by omega) ?_
                                have hl556 : 3 ≤ h538.2.2.2.1 c553 ∧ h538.2.2.2.1 c553 ≤ 3 := gJ.rowl (G := gGG) sh538.1 tc553 rfl
                                refine gs_ast rfl (by decide) sh538 tc553 rfl rfl rfl (by decide) (fun _ => rfl) (by omega) (by omega) (fun _ => (by decide : (12999 : Nat) ∈ ([1007, 1016, 1017, 1018, 1019, 1020, 1021, 1022, 1023, 1024, 11999, 12999, 13999, 14999, 15999, 16999, 17999, 18999, 19999, 23999, 24999] : List Nat))) (by omega) (by omega) (fun h557 sh557 eh557 fh557 => ?_)
                                have pr558 := gEl.pt fh557 tc553 (by decide) pr552
                                have s559 := (fh557 m 5 (fun q => absurd (((tm).symm.trans (congrArg ty q.1)).trans tc553) (by decide))).trans s540
                                have s560 := (fh557 m 6 (fun q => absurd (((tm).symm.trans (congrArg ty q.1)).trans tc553) (by decide))).trans s541
                                have s561 := (fh557 m 3 (fun q => absurd (((tm).symm.trans (congrArg ty q.1)).trans tc553) (by decide))).trans s542
                                have s562 := (fh557 m 16 (fun q => absurd (((tm).symm.trans (congrArg ty q.1)).trans tc553) (by decide))).trans s543
                                have s563 := (fh557 m 18 (fun q => absurd (((tm).symm.trans (congrArg ty q.1)).trans tc553) (by decide))).trans s544
                                have s564 := (fh557 m 19 (fun q => absurd (((tm).symm.trans (congrArg ty q.1)).trans tc553) (by decide))).trans s545
                                have s565 := (fh557 m 21 (fun q => absurd (((tm).symm.trans (congrArg ty q.1)).trans tc553) (by decide))).trans s546
                                have s566 := (fh557 m 22 (fun q => absurd (((tm).symm.trans (congrArg ty q.1)).trans tc553) (by decide))).trans s547
                                have s567 := (fh557 m 20 (fun q => absurd (((tm).symm.trans (congrArg ty q.1)).trans tc553) (by decide))).trans s548
                                have s568 := (fh557 m 4 (fun q => absurd (((tm).symm.trans (congrArg ty q.1)).trans tc553) (by decide))).trans s549
                                have s569 := (fh557 m 7 (fun q => absurd (((tm).symm.trans (congrArg ty q.1)).trans tc553) (by decide))).trans s550
                                have s570 := (fh557 m 25 (fun q => absurd (((tm).symm.trans (congrArg ty q.1)).trans tc553) (by decide))).trans s551
                                have s571 := (fh557 m 26 (fun q => absurd (((tm).symm.trans (congrArg ty q.1)).trans tc553) (by decide))).trans ec553
                                clear s540 s541 s542 s543 s544 s545 s546 s547 s548 s549 s550 s551 pr539 pr552
                                have pr572 := gEl.set (i := 0) (z := z555 / 16) uq tc553 (by decide) eh557 (by omega) (by omega)
                                refine gz_s 1 (pc' := 361) (L' := [some (.ref m), some (.int (zi by2)), some (.int (zi mk)), some (.int (zi bg)), some (.int (zi n)), some (.int (zi zq78)), some (.int (zi zq118)), some (.int (zi z172)), some (.int (zi 0)), some (.int (zi ((p0 + 6) + 0))), some (.int (zi 0))]) (S' := [.ref m]) rfl ?_
                                refine gs_gtr rfl (by decide) rfl sh557.1 tm rfl rfl rfl (fun c573 ec573 tc573 => ?_)
                                refine gz_s 2 (pc' := 367) (L' := [some (.ref m), some (.int (zi by2)), some (.int (zi mk)), some (.int (zi bg)), some (.int (zi n)), some (.int (zi zq78)), some (.int (zi zq118)), some (.int (zi z172)), some (.int (zi 0)), some (.int (zi ((p0 + 6) + 0))), some (.int (zi 0))]) (S' := [.ref m, .int (zi 0), .ref c573]) rfl ?_
                                refine gs_gtk rfl (by decide) rfl sh557.1 tm rfl rfl s568 ?_
                                refine gy_s 3 (pc' := 374) (L' := [some (.ref m), some (.int (zi by2)), some (.int (zi mk)), some (.int (zi bg)), some (.int (zi n)), some (.int (zi zq78)), some (.int (zi zq118)), some (.int (zi z172)), some (.int (zi 0)), some (.int (zi ((p0 + 6) + 0))), some (.int (zi 0))]) (S' := [.int ((zi ((p0 + 6) + 0)) + (zi 1)), .ref c49, .int (zi 0), .ref c573]) (L2 := [some (.ref m), some (.int (zi by2)), some (.int (zi mk)), some (.int (zi bg)), some (.int (zi n)), some (.int (zi zq78)), some (.int (zi zq118)), some (.int (zi z172)), some (.int (zi 0)), some (.int (zi ((p0 + 6) + 0))), some (.int (zi 0))]) (S2 := [.int (zi (((p0 + 6) + 0) + 1)), .ref c49, .int (zi 0), .ref c573]) rfl (by simp only [zi_add, zi_sub, zi_mul, zi_neg, zi_and1, zi_and7, zi_and15, zi_and31, zi_and255, Int.reduceAdd, Int.reduceMul, Int.reduceSub]) (by simp only [zi_add, zi_sub, zi_mul, zi_neg, zi_and1, zi_and7, zi_and15, zi_and31, zi_and255, Int.reduceAdd, Int.reduceMul, Int.reduceSub]) ?_
                                have hl574 : 2000 ≤ h557.2.2.2.1 c49 ∧ h557.2.2.2.1 c49 ≤ 2000 := gJ.rowl (G := gGG) sh557.1 tc49 rfl
                                refine gs_ald rfl (by decide) sh557.1 tc49 rfl rfl rfl (by decide) (fun _ => rfl) (by omega) (by omega) (fun z575 ez575 az575 bz575 => ?_)
                                refine gz_s 1 (pc' := 377) (L' := [some (.ref m), some (.int (zi by2)), some (.int (zi mk)), some (.int (zi bg)), some (.int (zi n)), some (.int (zi zq78)), some (.int (zi zq118)), some (.int (zi z172)), some (.int (zi 0)), some (.int (zi ((p0 + 6) + 0))), some (.int (zi 0))]) (S' := [.int (zi 16), .int (zi z575), .int (zi 0), .ref c573]) rfl ?_
                                refine gy_rem rfl (by decide) (by omega) (by omega) ?_
                                have hl576 : 3 ≤ h557.2.2.2.1 c573 ∧ h557.2.2.2.1 c573 ≤ 3 := gJ.rowl (G := gGG) sh557.1 tc573 rfl
                                refine gs_ast rfl (by decide) sh557 tc573 rfl rfl rfl (by decide) (fun _ => rfl) (by omega) (by omega) (fun _ => (by decide : (13999 : Nat) ∈ ([1007, 1016, 1017, 1018, 1019, 1020, 1021, 1022, 1023, 1024, 11999, 12999, 13999, 14999, 15999, 16999, 17999, 18999, 19999, 23999, 24999] : List Nat))) (by omega) (by omega) (fun h577 sh577 eh577 fh577 => ?_)
                                have pr578 := gEl.pt fh577 tc573 (by decide) pr558
                                have pr579 := gEl.pt fh577 tc573 (by decide) pr572
                                have s580 := (fh577 m 5 (fun q => absurd (((tm).symm.trans (congrArg ty q.1)).trans tc573) (by decide))).trans s559
                                have s581 := (fh577 m 6 (fun q => absurd (((tm).symm.trans (congrArg ty q.1)).trans tc573) (by decide))).trans s560
                                have s582 := (fh577 m 3 (fun q => absurd (((tm).symm.trans (congrArg ty q.1)).trans tc573) (by decide))).trans s561
                                have s583 := (fh577 m 16 (fun q => absurd (((tm).symm.trans (congrArg ty q.1)).trans tc573) (by decide))).trans s562
                                have s584 := (fh577 m 18 (fun q => absurd (((tm).symm.trans (congrArg ty q.1)).trans tc573) (by decide))).trans s563
                                have s585 := (fh577 m 19 (fun q => absurd (((tm).symm.trans (congrArg ty q.1)).trans tc573) (by decide))).trans s564
                                have s586 := (fh577 m 21 (fun q => absurd (((tm).symm.trans (congrArg ty q.1)).trans tc573) (by decide))).trans s565
                                have s587 := (fh577 m 22 (fun q => absurd (((tm).symm.trans (congrArg ty q.1)).trans tc573) (by decide))).trans s566
                                have s588 := (fh577 m 20 (fun q => absurd (((tm).symm.trans (congrArg ty q.1)).trans tc573) (by decide))).trans s567
                                have s589 := (fh577 m 4 (fun q => absurd (((tm).symm.trans (congrArg ty q.1)).trans tc573) (by decide))).trans s568
                                have s590 := (fh577 m 7 (fun q => absurd (((tm).symm.trans (congrArg ty q.1)).trans tc573) (by decide))).trans s569
                                have s591 := (fh577 m 25 (fun q => absurd (((tm).symm.trans (congrArg ty q.1)).trans tc573) (by decide))).trans s570
                                have s592 := (fh577 m 26 (fun q => absurd (((tm).symm.trans (congrArg ty q.1)).trans tc573) (by decide))).trans s571
                                have s593 := (fh577 m 27 (fun q => absurd (((tm).symm.trans (congrArg ty q.1)).trans tc573) (by decide))).trans ec573
                                clear s559 s560 s561 s562 s563 s564 s565 s566 s567 s568 s569 s570 s571 pr558 pr572
                                have pr594 := gEl.set (i := 0) (z := z575 % 16) uq tc573 (by decide) eh577 (by omega) (by omega)
                                refine gz_s 2 (pc' := 381) (L' := [some (.ref m), some (.int (zi by2)), some (.int (zi mk)), some (.int (zi bg)), some (.int (zi n)), some (.int (zi zq78)), some (.int (zi zq118)), some (.int (zi z172)), some (.int (zi 0)), some (.int (zi ((p0 + 6) + 0))), some (.int (zi 0))]) (S' := [.ref m, .ref m]) rfl ?_
                                refine gs_gtk rfl (by decide) rfl sh577.1 tm rfl rfl s592 ?_
                                refine gz_s 1 (pc' := 386) (L' := [some (.ref m), some (.int (zi by2)), some (.int (zi mk)), some (.int (zi bg)), some (.int (zi n)), some (.int (zi zq78)), some (.int (zi zq118)), some (.int (zi z172)), some (.int (zi 0)), some (.int (zi ((p0 + 6) + 0))), some (.int (zi 0))]) (S' := [.int (zi 0), .ref c553, .ref m]) rfl ?_
                                have hl595 : 3 ≤ h577.2.2.2.1 c553 ∧ h577.2.2.2.1 c553 ≤ 3 := gJ.rowl (G := gGG) sh577.1 tc553 rfl
                                refine gs_alx rfl (by decide) sh577.1 tc553 rfl rfl rfl (by decide) (fun _ => rfl) (by omega) (by omega) (by decide) pr579 (fun ex596 ax596 bx596 => ?_)
                                refine gz_s 1 (pc' := 388) (L' := [some (.ref m), some (.int (zi by2)), some (.int (zi mk)), some (.int (zi bg)), some (.int (zi n)), some (.int (zi zq78)), some (.int (zi zq118)), some (.int (zi z172)), some (.int (zi 0)), some (.int (zi ((p0 + 6) + 0))), some (.int (zi 0))]) (S' := [.int (zi 1), .int (zi (z555 / 16)), .ref m]) rfl ?_
                                have jn597 : ∀ (jn597v0 : Int), ((0 ≤ jn597v0) ∧ (jn597v0 ≤ 1) ∧ (jn597v0 = 1 → (1 ≤ z555 / 16 ∧ z555 / 16 ≤ 2 ∧ 1 ≤ z575 % 16 ∧ z575 % 16 ≤ 2))) → gz gPP gGG gcn (d + 4) gt165 429 [some (.ref m), some (.int (zi by2)), some (.int (zi mk)), some (.int (zi bg)), some (.int (zi n)), some (.int (zi zq78)), some (.int (zi zq118)), some (.int (zi z172)), some (.int (zi 0)), some (.int (zi ((p0 + 6) + 0))), some (.int (zi 0))] [.int (zi jn597v0), .ref m] h577 (fun q _ => gSs rT 1027 ty [1007, 1016, 1017, 1018, 1019, 1020, 1021, 1022, 1023, 1024, 11999, 12999, 13999, 14999, 15999, 16999, 17999, 18999, 19999, 23999, 24999] h q.2.2 ∧ ∃ f1 ip1 w1 hh1 wd1 hg1 bs1 : Int, gfin gt165 q.1 q.2.1 = some none ∧ q.2.2.2.2.2.2 m 7 = .int (zi f1) ∧ (-1) ≤ f1 ∧ f1 ≤ 4000 ∧ q.2.2.2.2.2.2 m 16 = .int (zi ip1) ∧ 0 ≤ ip1 ∧ ip1 ≤ 1 ∧ q.2.2.2.2.2.2 m 18 = .int (zi w1) ∧ 0 ≤ w1 ∧ w1 ≤ 64 ∧ q.2.2.2.2.2.2 m 19 = .int (zi hh1) ∧ 0 ≤ hh1 ∧ hh1 ≤ 64 ∧ q.2.2.2.2.2.2 m 21 = .int (zi wd1) ∧ 0 ≤ wd1 ∧ wd1 ≤ 2 ∧ q.2.2.2.2.2.2 m 22 = .int (zi hg1) ∧ 0 ≤ hg1 ∧ hg1 ≤ 2 ∧ q.2.2.2.2.2.2 m 20 = .int (zi bs1) ∧ 0 ≤ bs1 ∧ bs1 ≤ 3 ∧ (gPi ty ip1 w1 hh1 wd1 hg1 bs1 q.2.2)) := by
                                  intro jn597v0 jn597d
                                  refine gy_s 3 (pc' := 433) (L' := [some (.ref m), some (.int (zi by2)), some (.int (zi mk)), some (.int (zi bg)), some (.int (zi n)), some (.int (zi zq78)), some (.int (zi zq118)), some (.int (zi z172)), some (.int (zi 0)), some (.int (zi ((p0 + 6) + 0))), some (.int (zi 0))]) (S' := [.int ((zi ((p0 + 6) + 0)) + (zi 1)), .int (zi jn597v0), .ref m]) (L2 := [some (.ref m), some (.int (zi by2)), some (.int (zi mk)), some (.int (zi bg)), some (.int (zi n)), some (.int (zi zq78)), some (.int (zi zq118)), some (.int (zi z172)), some (.int (zi 0)), some (.int (zi ((p0 + 6) + 0))), some (.int (zi 0))]) (S2 := [.int (zi (((p0 + 6) + 0) + 1)), .int (zi jn597v0), .ref m]) rfl (by simp only [zi_add, zi_sub, zi_mul, zi_neg, zi_and1, zi_and7, zi_and15, zi_and31, zi_and255, Int.reduceAdd, Int.reduceMul, Int.reduceSub]) (by simp only [zi_add, zi_sub, zi_mul, zi_neg, zi_and1, zi_and7, zi_and15, zi_and31, zi_and255, Int.reduceAdd, Int.reduceMul, Int.reduceSub]) ?_
                                  refine gz_call rfl (by decide) rfl (by decide) (by decide) (gcal_of rfl rfl rfl (Nat.le_of_ble_eq_true rfl) (gJ.recv (G := gGG) sh577.1 tm rfl rfl)) (mm_must _ sh577.1 m tm jn597v0 (by omega) (((p0 + 6) + 0) + 1) (by omega) fq519_0 s590 (by omega)) (fun q598 _ wq598 => ?_)
                                  obtain ⟨pq598, oq598, hq598⟩ := q598
                                  obtain ⟨xq598, zq598, fq598_0, gq598, aq598, bq598, efq598_0, afq598_0, bfq598_0, uq598_0, uq598_1⟩ := wq598
                                  refine ⟨_, gq598, ?_⟩
                                  show gz gPP gGG gcn _ _ 436 [some (.ref m), some (.int (zi by2)), some (.int (zi mk)), some (.int (zi bg)), some (.int (zi n)), some (.int (zi zq78)), some (.int (zi zq118)), some (.int (zi z172)), some (.int (zi 0)), some (.int (zi ((p0 + 6) + 0))), some (.int (zi 0))] [.int (zi zq598)] hq598 _
                                  have sq598 := gSs.tr sh577 xq598 (by decide)
                                  have s599 := (xq598.2.2.2.2.2 m 5 (by rw [tm]; decide)).trans s580
                                  have s600 := (xq598.2.2.2.2.2 m 6 (by rw [tm]; decide)).trans s581
                                  have s601 := (xq598.2.2.2.2.2 m 3 (by rw [tm]; decide)).trans s582
                                  have s602 := (xq598.2.2.2.2.2 m 16 (by rw [tm]; decide)).trans s583
                                  have s603 := (xq598.2.2.2.2.2 m 18 (by rw [tm]; decide)).trans s584
                                  have s604 := (xq598.2.2.2.2.2 m 19 (by rw [tm]; decide)).trans s585
                                  have s605 := (xq598.2.2.2.2.2 m 21 (by rw [tm]; decide)).trans s586
                                  have s606 := (xq598.2.2.2.2.2 m 22 (by rw [tm]; decide)).trans s587
                                  have s607 := (xq598.2.2.2.2.2 m 20 (by rw [tm]; decide)).trans s588
                                  have s608 := (xq598.2.2.2.2.2 m 4 (by rw [tm]; decide)).trans s589
                                  have s609 := (xq598.2.2.2.2.2 m 25 (by rw [tm]; decide)).trans s591
                                  have s610 := (xq598.2.2.2.2.2 m 26 (by rw [tm]; decide)).trans s592
                                  have s611 := (xq598.2.2.2.2.2 m 27 (by rw [tm]; decide)).trans s593
                                  have pr612 := gEl.fr xq598.2 (by decide) (fun _ => rfl) pr578
                                  have pr613 := gEl.fr xq598.2 (by decide) (fun _ => rfl) pr579
                                  have pr614 := gEl.fr xq598.2 (by decide) (fun _ => rfl) pr594
                                  clear s580 s581 s582 s583 s584 s585 s586 s587 s588 s589 s590 s591 s592 s593 pr578 pr579 pr594
                                  refine gz_s 2 (pc' := 438) (L' := [some (.ref m), some (.int (zi by2)), some (.int (zi mk)), some (.int (zi bg)), some (.int (zi n)), some (.int (zi zq78)), some (.int (zi zq118)), some (.int (zi z172)), some (.int (zi 0)), some (.int (zi ((p0 + 6) + 0))), some (.int (zi 0))]) (S' := [.ref m]) rfl ?_
                                  refine gs_gtr rfl (by decide) rfl sq598.1 tm rfl rfl rfl (fun c615 ec615 tc615 => ?_)
                                  refine gz_s 2 (pc' := 444) (L' := [some (.ref m), some (.int (zi by2)), some (.int (zi mk)), some (.int (zi bg)), some (.int (zi n)), some (.int (zi zq78)), some (.int (zi zq118)), some (.int (zi z172)), some (.int (zi 0)), some (.int (zi ((p0 + 6) + 0))), some (.int (zi 0))]) (S' := [.ref m, .int (zi 0), .ref c615]) rfl ?_
                                  refine gs_gtk rfl (by decide) rfl sq598.1 tm rfl rfl s608 ?_
                                  refine gy_s 3 (pc' := 451) (L' := [some (.ref m), some (.int (zi by2)), some (.int (zi mk)), some (.int (zi bg)), some (.int (zi n)), some (.int (zi zq78)), some (.int (zi zq118)), some (.int (zi z172)), some (.int (zi 0)), some (.int (zi ((p0 + 6) + 0))), some (.int (zi 0))]) (S' := [.int ((zi ((p0 + 6) + 0)) + (zi 2)), .ref c49, .int (zi 0), .ref c615]) (L2 := [some (.ref m), some (.int (zi by2)), some (.int (zi mk)), some (.int (zi bg)), some (.int (zi n)), some (.int (zi zq78)), some (.int (zi zq118)), some (.int (zi z172)), some (.int (zi 0)), some (.int (zi ((p0 + 6) + 0))), some (.int (zi 0))]) (S2 := [.int (zi (((p0 + 6) + 0) + 2)), .ref c49, .int (zi 0), .ref c615]) rfl (by simp only [zi_add, zi_sub, zi_mul, zi_neg, zi_and1, zi_and7, zi_and15, zi_and31, zi_and255, Int.reduceAdd, Int.reduceMul, Int.reduceSub]) (by simp only [zi_add, zi_sub, zi_mul, zi_neg, zi_and1, zi_and7, zi_and15, zi_and31, zi_and255, Int.reduceAdd, Int.reduceMul, Int.reduceSub]) ?_
                                  have hl616 : 2000 ≤ hq598.2.2.2.1 c49 ∧ hq598.2.2.2.1 c49 ≤ 2000 := gJ.rowl (G := gGG) sq598.1 tc49 rfl
                                  refine gs_ald rfl (by decide) sq598.1 tc49 rfl rfl rfl (by decide) (fun _ => rfl) (by omega) (by omega) (fun z617 ez617 az617 bz617 => ?_)
                                  have hl618 : 3 ≤ hq598.2.2.2.1 c615 ∧ hq598.2.2.2.1 c615 ≤ 3 := gJ.rowl (G := gGG) sq598.1 tc615 rfl
                                  refine gs_ast rfl (by decide) sq598 tc615 rfl rfl rfl (by decide) (fun _ => rfl) (by omega) (by omega) (fun _ => (by decide : (14999 : Nat) ∈ ([1007, 1016, 1017, 1018, 1019, 1020, 1021, 1022, 1023, 1024, 11999, 12999, 13999, 14999, 15999, 16999, 17999, 18999, 19999, 23999, 24999] : List Nat))) (by omega) (by omega) (fun h619 sh619 eh619 fh619 => ?_)
                                  have pr620 := gEl.pt fh619 tc615 (by decide) pr612
                                  have pr621 := gEl.pt fh619 tc615 (by decide) pr613
                                  have pr622 := gEl.pt fh619 tc615 (by decide) pr614
                                  have s623 := (fh619 m 5 (fun q => absurd (((tm).symm.trans (congrArg ty q.1)).trans tc615) (by decide))).trans s599
                                  have s624 := (fh619 m 6 (fun q => absurd (((tm).symm.trans (congrArg ty q.1)).trans tc615) (by decide))).trans s600
                                  have s625 := (fh619 m 3 (fun q => absurd (((tm).symm.trans (congrArg ty q.1)).trans tc615) (by decide))).trans s601
                                  have s626 := (fh619 m 16 (fun q => absurd (((tm).symm.trans (congrArg ty q.1)).trans tc615) (by decide))).trans s602
                                  have s627 := (fh619 m 18 (fun q => absurd (((tm).symm.trans (congrArg ty q.1)).trans tc615) (by decide))).trans s603
                                  have s628 := (fh619 m 19 (fun q => absurd (((tm).symm.trans (congrArg ty q.1)).trans tc615) (by decide))).trans s604
                                  have s629 := (fh619 m 21 (fun q => absurd (((tm).symm.trans (congrArg ty q.1)).trans tc615) (by decide))).trans s605
                                  have s630 := (fh619 m 22 (fun q => absurd (((tm).symm.trans (congrArg ty q.1)).trans tc615) (by decide))).trans s606
                                  have s631 := (fh619 m 20 (fun q => absurd (((tm).symm.trans (congrArg ty q.1)).trans tc615) (by decide))).trans s607
                                  have s632 := (fh619 m 4 (fun q => absurd (((tm).symm.trans (congrArg ty q.1)).trans tc615) (by decide))).trans s608
                                  have s633 := (fh619 m 25 (fun q => absurd (((tm).symm.trans (congrArg ty q.1)).trans tc615) (by decide))).trans s609
                                  have s634 := (fh619 m 26 (fun q => absurd (((tm).symm.trans (congrArg ty q.1)).trans tc615) (by decide))).trans s610
                                  have s635 := (fh619 m 27 (fun q => absurd (((tm).symm.trans (congrArg ty q.1)).trans tc615) (by decide))).trans s611
                                  have s636 := (fh619 m 7 (fun q => absurd (((tm).symm.trans (congrArg ty q.1)).trans tc615) (by decide))).trans efq598_0
                                  have s637 := (fh619 m 28 (fun q => absurd (((tm).symm.trans (congrArg ty q.1)).trans tc615) (by decide))).trans ec615
                                  clear s599 s600 s601 s602 s603 s604 s605 s606 s607 s608 s609 s610 s611 pr612 pr613 pr614
                                  have pr638 := gEl.set (i := 0) (z := z617) uq tc615 (by decide) eh619 (by omega) (by omega)
                                  refine gz_s 2 (pc' := 455) (L' := [some (.ref m), some (.int (zi by2)), some (.int (zi mk)), some (.int (zi bg)), some (.int (zi n)), some (.int (zi zq78)), some (.int (zi zq118)), some (.int (zi z172)), some (.int (zi 0)), some (.int (zi ((p0 + 6) + 0))), some (.int (zi 0))]) (S' := [.ref m, .ref m]) rfl ?_
                                  refine gs_gtk rfl (by decide) rfl sh619.1 tm rfl rfl s637 ?_
                                  refine gz_s 1 (pc' := 460) (L' := [some (.ref m), some (.int (zi by2)), some (.int (zi mk)), some (.int (zi bg)), some (.int (zi n)), some (.int (zi zq78)), some (.int (zi zq118)), some (.int (zi z172)), some (.int (zi 0)), some (.int (zi ((p0 + 6) + 0))), some (.int (zi 0))]) (S' := [.int (zi 0), .ref c615, .ref m]) rfl ?_
                                  have hl639 : 3 ≤ h619.2.2.2.1 c615 ∧ h619.2.2.2.1 c615 ≤ 3 := gJ.rowl (G := gGG) sh619.1 tc615 rfl
                                  refine gs_alx rfl (by decide) sh619.1 tc615 rfl rfl rfl (by decide) (fun _ => rfl) (by omega) (by omega) (by decide) pr638 (fun ex640 ax640 bx640 => ?_)
                                  refine gz_s 1 (pc' := 462) (L' := [some (.ref m), some (.int (zi by2)), some (.int (zi mk)), some (.int (zi bg)), some (.int (zi n)), some (.int (zi zq78)), some (.int (zi zq118)), some (.int (zi z172)), some (.int (zi 0)), some (.int (zi ((p0 + 6) + 0))), some (.int (zi 0))]) (S' := [.int (zi 4), .int (zi z617), .ref m]) rfl ?_
                                  have jn641 : ∀ (jn641v0 : Int), ((0 ≤ jn641v0) ∧ (jn641v0 ≤ 1) ∧ (jn641v0 = 1 → z617 ≤ 3)) → gz gPP gGG gcn (d + 4) gt165 470 [some (.ref m), some (.int (zi by2)), some (.int (zi mk)), some (.int (zi bg)), some (.int (zi n)), some (.int (zi zq78)), some (.int (zi zq118)), some (.int (zi z172)), some (.int (zi 0)), some (.int (zi ((p0 + 6) + 0))), some (.int (zi 0))] [.int (zi jn641v0), .ref m] h619 (fun q _ => gSs rT 1027 ty [1007, 1016, 1017, 1018, 1019, 1020, 1021, 1022, 1023, 1024, 11999, 12999, 13999, 14999, 15999, 16999, 17999, 18999, 19999, 23999, 24999] h q.2.2 ∧ ∃ f1 ip1 w1 hh1 wd1 hg1 bs1 : Int, gfin gt165 q.1 q.2.1 = some none ∧ q.2.2.2.2.2.2 m 7 = .int (zi f1) ∧ (-1) ≤ f1 ∧ f1 ≤ 4000 ∧ q.2.2.2.2.2.2 m 16 = .int (zi ip1) ∧ 0 ≤ ip1 ∧ ip1 ≤ 1 ∧ q.2.2.2.2.2.2 m 18 = .int (zi w1) ∧ 0 ≤ w1 ∧ w1 ≤ 64 ∧ q.2.2.2.2.2.2 m 19 = .int (zi hh1) ∧ 0 ≤ hh1 ∧ hh1 ≤ 64 ∧ q.2.2.2.2.2.2 m 21 = .int (zi wd1) ∧ 0 ≤ wd1 ∧ wd1 ≤ 2 ∧ q.2.2.2.2.2.2 m 22 = .int (zi hg1) ∧ 0 ≤ hg1 ∧ hg1 ≤ 2 ∧ q.2.2.2.2.2.2 m 20 = .int (zi bs1) ∧ 0 ≤ bs1 ∧ bs1 ≤ 3 ∧ (gPi ty ip1 w1 hh1 wd1 hg1 bs1 q.2.2)) := by
                                    intro jn641v0 jn641d
                                    refine gy_s 3 (pc' := 474) (L' := [some (.ref m), some (.int (zi by2)), some (.int (zi mk)), some (.int (zi bg)), some (.int (zi n)), some (.int (zi zq78)), some (.int (zi zq118)), some (.int (zi z172)), some (.int (zi 0)), some (.int (zi ((p0 + 6) + 0))), some (.int (zi 0))]) (S' := [.int ((zi ((p0 + 6) + 0)) + (zi 2)), .int (zi jn641v0), .ref m]) (L2 := [some (.ref m), some (.int (zi by2)), some (.int (zi mk)), some (.int (zi bg)), some (.int (zi n)), some (.int (zi zq78)), some (.int (zi zq118)), some (.int (zi z172)), some (.int (zi 0)), some (.int (zi ((p0 + 6) + 0))), some (.int (zi 0))]) (S2 := [.int (zi (((p0 + 6) + 0) + 2)), .int (zi jn641v0), .ref m]) rfl (by simp only [zi_add, zi_sub, zi_mul, zi_neg, zi_and1, zi_and7, zi_and15, zi_and31, zi_and255, Int.reduceAdd, Int.reduceMul, Int.reduceSub]) (by simp only [zi_add, zi_sub, zi_mul, zi_neg, zi_and1, zi_and7, zi_and15, zi_and31, zi_and255, Int.reduceAdd, Int.reduceMul, Int.reduceSub]) ?_
                                    refine gz_call rfl (by decide) rfl (by decide) (by decide) (gcal_of rfl rfl rfl (Nat.le_of_ble_eq_true rfl) (gJ.recv (G := gGG) sh619.1 tm rfl rfl)) (mm_must _ sh619.1 m tm jn641v0 (by omega) (((p0 + 6) + 0) + 2) (by omega) fq598_0 s636 (by omega)) (fun q642 _ wq642 => ?_)
                                    obtain ⟨pq642, oq642, hq642⟩ := q642
                                    obtain ⟨xq642, zq642, fq642_0, gq642, aq642, bq642, efq642_0, afq642_0, bfq642_0, uq642_0, uq642_1⟩ := wq642
                                    refine ⟨_, gq642, ?_⟩
                                    show gz gPP gGG gcn _ _ 477 [some (.ref m), some (.int (zi by2)), some (.int (zi mk)), some (.int (zi bg)), some (.int (zi n)), some (.int (zi zq78)), some (.int (zi zq118)), some (.int (zi z172)), some (.int (zi 0)), some (.int (zi ((p0 + 6) + 0))), some (.int (zi 0))] [.int (zi zq642)] hq642 _
                                    have sq642 := gSs.tr sh619 xq642 (by decide)
                                    have s643 := (xq642.2.2.2.2.2 m 5 (by rw [tm]; decide)).trans s623
                                    have s644 := (xq642.2.2.2.2.2 m 6 (by rw [tm]; decide)).trans s624
                                    have s645 := (xq642.2.2.2.2.2 m 3 (by rw [tm]; decide)).trans s625
                                    have s646 := (xq642.2.2.2.2.2 m 16 (by rw [tm]; decide)).trans s626
                                    have s647 := (xq642.2.2.2.2.2 m 18 (by rw [tm]; decide)).trans s627
                                    have s648 := (xq642.2.2.2.2.2 m 19 (by rw [tm]; decide)).trans s628
                                    have s649 := (xq642.2.2.2.2.2 m 21 (by rw [tm]; decide)).trans s629
                                    have s650 := (xq642.2.2.2.2.2 m 22 (by rw [tm]; decide)).trans s630
                                    have s651 := (xq642.2.2.2.2.2 m 20 (by rw [tm]; decide)).trans s631
                                    have s652 := (xq642.2.2.2.2.2 m 4 (by rw [tm]; decide)).trans s632
                                    have s653 := (xq642.2.2.2.2.2 m 25 (by rw [tm]; decide)).trans s633
                                    have s654 := (xq642.2.2.2.2.2 m 26 (by rw [tm]; decide)).trans s634
                                    have s655 := (xq642.2.2.2.2.2 m 27 (by rw [tm]; decide)).trans s635
                                    have s656 := (xq642.2.2.2.2.2 m 28 (by rw [tm]; decide)).trans s637
                                    have pr657 := gEl.fr xq642.2 (by decide) (fun _ => rfl) pr620
                                    have pr658 := gEl.fr xq642.2 (by decide) (fun _ => rfl) pr621
                                    have pr659 := gEl.fr xq642.2 (by decide) (fun _ => rfl) pr622
                                    have pr660 := gEl.fr xq642.2 (by decide) (fun _ => rfl) pr638
                                    clear s623 s624 s625 s626 s627 s628 s629 s630 s631 s632 s633 s634 s635 s636 s637 pr620 pr621 pr622 pr638
                                    refine gy_s 5 (pc' := 257) (L' := [some (.ref m), some (.int (zi by2)), some (.int (zi mk)), some (.int (zi bg)), some (.int (zi n)), some (.int (zi zq78)), some (.int (zi zq118)), some (.int (zi z172)), some (.int ((zi 0) + zi 1)), some (.int (zi ((p0 + 6) + 0))), some (.int (zi 0))]) (S' := [.int (zi z172), .int ((zi 0) + zi 1)]) (L2 := [some (.ref m), some (.int (zi by2)), some (.int (zi mk)), some (.int (zi bg)), some (.int (zi n)), some (.int (zi zq78)), some (.int (zi zq118)), some (.int (zi z172)), some (.int (zi 1)), some (.int (zi ((p0 + 6) + 0))), some (.int (zi 0))]) (S2 := [.int (zi z172), .int (zi 1)]) rfl (by simp only [zi_add, zi_sub, zi_mul, zi_neg, zi_and1, zi_and7, zi_and15, zi_and31, zi_and255, Int.reduceAdd, Int.reduceMul, Int.reduceSub]) (by simp only [zi_add, zi_sub, zi_mul, zi_neg, zi_and1, zi_and7, zi_and15, zi_and31, zi_and255, Int.reduceAdd, Int.reduceMul, Int.reduceSub]) ?_
                                    refine gy_icF rfl (by decide) (by decide) (by omega) (by omega) (by first | (simp [zc]; done) | (simp only [zc]; omega)) ?_
                                    refine gz_s 1 (pc' := 261) (L' := [some (.ref m), some (.int (zi by2)), some (.int (zi mk)), some (.int (zi bg)), some (.int (zi n)), some (.int (zi zq78)), some (.int (zi zq118)), some (.int (zi z172)), some (.int (zi 1)), some (.int (zi ((p0 + 6) + 0))), some (.int (zi 0))]) (S' := [.ref m]) rfl ?_
                                    refine gs_gtk rfl (by decide) rfl sq642.1 tm rfl rfl efq642_0 ?_
                                    refine gz_s 1 (pc' := 265) (L' := [some (.ref m), some (.int (zi by2)), some (.int (zi mk)), some (.int (zi bg)), some (.int (zi n)), some (.int (zi zq78)), some (.int (zi zq118)), some (.int (zi z172)), some (.int (zi 1)), some (.int (zi ((p0 + 6) + 0))), some (.int (zi 0))]) (S' := [.int (zi (-1)), .int (zi fq642_0)]) rfl ?_
                                    by_cases hc661 : ¬ (fq642_0 : Int) = (-1)
                                    · refine gy_icT (pc' := 484) rfl (by decide) (by decide) (by omega) (by omega) hc661 ?_
                                      refine gz_s 1 (pc' := 485) (L' := [some (.ref m), some (.int (zi by2)), some (.int (zi mk)), some (.int (zi bg)), some (.int (zi n)), some (.int (zi zq78)), some (.int (zi zq118)), some (.int (zi z172)), some (.int (zi 1)), some (.int (zi ((p0 + 6) + 0))), some (.int (zi 0))]) (S' := [.ref m]) rfl ?_
                                      refine gs_gtk rfl (by decide) rfl sq642.1 tm rfl rfl efq642_0 ?_
                                      refine gz_s 1 (pc' := 489) (L' := [some (.ref m), some (.int (zi by2)), some (.int (zi mk)), some (.int (zi bg)), some (.int (zi n)), some (.int (zi zq78)), some (.int (zi zq118)), some (.int (zi z172)), some (.int (zi 1)), some (.int (zi ((p0 + 6) + 0))), some (.int (zi 0))]) (S' := [.int (zi (-1)), .int (zi fq642_0)]) rfl ?_
                                      refine gy_icF rfl (by decide) (by decide) (by omega) (by omega) (by first | (simp [zc]; done) | (simp only [zc]; omega)) ?_
                                      have hpi662 : gPi ty ip w hh wd hg bs hq642 := fun e => absurd e (by omega)
                                      exact gz_end (I := .return_) (len := 1) rfl (Or.inl rfl) ⟨sq642, fq642_0, ip, w, hh, wd, hg, bs, rfl, efq642_0, (by omega), (by omega), s646, (by omega), (by omega), s647, (by omega), (by omega), s648, (by omega), (by omega), s649, (by omega), (by omega), s650, (by omega), (by omega), s651, (by omega), (by omega), hpi662⟩
                                    · refine gy_icF rfl (by decide) (by decide) (by omega) (by omega) hc661 ?_
                                      refine gz_s 1 (pc' := 269) (L' := [some (.ref m), some (.int (zi by2)), some (.int (zi mk)), some (.int (zi bg)), some (.int (zi n)), some (.int (zi zq78)), some (.int (zi zq118)), some (.int (zi z172)), some (.int (zi 1)), some (.int (zi ((p0 + 6) + 0))), some (.int (zi 0))]) (S' := [.ref m]) rfl ?_
                                      refine gs_gtk rfl (by decide) rfl sq642.1 tm rfl rfl s643 ?_
                                      refine gy_s 8 (pc' := 283) (L' := [some (.ref m), some (.int (zi by2)), some (.int (zi mk)), some (.int (zi bg)), some (.int (zi n)), some (.int (zi zq78)), some (.int (zi zq118)), some (.int (zi z172)), some (.int (zi 1)), some (.int (((zi p0) + (zi 6)) + ((zi 3) * (zi 1)))), some (.int (zi 0))]) (S' := [.ref m]) (L2 := [some (.ref m), some (.int (zi by2)), some (.int (zi mk)), some (.int (zi bg)), some (.int (zi n)), some (.int (zi zq78)), some (.int (zi zq118)), some (.int (zi z172)), some (.int (zi 1)), some (.int (zi ((p0 + 6) + 3))), some (.int (zi 0))]) (S2 := [.ref m]) rfl (by simp only [zi_add, zi_sub, zi_mul, zi_neg, zi_and1, zi_and7, zi_and15, zi_and31, zi_and255, Int.reduceAdd, Int.reduceMul, Int.reduceSub]) (by simp only [zi_add, zi_sub, zi_mul, zi_neg, zi_and1, zi_and7, zi_and15, zi_and31, zi_and255, Int.reduceAdd, Int.reduceMul, Int.reduceSub]) ?_
                                      refine gs_gtk rfl (by decide) rfl sq642.1 tm rfl rfl s653 ?_
                                      refine gz_s 2 (pc' := 289) (L' := [some (.ref m), some (.int (zi by2)), some (.int (zi mk)), some (.int (zi bg)), some (.int (zi n)), some (.int (zi zq78)), some (.int (zi zq118)), some (.int (zi z172)), some (.int (zi 1)), some (.int (zi ((p0 + 6) + 3))), some (.int (zi 0))]) (S' := [.ref m, .int (zi 1), .ref c534]) rfl ?_
                                      refine gs_gtk rfl (by decide) rfl sq642.1 tm rfl rfl s652 ?_
                                      refine gz_s 1 (pc' := 294) (L' := [some (.ref m), some (.int (zi by2)), some (.int (zi mk)), some (.int (zi bg)), some (.int (zi n)), some (.int (zi zq78)), some (.int (zi zq118)), some (.int (zi z172)), some (.int (zi 1)), some (.int (zi ((p0 + 6) + 3))), some (.int (zi 0))]) (S' := [.int (zi ((p0 + 6) + 3)), .ref c49, .int (zi 1), .ref c534]) rfl ?_
                                      have hl663 : 2000 ≤ hq642.2.2.2.1 c49 ∧ hq642.2.2.2.1 c49 ≤ 2000 := gJ.rowl (G := gGG) sq642.1 tc49 rfl
                                      refine gs_ald rfl (by decide) sq642.1 tc49 rfl rfl rfl (by decide) (fun _ => rfl) (by omega) (by omega) (fun z664 ez664 az664 bz664 => ?_)
                                      have hl665 : 3 ≤ hq642.2.2.2.1 c534 ∧ hq642.2.2.2.1 c534 ≤ 3 := gJ.rowl (G := gGG) sq642.1 tc534 rfl
                                      refine gs_ast rfl (by decide) sq642 tc534 rfl rfl rfl (by decide) (fun _ => rfl) (by omega) (by omega) (fun _ => (by decide : (11999 : Nat) ∈ ([1007, 1016, 1017, 1018, 1019, 1020, 1021, 1022, 1023, 1024, 11999, 12999, 13999, 14999, 15999, 16999, 17999, 18999, 19999, 23999, 24999] : List Nat))) (by omega) (by omega) (fun h666 sh666 eh666 fh666 => ?_)
                                      have pr667 := gEl.ot fh666 pr657 (i := 1) (by omega)
                                      have pr668 := gEl.pt fh666 tc534 (by decide) pr658
                                      have pr669 := gEl.pt fh666 tc534 (by decide) pr659
                                      have pr670 := gEl.pt fh666 tc534 (by decide) pr660
                                      have s671 := (fh666 m 5 (fun q => absurd (((tm).symm.trans (congrArg ty q.1)).trans tc534) (by decide))).trans s643
                                      have s672 := (fh666 m 6 (fun q => absurd (((tm).symm.trans (congrArg ty q.1)).trans tc534) (by decide))).trans s644
                                      have s673 := (fh666 m 3 (fun q => absurd (((tm).symm.trans (congrArg ty q.1)).trans tc534) (by decide))).trans s645
                                      have s674 := (fh666 m 16 (fun q => absurd (((tm).symm.trans (congrArg ty q.1)).trans tc534) (by decide))).trans s646
                                      have s675 := (fh666 m 18 (fun q => absurd (((tm).symm.trans (congrArg ty q.1)).trans tc534) (by decide))).trans s647
                                      have s676 := (fh666 m 19 (fun q => absurd (((tm).symm.trans (congrArg ty q.1)).trans tc534) (by decide))).trans s648
                                      have s677 := (fh666 m 21 (fun q => absurd (((tm).symm.trans (congrArg ty q.1)).trans tc534) (by decide))).trans s649
                                      have s678 := (fh666 m 22 (fun q => absurd (((tm).symm.trans (congrArg ty q.1)).trans tc534) (by decide))).trans s650
                                      have s679 := (fh666 m 20 (fun q => absurd (((tm).symm.trans (congrArg ty q.1)).trans tc534) (by decide))).trans s651
                                      have s680 := (fh666 m 4 (fun q => absurd (((tm).symm.trans (congrArg ty q.1)).trans tc534) (by decide))).trans s652
                                      have s681 := (fh666 m 25 (fun q => absurd (((tm).symm.trans (congrArg ty q.1)).trans tc534) (by decide))).trans s653
                                      have s682 := (fh666 m 26 (fun q => absurd (((tm).symm.trans (congrArg ty q.1)).trans tc534) (by decide))).trans s654
                                      have s683 := (fh666 m 27 (fun q => absurd (((tm).symm.trans (congrArg ty q.1)).trans tc534) (by decide))).trans s655
                                      have s684 := (fh666 m 28 (fun q => absurd (((tm).symm.trans (congrArg ty q.1)).trans tc534) (by decide))).trans s656
                                      have s685 := (fh666 m 7 (fun q => absurd (((tm).symm.trans (congrArg ty q.1)).trans tc534) (by decide))).trans efq642_0
                                      clear s643 s644 s645 s646 s647 s648 s649 s650 s651 s652 s653 s654 s655 s656 pr657 pr658 pr659 pr660
                                      have pr686 := gEl.set (i := 1) (z := z664) uq tc534 (by decide) eh666 (by omega) (by omega)
                                      refine gz_s 4 (pc' := 303) (L' := [some (.ref m), some (.int (zi by2)), some (.int (zi mk)), some (.int (zi bg)), some (.int (zi n)), some (.int (zi zq78)), some (.int (zi zq118)), some (.int (zi z172)), some (.int (zi 1)), some (.int (zi ((p0 + 6) + 3))), some (.int (zi 0))]) (S' := [.int (zi 1), .int (zi 0)]) rfl ?_
                                      refine gy_icF rfl (by decide) (by decide) (by omega) (by omega) (by first | (simp [zc]; done) | (simp only [zc]; omega)) ?_
                                      refine gz_s 2 (pc' := 308) (L' := [some (.ref m), some (.int (zi by2)), some (.int (zi mk)), some (.int (zi bg)), some (.int (zi n)), some (.int (zi zq78)), some (.int (zi zq118)), some (.int (zi z172)), some (.int (zi 1)), some (.int (zi ((p0 + 6) + 3))), some (.int (zi 0))]) (S' := [.ref m, .ref m]) rfl ?_
                                      refine gs_gtk rfl (by decide) rfl sh666.1 tm rfl rfl s681 ?_
                                      refine gz_s 1 (pc' := 313) (L' := [some (.ref m), some (.int (zi by2)), some (.int (zi mk)), some (.int (zi bg)), some (.int (zi n)), some (.int (zi zq78)), some (.int (zi zq118)), some (.int (zi z172)), some (.int (zi 1)), some (.int (zi ((p0 + 6) + 3))), some (.int (zi 0))]) (S' := [.int (zi 0), .ref c534, .ref m]) rfl ?_
                                      have hl687 : 3 ≤ h666.2.2.2.1 c534 ∧ h666.2.2.2.1 c534 ≤ 3 := gJ.rowl (G := gGG) sh666.1 tc534 rfl
                                      refine gs_alx rfl (by decide) sh666.1 tc534 rfl rfl rfl (by decide) (fun _ => rfl) (by omega) (by omega) (by decide) pr667 (fun ex688 ax688 bx688 => ?_)
                                      refine gz_s 1 (pc' := 315) (L' := [some (.ref m), some (.int (zi by2)), some (.int (zi mk)), some (.int (zi bg)), some (.int (zi n)), some (.int (zi zq78)), some (.int (zi zq118)), some (.int (zi z172)), some (.int (zi 1)), some (.int (zi ((p0 + 6) + 3))), some (.int (zi 0))]) (S' := [.ref m, .int (zi z536), .ref m]) rfl ?_
                                      refine gs_gtk rfl (by decide) rfl sh666.1 tm rfl rfl s681 ?_
                                      refine gz_s 1 (pc' := 320) (L' := [some (.ref m), some (.int (zi by2)), some (.int (zi mk)), some (.int (zi bg)), some (.int (zi n)), some (.int (zi zq78)), some (.int (zi zq118)), some (.int (zi z172)), some (.int (zi 1)), some (.int (zi ((p0 + 6) + 3))), some (.int (zi 0))]) (S' := [.int (zi 1), .ref c534, .int (zi z536), .ref m]) rfl ?_
                                      have hl689 : 3 ≤ h666.2.2.2.1 c534 ∧ h666.2.2.2.1 c534 ≤ 3 := gJ.rowl (G := gGG) sh666.1 tc534 rfl
                                      refine gs_alx rfl (by decide) sh666.1 tc534 rfl rfl rfl (by decide) (fun _ => rfl) (by omega) (by omega) (by decide) pr686 (fun ex690 ax690 bx690 => ?_)
                                      have jn691 : ∀ (jn691v0 : Int), ((0 ≤ jn691v0) ∧ (jn691v0 ≤ 1)) → gz gPP gGG gcn (d + 4) gt165 329 [some (.ref m), some (.int (zi by2)), some (.int (zi mk)), some (.int (zi bg)), some (.int (zi n)), some (.int (zi zq78)), some (.int (zi zq118)), some (.int (zi z172)), some (.int (zi 1)), some (.int (zi ((p0 + 6) + 3))), some (.int (zi 0))] [.int (zi jn691v0), .ref m] h666 (fun q _ => gSs rT 1027 ty [1007, 1016, 1017, 1018, 1019, 1020, 1021, 1022, 1023, 1024, 11999, 12999, 13999, 14999, 15999, 16999, 17999, 18999, 19999, 23999, 24999] h q.2.2 ∧ ∃ f1 ip1 w1 hh1 wd1 hg1 bs1 : Int, gfin gt165 q.1 q.2.1 = some none ∧ q.2.2.2.2.2.2 m 7 = .int (zi f1) ∧ (-1) ≤ f1 ∧ f1 ≤ 4000 ∧ q.2.2.2.2.2.2 m 16 = .int (zi ip1) ∧ 0 ≤ ip1 ∧ ip1 ≤ 1 ∧ q.2.2.2.2.2.2 m 18 = .int (zi w1) ∧ 0 ≤ w1 ∧ w1 ≤ 64 ∧ q.2.2.2.2.2.2 m 19 = .int (zi hh1) ∧ 0 ≤ hh1 ∧ hh1 ≤ 64 ∧ q.2.2.2.2.2.2 m 21 = .int (zi wd1) ∧ 0 ≤ wd1 ∧ wd1 ≤ 2 ∧ q.2.2.2.2.2.2 m 22 = .int (zi hg1) ∧ 0 ≤ hg1 ∧ hg1 ≤ 2 ∧ q.2.2.2.2.2.2 m 20 = .int (zi bs1) ∧ 0 ≤ bs1 ∧ bs1 ≤ 3 ∧ (gPi ty ip1 w1 hh1 wd1 hg1 bs1 q.2.2)) := by
                                        intro jn691v0 jn691d
                                        refine gz_s 1 (pc' := 331) (L' := [some (.ref m), some (.int (zi by2)), some (.int (zi mk)), some (.int (zi bg)), some (.int (zi n)), some (.int (zi zq78)), some (.int (zi zq118)), some (.int (zi z172)), some (.int (zi 1)), some (.int (zi ((p0 + 6) + 3))), some (.int (zi 0))]) (S' := [.int (zi ((p0 + 6) + 3)), .int (zi jn691v0), .ref m]) rfl ?_
                                        refine gz_call rfl (by decide) rfl (by decide) (by decide) (gcal_of rfl rfl rfl (Nat.le_of_ble_eq_true rfl) (gJ.recv (G := gGG) sh666.1 tm rfl rfl)) (mm_must _ sh666.1 m tm jn691v0 (by omega) ((p0 + 6) + 3) (by omega) fq642_0 s685 (by omega)) (fun q692 _ wq692 => ?_)
                                        obtain ⟨pq692, oq692, hq692⟩ := q692
                                        obtain ⟨xq692, zq692, fq692_0, gq692, aq692, bq692, efq692_0, afq692_0, bfq692_0, uq692_0, uq692_1⟩ := wq692
                                        refine ⟨_, gq692, ?_⟩
                                        show gz gPP gGG gcn _ _ 334 [some (.ref m), some (.int (zi by2)), some (.int (zi mk)), some (.int (zi bg)), some (.int (zi n)), some (.int (zi zq78)), some (.int (zi zq118)), some (.int (zi z172)), some (.int (zi 1)), some (.int (zi ((p0 + 6) + 3))), some (.int (zi 0))] [.int (zi zq692)] hq692 _
                                        have sq692 := gSs.tr sh666 xq692 (by decide)
                                        have s693 := (xq692.2.2.2.2.2 m 5 (by rw [tm]; decide)).trans s671
                                        have s694 := (xq692.2.2.2.2.2 m 6 (by rw [tm]; decide)).trans s672
                                        have s695 := (xq692.2.2.2.2.2 m 3 (by rw [tm]; decide)).trans s673
                                        have s696 := (xq692.2.2.2.2.2 m 16 (by rw [tm]; decide)).trans s674
                                        have s697 := (xq692.2.2.2.2.2 m 18 (by rw [tm]; decide)).trans s675
                                        have s698 := (xq692.2.2.2.2.2 m 19 (by rw [tm]; decide)).trans s676
                                        have s699 := (xq692.2.2.2.2.2 m 21 (by rw [tm]; decide)).trans s677
                                        have s700 := (xq692.2.2.2.2.2 m 22 (by rw [tm]; decide)).trans s678
                                        have s701 := (xq692.2.2.2.2.2 m 20 (by rw [tm]; decide)).trans s679
                                        have s702 := (xq692.2.2.2.2.2 m 4 (by rw [tm]; decide)).trans s680
                                        have s703 := (xq692.2.2.2.2.2 m 25 (by rw [tm]; decide)).trans s681
                                        have s704 := (xq692.2.2.2.2.2 m 26 (by rw [tm]; decide)).trans s682
                                        have s705 := (xq692.2.2.2.2.2 m 27 (by rw [tm]; decide)).trans s683
                                        have s706 := (xq692.2.2.2.2.2 m 28 (by rw [tm]; decide)).trans s684
                                        have pr707 := gEl.fr xq692.2 (by decide) (fun _ => rfl) pr667
                                        have pr708 := gEl.fr xq692.2 (by decide) (fun _ => rfl) pr668
                                        have pr709 := gEl.fr xq692.2 (by decide) (fun _ => rfl) pr669
                                        have pr710 := gEl.fr xq692.2 (by decide) (fun _ => rfl) pr670
                                        have pr711 := gEl.fr xq692.2 (by decide) (fun _ => rfl) pr686
                                        clear s671 s672 s673 s674 s675 s676 s677 s678 s679 s680 s681 s682 s683 s684 s685 pr667 pr668 pr669 pr670 pr686
                                        refine gy_s 5 (pc' := 303) (L' := [some (.ref m), some (.int (zi by2)), some (.int (zi mk)), some (.int (zi bg)), some (.int (zi n)), some (.int (zi zq78)), some (.int (zi zq118)), some (.int (zi z172)), some (.int (zi 1)), some (.int (zi ((p0 + 6) + 3))), some (.int ((zi 0) + zi 1))]) (S' := [.int (zi 1), .int ((zi 0) + zi 1)]) (L2 := [some (.ref m), some (.int (zi by2)), some (.int (zi mk)), some (.int (zi bg)), some (.int (zi n)), some (.int (zi zq78)), some (.int (zi zq118)), some (.int (zi z172)), some (.int (zi 1)), some (.int (zi ((p0 + 6) + 3))), some (.int (zi 1))]) (S2 := [.int (zi 1), .int (zi 1)]) rfl (by simp only [zi_add, zi_sub, zi_mul, zi_neg, zi_and1, zi_and7, zi_and15, zi_and31, zi_and255, Int.reduceAdd, Int.reduceMul, Int.reduceSub]) (by simp only [zi_add, zi_sub, zi_mul, zi_neg, zi_and1, zi_and7, zi_and15, zi_and31, zi_and255, Int.reduceAdd, Int.reduceMul, Int.reduceSub]) ?_
                                        refine gy_icT (pc' := 341) rfl (by decide) (by decide) (by omega) (by omega) (by first | (simp [zc]; done) | (simp only [zc]; omega)) ?_
                                        refine gz_s 1 (pc' := 342) (L' := [some (.ref m), some (.int (zi by2)), some (.int (zi mk)), some (.int (zi bg)), some (.int (zi n)), some (.int (zi zq78)), some (.int (zi zq118)), some (.int (zi z172)), some (.int (zi 1)), some (.int (zi ((p0 + 6) + 3))), some (.int (zi 1))]) (S' := [.ref m]) rfl ?_
                                        refine gs_gtk rfl (by decide) rfl sq692.1 tm rfl rfl s704 ?_
                                        refine gz_s 2 (pc' := 348) (L' := [some (.ref m), some (.int (zi by2)), some (.int (zi mk)), some (.int (zi bg)), some (.int (zi n)), some (.int (zi zq78)), some (.int (zi zq118)), some (.int (zi z172)), some (.int (zi 1)), some (.int (zi ((p0 + 6) + 3))), some (.int (zi 1))]) (S' := [.ref m, .int (zi 1), .ref c553]) rfl ?_
                                        refine gs_gtk rfl (by decide) rfl sq692.1 tm rfl rfl s702 ?_
                                        refine gy_s 3 (pc' := 355) (L' := [some (.ref m), some (.int (zi by2)), some (.int (zi mk)), some (.int (zi bg)), some (.int (zi n)), some (.int (zi zq78)), some (.int (zi zq118)), some (.int (zi z172)), some (.int (zi 1)), some (.int (zi ((p0 + 6) + 3))), some (.int (zi 1))]) (S' := [.int ((zi ((p0 + 6) + 3)) + (zi 1)), .ref c49, .int (zi 1), .ref c553]) (L2 := [some (.ref m), some (.int (zi by2)), some (.int (zi mk)), some (.int (zi bg)), some (.int (zi n)), some (.int (zi zq78)), some (.int (zi zq118)), some (.int (zi z172)), some (.int (zi 1)), some (.int (zi ((p0 + 6) + 3))), some (.int (zi 1))]) (S2 := [.int (zi (((p0 + 6) + 3) + 1)), .ref c49, .int (zi 1), .ref c553]) rfl (by simp only [zi_add, zi_sub, zi_mul, zi_neg, zi_and1, zi_and7, zi_and15, zi_and31, zi_and255, Int.reduceAdd, Int.reduceMul, Int.reduceSub]) (by simp only [zi_add, zi_sub, zi_mul, zi_neg, zi_and1, zi_and7, zi_and15, zi_and31, zi_and255, Int.reduceAdd, Int.reduceMul, Int.reduceSub]) ?_
                                        have hl712 : 2000 ≤ hq692.2.2.2.1 c49 ∧ hq692.2.2.2.1 c49 ≤ 2000 := gJ.rowl (G := gGG) sq692.1 tc49 rfl
                                        refine gs_ald rfl (by decide) sq692.1 tc49 rfl rfl rfl (by decide) (fun _ => rfl) (by omega) (by omega) (fun z713 ez713 az713 bz713 => ?_)
                                        refine gz_s 1 (pc' := 358) (L' := [some (.ref m), some (.int (zi by2)), some (.int (zi mk)), some (.int (zi bg)), some (.int (zi n)), some (.int (zi zq78)), some (.int (zi zq118)), some (.int (zi z172)), some (.int (zi 1)), some (.int (zi ((p0 + 6) + 3))), some (.int (zi 1))]) (S' := [.int (zi 16), .int (zi z713), .int (zi 1), .ref c553]) rfl ?_
                                        refine gy_div rfl (by decide) (by omega) (by omega) ?_
                                        have hl714 : 3 ≤ hq692.2.2.2.1 c553 ∧ hq692.2.2.2.1 c553 ≤ 3 := gJ.rowl (G := gGG) sq692.1 tc553 rfl
                                        refine gs_ast rfl (by decide) sq692 tc553 rfl rfl rfl (by decide) (fun _ => rfl) (by omega) (by omega) (fun _ => (by decide : (12999 : Nat) ∈ ([1007, 1016, 1017, 1018, 1019, 1020, 1021, 1022, 1023, 1024, 11999, 12999, 13999, 14999, 15999, 16999, 17999, 18999, 19999, 23999, 24999] : List Nat))) (by omega) (by omega) (fun h715 sh715 eh715 fh715 => ?_)
                                        have pr716 := gEl.pt fh715 tc553 (by decide) pr707
                                        have pr717 := gEl.ot fh715 pr708 (i := 1) (by omega)
                                        have pr718 := gEl.pt fh715 tc553 (by decide) pr709
                                        have pr719 := gEl.pt fh715 tc553 (by decide) pr710
                                        have pr720 := gEl.pt fh715 tc553 (by decide) pr711
                                        have s721 := (fh715 m 5 (fun q => absurd (((tm).symm.trans (congrArg ty q.1)).trans tc553) (by decide))).trans s693
                                        have s722 := (fh715 m 6 (fun q => absurd (((tm).symm.trans (congrArg ty q.1)).trans tc553) (by decide))).trans s694
                                        have s723 := (fh715 m 3 (fun q => absurd (((tm).symm.trans (congrArg ty q.1)).trans tc553) (by decide))).trans s695
                                        have s724 := (fh715 m 16 (fun q => absurd (((tm).symm.trans (congrArg ty q.1)).trans tc553) (by decide))).trans s696
                                        have s725 := (fh715 m 18 (fun q => absurd (((tm).symm.trans (congrArg ty q.1)).trans tc553) (by decide))).trans s697
                                        have s726 := (fh715 m 19 (fun q => absurd (((tm).symm.trans (congrArg ty q.1)).trans tc553) (by decide))).trans s698
                                        have s727 := (fh715 m 21 (fun q => absurd (((tm).symm.trans (congrArg ty q.1)).trans tc553) (by decide))).trans s699
                                        have s728 := (fh715 m 22 (fun q => absurd (((tm).symm.trans (congrArg ty q.1)).trans tc553) (by decide))).trans s700
                                        have s729 := (fh715 m 20 (fun q => absurd (((tm).symm.trans (congrArg ty q.1)).trans tc553) (by decide))).trans s701
                                        have s730 := (fh715 m 4 (fun q => absurd (((tm).symm.trans (congrArg ty q.1)).trans tc553) (by decide))).trans s702
                                        have s731 := (fh715 m 25 (fun q => absurd (((tm).symm.trans (congrArg ty q.1)).trans tc553) (by decide))).trans s703
                                        have s732 := (fh715 m 26 (fun q => absurd (((tm).symm.trans (congrArg ty q.1)).trans tc553) (by decide))).trans s704
                                        have s733 := (fh715 m 27 (fun q => absurd (((tm).symm.trans (congrArg ty q.1)).trans tc553) (by decide))).trans s705
                                        have s734 := (fh715 m 28 (fun q => absurd (((tm).symm.trans (congrArg ty q.1)).trans tc553) (by decide))).trans s706
                                        have s735 := (fh715 m 7 (fun q => absurd (((tm).symm.trans (congrArg ty q.1)).trans tc553) (by decide))).trans efq692_0
                                        clear s693 s694 s695 s696 s697 s698 s699 s700 s701 s702 s703 s704 s705 s706 pr707 pr708 pr709 pr710 pr711
                                        have pr736 := gEl.set (i := 1) (z := z713 / 16) uq tc553 (by decide) eh715 (by omega) (by omega)
                                        refine gz_s 1 (pc' := 361) (L' := [some (.ref m), some (.int (zi by2)), some (.int (zi mk)), some (.int (zi bg)), some (.int (zi n)), some (.int (zi zq78)), some (.int (zi zq118)), some (.int (zi z172)), some (.int (zi 1)), some (.int (zi ((p0 + 6) + 3))), some (.int (zi 1))]) (S' := [.ref m]) rfl ?_
                                        refine gs_gtk rfl (by decide) rfl sh715.1 tm rfl rfl s733 ?_
                                        refine gz_s 2 (pc' := 367) (L' := [some (.ref m), some (.int (zi by2)), some (.int (zi mk)), some (.int (zi bg)), some (.int (zi n)), some (.int (zi zq78)), some (.int (zi zq118)), some (.int (zi z172)), some (.int (zi 1)), some (.int (zi ((p0 + 6) + 3))), some (.int (zi 1))]) (S' := [.ref m, .int (zi 1), .ref c573]) rfl ?_
                                        refine gs_gtk rfl (by decide) rfl sh715.1 tm rfl rfl s730 ?_
                                        refine gy_s 3 (pc' := 374) (L' := [some (.ref m), some (.int (zi by2)), some (.int (zi mk)), some (.int (zi bg)), some (.int (zi n)), some (.int (zi zq78)), some (.int (zi zq118)), some (.int (zi z172)), some (.int (zi 1)), some (.int (zi ((p0 + 6) + 3))), some (.int (zi 1))]) (S' := [.int ((zi ((p0 + 6) + 3)) + (zi 1)), .ref c49, .int (zi 1), .ref c573]) (L2 := [some (.ref m), some (.int (zi by2)), some (.int (zi mk)), some (.int (zi bg)), some (.int (zi n)), some (.int (zi zq78)), some (.int (zi zq118)), some (.int (zi z172)), some (.int (zi 1)), some (.int (zi ((p0 + 6) + 3))), some (.int (zi 1))]) (S2 := [.int (zi (((p0 + 6) + 3) + 1)), .ref c49, .int (zi 1), .ref c573]) rfl (by simp only [zi_add, zi_sub, zi_mul, zi_neg, zi_and1, zi_and7, zi_and15, zi_and31, zi_and255, Int.reduceAdd, Int.reduceMul, Int.reduceSub]) (by simp only [zi_add, zi_sub, zi_mul, zi_neg, zi_and1, zi_and7, zi_and15, zi_and31, zi_and255, Int.reduceAdd, Int.reduceMul, Int.reduceSub]) ?_
                                        have hl737 : 2000 ≤ h715.2.2.2.1 c49 ∧ h715.2.2.2.1 c49 ≤ 2000 := gJ.rowl (G := gGG) sh715.1 tc49 rfl
                                        refine gs_ald rfl (by decide) sh715.1 tc49 rfl rfl rfl (by decide) (fun _ => rfl) (by omega) (by omega) (fun z738 ez738 az738 bz738 => ?_)
                                        refine gz_s 1 (pc' := 377) (L' := [some (.ref m), some (.int (zi by2)), some (.int (zi mk)), some (.int (zi bg)), some (.int (zi n)), some (.int (zi zq78)), some (.int (zi zq118)), some (.int (zi z172)), some (.int (zi 1)), some (.int (zi ((p0 + 6) + 3))), some (.int (zi 1))]) (S' := [.int (zi 16), .int (zi z738), .int (zi 1), .ref c573]) rfl ?_
                                        refine gy_rem rfl (by decide) (by omega) (by omega) ?_
                                        have hl739 : 3 ≤ h715.2.2.2.1 c573 ∧ h715.2.2.2.1 c573 ≤ 3 := gJ.rowl (G := gGG) sh715.1 tc573 rfl
                                        refine gs_ast rfl (by decide) sh715 tc573 rfl rfl rfl (by decide) (fun _ => rfl) (by omega) (by omega) (fun _ => (by decide : (13999 : Nat) ∈ ([1007, 1016, 1017, 1018, 1019, 1020, 1021, 1022, 1023, 1024, 11999, 12999, 13999, 14999, 15999, 16999, 17999, 18999, 19999, 23999, 24999] : List Nat))) (by omega) (by omega) (fun h740 sh740 eh740 fh740 => ?_)
                                        have pr741 := gEl.pt fh740 tc573 (by decide) pr716
                                        have pr742 := gEl.pt fh740 tc573 (by decide) pr717
                                        have pr743 := gEl.ot fh740 pr718 (i := 1) (by omega)
                                        have pr744 := gEl.pt fh740 tc573 (by decide) pr719
                                        have pr745 := gEl.pt fh740 tc573 (by decide) pr720
                                        have pr746 := gEl.pt fh740 tc573 (by decide) pr736
                                        have s747 := (fh740 m 5 (fun q => absurd (((tm).symm.trans (congrArg ty q.1)).trans tc573) (by decide))).trans s721
                                        have s748 := (fh740 m 6 (fun q => absurd (((tm).symm.trans (congrArg ty q.1)).trans tc573) (by decide))).trans s722
                                        have s749 := (fh740 m 3 (fun q => absurd (((tm).symm.trans (congrArg ty q.1)).trans tc573) (by decide))).trans s723
                                        have s750 := (fh740 m 16 (fun q => absurd (((tm).symm.trans (congrArg ty q.1)).trans tc573) (by decide))).trans s724
                                        have s751 := (fh740 m 18 (fun q => absurd (((tm).symm.trans (congrArg ty q.1)).trans tc573) (by decide))).trans s725
                                        have s752 := (fh740 m 19 (fun q => absurd (((tm).symm.trans (congrArg ty q.1)).trans tc573) (by decide))).trans s726
                                        have s753 := (fh740 m 21 (fun q => absurd (((tm).symm.trans (congrArg ty q.1)).trans tc573) (by decide))).trans s727
                                        have s754 := (fh740 m 22 (fun q => absurd (((tm).symm.trans (congrArg ty q.1)).trans tc573) (by decide))).trans s728
                                        have s755 := (fh740 m 20 (fun q => absurd (((tm).symm.trans (congrArg ty q.1)).trans tc573) (by decide))).trans s729
                                        have s756 := (fh740 m 4 (fun q => absurd (((tm).symm.trans (congrArg ty q.1)).trans tc573) (by decide))).trans s730
                                        have s757 := (fh740 m 25 (fun q => absurd (((tm).symm.trans (congrArg ty q.1)).trans tc573) (by decide))).trans s731
                                        have s758 := (fh740 m 26 (fun q => absurd (((tm).symm.trans (congrArg ty q.1)).trans tc573) (by decide))).trans s732
                                        have s759 := (fh740 m 27 (fun q => absurd (((tm).symm.trans (congrArg ty q.1)).trans tc573) (by decide))).trans s733
                                        have s760 := (fh740 m 28 (fun q => absurd (((tm).symm.trans (congrArg ty q.1)).trans tc573) (by decide))).trans s734
                                        have s761 := (fh740 m 7 (fun q => absurd (((tm).symm.trans (congrArg ty q.1)).trans tc573) (by decide))).trans s735
                                        clear s721 s722 s723 s724 s725 s726 s727 s728 s729 s730 s731 s732 s733 s734 s735 pr716 pr717 pr718 pr719 pr720 pr736
                                        have pr762 := gEl.set (i := 1) (z := z738 % 16) uq tc573 (by decide) eh740 (by omega) (by omega)
                                        refine gz_s 2 (pc' := 381) (L' := [some (.ref m), some (.int (zi by2)), some (.int (zi mk)), some (.int (zi bg)), some (.int (zi n)), some (.int (zi zq78)), some (.int (zi zq118)), some (.int (zi z172)), some (.int (zi 1)), some (.int (zi ((p0 + 6) + 3))), some (.int (zi 1))]) (S' := [.ref m, .ref m]) rfl ?_
                                        refine gs_gtk rfl (by decide) rfl sh740.1 tm rfl rfl s758 ?_
                                        refine gz_s 1 (pc' := 386) (L' := [some (.ref m), some (.int (zi by2)), some (.int (zi mk)), some (.int (zi bg)), some (.int (zi n)), some (.int (zi zq78)), some (.int (zi zq118)), some (.int (zi z172)), some (.int (zi 1)), some (.int (zi ((p0 + 6) + 3))), some (.int (zi 1))]) (S' := [.int (zi 1), .ref c553, .ref m]) rfl ?_
                                        have hl763 : 3 ≤ h740.2.2.2.1 c553 ∧ h740.2.2.2.1 c553 ≤ 3 := gJ.rowl (G := gGG) sh740.1 tc553 rfl
                                        refine gs_alx rfl (by decide) sh740.1 tc553 rfl rfl rfl (by decide) (fun _ => rfl) (by omega) (by omega) (by decide) pr746 (fun ex764 ax764 bx764 => ?_)
                                        refine gz_s 1 (pc' := 388) (L' := [some (.ref m), some (.int (zi by2)), some (.int (zi mk)), some (.int (zi bg)), some (.int (zi n)), some (.int (zi zq78)), some (.int (zi zq118)), some (.int (zi z172)), some (.int (zi 1)), some (.int (zi ((p0 + 6) + 3))), some (.int (zi 1))]) (S' := [.int (zi 1), .int (zi (z713 / 16)), .ref m]) rfl ?_
                                        have jn765 : ∀ (jn765v0 : Int), ((0 ≤ jn765v0) ∧ (jn765v0 ≤ 1) ∧ (jn765v0 = 1 → (1 ≤ z713 / 16 ∧ z713 / 16 ≤ 2 ∧ 1 ≤ z738 % 16 ∧ z738 % 16 ≤ 2))) → gz gPP gGG gcn (d + 4) gt165 429 [some (.ref m), some (.int (zi by2)), some (.int (zi mk)), some (.int (zi bg)), some (.int (zi n)), some (.int (zi zq78)), some (.int (zi zq118)), some (.int (zi z172)), some (.int (zi 1)), some (.int (zi ((p0 + 6) + 3))), some (.int (zi 1))] [.int (zi jn765v0), .ref m] h740 (fun q _ => gSs rT 1027 ty [1007, 1016, 1017, 1018, 1019, 1020, 1021, 1022, 1023, 1024, 11999, 12999, 13999, 14999, 15999, 16999, 17999, 18999, 19999, 23999, 24999] h q.2.2 ∧ ∃ f1 ip1 w1 hh1 wd1 hg1 bs1 : Int, gfin gt165 q.1 q.2.1 = some none ∧ q.2.2.2.2.2.2 m 7 = .int (zi f1) ∧ (-1) ≤ f1 ∧ f1 ≤ 4000 ∧ q.2.2.2.2.2.2 m 16 = .int (zi ip1) ∧ 0 ≤ ip1 ∧ ip1 ≤ 1 ∧ q.2.2.2.2.2.2 m 18 = .int (zi w1) ∧ 0 ≤ w1 ∧ w1 ≤ 64 ∧ q.2.2.2.2.2.2 m 19 = .int (zi hh1) ∧ 0 ≤ hh1 ∧ hh1 ≤ 64 ∧ q.2.2.2.2.2.2 m 21 = .int (zi wd1) ∧ 0 ≤ wd1 ∧ wd1 ≤ 2 ∧ q.2.2.2.2.2.2 m 22 = .int (zi hg1) ∧ 0 ≤ hg1 ∧ hg1 ≤ 2 ∧ q.2.2.2.2.2.2 m 20 = .int (zi bs1) ∧ 0 ≤ bs1 ∧ bs1 ≤ 3 ∧ (gPi ty ip1 w1 hh1 wd1 hg1 bs1 q.2.2)) := by
                                          intro jn765v0 jn765d
                                          refine gy_s 3 (pc' := 433) (L' := [some (.ref m), some (.int (zi by2)), some (.int (zi mk)), some (.int (zi bg)), some (.int (zi n)), some (.int (zi zq78)), some (.int (zi zq118)), some (.int (zi z172)), some (.int (zi 1)), some (.int (zi ((p0 + 6) + 3))), some (.int (zi 1))]) (S' := [.int ((zi ((p0 + 6) + 3)) + (zi 1)), .int (zi jn765v0), .ref m]) (L2 := [some (.ref m), some (.int (zi by2)), some (.int (zi mk)), some (.int (zi bg)), some (.int (zi n)), some (.int (zi zq78)), some (.int (zi zq118)), some (.int (zi z172)), some (.int (zi 1)), some (.int (zi ((p0 + 6) + 3))), some (.int (zi 1))]) (S2 := [.int (zi (((p0 + 6) + 3) + 1)), .int (zi jn765v0), .ref m]) rfl (by simp only [zi_add, zi_sub, zi_mul, zi_neg, zi_and1, zi_and7, zi_and15, zi_and31, zi_and255, Int.reduceAdd, Int.reduceMul, Int.reduceSub]) (by simp only [zi_add, zi_sub, zi_mul, zi_neg, zi_and1, zi_and7, zi_and15, zi_and31, zi_and255, Int.reduceAdd, Int.reduceMul, Int.reduceSub]) ?_
                                          refine gz_call rfl (by decide) rfl (by decide) (by decide) (gcal_of rfl rfl rfl (Nat.le_of_ble_eq_true rfl) (gJ.recv (G := gGG) sh740.1 tm rfl rfl)) (mm_must _ sh740.1 m tm jn765v0 (by omega) (((p0 + 6) + 3) + 1) (by omega) fq692_0 s761 (by omega)) (fun q766 _ wq766 => ?_)
                                          obtain ⟨pq766, oq766, hq766⟩ := q766
                                          obtain ⟨xq766, zq766, fq766_0, gq766, aq766, bq766, efq766_0, afq766_0, bfq766_0, uq766_0, uq766_1⟩ := wq766
                                          refine ⟨_, gq766, ?_⟩
                                          show gz gPP gGG gcn _ _ 436 [some (.ref m), some (.int (zi by2)), some (.int (zi mk)), some (.int (zi bg)), some (.int (zi n)), some (.int (zi zq78)), some (.int (zi zq118)), some (.int (zi z172)), some (.int (zi 1)), some (.int (zi ((p0 + 6) + 3))), some (.int (zi 1))] [.int (zi zq766)] hq766 _
                                          have sq766 := gSs.tr sh740 xq766 (by decide)
                                          have s767 := (xq766.2.2.2.2.2 m 5 (by rw [tm]; decide)).trans s747
                                          have s768 := (xq766.2.2.2.2.2 m 6 (by rw [tm]; decide)).trans s748
                                          have s769 := (xq766.2.2.2.2.2 m 3 (by rw [tm]; decide)).trans s749
                                          have s770 := (xq766.2.2.2.2.2 m 16 (by rw [tm]; decide)).trans s750
                                          have s771 := (xq766.2.2.2.2.2 m 18 (by rw [tm]; decide)).trans s751
                                          have s772 := (xq766.2.2.2.2.2 m 19 (by rw [tm]; decide)).trans s752
                                          have s773 := (xq766.2.2.2.2.2 m 21 (by rw [tm]; decide)).trans s753
                                          have s774 := (xq766.2.2.2.2.2 m 22 (by rw [tm]; decide)).trans s754
                                          have s775 := (xq766.2.2.2.2.2 m 20 (by rw [tm]; decide)).trans s755
                                          have s776 := (xq766.2.2.2.2.2 m 4 (by rw [tm]; decide)).trans s756
                                          have s777 := (xq766.2.2.2.2.2 m 25 (by rw [tm]; decide)).trans s757
                                          have s778 := (xq766.2.2.2.2.2 m 26 (by rw [tm]; decide)).trans s758
                                          have s779 := (xq766.2.2.2.2.2 m 27 (by rw [tm]; decide)).trans s759
                                          have s780 := (xq766.2.2.2.2.2 m 28 (by rw [tm]; decide)).trans s760
                                          have pr781 := gEl.fr xq766.2 (by decide) (fun _ => rfl) pr741
                                          have pr782 := gEl.fr xq766.2 (by decide) (fun _ => rfl) pr742
                                          have pr783 := gEl.fr xq766.2 (by decide) (fun _ => rfl) pr743
                                          have pr784 := gEl.fr xq766.2 (by decide) (fun _ => rfl) pr744
                                          have pr785 := gEl.fr xq766.2 (by decide) (fun _ => rfl) pr745
                                          have pr786 := gEl.fr xq766.2 (by decide) (fun _ => rfl) pr746
                                          have pr787 := gEl.fr xq766.2 (by decide) (fun _ => rfl) pr762
                                          clear s747 s748 s749 s750 s751 s752 s753 s754 s755 s756 s757 s758 s759 s760 s761 pr741 pr742 pr743 pr744 pr745 pr746 pr762
                                          refine gz_s 2 (pc' := 438) (L' := [some (.ref m), some (.int (zi by2)), some (.int (zi mk)), some (.int (zi bg)), some (.int (zi n)), some (.int (zi zq78)), some (.int (zi zq118)), some (.int (zi z172)), some (.int (zi 1)), some (.int (zi ((p0 + 6) + 3))), some (.int (zi 1))]) (S' := [.ref m]) rfl ?_
                                          refine gs_gtk rfl (by decide) rfl sq766.1 tm rfl rfl s780 ?_
                                          refine gz_s 2 (pc' := 444) (L' := [some (.ref m), some (.int (zi by2)), some (.int (zi mk)), some (.int (zi bg)), some (.int (zi n)), some (.int (zi zq78)), some (.int (zi zq118)), some (.int (zi z172)), some (.int (zi 1)), some (.int (zi ((p0 + 6) + 3))), some (.int (zi 1))]) (S' := [.ref m, .int (zi 1), .ref c615]) rfl ?_
                                          refine gs_gtk rfl (by decide) rfl sq766.1 tm rfl rfl s776 ?_
                                          refine gy_s 3 (pc' := 451) (L' := [some (.ref m), some (.int (zi by2)), some (.int (zi mk)), some (.int (zi bg)), some (.int (zi n)), some (.int (zi zq78)), some (.int (zi zq118)), some (.int (zi z172)), some (.int (zi 1)), some (.int (zi ((p0 + 6) + 3))), some (.int (zi 1))]) (S' := [.int ((zi ((p0 + 6) + 3)) + (zi 2)), .ref c49, .int (zi 1), .ref c615]) (L2 := [some (.ref m), some (.int (zi by2)), some (.int (zi mk)), some (.int (zi bg)), some (.int (zi n)), some (.int (zi zq78)), some (.int (zi zq118)), some (.int (zi z172)), some (.int (zi 1)), some (.int (zi ((p0 + 6) + 3))), some (.int (zi 1))]) (S2 := [.int (zi (((p0 + 6) + 3) + 2)), .ref c49, .int (zi 1), .ref c615]) rfl (by simp only [zi_add, zi_sub, zi_mul, zi_neg, zi_and1, zi_and7, zi_and15, zi_and31, zi_and255, Int.reduceAdd, Int.reduceMul, Int.reduceSub]) (by simp only [zi_add, zi_sub, zi_mul, zi_neg, zi_and1, zi_and7, zi_and15, zi_and31, zi_and255, Int.reduceAdd, Int.reduceMul, Int.reduceSub]) ?_
                                          have hl788 : 2000 ≤ hq766.2.2.2.1 c49 ∧ hq766.2.2.2.1 c49 ≤ 2000 := gJ.rowl (G := gGG) sq766.1 tc49 rfl
                                          refine gs_ald rfl (by decide) sq766.1 tc49 rfl rfl rfl (by decide) (fun _ => rfl) (by omega) (by omega) (fun z789 ez789 az789 bz789 => ?_)
                                          have hl790 : 3 ≤ hq766.2.2.2.1 c615 ∧ hq766.2.2.2.1 c615 ≤ 3 := gJ.rowl (G := gGG) sq766.1 tc615 rfl
                                          refine gs_ast rfl (by decide) sq766 tc615 rfl rfl rfl (by decide) (fun _ => rfl) (by omega) (by omega) (fun _ => (by decide : (14999 : Nat) ∈ ([1007, 1016, 1017, 1018, 1019, 1020, 1021, 1022, 1023, 1024, 11999, 12999, 13999, 14999, 15999, 16999, 17999, 18999, 19999, 23999, 24999] : List Nat))) (by omega) (by omega) (fun h791 sh791 eh791 fh791 => ?_)
                                          have pr792 := gEl.pt fh791 tc615 (by decide) pr781
                                          have pr793 := gEl.pt fh791 tc615 (by decide) pr782
                                          have pr794 := gEl.pt fh791 tc615 (by decide) pr783
                                          have pr795 := gEl.ot fh791 pr784 (i := 1) (by omega)
                                          have pr796 := gEl.pt fh791 tc615 (by decide) pr785
                                          have pr797 := gEl.pt fh791 tc615 (by decide) pr786
                                          have pr798 := gEl.pt fh791 tc615 (by decide) pr787
                                          have s799 := (fh791 m 5 (fun q => absurd (((tm).symm.trans (congrArg ty q.1)).trans tc615) (by decide))).trans s767
                                          have s800 := (fh791 m 6 (fun q => absurd (((tm).symm.trans (congrArg ty q.1)).trans tc615) (by decide))).trans s768
                                          have s801 := (fh791 m 3 (fun q => absurd (((tm).symm.trans (congrArg ty q.1)).trans tc615) (by decide))).trans s769
                                          have s802 := (fh791 m 16 (fun q => absurd (((tm).symm.trans (congrArg ty q.1)).trans tc615) (by decide))).trans s770
                                          have s803 := (fh791 m 18 (fun q => absurd (((tm).symm.trans (congrArg ty q.1)).trans tc615) (by decide))).trans s771
                                          have s804 := (fh791 m 19 (fun q => absurd (((tm).symm.trans (congrArg ty q.1)).trans tc615) (by decide))).trans s772
                                          have s805 := (fh791 m 21 (fun q => absurd (((tm).symm.trans (congrArg ty q.1)).trans tc615) (by decide))).trans s773
                                          have s806 := (fh791 m 22 (fun q => absurd (((tm).symm.trans (congrArg ty q.1)).trans tc615) (by decide))).trans s774
                                          have s807 := (fh791 m 20 (fun q => absurd (((tm).symm.trans (congrArg ty q.1)).trans tc615) (by decide))).trans s775
                                          have s808 := (fh791 m 4 (fun q => absurd (((tm).symm.trans (congrArg ty q.1)).trans tc615) (by decide))).trans s776
                                          have s809 := (fh791 m 25 (fun q => absurd (((tm).symm.trans (congrArg ty q.1)).trans tc615) (by decide))).trans s777
                                          have s810 := (fh791 m 26 (fun q => absurd (((tm).symm.trans (congrArg ty q.1)).trans tc615) (by decide))).trans s778
                                          have s811 := (fh791 m 27 (fun q => absurd (((tm).symm.trans (congrArg ty q.1)).trans tc615) (by decide))).trans s779
                                          have s812 := (fh791 m 28 (fun q => absurd (((tm).symm.trans (congrArg ty q.1)).trans tc615) (by decide))).trans s780
                                          have s813 := (fh791 m 7 (fun q => absurd (((tm).symm.trans (congrArg ty q.1)).trans tc615) (by decide))).trans efq766_0
                                          clear s767 s768 s769 s770 s771 s772 s773 s774 s775 s776 s777 s778 s779 s780 pr781 pr782 pr783 pr784 pr785 pr786 pr787
                                          have pr814 := gEl.set (i := 1) (z := z789) uq tc615 (by decide) eh791 (by omega) (by omega)
                                          refine gz_s 2 (pc' := 455) (L' := [some (.ref m), some (.int (zi by2)), some (.int (zi mk)), some (.int (zi bg)), some (.int (zi n)), some (.int (zi zq78)), some (.int (zi zq118)), some (.int (zi z172)), some (.int (zi 1)), some (.int (zi ((p0 + 6) + 3))), some (.int (zi 1))]) (S' := [.ref m, .ref m]) rfl ?_
                                          refine gs_gtk rfl (by decide) rfl sh791.1 tm rfl rfl s812 ?_
                                          refine gz_s 1 (pc' := 460) (L' := [some (.ref m), some (.int (zi by2)), some (.int (zi mk)), some (.int (zi bg)), some (.int (zi n)), some (.int (zi zq78)), some (.int (zi zq118)), some (.int (zi z172)), some (.int (zi 1)), some (.int (zi ((p0 + 6) + 3))), some (.int (zi 1))]) (S' := [.int (zi 1), .ref c615, .ref m]) rfl ?_
                                          have hl815 : 3 ≤ h791.2.2.2.1 c615 ∧ h791.2.2.2.1 c615 ≤ 3 := gJ.rowl (G := gGG) sh791.1 tc615 rfl
                                          refine gs_alx rfl (by decide) sh791.1 tc615 rfl rfl rfl (by decide) (fun _ => rfl) (by omega) (by omega) (by decide) pr814 (fun ex816 ax816 bx816 => ?_)
                                          refine gz_s 1 (pc' := 462) (L' := [some (.ref m), some (.int (zi by2)), some (.int (zi mk)), some (.int (zi bg)), some (.int (zi n)), some (.int (zi zq78)), some (.int (zi zq118)), some (.int (zi z172)), some (.int (zi 1)), some (.int (zi ((p0 + 6) + 3))), some (.int (zi 1))]) (S' := [.int (zi 4), .int (zi z789), .ref m]) rfl ?_
                                          have jn817 : ∀ (jn817v0 : Int), ((0 ≤ jn817v0) ∧ (jn817v0 ≤ 1) ∧ (jn817v0 = 1 → z789 ≤ 3)) → gz gPP gGG gcn (d + 4) gt165 470 [some (.ref m), some (.int (zi by2)), some (.int (zi mk)), some (.int (zi bg)), some (.int (zi n)), some (.int (zi zq78)), some (.int (zi zq118)), some (.int (zi z172)), some (.int (zi 1)), some (.int (zi ((p0 + 6) + 3))), some (.int (zi 1))] [.int (zi jn817v0), .ref m] h791 (fun q _ => gSs rT 1027 ty [1007, 1016, 1017, 1018, 1019, 1020, 1021, 1022, 1023, 1024, 11999, 12999, 13999, 14999, 15999, 16999, 17999, 18999, 19999, 23999, 24999] h q.2.2 ∧ ∃ f1 ip1 w1 hh1 wd1 hg1 bs1 : Int, gfin gt165 q.1 q.2.1 = some none ∧ q.2.2.2.2.2.2 m 7 = .int (zi f1) ∧ (-1) ≤ f1 ∧ f1 ≤ 4000 ∧ q.2.2.2.2.2.2 m 16 = .int (zi ip1) ∧ 0 ≤ ip1 ∧ ip1 ≤ 1 ∧ q.2.2.2.2.2.2 m 18 = .int (zi w1) ∧ 0 ≤ w1 ∧ w1 ≤ 64 ∧ q.2.2.2.2.2.2 m 19 = .int (zi hh1) ∧ 0 ≤ hh1 ∧ hh1 ≤ 64 ∧ q.2.2.2.2.2.2 m 21 = .int (zi wd1) ∧ 0 ≤ wd1 ∧ wd1 ≤ 2 ∧ q.2.2.2.2.2.2 m 22 = .int (zi hg1) ∧ 0 ≤ hg1 ∧ hg1 ≤ 2 ∧ q.2.2.2.2.2.2 m 20 = .int (zi bs1) ∧ 0 ≤ bs1 ∧ bs1 ≤ 3 ∧ (gPi ty ip1 w1 hh1 wd1 hg1 bs1 q.2.2)) := by
                                            intro jn817v0 jn817d
                                            refine gy_s 3 (pc' := 474) (L' := [some (.ref m), some (.int (zi by2)), some (.int (zi mk)), some (.int (zi bg)), some (.int (zi n)), some (.int (zi zq78)), some (.int (zi zq118)), some (.int (zi z172)), some (.int (zi 1)), some (.int (zi ((p0 + 6) + 3))), some (.int (zi 1))]) (S' := [.int ((zi ((p0 + 6) + 3)) + (zi 2)), .int (zi jn817v0), .ref m]) (L2 := [some (.ref m), some (.int (zi by2)), some (.int (zi mk)), some (.int (zi bg)), some (.int (zi n)), some (.int (zi zq78)), some (.int (zi zq118)), some (.int (zi z172)), some (.int (zi 1)), some (.int (zi ((p0 + 6) + 3))), some (.int (zi 1))]) (S2 := [.int (zi (((p0 + 6) + 3) + 2)), .int (zi jn817v0), .ref m]) rfl (by simp only [zi_add, zi_sub, zi_mul, zi_neg, zi_and1, zi_and7, zi_and15, zi_and31, zi_and255, Int.reduceAdd, Int.reduceMul, Int.reduceSub]) (by simp only [zi_add, zi_sub, zi_mul, zi_neg, zi_and1, zi_and7, zi_and15, zi_and31, zi_and255, Int.reduceAdd, Int.reduceMul, Int.reduceSub]) ?_
                                            refine gz_call rfl (by decide) rfl (by decide) (by decide) (gcal_of rfl rfl rfl (Nat.le_of_ble_eq_true rfl) (gJ.recv (G := gGG) sh791.1 tm rfl rfl)) (mm_must _ sh791.1 m tm jn817v0 (by omega) (((p0 + 6) + 3) + 2) (by omega) fq766_0 s813 (by omega)) (fun q818 _ wq818 => ?_)
                                            obtain ⟨pq818, oq818, hq818⟩ := q818
                                            obtain ⟨xq818, zq818, fq818_0, gq818, aq818, bq818, efq818_0, afq818_0, bfq818_0, uq818_0, uq818_1⟩ := wq818
                                            refine ⟨_, gq818, ?_⟩
                                            show gz gPP gGG gcn _ _ 477 [some (.ref m), some (.int (zi by2)), some (.int (zi mk)), some (.int (zi bg)), some (.int (zi n)), some (.int (zi zq78)), some (.int (zi zq118)), some (.int (zi z172)), some (.int (zi 1)), some (.int (zi ((p0 + 6) + 3))), some (.int (zi 1))] [.int (zi zq818)] hq818 _
                                            have sq818 := gSs.tr sh791 xq818 (by decide)
                                            have s819 := (xq818.2.2.2.2.2 m 5 (by rw [tm]; decide)).trans s799
                                            have s820 := (xq818.2.2.2.2.2 m 6 (by rw [tm]; decide)).trans s800
                                            have s821 := (xq818.2.2.2.2.2 m 3 (by rw [tm]; decide)).trans s801
                                            have s822 := (xq818.2.2.2.2.2 m 16 (by rw [tm]; decide)).trans s802
                                            have s823 := (xq818.2.2.2.2.2 m 18 (by rw [tm]; decide)).trans s803
                                            have s824 := (xq818.2.2.2.2.2 m 19 (by rw [tm]; decide)).trans s804
                                            have s825 := (xq818.2.2.2.2.2 m 21 (by rw [tm]; decide)).trans s805
                                            have s826 := (xq818.2.2.2.2.2 m 22 (by rw [tm]; decide)).trans s806
                                            have s827 := (xq818.2.2.2.2.2 m 20 (by rw [tm]; decide)).trans s807
                                            have s828 := (xq818.2.2.2.2.2 m 4 (by rw [tm]; decide)).trans s808
                                            have s829 := (xq818.2.2.2.2.2 m 25 (by rw [tm]; decide)).trans s809
                                            have s830 := (xq818.2.2.2.2.2 m 26 (by rw [tm]; decide)).trans s810
                                            have s831 := (xq818.2.2.2.2.2 m 27 (by rw [tm]; decide)).trans s811
                                            have s832 := (xq818.2.2.2.2.2 m 28 (by rw [tm]; decide)).trans s812
                                            have pr833 := gEl.fr xq818.2 (by decide) (fun _ => rfl) pr792
                                            have pr834 := gEl.fr xq818.2 (by decide) (fun _ => rfl) pr793
                                            have pr835 := gEl.fr xq818.2 (by decide) (fun _ => rfl) pr794
                                            have pr836 := gEl.fr xq818.2 (by decide) (fun _ => rfl) pr795
                                            have pr837 := gEl.fr xq818.2 (by decide) (fun _ => rfl) pr796
                                            have pr838 := gEl.fr xq818.2 (by decide) (fun _ => rfl) pr797
                                            have pr839 := gEl.fr xq818.2 (by decide) (fun _ => rfl) pr798
                                            have pr840 := gEl.fr xq818.2 (by decide) (fun _ => rfl) pr814
                                            clear s799 s800 s801 s802 s803 s804 s805 s806 s807 s808 s809 s810 s811 s812 s813 pr792 pr793 pr794 pr795 pr796 pr797 pr798 pr814
                                            refine gy_s 5 (pc' := 257) (L' := [some (.ref m), some (.int (zi by2)), some (.int (zi mk)), some (.int (zi bg)), some (.int (zi n)), some (.int (zi zq78)), some (.int (zi zq118)), some (.int (zi z172)), some (.int ((zi 1) + zi 1)), some (.int (zi ((p0 + 6) + 3))), some (.int (zi 1))]) (S' := [.int (zi z172), .int ((zi 1) + zi 1)]) (L2 := [some (.ref m), some (.int (zi by2)), some (.int (zi mk)), some (.int (zi bg)), some (.int (zi n)), some (.int (zi zq78)), some (.int (zi zq118)), some (.int (zi z172)), some (.int (zi 2)), some (.int (zi ((p0 + 6) + 3))), some (.int (zi 1))]) (S2 := [.int (zi z172), .int (zi 2)]) rfl (by simp only [zi_add, zi_sub, zi_mul, zi_neg, zi_and1, zi_and7, zi_and15, zi_and31, zi_and255, Int.reduceAdd, Int.reduceMul, Int.reduceSub]) (by simp only [zi_add, zi_sub, zi_mul, zi_neg, zi_and1, zi_and7, zi_and15, zi_and31, zi_and255, Int.reduceAdd, Int.reduceMul, Int.reduceSub]) ?_
                                            refine gy_icF rfl (by decide) (by decide) (by omega) (by omega) (by first | (simp [zc]; done) | (simp only [zc]; omega)) ?_
                                            refine gz_s 1 (pc' := 261) (L' := [some (.ref m), some (.int (zi by2)), some (.int (zi mk)), some (.int (zi bg)), some (.int (zi n)), some (.int (zi zq78)), some (.int (zi zq118)), some (.int (zi z172)), some (.int (zi 2)), some (.int (zi ((p0 + 6) + 3))), some (.int (zi 1))]) (S' := [.ref m]) rfl ?_
                                            refine gs_gtk rfl (by decide) rfl sq818.1 tm rfl rfl efq818_0 ?_
                                            refine gz_s 1 (pc' := 265) (L' := [some (.ref m), some (.int (zi by2)), some (.int (zi mk)), some (.int (zi bg)), some (.int (zi n)), some (.int (zi zq78)), some (.int (zi zq118)), some (.int (zi z172)), some (.int (zi 2)), some (.int (zi ((p0 + 6) + 3))), some (.int (zi 1))]) (S' := [.int (zi (-1)), .int (zi fq818_0)]) rfl ?_
                                            by_cases hc841 : ¬ (fq818_0 : Int) = (-1)
                                            · refine gy_icT (pc' := 484) rfl (by decide) (by decide) (by omega) (by omega) hc841 ?_
                                              refine gz_s 1 (pc' := 485) (L' := [some (.ref m), some (.int (zi by2)), some (.int (zi mk)), some (.int (zi bg)), some (.int (zi n)), some (.int (zi zq78)), some (.int (zi zq118)), some (.int (zi z172)), some (.int (zi 2)), some (.int (zi ((p0 + 6) + 3))), some (.int (zi 1))]) (S' := [.ref m]) rfl ?_
                                              refine gs_gtk rfl (by decide) rfl sq818.1 tm rfl rfl efq818_0 ?_
                                              refine gz_s 1 (pc' := 489) (L' := [some (.ref m), some (.int (zi by2)), some (.int (zi mk)), some (.int (zi bg)), some (.int (zi n)), some (.int (zi zq78)), some (.int (zi zq118)), some (.int (zi z172)), some (.int (zi 2)), some (.int (zi ((p0 + 6) + 3))), some (.int (zi 1))]) (S' := [.int (zi (-1)), .int (zi fq818_0)]) rfl ?_
                                              refine gy_icF rfl (by decide) (by decide) (by omega) (by omega) (by first | (simp [zc]; done) | (simp only [zc]; omega)) ?_
                                              have hpi842 : gPi ty ip w hh wd hg bs hq818 := fun e => absurd e (by omega)
                                              exact gz_end (I := .return_) (len := 1) rfl (Or.inl rfl) ⟨sq818, fq818_0, ip, w, hh, wd, hg, bs, rfl, efq818_0, (by omega), (by omega), s822, (by omega), (by omega), s823, (by omega), (by omega), s824, (by omega), (by omega), s825, (by omega), (by omega), s826, (by omega), (by omega), s827, (by omega), (by omega), hpi842⟩
                                            · refine gy_icF rfl (by decide) (by decide) (by omega) (by omega) hc841 ?_
                                              refine gz_s 1 (pc' := 269) (L' := [some (.ref m), some (.int (zi by2)), some (.int (zi mk)), some (.int (zi bg)), some (.int (zi n)), some (.int (zi zq78)), some (.int (zi zq118)), some (.int (zi z172)), some (.int (zi 2)), some (.int (zi ((p0 + 6) + 3))), some (.int (zi 1))]) (S' := [.ref m]) rfl ?_
                                              refine gs_gtk rfl (by decide) rfl sq818.1 tm rfl rfl s819 ?_
                                              refine gy_s 8 (pc' := 283) (L' := [some (.ref m), some (.int (zi by2)), some (.int (zi mk)), some (.int (zi bg)), some (.int (zi n)), some (.int (zi zq78)), some (.int (zi zq118)), some (.int (zi z172)), some (.int (zi 2)), some (.int (((zi p0) + (zi 6)) + ((zi 3) * (zi 2)))), some (.int (zi 1))]) (S' := [.ref m]) (L2 := [some (.ref m), some (.int (zi by2)), some (.int (zi mk)), some (.int (zi bg)), some (.int (zi n)), some (.int (zi zq78)), some (.int (zi zq118)), some (.int (zi z172)), some (.int (zi 2)), some (.int (zi ((p0 + 6) + 6))), some (.int (zi 1))]) (S2 := [.ref m]) rfl (by simp only [zi_add, zi_sub, zi_mul, zi_neg, zi_and1, zi_and7, zi_and15, zi_and31, zi_and255, Int.reduceAdd, Int.reduceMul, Int.reduceSub]) (by simp only [zi_add, zi_sub, zi_mul, zi_neg, zi_and1, zi_and7, zi_and15, zi_and31, zi_and255, Int.reduceAdd, Int.reduceMul, Int.reduceSub]) ?_
                                              refine gs_gtk rfl (by decide) rfl sq818.1 tm rfl rfl s829 ?_
                                              refine gz_s 2 (pc' := 289) (L' := [some (.ref m), some (.int (zi by2)), some (.int (zi mk)), some (.int (zi bg)), some (.int (zi n)), some (.int (zi zq78)), some (.int (zi zq118)), some (.int (zi z172)), some (.int (zi 2)), some (.int (zi ((p0 + 6) + 6))), some (.int (zi 1))]) (S' := [.ref m, .int (zi 2), .ref c534]) rfl ?_
                                              refine gs_gtk rfl (by decide) rfl sq818.1 tm rfl rfl s828 ?_
                                              refine gz_s 1 (pc' := 294) (L' := [some (.ref m), some (.int (zi by2)), some (.int (zi mk)), some (.int (zi bg)), some (.int (zi n)), some (.int (zi zq78)), some (.int (zi zq118)), some (.int (zi z172)), some (.int (zi 2)), some (.int (zi ((p0 + 6) + 6))), some (.int (zi 1))]) (S' := [.int (zi ((p0 + 6) + 6)), .ref c49, .int (zi 2), .ref c534]) rfl ?_
                                              have hl843 : 2000 ≤ hq818.2.2.2.1 c49 ∧ hq818.2.2.2.1 c49 ≤ 2000 := gJ.rowl (G := gGG) sq818.1 tc49 rfl
                                              refine gs_ald rfl (by decide) sq818.1 tc49 rfl rfl rfl (by decide) (fun _ => rfl) (by omega) (by omega) (fun z844 ez844 az844 bz844 => ?_)
                                              have hl845 : 3 ≤ hq818.2.2.2.1 c534 ∧ hq818.2.2.2.1 c534 ≤ 3 := gJ.rowl (G := gGG) sq818.1 tc534 rfl
                                              refine gs_ast rfl (by decide) sq818 tc534 rfl rfl rfl (by decide) (fun _ => rfl) (by omega) (by omega) (fun _ => (by decide : (11999 : Nat) ∈ ([1007, 1016, 1017, 1018, 1019, 1020, 1021, 1022, 1023, 1024, 11999, 12999, 13999, 14999, 15999, 16999, 17999, 18999, 19999, 23999, 24999] : List Nat))) (by omega) (by omega) (fun h846 sh846 eh846 fh846 => ?_)
                                              have pr847 := gEl.ot fh846 pr833 (i := 2) (by omega)
                                              have pr848 := gEl.pt fh846 tc534 (by decide) pr834
                                              have pr849 := gEl.pt fh846 tc534 (by decide) pr835
                                              have pr850 := gEl.pt fh846 tc534 (by decide) pr836
                                              have pr851 := gEl.ot fh846 pr837 (i := 2) (by omega)
                                              have pr852 := gEl.pt fh846 tc534 (by decide) pr838
                                              have pr853 := gEl.pt fh846 tc534 (by decide) pr839
                                              have pr854 := gEl.pt fh846 tc534 (by decide) pr840
                                              have s855 := (fh846 m 5 (fun q => absurd (((tm).symm.trans (congrArg ty q.1)).trans tc534) (by decide))).trans s819
                                              have s856 := (fh846 m 6 (fun q => absurd (((tm).symm.trans (congrArg ty q.1)).trans tc534) (by decide))).trans s820
                                              have s857 := (fh846 m 3 (fun q => absurd (((tm).symm.trans (congrArg ty q.1)).trans tc534) (by decide))).trans s821
                                              have s858 := (fh846 m 16 (fun q => absurd (((tm).symm.trans (congrArg ty q.1)).trans tc534) (by decide))).trans s822
                                              have s859 := (fh846 m 18 (fun q => absurd (((tm).symm.trans (congrArg ty q.1)).trans tc534) (by decide))).trans s823
                                              have s860 := (fh846 m 19 (fun q => absurd (((tm).symm.trans (congrArg ty q.1)).trans tc534) (by decide))).trans s824
                                              have s861 := (fh846 m 21 (fun q => absurd (((tm).symm.trans (congrArg ty q.1)).trans tc534) (by decide))).trans s825
                                              have s862 := (fh846 m 22 (fun q => absurd (((tm).symm.trans (congrArg ty q.1)).trans tc534) (by decide))).trans s826
                                              have s863 := (fh846 m 20 (fun q => absurd (((tm).symm.trans (congrArg ty q.1)).trans tc534) (by decide))).trans s827
                                              have s864 := (fh846 m 4 (fun q => absurd (((tm).symm.trans (congrArg ty q.1)).trans tc534) (by decide))).trans s828
                                              have s865 := (fh846 m 25 (fun q => absurd (((tm).symm.trans (congrArg ty q.1)).trans tc534) (by decide))).trans s829
                                              have s866 := (fh846 m 26 (fun q => absurd (((tm).symm.trans (congrArg ty q.1)).trans tc534) (by decide))).trans s830
                                              have s867 := (fh846 m 27 (fun q => absurd (((tm).symm.trans (congrArg ty q.1)).trans tc534) (by decide))).trans s831
                                              have s868 := (fh846 m 28 (fun q => absurd (((tm).symm.trans (congrArg ty q.1)).trans tc534) (by decide))).trans s832
                                              have s869 := (fh846 m 7 (fun q => absurd (((tm).symm.trans (congrArg ty q.1)).trans tc534) (by decide))).trans efq818_0
                                              clear s819 s820 s821 s822 s823 s824 s825 s826 s827 s828 s829 s830 s831 s832 pr833 pr834 pr835 pr836 pr837 pr838 pr839 pr840
                                              have pr870 := gEl.set (i := 2) (z := z844) uq tc534 (by decide) eh846 (by omega) (by omega)
                                              refine gz_s 4 (pc' := 303) (L' := [some (.ref m), some (.int (zi by2)), some (.int (zi mk)), some (.int (zi bg)), some (.int (zi n)), some (.int (zi zq78)), some (.int (zi zq118)), some (.int (zi z172)), some (.int (zi 2)), some (.int (zi ((p0 + 6) + 6))), some (.int (zi 0))]) (S' := [.int (zi 2), .int (zi 0)]) rfl ?_
                                              refine gy_icF rfl (by decide) (by decide) (by omega) (by omega) (by first | (simp [zc]; done) | (simp only [zc]; omega)) ?_
                                              refine gz_s 2 (pc' := 308) (L' := [some (.ref m), some (.int (zi by2)), some (.int (zi mk)), some (.int (zi bg)), some (.int (zi n)), some (.int (zi zq78)), some (.int (zi zq118)), some (.int (zi z172)), some (.int (zi 2)), some (.int (zi ((p0 + 6) + 6))), some (.int (zi 0))]) (S' := [.ref m, .ref m]) rfl ?_
                                              refine gs_gtk rfl (by decide) rfl sh846.1 tm rfl rfl s865 ?_
                                              refine gz_s 1 (pc' := 313) (L' := [some (.ref m), some (.int (zi by2)), some (.int (zi mk)), some (.int (zi bg)), some (.int (zi n)), some (.int (zi zq78)), some (.int (zi zq118)), some (.int (zi z172)), some (.int (zi 2)), some (.int (zi ((p0 + 6) + 6))), some (.int (zi 0))]) (S' := [.int (zi 0), .ref c534, .ref m]) rfl ?_
                                              have hl871 : 3 ≤ h846.2.2.2.1 c534 ∧ h846.2.2.2.1 c534 ≤ 3 := gJ.rowl (G := gGG) sh846.1 tc534 rfl
                                              refine gs_alx rfl (by decide) sh846.1 tc534 rfl rfl rfl (by decide) (fun _ => rfl) (by omega) (by omega) (by decide) pr847 (fun ex872 ax872 bx872 => ?_)
                                              refine gz_s 1 (pc' := 315) (L' := [some (.ref m), some (.int (zi by2)), some (.int (zi mk)), some (.int (zi bg)), some (.int (zi n)), some (.int (zi zq78)), some (.int (zi zq118)), some (.int (zi z172)), some (.int (zi 2)), some (.int (zi ((p0 + 6) + 6))), some (.int (zi 0))]) (S' := [.ref m, .int (zi z536), .ref m]) rfl ?_
                                              refine gs_gtk rfl (by decide) rfl sh846.1 tm rfl rfl s865 ?_
                                              refine gz_s 1 (pc' := 320) (L' := [some (.ref m), some (.int (zi by2)), some (.int (zi mk)), some (.int (zi bg)), some (.int (zi n)), some (.int (zi zq78)), some (.int (zi zq118)), some (.int (zi z172)), some (.int (zi 2)), some (.int (zi ((p0 + 6) + 6))), some (.int (zi 0))]) (S' := [.int (zi 2), .ref c534, .int (zi z536), .ref m]) rfl ?_
                                              have hl873 : 3 ≤ h846.2.2.2.1 c534 ∧ h846.2.2.2.1 c534 ≤ 3 := gJ.rowl (G := gGG) sh846.1 tc534 rfl
                                              refine gs_alx rfl (by decide) sh846.1 tc534 rfl rfl rfl (by decide) (fun _ => rfl) (by omega) (by omega) (by decide) pr870 (fun ex874 ax874 bx874 => ?_)
                                              have jn875 : ∀ (jn875v0 : Int), ((0 ≤ jn875v0) ∧ (jn875v0 ≤ 1)) → gz gPP gGG gcn (d + 4) gt165 329 [some (.ref m), some (.int (zi by2)), some (.int (zi mk)), some (.int (zi bg)), some (.int (zi n)), some (.int (zi zq78)), some (.int (zi zq118)), some (.int (zi z172)), some (.int (zi 2)), some (.int (zi ((p0 + 6) + 6))), some (.int (zi 0))] [.int (zi jn875v0), .ref m] h846 (fun q _ => gSs rT 1027 ty [1007, 1016, 1017, 1018, 1019, 1020, 1021, 1022, 1023, 1024, 11999, 12999, 13999, 14999, 15999, 16999, 17999, 18999, 19999, 23999, 24999] h q.2.2 ∧ ∃ f1 ip1 w1 hh1 wd1 hg1 bs1 : Int, gfin gt165 q.1 q.2.1 = some none ∧ q.2.2.2.2.2.2 m 7 = .int (zi f1) ∧ (-1) ≤ f1 ∧ f1 ≤ 4000 ∧ q.2.2.2.2.2.2 m 16 = .int (zi ip1) ∧ 0 ≤ ip1 ∧ ip1 ≤ 1 ∧ q.2.2.2.2.2.2 m 18 = .int (zi w1) ∧ 0 ≤ w1 ∧ w1 ≤ 64 ∧ q.2.2.2.2.2.2 m 19 = .int (zi hh1) ∧ 0 ≤ hh1 ∧ hh1 ≤ 64 ∧ q.2.2.2.2.2.2 m 21 = .int (zi wd1) ∧ 0 ≤ wd1 ∧ wd1 ≤ 2 ∧ q.2.2.2.2.2.2 m 22 = .int (zi hg1) ∧ 0 ≤ hg1 ∧ hg1 ≤ 2 ∧ q.2.2.2.2.2.2 m 20 = .int (zi bs1) ∧ 0 ≤ bs1 ∧ bs1 ≤ 3 ∧ (gPi ty ip1 w1 hh1 wd1 hg1 bs1 q.2.2)) := by
                                                intro jn875v0 jn875d
                                                refine gz_s 1 (pc' := 331) (L' := [some (.ref m), some (.int (zi by2)), some (.int (zi mk)), some (.int (zi bg)), some (.int (zi n)), some (.int (zi zq78)), some (.int (zi zq118)), some (.int (zi z172)), some (.int (zi 2)), some (.int (zi ((p0 + 6) + 6))), some (.int (zi 0))]) (S' := [.int (zi ((p0 + 6) + 6)), .int (zi jn875v0), .ref m]) rfl ?_
                                                refine gz_call rfl (by decide) rfl (by decide) (by decide) (gcal_of rfl rfl rfl (Nat.le_of_ble_eq_true rfl) (gJ.recv (G := gGG) sh846.1 tm rfl rfl)) (mm_must _ sh846.1 m tm jn875v0 (by omega) ((p0 + 6) + 6) (by omega) fq818_0 s869 (by omega)) (fun q876 _ wq876 => ?_)
                                                obtain ⟨pq876, oq876, hq876⟩ := q876
                                                obtain ⟨xq876, zq876, fq876_0, gq876, aq876, bq876, efq876_0, afq876_0, bfq876_0, uq876_0, uq876_1⟩ := wq876
                                                refine ⟨_, gq876, ?_⟩
                                                show gz gPP gGG gcn _ _ 334 [some (.ref m), some (.int (zi by2)), some (.int (zi mk)), some (.int (zi bg)), some (.int (zi n)), some (.int (zi zq78)), some (.int (zi zq118)), some (.int (zi z172)), some (.int (zi 2)), some (.int (zi ((p0 + 6) + 6))), some (.int (zi 0))] [.int (zi zq876)] hq876 _
                                                have sq876 := gSs.tr sh846 xq876 (by decide)
                                                have s877 := (xq876.2.2.2.2.2 m 5 (by rw [tm]; decide)).trans s855
                                                have s878 := (xq876.2.2.2.2.2 m 6 (by rw [tm]; decide)).trans s856
                                                have s879 := (xq876.2.2.2.2.2 m 3 (by rw [tm]; decide)).trans s857
                                                have s880 := (xq876.2.2.2.2.2 m 16 (by rw [tm]; decide)).trans s858
                                                have s881 := (xq876.2.2.2.2.2 m 18 (by rw [tm]; decide)).trans s859
                                                have s882 := (xq876.2.2.2.2.2 m 19 (by rw [tm]; decide)).trans s860
                                                have s883 := (xq876.2.2.2.2.2 m 21 (by rw [tm]; decide)).trans s861
                                                have s884 := (xq876.2.2.2.2.2 m 22 (by rw [tm]; decide)).trans s862
                                                have s885 := (xq876.2.2.2.2.2 m 20 (by rw [tm]; decide)).trans s863
                                                have s886 := (xq876.2.2.2.2.2 m 4 (by rw [tm]; decide)).trans s864
                                                have s887 := (xq876.2.2.2.2.2 m 25 (by rw [tm]; decide)).trans s865
                                                have s888 := (xq876.2.2.2.2.2 m 26 (by rw [tm]; decide)).trans s866
                                                have s889 := (xq876.2.2.2.2.2 m 27 (by rw [tm]; decide)).trans s867
                                                have s890 := (xq876.2.2.2.2.2 m 28 (by rw [tm]; decide)).trans s868
                                                have pr891 := gEl.fr xq876.2 (by decide) (fun _ => rfl) pr847
                                                have pr892 := gEl.fr xq876.2 (by decide) (fun _ => rfl) pr848
                                                have pr893 := gEl.fr xq876.2 (by decide) (fun _ => rfl) pr849
                                                have pr894 := gEl.fr xq876.2 (by decide) (fun _ => rfl) pr850
                                                have pr895 := gEl.fr xq876.2 (by decide) (fun _ => rfl) pr851
                                                have pr896 := gEl.fr xq876.2 (by decide) (fun _ => rfl) pr852
                                                have pr897 := gEl.fr xq876.2 (by decide) (fun _ => rfl) pr853
                                                have pr898 := gEl.fr xq876.2 (by decide) (fun _ => rfl) pr854
                                                have pr899 := gEl.fr xq876.2 (by decide) (fun _ => rfl) pr870
                                                clear s855 s856 s857 s858 s859 s860 s861 s862 s863 s864 s865 s866 s867 s868 s869 pr847 pr848 pr849 pr850 pr851 pr852 pr853 pr854 pr870
                                                refine gy_s 5 (pc' := 303) (L' := [some (.ref m), some (.int (zi by2)), some (.int (zi mk)), some (.int (zi bg)), some (.int (zi n)), some (.int (zi zq78)), some (.int (zi zq118)), some (.int (zi z172)), some (.int (zi 2)), some (.int (zi ((p0 + 6) + 6))), some (.int ((zi 0) + zi 1))]) (S' := [.int (zi 2), .int ((zi 0) + zi 1)]) (L2 := [some (.ref m), some (.int (zi by2)), some (.int (zi mk)), some (.int (zi bg)), some (.int (zi n)), some (.int (zi zq78)), some (.int (zi zq118)), some (.int (zi z172)), some (.int (zi 2)), some (.int (zi ((p0 + 6) + 6))), some (.int (zi 1))]) (S2 := [.int (zi 2), .int (zi 1)]) rfl (by simp only [zi_add, zi_sub, zi_mul, zi_neg, zi_and1, zi_and7, zi_and15, zi_and31, zi_and255, Int.reduceAdd, Int.reduceMul, Int.reduceSub]) (by simp only [zi_add, zi_sub, zi_mul, zi_neg, zi_and1, zi_and7, zi_and15, zi_and31, zi_and255, Int.reduceAdd, Int.reduceMul, Int.reduceSub]) ?_
                                                refine gy_icF rfl (by decide) (by decide) (by omega) (by omega) (by first | (simp [zc]; done) | (simp only [zc]; omega)) ?_
                                                refine gz_s 2 (pc' := 308) (L' := [some (.ref m), some (.int (zi by2)), some (.int (zi mk)), some (.int (zi bg)), some (.int (zi n)), some (.int (zi zq78)), some (.int (zi zq118)), some (.int (zi z172)), some (.int (zi 2)), some (.int (zi ((p0 + 6) + 6))), some (.int (zi 1))]) (S' := [.ref m, .ref m]) rfl ?_
                                                refine gs_gtk rfl (by decide) rfl sq876.1 tm rfl rfl s887 ?_
                                                refine gz_s 1 (pc' := 313) (L' := [some (.ref m), some (.int (zi by2)), some (.int (zi mk)), some (.int (zi bg)), some (.int (zi n)), some (.int (zi zq78)), some (.int (zi zq118)), some (.int (zi z172)), some (.int (zi 2)), some (.int (zi ((p0 + 6) + 6))), some (.int (zi 1))]) (S' := [.int (zi 1), .ref c534, .ref m]) rfl ?_
                                                have hl900 : 3 ≤ hq876.2.2.2.1 c534 ∧ hq876.2.2.2.1 c534 ≤ 3 := gJ.rowl (G := gGG) sq876.1 tc534 rfl
                                                refine gs_alx rfl (by decide) sq876.1 tc534 rfl rfl rfl (by decide) (fun _ => rfl) (by omega) (by omega) (by decide) pr895 (fun ex901 ax901 bx901 => ?_)
                                                refine gz_s 1 (pc' := 315) (L' := [some (.ref m), some (.int (zi by2)), some (.int (zi mk)), some (.int (zi bg)), some (.int (zi n)), some (.int (zi zq78)), some (.int (zi zq118)), some (.int (zi z172)), some (.int (zi 2)), some (.int (zi ((p0 + 6) + 6))), some (.int (zi 1))]) (S' := [.ref m, .int (zi z664), .ref m]) rfl ?_
                                                refine gs_gtk rfl (by decide) rfl sq876.1 tm rfl rfl s887 ?_
                                                refine gz_s 1 (pc' := 320) (L' := [some (.ref m), some (.int (zi by2)), some (.int (zi mk)), some (.int (zi bg)), some (.int (zi n)), some (.int (zi zq78)), some (.int (zi zq118)), some (.int (zi z172)), some (.int (zi 2)), some (.int (zi ((p0 + 6) + 6))), some (.int (zi 1))]) (S' := [.int (zi 2), .ref c534, .int (zi z664), .ref m]) rfl ?_
                                                have hl902 : 3 ≤ hq876.2.2.2.1 c534 ∧ hq876.2.2.2.1 c534 ≤ 3 := gJ.rowl (G := gGG) sq876.1 tc534 rfl
                                                refine gs_alx rfl (by decide) sq876.1 tc534 rfl rfl rfl (by decide) (fun _ => rfl) (by omega) (by omega) (by decide) pr899 (fun ex903 ax903 bx903 => ?_)
                                                have jn904 : ∀ (jn904v0 : Int), ((0 ≤ jn904v0) ∧ (jn904v0 ≤ 1)) → gz gPP gGG gcn (d + 4) gt165 329 [some (.ref m), some (.int (zi by2)), some (.int (zi mk)), some (.int (zi bg)), some (.int (zi n)), some (.int (zi zq78)), some (.int (zi zq118)), some (.int (zi z172)), some (.int (zi 2)), some (.int (zi ((p0 + 6) + 6))), some (.int (zi 1))] [.int (zi jn904v0), .ref m] hq876 (fun q _ => gSs rT 1027 ty [1007, 1016, 1017, 1018, 1019, 1020, 1021, 1022, 1023, 1024, 11999, 12999, 13999, 14999, 15999, 16999, 17999, 18999, 19999, 23999, 24999] h q.2.2 ∧ ∃ f1 ip1 w1 hh1 wd1 hg1 bs1 : Int, gfin gt165 q.1 q.2.1 = some none ∧ q.2.2.2.2.2.2 m 7 = .int (zi f1) ∧ (-1) ≤ f1 ∧ f1 ≤ 4000 ∧ q.2.2.2.2.2.2 m 16 = .int (zi ip1) ∧ 0 ≤ ip1 ∧ ip1 ≤ 1 ∧ q.2.2.2.2.2.2 m 18 = .int (zi w1) ∧ 0 ≤ w1 ∧ w1 ≤ 64 ∧ q.2.2.2.2.2.2 m 19 = .int (zi hh1) ∧ 0 ≤ hh1 ∧ hh1 ≤ 64 ∧ q.2.2.2.2.2.2 m 21 = .int (zi wd1) ∧ 0 ≤ wd1 ∧ wd1 ≤ 2 ∧ q.2.2.2.2.2.2 m 22 = .int (zi hg1) ∧ 0 ≤ hg1 ∧ hg1 ≤ 2 ∧ q.2.2.2.2.2.2 m 20 = .int (zi bs1) ∧ 0 ≤ bs1 ∧ bs1 ≤ 3 ∧ (gPi ty ip1 w1 hh1 wd1 hg1 bs1 q.2.2)) := by
                                                  intro jn904v0 jn904d
                                                  refine gz_s 1 (pc' := 331) (L' := [some (.ref m), some (.int (zi by2)), some (.int (zi mk)), some (.int (zi bg)), some (.int (zi n)), some (.int (zi zq78)), some (.int (zi zq118)), some (.int (zi z172)), some (.int (zi 2)), some (.int (zi ((p0 + 6) + 6))), some (.int (zi 1))]) (S' := [.int (zi ((p0 + 6) + 6)), .int (zi jn904v0), .ref m]) rfl ?_
                                                  refine gz_call rfl (by decide) rfl (by decide) (by decide) (gcal_of rfl rfl rfl (Nat.le_of_ble_eq_true rfl) (gJ.recv (G := gGG) sq876.1 tm rfl rfl)) (mm_must _ sq876.1 m tm jn904v0 (by omega) ((p0 + 6) + 6) (by omega) fq876_0 efq876_0 (by omega)) (fun q905 _ wq905 => ?_)
                                                  obtain ⟨pq905, oq905, hq905⟩ := q905
                                                  obtain ⟨xq905, zq905, fq905_0, gq905, aq905, bq905, efq905_0, afq905_0, bfq905_0, uq905_0, uq905_1⟩ := wq905
                                                  refine ⟨_, gq905, ?_⟩
                                                  show gz gPP gGG gcn _ _ 334 [some (.ref m), some (.int (zi by2)), some (.int (zi mk)), some (.int (zi bg)), some (.int (zi n)), some (.int (zi zq78)), some (.int (zi zq118)), some (.int (zi z172)), some (.int (zi 2)), some (.int (zi ((p0 + 6) + 6))), some (.int (zi 1))] [.int (zi zq905)] hq905 _
                                                  have sq905 := gSs.tr sq876 xq905 (by decide)
                                                  have s906 := (xq905.2.2.2.2.2 m 5 (by rw [tm]; decide)).trans s877
                                                  have s907 := (xq905.2.2.2.2.2 m 6 (by rw [tm]; decide)).trans s878
                                                  have s908 := (xq905.2.2.2.2.2 m 3 (by rw [tm]; decide)).trans s879
                                                  have s909 := (xq905.2.2.2.2.2 m 16 (by rw [tm]; decide)).trans s880
                                                  have s910 := (xq905.2.2.2.2.2 m 18 (by rw [tm]; decide)).trans s881
                                                  have s911 := (xq905.2.2.2.2.2 m 19 (by rw [tm]; decide)).trans s882
                                                  have s912 := (xq905.2.2.2.2.2 m 21 (by rw [tm]; decide)).trans s883
                                                  have s913 := (xq905.2.2.2.2.2 m 22 (by rw [tm]; decide)).trans s884
                                                  have s914 := (xq905.2.2.2.2.2 m 20 (by rw [tm]; decide)).trans s885
                                                  have s915 := (xq905.2.2.2.2.2 m 4 (by rw [tm]; decide)).trans s886
                                                  have s916 := (xq905.2.2.2.2.2 m 25 (by rw [tm]; decide)).trans s887
                                                  have s917 := (xq905.2.2.2.2.2 m 26 (by rw [tm]; decide)).trans s888
                                                  have s918 := (xq905.2.2.2.2.2 m 27 (by rw [tm]; decide)).trans s889
                                                  have s919 := (xq905.2.2.2.2.2 m 28 (by rw [tm]; decide)).trans s890
                                                  have pr920 := gEl.fr xq905.2 (by decide) (fun _ => rfl) pr891
                                                  have pr921 := gEl.fr xq905.2 (by decide) (fun _ => rfl) pr892
                                                  have pr922 := gEl.fr xq905.2 (by decide) (fun _ => rfl) pr893
                                                  have pr923 := gEl.fr xq905.2 (by decide) (fun _ => rfl) pr894
                                                  have pr924 := gEl.fr xq905.2 (by decide) (fun _ => rfl) pr895
                                                  have pr925 := gEl.fr xq905.2 (by decide) (fun _ => rfl) pr896
                                                  have pr926 := gEl.fr xq905.2 (by decide) (fun _ => rfl) pr897
                                                  have pr927 := gEl.fr xq905.2 (by decide) (fun _ => rfl) pr898
                                                  have pr928 := gEl.fr xq905.2 (by decide) (fun _ => rfl) pr899
                                                  clear s877 s878 s879 s880 s881 s882 s883 s884 s885 s886 s887 s888 s889 s890 pr891 pr892 pr893 pr894 pr895 pr896 pr897 pr898 pr899
                                                  refine gy_s 5 (pc' := 303) (L' := [some (.ref m), some (.int (zi by2)), some (.int (zi mk)), some (.int (zi bg)), some (.int (zi n)), some (.int (zi zq78)), some (.int (zi zq118)), some (.int (zi z172)), some (.int (zi 2)), some (.int (zi ((p0 + 6) + 6))), some (.int ((zi 1) + zi 1))]) (S' := [.int (zi 2), .int ((zi 1) + zi 1)]) (L2 := [some (.ref m), some (.int (zi by2)), some (.int (zi mk)), some (.int (zi bg)), some (.int (zi n)), some (.int (zi zq78)), some (.int (zi zq118)), some (.int (zi z172)), some (.int (zi 2)), some (.int (zi ((p0 + 6) + 6))), some (.int (zi 2))]) (S2 := [.int (zi 2), .int (zi 2)]) rfl (by simp only [zi_add, zi_sub, zi_mul, zi_neg, zi_and1, zi_and7, zi_and15, zi_and31, zi_and255, Int.reduceAdd, Int.reduceMul, Int.reduceSub]) (by simp only [zi_add, zi_sub, zi_mul, zi_neg, zi_and1, zi_and7, zi_and15, zi_and31, zi_and255, Int.reduceAdd, Int.reduceMul, Int.reduceSub]) ?_
                                                  refine gy_icT (pc' := 341) rfl (by decide) (by decide) (by omega) (by omega) (by first | (simp [zc]; done) | (simp only [zc]; omega)) ?_
                                                  refine gz_s 1 (pc' := 342) (L' := [some (.ref m), some (.int (zi by2)), some (.int (zi mk)), some (.int (zi bg)), some (.int (zi n)), some (.int (zi zq78)), some (.int (zi zq118)), some (.int (zi z172)), some (.int (zi 2)), some (.int (zi ((p0 + 6) + 6))), some (.int (zi 2))]) (S' := [.ref m]) rfl ?_
                                                  refine gs_gtk rfl (by decide) rfl sq905.1 tm rfl rfl s917 ?_
                                                  refine gz_s 2 (pc' := 348) (L' := [some (.ref m), some (.int (zi by2)), some (.int (zi mk)), some (.int (zi bg)), some (.int (zi n)), some (.int (zi zq78)), some (.int (zi zq118)), some (.int (zi z172)), some (.int (zi 2)), some (.int (zi ((p0 + 6) + 6))), some (.int (zi 2))]) (S' := [.ref m, .int (zi 2), .ref c553]) rfl ?_
                                                  refine gs_gtk rfl (by decide) rfl sq905.1 tm rfl rfl s915 ?_
                                                  refine gy_s 3 (pc' := 355) (L' := [some (.ref m), some (.int (zi by2)), some (.int (zi mk)), some (.int (zi bg)), some (.int (zi n)), some (.int (zi zq78)), some (.int (zi zq118)), some (.int (zi z172)), some (.int (zi 2)), some (.int (zi ((p0 + 6) + 6))), some (.int (zi 2))]) (S' := [.int ((zi ((p0 + 6) + 6)) + (zi 1)), .ref c49, .int (zi 2), .ref c553]) (L2 := [some (.ref m), some (.int (zi by2)), some (.int (zi mk)), some (.int (zi bg)), some (.int (zi n)), some (.int (zi zq78)), some (.int (zi zq118)), some (.int (zi z172)), some (.int (zi 2)), some (.int (zi ((p0 + 6) + 6))), some (.int (zi 2))]) (S2 := [.int (zi (((p0 + 6) + 6) + 1)), .ref c49, .int (zi 2), .ref c553]) rfl (by simp only [zi_add, zi_sub, zi_mul, zi_neg, zi_and1, zi_and7, zi_and15, zi_and31, zi_and255, Int.reduceAdd, Int.reduceMul, Int.reduceSub]) (by simp only [zi_add, zi_sub, zi_mul, zi_neg, zi_and1, zi_and7, zi_and15, zi_and31, zi_and255, Int.reduceAdd, Int.reduceMul, Int.reduceSub]) ?_
                                                  have hl929 : 2000 ≤ hq905.2.2.2.1 c49 ∧ hq905.2.2.2.1 c49 ≤ 2000 := gJ.rowl (G := gGG) sq905.1 tc49 rfl
                                                  refine gs_ald rfl (by decide) sq905.1 tc49 rfl rfl rfl (by decide) (fun _ => rfl) (by omega) (by omega) (fun z930 ez930 az930 bz930 => ?_)
                                                  refine gz_s 1 (pc' := 358) (L' := [some (.ref m), some (.int (zi by2)), some (.int (zi mk)), some (.int (zi bg)), some (.int (zi n)), some (.int (zi zq78)), some (.int (zi zq118)), some (.int (zi z172)), some (.int (zi 2)), some (.int (zi ((p0 + 6) + 6))), some (.int (zi 2))]) (S' := [.int (zi 16), .int (zi z930), .int (zi 2), .ref c553]) rfl ?_
                                                  refine gy_div rfl (by decide) (by omega) (by omega) ?_
                                                  have hl931 : 3 ≤ hq905.2.2.2.1 c553 ∧ hq905.2.2.2.1 c553 ≤ 3 := gJ.rowl (G := gGG) sq905.1 tc553 rfl
                                                  refine gs_ast rfl (by decide) sq905 tc553 rfl rfl rfl (by decide) (fun _ => rfl) (by omega) (by omega) (fun _ => (by decide : (12999 : Nat) ∈ ([1007, 1016, 1017, 1018, 1019, 1020, 1021, 1022, 1023, 1024, 11999, 12999, 13999, 14999, 15999, 16999, 17999, 18999, 19999, 23999, 24999] : List Nat))) (by omega) (by omega) (fun h932 sh932 eh932 fh932 => ?_)
                                                  have pr933 := gEl.pt fh932 tc553 (by decide) pr920
                                                  have pr934 := gEl.ot fh932 pr921 (i := 2) (by omega)
                                                  have pr935 := gEl.pt fh932 tc553 (by decide) pr922
                                                  have pr936 := gEl.pt fh932 tc553 (by decide) pr923
                                                  have pr937 := gEl.pt fh932 tc553 (by decide) pr924
                                                  have pr938 := gEl.ot fh932 pr925 (i := 2) (by omega)
                                                  have pr939 := gEl.pt fh932 tc553 (by decide) pr926
                                                  have pr940 := gEl.pt fh932 tc553 (by decide) pr927
                                                  have pr941 := gEl.pt fh932 tc553 (by decide) pr928
                                                  have s942 := (fh932 m 5 (fun q => absurd (((tm).symm.trans (congrArg ty q.1)).trans tc553) (by decide))).trans s906
                                                  have s943 := (fh932 m 6 (fun q => absurd (((tm).symm.trans (congrArg ty q.1)).trans tc553) (by decide))).trans s907
                                                  have s944 := (fh932 m 3 (fun q => absurd (((tm).symm.trans (congrArg ty q.1)).trans tc553) (by decide))).trans s908
                                                  have s945 := (fh932 m 16 (fun q => absurd (((tm).symm.trans (congrArg ty q.1)).trans tc553) (by decide))).trans s909
                                                  have s946 := (fh932 m 18 (fun q => absurd (((tm).symm.trans (congrArg ty q.1)).trans tc553) (by decide))).trans s910
                                                  have s947 := (fh932 m 19 (fun q => absurd (((tm).symm.trans (congrArg ty q.1)).trans tc553) (by decide))).trans s911
                                                  have s948 := (fh932 m 21 (fun q => absurd (((tm).symm.trans (congrArg ty q.1)).trans tc553) (by decide))).trans s912
                                                  have s949 := (fh932 m 22 (fun q => absurd (((tm).symm.trans (congrArg ty q.1)).trans tc553) (by decide))).trans s913
                                                  have s950 := (fh932 m 20 (fun q => absurd (((tm).symm.trans (congrArg ty q.1)).trans tc553) (by decide))).trans s914
                                                  have s951 := (fh932 m 4 (fun q => absurd (((tm).symm.trans (congrArg ty q.1)).trans tc553) (by decide))).trans s915
                                                  have s952 := (fh932 m 25 (fun q => absurd (((tm).symm.trans (congrArg ty q.1)).trans tc553) (by decide))).trans s916
                                                  have s953 := (fh932 m 26 (fun q => absurd (((tm).symm.trans (congrArg ty q.1)).trans tc553) (by decide))).trans s917
                                                  have s954 := (fh932 m 27 (fun q => absurd (((tm).symm.trans (congrArg ty q.1)).trans tc553) (by decide))).trans s918
                                                  have s955 := (fh932 m 28 (fun q => absurd (((tm).symm.trans (congrArg ty q.1)).trans tc553) (by decide))).trans s919
                                                  have s956 := (fh932 m 7 (fun q => absurd (((tm).symm.trans (congrArg ty q.1)).trans tc553) (by decide))).trans efq905_0
                                                  clear s906 s907 s908 s909 s910 s911 s912 s913 s914 s915 s916 s917 s918 s919 pr920 pr921 pr922 pr923 pr924 pr925 pr926 pr927 pr928
                                                  have pr957 := gEl.set (i := 2) (z := z930 / 16) uq tc553 (by decide) eh932 (by omega) (by omega)
                                                  refine gz_s 1 (pc' := 361) (L' := [some (.ref m), some (.int (zi by2)), some (.int (zi mk)), some (.int (zi bg)), some (.int (zi n)), some (.int (zi zq78)), some (.int (zi zq118)), some (.int (zi z172)), some (.int (zi 2)), some (.int (zi ((p0 + 6) + 6))), some (.int (zi 2))]) (S' := [.ref m]) rfl ?_
                                                  refine gs_gtk rfl (by decide) rfl sh932.1 tm rfl rfl s954 ?_
                                                  refine gz_s 2 (pc' := 367) (L' := [some (.ref m), some (.int (zi by2)), some (.int (zi mk)), some (.int (zi bg)), some (.int (zi n)), some (.int (zi zq78)), some (.int (zi zq118)), some (.int (zi z172)), some (.int (zi 2)), some (.int (zi ((p0 + 6) + 6))), some (.int (zi 2))]) (S' := [.ref m, .int (zi 2), .ref c573]) rfl ?_
                                                  refine gs_gtk rfl (by decide) rfl sh932.1 tm rfl rfl s951 ?_
                                                  refine gy_s 3 (pc' := 374) (L' := [some (.ref m), some (.int (zi by2)), some (.int (zi mk)), some (.int (zi bg)), some (.int (zi n)), some (.int (zi zq78)), some (.int (zi zq118)), some (.int (zi z172)), some (.int (zi 2)), some (.int (zi ((p0 + 6) + 6))), some (.int (zi 2))]) (S' := [.int ((zi ((p0 + 6) + 6)) + (zi 1)), .ref c49, .int (zi 2), .ref c573]) (L2 := [some (.ref m), some (.int (zi by2)), some (.int (zi mk)), some (.int (zi bg)), some (.int (zi n)), some (.int (zi zq78)), some (.int (zi zq118)), some (.int (zi z172)), some (.int (zi 2)), some (.int (zi ((p0 + 6) + 6))), some (.int (zi 2))]) (S2 := [.int (zi (((p0 + 6) + 6) + 1)), .ref c49, .int (zi 2), .ref c573]) rfl (by simp only [zi_add, zi_sub, zi_mul, zi_neg, zi_and1, zi_and7, zi_and15, zi_and31, zi_and255, Int.reduceAdd, Int.reduceMul, Int.reduceSub]) (by simp only [zi_add, zi_sub, zi_mul, zi_neg, zi_and1, zi_and7, zi_and15, zi_and31, zi_and255, Int.reduceAdd, Int.reduceMul, Int.reduceSub]) ?_
                                                  have hl958 : 2000 ≤ h932.2.2.2.1 c49 ∧ h932.2.2.2.1 c49 ≤ 2000 := gJ.rowl (G := gGG) sh932.1 tc49 rfl
                                                  refine gs_ald rfl (by decide) sh932.1 tc49 rfl rfl rfl (by decide) (fun _ => rfl) (by omega) (by omega) (fun z959 ez959 az959 bz959 => ?_)
                                                  refine gz_s 1 (pc' := 377) (L' := [some (.ref m), some (.int (zi by2)), some (.int (zi mk)), some (.int (zi bg)), some (.int (zi n)), some (.int (zi zq78)), some (.int (zi zq118)), some (.int (zi z172)), some (.int (zi 2)), some (.int (zi ((p0 + 6) + 6))), some (.int (zi 2))]) (S' := [.int (zi 16), .int (zi z959), .int (zi 2), .ref c573]) rfl ?_
                                                  refine gy_rem rfl (by decide) (by omega) (by omega) ?_
                                                  have hl960 : 3 ≤ h932.2.2.2.1 c573 ∧ h932.2.2.2.1 c573 ≤ 3 := gJ.rowl (G := gGG) sh932.1 tc573 rfl
                                                  refine gs_ast rfl (by decide) sh932 tc573 rfl rfl rfl (by decide) (fun _ => rfl) (by omega) (by omega) (fun _ => (by decide : (13999 : Nat) ∈ ([1007, 1016, 1017, 1018, 1019, 1020, 1021, 1022, 1023, 1024, 11999, 12999, 13999, 14999, 15999, 16999, 17999, 18999, 19999, 23999, 24999] : List Nat))) (by omega) (by omega) (fun h961 sh961 eh961 fh961 => ?_)
                                                  have pr962 := gEl.pt fh961 tc573 (by decide) pr933
                                                  have pr963 := gEl.pt fh961 tc573 (by decide) pr934
                                                  have pr964 := gEl.ot fh961 pr935 (i := 2) (by omega)
                                                  have pr965 := gEl.pt fh961 tc573 (by decide) pr936
                                                  have pr966 := gEl.pt fh961 tc573 (by decide) pr937
                                                  have pr967 := gEl.pt fh961 tc573 (by decide) pr938
                                                  have pr968 := gEl.ot fh961 pr939 (i := 2) (by omega)
                                                  have pr969 := gEl.pt fh961 tc573 (by decide) pr940
                                                  have pr970 := gEl.pt fh961 tc573 (by decide) pr941
                                                  have pr971 := gEl.pt fh961 tc573 (by decide) pr957
                                                  have s972 := (fh961 m 5 (fun q => absurd (((tm).symm.trans (congrArg ty q.1)).trans tc573) (by decide))).trans s942
                                                  have s973 := (fh961 m 6 (fun q => absurd (((tm).symm.trans (congrArg ty q.1)).trans tc573) (by decide))).trans s943
                                                  have s974 := (fh961 m 3 (fun q => absurd (((tm).symm.trans (congrArg ty q.1)).trans tc573) (by decide))).trans s944
                                                  have s975 := (fh961 m 16 (fun q => absurd (((tm).symm.trans (congrArg ty q.1)).trans tc573) (by decide))).trans s945
                                                  have s976 := (fh961 m 18 (fun q => absurd (((tm).symm.trans (congrArg ty q.1)).trans tc573) (by decide))).trans s946
                                                  have s977 := (fh961 m 19 (fun q => absurd (((tm).symm.trans (congrArg ty q.1)).trans tc573) (by decide))).trans s947
                                                  have s978 := (fh961 m 21 (fun q => absurd (((tm).symm.trans (congrArg ty q.1)).trans tc573) (by decide))).trans s948
                                                  have s979 := (fh961 m 22 (fun q => absurd (((tm).symm.trans (congrArg ty q.1)).trans tc573) (by decide))).trans s949
                                                  have s980 := (fh961 m 20 (fun q => absurd (((tm).symm.trans (congrArg ty q.1)).trans tc573) (by decide))).trans s950
                                                  have s981 := (fh961 m 4 (fun q => absurd (((tm).symm.trans (congrArg ty q.1)).trans tc573) (by decide))).trans s951
                                                  have s982 := (fh961 m 25 (fun q => absurd (((tm).symm.trans (congrArg ty q.1)).trans tc573) (by decide))).trans s952
                                                  have s983 := (fh961 m 26 (fun q => absurd (((tm).symm.trans (congrArg ty q.1)).trans tc573) (by decide))).trans s953
                                                  have s984 := (fh961 m 27 (fun q => absurd (((tm).symm.trans (congrArg ty q.1)).trans tc573) (by decide))).trans s954
                                                  have s985 := (fh961 m 28 (fun q => absurd (((tm).symm.trans (congrArg ty q.1)).trans tc573) (by decide))).trans s955
                                                  have s986 := (fh961 m 7 (fun q => absurd (((tm).symm.trans (congrArg ty q.1)).trans tc573) (by decide))).trans s956
                                                  clear s942 s943 s944 s945 s946 s947 s948 s949 s950 s951 s952 s953 s954 s955 s956 pr933 pr934 pr935 pr936 pr937 pr938 pr939 pr940 pr941 pr957
                                                  have pr987 := gEl.set (i := 2) (z := z959 % 16) uq tc573 (by decide) eh961 (by omega) (by omega)
                                                  refine gz_s 2 (pc' := 381) (L' := [some (.ref m), some (.int (zi by2)), some (.int (zi mk)), some (.int (zi bg)), some (.int (zi n)), some (.int (zi zq78)), some (.int (zi zq118)), some (.int (zi z172)), some (.int (zi 2)), some (.int (zi ((p0 + 6) + 6))), some (.int (zi 2))]) (S' := [.ref m, .ref m]) rfl ?_
                                                  refine gs_gtk rfl (by decide) rfl sh961.1 tm rfl rfl s983 ?_
                                                  refine gz_s 1 (pc' := 386) (L' := [some (.ref m), some (.int (zi by2)), some (.int (zi mk)), some (.int (zi bg)), some (.int (zi n)), some (.int (zi zq78)), some (.int (zi zq118)), some (.int (zi z172)), some (.int (zi 2)), some (.int (zi ((p0 + 6) + 6))), some (.int (zi 2))]) (S' := [.int (zi 2), .ref c553, .ref m]) rfl ?_
                                                  have hl988 : 3 ≤ h961.2.2.2.1 c553 ∧ h961.2.2.2.1 c553 ≤ 3 := gJ.rowl (G := gGG) sh961.1 tc553 rfl
                                                  refine gs_alx rfl (by decide) sh961.1 tc553 rfl rfl rfl (by decide) (fun _ => rfl) (by omega) (by omega) (by decide) pr971 (fun ex989 ax989 bx989 => ?_)
                                                  refine gz_s 1 (pc' := 388) (L' := [some (.ref m), some (.int (zi by2)), some (.int (zi mk)), some (.int (zi bg)), some (.int (zi n)), some (.int (zi zq78)), some (.int (zi zq118)), some (.int (zi z172)), some (.int (zi 2)), some (.int (zi ((p0 + 6) + 6))), some (.int (zi 2))]) (S' := [.int (zi 1), .int (zi (z930 / 16)), .ref m]) rfl ?_
                                                  have jn990 : ∀ (jn990v0 : Int), ((0 ≤ jn990v0) ∧ (jn990v0 ≤ 1) ∧ (jn990v0 = 1 → (1 ≤ z930 / 16 ∧ z930 / 16 ≤ 2 ∧ 1 ≤ z959 % 16 ∧ z959 % 16 ≤ 2))) → gz gPP gGG gcn (d + 4) gt165 429 [some (.ref m), some (.int (zi by2)), some (.int (zi mk)), some (.int (zi bg)), some (.int (zi n)), some (.int (zi zq78)), some (.int (zi zq118)), some (.int (zi z172)), some (.int (zi 2)), some (.int (zi ((p0 + 6) + 6))), some (.int (zi 2))] [.int (zi jn990v0), .ref m] h961 (fun q _ => gSs rT 1027 ty [1007, 1016, 1017, 1018, 1019, 1020, 1021, 1022, 1023, 1024, 11999, 12999, 13999, 14999, 15999, 16999, 17999, 18999, 19999, 23999, 24999] h q.2.2 ∧ ∃ f1 ip1 w1 hh1 wd1 hg1 bs1 : Int, gfin gt165 q.1 q.2.1 = some none ∧ q.2.2.2.2.2.2 m 7 = .int (zi f1) ∧ (-1) ≤ f1 ∧ f1 ≤ 4000 ∧ q.2.2.2.2.2.2 m 16 = .int (zi ip1) ∧ 0 ≤ ip1 ∧ ip1 ≤ 1 ∧ q.2.2.2.2.2.2 m 18 = .int (zi w1) ∧ 0 ≤ w1 ∧ w1 ≤ 64 ∧ q.2.2.2.2.2.2 m 19 = .int (zi hh1) ∧ 0 ≤ hh1 ∧ hh1 ≤ 64 ∧ q.2.2.2.2.2.2 m 21 = .int (zi wd1) ∧ 0 ≤ wd1 ∧ wd1 ≤ 2 ∧ q.2.2.2.2.2.2 m 22 = .int (zi hg1) ∧ 0 ≤ hg1 ∧ hg1 ≤ 2 ∧ q.2.2.2.2.2.2 m 20 = .int (zi bs1) ∧ 0 ≤ bs1 ∧ bs1 ≤ 3 ∧ (gPi ty ip1 w1 hh1 wd1 hg1 bs1 q.2.2)) := by
                                                    intro jn990v0 jn990d
                                                    refine gy_s 3 (pc' := 433) (L' := [some (.ref m), some (.int (zi by2)), some (.int (zi mk)), some (.int (zi bg)), some (.int (zi n)), some (.int (zi zq78)), some (.int (zi zq118)), some (.int (zi z172)), some (.int (zi 2)), some (.int (zi ((p0 + 6) + 6))), some (.int (zi 2))]) (S' := [.int ((zi ((p0 + 6) + 6)) + (zi 1)), .int (zi jn990v0), .ref m]) (L2 := [some (.ref m), some (.int (zi by2)), some (.int (zi mk)), some (.int (zi bg)), some (.int (zi n)), some (.int (zi zq78)), some (.int (zi zq118)), some (.int (zi z172)), some (.int (zi 2)), some (.int (zi ((p0 + 6) + 6))), some (.int (zi 2))]) (S2 := [.int (zi (((p0 + 6) + 6) + 1)), .int (zi jn990v0), .ref m]) rfl (by simp only [zi_add, zi_sub, zi_mul, zi_neg, zi_and1, zi_and7, zi_and15, zi_and31, zi_and255, Int.reduceAdd, Int.reduceMul, Int.reduceSub]) (by simp only [zi_add, zi_sub, zi_mul, zi_neg, zi_and1, zi_and7, zi_and15, zi_and31, zi_and255, Int.reduceAdd, Int.reduceMul, Int.reduceSub]) ?_
                                                    refine gz_call rfl (by decide) rfl (by decide) (by decide) (gcal_of rfl rfl rfl (Nat.le_of_ble_eq_true rfl) (gJ.recv (G := gGG) sh961.1 tm rfl rfl)) (mm_must _ sh961.1 m tm jn990v0 (by omega) (((p0 + 6) + 6) + 1) (by omega) fq905_0 s986 (by omega)) (fun q991 _ wq991 => ?_)
                                                    obtain ⟨pq991, oq991, hq991⟩ := q991
                                                    obtain ⟨xq991, zq991, fq991_0, gq991, aq991, bq991, efq991_0, afq991_0, bfq991_0, uq991_0, uq991_1⟩ := wq991
                                                    refine ⟨_, gq991, ?_⟩
                                                    show gz gPP gGG gcn _ _ 436 [some (.ref m), some (.int (zi by2)), some (.int (zi mk)), some (.int (zi bg)), some (.int (zi n)), some (.int (zi zq78)), some (.int (zi zq118)), some (.int (zi z172)), some (.int (zi 2)), some (.int (zi ((p0 + 6) + 6))), some (.int (zi 2))] [.int (zi zq991)] hq991 _
                                                    have sq991 := gSs.tr sh961 xq991 (by decide)
                                                    have s992 := (xq991.2.2.2.2.2 m 5 (by rw [tm]; decide)).trans s972
                                                    have s993 := (xq991.2.2.2.2.2 m 6 (by rw [tm]; decide)).trans s973
                                                    have s994 := (xq991.2.2.2.2.2 m 3 (by rw [tm]; decide)).trans s974
                                                    have s995 := (xq991.2.2.2.2.2 m 16 (by rw [tm]; decide)).trans s975
                                                    have s996 := (xq991.2.2.2.2.2 m 18 (by rw [tm]; decide)).trans s976
                                                    have s997 := (xq991.2.2.2.2.2 m 19 (by rw [tm]; decide)).trans s977
                                                    have s998 := (xq991.2.2.2.2.2 m 21 (by rw [tm]; decide)).trans s978
                                                    have s999 := (xq991.2.2.2.2.2 m 22 (by rw [tm]; decide)).trans s979
                                                    have s1000 := (xq991.2.2.2.2.2 m 20 (by rw [tm]; decide)).trans s980
                                                    have s1001 := (xq991.2.2.2.2.2 m 4 (by rw [tm]; decide)).trans s981
                                                    have s1002 := (xq991.2.2.2.2.2 m 25 (by rw [tm]; decide)).trans s982
                                                    have s1003 := (xq991.2.2.2.2.2 m 26 (by rw [tm]; decide)).trans s983
                                                    have s1004 := (xq991.2.2.2.2.2 m 27 (by rw [tm]; decide)).trans s984
                                                    have s1005 := (xq991.2.2.2.2.2 m 28 (by rw [tm]; decide)).trans s985
                                                    have pr1006 := gEl.fr xq991.2 (by decide) (fun _ => rfl) pr962
                                                    have pr1007 := gEl.fr xq991.2 (by decide) (fun _ => rfl) pr963
                                                    have pr1008 := gEl.fr xq991.2 (by decide) (fun _ => rfl) pr964
                                                    have pr1009 := gEl.fr xq991.2 (by decide) (fun _ => rfl) pr965
                                                    have pr1010 := gEl.fr xq991.2 (by decide) (fun _ => rfl) pr966
                                                    have pr1011 := gEl.fr xq991.2 (by decide) (fun _ => rfl) pr967
                                                    have pr1012 := gEl.fr xq991.2 (by decide) (fun _ => rfl) pr968
                                                    have pr1013 := gEl.fr xq991.2 (by decide) (fun _ => rfl) pr969
                                                    have pr1014 := gEl.fr xq991.2 (by decide) (fun _ => rfl) pr970
                                                    have pr1015 := gEl.fr xq991.2 (by decide) (fun _ => rfl) pr971
                                                    have pr1016 := gEl.fr xq991.2 (by decide) (fun _ => rfl) pr987
                                                    clear s972 s973 s974 s975 s976 s977 s978 s979 s980 s981 s982 s983 s984 s985 s986 pr962 pr963 pr964 pr965 pr966 pr967 pr968 pr969 pr970 pr971 pr987
                                                    refine gz_s 2 (pc' := 438) (L' := [some (.ref m), some (.int (zi by2)), some (.int (zi mk)), some (.int (zi bg)), some (.int (zi n)), some (.int (zi zq78)), some (.int (zi zq118)), some (.int (zi z172)), some (.int (zi 2)), some (.int (zi ((p0 + 6) + 6))), some (.int (zi 2))]) (S' := [.ref m]) rfl ?_
                                                    refine gs_gtk rfl (by decide) rfl sq991.1 tm rfl rfl s1005 ?_
                                                    refine gz_s 2 (pc' := 444) (L' := [some (.ref m), some (.int (zi by2)), some (.int (zi mk)), some (.int (zi bg)), some (.int (zi n)), some (.int (zi zq78)), some (.int (zi zq118)), some (.int (zi z172)), some (.int (zi 2)), some (.int (zi ((p0 + 6) + 6))), some (.int (zi 2))]) (S' := [.ref m, .int (zi 2), .ref c615]) rfl ?_
                                                    refine gs_gtk rfl (by decide) rfl sq991.1 tm rfl rfl s1001 ?_
                                                    refine gy_s 3 (pc' := 451) (L' := [some (.ref m), some (.int (zi by2)), some (.int (zi mk)), some (.int (zi bg)), some (.int (zi n)), some (.int (zi zq78)), some (.int (zi zq118)), some (.int (zi z172)), some (.int (zi 2)), some (.int (zi ((p0 + 6) + 6))), some (.int (zi 2))]) (S' := [.int ((zi ((p0 + 6) + 6)) + (zi 2)), .ref c49, .int (zi 2), .ref c615]) (L2 := [some (.ref m), some (.int (zi by2)), some (.int (zi mk)), some (.int (zi bg)), some (.int (zi n)), some (.int (zi zq78)), some (.int (zi zq118)), some (.int (zi z172)), some (.int (zi 2)), some (.int (zi ((p0 + 6) + 6))), some (.int (zi 2))]) (S2 := [.int (zi (((p0 + 6) + 6) + 2)), .ref c49, .int (zi 2), .ref c615]) rfl (by simp only [zi_add, zi_sub, zi_mul, zi_neg, zi_and1, zi_and7, zi_and15, zi_and31, zi_and255, Int.reduceAdd, Int.reduceMul, Int.reduceSub]) (by simp only [zi_add, zi_sub, zi_mul, zi_neg, zi_and1, zi_and7, zi_and15, zi_and31, zi_and255, Int.reduceAdd, Int.reduceMul, Int.reduceSub]) ?_
                                                    have hl1017 : 2000 ≤ hq991.2.2.2.1 c49 ∧ hq991.2.2.2.1 c49 ≤ 2000 := gJ.rowl (G := gGG) sq991.1 tc49 rfl
                                                    refine gs_ald rfl (by decide) sq991.1 tc49 rfl rfl rfl (by decide) (fun _ => rfl) (by omega) (by omega) (fun z1018 ez1018 az1018 bz1018 => ?_)
                                                    have hl1019 : 3 ≤ hq991.2.2.2.1 c615 ∧ hq991.2.2.2.1 c615 ≤ 3 := gJ.rowl (G := gGG) sq991.1 tc615 rfl
                                                    refine gs_ast rfl (by decide) sq991 tc615 rfl rfl rfl (by decide) (fun _ => rfl) (by omega) (by omega) (fun _ => (by decide : (14999 : Nat) ∈ ([1007, 1016, 1017, 1018, 1019, 1020, 1021, 1022, 1023, 1024, 11999, 12999, 13999, 14999, 15999, 16999, 17999, 18999, 19999, 23999, 24999] : List Nat))) (by omega) (by omega) (fun h1020 sh1020 eh1020 fh1020 => ?_)
                                                    have pr1021 := gEl.pt fh1020 tc615 (by decide) pr1006
                                                    have pr1022 := gEl.pt fh1020 tc615 (by decide) pr1007
                                                    have pr1023 := gEl.pt fh1020 tc615 (by decide) pr1008
                                                    have pr1024 := gEl.ot fh1020 pr1009 (i := 2) (by omega)
                                                    have pr1025 := gEl.pt fh1020 tc615 (by decide) pr1010
                                                    have pr1026 := gEl.pt fh1020 tc615 (by decide) pr1011
                                                    have pr1027 := gEl.pt fh1020 tc615 (by decide) pr1012
                                                    have pr1028 := gEl.ot fh1020 pr1013 (i := 2) (by omega)
                                                    have pr1029 := gEl.pt fh1020 tc615 (by decide) pr1014
                                                    have pr1030 := gEl.pt fh1020 tc615 (by decide) pr1015
                                                    have pr1031 := gEl.pt fh1020 tc615 (by decide) pr1016
                                                    have s1032 := (fh1020 m 5 (fun q => absurd (((tm).symm.trans (congrArg ty q.1)).trans tc615) (by decide))).trans s992
                                                    have s1033 := (fh1020 m 6 (fun q => absurd (((tm).symm.trans (congrArg ty q.1)).trans tc615) (by decide))).trans s993
                                                    have s1034 := (fh1020 m 3 (fun q => absurd (((tm).symm.trans (congrArg ty q.1)).trans tc615) (by decide))).trans s994
                                                    have s1035 := (fh1020 m 16 (fun q => absurd (((tm).symm.trans (congrArg ty q.1)).trans tc615) (by decide))).trans s995
                                                    have s1036 := (fh1020 m 18 (fun q => absurd (((tm).symm.trans (congrArg ty q.1)).trans tc615) (by decide))).trans s996
                                                    have s1037 := (fh1020 m 19 (fun q => absurd (((tm).symm.trans (congrArg ty q.1)).trans tc615) (by decide))).trans s997
                                                    have s1038 := (fh1020 m 21 (fun q => absurd (((tm).symm.trans (congrArg ty q.1)).trans tc615) (by decide))).trans s998
                                                    have s1039 := (fh1020 m 22 (fun q => absurd (((tm).symm.trans (congrArg ty q.1)).trans tc615) (by decide))).trans s999
                                                    have s1040 := (fh1020 m 20 (fun q => absurd (((tm).symm.trans (congrArg ty q.1)).trans tc615) (by decide))).trans s1000
                                                    have s1041 := (fh1020 m 4 (fun q => absurd (((tm).symm.trans (congrArg ty q.1)).trans tc615) (by decide))).trans s1001
                                                    have s1042 := (fh1020 m 25 (fun q => absurd (((tm).symm.trans (congrArg ty q.1)).trans tc615) (by decide))).trans s1002
                                                    have s1043 := (fh1020 m 26 (fun q => absurd (((tm).symm.trans (congrArg ty q.1)).trans tc615) (by decide))).trans s1003
                                                    have s1044 := (fh1020 m 27 (fun q => absurd (((tm).symm.trans (congrArg ty q.1)).trans tc615) (by decide))).trans s1004
                                                    have s1045 := (fh1020 m 28 (fun q => absurd (((tm).symm.trans (congrArg ty q.1)).trans tc615) (by decide))).trans s1005
                                                    have s1046 := (fh1020 m 7 (fun q => absurd (((tm).symm.trans (congrArg ty q.1)).trans tc615) (by decide))).trans efq991_0
                                                    clear s992 s993 s994 s995 s996 s997 s998 s999 s1000 s1001 s1002 s1003 s1004 s1005 pr1006 pr1007 pr1008 pr1009 pr1010 pr1011 pr1012 pr1013 pr1014 pr1015 pr1016
                                                    have pr1047 := gEl.set (i := 2) (z := z1018) uq tc615 (by decide) eh1020 (by omega) (by omega)
                                                    refine gz_s 2 (pc' := 455) (L' := [some (.ref m), some (.int (zi by2)), some (.int (zi mk)), some (.int (zi bg)), some (.int (zi n)), some (.int (zi zq78)), some (.int (zi zq118)), some (.int (zi z172)), some (.int (zi 2)), some (.int (zi ((p0 + 6) + 6))), some (.int (zi 2))]) (S' := [.ref m, .ref m]) rfl ?_
                                                    refine gs_gtk rfl (by decide) rfl sh1020.1 tm rfl rfl s1045 ?_
                                                    refine gz_s 1 (pc' := 460) (L' := [some (.ref m), some (.int (zi by2)), some (.int (zi mk)), some (.int (zi bg)), some (.int (zi n)), some (.int (zi zq78)), some (.int (zi zq118)), some (.int (zi z172)), some (.int (zi 2)), some (.int (zi ((p0 + 6) + 6))), some (.int (zi 2))]) (S' := [.int (zi 2), .ref c615, .ref m]) rfl ?_
                                                    have hl1048 : 3 ≤ h1020.2.2.2.1 c615 ∧ h1020.2.2.2.1 c615 ≤ 3 := gJ.rowl (G := gGG) sh1020.1 tc615 rfl
                                                    refine gs_alx rfl (by decide) sh1020.1 tc615 rfl rfl rfl (by decide) (fun _ => rfl) (by omega) (by omega) (by decide) pr1047 (fun ex1049 ax1049 bx1049 => ?_)
                                                    refine gz_s 1 (pc' := 462) (L' := [some (.ref m), some (.int (zi by2)), some (.int (zi mk)), some (.int (zi bg)), some (.int (zi n)), some (.int (zi zq78)), some (.int (zi zq118)), some (.int (zi z172)), some (.int (zi 2)), some (.int (zi ((p0 + 6) + 6))), some (.int (zi 2))]) (S' := [.int (zi 4), .int (zi z1018), .ref m]) rfl ?_
                                                    have jn1050 : ∀ (jn1050v0 : Int), ((0 ≤ jn1050v0) ∧ (jn1050v0 ≤ 1) ∧ (jn1050v0 = 1 → z1018 ≤ 3)) → gz gPP gGG gcn (d + 4) gt165 470 [some (.ref m), some (.int (zi by2)), some (.int (zi mk)), some (.int (zi bg)), some (.int (zi n)), some (.int (zi zq78)), some (.int (zi zq118)), some (.int (zi z172)), some (.int (zi 2)), some (.int (zi ((p0 + 6) + 6))), some (.int (zi 2))] [.int (zi jn1050v0), .ref m] h1020 (fun q _ => gSs rT 1027 ty [1007, 1016, 1017, 1018, 1019, 1020, 1021, 1022, 1023, 1024, 11999, 12999, 13999, 14999, 15999, 16999, 17999, 18999, 19999, 23999, 24999] h q.2.2 ∧ ∃ f1 ip1 w1 hh1 wd1 hg1 bs1 : Int, gfin gt165 q.1 q.2.1 = some none ∧ q.2.2.2.2.2.2 m 7 = .int (zi f1) ∧ (-1) ≤ f1 ∧ f1 ≤ 4000 ∧ q.2.2.2.2.2.2 m 16 = .int (zi ip1) ∧ 0 ≤ ip1 ∧ ip1 ≤ 1 ∧ q.2.2.2.2.2.2 m 18 = .int (zi w1) ∧ 0 ≤ w1 ∧ w1 ≤ 64 ∧ q.2.2.2.2.2.2 m 19 = .int (zi hh1) ∧ 0 ≤ hh1 ∧ hh1 ≤ 64 ∧ q.2.2.2.2.2.2 m 21 = .int (zi wd1) ∧ 0 ≤ wd1 ∧ wd1 ≤ 2 ∧ q.2.2.2.2.2.2 m 22 = .int (zi hg1) ∧ 0 ≤ hg1 ∧ hg1 ≤ 2 ∧ q.2.2.2.2.2.2 m 20 = .int (zi bs1) ∧ 0 ≤ bs1 ∧ bs1 ≤ 3 ∧ (gPi ty ip1 w1 hh1 wd1 hg1 bs1 q.2.2)) := by
                                                      intro jn1050v0 jn1050d
                                                      refine gy_s 3 (pc' := 474) (L' := [some (.ref m), some (.int (zi by2)), some (.int (zi mk)), some (.int (zi bg)), some (.int (zi n)), some (.int (zi zq78)), some (.int (zi zq118)), some (.int (zi z172)), some (.int (zi 2)), some (.int (zi ((p0 + 6) + 6))), some (.int (zi 2))]) (S' := [.int ((zi ((p0 + 6) + 6)) + (zi 2)), .int (zi jn1050v0), .ref m]) (L2 := [some (.ref m), some (.int (zi by2)), some (.int (zi mk)), some (.int (zi bg)), some (.int (zi n)), some (.int (zi zq78)), some (.int (zi zq118)), some (.int (zi z172)), some (.int (zi 2)), some (.int (zi ((p0 + 6) + 6))), some (.int (zi 2))]) (S2 := [.int (zi (((p0 + 6) + 6) + 2)), .int (zi jn1050v0), .ref m]) rfl (by simp only [zi_add, zi_sub, zi_mul, zi_neg, zi_and1, zi_and7, zi_and15, zi_and31, zi_and255, Int.reduceAdd, Int.reduceMul, Int.reduceSub]) (by simp only [zi_add, zi_sub, zi_mul, zi_neg, zi_and1, zi_and7, zi_and15, zi_and31, zi_and255, Int.reduceAdd, Int.reduceMul, Int.reduceSub]) ?_
                                                      refine gz_call rfl (by decide) rfl (by decide) (by decide) (gcal_of rfl rfl rfl (Nat.le_of_ble_eq_true rfl) (gJ.recv (G := gGG) sh1020.1 tm rfl rfl)) (mm_must _ sh1020.1 m tm jn1050v0 (by omega) (((p0 + 6) + 6) + 2) (by omega) fq991_0 s1046 (by omega)) (fun q1051 _ wq1051 => ?_)
                                                      obtain ⟨pq1051, oq1051, hq1051⟩ := q1051
                                                      obtain ⟨xq1051, zq1051, fq1051_0, gq1051, aq1051, bq1051, efq1051_0, afq1051_0, bfq1051_0, uq1051_0, uq1051_1⟩ := wq1051
                                                      refine ⟨_, gq1051, ?_⟩
                                                      show gz gPP gGG gcn _ _ 477 [some (.ref m), some (.int (zi by2)), some (.int (zi mk)), some (.int (zi bg)), some (.int (zi n)), some (.int (zi zq78)), some (.int (zi zq118)), some (.int (zi z172)), some (.int (zi 2)), some (.int (zi ((p0 + 6) + 6))), some (.int (zi 2))] [.int (zi zq1051)] hq1051 _
                                                      have sq1051 := gSs.tr sh1020 xq1051 (by decide)
                                                      have s1052 := (xq1051.2.2.2.2.2 m 5 (by rw [tm]; decide)).trans s1032
                                                      have s1053 := (xq1051.2.2.2.2.2 m 6 (by rw [tm]; decide)).trans s1033
                                                      have s1054 := (xq1051.2.2.2.2.2 m 3 (by rw [tm]; decide)).trans s1034
                                                      have s1055 := (xq1051.2.2.2.2.2 m 16 (by rw [tm]; decide)).trans s1035
                                                      have s1056 := (xq1051.2.2.2.2.2 m 18 (by rw [tm]; decide)).trans s1036
                                                      have s1057 := (xq1051.2.2.2.2.2 m 19 (by rw [tm]; decide)).trans s1037
                                                      have s1058 := (xq1051.2.2.2.2.2 m 21 (by rw [tm]; decide)).trans s1038
                                                      have s1059 := (xq1051.2.2.2.2.2 m 22 (by rw [tm]; decide)).trans s1039
                                                      have s1060 := (xq1051.2.2.2.2.2 m 20 (by rw [tm]; decide)).trans s1040
                                                      have s1061 := (xq1051.2.2.2.2.2 m 4 (by rw [tm]; decide)).trans s1041
                                                      have s1062 := (xq1051.2.2.2.2.2 m 25 (by rw [tm]; decide)).trans s1042
                                                      have s1063 := (xq1051.2.2.2.2.2 m 26 (by rw [tm]; decide)).trans s1043
                                                      have s1064 := (xq1051.2.2.2.2.2 m 27 (by rw [tm]; decide)).trans s1044
                                                      have s1065 := (xq1051.2.2.2.2.2 m 28 (by rw [tm]; decide)).trans s1045
                                                      have pr1066 := gEl.fr xq1051.2 (by decide) (fun _ => rfl) pr1021
                                                      have pr1067 := gEl.fr xq1051.2 (by decide) (fun _ => rfl) pr1022
                                                      have pr1068 := gEl.fr xq1051.2 (by decide) (fun _ => rfl) pr1023
                                                      have pr1069 := gEl.fr xq1051.2 (by decide) (fun _ => rfl) pr1024
                                                      have pr1070 := gEl.fr xq1051.2 (by decide) (fun _ => rfl) pr1025
                                                      have pr1071 := gEl.fr xq1051.2 (by decide) (fun _ => rfl) pr1026
                                                      have pr1072 := gEl.fr xq1051.2 (by decide) (fun _ => rfl) pr1027
                                                      have pr1073 := gEl.fr xq1051.2 (by decide) (fun _ => rfl) pr1028
                                                      have pr1074 := gEl.fr xq1051.2 (by decide) (fun _ => rfl) pr1029
                                                      have pr1075 := gEl.fr xq1051.2 (by decide) (fun _ => rfl) pr1030
                                                      have pr1076 := gEl.fr xq1051.2 (by decide) (fun _ => rfl) pr1031
                                                      have pr1077 := gEl.fr xq1051.2 (by decide) (fun _ => rfl) pr1047
                                                      clear s1032 s1033 s1034 s1035 s1036 s1037 s1038 s1039 s1040 s1041 s1042 s1043 s1044 s1045 s1046 pr1021 pr1022 pr1023 pr1024 pr1025 pr1026 pr1027 pr1028 pr1029 pr1030 pr1031 pr1047
                                                      refine gy_s 5 (pc' := 257) (L' := [some (.ref m), some (.int (zi by2)), some (.int (zi mk)), some (.int (zi bg)), some (.int (zi n)), some (.int (zi zq78)), some (.int (zi zq118)), some (.int (zi z172)), some (.int ((zi 2) + zi 1)), some (.int (zi ((p0 + 6) + 6))), some (.int (zi 2))]) (S' := [.int (zi z172), .int ((zi 2) + zi 1)]) (L2 := [some (.ref m), some (.int (zi by2)), some (.int (zi mk)), some (.int (zi bg)), some (.int (zi n)), some (.int (zi zq78)), some (.int (zi zq118)), some (.int (zi z172)), some (.int (zi 3)), some (.int (zi ((p0 + 6) + 6))), some (.int (zi 2))]) (S2 := [.int (zi z172), .int (zi 3)]) rfl (by simp only [zi_add, zi_sub, zi_mul, zi_neg, zi_and1, zi_and7, zi_and15, zi_and31, zi_and255, Int.reduceAdd, Int.reduceMul, Int.reduceSub]) (by simp only [zi_add, zi_sub, zi_mul, zi_neg, zi_and1, zi_and7, zi_and15, zi_and31, zi_and255, Int.reduceAdd, Int.reduceMul, Int.reduceSub]) ?_
                                                      refine gy_icT (pc' := 484) rfl (by decide) (by decide) (by omega) (by omega) (by first | (simp [zc]; done) | (simp only [zc]; omega)) ?_
                                                      refine gz_s 1 (pc' := 485) (L' := [some (.ref m), some (.int (zi by2)), some (.int (zi mk)), some (.int (zi bg)), some (.int (zi n)), some (.int (zi zq78)), some (.int (zi zq118)), some (.int (zi z172)), some (.int (zi 3)), some (.int (zi ((p0 + 6) + 6))), some (.int (zi 2))]) (S' := [.ref m]) rfl ?_
                                                      refine gs_gtk rfl (by decide) rfl sq1051.1 tm rfl rfl efq1051_0 ?_
                                                      refine gz_s 1 (pc' := 489) (L' := [some (.ref m), some (.int (zi by2)), some (.int (zi mk)), some (.int (zi bg)), some (.int (zi n)), some (.int (zi zq78)), some (.int (zi zq118)), some (.int (zi z172)), some (.int (zi 3)), some (.int (zi ((p0 + 6) + 6))), some (.int (zi 2))]) (S' := [.int (zi (-1)), .int (zi fq1051_0)]) rfl ?_
                                                      by_cases hc1078 : (fq1051_0 : Int) = (-1)
                                                      · refine gy_icT (pc' := 493) rfl (by decide) (by decide) (by omega) (by omega) hc1078 ?_
                                                        refine gz_s 2 (pc' := 495) (L' := [some (.ref m), some (.int (zi by2)), some (.int (zi mk)), some (.int (zi bg)), some (.int (zi n)), some (.int (zi zq78)), some (.int (zi zq118)), some (.int (zi z172)), some (.int (zi 3)), some (.int (zi ((p0 + 6) + 6))), some (.int (zi 2))]) (S' := [.int (zi 1), .ref m]) rfl ?_
                                                        refine gs_put rfl (by decide) rfl sq1051 tm rfl rfl rfl rfl (Or.inl rfl) (by decide) (by omega) (by omega) (fun h1079 sh1079 eh1079 fh1079 => ?_)
                                                        have pr1080 := gEl.pt fh1079 tm (by decide) pr1066
                                                        have pr1081 := gEl.pt fh1079 tm (by decide) pr1067
                                                        have pr1082 := gEl.pt fh1079 tm (by decide) pr1068
                                                        have pr1083 := gEl.pt fh1079 tm (by decide) pr1069
                                                        have pr1084 := gEl.pt fh1079 tm (by decide) pr1070
                                                        have pr1085 := gEl.pt fh1079 tm (by decide) pr1071
                                                        have pr1086 := gEl.pt fh1079 tm (by decide) pr1072
                                                        have pr1087 := gEl.pt fh1079 tm (by decide) pr1073
                                                        have pr1088 := gEl.pt fh1079 tm (by decide) pr1074
                                                        have pr1089 := gEl.pt fh1079 tm (by decide) pr1075
                                                        have pr1090 := gEl.pt fh1079 tm (by decide) pr1076
                                                        have pr1091 := gEl.pt fh1079 tm (by decide) pr1077
                                                        have s1092 := (fh1079 m 5 (fun q => absurd q.2 (by decide))).trans s1052
                                                        have s1093 := (fh1079 m 6 (fun q => absurd q.2 (by decide))).trans s1053
                                                        have s1094 := (fh1079 m 3 (fun q => absurd q.2 (by decide))).trans s1054
                                                        have s1095 := (fh1079 m 18 (fun q => absurd q.2 (by decide))).trans s1056
                                                        have s1096 := (fh1079 m 19 (fun q => absurd q.2 (by decide))).trans s1057
                                                        have s1097 := (fh1079 m 21 (fun q => absurd q.2 (by decide))).trans s1058
                                                        have s1098 := (fh1079 m 22 (fun q => absurd q.2 (by decide))).trans s1059
                                                        have s1099 := (fh1079 m 20 (fun q => absurd q.2 (by decide))).trans s1060
                                                        have s1100 := (fh1079 m 4 (fun q => absurd q.2 (by decide))).trans s1061
                                                        have s1101 := (fh1079 m 25 (fun q => absurd q.2 (by decide))).trans s1062
                                                        have s1102 := (fh1079 m 26 (fun q => absurd q.2 (by decide))).trans s1063
                                                        have s1103 := (fh1079 m 27 (fun q => absurd q.2 (by decide))).trans s1064
                                                        have s1104 := (fh1079 m 28 (fun q => absurd q.2 (by decide))).trans s1065
                                                        have s1105 := (fh1079 m 7 (fun q => absurd q.2 (by decide))).trans efq1051_0
                                                        clear s1052 s1053 s1054 s1055 s1056 s1057 s1058 s1059 s1060 s1061 s1062 s1063 s1064 s1065 pr1066 pr1067 pr1068 pr1069 pr1070 pr1071 pr1072 pr1073 pr1074 pr1075 pr1076 pr1077
                                                        refine gz_s 2 (pc' := 500) (L' := [some (.ref m), some (.int (zi by2)), some (.int (zi mk)), some (.int (zi bg)), some (.int (zi n)), some (.int (zi zq78)), some (.int (zi zq118)), some (.int (zi z172)), some (.int (zi 3)), some (.int (zi ((p0 + 6) + 6))), some (.int (zi 2))]) (S' := [.int (zi by2), .ref m]) rfl ?_
                                                        refine gs_put rfl (by decide) rfl sh1079 tm rfl rfl rfl (gfit_z (by omega)) (Or.inl rfl) (by decide) (by omega) (by omega) (fun h1106 sh1106 eh1106 fh1106 => ?_)
                                                        have pr1107 := gEl.pt fh1106 tm (by decide) pr1080
                                                        have pr1108 := gEl.pt fh1106 tm (by decide) pr1081
                                                        have pr1109 := gEl.pt fh1106 tm (by decide) pr1082
                                                        have pr1110 := gEl.pt fh1106 tm (by decide) pr1083
                                                        have pr1111 := gEl.pt fh1106 tm (by decide) pr1084
                                                        have pr1112 := gEl.pt fh1106 tm (by decide) pr1085
                                                        have pr1113 := gEl.pt fh1106 tm (by decide) pr1086
                                                        have pr1114 := gEl.pt fh1106 tm (by decide) pr1087
                                                        have pr1115 := gEl.pt fh1106 tm (by decide) pr1088
                                                        have pr1116 := gEl.pt fh1106 tm (by decide) pr1089
                                                        have pr1117 := gEl.pt fh1106 tm (by decide) pr1090
                                                        have pr1118 := gEl.pt fh1106 tm (by decide) pr1091
                                                        have s1119 := (fh1106 m 5 (fun q => absurd q.2 (by decide))).trans s1092
                                                        have s1120 := (fh1106 m 6 (fun q => absurd q.2 (by decide))).trans s1093
                                                        have s1121 := (fh1106 m 3 (fun q => absurd q.2 (by decide))).trans s1094
                                                        have s1122 := (fh1106 m 18 (fun q => absurd q.2 (by decide))).trans s1095
                                                        have s1123 := (fh1106 m 19 (fun q => absurd q.2 (by decide))).trans s1096
                                                        have s1124 := (fh1106 m 21 (fun q => absurd q.2 (by decide))).trans s1097
                                                        have s1125 := (fh1106 m 22 (fun q => absurd q.2 (by decide))).trans s1098
                                                        have s1126 := (fh1106 m 20 (fun q => absurd q.2 (by decide))).trans s1099
                                                        have s1127 := (fh1106 m 4 (fun q => absurd q.2 (by decide))).trans s1100
                                                        have s1128 := (fh1106 m 25 (fun q => absurd q.2 (by decide))).trans s1101
                                                        have s1129 := (fh1106 m 26 (fun q => absurd q.2 (by decide))).trans s1102
                                                        have s1130 := (fh1106 m 27 (fun q => absurd q.2 (by decide))).trans s1103
                                                        have s1131 := (fh1106 m 28 (fun q => absurd q.2 (by decide))).trans s1104
                                                        have s1132 := (fh1106 m 7 (fun q => absurd q.2 (by decide))).trans s1105
                                                        have s1133 := (fh1106 m 16 (fun q => absurd q.2 (by decide))).trans eh1079
                                                        clear s1092 s1093 s1094 s1095 s1096 s1097 s1098 s1099 s1100 s1101 s1102 s1103 s1104 s1105 pr1080 pr1081 pr1082 pr1083 pr1084 pr1085 pr1086 pr1087 pr1088 pr1089 pr1090 pr1091
                                                        refine gz_s 2 (pc' := 506) (L' := [some (.ref m), some (.int (zi by2)), some (.int (zi mk)), some (.int (zi bg)), some (.int (zi n)), some (.int (zi zq78)), some (.int (zi zq118)), some (.int (zi z172)), some (.int (zi 3)), some (.int (zi ((p0 + 6) + 6))), some (.int (zi 2))]) (S' := [.int (zi zq118), .ref m]) rfl ?_
                                                        refine gs_put rfl (by decide) rfl sh1106 tm rfl rfl rfl rfl (Or.inl rfl) (by decide) (by omega) (by omega) (fun h1134 sh1134 eh1134 fh1134 => ?_)
                                                        have pr1135 := gEl.pt fh1134 tm (by decide) pr1107
                                                        have pr1136 := gEl.pt fh1134 tm (by decide) pr1108
                                                        have pr1137 := gEl.pt fh1134 tm (by decide) pr1109
                                                        have pr1138 := gEl.pt fh1134 tm (by decide) pr1110
                                                        have pr1139 := gEl.pt fh1134 tm (by decide) pr1111
                                                        have pr1140 := gEl.pt fh1134 tm (by decide) pr1112
                                                        have pr1141 := gEl.pt fh1134 tm (by decide) pr1113
                                                        have pr1142 := gEl.pt fh1134 tm (by decide) pr1114
                                                        have pr1143 := gEl.pt fh1134 tm (by decide) pr1115
                                                        have pr1144 := gEl.pt fh1134 tm (by decide) pr1116
                                                        have pr1145 := gEl.pt fh1134 tm (by decide) pr1117
                                                        have pr1146 := gEl.pt fh1134 tm (by decide) pr1118
                                                        have s1147 := (fh1134 m 5 (fun q => absurd q.2 (by decide))).trans s1119
                                                        have s1148 := (fh1134 m 6 (fun q => absurd q.2 (by decide))).trans s1120
                                                        have s1149 := (fh1134 m 3 (fun q => absurd q.2 (by decide))).trans s1121
                                                        have s1150 := (fh1134 m 19 (fun q => absurd q.2 (by decide))).trans s1123
                                                        have s1151 := (fh1134 m 21 (fun q => absurd q.2 (by decide))).trans s1124
                                                        have s1152 := (fh1134 m 22 (fun q => absurd q.2 (by decide))).trans s1125
                                                        have s1153 := (fh1134 m 20 (fun q => absurd q.2 (by decide))).trans s1126
                                                        have s1154 := (fh1134 m 4 (fun q => absurd q.2 (by decide))).trans s1127
                                                        have s1155 := (fh1134 m 25 (fun q => absurd q.2 (by decide))).trans s1128
                                                        have s1156 := (fh1134 m 26 (fun q => absurd q.2 (by decide))).trans s1129
                                                        have s1157 := (fh1134 m 27 (fun q => absurd q.2 (by decide))).trans s1130
                                                        have s1158 := (fh1134 m 28 (fun q => absurd q.2 (by decide))).trans s1131
                                                        have s1159 := (fh1134 m 7 (fun q => absurd q.2 (by decide))).trans s1132
                                                        have s1160 := (fh1134 m 16 (fun q => absurd q.2 (by decide))).trans s1133
                                                        have s1161 := (fh1134 m 17 (fun q => absurd q.2 (by decide))).trans eh1106
                                                        clear s1119 s1120 s1121 s1122 s1123 s1124 s1125 s1126 s1127 s1128 s1129 s1130 s1131 s1132 s1133 pr1107 pr1108 pr1109 pr1110 pr1111 pr1112 pr1113 pr1114 pr1115 pr1116 pr1117 pr1118
                                                        refine gz_s 2 (pc' := 512) (L' := [some (.ref m), some (.int (zi by2)), some (.int (zi mk)), some (.int (zi bg)), some (.int (zi n)), some (.int (zi zq78)), some (.int (zi zq118)), some (.int (zi z172)), some (.int (zi 3)), some (.int (zi ((p0 + 6) + 6))), some (.int (zi 2))]) (S' := [.int (zi zq78), .ref m]) rfl ?_
                                                        refine gs_put rfl (by decide) rfl sh1134 tm rfl rfl rfl rfl (Or.inl rfl) (by decide) (by omega) (by omega) (fun h1162 sh1162 eh1162 fh1162 => ?_)
                                                        have pr1163 := gEl.pt fh1162 tm (by decide) pr1135
                                                        have pr1164 := gEl.pt fh1162 tm (by decide) pr1136
                                                        have pr1165 := gEl.pt fh1162 tm (by decide) pr1137
                                                        have pr1166 := gEl.pt fh1162 tm (by decide) pr1138
                                                        have pr1167 := gEl.pt fh1162 tm (by decide) pr1139
                                                        have pr1168 := gEl.pt fh1162 tm (by decide) pr1140
                                                        have pr1169 := gEl.pt fh1162 tm (by decide) pr1141
                                                        have pr1170 := gEl.pt fh1162 tm (by decide) pr1142
                                                        have pr1171 := gEl.pt fh1162 tm (by decide) pr1143
                                                        have pr1172 := gEl.pt fh1162 tm (by decide) pr1144
                                                        have pr1173 := gEl.pt fh1162 tm (by decide) pr1145
                                                        have pr1174 := gEl.pt fh1162 tm (by decide) pr1146
                                                        have s1175 := (fh1162 m 5 (fun q => absurd q.2 (by decide))).trans s1147
                                                        have s1176 := (fh1162 m 6 (fun q => absurd q.2 (by decide))).trans s1148
                                                        have s1177 := (fh1162 m 3 (fun q => absurd q.2 (by decide))).trans s1149
                                                        have s1178 := (fh1162 m 21 (fun q => absurd q.2 (by decide))).trans s1151
                                                        have s1179 := (fh1162 m 22 (fun q => absurd q.2 (by decide))).trans s1152
                                                        have s1180 := (fh1162 m 20 (fun q => absurd q.2 (by decide))).trans s1153
                                                        have s1181 := (fh1162 m 4 (fun q => absurd q.2 (by decide))).trans s1154
                                                        have s1182 := (fh1162 m 25 (fun q => absurd q.2 (by decide))).trans s1155
                                                        have s1183 := (fh1162 m 26 (fun q => absurd q.2 (by decide))).trans s1156
                                                        have s1184 := (fh1162 m 27 (fun q => absurd q.2 (by decide))).trans s1157
                                                        have s1185 := (fh1162 m 28 (fun q => absurd q.2 (by decide))).trans s1158
                                                        have s1186 := (fh1162 m 7 (fun q => absurd q.2 (by decide))).trans s1159
                                                        have s1187 := (fh1162 m 16 (fun q => absurd q.2 (by decide))).trans s1160
                                                        have s1188 := (fh1162 m 17 (fun q => absurd q.2 (by decide))).trans s1161
                                                        have s1189 := (fh1162 m 18 (fun q => absurd q.2 (by decide))).trans eh1134
                                                        clear s1147 s1148 s1149 s1150 s1151 s1152 s1153 s1154 s1155 s1156 s1157 s1158 s1159 s1160 s1161 pr1135 pr1136 pr1137 pr1138 pr1139 pr1140 pr1141 pr1142 pr1143 pr1144 pr1145 pr1146
                                                        refine gz_s 2 (pc' := 518) (L' := [some (.ref m), some (.int (zi by2)), some (.int (zi mk)), some (.int (zi bg)), some (.int (zi n)), some (.int (zi zq78)), some (.int (zi zq118)), some (.int (zi z172)), some (.int (zi 3)), some (.int (zi ((p0 + 6) + 6))), some (.int (zi 2))]) (S' := [.int (zi z172), .ref m]) rfl ?_
                                                        refine gs_put rfl (by decide) rfl sh1162 tm rfl rfl rfl rfl (Or.inl rfl) (by decide) (by omega) (by omega) (fun h1190 sh1190 eh1190 fh1190 => ?_)
                                                        have pr1191 := gEl.pt fh1190 tm (by decide) pr1163
                                                        have pr1192 := gEl.pt fh1190 tm (by decide) pr1164
                                                        have pr1193 := gEl.pt fh1190 tm (by decide) pr1165
                                                        have pr1194 := gEl.pt fh1190 tm (by decide) pr1166
                                                        have pr1195 := gEl.pt fh1190 tm (by decide) pr1167
                                                        have pr1196 := gEl.pt fh1190 tm (by decide) pr1168
                                                        have pr1197 := gEl.pt fh1190 tm (by decide) pr1169
                                                        have pr1198 := gEl.pt fh1190 tm (by decide) pr1170
                                                        have pr1199 := gEl.pt fh1190 tm (by decide) pr1171
                                                        have pr1200 := gEl.pt fh1190 tm (by decide) pr1172
                                                        have pr1201 := gEl.pt fh1190 tm (by decide) pr1173
                                                        have pr1202 := gEl.pt fh1190 tm (by decide) pr1174
                                                        have s1203 := (fh1190 m 5 (fun q => absurd q.2 (by decide))).trans s1175
                                                        have s1204 := (fh1190 m 6 (fun q => absurd q.2 (by decide))).trans s1176
                                                        have s1205 := (fh1190 m 3 (fun q => absurd q.2 (by decide))).trans s1177
                                                        have s1206 := (fh1190 m 21 (fun q => absurd q.2 (by decide))).trans s1178
                                                        have s1207 := (fh1190 m 22 (fun q => absurd q.2 (by decide))).trans s1179
                                                        have s1208 := (fh1190 m 4 (fun q => absurd q.2 (by decide))).trans s1181
                                                        have s1209 := (fh1190 m 25 (fun q => absurd q.2 (by decide))).trans s1182
                                                        have s1210 := (fh1190 m 26 (fun q => absurd q.2 (by decide))).trans s1183
                                                        have s1211 := (fh1190 m 27 (fun q => absurd q.2 (by decide))).trans s1184
                                                        have s1212 := (fh1190 m 28 (fun q => absurd q.2 (by decide))).trans s1185
                                                        have s1213 := (fh1190 m 7 (fun q => absurd q.2 (by decide))).trans s1186
                                                        have s1214 := (fh1190 m 16 (fun q => absurd q.2 (by decide))).trans s1187
                                                        have s1215 := (fh1190 m 17 (fun q => absurd q.2 (by decide))).trans s1188
                                                        have s1216 := (fh1190 m 18 (fun q => absurd q.2 (by decide))).trans s1189
                                                        have s1217 := (fh1190 m 19 (fun q => absurd q.2 (by decide))).trans eh1162
                                                        clear s1175 s1176 s1177 s1178 s1179 s1180 s1181 s1182 s1183 s1184 s1185 s1186 s1187 s1188 s1189 pr1163 pr1164 pr1165 pr1166 pr1167 pr1168 pr1169 pr1170 pr1171 pr1172 pr1173 pr1174
                                                        refine gz_s 1 (pc' := 522) (L' := [some (.ref m), some (.int (zi by2)), some (.int (zi mk)), some (.int (zi bg)), some (.int (zi n)), some (.int (zi zq78)), some (.int (zi zq118)), some (.int (zi z172)), some (.int (zi 3)), some (.int (zi ((p0 + 6) + 6))), some (.int (zi 2))]) (S' := [.ref m]) rfl ?_
                                                        refine gz_call rfl (by decide) rfl (by decide) (by decide) (gcal_of rfl rfl rfl (Nat.le_of_ble_eq_true rfl) (gJ.recv (G := gGG) sh1190.1 tm rfl rfl)) (mm_layOut3 _ sh1190.1 m tm zq118 s1216 (by omega) zq78 s1217 (by omega) z172 eh1190 (by omega) (z555 / 16) (by omega) (z575 % 16) (by omega) (z713 / 16) (by omega) (z738 % 16) (by omega) (z930 / 16) (by omega) (z959 % 16) (by omega) uq pr1192 pr1193 (gEl.wd pr1194 (by omega) (by omega)) pr1196 pr1197 (gEl.wd pr1198 (by omega) (by omega)) pr1200 pr1201 (gEl.wd pr1202 (by omega) (by omega))) (fun q1218 _ wq1218 => ?_)
                                                        obtain ⟨pq1218, oq1218, hq1218⟩ := q1218
                                                        obtain ⟨xq1218, fq1218_0, fq1218_1, gq1218, efq1218_0, afq1218_0, bfq1218_0, efq1218_1, afq1218_1, bfq1218_1, yq1218_0⟩ := wq1218
                                                        refine ⟨_, gq1218, ?_⟩
                                                        show gz gPP gGG gcn _ _ 525 [some (.ref m), some (.int (zi by2)), some (.int (zi mk)), some (.int (zi bg)), some (.int (zi n)), some (.int (zi zq78)), some (.int (zi zq118)), some (.int (zi z172)), some (.int (zi 3)), some (.int (zi ((p0 + 6) + 6))), some (.int (zi 2))] [] hq1218 _
                                                        have sq1218 := gSs.tr sh1190 xq1218 (by decide)
                                                        have s1219 := (xq1218.2.2.2.2.2 m 5 (by rw [tm]; decide)).trans s1203
                                                        have s1220 := (xq1218.2.2.2.2.2 m 6 (by rw [tm]; decide)).trans s1204
                                                        have s1221 := (xq1218.2.2.2.2.2 m 3 (by rw [tm]; decide)).trans s1205
                                                        have s1222 := (xq1218.2.2.2.2.2 m 4 (by rw [tm]; decide)).trans s1208
                                                        have s1223 := (xq1218.2.2.2.2.2 m 25 (by rw [tm]; decide)).trans s1209
                                                        have s1224 := (xq1218.2.2.2.2.2 m 26 (by rw [tm]; decide)).trans s1210
                                                        have s1225 := (xq1218.2.2.2.2.2 m 27 (by rw [tm]; decide)).trans s1211
                                                        have s1226 := (xq1218.2.2.2.2.2 m 28 (by rw [tm]; decide)).trans s1212
                                                        have s1227 := (xq1218.2.2.2.2.2 m 7 (by rw [tm]; decide)).trans s1213
                                                        have s1228 := (xq1218.2.2.2.2.2 m 16 (by rw [tm]; decide)).trans s1214
                                                        have s1229 := (xq1218.2.2.2.2.2 m 17 (by rw [tm]; decide)).trans s1215
                                                        have s1230 := (xq1218.2.2.2.2.2 m 18 (by rw [tm]; decide)).trans s1216
                                                        have s1231 := (xq1218.2.2.2.2.2 m 19 (by rw [tm]; decide)).trans s1217
                                                        have s1232 := (xq1218.2.2.2.2.2 m 20 (by rw [tm]; decide)).trans eh1190
                                                        have pr1233 := gEl.fr xq1218.2 (by decide) (fun _ => rfl) pr1191
                                                        have pr1234 := gEl.fr xq1218.2 (by decide) (fun _ => rfl) pr1192
                                                        have pr1235 := gEl.fr xq1218.2 (by decide) (fun _ => rfl) pr1193
                                                        have pr1236 := gEl.fr xq1218.2 (by decide) (fun _ => rfl) pr1194
                                                        have pr1237 := gEl.fr xq1218.2 (by decide) (fun _ => rfl) pr1195
                                                        have pr1238 := gEl.fr xq1218.2 (by decide) (fun _ => rfl) pr1196
                                                        have pr1239 := gEl.fr xq1218.2 (by decide) (fun _ => rfl) pr1197
                                                        have pr1240 := gEl.fr xq1218.2 (by decide) (fun _ => rfl) pr1198
                                                        have pr1241 := gEl.fr xq1218.2 (by decide) (fun _ => rfl) pr1199
                                                        have pr1242 := gEl.fr xq1218.2 (by decide) (fun _ => rfl) pr1200
                                                        have pr1243 := gEl.fr xq1218.2 (by decide) (fun _ => rfl) pr1201
                                                        have pr1244 := gEl.fr xq1218.2 (by decide) (fun _ => rfl) pr1202
                                                        clear s1203 s1204 s1205 s1206 s1207 s1208 s1209 s1210 s1211 s1212 s1213 s1214 s1215 s1216 s1217 pr1191 pr1192 pr1193 pr1194 pr1195 pr1196 pr1197 pr1198 pr1199 pr1200 pr1201 pr1202
                                                        have hpi1245 : gPi ty 1 zq118 zq78 fq1218_0 fq1218_1 z172 hq1218 := fun _ => yq1218_0
                                                        exact gz_end (I := .return_) (len := 1) rfl (Or.inl rfl) ⟨sq1218, fq1051_0, 1, zq118, zq78, fq1218_0, fq1218_1, z172, rfl, s1227, (by omega), (by omega), s1228, (by omega), (by omega), s1230, (by omega), (by omega), s1231, (by omega), (by omega), efq1218_0, (by omega), (by omega), efq1218_1, (by omega), (by omega), s1232, (by omega), (by omega), hpi1245⟩
                                                      · refine gy_icF rfl (by decide) (by decide) (by omega) (by omega) hc1078 ?_
                                                        have hpi1246 : gPi ty ip w hh wd hg bs hq1051 := fun e => absurd e (by omega)
                                                        exact gz_end (I := .return_) (len := 1) rfl (Or.inl rfl) ⟨sq1051, fq1051_0, ip, w, hh, wd, hg, bs, rfl, efq1051_0, (by omega), (by omega), s1055, (by omega), (by omega), s1056, (by omega), (by omega), s1057, (by omega), (by omega), s1058, (by omega), (by omega), s1059, (by omega), (by omega), s1060, (by omega), (by omega), hpi1246⟩
                                                    by_cases hc1247 : (4 : Int) ≤ z1018
                                                    · refine gy_icT (pc' := 469) rfl (by decide) (by decide) (by omega) (by omega) hc1247 ?_
                                                      refine gz_s 1 (pc' := 470) (L' := [some (.ref m), some (.int (zi by2)), some (.int (zi mk)), some (.int (zi bg)), some (.int (zi n)), some (.int (zi zq78)), some (.int (zi zq118)), some (.int (zi z172)), some (.int (zi 2)), some (.int (zi ((p0 + 6) + 6))), some (.int (zi 2))]) (S' := [.int (zi 0), .ref m]) rfl ?_
                                                      exact jn1050 0 (by omega)
                                                    · refine gy_icF rfl (by decide) (by decide) (by omega) (by omega) hc1247 ?_
                                                      refine gz_s 2 (pc' := 470) (L' := [some (.ref m), some (.int (zi by2)), some (.int (zi mk)), some (.int (zi bg)), some (.int (zi n)), some (.int (zi zq78)), some (.int (zi zq118)), some (.int (zi z172)), some (.int (zi 2)), some (.int (zi ((p0 + 6) + 6))), some (.int (zi 2))]) (S' := [.int (zi 1), .ref m]) rfl ?_
                                                      exact jn1050 1 (by omega)
                                                  by_cases hc1248 : (z930 / 16 : Int) < 1
                                                  · refine gy_icT (pc' := 428) rfl (by decide) (by decide) (by omega) (by omega) hc1248 ?_
                                                    refine gz_s 1 (pc' := 429) (L' := [some (.ref m), some (.int (zi by2)), some (.int (zi mk)), some (.int (zi bg)), some (.int (zi n)), some (.int (zi zq78)), some (.int (zi zq118)), some (.int (zi z172)), some (.int (zi 2)), some (.int (zi ((p0 + 6) + 6))), some (.int (zi 2))]) (S' := [.int (zi 0), .ref m]) rfl ?_
                                                    exact jn990 0 (by omega)
                                                  · refine gy_icF rfl (by decide) (by decide) (by omega) (by omega) hc1248 ?_
                                                    refine gz_s 1 (pc' := 392) (L' := [some (.ref m), some (.int (zi by2)), some (.int (zi mk)), some (.int (zi bg)), some (.int (zi n)), some (.int (zi zq78)), some (.int (zi zq118)), some (.int (zi z172)), some (.int (zi 2)), some (.int (zi ((p0 + 6) + 6))), some (.int (zi 2))]) (S' := [.ref m, .ref m]) rfl ?_
                                                    refine gs_gtk rfl (by decide) rfl sh961.1 tm rfl rfl s983 ?_
                                                    refine gz_s 1 (pc' := 397) (L' := [some (.ref m), some (.int (zi by2)), some (.int (zi mk)), some (.int (zi bg)), some (.int (zi n)), some (.int (zi zq78)), some (.int (zi zq118)), some (.int (zi z172)), some (.int (zi 2)), some (.int (zi ((p0 + 6) + 6))), some (.int (zi 2))]) (S' := [.int (zi 2), .ref c553, .ref m]) rfl ?_
                                                    have hl1249 : 3 ≤ h961.2.2.2.1 c553 ∧ h961.2.2.2.1 c553 ≤ 3 := gJ.rowl (G := gGG) sh961.1 tc553 rfl
                                                    refine gs_alx rfl (by decide) sh961.1 tc553 rfl rfl rfl (by decide) (fun _ => rfl) (by omega) (by omega) (by decide) pr971 (fun ex1250 ax1250 bx1250 => ?_)
                                                    refine gz_s 1 (pc' := 399) (L' := [some (.ref m), some (.int (zi by2)), some (.int (zi mk)), some (.int (zi bg)), some (.int (zi n)), some (.int (zi zq78)), some (.int (zi zq118)), some (.int (zi z172)), some (.int (zi 2)), some (.int (zi ((p0 + 6) + 6))), some (.int (zi 2))]) (S' := [.int (zi 2), .int (zi (z930 / 16)), .ref m]) rfl ?_
                                                    by_cases hc1251 : (2 : Int) < z930 / 16
                                                    · refine gy_icT (pc' := 428) rfl (by decide) (by decide) (by omega) (by omega) hc1251 ?_
                                                      refine gz_s 1 (pc' := 429) (L' := [some (.ref m), some (.int (zi by2)), some (.int (zi mk)), some (.int (zi bg)), some (.int (zi n)), some (.int (zi zq78)), some (.int (zi zq118)), some (.int (zi z172)), some (.int (zi 2)), some (.int (zi ((p0 + 6) + 6))), some (.int (zi 2))]) (S' := [.int (zi 0), .ref m]) rfl ?_
                                                      exact jn990 0 (by omega)
                                                    · refine gy_icF rfl (by decide) (by decide) (by omega) (by omega) hc1251 ?_
                                                      refine gz_s 1 (pc' := 403) (L' := [some (.ref m), some (.int (zi by2)), some (.int (zi mk)), some (.int (zi bg)), some (.int (zi n)), some (.int (zi zq78)), some (.int (zi zq118)), some (.int (zi z172)), some (.int (zi 2)), some (.int (zi ((p0 + 6) + 6))), some (.int (zi 2))]) (S' := [.ref m, .ref m]) rfl ?_
                                                      refine gs_gtk rfl (by decide) rfl sh961.1 tm rfl rfl s984 ?_
                                                      refine gz_s 1 (pc' := 408) (L' := [some (.ref m), some (.int (zi by2)), some (.int (zi mk)), some (.int (zi bg)), some (.int (zi n)), some (.int (zi zq78)), some (.int (zi zq118)), some (.int (zi z172)), some (.int (zi 2)), some (.int (zi ((p0 + 6) + 6))), some (.int (zi 2))]) (S' := [.int (zi 2), .ref c573, .ref m]) rfl ?_
                                                      have hl1252 : 3 ≤ h961.2.2.2.1 c573 ∧ h961.2.2.2.1 c573 ≤ 3 := gJ.rowl (G := gGG) sh961.1 tc573 rfl
                                                      refine gs_alx rfl (by decide) sh961.1 tc573 rfl rfl rfl (by decide) (fun _ => rfl) (by omega) (by omega) (by decide) pr987 (fun ex1253 ax1253 bx1253 => ?_)
                                                      refine gz_s 1 (pc' := 410) (L' := [some (.ref m), some (.int (zi by2)), some (.int (zi mk)), some (.int (zi bg)), some (.int (zi n)), some (.int (zi zq78)), some (.int (zi zq118)), some (.int (zi z172)), some (.int (zi 2)), some (.int (zi ((p0 + 6) + 6))), some (.int (zi 2))]) (S' := [.int (zi 1), .int (zi (z959 % 16)), .ref m]) rfl ?_
                                                      by_cases hc1254 : (z959 % 16 : Int) < 1
                                                      · refine gy_icT (pc' := 428) rfl (by decide) (by decide) (by omega) (by omega) hc1254 ?_
                                                        refine gz_s 1 (pc' := 429) (L' := [some (.ref m), some (.int (zi by2)), some (.int (zi mk)), some (.int (zi bg)), some (.int (zi n)), some (.int (zi zq78)), some (.int (zi zq118)), some (.int (zi z172)), some (.int (zi 2)), some (.int (zi ((p0 + 6) + 6))), some (.int (zi 2))]) (S' := [.int (zi 0), .ref m]) rfl ?_
                                                        exact jn990 0 (by omega)
                                                      · refine gy_icF rfl (by decide) (by decide) (by omega) (by omega) hc1254 ?_
                                                        refine gz_s 1 (pc' := 414) (L' := [some (.ref m), some (.int (zi by2)), some (.int (zi mk)), some (.int (zi bg)), some (.int (zi n)), some (.int (zi zq78)), some (.int (zi zq118)), some (.int (zi z172)), some (.int (zi 2)), some (.int (zi ((p0 + 6) + 6))), some (.int (zi 2))]) (S' := [.ref m, .ref m]) rfl ?_
                                                        refine gs_gtk rfl (by decide) rfl sh961.1 tm rfl rfl s984 ?_
                                                        refine gz_s 1 (pc' := 419) (L' := [some (.ref m), some (.int (zi by2)), some (.int (zi mk)), some (.int (zi bg)), some (.int (zi n)), some (.int (zi zq78)), some (.int (zi zq118)), some (.int (zi z172)), some (.int (zi 2)), some (.int (zi ((p0 + 6) + 6))), some (.int (zi 2))]) (S' := [.int (zi 2), .ref c573, .ref m]) rfl ?_
                                                        have hl1255 : 3 ≤ h961.2.2.2.1 c573 ∧ h961.2.2.2.1 c573 ≤ 3 := gJ.rowl (G := gGG) sh961.1 tc573 rfl
                                                        refine gs_alx rfl (by decide) sh961.1 tc573 rfl rfl rfl (by decide) (fun _ => rfl) (by omega) (by omega) (by decide) pr987 (fun ex1256 ax1256 bx1256 => ?_)
                                                        refine gz_s 1 (pc' := 421) (L' := [some (.ref m), some (.int (zi by2)), some (.int (zi mk)), some (.int (zi bg)), some (.int (zi n)), some (.int (zi zq78)), some (.int (zi zq118)), some (.int (zi z172)), some (.int (zi 2)), some (.int (zi ((p0 + 6) + 6))), some (.int (zi 2))]) (S' := [.int (zi 2), .int (zi (z959 % 16)), .ref m]) rfl ?_
                                                        by_cases hc1257 : (2 : Int) < z959 % 16
                                                        · refine gy_icT (pc' := 428) rfl (by decide) (by decide) (by omega) (by omega) hc1257 ?_
                                                          refine gz_s 1 (pc' := 429) (L' := [some (.ref m), some (.int (zi by2)), some (.int (zi mk)), some (.int (zi bg)), some (.int (zi n)), some (.int (zi zq78)), some (.int (zi zq118)), some (.int (zi z172)), some (.int (zi 2)), some (.int (zi ((p0 + 6) + 6))), some (.int (zi 2))]) (S' := [.int (zi 0), .ref m]) rfl ?_
                                                          exact jn990 0 (by omega)
                                                        · refine gy_icF rfl (by decide) (by decide) (by omega) (by omega) hc1257 ?_
                                                          refine gz_s 2 (pc' := 429) (L' := [some (.ref m), some (.int (zi by2)), some (.int (zi mk)), some (.int (zi bg)), some (.int (zi n)), some (.int (zi zq78)), some (.int (zi zq118)), some (.int (zi z172)), some (.int (zi 2)), some (.int (zi ((p0 + 6) + 6))), some (.int (zi 2))]) (S' := [.int (zi 1), .ref m]) rfl ?_
                                                          exact jn990 1 (by omega)
                                                by_cases hc1258 : (z664 : Int) = z844
                                                · refine gy_icT (pc' := 328) rfl (by decide) (by decide) (by omega) (by omega) hc1258 ?_
                                                  refine gz_s 1 (pc' := 329) (L' := [some (.ref m), some (.int (zi by2)), some (.int (zi mk)), some (.int (zi bg)), some (.int (zi n)), some (.int (zi zq78)), some (.int (zi zq118)), some (.int (zi z172)), some (.int (zi 2)), some (.int (zi ((p0 + 6) + 6))), some (.int (zi 1))]) (S' := [.int (zi 0), .ref m]) rfl ?_
                                                  exact jn904 0 (by omega)
                                                · refine gy_icF rfl (by decide) (by decide) (by omega) (by omega) hc1258 ?_
                                                  refine gz_s 2 (pc' := 329) (L' := [some (.ref m), some (.int (zi by2)), some (.int (zi mk)), some (.int (zi bg)), some (.int (zi n)), some (.int (zi zq78)), some (.int (zi zq118)), some (.int (zi z172)), some (.int (zi 2)), some (.int (zi ((p0 + 6) + 6))), some (.int (zi 1))]) (S' := [.int (zi 1), .ref m]) rfl ?_
                                                  exact jn904 1 (by omega)
                                              by_cases hc1259 : (z536 : Int) = z844
                                              · refine gy_icT (pc' := 328) rfl (by decide) (by decide) (by omega) (by omega) hc1259 ?_
                                                refine gz_s 1 (pc' := 329) (L' := [some (.ref m), some (.int (zi by2)), some (.int (zi mk)), some (.int (zi bg)), some (.int (zi n)), some (.int (zi zq78)), some (.int (zi zq118)), some (.int (zi z172)), some (.int (zi 2)), some (.int (zi ((p0 + 6) + 6))), some (.int (zi 0))]) (S' := [.int (zi 0), .ref m]) rfl ?_
                                                exact jn875 0 (by omega)
                                              · refine gy_icF rfl (by decide) (by decide) (by omega) (by omega) hc1259 ?_
                                                refine gz_s 2 (pc' := 329) (L' := [some (.ref m), some (.int (zi by2)), some (.int (zi mk)), some (.int (zi bg)), some (.int (zi n)), some (.int (zi zq78)), some (.int (zi zq118)), some (.int (zi z172)), some (.int (zi 2)), some (.int (zi ((p0 + 6) + 6))), some (.int (zi 0))]) (S' := [.int (zi 1), .ref m]) rfl ?_
                                                exact jn875 1 (by omega)
                                          by_cases hc1260 : (4 : Int) ≤ z789
                                          · refine gy_icT (pc' := 469) rfl (by decide) (by decide) (by omega) (by omega) hc1260 ?_
                                            refine gz_s 1 (pc' := 470) (L' := [some (.ref m), some (.int (zi by2)), some (.int (zi mk)), some (.int (zi bg)), some (.int (zi n)), some (.int (zi zq78)), some (.int (zi zq118)), some (.int (zi z172)), some (.int (zi 1)), some (.int (zi ((p0 + 6) + 3))), some (.int (zi 1))]) (S' := [.int (zi 0), .ref m]) rfl ?_
                                            exact jn817 0 (by omega)
                                          · refine gy_icF rfl (by decide) (by decide) (by omega) (by omega) hc1260 ?_
                                            refine gz_s 2 (pc' := 470) (L' := [some (.ref m), some (.int (zi by2)), some (.int (zi mk)), some (.int (zi bg)), some (.int (zi n)), some (.int (zi zq78)), some (.int (zi zq118)), some (.int (zi z172)), some (.int (zi 1)), some (.int (zi ((p0 + 6) + 3))), some (.int (zi 1))]) (S' := [.int (zi 1), .ref m]) rfl ?_
                                            exact jn817 1 (by omega)
                                        by_cases hc1261 : (z713 / 16 : Int) < 1
                                        · refine gy_icT (pc' := 428) rfl (by decide) (by decide) (by omega) (by omega) hc1261 ?_
                                          refine gz_s 1 (pc' := 429) (L' := [some (.ref m), some (.int (zi by2)), some (.int (zi mk)), some (.int (zi bg)), some (.int (zi n)), some (.int (zi zq78)), some (.int (zi zq118)), some (.int (zi z172)), some (.int (zi 1)), some (.int (zi ((p0 + 6) + 3))), some (.int (zi 1))]) (S' := [.int (zi 0), .ref m]) rfl ?_
                                          exact jn765 0 (by omega)
                                        · refine gy_icF rfl (by decide) (by decide) (by omega) (by omega) hc1261 ?_
                                          refine gz_s 1 (pc' := 392) (L' := [some (.ref m), some (.int (zi by2)), some (.int (zi mk)), some (.int (zi bg)), some (.int (zi n)), some (.int (zi zq78)), some (.int (zi zq118)), some (.int (zi z172)), some (.int (zi 1)), some (.int (zi ((p0 + 6) + 3))), some (.int (zi 1))]) (S' := [.ref m, .ref m]) rfl ?_
                                          refine gs_gtk rfl (by decide) rfl sh740.1 tm rfl rfl s758 ?_
                                          refine gz_s 1 (pc' := 397) (L' := [some (.ref m), some (.int (zi by2)), some (.int (zi mk)), some (.int (zi bg)), some (.int (zi n)), some (.int (zi zq78)), some (.int (zi zq118)), some (.int (zi z172)), some (.int (zi 1)), some (.int (zi ((p0 + 6) + 3))), some (.int (zi 1))]) (S' := [.int (zi 1), .ref c553, .ref m]) rfl ?_
                                          have hl1262 : 3 ≤ h740.2.2.2.1 c553 ∧ h740.2.2.2.1 c553 ≤ 3 := gJ.rowl (G := gGG) sh740.1 tc553 rfl
                                          refine gs_alx rfl (by decide) sh740.1 tc553 rfl rfl rfl (by decide) (fun _ => rfl) (by omega) (by omega) (by decide) pr746 (fun ex1263 ax1263 bx1263 => ?_)
                                          refine gz_s 1 (pc' := 399) (L' := [some (.ref m), some (.int (zi by2)), some (.int (zi mk)), some (.int (zi bg)), some (.int (zi n)), some (.int (zi zq78)), some (.int (zi zq118)), some (.int (zi z172)), some (.int (zi 1)), some (.int (zi ((p0 + 6) + 3))), some (.int (zi 1))]) (S' := [.int (zi 2), .int (zi (z713 / 16)), .ref m]) rfl ?_
                                          by_cases hc1264 : (2 : Int) < z713 / 16
                                          · refine gy_icT (pc' := 428) rfl (by decide) (by decide) (by omega) (by omega) hc1264 ?_
                                            refine gz_s 1 (pc' := 429) (L' := [some (.ref m), some (.int (zi by2)), some (.int (zi mk)), some (.int (zi bg)), some (.int (zi n)), some (.int (zi zq78)), some (.int (zi zq118)), some (.int (zi z172)), some (.int (zi 1)), some (.int (zi ((p0 + 6) + 3))), some (.int (zi 1))]) (S' := [.int (zi 0), .ref m]) rfl ?_
                                            exact jn765 0 (by omega)
                                          · refine gy_icF rfl (by decide) (by decide) (by omega) (by omega) hc1264 ?_
                                            refine gz_s 1 (pc' := 403) (L' := [some (.ref m), some (.int (zi by2)), some (.int (zi mk)), some (.int (zi bg)), some (.int (zi n)), some (.int (zi zq78)), some (.int (zi zq118)), some (.int (zi z172)), some (.int (zi 1)), some (.int (zi ((p0 + 6) + 3))), some (.int (zi 1))]) (S' := [.ref m, .ref m]) rfl ?_
                                            refine gs_gtk rfl (by decide) rfl sh740.1 tm rfl rfl s759 ?_
                                            refine gz_s 1 (pc' := 408) (L' := [some (.ref m), some (.int (zi by2)), some (.int (zi mk)), some (.int (zi bg)), some (.int (zi n)), some (.int (zi zq78)), some (.int (zi zq118)), some (.int (zi z172)), some (.int (zi 1)), some (.int (zi ((p0 + 6) + 3))), some (.int (zi 1))]) (S' := [.int (zi 1), .ref c573, .ref m]) rfl ?_
                                            have hl1265 : 3 ≤ h740.2.2.2.1 c573 ∧ h740.2.2.2.1 c573 ≤ 3 := gJ.rowl (G := gGG) sh740.1 tc573 rfl
                                            refine gs_alx rfl (by decide) sh740.1 tc573 rfl rfl rfl (by decide) (fun _ => rfl) (by omega) (by omega) (by decide) pr762 (fun ex1266 ax1266 bx1266 => ?_)
                                            refine gz_s 1 (pc' := 410) (L' := [some (.ref m), some (.int (zi by2)), some (.int (zi mk)), some (.int (zi bg)), some (.int (zi n)), some (.int (zi zq78)), some (.int (zi zq118)), some (.int (zi z172)), some (.int (zi 1)), some (.int (zi ((p0 + 6) + 3))), some (.int (zi 1))]) (S' := [.int (zi 1), .int (zi (z738 % 16)), .ref m]) rfl ?_
                                            by_cases hc1267 : (z738 % 16 : Int) < 1
                                            · refine gy_icT (pc' := 428) rfl (by decide) (by decide) (by omega) (by omega) hc1267 ?_
                                              refine gz_s 1 (pc' := 429) (L' := [some (.ref m), some (.int (zi by2)), some (.int (zi mk)), some (.int (zi bg)), some (.int (zi n)), some (.int (zi zq78)), some (.int (zi zq118)), some (.int (zi z172)), some (.int (zi 1)), some (.int (zi ((p0 + 6) + 3))), some (.int (zi 1))]) (S' := [.int (zi 0), .ref m]) rfl ?_
                                              exact jn765 0 (by omega)
                                            · refine gy_icF rfl (by decide) (by decide) (by omega) (by omega) hc1267 ?_
                                              refine gz_s 1 (pc' := 414) (L' := [some (.ref m), some (.int (zi by2)), some (.int (zi mk)), some (.int (zi bg)), some (.int (zi n)), some (.int (zi zq78)), some (.int (zi zq118)), some (.int (zi z172)), some (.int (zi 1)), some (.int (zi ((p0 + 6) + 3))), some (.int (zi 1))]) (S' := [.ref m, .ref m]) rfl ?_
                                              refine gs_gtk rfl (by decide) rfl sh740.1 tm rfl rfl s759 ?_
                                              refine gz_s 1 (pc' := 419) (L' := [some (.ref m), some (.int (zi by2)), some (.int (zi mk)), some (.int (zi bg)), some (.int (zi n)), some (.int (zi zq78)), some (.int (zi zq118)), some (.int (zi z172)), some (.int (zi 1)), some (.int (zi ((p0 + 6) + 3))), some (.int (zi 1))]) (S' := [.int (zi 1), .ref c573, .ref m]) rfl ?_
                                              have hl1268 : 3 ≤ h740.2.2.2.1 c573 ∧ h740.2.2.2.1 c573 ≤ 3 := gJ.rowl (G := gGG) sh740.1 tc573 rfl
                                              refine gs_alx rfl (by decide) sh740.1 tc573 rfl rfl rfl (by decide) (fun _ => rfl) (by omega) (by omega) (by decide) pr762 (fun ex1269 ax1269 bx1269 => ?_)
                                              refine gz_s 1 (pc' := 421) (L' := [some (.ref m), some (.int (zi by2)), some (.int (zi mk)), some (.int (zi bg)), some (.int (zi n)), some (.int (zi zq78)), some (.int (zi zq118)), some (.int (zi z172)), some (.int (zi 1)), some (.int (zi ((p0 + 6) + 3))), some (.int (zi 1))]) (S' := [.int (zi 2), .int (zi (z738 % 16)), .ref m]) rfl ?_
                                              by_cases hc1270 : (2 : Int) < z738 % 16
                                              · refine gy_icT (pc' := 428) rfl (by decide) (by decide) (by omega) (by omega) hc1270 ?_
                                                refine gz_s 1 (pc' := 429) (L' := [some (.ref m), some (.int (zi by2)), some (.int (zi mk)), some (.int (zi bg)), some (.int (zi n)), some (.int (zi zq78)), some (.int (zi zq118)), some (.int (zi z172)), some (.int (zi 1)), some (.int (zi ((p0 + 6) + 3))), some (.int (zi 1))]) (S' := [.int (zi 0), .ref m]) rfl ?_
                                                exact jn765 0 (by omega)
                                              · refine gy_icF rfl (by decide) (by decide) (by omega) (by omega) hc1270 ?_
                                                refine gz_s 2 (pc' := 429) (L' := [some (.ref m), some (.int (zi by2)), some (.int (zi mk)), some (.int (zi bg)), some (.int (zi n)), some (.int (zi zq78)), some (.int (zi zq118)), some (.int (zi z172)), some (.int (zi 1)), some (.int (zi ((p0 + 6) + 3))), some (.int (zi 1))]) (S' := [.int (zi 1), .ref m]) rfl ?_
                                                exact jn765 1 (by omega)
                                      by_cases hc1271 : (z536 : Int) = z664
                                      · refine gy_icT (pc' := 328) rfl (by decide) (by decide) (by omega) (by omega) hc1271 ?_
                                        refine gz_s 1 (pc' := 329) (L' := [some (.ref m), some (.int (zi by2)), some (.int (zi mk)), some (.int (zi bg)), some (.int (zi n)), some (.int (zi zq78)), some (.int (zi zq118)), some (.int (zi z172)), some (.int (zi 1)), some (.int (zi ((p0 + 6) + 3))), some (.int (zi 0))]) (S' := [.int (zi 0), .ref m]) rfl ?_
                                        exact jn691 0 (by omega)
                                      · refine gy_icF rfl (by decide) (by decide) (by omega) (by omega) hc1271 ?_
                                        refine gz_s 2 (pc' := 329) (L' := [some (.ref m), some (.int (zi by2)), some (.int (zi mk)), some (.int (zi bg)), some (.int (zi n)), some (.int (zi zq78)), some (.int (zi zq118)), some (.int (zi z172)), some (.int (zi 1)), some (.int (zi ((p0 + 6) + 3))), some (.int (zi 0))]) (S' := [.int (zi 1), .ref m]) rfl ?_
                                        exact jn691 1 (by omega)
                                  by_cases hc1272 : (4 : Int) ≤ z617
                                  · refine gy_icT (pc' := 469) rfl (by decide) (by decide) (by omega) (by omega) hc1272 ?_
                                    refine gz_s 1 (pc' := 470) (L' := [some (.ref m), some (.int (zi by2)), some (.int (zi mk)), some (.int (zi bg)), some (.int (zi n)), some (.int (zi zq78)), some (.int (zi zq118)), some (.int (zi z172)), some (.int (zi 0)), some (.int (zi ((p0 + 6) + 0))), some (.int (zi 0))]) (S' := [.int (zi 0), .ref m]) rfl ?_
                                    exact jn641 0 (by omega)
                                  · refine gy_icF rfl (by decide) (by decide) (by omega) (by omega) hc1272 ?_
                                    refine gz_s 2 (pc' := 470) (L' := [some (.ref m), some (.int (zi by2)), some (.int (zi mk)), some (.int (zi bg)), some (.int (zi n)), some (.int (zi zq78)), some (.int (zi zq118)), some (.int (zi z172)), some (.int (zi 0)), some (.int (zi ((p0 + 6) + 0))), some (.int (zi 0))]) (S' := [.int (zi 1), .ref m]) rfl ?_
                                    exact jn641 1 (by omega)
                                by_cases hc1273 : (z555 / 16 : Int) < 1
                                · refine gy_icT (pc' := 428) rfl (by decide) (by decide) (by omega) (by omega) hc1273 ?_
                                  refine gz_s 1 (pc' := 429) (L' := [some (.ref m), some (.int (zi by2)), some (.int (zi mk)), some (.int (zi bg)), some (.int (zi n)), some (.int (zi zq78)), some (.int (zi zq118)), some (.int (zi z172)), some (.int (zi 0)), some (.int (zi ((p0 + 6) + 0))), some (.int (zi 0))]) (S' := [.int (zi 0), .ref m]) rfl ?_
                                  exact jn597 0 (by omega)
                                · refine gy_icF rfl (by decide) (by decide) (by omega) (by omega) hc1273 ?_
                                  refine gz_s 1 (pc' := 392) (L' := [some (.ref m), some (.int (zi by2)), some (.int (zi mk)), some (.int (zi bg)), some (.int (zi n)), some (.int (zi zq78)), some (.int (zi zq118)), some (.int (zi z172)), some (.int (zi 0)), some (.int (zi ((p0 + 6) + 0))), some (.int (zi 0))]) (S' := [.ref m, .ref m]) rfl ?_
                                  refine gs_gtk rfl (by decide) rfl sh577.1 tm rfl rfl s592 ?_
                                  refine gz_s 1 (pc' := 397) (L' := [some (.ref m), some (.int (zi by2)), some (.int (zi mk)), some (.int (zi bg)), some (.int (zi n)), some (.int (zi zq78)), some (.int (zi zq118)), some (.int (zi z172)), some (.int (zi 0)), some (.int (zi ((p0 + 6) + 0))), some (.int (zi 0))]) (S' := [.int (zi 0), .ref c553, .ref m]) rfl ?_
                                  have hl1274 : 3 ≤ h577.2.2.2.1 c553 ∧ h577.2.2.2.1 c553 ≤ 3 := gJ.rowl (G := gGG) sh577.1 tc553 rfl
                                  refine gs_alx rfl (by decide) sh577.1 tc553 rfl rfl rfl (by decide) (fun _ => rfl) (by omega) (by omega) (by decide) pr579 (fun ex1275 ax1275 bx1275 => ?_)
                                  refine gz_s 1 (pc' := 399) (L' := [some (.ref m), some (.int (zi by2)), some (.int (zi mk)), some (.int (zi bg)), some (.int (zi n)), some (.int (zi zq78)), some (.int (zi zq118)), some (.int (zi z172)), some (.int (zi 0)), some (.int (zi ((p0 + 6) + 0))), some (.int (zi 0))]) (S' := [.int (zi 2), .int (zi (z555 / 16)), .ref m]) rfl ?_
                                  by_cases hc1276 : (2 : Int) < z555 / 16
                                  · refine gy_icT (pc' := 428) rfl (by decide) (by decide) (by omega) (by omega) hc1276 ?_
                                    refine gz_s 1 (pc' := 429) (L' := [some (.ref m), some (.int (zi by2)), some (.int (zi mk)), some (.int (zi bg)), some (.int (zi n)), some (.int (zi zq78)), some (.int (zi zq118)), some (.int (zi z172)), some (.int (zi 0)), some (.int (zi ((p0 + 6) + 0))), some (.int (zi 0))]) (S' := [.int (zi 0), .ref m]) rfl ?_
                                    exact jn597 0 (by omega)
                                  · refine gy_icF rfl (by decide) (by decide) (by omega) (by omega) hc1276 ?_
                                    refine gz_s 1 (pc' := 403) (L' := [some (.ref m), some (.int (zi by2)), some (.int (zi mk)), some (.int (zi bg)), some (.int (zi n)), some (.int (zi zq78)), some (.int (zi zq118)), some (.int (zi z172)), some (.int (zi 0)), some (.int (zi ((p0 + 6) + 0))), some (.int (zi 0))]) (S' := [.ref m, .ref m]) rfl ?_
                                    refine gs_gtk rfl (by decide) rfl sh577.1 tm rfl rfl s593 ?_
                                    refine gz_s 1 (pc' := 408) (L' := [some (.ref m), some (.int (zi by2)), some (.int (zi mk)), some (.int (zi bg)), some (.int (zi n)), some (.int (zi zq78)), some (.int (zi zq118)), some (.int (zi z172)), some (.int (zi 0)), some (.int (zi ((p0 + 6) + 0))), some (.int (zi 0))]) (S' := [.int (zi 0), .ref c573, .ref m]) rfl ?_
                                    have hl1277 : 3 ≤ h577.2.2.2.1 c573 ∧ h577.2.2.2.1 c573 ≤ 3 := gJ.rowl (G := gGG) sh577.1 tc573 rfl
                                    refine gs_alx rfl (by decide) sh577.1 tc573 rfl rfl rfl (by decide) (fun _ => rfl) (by omega) (by omega) (by decide) pr594 (fun ex1278 ax1278 bx1278 => ?_)
                                    refine gz_s 1 (pc' := 410) (L' := [some (.ref m), some (.int (zi by2)), some (.int (zi mk)), some (.int (zi bg)), some (.int (zi n)), some (.int (zi zq78)), some (.int (zi zq118)), some (.int (zi z172)), some (.int (zi 0)), some (.int (zi ((p0 + 6) + 0))), some (.int (zi 0))]) (S' := [.int (zi 1), .int (zi (z575 % 16)), .ref m]) rfl ?_
                                    by_cases hc1279 : (z575 % 16 : Int) < 1
                                    · refine gy_icT (pc' := 428) rfl (by decide) (by decide) (by omega) (by omega) hc1279 ?_
                                      refine gz_s 1 (pc' := 429) (L' := [some (.ref m), some (.int (zi by2)), some (.int (zi mk)), some (.int (zi bg)), some (.int (zi n)), some (.int (zi zq78)), some (.int (zi zq118)), some (.int (zi z172)), some (.int (zi 0)), some (.int (zi ((p0 + 6) + 0))), some (.int (zi 0))]) (S' := [.int (zi 0), .ref m]) rfl ?_
                                      exact jn597 0 (by omega)
                                    · refine gy_icF rfl (by decide) (by decide) (by omega) (by omega) hc1279 ?_
                                      refine gz_s 1 (pc' := 414) (L' := [some (.ref m), some (.int (zi by2)), some (.int (zi mk)), some (.int (zi bg)), some (.int (zi n)), some (.int (zi zq78)), some (.int (zi zq118)), some (.int (zi z172)), some (.int (zi 0)), some (.int (zi ((p0 + 6) + 0))), some (.int (zi 0))]) (S' := [.ref m, .ref m]) rfl ?_
                                      refine gs_gtk rfl (by decide) rfl sh577.1 tm rfl rfl s593 ?_
                                      refine gz_s 1 (pc' := 419) (L' := [some (.ref m), some (.int (zi by2)), some (.int (zi mk)), some (.int (zi bg)), some (.int (zi n)), some (.int (zi zq78)), some (.int (zi zq118)), some (.int (zi z172)), some (.int (zi 0)), some (.int (zi ((p0 + 6) + 0))), some (.int (zi 0))]) (S' := [.int (zi 0), .ref c573, .ref m]) rfl ?_
                                      have hl1280 : 3 ≤ h577.2.2.2.1 c573 ∧ h577.2.2.2.1 c573 ≤ 3 := gJ.rowl (G := gGG) sh577.1 tc573 rfl
                                      refine gs_alx rfl (by decide) sh577.1 tc573 rfl rfl rfl (by decide) (fun _ => rfl) (by omega) (by omega) (by decide) pr594 (fun ex1281 ax1281 bx1281 => ?_)
                                      refine gz_s 1 (pc' := 421) (L' := [some (.ref m), some (.int (zi by2)), some (.int (zi mk)), some (.int (zi bg)), some (.int (zi n)), some (.int (zi zq78)), some (.int (zi zq118)), some (.int (zi z172)), some (.int (zi 0)), some (.int (zi ((p0 + 6) + 0))), some (.int (zi 0))]) (S' := [.int (zi 2), .int (zi (z575 % 16)), .ref m]) rfl ?_
                                      by_cases hc1282 : (2 : Int) < z575 % 16
                                      · refine gy_icT (pc' := 428) rfl (by decide) (by decide) (by omega) (by omega) hc1282 ?_
                                        refine gz_s 1 (pc' := 429) (L' := [some (.ref m), some (.int (zi by2)), some (.int (zi mk)), some (.int (zi bg)), some (.int (zi n)), some (.int (zi zq78)), some (.int (zi zq118)), some (.int (zi z172)), some (.int (zi 0)), some (.int (zi ((p0 + 6) + 0))), some (.int (zi 0))]) (S' := [.int (zi 0), .ref m]) rfl ?_
                                        exact jn597 0 (by omega)
                                      · refine gy_icF rfl (by decide) (by decide) (by omega) (by omega) hc1282 ?_
                                        refine gz_s 2 (pc' := 429) (L' := [some (.ref m), some (.int (zi by2)), some (.int (zi mk)), some (.int (zi bg)), some (.int (zi n)), some (.int (zi zq78)), some (.int (zi zq118)), some (.int (zi z172)), some (.int (zi 0)), some (.int (zi ((p0 + 6) + 0))), some (.int (zi 0))]) (S' := [.int (zi 1), .ref m]) rfl ?_
                                        exact jn597 1 (by omega)
                            · refine gy_ifF rfl (by decide) (by decide) (by omega) hc531 ?_
                              have hpi1283 : gPi ty ip w hh wd hg bs hq519 := fun e => absurd e (by omega)
                              exact gz_end (I := .return_) (len := 1) rfl (Or.inl rfl) ⟨sq519, fq519_0, ip, w, hh, wd, hg, bs, rfl, efq519_0, (by omega), (by omega), s523, (by omega), (by omega), s524, (by omega), (by omega), s525, (by omega), (by omega), s526, (by omega), (by omega), s527, (by omega), (by omega), s528, (by omega), (by omega), hpi1283⟩
                  · refine gy_ifF rfl (by decide) (by decide) (by omega) hc170 ?_
                    have hpi1284 : gPi ty ip w hh wd hg bs hq158 := fun e => absurd e (by omega)
                    exact gz_end (I := .return_) (len := 1) rfl (Or.inl rfl) ⟨sq158, fq158_0, ip, w, hh, wd, hg, bs, rfl, efq158_0, (by omega), (by omega), s162, (by omega), (by omega), s163, (by omega), (by omega), s164, (by omega), (by omega), s165, (by omega), (by omega), s166, (by omega), (by omega), s167, (by omega), (by omega), hpi1284⟩
            · refine gy_ifF rfl (by decide) (by decide) (by omega) hc117 ?_
              have hpi1285 : gPi ty ip w hh wd hg bs hq105 := fun e => absurd e (by omega)
              exact gz_end (I := .return_) (len := 1) rfl (Or.inl rfl) ⟨sq105, fq105_0, ip, w, hh, wd, hg, bs, rfl, efq105_0, (by omega), (by omega), s109, (by omega), (by omega), s110, (by omega), (by omega), s111, (by omega), (by omega), s112, (by omega), (by omega), s113, (by omega), (by omega), s114, (by omega), (by omega), hpi1285⟩
        · refine gy_ifF rfl (by decide) (by decide) (by omega) hc90 ?_
          refine gz_s 2 (pc' := 90) (L' := [some (.ref m), some (.int (zi by2)), some (.int (zi mk)), some (.int (zi bg)), some (.int (zi n)), some (.int (zi zq78)), none, none, none, none, none]) (S' := [.ref m, .ref m]) rfl ?_
          refine gs_gtk rfl (by decide) rfl sq78.1 tm rfl rfl s79 ?_
          refine gy_s 2 (pc' := 95) (L' := [some (.ref m), some (.int (zi by2)), some (.int (zi mk)), some (.int (zi bg)), some (.int (zi n)), some (.int (zi zq78)), none, none, none, none, none]) (S' := [.int ((zi p0) + (zi 1)), .ref m]) (L2 := [some (.ref m), some (.int (zi by2)), some (.int (zi mk)), some (.int (zi bg)), some (.int (zi n)), some (.int (zi zq78)), none, none, none, none, none]) (S2 := [.int (zi (p0 + 1)), .ref m]) rfl (by simp only [zi_add, zi_sub, zi_mul, zi_neg, zi_and1, zi_and7, zi_and15, zi_and31, zi_and255, Int.reduceAdd, Int.reduceMul, Int.reduceSub]) (by simp only [zi_add, zi_sub, zi_mul, zi_neg, zi_and1, zi_and7, zi_and15, zi_and31, zi_and255, Int.reduceAdd, Int.reduceMul, Int.reduceSub]) ?_
          refine gz_call rfl (by decide) rfl (by decide) (by decide) (gcal_of rfl rfl rfl (Nat.le_of_ble_eq_true rfl) (gJ.recv (G := gGG) sq78.1 tm rfl rfl)) (mm_findHeight _ sq78.1 m tm (p0 + 1) (by omega) fq78_0 efq78_0 (by omega) sz s81 (by omega)) (fun q1286 _ wq1286 => ?_)
          obtain ⟨pq1286, oq1286, hq1286⟩ := q1286
          obtain ⟨xq1286, zq1286, fq1286_0, gq1286, aq1286, bq1286, efq1286_0, afq1286_0, bfq1286_0, uq1286_0⟩ := wq1286
          refine ⟨_, gq1286, ?_⟩
          show gz gPP gGG gcn _ _ 98 [some (.ref m), some (.int (zi by2)), some (.int (zi mk)), some (.int (zi bg)), some (.int (zi n)), some (.int (zi zq78)), none, none, none, none, none] [.int (zi zq1286)] hq1286 _
          have sq1286 := gSs.tr sq78 xq1286 (by decide)
          have s1287 := (xq1286.2.2.2.2.2 m 5 (by rw [tm]; decide)).trans s79
          have s1288 := (xq1286.2.2.2.2.2 m 6 (by rw [tm]; decide)).trans s80
          have s1289 := (xq1286.2.2.2.2.2 m 3 (by rw [tm]; decide)).trans s81
          have s1290 := (xq1286.2.2.2.2.2 m 16 (by rw [tm]; decide)).trans s82
          have s1291 := (xq1286.2.2.2.2.2 m 18 (by rw [tm]; decide)).trans s83
          have s1292 := (xq1286.2.2.2.2.2 m 19 (by rw [tm]; decide)).trans s84
          have s1293 := (xq1286.2.2.2.2.2 m 21 (by rw [tm]; decide)).trans s85
          have s1294 := (xq1286.2.2.2.2.2 m 22 (by rw [tm]; decide)).trans s86
          have s1295 := (xq1286.2.2.2.2.2 m 20 (by rw [tm]; decide)).trans s87
          have s1296 := (xq1286.2.2.2.2.2 m 4 (by rw [tm]; decide)).trans s88
          have pr1297 := gPi.fr xq1286.2 (by decide) pr89
          clear s79 s80 s81 s82 s83 s84 s85 s86 s87 s88 pr89
          refine gz_s 5 (pc' := 109) (L' := [some (.ref m), some (.int (zi by2)), some (.int (zi mk)), some (.int (zi bg)), some (.int (zi n)), some (.int (zi zq1286)), none, none, none, none, none]) (S' := [.int (zi 1), .int (zi zq1286), .ref m]) rfl ?_
          by_cases hc1298 : (zq1286 : Int) < 1
          · refine gy_icT (pc' := 123) rfl (by decide) (by decide) (by omega) (by omega) hc1298 ?_
            refine gz_s 2 (pc' := 125) (L' := [some (.ref m), some (.int (zi by2)), some (.int (zi mk)), some (.int (zi bg)), some (.int (zi n)), some (.int (zi zq1286)), none, none, none, none, none]) (S' := [.ref m, .int (zi 0), .ref m]) rfl ?_
            refine gs_gtk rfl (by decide) rfl sq1286.1 tm rfl rfl s1287 ?_
            refine gy_s 2 (pc' := 130) (L' := [some (.ref m), some (.int (zi by2)), some (.int (zi mk)), some (.int (zi bg)), some (.int (zi n)), some (.int (zi zq1286)), none, none, none, none, none]) (S' := [.int ((zi p0) + (zi 1)), .int (zi 0), .ref m]) (L2 := [some (.ref m), some (.int (zi by2)), some (.int (zi mk)), some (.int (zi bg)), some (.int (zi n)), some (.int (zi zq1286)), none, none, none, none, none]) (S2 := [.int (zi (p0 + 1)), .int (zi 0), .ref m]) rfl (by simp only [zi_add, zi_sub, zi_mul, zi_neg, zi_and1, zi_and7, zi_and15, zi_and31, zi_and255, Int.reduceAdd, Int.reduceMul, Int.reduceSub]) (by simp only [zi_add, zi_sub, zi_mul, zi_neg, zi_and1, zi_and7, zi_and15, zi_and31, zi_and255, Int.reduceAdd, Int.reduceMul, Int.reduceSub]) ?_
            refine gz_call rfl (by decide) rfl (by decide) (by decide) (gcal_of rfl rfl rfl (Nat.le_of_ble_eq_true rfl) (gJ.recv (G := gGG) sq1286.1 tm rfl rfl)) (mm_must _ sq1286.1 m tm 0 (by omega) (p0 + 1) (by omega) fq1286_0 efq1286_0 (by omega)) (fun q1299 _ wq1299 => ?_)
            obtain ⟨pq1299, oq1299, hq1299⟩ := q1299
            obtain ⟨xq1299, zq1299, fq1299_0, gq1299, aq1299, bq1299, efq1299_0, afq1299_0, bfq1299_0, uq1299_0, uq1299_1⟩ := wq1299
            refine ⟨_, gq1299, ?_⟩
            show gz gPP gGG gcn _ _ 133 [some (.ref m), some (.int (zi by2)), some (.int (zi mk)), some (.int (zi bg)), some (.int (zi n)), some (.int (zi zq1286)), none, none, none, none, none] [.int (zi zq1299)] hq1299 _
            have sq1299 := gSs.tr sq1286 xq1299 (by decide)
            have s1300 := (xq1299.2.2.2.2.2 m 5 (by rw [tm]; decide)).trans s1287
            have s1301 := (xq1299.2.2.2.2.2 m 6 (by rw [tm]; decide)).trans s1288
            have s1302 := (xq1299.2.2.2.2.2 m 3 (by rw [tm]; decide)).trans s1289
            have s1303 := (xq1299.2.2.2.2.2 m 16 (by rw [tm]; decide)).trans s1290
            have s1304 := (xq1299.2.2.2.2.2 m 18 (by rw [tm]; decide)).trans s1291
            have s1305 := (xq1299.2.2.2.2.2 m 19 (by rw [tm]; decide)).trans s1292
            have s1306 := (xq1299.2.2.2.2.2 m 21 (by rw [tm]; decide)).trans s1293
            have s1307 := (xq1299.2.2.2.2.2 m 22 (by rw [tm]; decide)).trans s1294
            have s1308 := (xq1299.2.2.2.2.2 m 20 (by rw [tm]; decide)).trans s1295
            have s1309 := (xq1299.2.2.2.2.2 m 4 (by rw [tm]; decide)).trans s1296
            have pr1310 := gPi.fr xq1299.2 (by decide) pr1297
            clear s1287 s1288 s1289 s1290 s1291 s1292 s1293 s1294 s1295 s1296 pr1297
            refine gy_ifF rfl (by decide) (by decide) (by omega) (by first | (simp [zc]; done) | (simp only [zc]; omega)) ?_
            have hpi1311 : gPi ty ip w hh wd hg bs hq1299 := fun e => absurd e (by omega)
            exact gz_end (I := .return_) (len := 1) rfl (Or.inl rfl) ⟨sq1299, fq1299_0, ip, w, hh, wd, hg, bs, rfl, efq1299_0, (by omega), (by omega), s1303, (by omega), (by omega), s1304, (by omega), (by omega), s1305, (by omega), (by omega), s1306, (by omega), (by omega), s1307, (by omega), (by omega), s1308, (by omega), (by omega), hpi1311⟩
          · refine gy_icF rfl (by decide) (by decide) (by omega) (by omega) hc1298 ?_
            refine gz_s 2 (pc' := 116) (L' := [some (.ref m), some (.int (zi by2)), some (.int (zi mk)), some (.int (zi bg)), some (.int (zi n)), some (.int (zi zq1286)), none, none, none, none, none]) (S' := [.int (zi 64), .int (zi zq1286), .ref m]) rfl ?_
            by_cases hc1312 : (64 : Int) < zq1286
            · refine gy_icT (pc' := 123) rfl (by decide) (by decide) (by omega) (by omega) hc1312 ?_
              refine gz_s 2 (pc' := 125) (L' := [some (.ref m), some (.int (zi by2)), some (.int (zi mk)), some (.int (zi bg)), some (.int (zi n)), some (.int (zi zq1286)), none, none, none, none, none]) (S' := [.ref m, .int (zi 0), .ref m]) rfl ?_
              refine gs_gtk rfl (by decide) rfl sq1286.1 tm rfl rfl s1287 ?_
              refine gy_s 2 (pc' := 130) (L' := [some (.ref m), some (.int (zi by2)), some (.int (zi mk)), some (.int (zi bg)), some (.int (zi n)), some (.int (zi zq1286)), none, none, none, none, none]) (S' := [.int ((zi p0) + (zi 1)), .int (zi 0), .ref m]) (L2 := [some (.ref m), some (.int (zi by2)), some (.int (zi mk)), some (.int (zi bg)), some (.int (zi n)), some (.int (zi zq1286)), none, none, none, none, none]) (S2 := [.int (zi (p0 + 1)), .int (zi 0), .ref m]) rfl (by simp only [zi_add, zi_sub, zi_mul, zi_neg, zi_and1, zi_and7, zi_and15, zi_and31, zi_and255, Int.reduceAdd, Int.reduceMul, Int.reduceSub]) (by simp only [zi_add, zi_sub, zi_mul, zi_neg, zi_and1, zi_and7, zi_and15, zi_and31, zi_and255, Int.reduceAdd, Int.reduceMul, Int.reduceSub]) ?_
              refine gz_call rfl (by decide) rfl (by decide) (by decide) (gcal_of rfl rfl rfl (Nat.le_of_ble_eq_true rfl) (gJ.recv (G := gGG) sq1286.1 tm rfl rfl)) (mm_must _ sq1286.1 m tm 0 (by omega) (p0 + 1) (by omega) fq1286_0 efq1286_0 (by omega)) (fun q1313 _ wq1313 => ?_)
              obtain ⟨pq1313, oq1313, hq1313⟩ := q1313
              obtain ⟨xq1313, zq1313, fq1313_0, gq1313, aq1313, bq1313, efq1313_0, afq1313_0, bfq1313_0, uq1313_0, uq1313_1⟩ := wq1313
              refine ⟨_, gq1313, ?_⟩
              show gz gPP gGG gcn _ _ 133 [some (.ref m), some (.int (zi by2)), some (.int (zi mk)), some (.int (zi bg)), some (.int (zi n)), some (.int (zi zq1286)), none, none, none, none, none] [.int (zi zq1313)] hq1313 _
              have sq1313 := gSs.tr sq1286 xq1313 (by decide)
              have s1314 := (xq1313.2.2.2.2.2 m 5 (by rw [tm]; decide)).trans s1287
              have s1315 := (xq1313.2.2.2.2.2 m 6 (by rw [tm]; decide)).trans s1288
              have s1316 := (xq1313.2.2.2.2.2 m 3 (by rw [tm]; decide)).trans s1289
              have s1317 := (xq1313.2.2.2.2.2 m 16 (by rw [tm]; decide)).trans s1290
              have s1318 := (xq1313.2.2.2.2.2 m 18 (by rw [tm]; decide)).trans s1291
              have s1319 := (xq1313.2.2.2.2.2 m 19 (by rw [tm]; decide)).trans s1292
              have s1320 := (xq1313.2.2.2.2.2 m 21 (by rw [tm]; decide)).trans s1293
              have s1321 := (xq1313.2.2.2.2.2 m 22 (by rw [tm]; decide)).trans s1294
              have s1322 := (xq1313.2.2.2.2.2 m 20 (by rw [tm]; decide)).trans s1295
              have s1323 := (xq1313.2.2.2.2.2 m 4 (by rw [tm]; decide)).trans s1296
              have pr1324 := gPi.fr xq1313.2 (by decide) pr1297
              clear s1287 s1288 s1289 s1290 s1291 s1292 s1293 s1294 s1295 s1296 pr1297
              refine gy_ifF rfl (by decide) (by decide) (by omega) (by first | (simp [zc]; done) | (simp only [zc]; omega)) ?_
              have hpi1325 : gPi ty ip w hh wd hg bs hq1313 := fun e => absurd e (by omega)
              exact gz_end (I := .return_) (len := 1) rfl (Or.inl rfl) ⟨sq1313, fq1313_0, ip, w, hh, wd, hg, bs, rfl, efq1313_0, (by omega), (by omega), s1317, (by omega), (by omega), s1318, (by omega), (by omega), s1319, (by omega), (by omega), s1320, (by omega), (by omega), s1321, (by omega), (by omega), s1322, (by omega), (by omega), hpi1325⟩
            · refine gy_icF rfl (by decide) (by decide) (by omega) (by omega) hc1312 ?_
              refine gz_s 3 (pc' := 125) (L' := [some (.ref m), some (.int (zi by2)), some (.int (zi mk)), some (.int (zi bg)), some (.int (zi n)), some (.int (zi zq1286)), none, none, none, none, none]) (S' := [.ref m, .int (zi 1), .ref m]) rfl ?_
              refine gs_gtk rfl (by decide) rfl sq1286.1 tm rfl rfl s1287 ?_
              refine gy_s 2 (pc' := 130) (L' := [some (.ref m), some (.int (zi by2)), some (.int (zi mk)), some (.int (zi bg)), some (.int (zi n)), some (.int (zi zq1286)), none, none, none, none, none]) (S' := [.int ((zi p0) + (zi 1)), .int (zi 1), .ref m]) (L2 := [some (.ref m), some (.int (zi by2)), some (.int (zi mk)), some (.int (zi bg)), some (.int (zi n)), some (.int (zi zq1286)), none, none, none, none, none]) (S2 := [.int (zi (p0 + 1)), .int (zi 1), .ref m]) rfl (by simp only [zi_add, zi_sub, zi_mul, zi_neg, zi_and1, zi_and7, zi_and15, zi_and31, zi_and255, Int.reduceAdd, Int.reduceMul, Int.reduceSub]) (by simp only [zi_add, zi_sub, zi_mul, zi_neg, zi_and1, zi_and7, zi_and15, zi_and31, zi_and255, Int.reduceAdd, Int.reduceMul, Int.reduceSub]) ?_
              refine gz_call rfl (by decide) rfl (by decide) (by decide) (gcal_of rfl rfl rfl (Nat.le_of_ble_eq_true rfl) (gJ.recv (G := gGG) sq1286.1 tm rfl rfl)) (mm_must _ sq1286.1 m tm 1 (by omega) (p0 + 1) (by omega) fq1286_0 efq1286_0 (by omega)) (fun q1326 _ wq1326 => ?_)
              obtain ⟨pq1326, oq1326, hq1326⟩ := q1326
              obtain ⟨xq1326, zq1326, fq1326_0, gq1326, aq1326, bq1326, efq1326_0, afq1326_0, bfq1326_0, uq1326_0, uq1326_1⟩ := wq1326
              refine ⟨_, gq1326, ?_⟩
              show gz gPP gGG gcn _ _ 133 [some (.ref m), some (.int (zi by2)), some (.int (zi mk)), some (.int (zi bg)), some (.int (zi n)), some (.int (zi zq1286)), none, none, none, none, none] [.int (zi zq1326)] hq1326 _
              have sq1326 := gSs.tr sq1286 xq1326 (by decide)
              have s1327 := (xq1326.2.2.2.2.2 m 5 (by rw [tm]; decide)).trans s1287
              have s1328 := (xq1326.2.2.2.2.2 m 6 (by rw [tm]; decide)).trans s1288
              have s1329 := (xq1326.2.2.2.2.2 m 3 (by rw [tm]; decide)).trans s1289
              have s1330 := (xq1326.2.2.2.2.2 m 16 (by rw [tm]; decide)).trans s1290
              have s1331 := (xq1326.2.2.2.2.2 m 18 (by rw [tm]; decide)).trans s1291
              have s1332 := (xq1326.2.2.2.2.2 m 19 (by rw [tm]; decide)).trans s1292
              have s1333 := (xq1326.2.2.2.2.2 m 21 (by rw [tm]; decide)).trans s1293
              have s1334 := (xq1326.2.2.2.2.2 m 22 (by rw [tm]; decide)).trans s1294
              have s1335 := (xq1326.2.2.2.2.2 m 20 (by rw [tm]; decide)).trans s1295
              have s1336 := (xq1326.2.2.2.2.2 m 4 (by rw [tm]; decide)).trans s1296
              have pr1337 := gPi.fr xq1326.2 (by decide) pr1297
              clear s1287 s1288 s1289 s1290 s1291 s1292 s1293 s1294 s1295 s1296 pr1297
              by_cases hc1338 : ¬ (zq1326 : Int) = 0
              · refine gy_ifT (pc' := 137) rfl (by decide) (by decide) (by omega) hc1338 ?_
                refine gz_s 2 (pc' := 139) (L' := [some (.ref m), some (.int (zi by2)), some (.int (zi mk)), some (.int (zi bg)), some (.int (zi n)), some (.int (zi zq1286)), none, none, none, none, none]) (S' := [.ref m, .ref m]) rfl ?_
                refine gs_gtk rfl (by decide) rfl sq1326.1 tm rfl rfl s1327 ?_
                refine gy_s 2 (pc' := 144) (L' := [some (.ref m), some (.int (zi by2)), some (.int (zi mk)), some (.int (zi bg)), some (.int (zi n)), some (.int (zi zq1286)), none, none, none, none, none]) (S' := [.int ((zi p0) + (zi 3)), .ref m]) (L2 := [some (.ref m), some (.int (zi by2)), some (.int (zi mk)), some (.int (zi bg)), some (.int (zi n)), some (.int (zi zq1286)), none, none, none, none, none]) (S2 := [.int (zi (p0 + 3)), .ref m]) rfl (by simp only [zi_add, zi_sub, zi_mul, zi_neg, zi_and1, zi_and7, zi_and15, zi_and31, zi_and255, Int.reduceAdd, Int.reduceMul, Int.reduceSub]) (by simp only [zi_add, zi_sub, zi_mul, zi_neg, zi_and1, zi_and7, zi_and15, zi_and31, zi_and255, Int.reduceAdd, Int.reduceMul, Int.reduceSub]) ?_
                refine gz_call rfl (by decide) rfl (by decide) (by decide) (gcal_of rfl rfl rfl (Nat.le_of_ble_eq_true rfl) (gJ.recv (G := gGG) sq1326.1 tm rfl rfl)) (mm_two _ sq1326.1 m tm (p0 + 3) (by omega) fq1326_0 efq1326_0 (by omega) sz s1329 (by omega)) (fun q1339 _ wq1339 => ?_)
                obtain ⟨pq1339, oq1339, hq1339⟩ := q1339
                obtain ⟨xq1339, zq1339, fq1339_0, gq1339, aq1339, bq1339, efq1339_0, afq1339_0, bfq1339_0, uq1339_0⟩ := wq1339
                refine ⟨_, gq1339, ?_⟩
                show gz gPP gGG gcn _ _ 147 [some (.ref m), some (.int (zi by2)), some (.int (zi mk)), some (.int (zi bg)), some (.int (zi n)), some (.int (zi zq1286)), none, none, none, none, none] [.int (zi zq1339)] hq1339 _
                have sq1339 := gSs.tr sq1326 xq1339 (by decide)
                have s1340 := (xq1339.2.2.2.2.2 m 5 (by rw [tm]; decide)).trans s1327
                have s1341 := (xq1339.2.2.2.2.2 m 6 (by rw [tm]; decide)).trans s1328
                have s1342 := (xq1339.2.2.2.2.2 m 3 (by rw [tm]; decide)).trans s1329
                have s1343 := (xq1339.2.2.2.2.2 m 16 (by rw [tm]; decide)).trans s1330
                have s1344 := (xq1339.2.2.2.2.2 m 18 (by rw [tm]; decide)).trans s1331
                have s1345 := (xq1339.2.2.2.2.2 m 19 (by rw [tm]; decide)).trans s1332
                have s1346 := (xq1339.2.2.2.2.2 m 21 (by rw [tm]; decide)).trans s1333
                have s1347 := (xq1339.2.2.2.2.2 m 22 (by rw [tm]; decide)).trans s1334
                have s1348 := (xq1339.2.2.2.2.2 m 20 (by rw [tm]; decide)).trans s1335
                have s1349 := (xq1339.2.2.2.2.2 m 4 (by rw [tm]; decide)).trans s1336
                have pr1350 := gPi.fr xq1339.2 (by decide) pr1337
                clear s1327 s1328 s1329 s1330 s1331 s1332 s1333 s1334 s1335 s1336 pr1337
                refine gz_s 4 (pc' := 153) (L' := [some (.ref m), some (.int (zi by2)), some (.int (zi mk)), some (.int (zi bg)), some (.int (zi n)), some (.int (zi zq1286)), some (.int (zi zq1339)), none, none, none, none]) (S' := [.int (zi 1), .int (zi zq1339), .ref m]) rfl ?_
                by_cases hc1351 : (zq1339 : Int) < 1
                · refine gy_icT (pc' := 167) rfl (by decide) (by decide) (by omega) (by omega) hc1351 ?_
                  refine gz_s 2 (pc' := 169) (L' := [some (.ref m), some (.int (zi by2)), some (.int (zi mk)), some (.int (zi bg)), some (.int (zi n)), some (.int (zi zq1286)), some (.int (zi zq1339)), none, none, none, none]) (S' := [.ref m, .int (zi 0), .ref m]) rfl ?_
                  refine gs_gtk rfl (by decide) rfl sq1339.1 tm rfl rfl s1340 ?_
                  refine gy_s 2 (pc' := 174) (L' := [some (.ref m), some (.int (zi by2)), some (.int (zi mk)), some (.int (zi bg)), some (.int (zi n)), some (.int (zi zq1286)), some (.int (zi zq1339)), none, none, none, none]) (S' := [.int ((zi p0) + (zi 3)), .int (zi 0), .ref m]) (L2 := [some (.ref m), some (.int (zi by2)), some (.int (zi mk)), some (.int (zi bg)), some (.int (zi n)), some (.int (zi zq1286)), some (.int (zi zq1339)), none, none, none, none]) (S2 := [.int (zi (p0 + 3)), .int (zi 0), .ref m]) rfl (by simp only [zi_add, zi_sub, zi_mul, zi_neg, zi_and1, zi_and7, zi_and15, zi_and31, zi_and255, Int.reduceAdd, Int.reduceMul, Int.reduceSub]) (by simp only [zi_add, zi_sub, zi_mul, zi_neg, zi_and1, zi_and7, zi_and15, zi_and31, zi_and255, Int.reduceAdd, Int.reduceMul, Int.reduceSub]) ?_
                  refine gz_call rfl (by decide) rfl (by decide) (by decide) (gcal_of rfl rfl rfl (Nat.le_of_ble_eq_true rfl) (gJ.recv (G := gGG) sq1339.1 tm rfl rfl)) (mm_must _ sq1339.1 m tm 0 (by omega) (p0 + 3) (by omega) fq1339_0 efq1339_0 (by omega)) (fun q1352 _ wq1352 => ?_)
                  obtain ⟨pq1352, oq1352, hq1352⟩ := q1352
                  obtain ⟨xq1352, zq1352, fq1352_0, gq1352, aq1352, bq1352, efq1352_0, afq1352_0, bfq1352_0, uq1352_0, uq1352_1⟩ := wq1352
                  refine ⟨_, gq1352, ?_⟩
                  show gz gPP gGG gcn _ _ 177 [some (.ref m), some (.int (zi by2)), some (.int (zi mk)), some (.int (zi bg)), some (.int (zi n)), some (.int (zi zq1286)), some (.int (zi zq1339)), none, none, none, none] [.int (zi zq1352)] hq1352 _
                  have sq1352 := gSs.tr sq1339 xq1352 (by decide)
                  have s1353 := (xq1352.2.2.2.2.2 m 5 (by rw [tm]; decide)).trans s1340
                  have s1354 := (xq1352.2.2.2.2.2 m 6 (by rw [tm]; decide)).trans s1341
                  have s1355 := (xq1352.2.2.2.2.2 m 3 (by rw [tm]; decide)).trans s1342
                  have s1356 := (xq1352.2.2.2.2.2 m 16 (by rw [tm]; decide)).trans s1343
                  have s1357 := (xq1352.2.2.2.2.2 m 18 (by rw [tm]; decide)).trans s1344
                  have s1358 := (xq1352.2.2.2.2.2 m 19 (by rw [tm]; decide)).trans s1345
                  have s1359 := (xq1352.2.2.2.2.2 m 21 (by rw [tm]; decide)).trans s1346
                  have s1360 := (xq1352.2.2.2.2.2 m 22 (by rw [tm]; decide)).trans s1347
                  have s1361 := (xq1352.2.2.2.2.2 m 20 (by rw [tm]; decide)).trans s1348
                  have s1362 := (xq1352.2.2.2.2.2 m 4 (by rw [tm]; decide)).trans s1349
                  have pr1363 := gPi.fr xq1352.2 (by decide) pr1350
                  clear s1340 s1341 s1342 s1343 s1344 s1345 s1346 s1347 s1348 s1349 pr1350
                  refine gy_ifF rfl (by decide) (by decide) (by omega) (by first | (simp [zc]; done) | (simp only [zc]; omega)) ?_
                  have hpi1364 : gPi ty ip w hh wd hg bs hq1352 := fun e => absurd e (by omega)
                  exact gz_end (I := .return_) (len := 1) rfl (Or.inl rfl) ⟨sq1352, fq1352_0, ip, w, hh, wd, hg, bs, rfl, efq1352_0, (by omega), (by omega), s1356, (by omega), (by omega), s1357, (by omega), (by omega), s1358, (by omega), (by omega), s1359, (by omega), (by omega), s1360, (by omega), (by omega), s1361, (by omega), (by omega), hpi1364⟩
                · refine gy_icF rfl (by decide) (by decide) (by omega) (by omega) hc1351 ?_
                  refine gz_s 2 (pc' := 160) (L' := [some (.ref m), some (.int (zi by2)), some (.int (zi mk)), some (.int (zi bg)), some (.int (zi n)), some (.int (zi zq1286)), some (.int (zi zq1339)), none, none, none, none]) (S' := [.int (zi 64), .int (zi zq1339), .ref m]) rfl ?_
                  by_cases hc1365 : (64 : Int) < zq1339
                  · refine gy_icT (pc' := 167) rfl (by decide) (by decide) (by omega) (by omega) hc1365 ?_
                    refine gz_s 2 (pc' := 169) (L' := [some (.ref m), some (.int (zi by2)), some (.int (zi mk)), some (.int (zi bg)), some (.int (zi n)), some (.int (zi zq1286)), some (.int (zi zq1339)), none, none, none, none]) (S' := [.ref m, .int (zi 0), .ref m]) rfl ?_
                    refine gs_gtk rfl (by decide) rfl sq1339.1 tm rfl rfl s1340 ?_
                    refine gy_s 2 (pc' := 174) (L' := [some (.ref m), some (.int (zi by2)), some (.int (zi mk)), some (.int (zi bg)), some (.int (zi n)), some (.int (zi zq1286)), some (.int (zi zq1339)), none, none, none, none]) (S' := [.int ((zi p0) + (zi 3)), .int (zi 0), .ref m]) (L2 := [some (.ref m), some (.int (zi by2)), some (.int (zi mk)), some (.int (zi bg)), some (.int (zi n)), some (.int (zi zq1286)), some (.int (zi zq1339)), none, none, none, none]) (S2 := [.int (zi (p0 + 3)), .int (zi 0), .ref m]) rfl (by simp only [zi_add, zi_sub, zi_mul, zi_neg, zi_and1, zi_and7, zi_and15, zi_and31, zi_and255, Int.reduceAdd, Int.reduceMul, Int.reduceSub]) (by simp only [zi_add, zi_sub, zi_mul, zi_neg, zi_and1, zi_and7, zi_and15, zi_and31, zi_and255, Int.reduceAdd, Int.reduceMul, Int.reduceSub]) ?_
                    refine gz_call rfl (by decide) rfl (by decide) (by decide) (gcal_of rfl rfl rfl (Nat.le_of_ble_eq_true rfl) (gJ.recv (G := gGG) sq1339.1 tm rfl rfl)) (mm_must _ sq1339.1 m tm 0 (by omega) (p0 + 3) (by omega) fq1339_0 efq1339_0 (by omega)) (fun q1366 _ wq1366 => ?_)
                    obtain ⟨pq1366, oq1366, hq1366⟩ := q1366
                    obtain ⟨xq1366, zq1366, fq1366_0, gq1366, aq1366, bq1366, efq1366_0, afq1366_0, bfq1366_0, uq1366_0, uq1366_1⟩ := wq1366
                    refine ⟨_, gq1366, ?_⟩
                    show gz gPP gGG gcn _ _ 177 [some (.ref m), some (.int (zi by2)), some (.int (zi mk)), some (.int (zi bg)), some (.int (zi n)), some (.int (zi zq1286)), some (.int (zi zq1339)), none, none, none, none] [.int (zi zq1366)] hq1366 _
                    have sq1366 := gSs.tr sq1339 xq1366 (by decide)
                    have s1367 := (xq1366.2.2.2.2.2 m 5 (by rw [tm]; decide)).trans s1340
                    have s1368 := (xq1366.2.2.2.2.2 m 6 (by rw [tm]; decide)).trans s1341
                    have s1369 := (xq1366.2.2.2.2.2 m 3 (by rw [tm]; decide)).trans s1342
                    have s1370 := (xq1366.2.2.2.2.2 m 16 (by rw [tm]; decide)).trans s1343
                    have s1371 := (xq1366.2.2.2.2.2 m 18 (by rw [tm]; decide)).trans s1344
                    have s1372 := (xq1366.2.2.2.2.2 m 19 (by rw [tm]; decide)).trans s1345
                    have s1373 := (xq1366.2.2.2.2.2 m 21 (by rw [tm]; decide)).trans s1346
                    have s1374 := (xq1366.2.2.2.2.2 m 22 (by rw [tm]; decide)).trans s1347
                    have s1375 := (xq1366.2.2.2.2.2 m 20 (by rw [tm]; decide)).trans s1348
                    have s1376 := (xq1366.2.2.2.2.2 m 4 (by rw [tm]; decide)).trans s1349
                    have pr1377 := gPi.fr xq1366.2 (by decide) pr1350
                    clear s1340 s1341 s1342 s1343 s1344 s1345 s1346 s1347 s1348 s1349 pr1350
                    refine gy_ifF rfl (by decide) (by decide) (by omega) (by first | (simp [zc]; done) | (simp only [zc]; omega)) ?_
                    have hpi1378 : gPi ty ip w hh wd hg bs hq1366 := fun e => absurd e (by omega)
                    exact gz_end (I := .return_) (len := 1) rfl (Or.inl rfl) ⟨sq1366, fq1366_0, ip, w, hh, wd, hg, bs, rfl, efq1366_0, (by omega), (by omega), s1370, (by omega), (by omega), s1371, (by omega), (by omega), s1372, (by omega), (by omega), s1373, (by omega), (by omega), s1374, (by omega), (by omega), s1375, (by omega), (by omega), hpi1378⟩
                  · refine gy_icF rfl (by decide) (by decide) (by omega) (by omega) hc1365 ?_
                    refine gz_s 3 (pc' := 169) (L' := [some (.ref m), some (.int (zi by2)), some (.int (zi mk)), some (.int (zi bg)), some (.int (zi n)), some (.int (zi zq1286)), some (.int (zi zq1339)), none, none, none, none]) (S' := [.ref m, .int (zi 1), .ref m]) rfl ?_
                    refine gs_gtk rfl (by decide) rfl sq1339.1 tm rfl rfl s1340 ?_
                    refine gy_s 2 (pc' := 174) (L' := [some (.ref m), some (.int (zi by2)), some (.int (zi mk)), some (.int (zi bg)), some (.int (zi n)), some (.int (zi zq1286)), some (.int (zi zq1339)), none, none, none, none]) (S' := [.int ((zi p0) + (zi 3)), .int (zi 1), .ref m]) (L2 := [some (.ref m), some (.int (zi by2)), some (.int (zi mk)), some (.int (zi bg)), some (.int (zi n)), some (.int (zi zq1286)), some (.int (zi zq1339)), none, none, none, none]) (S2 := [.int (zi (p0 + 3)), .int (zi 1), .ref m]) rfl (by simp only [zi_add, zi_sub, zi_mul, zi_neg, zi_and1, zi_and7, zi_and15, zi_and31, zi_and255, Int.reduceAdd, Int.reduceMul, Int.reduceSub]) (by simp only [zi_add, zi_sub, zi_mul, zi_neg, zi_and1, zi_and7, zi_and15, zi_and31, zi_and255, Int.reduceAdd, Int.reduceMul, Int.reduceSub]) ?_
                    refine gz_call rfl (by decide) rfl (by decide) (by decide) (gcal_of rfl rfl rfl (Nat.le_of_ble_eq_true rfl) (gJ.recv (G := gGG) sq1339.1 tm rfl rfl)) (mm_must _ sq1339.1 m tm 1 (by omega) (p0 + 3) (by omega) fq1339_0 efq1339_0 (by omega)) (fun q1379 _ wq1379 => ?_)
                    obtain ⟨pq1379, oq1379, hq1379⟩ := q1379
                    obtain ⟨xq1379, zq1379, fq1379_0, gq1379, aq1379, bq1379, efq1379_0, afq1379_0, bfq1379_0, uq1379_0, uq1379_1⟩ := wq1379
                    refine ⟨_, gq1379, ?_⟩
                    show gz gPP gGG gcn _ _ 177 [some (.ref m), some (.int (zi by2)), some (.int (zi mk)), some (.int (zi bg)), some (.int (zi n)), some (.int (zi zq1286)), some (.int (zi zq1339)), none, none, none, none] [.int (zi zq1379)] hq1379 _
                    have sq1379 := gSs.tr sq1339 xq1379 (by decide)
                    have s1380 := (xq1379.2.2.2.2.2 m 5 (by rw [tm]; decide)).trans s1340
                    have s1381 := (xq1379.2.2.2.2.2 m 6 (by rw [tm]; decide)).trans s1341
                    have s1382 := (xq1379.2.2.2.2.2 m 3 (by rw [tm]; decide)).trans s1342
                    have s1383 := (xq1379.2.2.2.2.2 m 16 (by rw [tm]; decide)).trans s1343
                    have s1384 := (xq1379.2.2.2.2.2 m 18 (by rw [tm]; decide)).trans s1344
                    have s1385 := (xq1379.2.2.2.2.2 m 19 (by rw [tm]; decide)).trans s1345
                    have s1386 := (xq1379.2.2.2.2.2 m 21 (by rw [tm]; decide)).trans s1346
                    have s1387 := (xq1379.2.2.2.2.2 m 22 (by rw [tm]; decide)).trans s1347
                    have s1388 := (xq1379.2.2.2.2.2 m 20 (by rw [tm]; decide)).trans s1348
                    have s1389 := (xq1379.2.2.2.2.2 m 4 (by rw [tm]; decide)).trans s1349
                    have pr1390 := gPi.fr xq1379.2 (by decide) pr1350
                    clear s1340 s1341 s1342 s1343 s1344 s1345 s1346 s1347 s1348 s1349 pr1350
                    by_cases hc1391 : ¬ (zq1379 : Int) = 0
                    · refine gy_ifT (pc' := 181) rfl (by decide) (by decide) (by omega) hc1391 ?_
                      refine gz_s 1 (pc' := 182) (L' := [some (.ref m), some (.int (zi by2)), some (.int (zi mk)), some (.int (zi bg)), some (.int (zi n)), some (.int (zi zq1286)), some (.int (zi zq1339)), none, none, none, none]) (S' := [.ref m]) rfl ?_
                      refine gs_gtk rfl (by decide) rfl sq1379.1 tm rfl rfl s1389 ?_
                      refine gz_s 1 (pc' := 186) (L' := [some (.ref m), some (.int (zi by2)), some (.int (zi mk)), some (.int (zi bg)), some (.int (zi n)), some (.int (zi zq1286)), some (.int (zi zq1339)), none, none, none, none]) (S' := [.ref m, .ref c49]) rfl ?_
                      refine gs_gtk rfl (by decide) rfl sq1379.1 tm rfl rfl s1380 ?_
                      refine gy_s 2 (pc' := 191) (L' := [some (.ref m), some (.int (zi by2)), some (.int (zi mk)), some (.int (zi bg)), some (.int (zi n)), some (.int (zi zq1286)), some (.int (zi zq1339)), none, none, none, none]) (S' := [.int ((zi p0) + (zi 5)), .ref c49]) (L2 := [some (.ref m), some (.int (zi by2)), some (.int (zi mk)), some (.int (zi bg)), some (.int (zi n)), some (.int (zi zq1286)), some (.int (zi zq1339)), none, none, none, none]) (S2 := [.int (zi (p0 + 5)), .ref c49]) rfl (by simp only [zi_add, zi_sub, zi_mul, zi_neg, zi_and1, zi_and7, zi_and15, zi_and31, zi_and255, Int.reduceAdd, Int.reduceMul, Int.reduceSub]) (by simp only [zi_add, zi_sub, zi_mul, zi_neg, zi_and1, zi_and7, zi_and15, zi_and31, zi_and255, Int.reduceAdd, Int.reduceMul, Int.reduceSub]) ?_
                      have hl1392 : 2000 ≤ hq1379.2.2.2.1 c49 ∧ hq1379.2.2.2.1 c49 ≤ 2000 := gJ.rowl (G := gGG) sq1379.1 tc49 rfl
                      refine gs_ald rfl (by decide) sq1379.1 tc49 rfl rfl rfl (by decide) (fun _ => rfl) (by omega) (by omega) (fun z1393 ez1393 az1393 bz1393 => ?_)
                      refine gz_s 4 (pc' := 198) (L' := [some (.ref m), some (.int (zi by2)), some (.int (zi mk)), some (.int (zi bg)), some (.int (zi n)), some (.int (zi zq1286)), some (.int (zi zq1339)), some (.int (zi z1393)), none, none, none]) (S' := [.int (zi 1), .int (zi z1393), .ref m]) rfl ?_
                      by_cases hc1394 : (z1393 : Int) = 1
                      · refine gy_icT (pc' := 207) rfl (by decide) (by decide) (by omega) (by omega) hc1394 ?_
                        refine gz_s 3 (pc' := 213) (L' := [some (.ref m), some (.int (zi by2)), some (.int (zi mk)), some (.int (zi bg)), some (.int (zi n)), some (.int (zi zq1286)), some (.int (zi zq1339)), some (.int (zi z1393)), none, none, none]) (S' := [.ref m, .int (zi 1), .ref m]) rfl ?_
                        refine gs_gtk rfl (by decide) rfl sq1379.1 tm rfl rfl s1380 ?_
                        refine gy_s 2 (pc' := 218) (L' := [some (.ref m), some (.int (zi by2)), some (.int (zi mk)), some (.int (zi bg)), some (.int (zi n)), some (.int (zi zq1286)), some (.int (zi zq1339)), some (.int (zi z1393)), none, none, none]) (S' := [.int ((zi p0) + (zi 5)), .int (zi 1), .ref m]) (L2 := [some (.ref m), some (.int (zi by2)), some (.int (zi mk)), some (.int (zi bg)), some (.int (zi n)), some (.int (zi zq1286)), some (.int (zi zq1339)), some (.int (zi z1393)), none, none, none]) (S2 := [.int (zi (p0 + 5)), .int (zi 1), .ref m]) rfl (by simp only [zi_add, zi_sub, zi_mul, zi_neg, zi_and1, zi_and7, zi_and15, zi_and31, zi_and255, Int.reduceAdd, Int.reduceMul, Int.reduceSub]) (by simp only [zi_add, zi_sub, zi_mul, zi_neg, zi_and1, zi_and7, zi_and15, zi_and31, zi_and255, Int.reduceAdd, Int.reduceMul, Int.reduceSub]) ?_
                        refine gz_call rfl (by decide) rfl (by decide) (by decide) (gcal_of rfl rfl rfl (Nat.le_of_ble_eq_true rfl) (gJ.recv (G := gGG) sq1379.1 tm rfl rfl)) (mm_must _ sq1379.1 m tm 1 (by omega) (p0 + 5) (by omega) fq1379_0 efq1379_0 (by omega)) (fun q1395 _ wq1395 => ?_)
                        obtain ⟨pq1395, oq1395, hq1395⟩ := q1395
                        obtain ⟨xq1395, zq1395, fq1395_0, gq1395, aq1395, bq1395, efq1395_0, afq1395_0, bfq1395_0, uq1395_0, uq1395_1⟩ := wq1395
                        refine ⟨_, gq1395, ?_⟩
                        show gz gPP gGG gcn _ _ 221 [some (.ref m), some (.int (zi by2)), some (.int (zi mk)), some (.int (zi bg)), some (.int (zi n)), some (.int (zi zq1286)), some (.int (zi zq1339)), some (.int (zi z1393)), none, none, none] [.int (zi zq1395)] hq1395 _
                        have sq1395 := gSs.tr sq1379 xq1395 (by decide)
                        have s1396 := (xq1395.2.2.2.2.2 m 5 (by rw [tm]; decide)).trans s1380
                        have s1397 := (xq1395.2.2.2.2.2 m 6 (by rw [tm]; decide)).trans s1381
                        have s1398 := (xq1395.2.2.2.2.2 m 3 (by rw [tm]; decide)).trans s1382
                        have s1399 := (xq1395.2.2.2.2.2 m 16 (by rw [tm]; decide)).trans s1383
                        have s1400 := (xq1395.2.2.2.2.2 m 18 (by rw [tm]; decide)).trans s1384
                        have s1401 := (xq1395.2.2.2.2.2 m 19 (by rw [tm]; decide)).trans s1385
                        have s1402 := (xq1395.2.2.2.2.2 m 21 (by rw [tm]; decide)).trans s1386
                        have s1403 := (xq1395.2.2.2.2.2 m 22 (by rw [tm]; decide)).trans s1387
                        have s1404 := (xq1395.2.2.2.2.2 m 20 (by rw [tm]; decide)).trans s1388
                        have s1405 := (xq1395.2.2.2.2.2 m 4 (by rw [tm]; decide)).trans s1389
                        have pr1406 := gPi.fr xq1395.2 (by decide) pr1390
                        clear s1380 s1381 s1382 s1383 s1384 s1385 s1386 s1387 s1388 s1389 pr1390
                        by_cases hc1407 : (zq1395 : Int) = 0
                        · refine gy_ifT (pc' := 249) rfl (by decide) (by decide) (by omega) hc1407 ?_
                          have hpi1408 : gPi ty ip w hh wd hg bs hq1395 := fun e => absurd e (by omega)
                          exact gz_end (I := .return_) (len := 1) rfl (Or.inl rfl) ⟨sq1395, fq1395_0, ip, w, hh, wd, hg, bs, rfl, efq1395_0, (by omega), (by omega), s1399, (by omega), (by omega), s1400, (by omega), (by omega), s1401, (by omega), (by omega), s1402, (by omega), (by omega), s1403, (by omega), (by omega), s1404, (by omega), (by omega), hpi1408⟩
                        · refine gy_ifF rfl (by decide) (by decide) (by omega) hc1407 ?_
                          refine gy_s 7 (pc' := 234) (L' := [some (.ref m), some (.int (zi by2)), some (.int (zi mk)), some (.int (zi bg)), some (.int (zi n)), some (.int (zi zq1286)), some (.int (zi zq1339)), some (.int (zi z1393)), none, none, none]) (S' := [.int ((zi 8) + ((zi 3) * (zi z1393))), .int (zi n), .ref m]) (L2 := [some (.ref m), some (.int (zi by2)), some (.int (zi mk)), some (.int (zi bg)), some (.int (zi n)), some (.int (zi zq1286)), some (.int (zi zq1339)), some (.int (zi z1393)), none, none, none]) (S2 := [.int (zi (8 + (3 * z1393))), .int (zi n), .ref m]) rfl (by simp only [zi_add, zi_sub, zi_mul, zi_neg, zi_and1, zi_and7, zi_and15, zi_and31, zi_and255, Int.reduceAdd, Int.reduceMul, Int.reduceSub]) (by simp only [zi_add, zi_sub, zi_mul, zi_neg, zi_and1, zi_and7, zi_and15, zi_and31, zi_and255, Int.reduceAdd, Int.reduceMul, Int.reduceSub]) ?_
                          by_cases hc1409 : ¬ (n : Int) = 8 + (3 * z1393)
                          · refine gy_icT (pc' := 241) rfl (by decide) (by decide) (by omega) (by omega) hc1409 ?_
                            refine gz_s 2 (pc' := 243) (L' := [some (.ref m), some (.int (zi by2)), some (.int (zi mk)), some (.int (zi bg)), some (.int (zi n)), some (.int (zi zq1286)), some (.int (zi zq1339)), some (.int (zi z1393)), none, none, none]) (S' := [.int (zi bg), .int (zi 0), .ref m]) rfl ?_
                            refine gz_call rfl (by decide) rfl (by decide) (by decide) (gcal_of rfl rfl rfl (Nat.le_of_ble_eq_true rfl) (gJ.recv (G := gGG) sq1395.1 tm rfl rfl)) (mm_must _ sq1395.1 m tm 0 (by omega) bg (by omega) fq1395_0 efq1395_0 (by omega)) (fun q1410 _ wq1410 => ?_)
                            obtain ⟨pq1410, oq1410, hq1410⟩ := q1410
                            obtain ⟨xq1410, zq1410, fq1410_0, gq1410, aq1410, bq1410, efq1410_0, afq1410_0, bfq1410_0, uq1410_0, uq1410_1⟩ := wq1410
                            refine ⟨_, gq1410, ?_⟩
                            show gz gPP gGG gcn _ _ 246 [some (.ref m), some (.int (zi by2)), some (.int (zi mk)), some (.int (zi bg)), some (.int (zi n)), some (.int (zi zq1286)), some (.int (zi zq1339)), some (.int (zi z1393)), none, none, none] [.int (zi zq1410)] hq1410 _
                            have sq1410 := gSs.tr sq1395 xq1410 (by decide)
                            have s1411 := (xq1410.2.2.2.2.2 m 5 (by rw [tm]; decide)).trans s1396
                            have s1412 := (xq1410.2.2.2.2.2 m 6 (by rw [tm]; decide)).trans s1397
                            have s1413 := (xq1410.2.2.2.2.2 m 3 (by rw [tm]; decide)).trans s1398
                            have s1414 := (xq1410.2.2.2.2.2 m 16 (by rw [tm]; decide)).trans s1399
                            have s1415 := (xq1410.2.2.2.2.2 m 18 (by rw [tm]; decide)).trans s1400
                            have s1416 := (xq1410.2.2.2.2.2 m 19 (by rw [tm]; decide)).trans s1401
                            have s1417 := (xq1410.2.2.2.2.2 m 21 (by rw [tm]; decide)).trans s1402
                            have s1418 := (xq1410.2.2.2.2.2 m 22 (by rw [tm]; decide)).trans s1403
                            have s1419 := (xq1410.2.2.2.2.2 m 20 (by rw [tm]; decide)).trans s1404
                            have s1420 := (xq1410.2.2.2.2.2 m 4 (by rw [tm]; decide)).trans s1405
                            have pr1421 := gPi.fr xq1410.2 (by decide) pr1406
                            clear s1396 s1397 s1398 s1399 s1400 s1401 s1402 s1403 s1404 s1405 pr1406
                            refine gy_ifF rfl (by decide) (by decide) (by omega) (by first | (simp [zc]; done) | (simp only [zc]; omega)) ?_
                            have hpi1422 : gPi ty ip w hh wd hg bs hq1410 := fun e => absurd e (by omega)
                            exact gz_end (I := .return_) (len := 1) rfl (Or.inl rfl) ⟨sq1410, fq1410_0, ip, w, hh, wd, hg, bs, rfl, efq1410_0, (by omega), (by omega), s1414, (by omega), (by omega), s1415, (by omega), (by omega), s1416, (by omega), (by omega), s1417, (by omega), (by omega), s1418, (by omega), (by omega), s1419, (by omega), (by omega), hpi1422⟩
                          · refine gy_icF rfl (by decide) (by decide) (by omega) (by omega) hc1409 ?_
                            refine gz_s 3 (pc' := 243) (L' := [some (.ref m), some (.int (zi by2)), some (.int (zi mk)), some (.int (zi bg)), some (.int (zi n)), some (.int (zi zq1286)), some (.int (zi zq1339)), some (.int (zi z1393)), none, none, none]) (S' := [.int (zi bg), .int (zi 1), .ref m]) rfl ?_
                            refine gz_call rfl (by decide) rfl (by decide) (by decide) (gcal_of rfl rfl rfl (Nat.le_of_ble_eq_true rfl) (gJ.recv (G := gGG) sq1395.1 tm rfl rfl)) (mm_must _ sq1395.1 m tm 1 (by omega) bg (by omega) fq1395_0 efq1395_0 (by omega)) (fun q1423 _ wq1423 => ?_)
                            obtain ⟨pq1423, oq1423, hq1423⟩ := q1423
                            obtain ⟨xq1423, zq1423, fq1423_0, gq1423, aq1423, bq1423, efq1423_0, afq1423_0, bfq1423_0, uq1423_0, uq1423_1⟩ := wq1423
                            refine ⟨_, gq1423, ?_⟩
                            show gz gPP gGG gcn _ _ 246 [some (.ref m), some (.int (zi by2)), some (.int (zi mk)), some (.int (zi bg)), some (.int (zi n)), some (.int (zi zq1286)), some (.int (zi zq1339)), some (.int (zi z1393)), none, none, none] [.int (zi zq1423)] hq1423 _
                            have sq1423 := gSs.tr sq1395 xq1423 (by decide)
                            have s1424 := (xq1423.2.2.2.2.2 m 5 (by rw [tm]; decide)).trans s1396
                            have s1425 := (xq1423.2.2.2.2.2 m 6 (by rw [tm]; decide)).trans s1397
                            have s1426 := (xq1423.2.2.2.2.2 m 3 (by rw [tm]; decide)).trans s1398
                            have s1427 := (xq1423.2.2.2.2.2 m 16 (by rw [tm]; decide)).trans s1399
                            have s1428 := (xq1423.2.2.2.2.2 m 18 (by rw [tm]; decide)).trans s1400
                            have s1429 := (xq1423.2.2.2.2.2 m 19 (by rw [tm]; decide)).trans s1401
                            have s1430 := (xq1423.2.2.2.2.2 m 21 (by rw [tm]; decide)).trans s1402
                            have s1431 := (xq1423.2.2.2.2.2 m 22 (by rw [tm]; decide)).trans s1403
                            have s1432 := (xq1423.2.2.2.2.2 m 20 (by rw [tm]; decide)).trans s1404
                            have s1433 := (xq1423.2.2.2.2.2 m 4 (by rw [tm]; decide)).trans s1405
                            have pr1434 := gPi.fr xq1423.2 (by decide) pr1406
                            clear s1396 s1397 s1398 s1399 s1400 s1401 s1402 s1403 s1404 s1405 pr1406
                            by_cases hc1435 : ¬ (zq1423 : Int) = 0
                            · refine gy_ifT (pc' := 250) rfl (by decide) (by decide) (by omega) hc1435 ?_
                              refine gz_s 4 (pc' := 257) (L' := [some (.ref m), some (.int (zi by2)), some (.int (zi mk)), some (.int (zi bg)), some (.int (zi n)), some (.int (zi zq1286)), some (.int (zi zq1339)), some (.int (zi z1393)), some (.int (zi 0)), none, none]) (S' := [.int (zi z1393), .int (zi 0)]) rfl ?_
                              refine gy_icF rfl (by decide) (by decide) (by omega) (by omega) (by first | (simp [zc]; done) | (simp only [zc]; omega)) ?_
                              refine gz_s 1 (pc' := 261) (L' := [some (.ref m), some (.int (zi by2)), some (.int (zi mk)), some (.int (zi bg)), some (.int (zi n)), some (.int (zi zq1286)), some (.int (zi zq1339)), some (.int (zi z1393)), some (.int (zi 0)), none, none]) (S' := [.ref m]) rfl ?_
                              refine gs_gtk rfl (by decide) rfl sq1423.1 tm rfl rfl efq1423_0 ?_
                              refine gz_s 1 (pc' := 265) (L' := [some (.ref m), some (.int (zi by2)), some (.int (zi mk)), some (.int (zi bg)), some (.int (zi n)), some (.int (zi zq1286)), some (.int (zi zq1339)), some (.int (zi z1393)), some (.int (zi 0)), none, none]) (S' := [.int (zi (-1)), .int (zi fq1423_0)]) rfl ?_
                              by_cases hc1436 : ¬ (fq1423_0 : Int) = (-1)
                              · refine gy_icT (pc' := 484) rfl (by decide) (by decide) (by omega) (by omega) hc1436 ?_
                                refine gz_s 1 (pc' := 485) (L' := [some (.ref m), some (.int (zi by2)), some (.int (zi mk)), some (.int (zi bg)), some (.int (zi n)), some (.int (zi zq1286)), some (.int (zi zq1339)), some (.int (zi z1393)), some (.int (zi 0)), none, none]) (S' := [.ref m]) rfl ?_
                                refine gs_gtk rfl (by decide) rfl sq1423.1 tm rfl rfl efq1423_0 ?_
                                refine gz_s 1 (pc' := 489) (L' := [some (.ref m), some (.int (zi by2)), some (.int (zi mk)), some (.int (zi bg)), some (.int (zi n)), some (.int (zi zq1286)), some (.int (zi zq1339)), some (.int (zi z1393)), some (.int (zi 0)), none, none]) (S' := [.int (zi (-1)), .int (zi fq1423_0)]) rfl ?_
                                refine gy_icF rfl (by decide) (by decide) (by omega) (by omega) (by first | (simp [zc]; done) | (simp only [zc]; omega)) ?_
                                have hpi1437 : gPi ty ip w hh wd hg bs hq1423 := fun e => absurd e (by omega)
                                exact gz_end (I := .return_) (len := 1) rfl (Or.inl rfl) ⟨sq1423, fq1423_0, ip, w, hh, wd, hg, bs, rfl, efq1423_0, (by omega), (by omega), s1427, (by omega), (by omega), s1428, (by omega), (by omega), s1429, (by omega), (by omega), s1430, (by omega), (by omega), s1431, (by omega), (by omega), s1432, (by omega), (by omega), hpi1437⟩
                              · refine gy_icF rfl (by decide) (by decide) (by omega) (by omega) hc1436 ?_
                                refine gz_s 1 (pc' := 269) (L' := [some (.ref m), some (.int (zi by2)), some (.int (zi mk)), some (.int (zi bg)), some (.int (zi n)), some (.int (zi zq1286)), some (.int (zi zq1339)), some (.int (zi z1393)), some (.int (zi 0)), none, none]) (S' := [.ref m]) rfl ?_
                                refine gs_gtk rfl (by decide) rfl sq1423.1 tm rfl rfl s1424 ?_
                                refine gy_s 8 (pc' := 283) (L' := [some (.ref m), some (.int (zi by2)), some (.int (zi mk)), some (.int (zi bg)), some (.int (zi n)), some (.int (zi zq1286)), some (.int (zi zq1339)), some (.int (zi z1393)), some (.int (zi 0)), some (.int (((zi p0) + (zi 6)) + ((zi 3) * (zi 0)))), none]) (S' := [.ref m]) (L2 := [some (.ref m), some (.int (zi by2)), some (.int (zi mk)), some (.int (zi bg)), some (.int (zi n)), some (.int (zi zq1286)), some (.int (zi zq1339)), some (.int (zi z1393)), some (.int (zi 0)), some (.int (zi ((p0 + 6) + 0))), none]) (S2 := [.ref m]) rfl (by simp only [zi_add, zi_sub, zi_mul, zi_neg, zi_and1, zi_and7, zi_and15, zi_and31, zi_and255, Int.reduceAdd, Int.reduceMul, Int.reduceSub]) (by simp only [zi_add, zi_sub, zi_mul, zi_neg, zi_and1, zi_and7, zi_and15, zi_and31, zi_and255, Int.reduceAdd, Int.reduceMul, Int.reduceSub]) ?_
                                refine gs_gtr rfl (by decide) rfl sq1423.1 tm rfl rfl rfl (fun c1438 ec1438 tc1438 => ?_)
                                refine gz_s 2 (pc' := 289) (L' := [some (.ref m), some (.int (zi by2)), some (.int (zi mk)), some (.int (zi bg)), some (.int (zi n)), some (.int (zi zq1286)), some (.int (zi zq1339)), some (.int (zi z1393)), some (.int (zi 0)), some (.int (zi ((p0 + 6) + 0))), none]) (S' := [.ref m, .int (zi 0), .ref c1438]) rfl ?_
                                refine gs_gtk rfl (by decide) rfl sq1423.1 tm rfl rfl s1433 ?_
                                refine gz_s 1 (pc' := 294) (L' := [some (.ref m), some (.int (zi by2)), some (.int (zi mk)), some (.int (zi bg)), some (.int (zi n)), some (.int (zi zq1286)), some (.int (zi zq1339)), some (.int (zi z1393)), some (.int (zi 0)), some (.int (zi ((p0 + 6) + 0))), none]) (S' := [.int (zi ((p0 + 6) + 0)), .ref c49, .int (zi 0), .ref c1438]) rfl ?_
                                have hl1439 : 2000 ≤ hq1423.2.2.2.1 c49 ∧ hq1423.2.2.2.1 c49 ≤ 2000 := gJ.rowl (G := gGG) sq1423.1 tc49 rfl
                                refine gs_ald rfl (by decide) sq1423.1 tc49 rfl rfl rfl (by decide) (fun _ => rfl) (by omega) (by omega) (fun z1440 ez1440 az1440 bz1440 => ?_)
                                have hl1441 : 3 ≤ hq1423.2.2.2.1 c1438 ∧ hq1423.2.2.2.1 c1438 ≤ 3 := gJ.rowl (G := gGG) sq1423.1 tc1438 rfl
                                refine gs_ast rfl (by decide) sq1423 tc1438 rfl rfl rfl (by decide) (fun _ => rfl) (by omega) (by omega) (fun _ => (by decide : (11999 : Nat) ∈ ([1007, 1016, 1017, 1018, 1019, 1020, 1021, 1022, 1023, 1024, 11999, 12999, 13999, 14999, 15999, 16999, 17999, 18999, 19999, 23999, 24999] : List Nat))) (by omega) (by omega) (fun h1442 sh1442 eh1442 fh1442 => ?_)
                                have pr1443 := gPi.pt fh1442 tc1438 (by decide) pr1434
                                have s1444 := (fh1442 m 5 (fun q => absurd (((tm).symm.trans (congrArg ty q.1)).trans tc1438) (by decide))).trans s1424
                                have s1445 := (fh1442 m 6 (fun q => absurd (((tm).symm.trans (congrArg ty q.1)).trans tc1438) (by decide))).trans s1425
                                have s1446 := (fh1442 m 3 (fun q => absurd (((tm).symm.trans (congrArg ty q.1)).trans tc1438) (by decide))).trans s1426
                                have s1447 := (fh1442 m 16 (fun q => absurd (((tm).symm.trans (congrArg ty q.1)).trans tc1438) (by decide))).trans s1427
                                have s1448 := (fh1442 m 18 (fun q => absurd (((tm).symm.trans (congrArg ty q.1)).trans tc1438) (by decide))).trans s1428
                                have s1449 := (fh1442 m 19 (fun q => absurd (((tm).symm.trans (congrArg ty q.1)).trans tc1438) (by decide))).trans s1429
                                have s1450 := (fh1442 m 21 (fun q => absurd (((tm).symm.trans (congrArg ty q.1)).trans tc1438) (by decide))).trans s1430
                                have s1451 := (fh1442 m 22 (fun q => absurd (((tm).symm.trans (congrArg ty q.1)).trans tc1438) (by decide))).trans s1431
                                have s1452 := (fh1442 m 20 (fun q => absurd (((tm).symm.trans (congrArg ty q.1)).trans tc1438) (by decide))).trans s1432
                                have s1453 := (fh1442 m 4 (fun q => absurd (((tm).symm.trans (congrArg ty q.1)).trans tc1438) (by decide))).trans s1433
                                have s1454 := (fh1442 m 7 (fun q => absurd (((tm).symm.trans (congrArg ty q.1)).trans tc1438) (by decide))).trans efq1423_0
                                have s1455 := (fh1442 m 25 (fun q => absurd (((tm).symm.trans (congrArg ty q.1)).trans tc1438) (by decide))).trans ec1438
                                clear s1424 s1425 s1426 s1427 s1428 s1429 s1430 s1431 s1432 s1433 pr1434
                                have pr1456 := gEl.set (i := 0) (z := z1440) uq tc1438 (by decide) eh1442 (by omega) (by omega)
                                refine gz_s 4 (pc' := 303) (L' := [some (.ref m), some (.int (zi by2)), some (.int (zi mk)), some (.int (zi bg)), some (.int (zi n)), some (.int (zi zq1286)), some (.int (zi zq1339)), some (.int (zi z1393)), some (.int (zi 0)), some (.int (zi ((p0 + 6) + 0))), some (.int (zi 0))]) (S' := [.int (zi 0), .int (zi 0)]) rfl ?_
                                refine gy_icT (pc' := 341) rfl (by decide) (by decide) (by omega) (by omega) (by first | (simp [zc]; done) | (simp only [zc]; omega)) ?_
                                refine gz_s 1 (pc' := 342) (L' := [some (.ref m), some (.int (zi by2)), some (.int (zi mk)), some (.int (zi bg)), some (.int (zi n)), some (.int (zi zq1286)), some (.int (zi zq1339)), some (.int (zi z1393)), some (.int (zi 0)), some (.int (zi ((p0 + 6) + 0))), some (.int (zi 0))]) (S' := [.ref m]) rfl ?_
                                refine gs_gtr rfl (by decide) rfl sh1442.1 tm rfl rfl rfl (fun c1457 ec1457 tc1457 => ?_)
                                refine gz_s 2 (pc' := 348) (L' := [some (.ref m), some (.int (zi by2)), some (.int (zi mk)), some (.int (zi bg)), some (.int (zi n)), some (.int (zi zq1286)), some (.int (zi zq1339)), some (.int (zi z1393)), some (.int (zi 0)), some (.int (zi ((p0 + 6) + 0))), some (.int (zi 0))]) (S' := [.ref m, .int (zi 0), .ref c1457]) rfl ?_
                                refine gs_gtk rfl (by decide) rfl sh1442.1 tm rfl rfl s1453 ?_
                                refine gy_s 3 (pc' := 355) (L' := [some (.ref m), some (.int (zi by2)), some (.int (zi mk)), some (.int (zi bg)), some (.int (zi n)), some (.int (zi zq1286)), some (.int (zi zq1339)), some (.int (zi z1393)), some (.int (zi 0)), some (.int (zi ((p0 + 6) + 0))), some (.int (zi 0))]) (S' := [.int ((zi ((p0 + 6) + 0)) + (zi 1)), .ref c49, .int (zi 0), .ref c1457]) (L2 := [some (.ref m), some (.int (zi by2)), some (.int (zi mk)), some (.int (zi bg)), some (.int (zi n)), some (.int (zi zq1286)), some (.int (zi zq1339)), some (.int (zi z1393)), some (.int (zi 0)), some (.int (zi ((p0 + 6) + 0))), some (.int (zi 0))]) (S2 := [.int (zi (((p0 + 6) + 0) + 1)), .ref c49, .int (zi 0), .ref c1457]) rfl (by simp only [zi_add, zi_sub, zi_mul, zi_neg, zi_and1, zi_and7, zi_and15, zi_and31, zi_and255, Int.reduceAdd, Int.reduceMul, Int.reduceSub]) (by simp only [zi_add, zi_sub, zi_mul, zi_neg, zi_and1, zi_and7, zi_and15, zi_and31, zi_and255, Int.reduceAdd, Int.reduceMul, Int.reduceSub]) ?_
                                have hl1458 : 2000 ≤ h1442.2.2.2.1 c49 ∧ h1442.2.2.2.1 c49 ≤ 2000 := gJ.rowl (G := gGG) sh1442.1 tc49 rfl
                                refine gs_ald rfl (by decide) sh1442.1 tc49 rfl rfl rfl (by decide) (fun _ => rfl) (by omega) (by omega) (fun z1459 ez1459 az1459 bz1459 => ?_)
                                refine gz_s 1 (pc' := 358) (L' := [some (.ref m), some (.int (zi by2)), some (.int (zi mk)), some (.int (zi bg)), some (.int (zi n)), some (.int (zi zq1286)), some (.int (zi zq1339)), some (.int (zi z1393)), some (.int (zi 0)), some (.int (zi ((p0 + 6) + 0))), some (.int (zi 0))]) (S' := [.int (zi 16), .int (zi z1459), .int (zi 0), .ref c1457]) rfl ?_
                                refine gy_div rfl (by decide) (by omega) (by omega) ?_
                                have hl1460 : 3 ≤ h1442.2.2.2.1 c1457 ∧ h1442.2.2.2.1 c1457 ≤ 3 := gJ.rowl (G := gGG) sh1442.1 tc1457 rfl
                                refine gs_ast rfl (by decide) sh1442 tc1457 rfl rfl rfl (by decide) (fun _ => rfl) (by omega) (by omega) (fun _ => (by decide : (12999 : Nat) ∈ ([1007, 1016, 1017, 1018, 1019, 1020, 1021, 1022, 1023, 1024, 11999, 12999, 13999, 14999, 15999, 16999, 17999, 18999, 19999, 23999, 24999] : List Nat))) (by omega) (by omega) (fun h1461 sh1461 eh1461 fh1461 => ?_)
                                have pr1462 := gEl.pt fh1461 tc1457 (by decide) pr1456
                                have s1463 := (fh1461 m 5 (fun q => absurd (((tm).symm.trans (congrArg ty q.1)).trans tc1457) (by decide))).trans s1444
                                have s1464 := (fh1461 m 6 (fun q => absurd (((tm).symm.trans (congrArg ty q.1)).trans tc1457) (by decide))).trans s1445
                                have s1465 := (fh1461 m 3 (fun q => absurd (((tm).symm.trans (congrArg ty q.1)).trans tc1457) (by decide))).trans s1446
                                have s1466 := (fh1461 m 16 (fun q => absurd (((tm).symm.trans (congrArg ty q.1)).trans tc1457) (by decide))).trans s1447
                                have s1467 := (fh1461 m 18 (fun q => absurd (((tm).symm.trans (congrArg ty q.1)).trans tc1457) (by decide))).trans s1448
                                have s1468 := (fh1461 m 19 (fun q => absurd (((tm).symm.trans (congrArg ty q.1)).trans tc1457) (by decide))).trans s1449
                                have s1469 := (fh1461 m 21 (fun q => absurd (((tm).symm.trans (congrArg ty q.1)).trans tc1457) (by decide))).trans s1450
                                have s1470 := (fh1461 m 22 (fun q => absurd (((tm).symm.trans (congrArg ty q.1)).trans tc1457) (by decide))).trans s1451
                                have s1471 := (fh1461 m 20 (fun q => absurd (((tm).symm.trans (congrArg ty q.1)).trans tc1457) (by decide))).trans s1452
                                have s1472 := (fh1461 m 4 (fun q => absurd (((tm).symm.trans (congrArg ty q.1)).trans tc1457) (by decide))).trans s1453
                                have s1473 := (fh1461 m 7 (fun q => absurd (((tm).symm.trans (congrArg ty q.1)).trans tc1457) (by decide))).trans s1454
                                have s1474 := (fh1461 m 25 (fun q => absurd (((tm).symm.trans (congrArg ty q.1)).trans tc1457) (by decide))).trans s1455
                                have s1475 := (fh1461 m 26 (fun q => absurd (((tm).symm.trans (congrArg ty q.1)).trans tc1457) (by decide))).trans ec1457
                                clear s1444 s1445 s1446 s1447 s1448 s1449 s1450 s1451 s1452 s1453 s1454 s1455 pr1443 pr1456
                                have pr1476 := gEl.set (i := 0) (z := z1459 / 16) uq tc1457 (by decide) eh1461 (by omega) (by omega)
                                refine gz_s 1 (pc' := 361) (L' := [some (.ref m), some (.int (zi by2)), some (.int (zi mk)), some (.int (zi bg)), some (.int (zi n)), some (.int (zi zq1286)), some (.int (zi zq1339)), some (.int (zi z1393)), some (.int (zi 0)), some (.int (zi ((p0 + 6) + 0))), some (.int (zi 0))]) (S' := [.ref m]) rfl ?_
                                refine gs_gtr rfl (by decide) rfl sh1461.1 tm rfl rfl rfl (fun c1477 ec1477 tc1477 => ?_)
                                refine gz_s 2 (pc' := 367) (L' := [some (.ref m), some (.int (zi by2)), some (.int (zi mk)), some (.int (zi bg)), some (.int (zi n)), some (.int (zi zq1286)), some (.int (zi zq1339)), some (.int (zi z1393)), some (.int (zi 0)), some (.int (zi ((p0 + 6) + 0))), some (.int (zi 0))]) (S' := [.ref m, .int (zi 0), .ref c1477]) rfl ?_
                                refine gs_gtk rfl (by decide) rfl sh1461.1 tm rfl rfl s1472 ?_
                                refine gy_s 3 (pc' := 374) (L' := [some (.ref m), some (.int (zi by2)), some (.int (zi mk)), some (.int (zi bg)), some (.int (zi n)), some (.int (zi zq1286)), some (.int (zi zq1339)), some (.int (zi z1393)), some (.int (zi 0)), some (.int (zi ((p0 + 6) + 0))), some (.int (zi 0))]) (S' := [.int ((zi ((p0 + 6) + 0)) + (zi 1)), .ref c49, .int (zi 0), .ref c1477]) (L2 := [some (.ref m), some (.int (zi by2)), some (.int (zi mk)), some (.int (zi bg)), some (.int (zi n)), some (.int (zi zq1286)), some (.int (zi zq1339)), some (.int (zi z1393)), some (.int (zi 0)), some (.int (zi ((p0 + 6) + 0))), some (.int (zi 0))]) (S2 := [.int (zi (((p0 + 6) + 0) + 1)), .ref c49, .int (zi 0), .ref c1477]) rfl (by simp only [zi_add, zi_sub, zi_mul, zi_neg, zi_and1, zi_and7, zi_and15, zi_and31, zi_and255, Int.reduceAdd, Int.reduceMul, Int.reduceSub]) (by simp only [zi_add, zi_sub, zi_mul, zi_neg, zi_and1, zi_and7, zi_and15, zi_and31, zi_and255, Int.reduceAdd, Int.reduceMul, Int.reduceSub]) ?_
                                have hl1478 : 2000 ≤ h1461.2.2.2.1 c49 ∧ h1461.2.2.2.1 c49 ≤ 2000 := gJ.rowl (G := gGG) sh1461.1 tc49 rfl
                                refine gs_ald rfl (by decide) sh1461.1 tc49 rfl rfl rfl (by decide) (fun _ => rfl) (by omega) (by omega) (fun z1479 ez1479 az1479 bz1479 => ?_)
                                refine gz_s 1 (pc' := 377) (L' := [some (.ref m), some (.int (zi by2)), some (.int (zi mk)), some (.int (zi bg)), some (.int (zi n)), some (.int (zi zq1286)), some (.int (zi zq1339)), some (.int (zi z1393)), some (.int (zi 0)), some (.int (zi ((p0 + 6) + 0))), some (.int (zi 0))]) (S' := [.int (zi 16), .int (zi z1479), .int (zi 0), .ref c1477]) rfl ?_
                                refine gy_rem rfl (by decide) (by omega) (by omega) ?_
                                have hl1480 : 3 ≤ h1461.2.2.2.1 c1477 ∧ h1461.2.2.2.1 c1477 ≤ 3 := gJ.rowl (G := gGG) sh1461.1 tc1477 rfl
                                refine gs_ast rfl (by decide) sh1461 tc1477 rfl rfl rfl (by decide) (fun _ => rfl) (by omega) (by omega) (fun _ => (by decide : (13999 : Nat) ∈ ([1007, 1016, 1017, 1018, 1019, 1020, 1021, 1022, 1023, 1024, 11999, 12999, 13999, 14999, 15999, 16999, 17999, 18999, 19999, 23999, 24999] : List Nat))) (by omega) (by omega) (fun h1481 sh1481 eh1481 fh1481 => ?_)
                                have pr1482 := gEl.pt fh1481 tc1477 (by decide) pr1462
                                have pr1483 := gEl.pt fh1481 tc1477 (by decide) pr1476
                                have s1484 := (fh1481 m 5 (fun q => absurd (((tm).symm.trans (congrArg ty q.1)).trans tc1477) (by decide))).trans s1463
                                have s1485 := (fh1481 m 6 (fun q => absurd (((tm).symm.trans (congrArg ty q.1)).trans tc1477) (by decide))).trans s1464
                                have s1486 := (fh1481 m 3 (fun q => absurd (((tm).symm.trans (congrArg ty q.1)).trans tc1477) (by decide))).trans s1465
                                have s1487 := (fh1481 m 16 (fun q => absurd (((tm).symm.trans (congrArg ty q.1)).trans tc1477) (by decide))).trans s1466
                                have s1488 := (fh1481 m 18 (fun q => absurd (((tm).symm.trans (congrArg ty q.1)).trans tc1477) (by decide))).trans s1467
                                have s1489 := (fh1481 m 19 (fun q => absurd (((tm).symm.trans (congrArg ty q.1)).trans tc1477) (by decide))).trans s1468
                                have s1490 := (fh1481 m 21 (fun q => absurd (((tm).symm.trans (congrArg ty q.1)).trans tc1477) (by decide))).trans s1469
                                have s1491 := (fh1481 m 22 (fun q => absurd (((tm).symm.trans (congrArg ty q.1)).trans tc1477) (by decide))).trans s1470
                                have s1492 := (fh1481 m 20 (fun q => absurd (((tm).symm.trans (congrArg ty q.1)).trans tc1477) (by decide))).trans s1471
                                have s1493 := (fh1481 m 4 (fun q => absurd (((tm).symm.trans (congrArg ty q.1)).trans tc1477) (by decide))).trans s1472
                                have s1494 := (fh1481 m 7 (fun q => absurd (((tm).symm.trans (congrArg ty q.1)).trans tc1477) (by decide))).trans s1473
                                have s1495 := (fh1481 m 25 (fun q => absurd (((tm).symm.trans (congrArg ty q.1)).trans tc1477) (by decide))).trans s1474
                                have s1496 := (fh1481 m 26 (fun q => absurd (((tm).symm.trans (congrArg ty q.1)).trans tc1477) (by decide))).trans s1475
                                have s1497 := (fh1481 m 27 (fun q => absurd (((tm).symm.trans (congrArg ty q.1)).trans tc1477) (by decide))).trans ec1477
                                clear s1463 s1464 s1465 s1466 s1467 s1468 s1469 s1470 s1471 s1472 s1473 s1474 s1475 pr1462 pr1476
                                have pr1498 := gEl.set (i := 0) (z := z1479 % 16) uq tc1477 (by decide) eh1481 (by omega) (by omega)
                                refine gz_s 2 (pc' := 381) (L' := [some (.ref m), some (.int (zi by2)), some (.int (zi mk)), some (.int (zi bg)), some (.int (zi n)), some (.int (zi zq1286)), some (.int (zi zq1339)), some (.int (zi z1393)), some (.int (zi 0)), some (.int (zi ((p0 + 6) + 0))), some (.int (zi 0))]) (S' := [.ref m, .ref m]) rfl ?_
                                refine gs_gtk rfl (by decide) rfl sh1481.1 tm rfl rfl s1496 ?_
                                refine gz_s 1 (pc' := 386) (L' := [some (.ref m), some (.int (zi by2)), some (.int (zi mk)), some (.int (zi bg)), some (.int (zi n)), some (.int (zi zq1286)), some (.int (zi zq1339)), some (.int (zi z1393)), some (.int (zi 0)), some (.int (zi ((p0 + 6) + 0))), some (.int (zi 0))]) (S' := [.int (zi 0), .ref c1457, .ref m]) rfl ?_
                                have hl1499 : 3 ≤ h1481.2.2.2.1 c1457 ∧ h1481.2.2.2.1 c1457 ≤ 3 := gJ.rowl (G := gGG) sh1481.1 tc1457 rfl
                                refine gs_alx rfl (by decide) sh1481.1 tc1457 rfl rfl rfl (by decide) (fun _ => rfl) (by omega) (by omega) (by decide) pr1483 (fun ex1500 ax1500 bx1500 => ?_)
                                refine gz_s 1 (pc' := 388) (L' := [some (.ref m), some (.int (zi by2)), some (.int (zi mk)), some (.int (zi bg)), some (.int (zi n)), some (.int (zi zq1286)), some (.int (zi zq1339)), some (.int (zi z1393)), some (.int (zi 0)), some (.int (zi ((p0 + 6) + 0))), some (.int (zi 0))]) (S' := [.int (zi 1), .int (zi (z1459 / 16)), .ref m]) rfl ?_
                                have jn1501 : ∀ (jn1501v0 : Int), ((0 ≤ jn1501v0) ∧ (jn1501v0 ≤ 1) ∧ (jn1501v0 = 1 → (1 ≤ z1459 / 16 ∧ z1459 / 16 ≤ 2 ∧ 1 ≤ z1479 % 16 ∧ z1479 % 16 ≤ 2))) → gz gPP gGG gcn (d + 4) gt165 429 [some (.ref m), some (.int (zi by2)), some (.int (zi mk)), some (.int (zi bg)), some (.int (zi n)), some (.int (zi zq1286)), some (.int (zi zq1339)), some (.int (zi z1393)), some (.int (zi 0)), some (.int (zi ((p0 + 6) + 0))), some (.int (zi 0))] [.int (zi jn1501v0), .ref m] h1481 (fun q _ => gSs rT 1027 ty [1007, 1016, 1017, 1018, 1019, 1020, 1021, 1022, 1023, 1024, 11999, 12999, 13999, 14999, 15999, 16999, 17999, 18999, 19999, 23999, 24999] h q.2.2 ∧ ∃ f1 ip1 w1 hh1 wd1 hg1 bs1 : Int, gfin gt165 q.1 q.2.1 = some none ∧ q.2.2.2.2.2.2 m 7 = .int (zi f1) ∧ (-1) ≤ f1 ∧ f1 ≤ 4000 ∧ q.2.2.2.2.2.2 m 16 = .int (zi ip1) ∧ 0 ≤ ip1 ∧ ip1 ≤ 1 ∧ q.2.2.2.2.2.2 m 18 = .int (zi w1) ∧ 0 ≤ w1 ∧ w1 ≤ 64 ∧ q.2.2.2.2.2.2 m 19 = .int (zi hh1) ∧ 0 ≤ hh1 ∧ hh1 ≤ 64 ∧ q.2.2.2.2.2.2 m 21 = .int (zi wd1) ∧ 0 ≤ wd1 ∧ wd1 ≤ 2 ∧ q.2.2.2.2.2.2 m 22 = .int (zi hg1) ∧ 0 ≤ hg1 ∧ hg1 ≤ 2 ∧ q.2.2.2.2.2.2 m 20 = .int (zi bs1) ∧ 0 ≤ bs1 ∧ bs1 ≤ 3 ∧ (gPi ty ip1 w1 hh1 wd1 hg1 bs1 q.2.2)) := by
                                  intro jn1501v0 jn1501d
                                  refine gy_s 3 (pc' := 433) (L' := [some (.ref m), some (.int (zi by2)), some (.int (zi mk)), some (.int (zi bg)), some (.int (zi n)), some (.int (zi zq1286)), some (.int (zi zq1339)), some (.int (zi z1393)), some (.int (zi 0)), some (.int (zi ((p0 + 6) + 0))), some (.int (zi 0))]) (S' := [.int ((zi ((p0 + 6) + 0)) + (zi 1)), .int (zi jn1501v0), .ref m]) (L2 := [some (.ref m), some (.int (zi by2)), some (.int (zi mk)), some (.int (zi bg)), some (.int (zi n)), some (.int (zi zq1286)), some (.int (zi zq1339)), some (.int (zi z1393)), some (.int (zi 0)), some (.int (zi ((p0 + 6) + 0))), some (.int (zi 0))]) (S2 := [.int (zi (((p0 + 6) + 0) + 1)), .int (zi jn1501v0), .ref m]) rfl (by simp only [zi_add, zi_sub, zi_mul, zi_neg, zi_and1, zi_and7, zi_and15, zi_and31, zi_and255, Int.reduceAdd, Int.reduceMul, Int.reduceSub]) (by simp only [zi_add, zi_sub, zi_mul, zi_neg, zi_and1, zi_and7, zi_and15, zi_and31, zi_and255, Int.reduceAdd, Int.reduceMul, Int.reduceSub]) ?_
                                  refine gz_call rfl (by decide) rfl (by decide) (by decide) (gcal_of rfl rfl rfl (Nat.le_of_ble_eq_true rfl) (gJ.recv (G := gGG) sh1481.1 tm rfl rfl)) (mm_must _ sh1481.1 m tm jn1501v0 (by omega) (((p0 + 6) + 0) + 1) (by omega) fq1423_0 s1494 (by omega)) (fun q1502 _ wq1502 => ?_)
                                  obtain ⟨pq1502, oq1502, hq1502⟩ := q1502
                                  obtain ⟨xq1502, zq1502, fq1502_0, gq1502, aq1502, bq1502, efq1502_0, afq1502_0, bfq1502_0, uq1502_0, uq1502_1⟩ := wq1502
                                  refine ⟨_, gq1502, ?_⟩
                                  show gz gPP gGG gcn _ _ 436 [some (.ref m), some (.int (zi by2)), some (.int (zi mk)), some (.int (zi bg)), some (.int (zi n)), some (.int (zi zq1286)), some (.int (zi zq1339)), some (.int (zi z1393)), some (.int (zi 0)), some (.int (zi ((p0 + 6) + 0))), some (.int (zi 0))] [.int (zi zq1502)] hq1502 _
                                  have sq1502 := gSs.tr sh1481 xq1502 (by decide)
                                  have s1503 := (xq1502.2.2.2.2.2 m 5 (by rw [tm]; decide)).trans s1484
                                  have s1504 := (xq1502.2.2.2.2.2 m 6 (by rw [tm]; decide)).trans s1485
                                  have s1505 := (xq1502.2.2.2.2.2 m 3 (by rw [tm]; decide)).trans s1486
                                  have s1506 := (xq1502.2.2.2.2.2 m 16 (by rw [tm]; decide)).trans s1487
                                  have s1507 := (xq1502.2.2.2.2.2 m 18 (by rw [tm]; decide)).trans s1488
                                  have s1508 := (xq1502.2.2.2.2.2 m 19 (by rw [tm]; decide)).trans s1489
                                  have s1509 := (xq1502.2.2.2.2.2 m 21 (by rw [tm]; decide)).trans s1490
                                  have s1510 := (xq1502.2.2.2.2.2 m 22 (by rw [tm]; decide)).trans s1491
                                  have s1511 := (xq1502.2.2.2.2.2 m 20 (by rw [tm]; decide)).trans s1492
                                  have s1512 := (xq1502.2.2.2.2.2 m 4 (by rw [tm]; decide)).trans s1493
                                  have s1513 := (xq1502.2.2.2.2.2 m 25 (by rw [tm]; decide)).trans s1495
                                  have s1514 := (xq1502.2.2.2.2.2 m 26 (by rw [tm]; decide)).trans s1496
                                  have s1515 := (xq1502.2.2.2.2.2 m 27 (by rw [tm]; decide)).trans s1497
                                  have pr1516 := gEl.fr xq1502.2 (by decide) (fun _ => rfl) pr1482
                                  have pr1517 := gEl.fr xq1502.2 (by decide) (fun _ => rfl) pr1483
                                  have pr1518 := gEl.fr xq1502.2 (by decide) (fun _ => rfl) pr1498
                                  clear s1484 s1485 s1486 s1487 s1488 s1489 s1490 s1491 s1492 s1493 s1494 s1495 s1496 s1497 pr1482 pr1483 pr1498
                                  refine gz_s 2 (pc' := 438) (L' := [some (.ref m), some (.int (zi by2)), some (.int (zi mk)), some (.int (zi bg)), some (.int (zi n)), some (.int (zi zq1286)), some (.int (zi zq1339)), some (.int (zi z1393)), some (.int (zi 0)), some (.int (zi ((p0 + 6) + 0))), some (.int (zi 0))]) (S' := [.ref m]) rfl ?_
                                  refine gs_gtr rfl (by decide) rfl sq1502.1 tm rfl rfl rfl (fun c1519 ec1519 tc1519 => ?_)
                                  refine gz_s 2 (pc' := 444) (L' := [some (.ref m), some (.int (zi by2)), some (.int (zi mk)), some (.int (zi bg)), some (.int (zi n)), some (.int (zi zq1286)), some (.int (zi zq1339)), some (.int (zi z1393)), some (.int (zi 0)), some (.int (zi ((p0 + 6) + 0))), some (.int (zi 0))]) (S' := [.ref m, .int (zi 0), .ref c1519]) rfl ?_
                                  refine gs_gtk rfl (by decide) rfl sq1502.1 tm rfl rfl s1512 ?_
                                  refine gy_s 3 (pc' := 451) (L' := [some (.ref m), some (.int (zi by2)), some (.int (zi mk)), some (.int (zi bg)), some (.int (zi n)), some (.int (zi zq1286)), some (.int (zi zq1339)), some (.int (zi z1393)), some (.int (zi 0)), some (.int (zi ((p0 + 6) + 0))), some (.int (zi 0))]) (S' := [.int ((zi ((p0 + 6) + 0)) + (zi 2)), .ref c49, .int (zi 0), .ref c1519]) (L2 := [some (.ref m), some (.int (zi by2)), some (.int (zi mk)), some (.int (zi bg)), some (.int (zi n)), some (.int (zi zq1286)), some (.int (zi zq1339)), some (.int (zi z1393)), some (.int (zi 0)), some (.int (zi ((p0 + 6) + 0))), some (.int (zi 0))]) (S2 := [.int (zi (((p0 + 6) + 0) + 2)), .ref c49, .int (zi 0), .ref c1519]) rfl (by simp only [zi_add, zi_sub, zi_mul, zi_neg, zi_and1, zi_and7, zi_and15, zi_and31, zi_and255, Int.reduceAdd, Int.reduceMul, Int.reduceSub]) (by simp only [zi_add, zi_sub, zi_mul, zi_neg, zi_and1, zi_and7, zi_and15, zi_and31, zi_and255, Int.reduceAdd, Int.reduceMul, Int.reduceSub]) ?_
                                  have hl1520 : 2000 ≤ hq1502.2.2.2.1 c49 ∧ hq1502.2.2.2.1 c49 ≤ 2000 := gJ.rowl (G := gGG) sq1502.1 tc49 rfl
                                  refine gs_ald rfl (by decide) sq1502.1 tc49 rfl rfl rfl (by decide) (fun _ => rfl) (by omega) (by omega) (fun z1521 ez1521 az1521 bz1521 => ?_)
                                  have hl1522 : 3 ≤ hq1502.2.2.2.1 c1519 ∧ hq1502.2.2.2.1 c1519 ≤ 3 := gJ.rowl (G := gGG) sq1502.1 tc1519 rfl
                                  refine gs_ast rfl (by decide) sq1502 tc1519 rfl rfl rfl (by decide) (fun _ => rfl) (by omega) (by omega) (fun _ => (by decide : (14999 : Nat) ∈ ([1007, 1016, 1017, 1018, 1019, 1020, 1021, 1022, 1023, 1024, 11999, 12999, 13999, 14999, 15999, 16999, 17999, 18999, 19999, 23999, 24999] : List Nat))) (by omega) (by omega) (fun h1523 sh1523 eh1523 fh1523 => ?_)
                                  have pr1524 := gEl.pt fh1523 tc1519 (by decide) pr1516
                                  have pr1525 := gEl.pt fh1523 tc1519 (by decide) pr1517
                                  have pr1526 := gEl.pt fh1523 tc1519 (by decide) pr1518
                                  have s1527 := (fh1523 m 5 (fun q => absurd (((tm).symm.trans (congrArg ty q.1)).trans tc1519) (by decide))).trans s1503
                                  have s1528 := (fh1523 m 6 (fun q => absurd (((tm).symm.trans (congrArg ty q.1)).trans tc1519) (by decide))).trans s1504
                                  have s1529 := (fh1523 m 3 (fun q => absurd (((tm).symm.trans (congrArg ty q.1)).trans tc1519) (by decide))).trans s1505
                                  have s1530 := (fh1523 m 16 (fun q => absurd (((tm).symm.trans (congrArg ty q.1)).trans tc1519) (by decide))).trans s1506
                                  have s1531 := (fh1523 m 18 (fun q => absurd (((tm).symm.trans (congrArg ty q.1)).trans tc1519) (by decide))).trans s1507
                                  have s1532 := (fh1523 m 19 (fun q => absurd (((tm).symm.trans (congrArg ty q.1)).trans tc1519) (by decide))).trans s1508
                                  have s1533 := (fh1523 m 21 (fun q => absurd (((tm).symm.trans (congrArg ty q.1)).trans tc1519) (by decide))).trans s1509
                                  have s1534 := (fh1523 m 22 (fun q => absurd (((tm).symm.trans (congrArg ty q.1)).trans tc1519) (by decide))).trans s1510
                                  have s1535 := (fh1523 m 20 (fun q => absurd (((tm).symm.trans (congrArg ty q.1)).trans tc1519) (by decide))).trans s1511
                                  have s1536 := (fh1523 m 4 (fun q => absurd (((tm).symm.trans (congrArg ty q.1)).trans tc1519) (by decide))).trans s1512
                                  have s1537 := (fh1523 m 25 (fun q => absurd (((tm).symm.trans (congrArg ty q.1)).trans tc1519) (by decide))).trans s1513
                                  have s1538 := (fh1523 m 26 (fun q => absurd (((tm).symm.trans (congrArg ty q.1)).trans tc1519) (by decide))).trans s1514
                                  have s1539 := (fh1523 m 27 (fun q => absurd (((tm).symm.trans (congrArg ty q.1)).trans tc1519) (by decide))).trans s1515
                                  have s1540 := (fh1523 m 7 (fun q => absurd (((tm).symm.trans (congrArg ty q.1)).trans tc1519) (by decide))).trans efq1502_0
                                  have s1541 := (fh1523 m 28 (fun q => absurd (((tm).symm.trans (congrArg ty q.1)).trans tc1519) (by decide))).trans ec1519
                                  clear s1503 s1504 s1505 s1506 s1507 s1508 s1509 s1510 s1511 s1512 s1513 s1514 s1515 pr1516 pr1517 pr1518
                                  have pr1542 := gEl.set (i := 0) (z := z1521) uq tc1519 (by decide) eh1523 (by omega) (by omega)
                                  refine gz_s 2 (pc' := 455) (L' := [some (.ref m), some (.int (zi by2)), some (.int (zi mk)), some (.int (zi bg)), some (.int (zi n)), some (.int (zi zq1286)), some (.int (zi zq1339)), some (.int (zi z1393)), some (.int (zi 0)), some (.int (zi ((p0 + 6) + 0))), some (.int (zi 0))]) (S' := [.ref m, .ref m]) rfl ?_
                                  refine gs_gtk rfl (by decide) rfl sh1523.1 tm rfl rfl s1541 ?_
                                  refine gz_s 1 (pc' := 460) (L' := [some (.ref m), some (.int (zi by2)), some (.int (zi mk)), some (.int (zi bg)), some (.int (zi n)), some (.int (zi zq1286)), some (.int (zi zq1339)), some (.int (zi z1393)), some (.int (zi 0)), some (.int (zi ((p0 + 6) + 0))), some (.int (zi 0))]) (S' := [.int (zi 0), .ref c1519, .ref m]) rfl ?_
                                  have hl1543 : 3 ≤ h1523.2.2.2.1 c1519 ∧ h1523.2.2.2.1 c1519 ≤ 3 := gJ.rowl (G := gGG) sh1523.1 tc1519 rfl
                                  refine gs_alx rfl (by decide) sh1523.1 tc1519 rfl rfl rfl (by decide) (fun _ => rfl) (by omega) (by omega) (by decide) pr1542 (fun ex1544 ax1544 bx1544 => ?_)
                                  refine gz_s 1 (pc' := 462) (L' := [some (.ref m), some (.int (zi by2)), some (.int (zi mk)), some (.int (zi bg)), some (.int (zi n)), some (.int (zi zq1286)), some (.int (zi zq1339)), some (.int (zi z1393)), some (.int (zi 0)), some (.int (zi ((p0 + 6) + 0))), some (.int (zi 0))]) (S' := [.int (zi 4), .int (zi z1521), .ref m]) rfl ?_
                                  have jn1545 : ∀ (jn1545v0 : Int), ((0 ≤ jn1545v0) ∧ (jn1545v0 ≤ 1) ∧ (jn1545v0 = 1 → z1521 ≤ 3)) → gz gPP gGG gcn (d + 4) gt165 470 [some (.ref m), some (.int (zi by2)), some (.int (zi mk)), some (.int (zi bg)), some (.int (zi n)), some (.int (zi zq1286)), some (.int (zi zq1339)), some (.int (zi z1393)), some (.int (zi 0)), some (.int (zi ((p0 + 6) + 0))), some (.int (zi 0))] [.int (zi jn1545v0), .ref m] h1523 (fun q _ => gSs rT 1027 ty [1007, 1016, 1017, 1018, 1019, 1020, 1021, 1022, 1023, 1024, 11999, 12999, 13999, 14999, 15999, 16999, 17999, 18999, 19999, 23999, 24999] h q.2.2 ∧ ∃ f1 ip1 w1 hh1 wd1 hg1 bs1 : Int, gfin gt165 q.1 q.2.1 = some none ∧ q.2.2.2.2.2.2 m 7 = .int (zi f1) ∧ (-1) ≤ f1 ∧ f1 ≤ 4000 ∧ q.2.2.2.2.2.2 m 16 = .int (zi ip1) ∧ 0 ≤ ip1 ∧ ip1 ≤ 1 ∧ q.2.2.2.2.2.2 m 18 = .int (zi w1) ∧ 0 ≤ w1 ∧ w1 ≤ 64 ∧ q.2.2.2.2.2.2 m 19 = .int (zi hh1) ∧ 0 ≤ hh1 ∧ hh1 ≤ 64 ∧ q.2.2.2.2.2.2 m 21 = .int (zi wd1) ∧ 0 ≤ wd1 ∧ wd1 ≤ 2 ∧ q.2.2.2.2.2.2 m 22 = .int (zi hg1) ∧ 0 ≤ hg1 ∧ hg1 ≤ 2 ∧ q.2.2.2.2.2.2 m 20 = .int (zi bs1) ∧ 0 ≤ bs1 ∧ bs1 ≤ 3 ∧ (gPi ty ip1 w1 hh1 wd1 hg1 bs1 q.2.2)) := by
                                    intro jn1545v0 jn1545d
                                    refine gy_s 3 (pc' := 474) (L' := [some (.ref m), some (.int (zi by2)), some (.int (zi mk)), some (.int (zi bg)), some (.int (zi n)), some (.int (zi zq1286)), some (.int (zi zq1339)), some (.int (zi z1393)), some (.int (zi 0)), some (.int (zi ((p0 + 6) + 0))), some (.int (zi 0))]) (S' := [.int ((zi ((p0 + 6) + 0)) + (zi 2)), .int (zi jn1545v0), .ref m]) (L2 := [some (.ref m), some (.int (zi by2)), some (.int (zi mk)), some (.int (zi bg)), some (.int (zi n)), some (.int (zi zq1286)), some (.int (zi zq1339)), some (.int (zi z1393)), some (.int (zi 0)), some (.int (zi ((p0 + 6) + 0))), some (.int (zi 0))]) (S2 := [.int (zi (((p0 + 6) + 0) + 2)), .int (zi jn1545v0), .ref m]) rfl (by simp only [zi_add, zi_sub, zi_mul, zi_neg, zi_and1, zi_and7, zi_and15, zi_and31, zi_and255, Int.reduceAdd, Int.reduceMul, Int.reduceSub]) (by simp only [zi_add, zi_sub, zi_mul, zi_neg, zi_and1, zi_and7, zi_and15, zi_and31, zi_and255, Int.reduceAdd, Int.reduceMul, Int.reduceSub]) ?_
                                    refine gz_call rfl (by decide) rfl (by decide) (by decide) (gcal_of rfl rfl rfl (Nat.le_of_ble_eq_true rfl) (gJ.recv (G := gGG) sh1523.1 tm rfl rfl)) (mm_must _ sh1523.1 m tm jn1545v0 (by omega) (((p0 + 6) + 0) + 2) (by omega) fq1502_0 s1540 (by omega)) (fun q1546 _ wq1546 => ?_)
                                    obtain ⟨pq1546, oq1546, hq1546⟩ := q1546
                                    obtain ⟨xq1546, zq1546, fq1546_0, gq1546, aq1546, bq1546, efq1546_0, afq1546_0, bfq1546_0, uq1546_0, uq1546_1⟩ := wq1546
                                    refine ⟨_, gq1546, ?_⟩
                                    show gz gPP gGG gcn _ _ 477 [some (.ref m), some (.int (zi by2)), some (.int (zi mk)), some (.int (zi bg)), some (.int (zi n)), some (.int (zi zq1286)), some (.int (zi zq1339)), some (.int (zi z1393)), some (.int (zi 0)), some (.int (zi ((p0 + 6) + 0))), some (.int (zi 0))] [.int (zi zq1546)] hq1546 _
                                    have sq1546 := gSs.tr sh1523 xq1546 (by decide)
                                    have s1547 := (xq1546.2.2.2.2.2 m 5 (by rw [tm]; decide)).trans s1527
                                    have s1548 := (xq1546.2.2.2.2.2 m 6 (by rw [tm]; decide)).trans s1528
                                    have s1549 := (xq1546.2.2.2.2.2 m 3 (by rw [tm]; decide)).trans s1529
                                    have s1550 := (xq1546.2.2.2.2.2 m 16 (by rw [tm]; decide)).trans s1530
                                    have s1551 := (xq1546.2.2.2.2.2 m 18 (by rw [tm]; decide)).trans s1531
                                    have s1552 := (xq1546.2.2.2.2.2 m 19 (by rw [tm]; decide)).trans s1532
                                    have s1553 := (xq1546.2.2.2.2.2 m 21 (by rw [tm]; decide)).trans s1533
                                    have s1554 := (xq1546.2.2.2.2.2 m 22 (by rw [tm]; decide)).trans s1534
                                    have s1555 := (xq1546.2.2.2.2.2 m 20 (by rw [tm]; decide)).trans s1535
                                    have s1556 := (xq1546.2.2.2.2.2 m 4 (by rw [tm]; decide)).trans s1536
                                    have s1557 := (xq1546.2.2.2.2.2 m 25 (by rw [tm]; decide)).trans s1537
                                    have s1558 := (xq1546.2.2.2.2.2 m 26 (by rw [tm]; decide)).trans s1538
                                    have s1559 := (xq1546.2.2.2.2.2 m 27 (by rw [tm]; decide)).trans s1539
                                    have s1560 := (xq1546.2.2.2.2.2 m 28 (by rw [tm]; decide)).trans s1541
                                    have pr1561 := gEl.fr xq1546.2 (by decide) (fun _ => rfl) pr1524
                                    have pr1562 := gEl.fr xq1546.2 (by decide) (fun _ => rfl) pr1525
                                    have pr1563 := gEl.fr xq1546.2 (by decide) (fun _ => rfl) pr1526
                                    have pr1564 := gEl.fr xq1546.2 (by decide) (fun _ => rfl) pr1542
                                    clear s1527 s1528 s1529 s1530 s1531 s1532 s1533 s1534 s1535 s1536 s1537 s1538 s1539 s1540 s1541 pr1524 pr1525 pr1526 pr1542
                                    refine gy_s 5 (pc' := 257) (L' := [some (.ref m), some (.int (zi by2)), some (.int (zi mk)), some (.int (zi bg)), some (.int (zi n)), some (.int (zi zq1286)), some (.int (zi zq1339)), some (.int (zi z1393)), some (.int ((zi 0) + zi 1)), some (.int (zi ((p0 + 6) + 0))), some (.int (zi 0))]) (S' := [.int (zi z1393), .int ((zi 0) + zi 1)]) (L2 := [some (.ref m), some (.int (zi by2)), some (.int (zi mk)), some (.int (zi bg)), some (.int (zi n)), some (.int (zi zq1286)), some (.int (zi zq1339)), some (.int (zi z1393)), some (.int (zi 1)), some (.int (zi ((p0 + 6) + 0))), some (.int (zi 0))]) (S2 := [.int (zi z1393), .int (zi 1)]) rfl (by simp only [zi_add, zi_sub, zi_mul, zi_neg, zi_and1, zi_and7, zi_and15, zi_and31, zi_and255, Int.reduceAdd, Int.reduceMul, Int.reduceSub]) (by simp only [zi_add, zi_sub, zi_mul, zi_neg, zi_and1, zi_and7, zi_and15, zi_and31, zi_and255, Int.reduceAdd, Int.reduceMul, Int.reduceSub]) ?_
                                    refine gy_icT (pc' := 484) rfl (by decide) (by decide) (by omega) (by omega) (by first | (simp [zc]; done) | (simp only [zc]; omega)) ?_
                                    refine gz_s 1 (pc' := 485) (L' := [some (.ref m), some (.int (zi by2)), some (.int (zi mk)), some (.int (zi bg)), some (.int (zi n)), some (.int (zi zq1286)), some (.int (zi zq1339)), some (.int (zi z1393)), some (.int (zi 1)), some (.int (zi ((p0 + 6) + 0))), some (.int (zi 0))]) (S' := [.ref m]) rfl ?_
                                    refine gs_gtk rfl (by decide) rfl sq1546.1 tm rfl rfl efq1546_0 ?_
                                    refine gz_s 1 (pc' := 489) (L' := [some (.ref m), some (.int (zi by2)), some (.int (zi mk)), some (.int (zi bg)), some (.int (zi n)), some (.int (zi zq1286)), some (.int (zi zq1339)), some (.int (zi z1393)), some (.int (zi 1)), some (.int (zi ((p0 + 6) + 0))), some (.int (zi 0))]) (S' := [.int (zi (-1)), .int (zi fq1546_0)]) rfl ?_
                                    by_cases hc1565 : (fq1546_0 : Int) = (-1)
                                    · refine gy_icT (pc' := 493) rfl (by decide) (by decide) (by omega) (by omega) hc1565 ?_
                                      refine gz_s 2 (pc' := 495) (L' := [some (.ref m), some (.int (zi by2)), some (.int (zi mk)), some (.int (zi bg)), some (.int (zi n)), some (.int (zi zq1286)), some (.int (zi zq1339)), some (.int (zi z1393)), some (.int (zi 1)), some (.int (zi ((p0 + 6) + 0))), some (.int (zi 0))]) (S' := [.int (zi 1), .ref m]) rfl ?_
                                      refine gs_put rfl (by decide) rfl sq1546 tm rfl rfl rfl rfl (Or.inl rfl) (by decide) (by omega) (by omega) (fun h1566 sh1566 eh1566 fh1566 => ?_)
                                      have pr1567 := gEl.pt fh1566 tm (by decide) pr1561
                                      have pr1568 := gEl.pt fh1566 tm (by decide) pr1562
                                      have pr1569 := gEl.pt fh1566 tm (by decide) pr1563
                                      have pr1570 := gEl.pt fh1566 tm (by decide) pr1564
                                      have s1571 := (fh1566 m 5 (fun q => absurd q.2 (by decide))).trans s1547
                                      have s1572 := (fh1566 m 6 (fun q => absurd q.2 (by decide))).trans s1548
                                      have s1573 := (fh1566 m 3 (fun q => absurd q.2 (by decide))).trans s1549
                                      have s1574 := (fh1566 m 18 (fun q => absurd q.2 (by decide))).trans s1551
                                      have s1575 := (fh1566 m 19 (fun q => absurd q.2 (by decide))).trans s1552
                                      have s1576 := (fh1566 m 21 (fun q => absurd q.2 (by decide))).trans s1553
                                      have s1577 := (fh1566 m 22 (fun q => absurd q.2 (by decide))).trans s1554
                                      have s1578 := (fh1566 m 20 (fun q => absurd q.2 (by decide))).trans s1555
                                      have s1579 := (fh1566 m 4 (fun q => absurd q.2 (by decide))).trans s1556
                                      have s1580 := (fh1566 m 25 (fun q => absurd q.2 (by decide))).trans s1557
                                      have s1581 := (fh1566 m 26 (fun q => absurd q.2 (by decide))).trans s1558
                                      have s1582 := (fh1566 m 27 (fun q => absurd q.2 (by decide))).trans s1559
                                      have s1583 := (fh1566 m 28 (fun q => absurd q.2 (by decide))).trans s1560
                                      have s1584 := (fh1566 m 7 (fun q => absurd q.2 (by decide))).trans efq1546_0
                                      clear s1547 s1548 s1549 s1550 s1551 s1552 s1553 s1554 s1555 s1556 s1557 s1558 s1559 s1560 pr1561 pr1562 pr1563 pr1564
                                      refine gz_s 2 (pc' := 500) (L' := [some (.ref m), some (.int (zi by2)), some (.int (zi mk)), some (.int (zi bg)), some (.int (zi n)), some (.int (zi zq1286)), some (.int (zi zq1339)), some (.int (zi z1393)), some (.int (zi 1)), some (.int (zi ((p0 + 6) + 0))), some (.int (zi 0))]) (S' := [.int (zi by2), .ref m]) rfl ?_
                                      refine gs_put rfl (by decide) rfl sh1566 tm rfl rfl rfl (gfit_z (by omega)) (Or.inl rfl) (by decide) (by omega) (by omega) (fun h1585 sh1585 eh1585 fh1585 => ?_)
                                      have pr1586 := gEl.pt fh1585 tm (by decide) pr1567
                                      have pr1587 := gEl.pt fh1585 tm (by decide) pr1568
                                      have pr1588 := gEl.pt fh1585 tm (by decide) pr1569
                                      have pr1589 := gEl.pt fh1585 tm (by decide) pr1570
                                      have s1590 := (fh1585 m 5 (fun q => absurd q.2 (by decide))).trans s1571
                                      have s1591 := (fh1585 m 6 (fun q => absurd q.2 (by decide))).trans s1572
                                      have s1592 := (fh1585 m 3 (fun q => absurd q.2 (by decide))).trans s1573
                                      have s1593 := (fh1585 m 18 (fun q => absurd q.2 (by decide))).trans s1574
                                      have s1594 := (fh1585 m 19 (fun q => absurd q.2 (by decide))).trans s1575
                                      have s1595 := (fh1585 m 21 (fun q => absurd q.2 (by decide))).trans s1576
                                      have s1596 := (fh1585 m 22 (fun q => absurd q.2 (by decide))).trans s1577
                                      have s1597 := (fh1585 m 20 (fun q => absurd q.2 (by decide))).trans s1578
                                      have s1598 := (fh1585 m 4 (fun q => absurd q.2 (by decide))).trans s1579
                                      have s1599 := (fh1585 m 25 (fun q => absurd q.2 (by decide))).trans s1580
                                      have s1600 := (fh1585 m 26 (fun q => absurd q.2 (by decide))).trans s1581
                                      have s1601 := (fh1585 m 27 (fun q => absurd q.2 (by decide))).trans s1582
                                      have s1602 := (fh1585 m 28 (fun q => absurd q.2 (by decide))).trans s1583
                                      have s1603 := (fh1585 m 7 (fun q => absurd q.2 (by decide))).trans s1584
                                      have s1604 := (fh1585 m 16 (fun q => absurd q.2 (by decide))).trans eh1566
                                      clear s1571 s1572 s1573 s1574 s1575 s1576 s1577 s1578 s1579 s1580 s1581 s1582 s1583 s1584 pr1567 pr1568 pr1569 pr1570
                                      refine gz_s 2 (pc' := 506) (L' := [some (.ref m), some (.int (zi by2)), some (.int (zi mk)), some (.int (zi bg)), some (.int (zi n)), some (.int (zi zq1286)), some (.int (zi zq1339)), some (.int (zi z1393)), some (.int (zi 1)), some (.int (zi ((p0 + 6) + 0))), some (.int (zi 0))]) (S' := [.int (zi zq1339), .ref m]) rfl ?_
                                      refine gs_put rfl (by decide) rfl sh1585 tm rfl rfl rfl rfl (Or.inl rfl) (by decide) (by omega) (by omega) (fun h1605 sh1605 eh1605 fh1605 => ?_)
                                      have pr1606 := gEl.pt fh1605 tm (by decide) pr1586
                                      have pr1607 := gEl.pt fh1605 tm (by decide) pr1587
                                      have pr1608 := gEl.pt fh1605 tm (by decide) pr1588
                                      have pr1609 := gEl.pt fh1605 tm (by decide) pr1589
                                      have s1610 := (fh1605 m 5 (fun q => absurd q.2 (by decide))).trans s1590
                                      have s1611 := (fh1605 m 6 (fun q => absurd q.2 (by decide))).trans s1591
                                      have s1612 := (fh1605 m 3 (fun q => absurd q.2 (by decide))).trans s1592
                                      have s1613 := (fh1605 m 19 (fun q => absurd q.2 (by decide))).trans s1594
                                      have s1614 := (fh1605 m 21 (fun q => absurd q.2 (by decide))).trans s1595
                                      have s1615 := (fh1605 m 22 (fun q => absurd q.2 (by decide))).trans s1596
                                      have s1616 := (fh1605 m 20 (fun q => absurd q.2 (by decide))).trans s1597
                                      have s1617 := (fh1605 m 4 (fun q => absurd q.2 (by decide))).trans s1598
                                      have s1618 := (fh1605 m 25 (fun q => absurd q.2 (by decide))).trans s1599
                                      have s1619 := (fh1605 m 26 (fun q => absurd q.2 (by decide))).trans s1600
                                      have s1620 := (fh1605 m 27 (fun q => absurd q.2 (by decide))).trans s1601
                                      have s1621 := (fh1605 m 28 (fun q => absurd q.2 (by decide))).trans s1602
                                      have s1622 := (fh1605 m 7 (fun q => absurd q.2 (by decide))).trans s1603
                                      have s1623 := (fh1605 m 16 (fun q => absurd q.2 (by decide))).trans s1604
                                      have s1624 := (fh1605 m 17 (fun q => absurd q.2 (by decide))).trans eh1585
                                      clear s1590 s1591 s1592 s1593 s1594 s1595 s1596 s1597 s1598 s1599 s1600 s1601 s1602 s1603 s1604 pr1586 pr1587 pr1588 pr1589
                                      refine gz_s 2 (pc' := 512) (L' := [some (.ref m), some (.int (zi by2)), some (.int (zi mk)), some (.int (zi bg)), some (.int (zi n)), some (.int (zi zq1286)), some (.int (zi zq1339)), some (.int (zi z1393)), some (.int (zi 1)), some (.int (zi ((p0 + 6) + 0))), some (.int (zi 0))]) (S' := [.int (zi zq1286), .ref m]) rfl ?_
                                      refine gs_put rfl (by decide) rfl sh1605 tm rfl rfl rfl rfl (Or.inl rfl) (by decide) (by omega) (by omega) (fun h1625 sh1625 eh1625 fh1625 => ?_)
                                      have pr1626 := gEl.pt fh1625 tm (by decide) pr1606
                                      have pr1627 := gEl.pt fh1625 tm (by decide) pr1607
                                      have pr1628 := gEl.pt fh1625 tm (by decide) pr1608
                                      have pr1629 := gEl.pt fh1625 tm (by decide) pr1609
                                      have s1630 := (fh1625 m 5 (fun q => absurd q.2 (by decide))).trans s1610
                                      have s1631 := (fh1625 m 6 (fun q => absurd q.2 (by decide))).trans s1611
                                      have s1632 := (fh1625 m 3 (fun q => absurd q.2 (by decide))).trans s1612
                                      have s1633 := (fh1625 m 21 (fun q => absurd q.2 (by decide))).trans s1614
                                      have s1634 := (fh1625 m 22 (fun q => absurd q.2 (by decide))).trans s1615
                                      have s1635 := (fh1625 m 20 (fun q => absurd q.2 (by decide))).trans s1616
                                      have s1636 := (fh1625 m 4 (fun q => absurd q.2 (by decide))).trans s1617
                                      have s1637 := (fh1625 m 25 (fun q => absurd q.2 (by decide))).trans s1618
                                      have s1638 := (fh1625 m 26 (fun q => absurd q.2 (by decide))).trans s1619
                                      have s1639 := (fh1625 m 27 (fun q => absurd q.2 (by decide))).trans s1620
                                      have s1640 := (fh1625 m 28 (fun q => absurd q.2 (by decide))).trans s1621
                                      have s1641 := (fh1625 m 7 (fun q => absurd q.2 (by decide))).trans s1622
                                      have s1642 := (fh1625 m 16 (fun q => absurd q.2 (by decide))).trans s1623
                                      have s1643 := (fh1625 m 17 (fun q => absurd q.2 (by decide))).trans s1624
                                      have s1644 := (fh1625 m 18 (fun q => absurd q.2 (by decide))).trans eh1605
                                      clear s1610 s1611 s1612 s1613 s1614 s1615 s1616 s1617 s1618 s1619 s1620 s1621 s1622 s1623 s1624 pr1606 pr1607 pr1608 pr1609
                                      refine gz_s 2 (pc' := 518) (L' := [some (.ref m), some (.int (zi by2)), some (.int (zi mk)), some (.int (zi bg)), some (.int (zi n)), some (.int (zi zq1286)), some (.int (zi zq1339)), some (.int (zi z1393)), some (.int (zi 1)), some (.int (zi ((p0 + 6) + 0))), some (.int (zi 0))]) (S' := [.int (zi z1393), .ref m]) rfl ?_
                                      refine gs_put rfl (by decide) rfl sh1625 tm rfl rfl rfl rfl (Or.inl rfl) (by decide) (by omega) (by omega) (fun h1645 sh1645 eh1645 fh1645 => ?_)
                                      have pr1646 := gEl.pt fh1645 tm (by decide) pr1626
                                      have pr1647 := gEl.pt fh1645 tm (by decide) pr1627
                                      have pr1648 := gEl.pt fh1645 tm (by decide) pr1628
                                      have pr1649 := gEl.pt fh1645 tm (by decide) pr1629
                                      have s1650 := (fh1645 m 5 (fun q => absurd q.2 (by decide))).trans s1630
                                      have s1651 := (fh1645 m 6 (fun q => absurd q.2 (by decide))).trans s1631
                                      have s1652 := (fh1645 m 3 (fun q => absurd q.2 (by decide))).trans s1632
                                      have s1653 := (fh1645 m 21 (fun q => absurd q.2 (by decide))).trans s1633
                                      have s1654 := (fh1645 m 22 (fun q => absurd q.2 (by decide))).trans s1634
                                      have s1655 := (fh1645 m 4 (fun q => absurd q.2 (by decide))).trans s1636
                                      have s1656 := (fh1645 m 25 (fun q => absurd q.2 (by decide))).trans s1637
                                      have s1657 := (fh1645 m 26 (fun q => absurd q.2 (by decide))).trans s1638
                                      have s1658 := (fh1645 m 27 (fun q => absurd q.2 (by decide))).trans s1639
                                      have s1659 := (fh1645 m 28 (fun q => absurd q.2 (by decide))).trans s1640
                                      have s1660 := (fh1645 m 7 (fun q => absurd q.2 (by decide))).trans s1641
                                      have s1661 := (fh1645 m 16 (fun q => absurd q.2 (by decide))).trans s1642
                                      have s1662 := (fh1645 m 17 (fun q => absurd q.2 (by decide))).trans s1643
                                      have s1663 := (fh1645 m 18 (fun q => absurd q.2 (by decide))).trans s1644
                                      have s1664 := (fh1645 m 19 (fun q => absurd q.2 (by decide))).trans eh1625
                                      clear s1630 s1631 s1632 s1633 s1634 s1635 s1636 s1637 s1638 s1639 s1640 s1641 s1642 s1643 s1644 pr1626 pr1627 pr1628 pr1629
                                      refine gz_s 1 (pc' := 522) (L' := [some (.ref m), some (.int (zi by2)), some (.int (zi mk)), some (.int (zi bg)), some (.int (zi n)), some (.int (zi zq1286)), some (.int (zi zq1339)), some (.int (zi z1393)), some (.int (zi 1)), some (.int (zi ((p0 + 6) + 0))), some (.int (zi 0))]) (S' := [.ref m]) rfl ?_
                                      refine gz_call rfl (by decide) rfl (by decide) (by decide) (gcal_of rfl rfl rfl (Nat.le_of_ble_eq_true rfl) (gJ.recv (G := gGG) sh1645.1 tm rfl rfl)) (mm_layOut1 _ sh1645.1 m tm zq1339 s1663 (by omega) zq1286 s1664 (by omega) z1393 eh1645 (by omega) (z1459 / 16) (by omega) (z1479 % 16) (by omega) uq pr1647 pr1648 (gEl.wd pr1649 (by omega) (by omega))) (fun q1665 _ wq1665 => ?_)
                                      obtain ⟨pq1665, oq1665, hq1665⟩ := q1665
                                      obtain ⟨xq1665, fq1665_0, fq1665_1, gq1665, efq1665_0, afq1665_0, bfq1665_0, efq1665_1, afq1665_1, bfq1665_1, yq1665_0⟩ := wq1665
                                      refine ⟨_, gq1665, ?_⟩
                                      show gz gPP gGG gcn _ _ 525 [some (.ref m), some (.int (zi by2)), some (.int (zi mk)), some (.int (zi bg)), some (.int (zi n)), some (.int (zi zq1286)), some (.int (zi zq1339)), some (.int (zi z1393)), some (.int (zi 1)), some (.int (zi ((p0 + 6) + 0))), some (.int (zi 0))] [] hq1665 _
                                      have sq1665 := gSs.tr sh1645 xq1665 (by decide)
                                      have s1666 := (xq1665.2.2.2.2.2 m 5 (by rw [tm]; decide)).trans s1650
                                      have s1667 := (xq1665.2.2.2.2.2 m 6 (by rw [tm]; decide)).trans s1651
                                      have s1668 := (xq1665.2.2.2.2.2 m 3 (by rw [tm]; decide)).trans s1652
                                      have s1669 := (xq1665.2.2.2.2.2 m 4 (by rw [tm]; decide)).trans s1655
                                      have s1670 := (xq1665.2.2.2.2.2 m 25 (by rw [tm]; decide)).trans s1656
                                      have s1671 := (xq1665.2.2.2.2.2 m 26 (by rw [tm]; decide)).trans s1657
                                      have s1672 := (xq1665.2.2.2.2.2 m 27 (by rw [tm]; decide)).trans s1658
                                      have s1673 := (xq1665.2.2.2.2.2 m 28 (by rw [tm]; decide)).trans s1659
                                      have s1674 := (xq1665.2.2.2.2.2 m 7 (by rw [tm]; decide)).trans s1660
                                      have s1675 := (xq1665.2.2.2.2.2 m 16 (by rw [tm]; decide)).trans s1661
                                      have s1676 := (xq1665.2.2.2.2.2 m 17 (by rw [tm]; decide)).trans s1662
                                      have s1677 := (xq1665.2.2.2.2.2 m 18 (by rw [tm]; decide)).trans s1663
                                      have s1678 := (xq1665.2.2.2.2.2 m 19 (by rw [tm]; decide)).trans s1664
                                      have s1679 := (xq1665.2.2.2.2.2 m 20 (by rw [tm]; decide)).trans eh1645
                                      have pr1680 := gEl.fr xq1665.2 (by decide) (fun _ => rfl) pr1646
                                      have pr1681 := gEl.fr xq1665.2 (by decide) (fun _ => rfl) pr1647
                                      have pr1682 := gEl.fr xq1665.2 (by decide) (fun _ => rfl) pr1648
                                      have pr1683 := gEl.fr xq1665.2 (by decide) (fun _ => rfl) pr1649
                                      clear s1650 s1651 s1652 s1653 s1654 s1655 s1656 s1657 s1658 s1659 s1660 s1661 s1662 s1663 s1664 pr1646 pr1647 pr1648 pr1649
                                      have hpi1684 : gPi ty 1 zq1339 zq1286 fq1665_0 fq1665_1 z1393 hq1665 := fun _ => yq1665_0
                                      exact gz_end (I := .return_) (len := 1) rfl (Or.inl rfl) ⟨sq1665, fq1546_0, 1, zq1339, zq1286, fq1665_0, fq1665_1, z1393, rfl, s1674, (by omega), (by omega), s1675, (by omega), (by omega), s1677, (by omega), (by omega), s1678, (by omega), (by omega), efq1665_0, (by omega), (by omega), efq1665_1, (by omega), (by omega), s1679, (by omega), (by omega), hpi1684⟩
                                    · refine gy_icF rfl (by decide) (by decide) (by omega) (by omega) hc1565 ?_
                                      have hpi1685 : gPi ty ip w hh wd hg bs hq1546 := fun e => absurd e (by omega)
                                      exact gz_end (I := .return_) (len := 1) rfl (Or.inl rfl) ⟨sq1546, fq1546_0, ip, w, hh, wd, hg, bs, rfl, efq1546_0, (by omega), (by omega), s1550, (by omega), (by omega), s1551, (by omega), (by omega), s1552, (by omega), (by omega), s1553, (by omega), (by omega), s1554, (by omega), (by omega), s1555, (by omega), (by omega), hpi1685⟩
                                  by_cases hc1686 : (4 : Int) ≤ z1521
                                  · refine gy_icT (pc' := 469) rfl (by decide) (by decide) (by omega) (by omega) hc1686 ?_
                                    refine gz_s 1 (pc' := 470) (L' := [some (.ref m), some (.int (zi by2)), some (.int (zi mk)), some (.int (zi bg)), some (.int (zi n)), some (.int (zi zq1286)), some (.int (zi zq1339)), some (.int (zi z1393)), some (.int (zi 0)), some (.int (zi ((p0 + 6) + 0))), some (.int (zi 0))]) (S' := [.int (zi 0), .ref m]) rfl ?_
                                    exact jn1545 0 (by omega)
                                  · refine gy_icF rfl (by decide) (by decide) (by omega) (by omega) hc1686 ?_
                                    refine gz_s 2 (pc' := 470) (L' := [some (.ref m), some (.int (zi by2)), some (.int (zi mk)), some (.int (zi bg)), some (.int (zi n)), some (.int (zi zq1286)), some (.int (zi zq1339)), some (.int (zi z1393)), some (.int (zi 0)), some (.int (zi ((p0 + 6) + 0))), some (.int (zi 0))]) (S' := [.int (zi 1), .ref m]) rfl ?_
                                    exact jn1545 1 (by omega)
                                by_cases hc1687 : (z1459 / 16 : Int) < 1
                                · refine gy_icT (pc' := 428) rfl (by decide) (by decide) (by omega) (by omega) hc1687 ?_
                                  refine gz_s 1 (pc' := 429) (L' := [some (.ref m), some (.int (zi by2)), some (.int (zi mk)), some (.int (zi bg)), some (.int (zi n)), some (.int (zi zq1286)), some (.int (zi zq1339)), some (.int (zi z1393)), some (.int (zi 0)), some (.int (zi ((p0 + 6) + 0))), some (.int (zi 0))]) (S' := [.int (zi 0), .ref m]) rfl ?_
                                  exact jn1501 0 (by omega)
                                · refine gy_icF rfl (by decide) (by decide) (by omega) (by omega) hc1687 ?_
                                  refine gz_s 1 (pc' := 392) (L' := [some (.ref m), some (.int (zi by2)), some (.int (zi mk)), some (.int (zi bg)), some (.int (zi n)), some (.int (zi zq1286)), some (.int (zi zq1339)), some (.int (zi z1393)), some (.int (zi 0)), some (.int (zi ((p0 + 6) + 0))), some (.int (zi 0))]) (S' := [.ref m, .ref m]) rfl ?_
                                  refine gs_gtk rfl (by decide) rfl sh1481.1 tm rfl rfl s1496 ?_
                                  refine gz_s 1 (pc' := 397) (L' := [some (.ref m), some (.int (zi by2)), some (.int (zi mk)), some (.int (zi bg)), some (.int (zi n)), some (.int (zi zq1286)), some (.int (zi zq1339)), some (.int (zi z1393)), some (.int (zi 0)), some (.int (zi ((p0 + 6) + 0))), some (.int (zi 0))]) (S' := [.int (zi 0), .ref c1457, .ref m]) rfl ?_
                                  have hl1688 : 3 ≤ h1481.2.2.2.1 c1457 ∧ h1481.2.2.2.1 c1457 ≤ 3 := gJ.rowl (G := gGG) sh1481.1 tc1457 rfl
                                  refine gs_alx rfl (by decide) sh1481.1 tc1457 rfl rfl rfl (by decide) (fun _ => rfl) (by omega) (by omega) (by decide) pr1483 (fun ex1689 ax1689 bx1689 => ?_)
                                  refine gz_s 1 (pc' := 399) (L' := [some (.ref m), some (.int (zi by2)), some (.int (zi mk)), some (.int (zi bg)), some (.int (zi n)), some (.int (zi zq1286)), some (.int (zi zq1339)), some (.int (zi z1393)), some (.int (zi 0)), some (.int (zi ((p0 + 6) + 0))), some (.int (zi 0))]) (S' := [.int (zi 2), .int (zi (z1459 / 16)), .ref m]) rfl ?_
                                  by_cases hc1690 : (2 : Int) < z1459 / 16
                                  · refine gy_icT (pc' := 428) rfl (by decide) (by decide) (by omega) (by omega) hc1690 ?_
                                    refine gz_s 1 (pc' := 429) (L' := [some (.ref m), some (.int (zi by2)), some (.int (zi mk)), some (.int (zi bg)), some (.int (zi n)), some (.int (zi zq1286)), some (.int (zi zq1339)), some (.int (zi z1393)), some (.int (zi 0)), some (.int (zi ((p0 + 6) + 0))), some (.int (zi 0))]) (S' := [.int (zi 0), .ref m]) rfl ?_
                                    exact jn1501 0 (by omega)
                                  · refine gy_icF rfl (by decide) (by decide) (by omega) (by omega) hc1690 ?_
                                    refine gz_s 1 (pc' := 403) (L' := [some (.ref m), some (.int (zi by2)), some (.int (zi mk)), some (.int (zi bg)), some (.int (zi n)), some (.int (zi zq1286)), some (.int (zi zq1339)), some (.int (zi z1393)), some (.int (zi 0)), some (.int (zi ((p0 + 6) + 0))), some (.int (zi 0))]) (S' := [.ref m, .ref m]) rfl ?_
                                    refine gs_gtk rfl (by decide) rfl sh1481.1 tm rfl rfl s1497 ?_
                                    refine gz_s 1 (pc' := 408) (L' := [some (.ref m), some (.int (zi by2)), some (.int (zi mk)), some (.int (zi bg)), some (.int (zi n)), some (.int (zi zq1286)), some (.int (zi zq1339)), some (.int (zi z1393)), some (.int (zi 0)), some (.int (zi ((p0 + 6) + 0))), some (.int (zi 0))]) (S' := [.int (zi 0), .ref c1477, .ref m]) rfl ?_
                                    have hl1691 : 3 ≤ h1481.2.2.2.1 c1477 ∧ h1481.2.2.2.1 c1477 ≤ 3 := gJ.rowl (G := gGG) sh1481.1 tc1477 rfl
                                    refine gs_alx rfl (by decide) sh1481.1 tc1477 rfl rfl rfl (by decide) (fun _ => rfl) (by omega) (by omega) (by decide) pr1498 (fun ex1692 ax1692 bx1692 => ?_)
                                    refine gz_s 1 (pc' := 410) (L' := [some (.ref m), some (.int (zi by2)), some (.int (zi mk)), some (.int (zi bg)), some (.int (zi n)), some (.int (zi zq1286)), some (.int (zi zq1339)), some (.int (zi z1393)), some (.int (zi 0)), some (.int (zi ((p0 + 6) + 0))), some (.int (zi 0))]) (S' := [.int (zi 1), .int (zi (z1479 % 16)), .ref m]) rfl ?_
                                    by_cases hc1693 : (z1479 % 16 : Int) < 1
                                    · refine gy_icT (pc' := 428) rfl (by decide) (by decide) (by omega) (by omega) hc1693 ?_
                                      refine gz_s 1 (pc' := 429) (L' := [some (.ref m), some (.int (zi by2)), some (.int (zi mk)), some (.int (zi bg)), some (.int (zi n)), some (.int (zi zq1286)), some (.int (zi zq1339)), some (.int (zi z1393)), some (.int (zi 0)), some (.int (zi ((p0 + 6) + 0))), some (.int (zi 0))]) (S' := [.int (zi 0), .ref m]) rfl ?_
                                      exact jn1501 0 (by omega)
                                    · refine gy_icF rfl (by decide) (by decide) (by omega) (by omega) hc1693 ?_
                                      refine gz_s 1 (pc' := 414) (L' := [some (.ref m), some (.int (zi by2)), some (.int (zi mk)), some (.int (zi bg)), some (.int (zi n)), some (.int (zi zq1286)), some (.int (zi zq1339)), some (.int (zi z1393)), some (.int (zi 0)), some (.int (zi ((p0 + 6) + 0))), some (.int (zi 0))]) (S' := [.ref m, .ref m]) rfl ?_
                                      refine gs_gtk rfl (by decide) rfl sh1481.1 tm rfl rfl s1497 ?_
                                      refine gz_s 1 (pc' := 419) (L' := [some (.ref m), some (.int (zi by2)), some (.int (zi mk)), some (.int (zi bg)), some (.int (zi n)), some (.int (zi zq1286)), some (.int (zi zq1339)), some (.int (zi z1393)), some (.int (zi 0)), some (.int (zi ((p0 + 6) + 0))), some (.int (zi 0))]) (S' := [.int (zi 0), .ref c1477, .ref m]) rfl ?_
                                      have hl1694 : 3 ≤ h1481.2.2.2.1 c1477 ∧ h1481.2.2.2.1 c1477 ≤ 3 := gJ.rowl (G := gGG) sh1481.1 tc1477 rfl
                                      refine gs_alx rfl (by decide) sh1481.1 tc1477 rfl rfl rfl (by decide) (fun _ => rfl) (by omega) (by omega) (by decide) pr1498 (fun ex1695 ax1695 bx1695 => ?_)
                                      refine gz_s 1 (pc' := 421) (L' := [some (.ref m), some (.int (zi by2)), some (.int (zi mk)), some (.int (zi bg)), some (.int (zi n)), some (.int (zi zq1286)), some (.int (zi zq1339)), some (.int (zi z1393)), some (.int (zi 0)), some (.int (zi ((p0 + 6) + 0))), some (.int (zi 0))]) (S' := [.int (zi 2), .int (zi (z1479 % 16)), .ref m]) rfl ?_
                                      by_cases hc1696 : (2 : Int) < z1479 % 16
                                      · refine gy_icT (pc' := 428) rfl (by decide) (by decide) (by omega) (by omega) hc1696 ?_
                                        refine gz_s 1 (pc' := 429) (L' := [some (.ref m), some (.int (zi by2)), some (.int (zi mk)), some (.int (zi bg)), some (.int (zi n)), some (.int (zi zq1286)), some (.int (zi zq1339)), some (.int (zi z1393)), some (.int (zi 0)), some (.int (zi ((p0 + 6) + 0))), some (.int (zi 0))]) (S' := [.int (zi 0), .ref m]) rfl ?_
                                        exact jn1501 0 (by omega)
                                      · refine gy_icF rfl (by decide) (by decide) (by omega) (by omega) hc1696 ?_
                                        refine gz_s 2 (pc' := 429) (L' := [some (.ref m), some (.int (zi by2)), some (.int (zi mk)), some (.int (zi bg)), some (.int (zi n)), some (.int (zi zq1286)), some (.int (zi zq1339)), some (.int (zi z1393)), some (.int (zi 0)), some (.int (zi ((p0 + 6) + 0))), some (.int (zi 0))]) (S' := [.int (zi 1), .ref m]) rfl ?_
                                        exact jn1501 1 (by omega)
                            · refine gy_ifF rfl (by decide) (by decide) (by omega) hc1435 ?_
                              have hpi1697 : gPi ty ip w hh wd hg bs hq1423 := fun e => absurd e (by omega)
                              exact gz_end (I := .return_) (len := 1) rfl (Or.inl rfl) ⟨sq1423, fq1423_0, ip, w, hh, wd, hg, bs, rfl, efq1423_0, (by omega), (by omega), s1427, (by omega), (by omega), s1428, (by omega), (by omega), s1429, (by omega), (by omega), s1430, (by omega), (by omega), s1431, (by omega), (by omega), s1432, (by omega), (by omega), hpi1697⟩
                      · refine gy_icF rfl (by decide) (by decide) (by omega) (by omega) hc1394 ?_
                        refine gz_s 2 (pc' := 204) (L' := [some (.ref m), some (.int (zi by2)), some (.int (zi mk)), some (.int (zi bg)), some (.int (zi n)), some (.int (zi zq1286)), some (.int (zi zq1339)), some (.int (zi z1393)), none, none, none]) (S' := [.int (zi 3), .int (zi z1393), .ref m]) rfl ?_
                        by_cases hc1698 : ¬ (z1393 : Int) = 3
                        · refine gy_icT (pc' := 211) rfl (by decide) (by decide) (by omega) (by omega) hc1698 ?_
                          refine gz_s 2 (pc' := 213) (L' := [some (.ref m), some (.int (zi by2)), some (.int (zi mk)), some (.int (zi bg)), some (.int (zi n)), some (.int (zi zq1286)), some (.int (zi zq1339)), some (.int (zi z1393)), none, none, none]) (S' := [.ref m, .int (zi 0), .ref m]) rfl ?_
                          refine gs_gtk rfl (by decide) rfl sq1379.1 tm rfl rfl s1380 ?_
                          refine gy_s 2 (pc' := 218) (L' := [some (.ref m), some (.int (zi by2)), some (.int (zi mk)), some (.int (zi bg)), some (.int (zi n)), some (.int (zi zq1286)), some (.int (zi zq1339)), some (.int (zi z1393)), none, none, none]) (S' := [.int ((zi p0) + (zi 5)), .int (zi 0), .ref m]) (L2 := [some (.ref m), some (.int (zi by2)), some (.int (zi mk)), some (.int (zi bg)), some (.int (zi n)), some (.int (zi zq1286)), some (.int (zi zq1339)), some (.int (zi z1393)), none, none, none]) (S2 := [.int (zi (p0 + 5)), .int (zi 0), .ref m]) rfl (by simp only [zi_add, zi_sub, zi_mul, zi_neg, zi_and1, zi_and7, zi_and15, zi_and31, zi_and255, Int.reduceAdd, Int.reduceMul, Int.reduceSub]) (by simp only [zi_add, zi_sub, zi_mul, zi_neg, zi_and1, zi_and7, zi_and15, zi_and31, zi_and255, Int.reduceAdd, Int.reduceMul, Int.reduceSub]) ?_
                          refine gz_call rfl (by decide) rfl (by decide) (by decide) (gcal_of rfl rfl rfl (Nat.le_of_ble_eq_true rfl) (gJ.recv (G := gGG) sq1379.1 tm rfl rfl)) (mm_must _ sq1379.1 m tm 0 (by omega) (p0 + 5) (by omega) fq1379_0 efq1379_0 (by omega)) (fun q1699 _ wq1699 => ?_)
                          obtain ⟨pq1699, oq1699, hq1699⟩ := q1699
                          obtain ⟨xq1699, zq1699, fq1699_0, gq1699, aq1699, bq1699, efq1699_0, afq1699_0, bfq1699_0, uq1699_0, uq1699_1⟩ := wq1699
                          refine ⟨_, gq1699, ?_⟩
                          show gz gPP gGG gcn _ _ 221 [some (.ref m), some (.int (zi by2)), some (.int (zi mk)), some (.int (zi bg)), some (.int (zi n)), some (.int (zi zq1286)), some (.int (zi zq1339)), some (.int (zi z1393)), none, none, none] [.int (zi zq1699)] hq1699 _
                          have sq1699 := gSs.tr sq1379 xq1699 (by decide)
                          have s1700 := (xq1699.2.2.2.2.2 m 5 (by rw [tm]; decide)).trans s1380
                          have s1701 := (xq1699.2.2.2.2.2 m 6 (by rw [tm]; decide)).trans s1381
                          have s1702 := (xq1699.2.2.2.2.2 m 3 (by rw [tm]; decide)).trans s1382
                          have s1703 := (xq1699.2.2.2.2.2 m 16 (by rw [tm]; decide)).trans s1383
                          have s1704 := (xq1699.2.2.2.2.2 m 18 (by rw [tm]; decide)).trans s1384
                          have s1705 := (xq1699.2.2.2.2.2 m 19 (by rw [tm]; decide)).trans s1385
                          have s1706 := (xq1699.2.2.2.2.2 m 21 (by rw [tm]; decide)).trans s1386
                          have s1707 := (xq1699.2.2.2.2.2 m 22 (by rw [tm]; decide)).trans s1387
                          have s1708 := (xq1699.2.2.2.2.2 m 20 (by rw [tm]; decide)).trans s1388
                          have s1709 := (xq1699.2.2.2.2.2 m 4 (by rw [tm]; decide)).trans s1389
                          have pr1710 := gPi.fr xq1699.2 (by decide) pr1390
                          clear s1380 s1381 s1382 s1383 s1384 s1385 s1386 s1387 s1388 s1389 pr1390
                          refine gy_ifT (pc' := 249) rfl (by decide) (by decide) (by omega) (by first | (simp [zc]; done) | (simp only [zc]; omega)) ?_
                          have hpi1711 : gPi ty ip w hh wd hg bs hq1699 := fun e => absurd e (by omega)
                          exact gz_end (I := .return_) (len := 1) rfl (Or.inl rfl) ⟨sq1699, fq1699_0, ip, w, hh, wd, hg, bs, rfl, efq1699_0, (by omega), (by omega), s1703, (by omega), (by omega), s1704, (by omega), (by omega), s1705, (by omega), (by omega), s1706, (by omega), (by omega), s1707, (by omega), (by omega), s1708, (by omega), (by omega), hpi1711⟩
                        · refine gy_icF rfl (by decide) (by decide) (by omega) (by omega) hc1698 ?_
                          refine gz_s 3 (pc' := 213) (L' := [some (.ref m), some (.int (zi by2)), some (.int (zi mk)), some (.int (zi bg)), some (.int (zi n)), some (.int (zi zq1286)), some (.int (zi zq1339)), some (.int (zi z1393)), none, none, none]) (S' := [.ref m, .int (zi 1), .ref m]) rfl ?_
                          refine gs_gtk rfl (by decide) rfl sq1379.1 tm rfl rfl s1380 ?_
                          refine gy_s 2 (pc' := 218) (L' := [some (.ref m), some (.int (zi by2)), some (.int (zi mk)), some (.int (zi bg)), some (.int (zi n)), some (.int (zi zq1286)), some (.int (zi zq1339)), some (.int (zi z1393)), none, none, none]) (S' := [.int ((zi p0) + (zi 5)), .int (zi 1), .ref m]) (L2 := [some (.ref m), some (.int (zi by2)), some (.int (zi mk)), some (.int (zi bg)), some (.int (zi n)), some (.int (zi zq1286)), some (.int (zi zq1339)), some (.int (zi z1393)), none, none, none]) (S2 := [.int (zi (p0 + 5)), .int (zi 1), .ref m]) rfl (by simp only [zi_add, zi_sub, zi_mul, zi_neg, zi_and1, zi_and7, zi_and15, zi_and31, zi_and255, Int.reduceAdd, Int.reduceMul, Int.reduceSub]) (by simp only [zi_add, zi_sub, zi_mul, zi_neg, zi_and1, zi_and7, zi_and15, zi_and31, zi_and255, Int.reduceAdd, Int.reduceMul, Int.reduceSub]) ?_
                          refine gz_call rfl (by decide) rfl (by decide) (by decide) (gcal_of rfl rfl rfl (Nat.le_of_ble_eq_true rfl) (gJ.recv (G := gGG) sq1379.1 tm rfl rfl)) (mm_must _ sq1379.1 m tm 1 (by omega) (p0 + 5) (by omega) fq1379_0 efq1379_0 (by omega)) (fun q1712 _ wq1712 => ?_)
                          obtain ⟨pq1712, oq1712, hq1712⟩ := q1712
                          obtain ⟨xq1712, zq1712, fq1712_0, gq1712, aq1712, bq1712, efq1712_0, afq1712_0, bfq1712_0, uq1712_0, uq1712_1⟩ := wq1712
                          refine ⟨_, gq1712, ?_⟩
                          show gz gPP gGG gcn _ _ 221 [some (.ref m), some (.int (zi by2)), some (.int (zi mk)), some (.int (zi bg)), some (.int (zi n)), some (.int (zi zq1286)), some (.int (zi zq1339)), some (.int (zi z1393)), none, none, none] [.int (zi zq1712)] hq1712 _
                          have sq1712 := gSs.tr sq1379 xq1712 (by decide)
                          have s1713 := (xq1712.2.2.2.2.2 m 5 (by rw [tm]; decide)).trans s1380
                          have s1714 := (xq1712.2.2.2.2.2 m 6 (by rw [tm]; decide)).trans s1381
                          have s1715 := (xq1712.2.2.2.2.2 m 3 (by rw [tm]; decide)).trans s1382
                          have s1716 := (xq1712.2.2.2.2.2 m 16 (by rw [tm]; decide)).trans s1383
                          have s1717 := (xq1712.2.2.2.2.2 m 18 (by rw [tm]; decide)).trans s1384
                          have s1718 := (xq1712.2.2.2.2.2 m 19 (by rw [tm]; decide)).trans s1385
                          have s1719 := (xq1712.2.2.2.2.2 m 21 (by rw [tm]; decide)).trans s1386
                          have s1720 := (xq1712.2.2.2.2.2 m 22 (by rw [tm]; decide)).trans s1387
                          have s1721 := (xq1712.2.2.2.2.2 m 20 (by rw [tm]; decide)).trans s1388
                          have s1722 := (xq1712.2.2.2.2.2 m 4 (by rw [tm]; decide)).trans s1389
                          have pr1723 := gPi.fr xq1712.2 (by decide) pr1390
                          clear s1380 s1381 s1382 s1383 s1384 s1385 s1386 s1387 s1388 s1389 pr1390
                          by_cases hc1724 : (zq1712 : Int) = 0
                          · refine gy_ifT (pc' := 249) rfl (by decide) (by decide) (by omega) hc1724 ?_
                            have hpi1725 : gPi ty ip w hh wd hg bs hq1712 := fun e => absurd e (by omega)
                            exact gz_end (I := .return_) (len := 1) rfl (Or.inl rfl) ⟨sq1712, fq1712_0, ip, w, hh, wd, hg, bs, rfl, efq1712_0, (by omega), (by omega), s1716, (by omega), (by omega), s1717, (by omega), (by omega), s1718, (by omega), (by omega), s1719, (by omega), (by omega), s1720, (by omega), (by omega), s1721, (by omega), (by omega), hpi1725⟩
                          · refine gy_ifF rfl (by decide) (by decide) (by omega) hc1724 ?_
                            refine gy_s 7 (pc' := 234) (L' := [some (.ref m), some (.int (zi by2)), some (.int (zi mk)), some (.int (zi bg)), some (.int (zi n)), some (.int (zi zq1286)), some (.int (zi zq1339)), some (.int (zi z1393)), none, none, none]) (S' := [.int ((zi 8) + ((zi 3) * (zi z1393))), .int (zi n), .ref m]) (L2 := [some (.ref m), some (.int (zi by2)), some (.int (zi mk)), some (.int (zi bg)), some (.int (zi n)), some (.int (zi zq1286)), some (.int (zi zq1339)), some (.int (zi z1393)), none, none, none]) (S2 := [.int (zi (8 + (3 * z1393))), .int (zi n), .ref m]) rfl (by simp only [zi_add, zi_sub, zi_mul, zi_neg, zi_and1, zi_and7, zi_and15, zi_and31, zi_and255, Int.reduceAdd, Int.reduceMul, Int.reduceSub]) (by simp only [zi_add, zi_sub, zi_mul, zi_neg, zi_and1, zi_and7, zi_and15, zi_and31, zi_and255, Int.reduceAdd, Int.reduceMul, Int.reduceSub]) ?_
                            by_cases hc1726 : ¬ (n : Int) = 8 + (3 * z1393)
                            · refine gy_icT (pc' := 241) rfl (by decide) (by decide) (by omega) (by omega) hc1726 ?_
                              refine gz_s 2 (pc' := 243) (L' := [some (.ref m), some (.int (zi by2)), some (.int (zi mk)), some (.int (zi bg)), some (.int (zi n)), some (.int (zi zq1286)), some (.int (zi zq1339)), some (.int (zi z1393)), none, none, none]) (S' := [.int (zi bg), .int (zi 0), .ref m]) rfl ?_
                              refine gz_call rfl (by decide) rfl (by decide) (by decide) (gcal_of rfl rfl rfl (Nat.le_of_ble_eq_true rfl) (gJ.recv (G := gGG) sq1712.1 tm rfl rfl)) (mm_must _ sq1712.1 m tm 0 (by omega) bg (by omega) fq1712_0 efq1712_0 (by omega)) (fun q1727 _ wq1727 => ?_)
                              obtain ⟨pq1727, oq1727, hq1727⟩ := q1727
                              obtain ⟨xq1727, zq1727, fq1727_0, gq1727, aq1727, bq1727, efq1727_0, afq1727_0, bfq1727_0, uq1727_0, uq1727_1⟩ := wq1727
                              refine ⟨_, gq1727, ?_⟩
                              show gz gPP gGG gcn _ _ 246 [some (.ref m), some (.int (zi by2)), some (.int (zi mk)), some (.int (zi bg)), some (.int (zi n)), some (.int (zi zq1286)), some (.int (zi zq1339)), some (.int (zi z1393)), none, none, none] [.int (zi zq1727)] hq1727 _
                              have sq1727 := gSs.tr sq1712 xq1727 (by decide)
                              have s1728 := (xq1727.2.2.2.2.2 m 5 (by rw [tm]; decide)).trans s1713
                              have s1729 := (xq1727.2.2.2.2.2 m 6 (by rw [tm]; decide)).trans s1714
                              have s1730 := (xq1727.2.2.2.2.2 m 3 (by rw [tm]; decide)).trans s1715
                              have s1731 := (xq1727.2.2.2.2.2 m 16 (by rw [tm]; decide)).trans s1716
                              have s1732 := (xq1727.2.2.2.2.2 m 18 (by rw [tm]; decide)).trans s1717
                              have s1733 := (xq1727.2.2.2.2.2 m 19 (by rw [tm]; decide)).trans s1718
                              have s1734 := (xq1727.2.2.2.2.2 m 21 (by rw [tm]; decide)).trans s1719
                              have s1735 := (xq1727.2.2.2.2.2 m 22 (by rw [tm]; decide)).trans s1720
                              have s1736 := (xq1727.2.2.2.2.2 m 20 (by rw [tm]; decide)).trans s1721
                              have s1737 := (xq1727.2.2.2.2.2 m 4 (by rw [tm]; decide)).trans s1722
                              have pr1738 := gPi.fr xq1727.2 (by decide) pr1723
                              clear s1713 s1714 s1715 s1716 s1717 s1718 s1719 s1720 s1721 s1722 pr1723
                              refine gy_ifF rfl (by decide) (by decide) (by omega) (by first | (simp [zc]; done) | (simp only [zc]; omega)) ?_
                              have hpi1739 : gPi ty ip w hh wd hg bs hq1727 := fun e => absurd e (by omega)
                              exact gz_end (I := .return_) (len := 1) rfl (Or.inl rfl) ⟨sq1727, fq1727_0, ip, w, hh, wd, hg, bs, rfl, efq1727_0, (by omega), (by omega), s1731, (by omega), (by omega), s1732, (by omega), (by omega), s1733, (by omega), (by omega), s1734, (by omega), (by omega), s1735, (by omega), (by omega), s1736, (by omega), (by omega), hpi1739⟩
                            · refine gy_icF rfl (by decide) (by decide) (by omega) (by omega) hc1726 ?_
                              refine gz_s 3 (pc' := 243) (L' := [some (.ref m), some (.int (zi by2)), some (.int (zi mk)), some (.int (zi bg)), some (.int (zi n)), some (.int (zi zq1286)), some (.int (zi zq1339)), some (.int (zi z1393)), none, none, none]) (S' := [.int (zi bg), .int (zi 1), .ref m]) rfl ?_
                              refine gz_call rfl (by decide) rfl (by decide) (by decide) (gcal_of rfl rfl rfl (Nat.le_of_ble_eq_true rfl) (gJ.recv (G := gGG) sq1712.1 tm rfl rfl)) (mm_must _ sq1712.1 m tm 1 (by omega) bg (by omega) fq1712_0 efq1712_0 (by omega)) (fun q1740 _ wq1740 => ?_)
                              obtain ⟨pq1740, oq1740, hq1740⟩ := q1740
                              obtain ⟨xq1740, zq1740, fq1740_0, gq1740, aq1740, bq1740, efq1740_0, afq1740_0, bfq1740_0, uq1740_0, uq1740_1⟩ := wq1740
                              refine ⟨_, gq1740, ?_⟩
                              show gz gPP gGG gcn _ _ 246 [some (.ref m), some (.int (zi by2)), some (.int (zi mk)), some (.int (zi bg)), some (.int (zi n)), some (.int (zi zq1286)), some (.int (zi zq1339)), some (.int (zi z1393)), none, none, none] [.int (zi zq1740)] hq1740 _
                              have sq1740 := gSs.tr sq1712 xq1740 (by decide)
                              have s1741 := (xq1740.2.2.2.2.2 m 5 (by rw [tm]; decide)).trans s1713
                              have s1742 := (xq1740.2.2.2.2.2 m 6 (by rw [tm]; decide)).trans s1714
                              have s1743 := (xq1740.2.2.2.2.2 m 3 (by rw [tm]; decide)).trans s1715
                              have s1744 := (xq1740.2.2.2.2.2 m 16 (by rw [tm]; decide)).trans s1716
                              have s1745 := (xq1740.2.2.2.2.2 m 18 (by rw [tm]; decide)).trans s1717
                              have s1746 := (xq1740.2.2.2.2.2 m 19 (by rw [tm]; decide)).trans s1718
                              have s1747 := (xq1740.2.2.2.2.2 m 21 (by rw [tm]; decide)).trans s1719
                              have s1748 := (xq1740.2.2.2.2.2 m 22 (by rw [tm]; decide)).trans s1720
                              have s1749 := (xq1740.2.2.2.2.2 m 20 (by rw [tm]; decide)).trans s1721
                              have s1750 := (xq1740.2.2.2.2.2 m 4 (by rw [tm]; decide)).trans s1722
                              have pr1751 := gPi.fr xq1740.2 (by decide) pr1723
                              clear s1713 s1714 s1715 s1716 s1717 s1718 s1719 s1720 s1721 s1722 pr1723
                              by_cases hc1752 : ¬ (zq1740 : Int) = 0
                              · refine gy_ifT (pc' := 250) rfl (by decide) (by decide) (by omega) hc1752 ?_
                                refine gz_s 4 (pc' := 257) (L' := [some (.ref m), some (.int (zi by2)), some (.int (zi mk)), some (.int (zi bg)), some (.int (zi n)), some (.int (zi zq1286)), some (.int (zi zq1339)), some (.int (zi z1393)), some (.int (zi 0)), none, none]) (S' := [.int (zi z1393), .int (zi 0)]) rfl ?_
                                refine gy_icF rfl (by decide) (by decide) (by omega) (by omega) (by first | (simp [zc]; done) | (simp only [zc]; omega)) ?_
                                refine gz_s 1 (pc' := 261) (L' := [some (.ref m), some (.int (zi by2)), some (.int (zi mk)), some (.int (zi bg)), some (.int (zi n)), some (.int (zi zq1286)), some (.int (zi zq1339)), some (.int (zi z1393)), some (.int (zi 0)), none, none]) (S' := [.ref m]) rfl ?_
                                refine gs_gtk rfl (by decide) rfl sq1740.1 tm rfl rfl efq1740_0 ?_
                                refine gz_s 1 (pc' := 265) (L' := [some (.ref m), some (.int (zi by2)), some (.int (zi mk)), some (.int (zi bg)), some (.int (zi n)), some (.int (zi zq1286)), some (.int (zi zq1339)), some (.int (zi z1393)), some (.int (zi 0)), none, none]) (S' := [.int (zi (-1)), .int (zi fq1740_0)]) rfl ?_
                                by_cases hc1753 : ¬ (fq1740_0 : Int) = (-1)
                                · refine gy_icT (pc' := 484) rfl (by decide) (by decide) (by omega) (by omega) hc1753 ?_
                                  refine gz_s 1 (pc' := 485) (L' := [some (.ref m), some (.int (zi by2)), some (.int (zi mk)), some (.int (zi bg)), some (.int (zi n)), some (.int (zi zq1286)), some (.int (zi zq1339)), some (.int (zi z1393)), some (.int (zi 0)), none, none]) (S' := [.ref m]) rfl ?_
                                  refine gs_gtk rfl (by decide) rfl sq1740.1 tm rfl rfl efq1740_0 ?_
                                  refine gz_s 1 (pc' := 489) (L' := [some (.ref m), some (.int (zi by2)), some (.int (zi mk)), some (.int (zi bg)), some (.int (zi n)), some (.int (zi zq1286)), some (.int (zi zq1339)), some (.int (zi z1393)), some (.int (zi 0)), none, none]) (S' := [.int (zi (-1)), .int (zi fq1740_0)]) rfl ?_
                                  refine gy_icF rfl (by decide) (by decide) (by omega) (by omega) (by first | (simp [zc]; done) | (simp only [zc]; omega)) ?_
                                  have hpi1754 : gPi ty ip w hh wd hg bs hq1740 := fun e => absurd e (by omega)
                                  exact gz_end (I := .return_) (len := 1) rfl (Or.inl rfl) ⟨sq1740, fq1740_0, ip, w, hh, wd, hg, bs, rfl, efq1740_0, (by omega), (by omega), s1744, (by omega), (by omega), s1745, (by omega), (by omega), s1746, (by omega), (by omega), s1747, (by omega), (by omega), s1748, (by omega), (by omega), s1749, (by omega), (by omega), hpi1754⟩
                                · refine gy_icF rfl (by decide) (by decide) (by omega) (by omega) hc1753 ?_
                                  refine gz_s 1 (pc' := 269) (L' := [some (.ref m), some (.int (zi by2)), some (.int (zi mk)), some (.int (zi bg)), some (.int (zi n)), some (.int (zi zq1286)), some (.int (zi zq1339)), some (.int (zi z1393)), some (.int (zi 0)), none, none]) (S' := [.ref m]) rfl ?_
                                  refine gs_gtk rfl (by decide) rfl sq1740.1 tm rfl rfl s1741 ?_
                                  refine gy_s 8 (pc' := 283) (L' := [some (.ref m), some (.int (zi by2)), some (.int (zi mk)), some (.int (zi bg)), some (.int (zi n)), some (.int (zi zq1286)), some (.int (zi zq1339)), some (.int (zi z1393)), some (.int (zi 0)), some (.int (((zi p0) + (zi 6)) + ((zi 3) * (zi 0)))), none]) (S' := [.ref m]) (L2 := [some (.ref m), some (.int (zi by2)), some (.int (zi mk)), some (.int (zi bg)), some (.int (zi n)), some (.int (zi zq1286)), some (.int (zi zq1339)), some (.int (zi z1393)), some (.int (zi 0)), some (.int (zi ((p0 + 6) + 0))), none]) (S2 := [.ref m]) rfl (by simp only [zi_add, zi_sub, zi_mul, zi_neg, zi_and1, zi_and7, zi_and15, zi_and31, zi_and255, Int.reduceAdd, Int.reduceMul, Int.reduceSub]) (by simp only [zi_add, zi_sub, zi_mul, zi_neg, zi_and1, zi_and7, zi_and15, zi_and31, zi_and255, Int.reduceAdd, Int.reduceMul, Int.reduceSub]) ?_
                                  refine gs_gtr rfl (by decide) rfl sq1740.1 tm rfl rfl rfl (fun c1755 ec1755 tc1755 => ?_)
                                  refine gz_s 2 (pc' := 289) (L' := [some (.ref m), some (.int (zi by2)), some (.int (zi mk)), some (.int (zi bg)), some (.int (zi n)), some (.int (zi zq1286)), some (.int (zi zq1339)), some (.int (zi z1393)), some (.int (zi 0)), some (.int (zi ((p0 + 6) + 0))), none]) (S' := [.ref m, .int (zi 0), .ref c1755]) rfl ?_
                                  refine gs_gtk rfl (by decide) rfl sq1740.1 tm rfl rfl s1750 ?_
                                  refine gz_s 1 (pc' := 294) (L' := [some (.ref m), some (.int (zi by2)), some (.int (zi mk)), some (.int (zi bg)), some (.int (zi n)), some (.int (zi zq1286)), some (.int (zi zq1339)), some (.int (zi z1393)), some (.int (zi 0)), some (.int (zi ((p0 + 6) + 0))), none]) (S' := [.int (zi ((p0 + 6) + 0)), .ref c49, .int (zi 0), .ref c1755]) rfl ?_
                                  have hl1756 : 2000 ≤ hq1740.2.2.2.1 c49 ∧ hq1740.2.2.2.1 c49 ≤ 2000 := gJ.rowl (G := gGG) sq1740.1 tc49 rfl
                                  refine gs_ald rfl (by decide) sq1740.1 tc49 rfl rfl rfl (by decide) (fun _ => rfl) (by omega) (by omega) (fun z1757 ez1757 az1757 bz1757 => ?_)
                                  have hl1758 : 3 ≤ hq1740.2.2.2.1 c1755 ∧ hq1740.2.2.2.1 c1755 ≤ 3 := gJ.rowl (G := gGG) sq1740.1 tc1755 rfl
                                  refine gs_ast rfl (by decide) sq1740 tc1755 rfl rfl rfl (by decide) (fun _ => rfl) (by omega) (by omega) (fun _ => (by decide : (11999 : Nat) ∈ ([1007, 1016, 1017, 1018, 1019, 1020, 1021, 1022, 1023, 1024, 11999, 12999, 13999, 14999, 15999, 16999, 17999, 18999, 19999, 23999, 24999] : List Nat))) (by omega) (by omega) (fun h1759 sh1759 eh1759 fh1759 => ?_)
                                  have pr1760 := gPi.pt fh1759 tc1755 (by decide) pr1751
                                  have s1761 := (fh1759 m 5 (fun q => absurd (((tm).symm.trans (congrArg ty q.1)).trans tc1755) (by decide))).trans s1741
                                  have s1762 := (fh1759 m 6 (fun q => absurd (((tm).symm.trans (congrArg ty q.1)).trans tc1755) (by decide))).trans s1742
                                  have s1763 := (fh1759 m 3 (fun q => absurd (((tm).symm.trans (congrArg ty q.1)).trans tc1755) (by decide))).trans s1743
                                  have s1764 := (fh1759 m 16 (fun q => absurd (((tm).symm.trans (congrArg ty q.1)).trans tc1755) (by decide))).trans s1744
                                  have s1765 := (fh1759 m 18 (fun q => absurd (((tm).symm.trans (congrArg ty q.1)).trans tc1755) (by decide))).trans s1745
                                  have s1766 := (fh1759 m 19 (fun q => absurd (((tm).symm.trans (congrArg ty q.1)).trans tc1755) (by decide))).trans s1746
                                  have s1767 := (fh1759 m 21 (fun q => absurd (((tm).symm.trans (congrArg ty q.1)).trans tc1755) (by decide))).trans s1747
                                  have s1768 := (fh1759 m 22 (fun q => absurd (((tm).symm.trans (congrArg ty q.1)).trans tc1755) (by decide))).trans s1748
                                  have s1769 := (fh1759 m 20 (fun q => absurd (((tm).symm.trans (congrArg ty q.1)).trans tc1755) (by decide))).trans s1749
                                  have s1770 := (fh1759 m 4 (fun q => absurd (((tm).symm.trans (congrArg ty q.1)).trans tc1755) (by decide))).trans s1750
                                  have s1771 := (fh1759 m 7 (fun q => absurd (((tm).symm.trans (congrArg ty q.1)).trans tc1755) (by decide))).trans efq1740_0
                                  have s1772 := (fh1759 m 25 (fun q => absurd (((tm).symm.trans (congrArg ty q.1)).trans tc1755) (by decide))).trans ec1755
                                  clear s1741 s1742 s1743 s1744 s1745 s1746 s1747 s1748 s1749 s1750 pr1751
                                  have pr1773 := gEl.set (i := 0) (z := z1757) uq tc1755 (by decide) eh1759 (by omega) (by omega)
                                  refine gz_s 4 (pc' := 303) (L' := [some (.ref m), some (.int (zi by2)), some (.int (zi mk)), some (.int (zi bg)), some (.int (zi n)), some (.int (zi zq1286)), some (.int (zi zq1339)), some (.int (zi z1393)), some (.int (zi 0)), some (.int (zi ((p0 + 6) + 0))), some (.int (zi 0))]) (S' := [.int (zi 0), .int (zi 0)]) rfl ?_
                                  refine gy_icT (pc' := 341) rfl (by decide) (by decide) (by omega) (by omega) (by first | (simp [zc]; done) | (simp only [zc]; omega)) ?_
                                  refine gz_s 1 (pc' := 342) (L' := [some (.ref m), some (.int (zi by2)), some (.int (zi mk)), some (.int (zi bg)), some (.int (zi n)), some (.int (zi zq1286)), some (.int (zi zq1339)), some (.int (zi z1393)), some (.int (zi 0)), some (.int (zi ((p0 + 6) + 0))), some (.int (zi 0))]) (S' := [.ref m]) rfl ?_
                                  refine gs_gtr rfl (by decide) rfl sh1759.1 tm rfl rfl rfl (fun c1774 ec1774 tc1774 => ?_)
                                  refine gz_s 2 (pc' := 348) (L' := [some (.ref m), some (.int (zi by2)), some (.int (zi mk)), some (.int (zi bg)), some (.int (zi n)), some (.int (zi zq1286)), some (.int (zi zq1339)), some (.int (zi z1393)), some (.int (zi 0)), some (.int (zi ((p0 + 6) + 0))), some (.int (zi 0))]) (S' := [.ref m, .int (zi 0), .ref c1774]) rfl ?_
                                  refine gs_gtk rfl (by decide) rfl sh1759.1 tm rfl rfl s1770 ?_
                                  refine gy_s 3 (pc' := 355) (L' := [some (.ref m), some (.int (zi by2)), some (.int (zi mk)), some (.int (zi bg)), some (.int (zi n)), some (.int (zi zq1286)), some (.int (zi zq1339)), some (.int (zi z1393)), some (.int (zi 0)), some (.int (zi ((p0 + 6) + 0))), some (.int (zi 0))]) (S' := [.int ((zi ((p0 + 6) + 0)) + (zi 1)), .ref c49, .int (zi 0), .ref c1774]) (L2 := [some (.ref m), some (.int (zi by2)), some (.int (zi mk)), some (.int (zi bg)), some (.int (zi n)), some (.int (zi zq1286)), some (.int (zi zq1339)), some (.int (zi z1393)), some (.int (zi 0)), some (.int (zi ((p0 + 6) + 0))), some (.int (zi 0))]) (S2 := [.int (zi (((p0 + 6) + 0) + 1)), .ref c49, .int (zi 0), .ref c1774]) rfl (by simp only [zi_add, zi_sub, zi_mul, zi_neg, zi_and1, zi_and7, zi_and15, zi_and31, zi_and255, Int.reduceAdd, Int.reduceMul, Int.reduceSub]) (by simp only [zi_add, zi_sub, zi_mul, zi_neg, zi_and1, zi_and7, zi_and15, zi_and31, zi_and255, Int.reduceAdd, Int.reduceMul, Int.reduceSub]) ?_
                                  have hl1775 : 2000 ≤ h1759.2.2.2.1 c49 ∧ h1759.2.2.2.1 c49 ≤ 2000 := gJ.rowl (G := gGG) sh1759.1 tc49 rfl
                                  refine gs_ald rfl (by decide) sh1759.1 tc49 rfl rfl rfl (by decide) (fun _ => rfl) (by omega) (by omega) (fun z1776 ez1776 az1776 bz1776 => ?_)
                                  refine gz_s 1 (pc' := 358) (L' := [some (.ref m), some (.int (zi by2)), some (.int (zi mk)), some (.int (zi bg)), some (.int (zi n)), some (.int (zi zq1286)), some (.int (zi zq1339)), some (.int (zi z1393)), some (.int (zi 0)), some (.int (zi ((p0 + 6) + 0))), some (.int (zi 0))]) (S' := [.int (zi 16), .int (zi z1776), .int (zi 0), .ref c1774]) rfl ?_
                                  refine gy_div rfl (by decide) (by omega) (by omega) ?_
                                  have hl1777 : 3 ≤ h1759.2.2.2.1 c1774 ∧ h1759.2.2.2.1 c1774 ≤ 3 := gJ.rowl (G := gGG) sh1759.1 tc1774 rfl
                                  refine gs_ast rfl (by decide) sh1759 tc1774 rfl rfl rfl (by decide) (fun _ => rfl) (by omega) (by omega) (fun _ => (by decide : (12999 : Nat) ∈ ([1007, 1016, 1017, 1018, 1019, 1020, 1021, 1022, 1023, 1024, 11999, 12999, 13999, 14999, 15999, 16999, 17999, 18999, 19999, 23999, 24999] : List Nat))) (by omega) (by omega) (fun h1778 sh1778 eh1778 fh1778 => ?_)
                                  have pr1779 := gEl.pt fh1778 tc1774 (by decide) pr1773
                                  have s1780 := (fh1778 m 5 (fun q => absurd (((tm).symm.trans (congrArg ty q.1)).trans tc1774) (by decide))).trans s1761
                                  have s1781 := (fh1778 m 6 (fun q => absurd (((tm).symm.trans (congrArg ty q.1)).trans tc1774) (by decide))).trans s1762
                                  have s1782 := (fh1778 m 3 (fun q => absurd (((tm).symm.trans (congrArg ty q.1)).trans tc1774) (by decide))).trans s1763
                                  have s1783 := (fh1778 m 16 (fun q => absurd (((tm).symm.trans (congrArg ty q.1)).trans tc1774) (by decide))).trans s1764
                                  have s1784 := (fh1778 m 18 (fun q => absurd (((tm).symm.trans (congrArg ty q.1)).trans tc1774) (by decide))).trans s1765
                                  have s1785 := (fh1778 m 19 (fun q => absurd (((tm).symm.trans (congrArg ty q.1)).trans tc1774) (by decide))).trans s1766
                                  have s1786 := (fh1778 m 21 (fun q => absurd (((tm).symm.trans (congrArg ty q.1)).trans tc1774) (by decide))).trans s1767
                                  have s1787 := (fh1778 m 22 (fun q => absurd (((tm).symm.trans (congrArg ty q.1)).trans tc1774) (by decide))).trans s1768
                                  have s1788 := (fh1778 m 20 (fun q => absurd (((tm).symm.trans (congrArg ty q.1)).trans tc1774) (by decide))).trans s1769
                                  have s1789 := (fh1778 m 4 (fun q => absurd (((tm).symm.trans (congrArg ty q.1)).trans tc1774) (by decide))).trans s1770
                                  have s1790 := (fh1778 m 7 (fun q => absurd (((tm).symm.trans (congrArg ty q.1)).trans tc1774) (by decide))).trans s1771
                                  have s1791 := (fh1778 m 25 (fun q => absurd (((tm).symm.trans (congrArg ty q.1)).trans tc1774) (by decide))).trans s1772
                                  have s1792 := (fh1778 m 26 (fun q => absurd (((tm).symm.trans (congrArg ty q.1)).trans tc1774) (by decide))).trans ec1774
                                  clear s1761 s1762 s1763 s1764 s1765 s1766 s1767 s1768 s1769 s1770 s1771 s1772 pr1760 pr1773
                                  have pr1793 := gEl.set (i := 0) (z := z1776 / 16) uq tc1774 (by decide) eh1778 (by omega) (by omega)
                                  refine gz_s 1 (pc' := 361) (L' := [some (.ref m), some (.int (zi by2)), some (.int (zi mk)), some (.int (zi bg)), some (.int (zi n)), some (.int (zi zq1286)), some (.int (zi zq1339)), some (.int (zi z1393)), some (.int (zi 0)), some (.int (zi ((p0 + 6) + 0))), some (.int (zi 0))]) (S' := [.ref m]) rfl ?_
                                  refine gs_gtr rfl (by decide) rfl sh1778.1 tm rfl rfl rfl (fun c1794 ec1794 tc1794 => ?_)
                                  refine gz_s 2 (pc' := 367) (L' := [some (.ref m), some (.int (zi by2)), some (.int (zi mk)), some (.int (zi bg)), some (.int (zi n)), some (.int (zi zq1286)), some (.int (zi zq1339)), some (.int (zi z1393)), some (.int (zi 0)), some (.int (zi ((p0 + 6) + 0))), some (.int (zi 0))]) (S' := [.ref m, .int (zi 0), .ref c1794]) rfl ?_
                                  refine gs_gtk rfl (by decide) rfl sh1778.1 tm rfl rfl s1789 ?_
                                  refine gy_s 3 (pc' := 374) (L' := [some (.ref m), some (.int (zi by2)), some (.int (zi mk)), some (.int (zi bg)), some (.int (zi n)), some (.int (zi zq1286)), some (.int (zi zq1339)), some (.int (zi z1393)), some (.int (zi 0)), some (.int (zi ((p0 + 6) + 0))), some (.int (zi 0))]) (S' := [.int ((zi ((p0 + 6) + 0)) + (zi 1)), .ref c49, .int (zi 0), .ref c1794]) (L2 := [some (.ref m), some (.int (zi by2)), some (.int (zi mk)), some (.int (zi bg)), some (.int (zi n)), some (.int (zi zq1286)), some (.int (zi zq1339)), some (.int (zi z1393)), some (.int (zi 0)), some (.int (zi ((p0 + 6) + 0))), some (.int (zi 0))]) (S2 := [.int (zi (((p0 + 6) + 0) + 1)), .ref c49, .int (zi 0), .ref c1794]) rfl (by simp only [zi_add, zi_sub, zi_mul, zi_neg, zi_and1, zi_and7, zi_and15, zi_and31, zi_and255, Int.reduceAdd, Int.reduceMul, Int.reduceSub]) (by simp only [zi_add, zi_sub, zi_mul, zi_neg, zi_and1, zi_and7, zi_and15, zi_and31, zi_and255, Int.reduceAdd, Int.reduceMul, Int.reduceSub]) ?_
                                  have hl1795 : 2000 ≤ h1778.2.2.2.1 c49 ∧ h1778.2.2.2.1 c49 ≤ 2000 := gJ.rowl (G := gGG) sh1778.1 tc49 rfl
                                  refine gs_ald rfl (by decide) sh1778.1 tc49 rfl rfl rfl (by decide) (fun _ => rfl) (by omega) (by omega) (fun z1796 ez1796 az1796 bz1796 => ?_)
                                  refine gz_s 1 (pc' := 377) (L' := [some (.ref m), some (.int (zi by2)), some (.int (zi mk)), some (.int (zi bg)), some (.int (zi n)), some (.int (zi zq1286)), some (.int (zi zq1339)), some (.int (zi z1393)), some (.int (zi 0)), some (.int (zi ((p0 + 6) + 0))), some (.int (zi 0))]) (S' := [.int (zi 16), .int (zi z1796), .int (zi 0), .ref c1794]) rfl ?_
                                  refine gy_rem rfl (by decide) (by omega) (by omega) ?_
                                  have hl1797 : 3 ≤ h1778.2.2.2.1 c1794 ∧ h1778.2.2.2.1 c1794 ≤ 3 := gJ.rowl (G := gGG) sh1778.1 tc1794 rfl
                                  refine gs_ast rfl (by decide) sh1778 tc1794 rfl rfl rfl (by decide) (fun _ => rfl) (by omega) (by omega) (fun _ => (by decide : (13999 : Nat) ∈ ([1007, 1016, 1017, 1018, 1019, 1020, 1021, 1022, 1023, 1024, 11999, 12999, 13999, 14999, 15999, 16999, 17999, 18999, 19999, 23999, 24999] : List Nat))) (by omega) (by omega) (fun h1798 sh1798 eh1798 fh1798 => ?_)
                                  have pr1799 := gEl.pt fh1798 tc1794 (by decide) pr1779
                                  have pr1800 := gEl.pt fh1798 tc1794 (by decide) pr1793
                                  have s1801 := (fh1798 m 5 (fun q => absurd (((tm).symm.trans (congrArg ty q.1)).trans tc1794) (by decide))).trans s1780
                                  have s1802 := (fh1798 m 6 (fun q => absurd (((tm).symm.trans (congrArg ty q.1)).trans tc1794) (by decide))).trans s1781
                                  have s1803 := (fh1798 m 3 (fun q => absurd (((tm).symm.trans (congrArg ty q.1)).trans tc1794) (by decide))).trans s1782
                                  have s1804 := (fh1798 m 16 (fun q => absurd (((tm).symm.trans (congrArg ty q.1)).trans tc1794) (by decide))).trans s1783
                                  have s1805 := (fh1798 m 18 (fun q => absurd (((tm).symm.trans (congrArg ty q.1)).trans tc1794) (by decide))).trans s1784
                                  have s1806 := (fh1798 m 19 (fun q => absurd (((tm).symm.trans (congrArg ty q.1)).trans tc1794) (by decide))).trans s1785
                                  have s1807 := (fh1798 m 21 (fun q => absurd (((tm).symm.trans (congrArg ty q.1)).trans tc1794) (by decide))).trans s1786
                                  have s1808 := (fh1798 m 22 (fun q => absurd (((tm).symm.trans (congrArg ty q.1)).trans tc1794) (by decide))).trans s1787
                                  have s1809 := (fh1798 m 20 (fun q => absurd (((tm).symm.trans (congrArg ty q.1)).trans tc1794) (by decide))).trans s1788
                                  have s1810 := (fh1798 m 4 (fun q => absurd (((tm).symm.trans (congrArg ty q.1)).trans tc1794) (by decide))).trans s1789
                                  have s1811 := (fh1798 m 7 (fun q => absurd (((tm).symm.trans (congrArg ty q.1)).trans tc1794) (by decide))).trans s1790
                                  have s1812 := (fh1798 m 25 (fun q => absurd (((tm).symm.trans (congrArg ty q.1)).trans tc1794) (by decide))).trans s1791
                                  have s1813 := (fh1798 m 26 (fun q => absurd (((tm).symm.trans (congrArg ty q.1)).trans tc1794) (by decide))).trans s1792
                                  have s1814 := (fh1798 m 27 (fun q => absurd (((tm).symm.trans (congrArg ty q.1)).trans tc1794) (by decide))).trans ec1794
                                  clear s1780 s1781 s1782 s1783 s1784 s1785 s1786 s1787 s1788 s1789 s1790 s1791 s1792 pr1779 pr1793
                                  have pr1815 := gEl.set (i := 0) (z := z1796 % 16) uq tc1794 (by decide) eh1798 (by omega) (by omega)
                                  refine gz_s 2 (pc' := 381) (L' := [some (.ref m), some (.int (zi by2)), some (.int (zi mk)), some (.int (zi bg)), some (.int (zi n)), some (.int (zi zq1286)), some (.int (zi zq1339)), some (.int (zi z1393)), some (.int (zi 0)), some (.int (zi ((p0 + 6) + 0))), some (.int (zi 0))]) (S' := [.ref m, .ref m]) rfl ?_
                                  refine gs_gtk rfl (by decide) rfl sh1798.1 tm rfl rfl s1813 ?_
                                  refine gz_s 1 (pc' := 386) (L' := [some (.ref m), some (.int (zi by2)), some (.int (zi mk)), some (.int (zi bg)), some (.int (zi n)), some (.int (zi zq1286)), some (.int (zi zq1339)), some (.int (zi z1393)), some (.int (zi 0)), some (.int (zi ((p0 + 6) + 0))), some (.int (zi 0))]) (S' := [.int (zi 0), .ref c1774, .ref m]) rfl ?_
                                  have hl1816 : 3 ≤ h1798.2.2.2.1 c1774 ∧ h1798.2.2.2.1 c1774 ≤ 3 := gJ.rowl (G := gGG) sh1798.1 tc1774 rfl
                                  refine gs_alx rfl (by decide) sh1798.1 tc1774 rfl rfl rfl (by decide) (fun _ => rfl) (by omega) (by omega) (by decide) pr1800 (fun ex1817 ax1817 bx1817 => ?_)
                                  refine gz_s 1 (pc' := 388) (L' := [some (.ref m), some (.int (zi by2)), some (.int (zi mk)), some (.int (zi bg)), some (.int (zi n)), some (.int (zi zq1286)), some (.int (zi zq1339)), some (.int (zi z1393)), some (.int (zi 0)), some (.int (zi ((p0 + 6) + 0))), some (.int (zi 0))]) (S' := [.int (zi 1), .int (zi (z1776 / 16)), .ref m]) rfl ?_
                                  have jn1818 : ∀ (jn1818v0 : Int), ((0 ≤ jn1818v0) ∧ (jn1818v0 ≤ 1) ∧ (jn1818v0 = 1 → (1 ≤ z1776 / 16 ∧ z1776 / 16 ≤ 2 ∧ 1 ≤ z1796 % 16 ∧ z1796 % 16 ≤ 2))) → gz gPP gGG gcn (d + 4) gt165 429 [some (.ref m), some (.int (zi by2)), some (.int (zi mk)), some (.int (zi bg)), some (.int (zi n)), some (.int (zi zq1286)), some (.int (zi zq1339)), some (.int (zi z1393)), some (.int (zi 0)), some (.int (zi ((p0 + 6) + 0))), some (.int (zi 0))] [.int (zi jn1818v0), .ref m] h1798 (fun q _ => gSs rT 1027 ty [1007, 1016, 1017, 1018, 1019, 1020, 1021, 1022, 1023, 1024, 11999, 12999, 13999, 14999, 15999, 16999, 17999, 18999, 19999, 23999, 24999] h q.2.2 ∧ ∃ f1 ip1 w1 hh1 wd1 hg1 bs1 : Int, gfin gt165 q.1 q.2.1 = some none ∧ q.2.2.2.2.2.2 m 7 = .int (zi f1) ∧ (-1) ≤ f1 ∧ f1 ≤ 4000 ∧ q.2.2.2.2.2.2 m 16 = .int (zi ip1) ∧ 0 ≤ ip1 ∧ ip1 ≤ 1 ∧ q.2.2.2.2.2.2 m 18 = .int (zi w1) ∧ 0 ≤ w1 ∧ w1 ≤ 64 ∧ q.2.2.2.2.2.2 m 19 = .int (zi hh1) ∧ 0 ≤ hh1 ∧ hh1 ≤ 64 ∧ q.2.2.2.2.2.2 m 21 = .int (zi wd1) ∧ 0 ≤ wd1 ∧ wd1 ≤ 2 ∧ q.2.2.2.2.2.2 m 22 = .int (zi hg1) ∧ 0 ≤ hg1 ∧ hg1 ≤ 2 ∧ q.2.2.2.2.2.2 m 20 = .int (zi bs1) ∧ 0 ≤ bs1 ∧ bs1 ≤ 3 ∧ (gPi ty ip1 w1 hh1 wd1 hg1 bs1 q.2.2)) := by
                                    intro jn1818v0 jn1818d
                                    refine gy_s 3 (pc' := 433) (L' := [some (.ref m), some (.int (zi by2)), some (.int (zi mk)), some (.int (zi bg)), some (.int (zi n)), some (.int (zi zq1286)), some (.int (zi zq1339)), some (.int (zi z1393)), some (.int (zi 0)), some (.int (zi ((p0 + 6) + 0))), some (.int (zi 0))]) (S' := [.int ((zi ((p0 + 6) + 0)) + (zi 1)), .int (zi jn1818v0), .ref m]) (L2 := [some (.ref m), some (.int (zi by2)), some (.int (zi mk)), some (.int (zi bg)), some (.int (zi n)), some (.int (zi zq1286)), some (.int (zi zq1339)), some (.int (zi z1393)), some (.int (zi 0)), some (.int (zi ((p0 + 6) + 0))), some (.int (zi 0))]) (S2 := [.int (zi (((p0 + 6) + 0) + 1)), .int (zi jn1818v0), .ref m]) rfl (by simp only [zi_add, zi_sub, zi_mul, zi_neg, zi_and1, zi_and7, zi_and15, zi_and31, zi_and255, Int.reduceAdd, Int.reduceMul, Int.reduceSub]) (by simp only [zi_add, zi_sub, zi_mul, zi_neg, zi_and1, zi_and7, zi_and15, zi_and31, zi_and255, Int.reduceAdd, Int.reduceMul, Int.reduceSub]) ?_
                                    refine gz_call rfl (by decide) rfl (by decide) (by decide) (gcal_of rfl rfl rfl (Nat.le_of_ble_eq_true rfl) (gJ.recv (G := gGG) sh1798.1 tm rfl rfl)) (mm_must _ sh1798.1 m tm jn1818v0 (by omega) (((p0 + 6) + 0) + 1) (by omega) fq1740_0 s1811 (by omega)) (fun q1819 _ wq1819 => ?_)
                                    obtain ⟨pq1819, oq1819, hq1819⟩ := q1819
                                    obtain ⟨xq1819, zq1819, fq1819_0, gq1819, aq1819, bq1819, efq1819_0, afq1819_0, bfq1819_0, uq1819_0, uq1819_1⟩ := wq1819
                                    refine ⟨_, gq1819, ?_⟩
                                    show gz gPP gGG gcn _ _ 436 [some (.ref m), some (.int (zi by2)), some (.int (zi mk)), some (.int (zi bg)), some (.int (zi n)), some (.int (zi zq1286)), some (.int (zi zq1339)), some (.int (zi z1393)), some (.int (zi 0)), some (.int (zi ((p0 + 6) + 0))), some (.int (zi 0))] [.int (zi zq1819)] hq1819 _
                                    have sq1819 := gSs.tr sh1798 xq1819 (by decide)
                                    have s1820 := (xq1819.2.2.2.2.2 m 5 (by rw [tm]; decide)).trans s1801
                                    have s1821 := (xq1819.2.2.2.2.2 m 6 (by rw [tm]; decide)).trans s1802
                                    have s1822 := (xq1819.2.2.2.2.2 m 3 (by rw [tm]; decide)).trans s1803
                                    have s1823 := (xq1819.2.2.2.2.2 m 16 (by rw [tm]; decide)).trans s1804
                                    have s1824 := (xq1819.2.2.2.2.2 m 18 (by rw [tm]; decide)).trans s1805
                                    have s1825 := (xq1819.2.2.2.2.2 m 19 (by rw [tm]; decide)).trans s1806
                                    have s1826 := (xq1819.2.2.2.2.2 m 21 (by rw [tm]; decide)).trans s1807
                                    have s1827 := (xq1819.2.2.2.2.2 m 22 (by rw [tm]; decide)).trans s1808
                                    have s1828 := (xq1819.2.2.2.2.2 m 20 (by rw [tm]; decide)).trans s1809
                                    have s1829 := (xq1819.2.2.2.2.2 m 4 (by rw [tm]; decide)).trans s1810
                                    have s1830 := (xq1819.2.2.2.2.2 m 25 (by rw [tm]; decide)).trans s1812
                                    have s1831 := (xq1819.2.2.2.2.2 m 26 (by rw [tm]; decide)).trans s1813
                                    have s1832 := (xq1819.2.2.2.2.2 m 27 (by rw [tm]; decide)).trans s1814
                                    have pr1833 := gEl.fr xq1819.2 (by decide) (fun _ => rfl) pr1799
                                    have pr1834 := gEl.fr xq1819.2 (by decide) (fun _ => rfl) pr1800
                                    have pr1835 := gEl.fr xq1819.2 (by decide) (fun _ => rfl) pr1815
                                    clear s1801 s1802 s1803 s1804 s1805 s1806 s1807 s1808 s1809 s1810 s1811 s1812 s1813 s1814 pr1799 pr1800 pr1815
                                    refine gz_s 2 (pc' := 438) (L' := [some (.ref m), some (.int (zi by2)), some (.int (zi mk)), some (.int (zi bg)), some (.int (zi n)), some (.int (zi zq1286)), some (.int (zi zq1339)), some (.int (zi z1393)), some (.int (zi 0)), some (.int (zi ((p0 + 6) + 0))), some (.int (zi 0))]) (S' := [.ref m]) rfl ?_
                                    refine gs_gtr rfl (by decide) rfl sq1819.1 tm rfl rfl rfl (fun c1836 ec1836 tc1836 => ?_)
                                    refine gz_s 2 (pc' := 444) (L' := [some (.ref m), some (.int (zi by2)), some (.int (zi mk)), some (.int (zi bg)), some (.int (zi n)), some (.int (zi zq1286)), some (.int (zi zq1339)), some (.int (zi z1393)), some (.int (zi 0)), some (.int (zi ((p0 + 6) + 0))), some (.int (zi 0))]) (S' := [.ref m, .int (zi 0), .ref c1836]) rfl ?_
                                    refine gs_gtk rfl (by decide) rfl sq1819.1 tm rfl rfl s1829 ?_
                                    refine gy_s 3 (pc' := 451) (L' := [some (.ref m), some (.int (zi by2)), some (.int (zi mk)), some (.int (zi bg)), some (.int (zi n)), some (.int (zi zq1286)), some (.int (zi zq1339)), some (.int (zi z1393)), some (.int (zi 0)), some (.int (zi ((p0 + 6) + 0))), some (.int (zi 0))]) (S' := [.int ((zi ((p0 + 6) + 0)) + (zi 2)), .ref c49, .int (zi 0), .ref c1836]) (L2 := [some (.ref m), some (.int (zi by2)), some (.int (zi mk)), some (.int (zi bg)), some (.int (zi n)), some (.int (zi zq1286)), some (.int (zi zq1339)), some (.int (zi z1393)), some (.int (zi 0)), some (.int (zi ((p0 + 6) + 0))), some (.int (zi 0))]) (S2 := [.int (zi (((p0 + 6) + 0) + 2)), .ref c49, .int (zi 0), .ref c1836]) rfl (by simp only [zi_add, zi_sub, zi_mul, zi_neg, zi_and1, zi_and7, zi_and15, zi_and31, zi_and255, Int.reduceAdd, Int.reduceMul, Int.reduceSub]) (by simp only [zi_add, zi_sub, zi_mul, zi_neg, zi_and1, zi_and7, zi_and15, zi_and31, zi_and255, Int.reduceAdd, Int.reduceMul, Int.reduceSub]) ?_
                                    have hl1837 : 2000 ≤ hq1819.2.2.2.1 c49 ∧ hq1819.2.2.2.1 c49 ≤ 2000 := gJ.rowl (G := gGG) sq1819.1 tc49 rfl
                                    refine gs_ald rfl (by decide) sq1819.1 tc49 rfl rfl rfl (by decide) (fun _ => rfl) (by omega) (by omega) (fun z1838 ez1838 az1838 bz1838 => ?_)
                                    have hl1839 : 3 ≤ hq1819.2.2.2.1 c1836 ∧ hq1819.2.2.2.1 c1836 ≤ 3 := gJ.rowl (G := gGG) sq1819.1 tc1836 rfl
                                    refine gs_ast rfl (by decide) sq1819 tc1836 rfl rfl rfl (by decide) (fun _ => rfl) (by omega) (by omega) (fun _ => (by decide : (14999 : Nat) ∈ ([1007, 1016, 1017, 1018, 1019, 1020, 1021, 1022, 1023, 1024, 11999, 12999, 13999, 14999, 15999, 16999, 17999, 18999, 19999, 23999, 24999] : List Nat))) (by omega) (by omega) (fun h1840 sh1840 eh1840 fh1840 => ?_)
                                    have pr1841 := gEl.pt fh1840 tc1836 (by decide) pr1833
                                    have pr1842 := gEl.pt fh1840 tc1836 (by decide) pr1834
                                    have pr1843 := gEl.pt fh1840 tc1836 (by decide) pr1835
                                    have s1844 := (fh1840 m 5 (fun q => absurd (((tm).symm.trans (congrArg ty q.1)).trans tc1836) (by decide))).trans s1820
                                    have s1845 := (fh1840 m 6 (fun q => absurd (((tm).symm.trans (congrArg ty q.1)).trans tc1836) (by decide))).trans s1821
                                    have s1846 := (fh1840 m 3 (fun q => absurd (((tm).symm.trans (congrArg ty q.1)).trans tc1836) (by decide))).trans s1822
                                    have s1847 := (fh1840 m 16 (fun q => absurd (((tm).symm.trans (congrArg ty q.1)).trans tc1836) (by decide))).trans s1823
                                    have s1848 := (fh1840 m 18 (fun q => absurd (((tm).symm.trans (congrArg ty q.1)).trans tc1836) (by decide))).trans s1824
                                    have s1849 := (fh1840 m 19 (fun q => absurd (((tm).symm.trans (congrArg ty q.1)).trans tc1836) (by decide))).trans s1825
                                    have s1850 := (fh1840 m 21 (fun q => absurd (((tm).symm.trans (congrArg ty q.1)).trans tc1836) (by decide))).trans s1826
                                    have s1851 := (fh1840 m 22 (fun q => absurd (((tm).symm.trans (congrArg ty q.1)).trans tc1836) (by decide))).trans s1827
                                    have s1852 := (fh1840 m 20 (fun q => absurd (((tm).symm.trans (congrArg ty q.1)).trans tc1836) (by decide))).trans s1828
                                    have s1853 := (fh1840 m 4 (fun q => absurd (((tm).symm.trans (congrArg ty q.1)).trans tc1836) (by decide))).trans s1829
                                    have s1854 := (fh1840 m 25 (fun q => absurd (((tm).symm.trans (congrArg ty q.1)).trans tc1836) (by decide))).trans s1830
                                    have s1855 := (fh1840 m 26 (fun q => absurd (((tm).symm.trans (congrArg ty q.1)).trans tc1836) (by decide))).trans s1831
                                    have s1856 := (fh1840 m 27 (fun q => absurd (((tm).symm.trans (congrArg ty q.1)).trans tc1836) (by decide))).trans s1832
                                    have s1857 := (fh1840 m 7 (fun q => absurd (((tm).symm.trans (congrArg ty q.1)).trans tc1836) (by decide))).trans efq1819_0
                                    have s1858 := (fh1840 m 28 (fun q => absurd (((tm).symm.trans (congrArg ty q.1)).trans tc1836) (by decide))).trans ec1836
                                    clear s1820 s1821 s1822 s1823 s1824 s1825 s1826 s1827 s1828 s1829 s1830 s1831 s1832 pr1833 pr1834 pr1835
                                    have pr1859 := gEl.set (i := 0) (z := z1838) uq tc1836 (by decide) eh1840 (by omega) (by omega)
                                    refine gz_s 2 (pc' := 455) (L' := [some (.ref m), some (.int (zi by2)), some (.int (zi mk)), some (.int (zi bg)), some (.int (zi n)), some (.int (zi zq1286)), some (.int (zi zq1339)), some (.int (zi z1393)), some (.int (zi 0)), some (.int (zi ((p0 + 6) + 0))), some (.int (zi 0))]) (S' := [.ref m, .ref m]) rfl ?_
                                    refine gs_gtk rfl (by decide) rfl sh1840.1 tm rfl rfl s1858 ?_
                                    refine gz_s 1 (pc' := 460) (L' := [some (.ref m), some (.int (zi by2)), some (.int (zi mk)), some (.int (zi bg)), some (.int (zi n)), some (.int (zi zq1286)), some (.int (zi zq1339)), some (.int (zi z1393)), some (.int (zi 0)), some (.int (zi ((p0 + 6) + 0))), some (.int (zi 0))]) (S' := [.int (zi 0), .ref c1836, .ref m]) rfl ?_
                                    have hl1860 : 3 ≤ h1840.2.2.2.1 c1836 ∧ h1840.2.2.2.1 c1836 ≤ 3 := gJ.rowl (G := gGG) sh1840.1 tc1836 rfl
                                    refine gs_alx rfl (by decide) sh1840.1 tc1836 rfl rfl rfl (by decide) (fun _ => rfl) (by omega) (by omega) (by decide) pr1859 (fun ex1861 ax1861 bx1861 => ?_)
                                    refine gz_s 1 (pc' := 462) (L' := [some (.ref m), some (.int (zi by2)), some (.int (zi mk)), some (.int (zi bg)), some (.int (zi n)), some (.int (zi zq1286)), some (.int (zi zq1339)), some (.int (zi z1393)), some (.int (zi 0)), some (.int (zi ((p0 + 6) + 0))), some (.int (zi 0))]) (S' := [.int (zi 4), .int (zi z1838), .ref m]) rfl ?_
                                    have jn1862 : ∀ (jn1862v0 : Int), ((0 ≤ jn1862v0) ∧ (jn1862v0 ≤ 1) ∧ (jn1862v0 = 1 → z1838 ≤ 3)) → gz gPP gGG gcn (d + 4) gt165 470 [some (.ref m), some (.int (zi by2)), some (.int (zi mk)), some (.int (zi bg)), some (.int (zi n)), some (.int (zi zq1286)), some (.int (zi zq1339)), some (.int (zi z1393)), some (.int (zi 0)), some (.int (zi ((p0 + 6) + 0))), some (.int (zi 0))] [.int (zi jn1862v0), .ref m] h1840 (fun q _ => gSs rT 1027 ty [1007, 1016, 1017, 1018, 1019, 1020, 1021, 1022, 1023, 1024, 11999, 12999, 13999, 14999, 15999, 16999, 17999, 18999, 19999, 23999, 24999] h q.2.2 ∧ ∃ f1 ip1 w1 hh1 wd1 hg1 bs1 : Int, gfin gt165 q.1 q.2.1 = some none ∧ q.2.2.2.2.2.2 m 7 = .int (zi f1) ∧ (-1) ≤ f1 ∧ f1 ≤ 4000 ∧ q.2.2.2.2.2.2 m 16 = .int (zi ip1) ∧ 0 ≤ ip1 ∧ ip1 ≤ 1 ∧ q.2.2.2.2.2.2 m 18 = .int (zi w1) ∧ 0 ≤ w1 ∧ w1 ≤ 64 ∧ q.2.2.2.2.2.2 m 19 = .int (zi hh1) ∧ 0 ≤ hh1 ∧ hh1 ≤ 64 ∧ q.2.2.2.2.2.2 m 21 = .int (zi wd1) ∧ 0 ≤ wd1 ∧ wd1 ≤ 2 ∧ q.2.2.2.2.2.2 m 22 = .int (zi hg1) ∧ 0 ≤ hg1 ∧ hg1 ≤ 2 ∧ q.2.2.2.2.2.2 m 20 = .int (zi bs1) ∧ 0 ≤ bs1 ∧ bs1 ≤ 3 ∧ (gPi ty ip1 w1 hh1 wd1 hg1 bs1 q.2.2)) := by
                                      intro jn1862v0 jn1862d
                                      refine gy_s 3 (pc' := 474) (L' := [some (.ref m), some (.int (zi by2)), some (.int (zi mk)), some (.int (zi bg)), some (.int (zi n)), some (.int (zi zq1286)), some (.int (zi zq1339)), some (.int (zi z1393)), some (.int (zi 0)), some (.int (zi ((p0 + 6) + 0))), some (.int (zi 0))]) (S' := [.int ((zi ((p0 + 6) + 0)) + (zi 2)), .int (zi jn1862v0), .ref m]) (L2 := [some (.ref m), some (.int (zi by2)), some (.int (zi mk)), some (.int (zi bg)), some (.int (zi n)), some (.int (zi zq1286)), some (.int (zi zq1339)), some (.int (zi z1393)), some (.int (zi 0)), some (.int (zi ((p0 + 6) + 0))), some (.int (zi 0))]) (S2 := [.int (zi (((p0 + 6) + 0) + 2)), .int (zi jn1862v0), .ref m]) rfl (by simp only [zi_add, zi_sub, zi_mul, zi_neg, zi_and1, zi_and7, zi_and15, zi_and31, zi_and255, Int.reduceAdd, Int.reduceMul, Int.reduceSub]) (by simp only [zi_add, zi_sub, zi_mul, zi_neg, zi_and1, zi_and7, zi_and15, zi_and31, zi_and255, Int.reduceAdd, Int.reduceMul, Int.reduceSub]) ?_
                                      refine gz_call rfl (by decide) rfl (by decide) (by decide) (gcal_of rfl rfl rfl (Nat.le_of_ble_eq_true rfl) (gJ.recv (G := gGG) sh1840.1 tm rfl rfl)) (mm_must _ sh1840.1 m tm jn1862v0 (by omega) (((p0 + 6) + 0) + 2) (by omega) fq1819_0 s1857 (by omega)) (fun q1863 _ wq1863 => ?_)
                                      obtain ⟨pq1863, oq1863, hq1863⟩ := q1863
                                      obtain ⟨xq1863, zq1863, fq1863_0, gq1863, aq1863, bq1863, efq1863_0, afq1863_0, bfq1863_0, uq1863_0, uq1863_1⟩ := wq1863
                                      refine ⟨_, gq1863, ?_⟩
                                      show gz gPP gGG gcn _ _ 477 [some (.ref m), some (.int (zi by2)), some (.int (zi mk)), some (.int (zi bg)), some (.int (zi n)), some (.int (zi zq1286)), some (.int (zi zq1339)), some (.int (zi z1393)), some (.int (zi 0)), some (.int (zi ((p0 + 6) + 0))), some (.int (zi 0))] [.int (zi zq1863)] hq1863 _
                                      have sq1863 := gSs.tr sh1840 xq1863 (by decide)
                                      have s1864 := (xq1863.2.2.2.2.2 m 5 (by rw [tm]; decide)).trans s1844
                                      have s1865 := (xq1863.2.2.2.2.2 m 6 (by rw [tm]; decide)).trans s1845
                                      have s1866 := (xq1863.2.2.2.2.2 m 3 (by rw [tm]; decide)).trans s1846
                                      have s1867 := (xq1863.2.2.2.2.2 m 16 (by rw [tm]; decide)).trans s1847
                                      have s1868 := (xq1863.2.2.2.2.2 m 18 (by rw [tm]; decide)).trans s1848
                                      have s1869 := (xq1863.2.2.2.2.2 m 19 (by rw [tm]; decide)).trans s1849
                                      have s1870 := (xq1863.2.2.2.2.2 m 21 (by rw [tm]; decide)).trans s1850
                                      have s1871 := (xq1863.2.2.2.2.2 m 22 (by rw [tm]; decide)).trans s1851
                                      have s1872 := (xq1863.2.2.2.2.2 m 20 (by rw [tm]; decide)).trans s1852
                                      have s1873 := (xq1863.2.2.2.2.2 m 4 (by rw [tm]; decide)).trans s1853
                                      have s1874 := (xq1863.2.2.2.2.2 m 25 (by rw [tm]; decide)).trans s1854
                                      have s1875 := (xq1863.2.2.2.2.2 m 26 (by rw [tm]; decide)).trans s1855
                                      have s1876 := (xq1863.2.2.2.2.2 m 27 (by rw [tm]; decide)).trans s1856
                                      have s1877 := (xq1863.2.2.2.2.2 m 28 (by rw [tm]; decide)).trans s1858
                                      have pr1878 := gEl.fr xq1863.2 (by decide) (fun _ => rfl) pr1841
                                      have pr1879 := gEl.fr xq1863.2 (by decide) (fun _ => rfl) pr1842
                                      have pr1880 := gEl.fr xq1863.2 (by decide) (fun _ => rfl) pr1843
                                      have pr1881 := gEl.fr xq1863.2 (by decide) (fun _ => rfl) pr1859
                                      clear s1844 s1845 s1846 s1847 s1848 s1849 s1850 s1851 s1852 s1853 s1854 s1855 s1856 s1857 s1858 pr1841 pr1842 pr1843 pr1859
                                      refine gy_s 5 (pc' := 257) (L' := [some (.ref m), some (.int (zi by2)), some (.int (zi mk)), some (.int (zi bg)), some (.int (zi n)), some (.int (zi zq1286)), some (.int (zi zq1339)), some (.int (zi z1393)), some (.int ((zi 0) + zi 1)), some (.int (zi ((p0 + 6) + 0))), some (.int (zi 0))]) (S' := [.int (zi z1393), .int ((zi 0) + zi 1)]) (L2 := [some (.ref m), some (.int (zi by2)), some (.int (zi mk)), some (.int (zi bg)), some (.int (zi n)), some (.int (zi zq1286)), some (.int (zi zq1339)), some (.int (zi z1393)), some (.int (zi 1)), some (.int (zi ((p0 + 6) + 0))), some (.int (zi 0))]) (S2 := [.int (zi z1393), .int (zi 1)]) rfl (by simp only [zi_add, zi_sub, zi_mul, zi_neg, zi_and1, zi_and7, zi_and15, zi_and31, zi_and255, Int.reduceAdd, Int.reduceMul, Int.reduceSub]) (by simp only [zi_add, zi_sub, zi_mul, zi_neg, zi_and1, zi_and7, zi_and15, zi_and31, zi_and255, Int.reduceAdd, Int.reduceMul, Int.reduceSub]) ?_
                                      refine gy_icF rfl (by decide) (by decide) (by omega) (by omega) (by first | (simp [zc]; done) | (simp only [zc]; omega)) ?_
                                      refine gz_s 1 (pc' := 261) (L' := [some (.ref m), some (.int (zi by2)), some (.int (zi mk)), some (.int (zi bg)), some (.int (zi n)), some (.int (zi zq1286)), some (.int (zi zq1339)), some (.int (zi z1393)), some (.int (zi 1)), some (.int (zi ((p0 + 6) + 0))), some (.int (zi 0))]) (S' := [.ref m]) rfl ?_
                                      refine gs_gtk rfl (by decide) rfl sq1863.1 tm rfl rfl efq1863_0 ?_
                                      refine gz_s 1 (pc' := 265) (L' := [some (.ref m), some (.int (zi by2)), some (.int (zi mk)), some (.int (zi bg)), some (.int (zi n)), some (.int (zi zq1286)), some (.int (zi zq1339)), some (.int (zi z1393)), some (.int (zi 1)), some (.int (zi ((p0 + 6) + 0))), some (.int (zi 0))]) (S' := [.int (zi (-1)), .int (zi fq1863_0)]) rfl ?_
                                      by_cases hc1882 : ¬ (fq1863_0 : Int) = (-1)
                                      · refine gy_icT (pc' := 484) rfl (by decide) (by decide) (by omega) (by omega) hc1882 ?_
                                        refine gz_s 1 (pc' := 485) (L' := [some (.ref m), some (.int (zi by2)), some (.int (zi mk)), some (.int (zi bg)), some (.int (zi n)), some (.int (zi zq1286)), some (.int (zi zq1339)), some (.int (zi z1393)), some (.int (zi 1)), some (.int (zi ((p0 + 6) + 0))), some (.int (zi 0))]) (S' := [.ref m]) rfl ?_
                                        refine gs_gtk rfl (by decide) rfl sq1863.1 tm rfl rfl efq1863_0 ?_
                                        refine gz_s 1 (pc' := 489) (L' := [some (.ref m), some (.int (zi by2)), some (.int (zi mk)), some (.int (zi bg)), some (.int (zi n)), some (.int (zi zq1286)), some (.int (zi zq1339)), some (.int (zi z1393)), some (.int (zi 1)), some (.int (zi ((p0 + 6) + 0))), some (.int (zi 0))]) (S' := [.int (zi (-1)), .int (zi fq1863_0)]) rfl ?_
                                        refine gy_icF rfl (by decide) (by decide) (by omega) (by omega) (by first | (simp [zc]; done) | (simp only [zc]; omega)) ?_
                                        have hpi1883 : gPi ty ip w hh wd hg bs hq1863 := fun e => absurd e (by omega)
                                        exact gz_end (I := .return_) (len := 1) rfl (Or.inl rfl) ⟨sq1863, fq1863_0, ip, w, hh, wd, hg, bs, rfl, efq1863_0, (by omega), (by omega), s1867, (by omega), (by omega), s1868, (by omega), (by omega), s1869, (by omega), (by omega), s1870, (by omega), (by omega), s1871, (by omega), (by omega), s1872, (by omega), (by omega), hpi1883⟩
                                      · refine gy_icF rfl (by decide) (by decide) (by omega) (by omega) hc1882 ?_
                                        refine gz_s 1 (pc' := 269) (L' := [some (.ref m), some (.int (zi by2)), some (.int (zi mk)), some (.int (zi bg)), some (.int (zi n)), some (.int (zi zq1286)), some (.int (zi zq1339)), some (.int (zi z1393)), some (.int (zi 1)), some (.int (zi ((p0 + 6) + 0))), some (.int (zi 0))]) (S' := [.ref m]) rfl ?_
                                        refine gs_gtk rfl (by decide) rfl sq1863.1 tm rfl rfl s1864 ?_
                                        refine gy_s 8 (pc' := 283) (L' := [some (.ref m), some (.int (zi by2)), some (.int (zi mk)), some (.int (zi bg)), some (.int (zi n)), some (.int (zi zq1286)), some (.int (zi zq1339)), some (.int (zi z1393)), some (.int (zi 1)), some (.int (((zi p0) + (zi 6)) + ((zi 3) * (zi 1)))), some (.int (zi 0))]) (S' := [.ref m]) (L2 := [some (.ref m), some (.int (zi by2)), some (.int (zi mk)), some (.int (zi bg)), some (.int (zi n)), some (.int (zi zq1286)), some (.int (zi zq1339)), some (.int (zi z1393)), some (.int (zi 1)), some (.int (zi ((p0 + 6) + 3))), some (.int (zi 0))]) (S2 := [.ref m]) rfl (by simp only [zi_add, zi_sub, zi_mul, zi_neg, zi_and1, zi_and7, zi_and15, zi_and31, zi_and255, Int.reduceAdd, Int.reduceMul, Int.reduceSub]) (by simp only [zi_add, zi_sub, zi_mul, zi_neg, zi_and1, zi_and7, zi_and15, zi_and31, zi_and255, Int.reduceAdd, Int.reduceMul, Int.reduceSub]) ?_
                                        refine gs_gtk rfl (by decide) rfl sq1863.1 tm rfl rfl s1874 ?_
                                        refine gz_s 2 (pc' := 289) (L' := [some (.ref m), some (.int (zi by2)), some (.int (zi mk)), some (.int (zi bg)), some (.int (zi n)), some (.int (zi zq1286)), some (.int (zi zq1339)), some (.int (zi z1393)), some (.int (zi 1)), some (.int (zi ((p0 + 6) + 3))), some (.int (zi 0))]) (S' := [.ref m, .int (zi 1), .ref c1755]) rfl ?_
                                        refine gs_gtk rfl (by decide) rfl sq1863.1 tm rfl rfl s1873 ?_
                                        refine gz_s 1 (pc' := 294) (L' := [some (.ref m), some (.int (zi by2)), some (.int (zi mk)), some (.int (zi bg)), some (.int (zi n)), some (.int (zi zq1286)), some (.int (zi zq1339)), some (.int (zi z1393)), some (.int (zi 1)), some (.int (zi ((p0 + 6) + 3))), some (.int (zi 0))]) (S' := [.int (zi ((p0 + 6) + 3)), .ref c49, .int (zi 1), .ref c1755]) rfl ?_
                                        have hl1884 : 2000 ≤ hq1863.2.2.2.1 c49 ∧ hq1863.2.2.2.1 c49 ≤ 2000 := gJ.rowl (G := gGG) sq1863.1 tc49 rfl
                                        refine gs_ald rfl (by decide) sq1863.1 tc49 rfl rfl rfl (by decide) (fun _ => rfl) (by omega) (by omega) (fun z1885 ez1885 az1885 bz1885 => ?_)
                                        have hl1886 : 3 ≤ hq1863.2.2.2.1 c1755 ∧ hq1863.2.2.2.1 c1755 ≤ 3 := gJ.rowl (G := gGG) sq1863.1 tc1755 rfl
                                        refine gs_ast rfl (by decide) sq1863 tc1755 rfl rfl rfl (by decide) (fun _ => rfl) (by omega) (by omega) (fun _ => (by decide : (11999 : Nat) ∈ ([1007, 1016, 1017, 1018, 1019, 1020, 1021, 1022, 1023, 1024, 11999, 12999, 13999, 14999, 15999, 16999, 17999, 18999, 19999, 23999, 24999] : List Nat))) (by omega) (by omega) (fun h1887 sh1887 eh1887 fh1887 => ?_)
                                        have pr1888 := gEl.ot fh1887 pr1878 (i := 1) (by omega)
                                        have pr1889 := gEl.pt fh1887 tc1755 (by decide) pr1879
                                        have pr1890 := gEl.pt fh1887 tc1755 (by decide) pr1880
                                        have pr1891 := gEl.pt fh1887 tc1755 (by decide) pr1881
                                        have s1892 := (fh1887 m 5 (fun q => absurd (((tm).symm.trans (congrArg ty q.1)).trans tc1755) (by decide))).trans s1864
                                        have s1893 := (fh1887 m 6 (fun q => absurd (((tm).symm.trans (congrArg ty q.1)).trans tc1755) (by decide))).trans s1865
                                        have s1894 := (fh1887 m 3 (fun q => absurd (((tm).symm.trans (congrArg ty q.1)).trans tc1755) (by decide))).trans s1866
                                        have s1895 := (fh1887 m 16 (fun q => absurd (((tm).symm.trans (congrArg ty q.1)).trans tc1755) (by decide))).trans s1867
                                        have s1896 := (fh1887 m 18 (fun q => absurd (((tm).symm.trans (congrArg ty q.1)).trans tc1755) (by decide))).trans s1868
                                        have s1897 := (fh1887 m 19 (fun q => absurd (((tm).symm.trans (congrArg ty q.1)).trans tc1755) (by decide))).trans s1869
                                        have s1898 := (fh1887 m 21 (fun q => absurd (((tm).symm.trans (congrArg ty q.1)).trans tc1755) (by decide))).trans s1870
                                        have s1899 := (fh1887 m 22 (fun q => absurd (((tm).symm.trans (congrArg ty q.1)).trans tc1755) (by decide))).trans s1871
                                        have s1900 := (fh1887 m 20 (fun q => absurd (((tm).symm.trans (congrArg ty q.1)).trans tc1755) (by decide))).trans s1872
                                        have s1901 := (fh1887 m 4 (fun q => absurd (((tm).symm.trans (congrArg ty q.1)).trans tc1755) (by decide))).trans s1873
                                        have s1902 := (fh1887 m 25 (fun q => absurd (((tm).symm.trans (congrArg ty q.1)).trans tc1755) (by decide))).trans s1874
                                        have s1903 := (fh1887 m 26 (fun q => absurd (((tm).symm.trans (congrArg ty q.1)).trans tc1755) (by decide))).trans s1875
                                        have s1904 := (fh1887 m 27 (fun q => absurd (((tm).symm.trans (congrArg ty q.1)).trans tc1755) (by decide))).trans s1876
                                        have s1905 := (fh1887 m 28 (fun q => absurd (((tm).symm.trans (congrArg ty q.1)).trans tc1755) (by decide))).trans s1877
                                        have s1906 := (fh1887 m 7 (fun q => absurd (((tm).symm.trans (congrArg ty q.1)).trans tc1755) (by decide))).trans efq1863_0
                                        clear s1864 s1865 s1866 s1867 s1868 s1869 s1870 s1871 s1872 s1873 s1874 s1875 s1876 s1877 pr1878 pr1879 pr1880 pr1881
                                        have pr1907 := gEl.set (i := 1) (z := z1885) uq tc1755 (by decide) eh1887 (by omega) (by omega)
                                        refine gz_s 4 (pc' := 303) (L' := [some (.ref m), some (.int (zi by2)), some (.int (zi mk)), some (.int (zi bg)), some (.int (zi n)), some (.int (zi zq1286)), some (.int (zi zq1339)), some (.int (zi z1393)), some (.int (zi 1)), some (.int (zi ((p0 + 6) + 3))), some (.int (zi 0))]) (S' := [.int (zi 1), .int (zi 0)]) rfl ?_
                                        refine gy_icF rfl (by decide) (by decide) (by omega) (by omega) (by first | (simp [zc]; done) | (simp only [zc]; omega)) ?_
                                        refine gz_s 2 (pc' := 308) (L' := [some (.ref m), some (.int (zi by2)), some (.int (zi mk)), some (.int (zi bg)), some (.int (zi n)), some (.int (zi zq1286)), some (.int (zi zq1339)), some (.int (zi z1393)), some (.int (zi 1)), some (.int (zi ((p0 + 6) + 3))), some (.int (zi 0))]) (S' := [.ref m, .ref m]) rfl ?_
                                        refine gs_gtk rfl (by decide) rfl sh1887.1 tm rfl rfl s1902 ?_
                                        refine gz_s 1 (pc' := 313) (L' := [some (.ref m), some (.int (zi by2)), some (.int (zi mk)), some (.int (zi bg)), some (.int (zi n)), some (.int (zi zq1286)), some (.int (zi zq1339)), some (.int (zi z1393)), some (.int (zi 1)), some (.int (zi ((p0 + 6) + 3))), some (.int (zi 0))]) (S' := [.int (zi 0), .ref c1755, .ref m]) rfl ?_
                                        have hl1908 : 3 ≤ h1887.2.2.2.1 c1755 ∧ h1887.2.2.2.1 c1755 ≤ 3 := gJ.rowl (G := gGG) sh1887.1 tc1755 rfl
                                        refine gs_alx rfl (by decide) sh1887.1 tc1755 rfl rfl rfl (by decide) (fun _ => rfl) (by omega) (by omega) (by decide) pr1888 (fun ex1909 ax1909 bx1909 => ?_)
                                        refine gz_s 1 (pc' := 315) (L' := [some (.ref m), some (.int (zi by2)), some (.int (zi mk)), some (.int (zi bg)), some (.int (zi n)), some (.int (zi zq1286)), some (.int (zi zq1339)), some (.int (zi z1393)), some (.int (zi 1)), some (.int (zi ((p0 + 6) + 3))), some (.int (zi 0))]) (S' := [.ref m, .int (zi z1757), .ref m]) rfl ?_
                                        refine gs_gtk rfl (by decide) rfl sh1887.1 tm rfl rfl s1902 ?_
                                        refine gz_s 1 (pc' := 320) (L' := [some (.ref m), some (.int (zi by2)), some (.int (zi mk)), some (.int (zi bg)), some (.int (zi n)), some (.int (zi zq1286)), some (.int (zi zq1339)), some (.int (zi z1393)), some (.int (zi 1)), some (.int (zi ((p0 + 6) + 3))), some (.int (zi 0))]) (S' := [.int (zi 1), .ref c1755, .int (zi z1757), .ref m]) rfl ?_
                                        have hl1910 : 3 ≤ h1887.2.2.2.1 c1755 ∧ h1887.2.2.2.1 c1755 ≤ 3 := gJ.rowl (G := gGG) sh1887.1 tc1755 rfl
                                        refine gs_alx rfl (by decide) sh1887.1 tc1755 rfl rfl rfl (by decide) (fun _ => rfl) (by omega) (by omega) (by decide) pr1907 (fun ex1911 ax1911 bx1911 => ?_)
                                        have jn1912 : ∀ (jn1912v0 : Int), ((0 ≤ jn1912v0) ∧ (jn1912v0 ≤ 1)) → gz gPP gGG gcn (d + 4) gt165 329 [some (.ref m), some (.int (zi by2)), some (.int (zi mk)), some (.int (zi bg)), some (.int (zi n)), some (.int (zi zq1286)), some (.int (zi zq1339)), some (.int (zi z1393)), some (.int (zi 1)), some (.int (zi ((p0 + 6) + 3))), some (.int (zi 0))] [.int (zi jn1912v0), .ref m] h1887 (fun q _ => gSs rT 1027 ty [1007, 1016, 1017, 1018, 1019, 1020, 1021, 1022, 1023, 1024, 11999, 12999, 13999, 14999, 15999, 16999, 17999, 18999, 19999, 23999, 24999] h q.2.2 ∧ ∃ f1 ip1 w1 hh1 wd1 hg1 bs1 : Int, gfin gt165 q.1 q.2.1 = some none ∧ q.2.2.2.2.2.2 m 7 = .int (zi f1) ∧ (-1) ≤ f1 ∧ f1 ≤ 4000 ∧ q.2.2.2.2.2.2 m 16 = .int (zi ip1) ∧ 0 ≤ ip1 ∧ ip1 ≤ 1 ∧ q.2.2.2.2.2.2 m 18 = .int (zi w1) ∧ 0 ≤ w1 ∧ w1 ≤ 64 ∧ q.2.2.2.2.2.2 m 19 = .int (zi hh1) ∧ 0 ≤ hh1 ∧ hh1 ≤ 64 ∧ q.2.2.2.2.2.2 m 21 = .int (zi wd1) ∧ 0 ≤ wd1 ∧ wd1 ≤ 2 ∧ q.2.2.2.2.2.2 m 22 = .int (zi hg1) ∧ 0 ≤ hg1 ∧ hg1 ≤ 2 ∧ q.2.2.2.2.2.2 m 20 = .int (zi bs1) ∧ 0 ≤ bs1 ∧ bs1 ≤ 3 ∧ (gPi ty ip1 w1 hh1 wd1 hg1 bs1 q.2.2)) := by
                                          intro jn1912v0 jn1912d
                                          refine gz_s 1 (pc' := 331) (L' := [some (.ref m), some (.int (zi by2)), some (.int (zi mk)), some (.int (zi bg)), some (.int (zi n)), some (.int (zi zq1286)), some (.int (zi zq1339)), some (.int (zi z1393)), some (.int (zi 1)), some (.int (zi ((p0 + 6) + 3))), some (.int (zi 0))]) (S' := [.int (zi ((p0 + 6) + 3)), .int (zi jn1912v0), .ref m]) rfl ?_
                                          refine gz_call rfl (by decide) rfl (by decide) (by decide) (gcal_of rfl rfl rfl (Nat.le_of_ble_eq_true rfl) (gJ.recv (G := gGG) sh1887.1 tm rfl rfl)) (mm_must _ sh1887.1 m tm jn1912v0 (by omega) ((p0 + 6) + 3) (by omega) fq1863_0 s1906 (by omega)) (fun q1913 _ wq1913 => ?_)
                                          obtain ⟨pq1913, oq1913, hq1913⟩ := q1913
                                          obtain ⟨xq1913, zq1913, fq1913_0, gq1913, aq1913, bq1913, efq1913_0, afq1913_0, bfq1913_0, uq1913_0, uq1913_1⟩ := wq1913
                                          refine ⟨_, gq1913, ?_⟩
                                          show gz gPP gGG gcn _ _ 334 [some (.ref m), some (.int (zi by2)), some (.int (zi mk)), some (.int (zi bg)), some (.int (zi n)), some (.int (zi zq1286)), some (.int (zi zq1339)), some (.int (zi z1393)), some (.int (zi 1)), some (.int (zi ((p0 + 6) + 3))), some (.int (zi 0))] [.int (zi zq1913)] hq1913 _
                                          have sq1913 := gSs.tr sh1887 xq1913 (by decide)
                                          have s1914 := (xq1913.2.2.2.2.2 m 5 (by rw [tm]; decide)).trans s1892
                                          have s1915 := (xq1913.2.2.2.2.2 m 6 (by rw [tm]; decide)).trans s1893
                                          have s1916 := (xq1913.2.2.2.2.2 m 3 (by rw [tm]; decide)).trans s1894
                                          have s1917 := (xq1913.2.2.2.2.2 m 16 (by rw [tm]; decide)).trans s1895
                                          have s1918 := (xq1913.2.2.2.2.2 m 18 (by rw [tm]; decide)).trans s1896
                                          have s1919 := (xq1913.2.2.2.2.2 m 19 (by rw [tm]; decide)).trans s1897
                                          have s1920 := (xq1913.2.2.2.2.2 m 21 (by rw [tm]; decide)).trans s1898
                                          have s1921 := (xq1913.2.2.2.2.2 m 22 (by rw [tm]; decide)).trans s1899
                                          have s1922 := (xq1913.2.2.2.2.2 m 20 (by rw [tm]; decide)).trans s1900
                                          have s1923 := (xq1913.2.2.2.2.2 m 4 (by rw [tm]; decide)).trans s1901
                                          have s1924 := (xq1913.2.2.2.2.2 m 25 (by rw [tm]; decide)).trans s1902
                                          have s1925 := (xq1913.2.2.2.2.2 m 26 (by rw [tm]; decide)).trans s1903
                                          have s1926 := (xq1913.2.2.2.2.2 m 27 (by rw [tm]; decide)).trans s1904
                                          have s1927 := (xq1913.2.2.2.2.2 m 28 (by rw [tm]; decide)).trans s1905
                                          have pr1928 := gEl.fr xq1913.2 (by decide) (fun _ => rfl) pr1888
                                          have pr1929 := gEl.fr xq1913.2 (by decide) (fun _ => rfl) pr1889
                                          have pr1930 := gEl.fr xq1913.2 (by decide) (fun _ => rfl) pr1890
                                          have pr1931 := gEl.fr xq1913.2 (by decide) (fun _ => rfl) pr1891
                                          have pr1932 := gEl.fr xq1913.2 (by decide) (fun _ => rfl) pr1907
                                          clear s1892 s1893 s1894 s1895 s1896 s1897 s1898 s1899 s1900 s1901 s1902 s1903 s1904 s1905 s1906 pr1888 pr1889 pr1890 pr1891 pr1907
                                          refine gy_s 5 (pc' := 303) (L' := [some (.ref m), some (.int (zi by2)), some (.int (zi mk)), some (.int (zi bg)), some (.int (zi n)), some (.int (zi zq1286)), some (.int (zi zq1339)), some (.int (zi z1393)), some (.int (zi 1)), some (.int (zi ((p0 + 6) + 3))), some (.int ((zi 0) + zi 1))]) (S' := [.int (zi 1), .int ((zi 0) + zi 1)]) (L2 := [some (.ref m), some (.int (zi by2)), some (.int (zi mk)), some (.int (zi bg)), some (.int (zi n)), some (.int (zi zq1286)), some (.int (zi zq1339)), some (.int (zi z1393)), some (.int (zi 1)), some (.int (zi ((p0 + 6) + 3))), some (.int (zi 1))]) (S2 := [.int (zi 1), .int (zi 1)]) rfl (by simp only [zi_add, zi_sub, zi_mul, zi_neg, zi_and1, zi_and7, zi_and15, zi_and31, zi_and255, Int.reduceAdd, Int.reduceMul, Int.reduceSub]) (by simp only [zi_add, zi_sub, zi_mul, zi_neg, zi_and1, zi_and7, zi_and15, zi_and31, zi_and255, Int.reduceAdd, Int.reduceMul, Int.reduceSub]) ?_
                                          refine gy_icT (pc' := 341) rfl (by decide) (by decide) (by omega) (by omega) (by first | (simp [zc]; done) | (simp only [zc]; omega)) ?_
                                          refine gz_s 1 (pc' := 342) (L' := [some (.ref m), some (.int (zi by2)), some (.int (zi mk)), some (.int (zi bg)), some (.int (zi n)), some (.int (zi zq1286)), some (.int (zi zq1339)), some (.int (zi z1393)), some (.int (zi 1)), some (.int (zi ((p0 + 6) + 3))), some (.int (zi 1))]) (S' := [.ref m]) rfl ?_
                                          refine gs_gtk rfl (by decide) rfl sq1913.1 tm rfl rfl s1925 ?_
                                          refine gz_s 2 (pc' := 348) (L' := [some (.ref m), some (.int (zi by2)), some (.int (zi mk)), some (.int (zi bg)), some (.int (zi n)), some (.int (zi zq1286)), some (.int (zi zq1339)), some (.int (zi z1393)), some (.int (zi 1)), some (.int (zi ((p0 + 6) + 3))), some (.int (zi 1))]) (S' := [.ref m, .int (zi 1), .ref c1774]) rfl ?_
                                          refine gs_gtk rfl (by decide) rfl sq1913.1 tm rfl rfl s1923 ?_
                                          refine gy_s 3 (pc' := 355) (L' := [some (.ref m), some (.int (zi by2)), some (.int (zi mk)), some (.int (zi bg)), some (.int (zi n)), some (.int (zi zq1286)), some (.int (zi zq1339)), some (.int (zi z1393)), some (.int (zi 1)), some (.int (zi ((p0 + 6) + 3))), some (.int (zi 1))]) (S' := [.int ((zi ((p0 + 6) + 3)) + (zi 1)), .ref c49, .int (zi 1), .ref c1774]) (L2 := [some (.ref m), some (.int (zi by2)), some (.int (zi mk)), some (.int (zi bg)), some (.int (zi n)), some (.int (zi zq1286)), some (.int (zi zq1339)), some (.int (zi z1393)), some (.int (zi 1)), some (.int (zi ((p0 + 6) + 3))), some (.int (zi 1))]) (S2 := [.int (zi (((p0 + 6) + 3) + 1)), .ref c49, .int (zi 1), .ref c1774]) rfl (by simp only [zi_add, zi_sub, zi_mul, zi_neg, zi_and1, zi_and7, zi_and15, zi_and31, zi_and255, Int.reduceAdd, Int.reduceMul, Int.reduceSub]) (by simp only [zi_add, zi_sub, zi_mul, zi_neg, zi_and1, zi_and7, zi_and15, zi_and31, zi_and255, Int.reduceAdd, Int.reduceMul, Int.reduceSub]) ?_
                                          have hl1933 : 2000 ≤ hq1913.2.2.2.1 c49 ∧ hq1913.2.2.2.1 c49 ≤ 2000 := gJ.rowl (G := gGG) sq1913.1 tc49 rfl
                                          refine gs_ald rfl (by decide) sq1913.1 tc49 rfl rfl rfl (by decide) (fun _ => rfl) (by omega) (by omega) (fun z1934 ez1934 az1934 bz1934 => ?_)
                                          refine gz_s 1 (pc' := 358) (L' := [some (.ref m), some (.int (zi by2)), some (.int (zi mk)), some (.int (zi bg)), some (.int (zi n)), some (.int (zi zq1286)), some (.int (zi zq1339)), some (.int (zi z1393)), some (.int (zi 1)), some (.int (zi ((p0 + 6) + 3))), some (.int (zi 1))]) (S' := [.int (zi 16), .int (zi z1934), .int (zi 1), .ref c1774]) rfl ?_
                                          refine gy_div rfl (by decide) (by omega) (by omega) ?_
                                          have hl1935 : 3 ≤ hq1913.2.2.2.1 c1774 ∧ hq1913.2.2.2.1 c1774 ≤ 3 := gJ.rowl (G := gGG) sq1913.1 tc1774 rfl
                                          refine gs_ast rfl (by decide) sq1913 tc1774 rfl rfl rfl (by decide) (fun _ => rfl) (by omega) (by omega) (fun _ => (by decide : (12999 : Nat) ∈ ([1007, 1016, 1017, 1018, 1019, 1020, 1021, 1022, 1023, 1024, 11999, 12999, 13999, 14999, 15999, 16999, 17999, 18999, 19999, 23999, 24999] : List Nat))) (by omega) (by omega) (fun h1936 sh1936 eh1936 fh1936 => ?_)
                                          have pr1937 := gEl.pt fh1936 tc1774 (by decide) pr1928
                                          have pr1938 := gEl.ot fh1936 pr1929 (i := 1) (by omega)
                                          have pr1939 := gEl.pt fh1936 tc1774 (by decide) pr1930
                                          have pr1940 := gEl.pt fh1936 tc1774 (by decide) pr1931
                                          have pr1941 := gEl.pt fh1936 tc1774 (by decide) pr1932
                                          have s1942 := (fh1936 m 5 (fun q => absurd (((tm).symm.trans (congrArg ty q.1)).trans tc1774) (by decide))).trans s1914
                                          have s1943 := (fh1936 m 6 (fun q => absurd (((tm).symm.trans (congrArg ty q.1)).trans tc1774) (by decide))).trans s1915
                                          have s1944 := (fh1936 m 3 (fun q => absurd (((tm).symm.trans (congrArg ty q.1)).trans tc1774) (by decide))).trans s1916
                                          have s1945 := (fh1936 m 16 (fun q => absurd (((tm).symm.trans (congrArg ty q.1)).trans tc1774) (by decide))).trans s1917
                                          have s1946 := (fh1936 m 18 (fun q => absurd (((tm).symm.trans (congrArg ty q.1)).trans tc1774) (by decide))).trans s1918
                                          have s1947 := (fh1936 m 19 (fun q => absurd (((tm).symm.trans (congrArg ty q.1)).trans tc1774) (by decide))).trans s1919
                                          have s1948 := (fh1936 m 21 (fun q => absurd (((tm).symm.trans (congrArg ty q.1)).trans tc1774) (by decide))).trans s1920
                                          have s1949 := (fh1936 m 22 (fun q => absurd (((tm).symm.trans (congrArg ty q.1)).trans tc1774) (by decide))).trans s1921
                                          have s1950 := (fh1936 m 20 (fun q => absurd (((tm).symm.trans (congrArg ty q.1)).trans tc1774) (by decide))).trans s1922
                                          have s1951 := (fh1936 m 4 (fun q => absurd (((tm).symm.trans (congrArg ty q.1)).trans tc1774) (by decide))).trans s1923
                                          have s1952 := (fh1936 m 25 (fun q => absurd (((tm).symm.trans (congrArg ty q.1)).trans tc1774) (by decide))).trans s1924
                                          have s1953 := (fh1936 m 26 (fun q => absurd (((tm).symm.trans (congrArg ty q.1)).trans tc1774) (by decide))).trans s1925
                                          have s1954 := (fh1936 m 27 (fun q => absurd (((tm).symm.trans (congrArg ty q.1)).trans tc1774) (by decide))).trans s1926
                                          have s1955 := (fh1936 m 28 (fun q => absurd (((tm).symm.trans (congrArg ty q.1)).trans tc1774) (by decide))).trans s1927
                                          have s1956 := (fh1936 m 7 (fun q => absurd (((tm).symm.trans (congrArg ty q.1)).trans tc1774) (by decide))).trans efq1913_0
                                          clear s1914 s1915 s1916 s1917 s1918 s1919 s1920 s1921 s1922 s1923 s1924 s1925 s1926 s1927 pr1928 pr1929 pr1930 pr1931 pr1932
                                          have pr1957 := gEl.set (i := 1) (z := z1934 / 16) uq tc1774 (by decide) eh1936 (by omega) (by omega)
                                          refine gz_s 1 (pc' := 361) (L' := [some (.ref m), some (.int (zi by2)), some (.int (zi mk)), some (.int (zi bg)), some (.int (zi n)), some (.int (zi zq1286)), some (.int (zi zq1339)), some (.int (zi z1393)), some (.int (zi 1)), some (.int (zi ((p0 + 6) + 3))), some (.int (zi 1))]) (S' := [.ref m]) rfl ?_
                                          refine gs_gtk rfl (by decide) rfl sh1936.1 tm rfl rfl s1954 ?_
                                          refine gz_s 2 (pc' := 367) (L' := [some (.ref m), some (.int (zi by2)), some (.int (zi mk)), some (.int (zi bg)), some (.int (zi n)), some (.int (zi zq1286)), some (.int (zi zq1339)), some (.int (zi z1393)), some (.int (zi 1)), some (.int (zi ((p0 + 6) + 3))), some (.int (zi 1))]) (S' := [.ref m, .int (zi 1), .ref c1794]) rfl ?_
                                          refine gs_gtk rfl (by decide) rfl sh1936.1 tm rfl rfl s1951 ?_
                                          refine gy_s 3 (pc' := 374) (L' := [some (.ref m), some (.int (zi by2)), some (.int (zi mk)), some (.int (zi bg)), some (.int (zi n)), some (.int (zi zq1286)), some (.int (zi zq1339)), some (.int (zi z1393)), some (.int (zi 1)), some (.int (zi ((p0 + 6) + 3))), some (.int (zi 1))]) (S' := [.int ((zi ((p0 + 6) + 3)) + (zi 1)), .ref c49, .int (zi 1), .ref c1794]) (L2 := [some (.ref m), some (.int (zi by2)), some (.int (zi mk)), some (.int (zi bg)), some (.int (zi n)), some (.int (zi zq1286)), some (.int (zi zq1339)), some (.int (zi z1393)), some (.int (zi 1)), some (.int (zi ((p0 + 6) + 3))), some (.int (zi 1))]) (S2 := [.int (zi (((p0 + 6) + 3) + 1)), .ref c49, .int (zi 1), .ref c1794]) rfl (by simp only [zi_add, zi_sub, zi_mul, zi_neg, zi_and1, zi_and7, zi_and15, zi_and31, zi_and255, Int.reduceAdd, Int.reduceMul, Int.reduceSub]) (by simp only [zi_add, zi_sub, zi_mul, zi_neg, zi_and1, zi_and7, zi_and15, zi_and31, zi_and255, Int.reduceAdd, Int.reduceMul, Int.reduceSub]) ?_
                                          have hl1958 : 2000 ≤ h1936.2.2.2.1 c49 ∧ h1936.2.2.2.1 c49 ≤ 2000 := gJ.rowl (G := gGG) sh1936.1 tc49 rfl
                                          refine gs_ald rfl (by decide) sh1936.1 tc49 rfl rfl rfl (by decide) (fun _ => rfl) (by omega) (by omega) (fun z1959 ez1959 az1959 bz1959 => ?_)
                                          refine gz_s 1 (pc' := 377) (L' := [some (.ref m), some (.int (zi by2)), some (.int (zi mk)), some (.int (zi bg)), some (.int (zi n)), some (.int (zi zq1286)), some (.int (zi zq1339)), some (.int (zi z1393)), some (.int (zi 1)), some (.int (zi ((p0 + 6) + 3))), some (.int (zi 1))]) (S' := [.int (zi 16), .int (zi z1959), .int (zi 1), .ref c1794]) rfl ?_
                                          refine gy_rem rfl (by decide) (by omega) (by omega) ?_
                                          have hl1960 : 3 ≤ h1936.2.2.2.1 c1794 ∧ h1936.2.2.2.1 c1794 ≤ 3 := gJ.rowl (G := gGG) sh1936.1 tc1794 rfl
                                          refine gs_ast rfl (by decide) sh1936 tc1794 rfl rfl rfl (by decide) (fun _ => rfl) (by omega) (by omega) (fun _ => (by decide : (13999 : Nat) ∈ ([1007, 1016, 1017, 1018, 1019, 1020, 1021, 1022, 1023, 1024, 11999, 12999, 13999, 14999, 15999, 16999, 17999, 18999, 19999, 23999, 24999] : List Nat))) (by omega) (by omega) (fun h1961 sh1961 eh1961 fh1961 => ?_)
                                          have pr1962 := gEl.pt fh1961 tc1794 (by decide) pr1937
                                          have pr1963 := gEl.pt fh1961 tc1794 (by decide) pr1938
                                          have pr1964 := gEl.ot fh1961 pr1939 (i := 1) (by omega)
                                          have pr1965 := gEl.pt fh1961 tc1794 (by decide) pr1940
                                          have pr1966 := gEl.pt fh1961 tc1794 (by decide) pr1941
                                          have pr1967 := gEl.pt fh1961 tc1794 (by decide) pr1957
                                          have s1968 := (fh1961 m 5 (fun q => absurd (((tm).symm.trans (congrArg ty q.1)).trans tc1794) (by decide))).trans s1942
                                          have s1969 := (fh1961 m 6 (fun q => absurd (((tm).symm.trans (congrArg ty q.1)).trans tc1794) (by decide))).trans s1943
                                          have s1970 := (fh1961 m 3 (fun q => absurd (((tm).symm.trans (congrArg ty q.1)).trans tc1794) (by decide))).trans s1944
                                          have s1971 := (fh1961 m 16 (fun q => absurd (((tm).symm.trans (congrArg ty q.1)).trans tc1794) (by decide))).trans s1945
                                          have s1972 := (fh1961 m 18 (fun q => absurd (((tm).symm.trans (congrArg ty q.1)).trans tc1794) (by decide))).trans s1946
                                          have s1973 := (fh1961 m 19 (fun q => absurd (((tm).symm.trans (congrArg ty q.1)).trans tc1794) (by decide))).trans s1947
                                          have s1974 := (fh1961 m 21 (fun q => absurd (((tm).symm.trans (congrArg ty q.1)).trans tc1794) (by decide))).trans s1948
                                          have s1975 := (fh1961 m 22 (fun q => absurd (((tm).symm.trans (congrArg ty q.1)).trans tc1794) (by decide))).trans s1949
                                          have s1976 := (fh1961 m 20 (fun q => absurd (((tm).symm.trans (congrArg ty q.1)).trans tc1794) (by decide))).trans s1950
                                          have s1977 := (fh1961 m 4 (fun q => absurd (((tm).symm.trans (congrArg ty q.1)).trans tc1794) (by decide))).trans s1951
                                          have s1978 := (fh1961 m 25 (fun q => absurd (((tm).symm.trans (congrArg ty q.1)).trans tc1794) (by decide))).trans s1952
                                          have s1979 := (fh1961 m 26 (fun q => absurd (((tm).symm.trans (congrArg ty q.1)).trans tc1794) (by decide))).trans s1953
                                          have s1980 := (fh1961 m 27 (fun q => absurd (((tm).symm.trans (congrArg ty q.1)).trans tc1794) (by decide))).trans s1954
                                          have s1981 := (fh1961 m 28 (fun q => absurd (((tm).symm.trans (congrArg ty q.1)).trans tc1794) (by decide))).trans s1955
                                          have s1982 := (fh1961 m 7 (fun q => absurd (((tm).symm.trans (congrArg ty q.1)).trans tc1794) (by decide))).trans s1956
                                          clear s1942 s1943 s1944 s1945 s1946 s1947 s1948 s1949 s1950 s1951 s1952 s1953 s1954 s1955 s1956 pr1937 pr1938 pr1939 pr1940 pr1941 pr1957
                                          have pr1983 := gEl.set (i := 1) (z := z1959 % 16) uq tc1794 (by decide) eh1961 (by omega) (by omega)
                                          refine gz_s 2 (pc' := 381) (L' := [some (.ref m), some (.int (zi by2)), some (.int (zi mk)), some (.int (zi bg)), some (.int (zi n)), some (.int (zi zq1286)), some (.int (zi zq1339)), some (.int (zi z1393)), some (.int (zi 1)), some (.int (zi ((p0 + 6) + 3))), some (.int (zi 1))]) (S' := [.ref m, .ref m]) rfl ?_
                                          refine gs_gtk rfl (by decide) rfl sh1961.1 tm rfl rfl s1979 ?_
                                          refine gz_s 1 (pc' := 386) (L' := [some (.ref m), some (.int (zi by2)), some (.int (zi mk)), some (.int (zi bg)), some (.int (zi n)), some (.int (zi zq1286)), some (.int (zi zq1339)), some (.int (zi z1393)), some (.int (zi 1)), some (.int (zi ((p0 + 6) + 3))), some (.int (zi 1))]) (S' := [.int (zi 1), .ref c1774, .ref m]) rfl ?_
                                          have hl1984 : 3 ≤ h1961.2.2.2.1 c1774 ∧ h1961.2.2.2.1 c1774 ≤ 3 := gJ.rowl (G := gGG) sh1961.1 tc1774 rfl
                                          refine gs_alx rfl (by decide) sh1961.1 tc1774 rfl rfl rfl (by decide) (fun _ => rfl) (by omega) (by omega) (by decide) pr1967 (fun ex1985 ax1985 bx1985 => ?_)
                                          refine gz_s 1 (pc' := 388) (L' := [some (.ref m), some (.int (zi by2)), some (.int (zi mk)), some (.int (zi bg)), some (.int (zi n)), some (.int (zi zq1286)), some (.int (zi zq1339)), some (.int (zi z1393)), some (.int (zi 1)), some (.int (zi ((p0 + 6) + 3))), some (.int (zi 1))]) (S' := [.int (zi 1), .int (zi (z1934 / 16)), .ref m]) rfl ?_
                                          have jn1986 : ∀ (jn1986v0 : Int), ((0 ≤ jn1986v0) ∧ (jn1986v0 ≤ 1) ∧ (jn1986v0 = 1 → (1 ≤ z1934 / 16 ∧ z1934 / 16 ≤ 2 ∧ 1 ≤ z1959 % 16 ∧ z1959 % 16 ≤ 2))) → gz gPP gGG gcn (d + 4) gt165 429 [some (.ref m), some (.int (zi by2)), some (.int (zi mk)), some (.int (zi bg)), some (.int (zi n)), some (.int (zi zq1286)), some (.int (zi zq1339)), some (.int (zi z1393)), some (.int (zi 1)), some (.int (zi ((p0 + 6) + 3))), some (.int (zi 1))] [.int (zi jn1986v0), .ref m] h1961 (fun q _ => gSs rT 1027 ty [1007, 1016, 1017, 1018, 1019, 1020, 1021, 1022, 1023, 1024, 11999, 12999, 13999, 14999, 15999, 16999, 17999, 18999, 19999, 23999, 24999] h q.2.2 ∧ ∃ f1 ip1 w1 hh1 wd1 hg1 bs1 : Int, gfin gt165 q.1 q.2.1 = some none ∧ q.2.2.2.2.2.2 m 7 = .int (zi f1) ∧ (-1) ≤ f1 ∧ f1 ≤ 4000 ∧ q.2.2.2.2.2.2 m 16 = .int (zi ip1) ∧ 0 ≤ ip1 ∧ ip1 ≤ 1 ∧ q.2.2.2.2.2.2 m 18 = .int (zi w1) ∧ 0 ≤ w1 ∧ w1 ≤ 64 ∧ q.2.2.2.2.2.2 m 19 = .int (zi hh1) ∧ 0 ≤ hh1 ∧ hh1 ≤ 64 ∧ q.2.2.2.2.2.2 m 21 = .int (zi wd1) ∧ 0 ≤ wd1 ∧ wd1 ≤ 2 ∧ q.2.2.2.2.2.2 m 22 = .int (zi hg1) ∧ 0 ≤ hg1 ∧ hg1 ≤ 2 ∧ q.2.2.2.2.2.2 m 20 = .int (zi bs1) ∧ 0 ≤ bs1 ∧ bs1 ≤ 3 ∧ (gPi ty ip1 w1 hh1 wd1 hg1 bs1 q.2.2)) := by
                                            intro jn1986v0 jn1986d
                                            refine gy_s 3 (pc' := 433) (L' := [some (.ref m), some (.int (zi by2)), some (.int (zi mk)), some (.int (zi bg)), some (.int (zi n)), some (.int (zi zq1286)), some (.int (zi zq1339)), some (.int (zi z1393)), some (.int (zi 1)), some (.int (zi ((p0 + 6) + 3))), some (.int (zi 1))]) (S' := [.int ((zi ((p0 + 6) + 3)) + (zi 1)), .int (zi jn1986v0), .ref m]) (L2 := [some (.ref m), some (.int (zi by2)), some (.int (zi mk)), some (.int (zi bg)), some (.int (zi n)), some (.int (zi zq1286)), some (.int (zi zq1339)), some (.int (zi z1393)), some (.int (zi 1)), some (.int (zi ((p0 + 6) + 3))), some (.int (zi 1))]) (S2 := [.int (zi (((p0 + 6) + 3) + 1)), .int (zi jn1986v0), .ref m]) rfl (by simp only [zi_add, zi_sub, zi_mul, zi_neg, zi_and1, zi_and7, zi_and15, zi_and31, zi_and255, Int.reduceAdd, Int.reduceMul, Int.reduceSub]) (by simp only [zi_add, zi_sub, zi_mul, zi_neg, zi_and1, zi_and7, zi_and15, zi_and31, zi_and255, Int.reduceAdd, Int.reduceMul, Int.reduceSub]) ?_
                                            refine gz_call rfl (by decide) rfl (by decide) (by decide) (gcal_of rfl rfl rfl (Nat.le_of_ble_eq_true rfl) (gJ.recv (G := gGG) sh1961.1 tm rfl rfl)) (mm_must _ sh1961.1 m tm jn1986v0 (by omega) (((p0 + 6) + 3) + 1) (by omega) fq1913_0 s1982 (by omega)) (fun q1987 _ wq1987 => ?_)
                                            obtain ⟨pq1987, oq1987, hq1987⟩ := q1987
                                            obtain ⟨xq1987, zq1987, fq1987_0, gq1987, aq1987, bq1987, efq1987_0, afq1987_0, bfq1987_0, uq1987_0, uq1987_1⟩ := wq1987
                                            refine ⟨_, gq1987, ?_⟩
                                            show gz gPP gGG gcn _ _ 436 [some (.ref m), some (.int (zi by2)), some (.int (zi mk)), some (.int (zi bg)), some (.int (zi n)), some (.int (zi zq1286)), some (.int (zi zq1339)), some (.int (zi z1393)), some (.int (zi 1)), some (.int (zi ((p0 + 6) + 3))), some (.int (zi 1))] [.int (zi zq1987)] hq1987 _
                                            have sq1987 := gSs.tr sh1961 xq1987 (by decide)
                                            have s1988 := (xq1987.2.2.2.2.2 m 5 (by rw [tm]; decide)).trans s1968
                                            have s1989 := (xq1987.2.2.2.2.2 m 6 (by rw [tm]; decide)).trans s1969
                                            have s1990 := (xq1987.2.2.2.2.2 m 3 (by rw [tm]; decide)).trans s1970
                                            have s1991 := (xq1987.2.2.2.2.2 m 16 (by rw [tm]; decide)).trans s1971
                                            have s1992 := (xq1987.2.2.2.2.2 m 18 (by rw [tm]; decide)).trans s1972
                                            have s1993 := (xq1987.2.2.2.2.2 m 19 (by rw [tm]; decide)).trans s1973
                                            have s1994 := (xq1987.2.2.2.2.2 m 21 (by rw [tm]; decide)).trans s1974
                                            have s1995 := (xq1987.2.2.2.2.2 m 22 (by rw [tm]; decide)).trans s1975
                                            have s1996 := (xq1987.2.2.2.2.2 m 20 (by rw [tm]; decide)).trans s1976
                                            have s1997 := (xq1987.2.2.2.2.2 m 4 (by rw [tm]; decide)).trans s1977
                                            have s1998 := (xq1987.2.2.2.2.2 m 25 (by rw [tm]; decide)).trans s1978
                                            have s1999 := (xq1987.2.2.2.2.2 m 26 (by rw [tm]; decide)).trans s1979
                                            have s2000 := (xq1987.2.2.2.2.2 m 27 (by rw [tm]; decide)).trans s1980
                                            have s2001 := (xq1987.2.2.2.2.2 m 28 (by rw [tm]; decide)).trans s1981
                                            have pr2002 := gEl.fr xq1987.2 (by decide) (fun _ => rfl) pr1962
                                            have pr2003 := gEl.fr xq1987.2 (by decide) (fun _ => rfl) pr1963
                                            have pr2004 := gEl.fr xq1987.2 (by decide) (fun _ => rfl) pr1964
                                            have pr2005 := gEl.fr xq1987.2 (by decide) (fun _ => rfl) pr1965
                                            have pr2006 := gEl.fr xq1987.2 (by decide) (fun _ => rfl) pr1966
                                            have pr2007 := gEl.fr xq1987.2 (by decide) (fun _ => rfl) pr1967
                                            have pr2008 := gEl.fr xq1987.2 (by decide) (fun _ => rfl) pr1983
                                            clear s1968 s1969 s1970 s1971 s1972 s1973 s1974 s1975 s1976 s1977 s1978 s1979 s1980 s1981 s1982 pr1962 pr1963 pr1964 pr1965 pr1966 pr1967 pr1983
                                            refine gz_s 2 (pc' := 438) (L' := [some (.ref m), some (.int (zi by2)), some (.int (zi mk)), some (.int (zi bg)), some (.int (zi n)), some (.int (zi zq1286)), some (.int (zi zq1339)), some (.int (zi z1393)), some (.int (zi 1)), some (.int (zi ((p0 + 6) + 3))), some (.int (zi 1))]) (S' := [.ref m]) rfl ?_
                                            refine gs_gtk rfl (by decide) rfl sq1987.1 tm rfl rfl s2001 ?_
                                            refine gz_s 2 (pc' := 444) (L' := [some (.ref m), some (.int (zi by2)), some (.int (zi mk)), some (.int (zi bg)), some (.int (zi n)), some (.int (zi zq1286)), some (.int (zi zq1339)), some (.int (zi z1393)), some (.int (zi 1)), some (.int (zi ((p0 + 6) + 3))), some (.int (zi 1))]) (S' := [.ref m, .int (zi 1), .ref c1836]) rfl ?_
                                            refine gs_gtk rfl (by decide) rfl sq1987.1 tm rfl rfl s1997 ?_
                                            refine gy_s 3 (pc' := 451) (L' := [some (.ref m), some (.int (zi by2)), some (.int (zi mk)), some (.int (zi bg)), some (.int (zi n)), some (.int (zi zq1286)), some (.int (zi zq1339)), some (.int (zi z1393)), some (.int (zi 1)), some (.int (zi ((p0 + 6) + 3))), some (.int (zi 1))]) (S' := [.int ((zi ((p0 + 6) + 3)) + (zi 2)), .ref c49, .int (zi 1), .ref c1836]) (L2 := [some (.ref m), some (.int (zi by2)), some (.int (zi mk)), some (.int (zi bg)), some (.int (zi n)), some (.int (zi zq1286)), some (.int (zi zq1339)), some (.int (zi z1393)), some (.int (zi 1)), some (.int (zi ((p0 + 6) + 3))), some (.int (zi 1))]) (S2 := [.int (zi (((p0 + 6) + 3) + 2)), .ref c49, .int (zi 1), .ref c1836]) rfl (by simp only [zi_add, zi_sub, zi_mul, zi_neg, zi_and1, zi_and7, zi_and15, zi_and31, zi_and255, Int.reduceAdd, Int.reduceMul, Int.reduceSub]) (by simp only [zi_add, zi_sub, zi_mul, zi_neg, zi_and1, zi_and7, zi_and15, zi_and31, zi_and255, Int.reduceAdd, Int.reduceMul, Int.reduceSub]) ?_
                                            have hl2009 : 2000 ≤ hq1987.2.2.2.1 c49 ∧ hq1987.2.2.2.1 c49 ≤ 2000 := gJ.rowl (G := gGG) sq1987.1 tc49 rfl
                                            refine gs_ald rfl (by decide) sq1987.1 tc49 rfl rfl rfl (by decide) (fun _ => rfl) (by omega) (by omega) (fun z2010 ez2010 az2010 bz2010 => ?_)
                                            have hl2011 : 3 ≤ hq1987.2.2.2.1 c1836 ∧ hq1987.2.2.2.1 c1836 ≤ 3 := gJ.rowl (G := gGG) sq1987.1 tc1836 rfl
                                            refine gs_ast rfl (by decide) sq1987 tc1836 rfl rfl rfl (by decide) (fun _ => rfl) (by omega) (by omega) (fun _ => (by decide : (14999 : Nat) ∈ ([1007, 1016, 1017, 1018, 1019, 1020, 1021, 1022, 1023, 1024, 11999, 12999, 13999, 14999, 15999, 16999, 17999, 18999, 19999, 23999, 24999] : List Nat))) (by omega) (by omega) (fun h2012 sh2012 eh2012 fh2012 => ?_)
                                            have pr2013 := gEl.pt fh2012 tc1836 (by decide) pr2002
                                            have pr2014 := gEl.pt fh2012 tc1836 (by decide) pr2003
                                            have pr2015 := gEl.pt fh2012 tc1836 (by decide) pr2004
                                            have pr2016 := gEl.ot fh2012 pr2005 (i := 1) (by omega)
                                            have pr2017 := gEl.pt fh2012 tc1836 (by decide) pr2006
                                            have pr2018 := gEl.pt fh2012 tc1836 (by decide) pr2007
                                            have pr2019 := gEl.pt fh2012 tc1836 (by decide) pr2008
                                            have s2020 := (fh2012 m 5 (fun q => absurd (((tm).symm.trans (congrArg ty q.1)).trans tc1836) (by decide))).trans s1988
                                            have s2021 := (fh2012 m 6 (fun q => absurd (((tm).symm.trans (congrArg ty q.1)).trans tc1836) (by decide))).trans s1989
                                            have s2022 := (fh2012 m 3 (fun q => absurd (((tm).symm.trans (congrArg ty q.1)).trans tc1836) (by decide))).trans s1990
                                            have s2023 := (fh2012 m 16 (fun q => absurd (((tm).symm.trans (congrArg ty q.1)).trans tc1836) (by decide))).trans s1991
                                            have s2024 := (fh2012 m 18 (fun q => absurd (((tm).symm.trans (congrArg ty q.1)).trans tc1836) (by decide))).trans s1992
                                            have s2025 := (fh2012 m 19 (fun q => absurd (((tm).symm.trans (congrArg ty q.1)).trans tc1836) (by decide))).trans s1993
                                            have s2026 := (fh2012 m 21 (fun q => absurd (((tm).symm.trans (congrArg ty q.1)).trans tc1836) (by decide))).trans s1994
                                            have s2027 := (fh2012 m 22 (fun q => absurd (((tm).symm.trans (congrArg ty q.1)).trans tc1836) (by decide))).trans s1995
                                            have s2028 := (fh2012 m 20 (fun q => absurd (((tm).symm.trans (congrArg ty q.1)).trans tc1836) (by decide))).trans s1996
                                            have s2029 := (fh2012 m 4 (fun q => absurd (((tm).symm.trans (congrArg ty q.1)).trans tc1836) (by decide))).trans s1997
                                            have s2030 := (fh2012 m 25 (fun q => absurd (((tm).symm.trans (congrArg ty q.1)).trans tc1836) (by decide))).trans s1998
                                            have s2031 := (fh2012 m 26 (fun q => absurd (((tm).symm.trans (congrArg ty q.1)).trans tc1836) (by decide))).trans s1999
                                            have s2032 := (fh2012 m 27 (fun q => absurd (((tm).symm.trans (congrArg ty q.1)).trans tc1836) (by decide))).trans s2000
                                            have s2033 := (fh2012 m 28 (fun q => absurd (((tm).symm.trans (congrArg ty q.1)).trans tc1836) (by decide))).trans s2001
                                            have s2034 := (fh2012 m 7 (fun q => absurd (((tm).symm.trans (congrArg ty q.1)).trans tc1836) (by decide))).trans efq1987_0
                                            clear s1988 s1989 s1990 s1991 s1992 s1993 s1994 s1995 s1996 s1997 s1998 s1999 s2000 s2001 pr2002 pr2003 pr2004 pr2005 pr2006 pr2007 pr2008
                                            have pr2035 := gEl.set (i := 1) (z := z2010) uq tc1836 (by decide) eh2012 (by omega) (by omega)
                                            refine gz_s 2 (pc' := 455) (L' := [some (.ref m), some (.int (zi by2)), some (.int (zi mk)), some (.int (zi bg)), some (.int (zi n)), some (.int (zi zq1286)), some (.int (zi zq1339)), some (.int (zi z1393)), some (.int (zi 1)), some (.int (zi ((p0 + 6) + 3))), some (.int (zi 1))]) (S' := [.ref m, .ref m]) rfl ?_
                                            refine gs_gtk rfl (by decide) rfl sh2012.1 tm rfl rfl s2033 ?_
                                            refine gz_s 1 (pc' := 460) (L' := [some (.ref m), some (.int (zi by2)), some (.int (zi mk)), some (.int (zi bg)), some (.int (zi n)), some (.int (zi zq1286)), some (.int (zi zq1339)), some (.int (zi z1393)), some (.int (zi 1)), some (.int (zi ((p0 + 6) + 3))), some (.int (zi 1))]) (S' := [.int (zi 1), .ref c1836, .ref m]) rfl ?_
                                            have hl2036 : 3 ≤ h2012.2.2.2.1 c1836 ∧ h2012.2.2.2.1 c1836 ≤ 3 := gJ.rowl (G := gGG) sh2012.1 tc1836 rfl
                                            refine gs_alx rfl (by decide) sh2012.1 tc1836 rfl rfl rfl (by decide) (fun _ => rfl) (by omega) (by omega) (by decide) pr2035 (fun ex2037 ax2037 bx2037 => ?_)
                                            refine gz_s 1 (pc' := 462) (L' := [some (.ref m), some (.int (zi by2)), some (.int (zi mk)), some (.int (zi bg)), some (.int (zi n)), some (.int (zi zq1286)), some (.int (zi zq1339)), some (.int (zi z1393)), some (.int (zi 1)), some (.int (zi ((p0 + 6) + 3))), some (.int (zi 1))]) (S' := [.int (zi 4), .int (zi z2010), .ref m]) rfl ?_
                                            have jn2038 : ∀ (jn2038v0 : Int), ((0 ≤ jn2038v0) ∧ (jn2038v0 ≤ 1) ∧ (jn2038v0 = 1 → z2010 ≤ 3)) → gz gPP gGG gcn (d + 4) gt165 470 [some (.ref m), some (.int (zi by2)), some (.int (zi mk)), some (.int (zi bg)), some (.int (zi n)), some (.int (zi zq1286)), some (.int (zi zq1339)), some (.int (zi z1393)), some (.int (zi 1)), some (.int (zi ((p0 + 6) + 3))), some (.int (zi 1))] [.int (zi jn2038v0), .ref m] h2012 (fun q _ => gSs rT 1027 ty [1007, 1016, 1017, 1018, 1019, 1020, 1021, 1022, 1023, 1024, 11999, 12999, 13999, 14999, 15999, 16999, 17999, 18999, 19999, 23999, 24999] h q.2.2 ∧ ∃ f1 ip1 w1 hh1 wd1 hg1 bs1 : Int, gfin gt165 q.1 q.2.1 = some none ∧ q.2.2.2.2.2.2 m 7 = .int (zi f1) ∧ (-1) ≤ f1 ∧ f1 ≤ 4000 ∧ q.2.2.2.2.2.2 m 16 = .int (zi ip1) ∧ 0 ≤ ip1 ∧ ip1 ≤ 1 ∧ q.2.2.2.2.2.2 m 18 = .int (zi w1) ∧ 0 ≤ w1 ∧ w1 ≤ 64 ∧ q.2.2.2.2.2.2 m 19 = .int (zi hh1) ∧ 0 ≤ hh1 ∧ hh1 ≤ 64 ∧ q.2.2.2.2.2.2 m 21 = .int (zi wd1) ∧ 0 ≤ wd1 ∧ wd1 ≤ 2 ∧ q.2.2.2.2.2.2 m 22 = .int (zi hg1) ∧ 0 ≤ hg1 ∧ hg1 ≤ 2 ∧ q.2.2.2.2.2.2 m 20 = .int (zi bs1) ∧ 0 ≤ bs1 ∧ bs1 ≤ 3 ∧ (gPi ty ip1 w1 hh1 wd1 hg1 bs1 q.2.2)) := by
                                              intro jn2038v0 jn2038d
                                              refine gy_s 3 (pc' := 474) (L' := [some (.ref m), some (.int (zi by2)), some (.int (zi mk)), some (.int (zi bg)), some (.int (zi n)), some (.int (zi zq1286)), some (.int (zi zq1339)), some (.int (zi z1393)), some (.int (zi 1)), some (.int (zi ((p0 + 6) + 3))), some (.int (zi 1))]) (S' := [.int ((zi ((p0 + 6) + 3)) + (zi 2)), .int (zi jn2038v0), .ref m]) (L2 := [some (.ref m), some (.int (zi by2)), some (.int (zi mk)), some (.int (zi bg)), some (.int (zi n)), some (.int (zi zq1286)), some (.int (zi zq1339)), some (.int (zi z1393)), some (.int (zi 1)), some (.int (zi ((p0 + 6) + 3))), some (.int (zi 1))]) (S2 := [.int (zi (((p0 + 6) + 3) + 2)), .int (zi jn2038v0), .ref m]) rfl (by simp only [zi_add, zi_sub, zi_mul, zi_neg, zi_and1, zi_and7, zi_and15, zi_and31, zi_and255, Int.reduceAdd, Int.reduceMul, Int.reduceSub]) (by simp only [zi_add, zi_sub, zi_mul, zi_neg, zi_and1, zi_and7, zi_and15, zi_and31, zi_and255, Int.reduceAdd, Int.reduceMul, Int.reduceSub]) ?_
                                              refine gz_call rfl (by decide) rfl (by decide) (by decide) (gcal_of rfl rfl rfl (Nat.le_of_ble_eq_true rfl) (gJ.recv (G := gGG) sh2012.1 tm rfl rfl)) (mm_must _ sh2012.1 m tm jn2038v0 (by omega) (((p0 + 6) + 3) + 2) (by omega) fq1987_0 s2034 (by omega)) (fun q2039 _ wq2039 => ?_)
                                              obtain ⟨pq2039, oq2039, hq2039⟩ := q2039
                                              obtain ⟨xq2039, zq2039, fq2039_0, gq2039, aq2039, bq2039, efq2039_0, afq2039_0, bfq2039_0, uq2039_0, uq2039_1⟩ := wq2039
                                              refine ⟨_, gq2039, ?_⟩
                                              show gz gPP gGG gcn _ _ 477 [some (.ref m), some (.int (zi by2)), some (.int (zi mk)), some (.int (zi bg)), some (.int (zi n)), some (.int (zi zq1286)), some (.int (zi zq1339)), some (.int (zi z1393)), some (.int (zi 1)), some (.int (zi ((p0 + 6) + 3))), some (.int (zi 1))] [.int (zi zq2039)] hq2039 _
                                              have sq2039 := gSs.tr sh2012 xq2039 (by decide)
                                              have s2040 := (xq2039.2.2.2.2.2 m 5 (by rw [tm]; decide)).trans s2020
                                              have s2041 := (xq2039.2.2.2.2.2 m 6 (by rw [tm]; decide)).trans s2021
                                              have s2042 := (xq2039.2.2.2.2.2 m 3 (by rw [tm]; decide)).trans s2022
                                              have s2043 := (xq2039.2.2.2.2.2 m 16 (by rw [tm]; decide)).trans s2023
                                              have s2044 := (xq2039.2.2.2.2.2 m 18 (by rw [tm]; decide)).trans s2024
                                              have s2045 := (xq2039.2.2.2.2.2 m 19 (by rw [tm]; decide)).trans s2025
                                              have s2046 := (xq2039.2.2.2.2.2 m 21 (by rw [tm]; decide)).trans s2026
                                              have s2047 := (xq2039.2.2.2.2.2 m 22 (by rw [tm]; decide)).trans s2027
                                              have s2048 := (xq2039.2.2.2.2.2 m 20 (by rw [tm]; decide)).trans s2028
                                              have s2049 := (xq2039.2.2.2.2.2 m 4 (by rw [tm]; decide)).trans s2029
                                              have s2050 := (xq2039.2.2.2.2.2 m 25 (by rw [tm]; decide)).trans s2030
                                              have s2051 := (xq2039.2.2.2.2.2 m 26 (by rw [tm]; decide)).trans s2031
                                              have s2052 := (xq2039.2.2.2.2.2 m 27 (by rw [tm]; decide)).trans s2032
                                              have s2053 := (xq2039.2.2.2.2.2 m 28 (by rw [tm]; decide)).trans s2033
                                              have pr2054 := gEl.fr xq2039.2 (by decide) (fun _ => rfl) pr2013
                                              have pr2055 := gEl.fr xq2039.2 (by decide) (fun _ => rfl) pr2014
                                              have pr2056 := gEl.fr xq2039.2 (by decide) (fun _ => rfl) pr2015
                                              have pr2057 := gEl.fr xq2039.2 (by decide) (fun _ => rfl) pr2016
                                              have pr2058 := gEl.fr xq2039.2 (by decide) (fun _ => rfl) pr2017
                                              have pr2059 := gEl.fr xq2039.2 (by decide) (fun _ => rfl) pr2018
                                              have pr2060 := gEl.fr xq2039.2 (by decide) (fun _ => rfl) pr2019
                                              have pr2061 := gEl.fr xq2039.2 (by decide) (fun _ => rfl) pr2035
                                              clear s2020 s2021 s2022 s2023 s2024 s2025 s2026 s2027 s2028 s2029 s2030 s2031 s2032 s2033 s2034 pr2013 pr2014 pr2015 pr2016 pr2017 pr2018 pr2019 pr2035
                                              refine gy_s 5 (pc' := 257) (L' := [some (.ref m), some (.int (zi by2)), some (.int (zi mk)), some (.int (zi bg)), some (.int (zi n)), some (.int (zi zq1286)), some (.int (zi zq1339)), some (.int (zi z1393)), some (.int ((zi 1) + zi 1)), some (.int (zi ((p0 + 6) + 3))), some (.int (zi 1))]) (S' := [.int (zi z1393), .int ((zi 1) + zi 1)]) (L2 := [some (.ref m), some (.int (zi by2)), some (.int (zi mk)), some (.int (zi bg)), some (.int (zi n)), some (.int (zi zq1286)), some (.int (zi zq1339)), some (.int (zi z1393)), some (.int (zi 2)), some (.int (zi ((p0 + 6) + 3))), some (.int (zi 1))]) (S2 := [.int (zi z1393), .int (zi 2)]) rfl (by simp only [zi_add, zi_sub, zi_mul, zi_neg, zi_and1, zi_and7, zi_and15, zi_and31, zi_and255, Int.reduceAdd, Int.reduceMul, Int.reduceSub]) (by simp only [zi_add, zi_sub, zi_mul, zi_neg, zi_and1, zi_and7, zi_and15, zi_and31, zi_and255, Int.reduceAdd, Int.reduceMul, Int.reduceSub]) ?_
                                              refine gy_icF rfl (by decide) (by decide) (by omega) (by omega) (by first | (simp [zc]; done) | (simp only [zc]; omega)) ?_
                                              refine gz_s 1 (pc' := 261) (L' := [some (.ref m), some (.int (zi by2)), some (.int (zi mk)), some (.int (zi bg)), some (.int (zi n)), some (.int (zi zq1286)), some (.int (zi zq1339)), some (.int (zi z1393)), some (.int (zi 2)), some (.int (zi ((p0 + 6) + 3))), some (.int (zi 1))]) (S' := [.ref m]) rfl ?_
                                              refine gs_gtk rfl (by decide) rfl sq2039.1 tm rfl rfl efq2039_0 ?_
                                              refine gz_s 1 (pc' := 265) (L' := [some (.ref m), some (.int (zi by2)), some (.int (zi mk)), some (.int (zi bg)), some (.int (zi n)), some (.int (zi zq1286)), some (.int (zi zq1339)), some (.int (zi z1393)), some (.int (zi 2)), some (.int (zi ((p0 + 6) + 3))), some (.int (zi 1))]) (S' := [.int (zi (-1)), .int (zi fq2039_0)]) rfl ?_
                                              by_cases hc2062 : ¬ (fq2039_0 : Int) = (-1)
                                              · refine gy_icT (pc' := 484) rfl (by decide) (by decide) (by omega) (by omega) hc2062 ?_
                                                refine gz_s 1 (pc' := 485) (L' := [some (.ref m), some (.int (zi by2)), some (.int (zi mk)), some (.int (zi bg)), some (.int (zi n)), some (.int (zi zq1286)), some (.int (zi zq1339)), some (.int (zi z1393)), some (.int (zi 2)), some (.int (zi ((p0 + 6) + 3))), some (.int (zi 1))]) (S' := [.ref m]) rfl ?_
                                                refine gs_gtk rfl (by decide) rfl sq2039.1 tm rfl rfl efq2039_0 ?_
                                                refine gz_s 1 (pc' := 489) (L' := [some (.ref m), some (.int (zi by2)), some (.int (zi mk)), some (.int (zi bg)), some (.int (zi n)), some (.int (zi zq1286)), some (.int (zi zq1339)), some (.int (zi z1393)), some (.int (zi 2)), some (.int (zi ((p0 + 6) + 3))), some (.int (zi 1))]) (S' := [.int (zi (-1)), .int (zi fq2039_0)]) rfl ?_
                                                refine gy_icF rfl (by decide) (by decide) (by omega) (by omega) (by first | (simp [zc]; done) | (simp only [zc]; omega)) ?_
                                                have hpi2063 : gPi ty ip w hh wd hg bs hq2039 := fun e => absurd e (by omega)
                                                exact gz_end (I := .return_) (len := 1) rfl (Or.inl rfl) ⟨sq2039, fq2039_0, ip, w, hh, wd, hg, bs, rfl, efq2039_0, (by omega), (by omega), s2043, (by omega), (by omega), s2044, (by omega), (by omega), s2045, (by omega), (by omega), s2046, (by omega), (by omega), s2047, (by omega), (by omega), s2048, (by omega), (by omega), hpi2063⟩
                                              · refine gy_icF rfl (by decide) (by decide) (by omega) (by omega) hc2062 ?_
                                                refine gz_s 1 (pc' := 269) (L' := [some (.ref m), some (.int (zi by2)), some (.int (zi mk)), some (.int (zi bg)), some (.int (zi n)), some (.int (zi zq1286)), some (.int (zi zq1339)), some (.int (zi z1393)), some (.int (zi 2)), some (.int (zi ((p0 + 6) + 3))), some (.int (zi 1))]) (S' := [.ref m]) rfl ?_
                                                refine gs_gtk rfl (by decide) rfl sq2039.1 tm rfl rfl s2040 ?_
                                                refine gy_s 8 (pc' := 283) (L' := [some (.ref m), some (.int (zi by2)), some (.int (zi mk)), some (.int (zi bg)), some (.int (zi n)), some (.int (zi zq1286)), some (.int (zi zq1339)), some (.int (zi z1393)), some (.int (zi 2)), some (.int (((zi p0) + (zi 6)) + ((zi 3) * (zi 2)))), some (.int (zi 1))]) (S' := [.ref m]) (L2 := [some (.ref m), some (.int (zi by2)), some (.int (zi mk)), some (.int (zi bg)), some (.int (zi n)), some (.int (zi zq1286)), some (.int (zi zq1339)), some (.int (zi z1393)), some (.int (zi 2)), some (.int (zi ((p0 + 6) + 6))), some (.int (zi 1))]) (S2 := [.ref m]) rfl (by simp only [zi_add, zi_sub, zi_mul, zi_neg, zi_and1, zi_and7, zi_and15, zi_and31, zi_and255, Int.reduceAdd, Int.reduceMul, Int.reduceSub]) (by simp only [zi_add, zi_sub, zi_mul, zi_neg, zi_and1, zi_and7, zi_and15, zi_and31, zi_and255, Int.reduceAdd, Int.reduceMul, Int.reduceSub]) ?_
                                                refine gs_gtk rfl (by decide) rfl sq2039.1 tm rfl rfl s2050 ?_
                                                refine gz_s 2 (pc' := 289) (L' := [some (.ref m), some (.int (zi by2)), some (.int (zi mk)), some (.int (zi bg)), some (.int (zi n)), some (.int (zi zq1286)), some (.int (zi zq1339)), some (.int (zi z1393)), some (.int (zi 2)), some (.int (zi ((p0 + 6) + 6))), some (.int (zi 1))]) (S' := [.ref m, .int (zi 2), .ref c1755]) rfl ?_
                                                refine gs_gtk rfl (by decide) rfl sq2039.1 tm rfl rfl s2049 ?_
                                                refine gz_s 1 (pc' := 294) (L' := [some (.ref m), some (.int (zi by2)), some (.int (zi mk)), some (.int (zi bg)), some (.int (zi n)), some (.int (zi zq1286)), some (.int (zi zq1339)), some (.int (zi z1393)), some (.int (zi 2)), some (.int (zi ((p0 + 6) + 6))), some (.int (zi 1))]) (S' := [.int (zi ((p0 + 6) + 6)), .ref c49, .int (zi 2), .ref c1755]) rfl ?_
                                                have hl2064 : 2000 ≤ hq2039.2.2.2.1 c49 ∧ hq2039.2.2.2.1 c49 ≤ 2000 := gJ.rowl (G := gGG) sq2039.1 tc49 rfl
                                                refine gs_ald rfl (by decide) sq2039.1 tc49 rfl rfl rfl (by decide) (fun _ => rfl) (by omega) (by omega) (fun z2065 ez2065 az2065 bz2065 => ?_)
                                                have hl2066 : 3 ≤ hq2039.2.2.2.1 c1755 ∧ hq2039.2.2.2.1 c1755 ≤ 3 := gJ.rowl (G := gGG) sq2039.1 tc1755 rfl
                                                refine gs_ast rfl (by decide) sq2039 tc1755 rfl rfl rfl (by decide) (fun _ => rfl) (by omega) (by omega) (fun _ => (by decide : (11999 : Nat) ∈ ([1007, 1016, 1017, 1018, 1019, 1020, 1021, 1022, 1023, 1024, 11999, 12999, 13999, 14999, 15999, 16999, 17999, 18999, 19999, 23999, 24999] : List Nat))) (by omega) (by omega) (fun h2067 sh2067 eh2067 fh2067 => ?_)
                                                have pr2068 := gEl.ot fh2067 pr2054 (i := 2) (by omega)
                                                have pr2069 := gEl.pt fh2067 tc1755 (by decide) pr2055
                                                have pr2070 := gEl.pt fh2067 tc1755 (by decide) pr2056
                                                have pr2071 := gEl.pt fh2067 tc1755 (by decide) pr2057
                                                have pr2072 := gEl.ot fh2067 pr2058 (i := 2) (by omega)
                                                have pr2073 := gEl.pt fh2067 tc1755 (by decide) pr2059
                                                have pr2074 := gEl.pt fh2067 tc1755 (by decide) pr2060
                                                have pr2075 := gEl.pt fh2067 tc1755 (by decide) pr2061
                                                have s2076 := (fh2067 m 5 (fun q => absurd (((tm).symm.trans (congrArg ty q.1)).trans tc1755) (by decide))).trans s2040
                                                have s2077 := (fh2067 m 6 (fun q => absurd (((tm).symm.trans (congrArg ty q.1)).trans tc1755) (by decide))).trans s2041
                                                have s2078 := (fh2067 m 3 (fun q => absurd (((tm).symm.trans (congrArg ty q.1)).trans tc1755) (by decide))).trans s2042
                                                have s2079 := (fh2067 m 16 (fun q => absurd (((tm).symm.trans (congrArg ty q.1)).trans tc1755) (by decide))).trans s2043
                                                have s2080 := (fh2067 m 18 (fun q => absurd (((tm).symm.trans (congrArg ty q.1)).trans tc1755) (by decide))).trans s2044
                                                have s2081 := (fh2067 m 19 (fun q => absurd (((tm).symm.trans (congrArg ty q.1)).trans tc1755) (by decide))).trans s2045
                                                have s2082 := (fh2067 m 21 (fun q => absurd (((tm).symm.trans (congrArg ty q.1)).trans tc1755) (by decide))).trans s2046
                                                have s2083 := (fh2067 m 22 (fun q => absurd (((tm).symm.trans (congrArg ty q.1)).trans tc1755) (by decide))).trans s2047
                                                have s2084 := (fh2067 m 20 (fun q => absurd (((tm).symm.trans (congrArg ty q.1)).trans tc1755) (by decide))).trans s2048
                                                have s2085 := (fh2067 m 4 (fun q => absurd (((tm).symm.trans (congrArg ty q.1)).trans tc1755) (by decide))).trans s2049
                                                have s2086 := (fh2067 m 25 (fun q => absurd (((tm).symm.trans (congrArg ty q.1)).trans tc1755) (by decide))).trans s2050
                                                have s2087 := (fh2067 m 26 (fun q => absurd (((tm).symm.trans (congrArg ty q.1)).trans tc1755) (by decide))).trans s2051
                                                have s2088 := (fh2067 m 27 (fun q => absurd (((tm).symm.trans (congrArg ty q.1)).trans tc1755) (by decide))).trans s2052
                                                have s2089 := (fh2067 m 28 (fun q => absurd (((tm).symm.trans (congrArg ty q.1)).trans tc1755) (by decide))).trans s2053
                                                have s2090 := (fh2067 m 7 (fun q => absurd (((tm).symm.trans (congrArg ty q.1)).trans tc1755) (by decide))).trans efq2039_0
                                                clear s2040 s2041 s2042 s2043 s2044 s2045 s2046 s2047 s2048 s2049 s2050 s2051 s2052 s2053 pr2054 pr2055 pr2056 pr2057 pr2058 pr2059 pr2060 pr2061
                                                have pr2091 := gEl.set (i := 2) (z := z2065) uq tc1755 (by decide) eh2067 (by omega) (by omega)
                                                refine gz_s 4 (pc' := 303) (L' := [some (.ref m), some (.int (zi by2)), some (.int (zi mk)), some (.int (zi bg)), some (.int (zi n)), some (.int (zi zq1286)), some (.int (zi zq1339)), some (.int (zi z1393)), some (.int (zi 2)), some (.int (zi ((p0 + 6) + 6))), some (.int (zi 0))]) (S' := [.int (zi 2), .int (zi 0)]) rfl ?_
                                                refine gy_icF rfl (by decide) (by decide) (by omega) (by omega) (by first | (simp [zc]; done) | (simp only [zc]; omega)) ?_
                                                refine gz_s 2 (pc' := 308) (L' := [some (.ref m), some (.int (zi by2)), some (.int (zi mk)), some (.int (zi bg)), some (.int (zi n)), some (.int (zi zq1286)), some (.int (zi zq1339)), some (.int (zi z1393)), some (.int (zi 2)), some (.int (zi ((p0 + 6) + 6))), some (.int (zi 0))]) (S' := [.ref m, .ref m]) rfl ?_
                                                refine gs_gtk rfl (by decide) rfl sh2067.1 tm rfl rfl s2086 ?_
                                                refine gz_s 1 (pc' := 313) (L' := [some (.ref m), some (.int (zi by2)), some (.int (zi mk)), some (.int (zi bg)), some (.int (zi n)), some (.int (zi zq1286)), some (.int (zi zq1339)), some (.int (zi z1393)), some (.int (zi 2)), some (.int (zi ((p0 + 6) + 6))), some (.int (zi 0))]) (S' := [.int (zi 0), .ref c1755, .ref m]) rfl ?_
                                                have hl2092 : 3 ≤ h2067.2.2.2.1 c1755 ∧ h2067.2.2.2.1 c1755 ≤ 3 := gJ.rowl (G := gGG) sh2067.1 tc1755 rfl
                                                refine gs_alx rfl (by decide) sh2067.1 tc1755 rfl rfl rfl (by decide) (fun _ => rfl) (by omega) (by omega) (by decide) pr2068 (fun ex2093 ax2093 bx2093 => ?_)
                                                refine gz_s 1 (pc' := 315) (L' := [some (.ref m), some (.int (zi by2)), some (.int (zi mk)), some (.int (zi bg)), some (.int (zi n)), some (.int (zi zq1286)), some (.int (zi zq1339)), some (.int (zi z1393)), some (.int (zi 2)), some (.int (zi ((p0 + 6) + 6))), some (.int (zi 0))]) (S' := [.ref m, .int (zi z1757), .ref m]) rfl ?_
                                                refine gs_gtk rfl (by decide) rfl sh2067.1 tm rfl rfl s2086 ?_
                                                refine gz_s 1 (pc' := 320) (L' := [some (.ref m), some (.int (zi by2)), some (.int (zi mk)), some (.int (zi bg)), some (.int (zi n)), some (.int (zi zq1286)), some (.int (zi zq1339)), some (.int (zi z1393)), some (.int (zi 2)), some (.int (zi ((p0 + 6) + 6))), some (.int (zi 0))]) (S' := [.int (zi 2), .ref c1755, .int (zi z1757), .ref m]) rfl ?_
                                                have hl2094 : 3 ≤ h2067.2.2.2.1 c1755 ∧ h2067.2.2.2.1 c1755 ≤ 3 := gJ.rowl (G := gGG) sh2067.1 tc1755 rfl
                                                refine gs_alx rfl (by decide) sh2067.1 tc1755 rfl rfl rfl (by decide) (fun _ => rfl) (by omega) (by omega) (by decide) pr2091 (fun ex2095 ax2095 bx2095 => ?_)
                                                have jn2096 : ∀ (jn2096v0 : Int), ((0 ≤ jn2096v0) ∧ (jn2096v0 ≤ 1)) → gz gPP gGG gcn (d + 4) gt165 329 [some (.ref m), some (.int (zi by2)), some (.int (zi mk)), some (.int (zi bg)), some (.int (zi n)), some (.int (zi zq1286)), some (.int (zi zq1339)), some (.int (zi z1393)), some (.int (zi 2)), some (.int (zi ((p0 + 6) + 6))), some (.int (zi 0))] [.int (zi jn2096v0), .ref m] h2067 (fun q _ => gSs rT 1027 ty [1007, 1016, 1017, 1018, 1019, 1020, 1021, 1022, 1023, 1024, 11999, 12999, 13999, 14999, 15999, 16999, 17999, 18999, 19999, 23999, 24999] h q.2.2 ∧ ∃ f1 ip1 w1 hh1 wd1 hg1 bs1 : Int, gfin gt165 q.1 q.2.1 = some none ∧ q.2.2.2.2.2.2 m 7 = .int (zi f1) ∧ (-1) ≤ f1 ∧ f1 ≤ 4000 ∧ q.2.2.2.2.2.2 m 16 = .int (zi ip1) ∧ 0 ≤ ip1 ∧ ip1 ≤ 1 ∧ q.2.2.2.2.2.2 m 18 = .int (zi w1) ∧ 0 ≤ w1 ∧ w1 ≤ 64 ∧ q.2.2.2.2.2.2 m 19 = .int (zi hh1) ∧ 0 ≤ hh1 ∧ hh1 ≤ 64 ∧ q.2.2.2.2.2.2 m 21 = .int (zi wd1) ∧ 0 ≤ wd1 ∧ wd1 ≤ 2 ∧ q.2.2.2.2.2.2 m 22 = .int (zi hg1) ∧ 0 ≤ hg1 ∧ hg1 ≤ 2 ∧ q.2.2.2.2.2.2 m 20 = .int (zi bs1) ∧ 0 ≤ bs1 ∧ bs1 ≤ 3 ∧ (gPi ty ip1 w1 hh1 wd1 hg1 bs1 q.2.2)) := by
                                                  intro jn2096v0 jn2096d
                                                  refine gz_s 1 (pc' := 331) (L' := [some (.ref m), some (.int (zi by2)), some (.int (zi mk)), some (.int (zi bg)), some (.int (zi n)), some (.int (zi zq1286)), some (.int (zi zq1339)), some (.int (zi z1393)), some (.int (zi 2)), some (.int (zi ((p0 + 6) + 6))), some (.int (zi 0))]) (S' := [.int (zi ((p0 + 6) + 6)), .int (zi jn2096v0), .ref m]) rfl ?_
                                                  refine gz_call rfl (by decide) rfl (by decide) (by decide) (gcal_of rfl rfl rfl (Nat.le_of_ble_eq_true rfl) (gJ.recv (G := gGG) sh2067.1 tm rfl rfl)) (mm_must _ sh2067.1 m tm jn2096v0 (by omega) ((p0 + 6) + 6) (by omega) fq2039_0 s2090 (by omega)) (fun q2097 _ wq2097 => ?_)
                                                  obtain ⟨pq2097, oq2097, hq2097⟩ := q2097
                                                  obtain ⟨xq2097, zq2097, fq2097_0, gq2097, aq2097, bq2097, efq2097_0, afq2097_0, bfq2097_0, uq2097_0, uq2097_1⟩ := wq2097
                                                  refine ⟨_, gq2097, ?_⟩
                                                  show gz gPP gGG gcn _ _ 334 [some (.ref m), some (.int (zi by2)), some (.int (zi mk)), some (.int (zi bg)), some (.int (zi n)), some (.int (zi zq1286)), some (.int (zi zq1339)), some (.int (zi z1393)), some (.int (zi 2)), some (.int (zi ((p0 + 6) + 6))), some (.int (zi 0))] [.int (zi zq2097)] hq2097 _
                                                  have sq2097 := gSs.tr sh2067 xq2097 (by decide)
                                                  have s2098 := (xq2097.2.2.2.2.2 m 5 (by rw [tm]; decide)).trans s2076
                                                  have s2099 := (xq2097.2.2.2.2.2 m 6 (by rw [tm]; decide)).trans s2077
                                                  have s2100 := (xq2097.2.2.2.2.2 m 3 (by rw [tm]; decide)).trans s2078
                                                  have s2101 := (xq2097.2.2.2.2.2 m 16 (by rw [tm]; decide)).trans s2079
                                                  have s2102 := (xq2097.2.2.2.2.2 m 18 (by rw [tm]; decide)).trans s2080
                                                  have s2103 := (xq2097.2.2.2.2.2 m 19 (by rw [tm]; decide)).trans s2081
                                                  have s2104 := (xq2097.2.2.2.2.2 m 21 (by rw [tm]; decide)).trans s2082
                                                  have s2105 := (xq2097.2.2.2.2.2 m 22 (by rw [tm]; decide)).trans s2083
                                                  have s2106 := (xq2097.2.2.2.2.2 m 20 (by rw [tm]; decide)).trans s2084
                                                  have s2107 := (xq2097.2.2.2.2.2 m 4 (by rw [tm]; decide)).trans s2085
                                                  have s2108 := (xq2097.2.2.2.2.2 m 25 (by rw [tm]; decide)).trans s2086
                                                  have s2109 := (xq2097.2.2.2.2.2 m 26 (by rw [tm]; decide)).trans s2087
                                                  have s2110 := (xq2097.2.2.2.2.2 m 27 (by rw [tm]; decide)).trans s2088
                                                  have s2111 := (xq2097.2.2.2.2.2 m 28 (by rw [tm]; decide)).trans s2089
                                                  have pr2112 := gEl.fr xq2097.2 (by decide) (fun _ => rfl) pr2068
                                                  have pr2113 := gEl.fr xq2097.2 (by decide) (fun _ => rfl) pr2069
                                                  have pr2114 := gEl.fr xq2097.2 (by decide) (fun _ => rfl) pr2070
                                                  have pr2115 := gEl.fr xq2097.2 (by decide) (fun _ => rfl) pr2071
                                                  have pr2116 := gEl.fr xq2097.2 (by decide) (fun _ => rfl) pr2072
                                                  have pr2117 := gEl.fr xq2097.2 (by decide) (fun _ => rfl) pr2073
                                                  have pr2118 := gEl.fr xq2097.2 (by decide) (fun _ => rfl) pr2074
                                                  have pr2119 := gEl.fr xq2097.2 (by decide) (fun _ => rfl) pr2075
                                                  have pr2120 := gEl.fr xq2097.2 (by decide) (fun _ => rfl) pr2091
                                                  clear s2076 s2077 s2078 s2079 s2080 s2081 s2082 s2083 s2084 s2085 s2086 s2087 s2088 s2089 s2090 pr2068 pr2069 pr2070 pr2071 pr2072 pr2073 pr2074 pr2075 pr2091
                                                  refine gy_s 5 (pc' := 303) (L' := [some (.ref m), some (.int (zi by2)), some (.int (zi mk)), some (.int (zi bg)), some (.int (zi n)), some (.int (zi zq1286)), some (.int (zi zq1339)), some (.int (zi z1393)), some (.int (zi 2)), some (.int (zi ((p0 + 6) + 6))), some (.int ((zi 0) + zi 1))]) (S' := [.int (zi 2), .int ((zi 0) + zi 1)]) (L2 := [some (.ref m), some (.int (zi by2)), some (.int (zi mk)), some (.int (zi bg)), some (.int (zi n)), some (.int (zi zq1286)), some (.int (zi zq1339)), some (.int (zi z1393)), some (.int (zi 2)), some (.int (zi ((p0 + 6) + 6))), some (.int (zi 1))]) (S2 := [.int (zi 2), .int (zi 1)]) rfl (by simp only [zi_add, zi_sub, zi_mul, zi_neg, zi_and1, zi_and7, zi_and15, zi_and31, zi_and255, Int.reduceAdd, Int.reduceMul, Int.reduceSub]) (by simp only [zi_add, zi_sub, zi_mul, zi_neg, zi_and1, zi_and7, zi_and15, zi_and31, zi_and255, Int.reduceAdd, Int.reduceMul, Int.reduceSub]) ?_
                                                  refine gy_icF rfl (by decide) (by decide) (by omega) (by omega) (by first | (simp [zc]; done) | (simp only [zc]; omega)) ?_
                                                  refine gz_s 2 (pc' := 308) (L' := [some (.ref m), some (.int (zi by2)), some (.int (zi mk)), some (.int (zi bg)), some (.int (zi n)), some (.int (zi zq1286)), some (.int (zi zq1339)), some (.int (zi z1393)), some (.int (zi 2)), some (.int (zi ((p0 + 6) + 6))), some (.int (zi 1))]) (S' := [.ref m, .ref m]) rfl ?_
                                                  refine gs_gtk rfl (by decide) rfl sq2097.1 tm rfl rfl s2108 ?_
                                                  refine gz_s 1 (pc' := 313) (L' := [some (.ref m), some (.int (zi by2)), some (.int (zi mk)), some (.int (zi bg)), some (.int (zi n)), some (.int (zi zq1286)), some (.int (zi zq1339)), some (.int (zi z1393)), some (.int (zi 2)), some (.int (zi ((p0 + 6) + 6))), some (.int (zi 1))]) (S' := [.int (zi 1), .ref c1755, .ref m]) rfl ?_
                                                  have hl2121 : 3 ≤ hq2097.2.2.2.1 c1755 ∧ hq2097.2.2.2.1 c1755 ≤ 3 := gJ.rowl (G := gGG) sq2097.1 tc1755 rfl
                                                  refine gs_alx rfl (by decide) sq2097.1 tc1755 rfl rfl rfl (by decide) (fun _ => rfl) (by omega) (by omega) (by decide) pr2116 (fun ex2122 ax2122 bx2122 => ?_)
                                                  refine gz_s 1 (pc' := 315) (L' := [some (.ref m), some (.int (zi by2)), some (.int (zi mk)), some (.int (zi bg)), some (.int (zi n)), some (.int (zi zq1286)), some (.int (zi zq1339)), some (.int (zi z1393)), some (.int (zi 2)), some (.int (zi ((p0 + 6) + 6))), some (.int (zi 1))]) (S' := [.ref m, .int (zi z1885), .ref m]) rfl ?_
                                                  refine gs_gtk rfl (by decide) rfl sq2097.1 tm rfl rfl s2108 ?_
                                                  refine gz_s 1 (pc' := 320) (L' := [some (.ref m), some (.int (zi by2)), some (.int (zi mk)), some (.int (zi bg)), some (.int (zi n)), some (.int (zi zq1286)), some (.int (zi zq1339)), some (.int (zi z1393)), some (.int (zi 2)), some (.int (zi ((p0 + 6) + 6))), some (.int (zi 1))]) (S' := [.int (zi 2), .ref c1755, .int (zi z1885), .ref m]) rfl ?_
                                                  have hl2123 : 3 ≤ hq2097.2.2.2.1 c1755 ∧ hq2097.2.2.2.1 c1755 ≤ 3 := gJ.rowl (G := gGG) sq2097.1 tc1755 rfl
                                                  refine gs_alx rfl (by decide) sq2097.1 tc1755 rfl rfl rfl (by decide) (fun _ => rfl) (by omega) (by omega) (by decide) pr2120 (fun ex2124 ax2124 bx2124 => ?_)
                                                  have jn2125 : ∀ (jn2125v0 : Int), ((0 ≤ jn2125v0) ∧ (jn2125v0 ≤ 1)) → gz gPP gGG gcn (d + 4) gt165 329 [some (.ref m), some (.int (zi by2)), some (.int (zi mk)), some (.int (zi bg)), some (.int (zi n)), some (.int (zi zq1286)), some (.int (zi zq1339)), some (.int (zi z1393)), some (.int (zi 2)), some (.int (zi ((p0 + 6) + 6))), some (.int (zi 1))] [.int (zi jn2125v0), .ref m] hq2097 (fun q _ => gSs rT 1027 ty [1007, 1016, 1017, 1018, 1019, 1020, 1021, 1022, 1023, 1024, 11999, 12999, 13999, 14999, 15999, 16999, 17999, 18999, 19999, 23999, 24999] h q.2.2 ∧ ∃ f1 ip1 w1 hh1 wd1 hg1 bs1 : Int, gfin gt165 q.1 q.2.1 = some none ∧ q.2.2.2.2.2.2 m 7 = .int (zi f1) ∧ (-1) ≤ f1 ∧ f1 ≤ 4000 ∧ q.2.2.2.2.2.2 m 16 = .int (zi ip1) ∧ 0 ≤ ip1 ∧ ip1 ≤ 1 ∧ q.2.2.2.2.2.2 m 18 = .int (zi w1) ∧ 0 ≤ w1 ∧ w1 ≤ 64 ∧ q.2.2.2.2.2.2 m 19 = .int (zi hh1) ∧ 0 ≤ hh1 ∧ hh1 ≤ 64 ∧ q.2.2.2.2.2.2 m 21 = .int (zi wd1) ∧ 0 ≤ wd1 ∧ wd1 ≤ 2 ∧ q.2.2.2.2.2.2 m 22 = .int (zi hg1) ∧ 0 ≤ hg1 ∧ hg1 ≤ 2 ∧ q.2.2.2.2.2.2 m 20 = .int (zi bs1) ∧ 0 ≤ bs1 ∧ bs1 ≤ 3 ∧ (gPi ty ip1 w1 hh1 wd1 hg1 bs1 q.2.2)) := by
                                                    intro jn2125v0 jn2125d
                                                    refine gz_s 1 (pc' := 331) (L' := [some (.ref m), some (.int (zi by2)), some (.int (zi mk)), some (.int (zi bg)), some (.int (zi n)), some (.int (zi zq1286)), some (.int (zi zq1339)), some (.int (zi z1393)), some (.int (zi 2)), some (.int (zi ((p0 + 6) + 6))), some (.int (zi 1))]) (S' := [.int (zi ((p0 + 6) + 6)), .int (zi jn2125v0), .ref m]) rfl ?_
                                                    refine gz_call rfl (by decide) rfl (by decide) (by decide) (gcal_of rfl rfl rfl (Nat.le_of_ble_eq_true rfl) (gJ.recv (G := gGG) sq2097.1 tm rfl rfl)) (mm_must _ sq2097.1 m tm jn2125v0 (by omega) ((p0 + 6) + 6) (by omega) fq2097_0 efq2097_0 (by omega)) (fun q2126 _ wq2126 => ?_)
                                                    obtain ⟨pq2126, oq2126, hq2126⟩ := q2126
                                                    obtain ⟨xq2126, zq2126, fq2126_0, gq2126, aq2126, bq2126, efq2126_0, afq2126_0, bfq2126_0, uq2126_0, uq2126_1⟩ := wq2126
                                                    refine ⟨_, gq2126, ?_⟩
                                                    show gz gPP gGG gcn _ _ 334 [some (.ref m), some (.int (zi by2)), some (.int (zi mk)), some (.int (zi bg)), some (.int (zi n)), some (.int (zi zq1286)), some (.int (zi zq1339)), some (.int (zi z1393)), some (.int (zi 2)), some (.int (zi ((p0 + 6) + 6))), some (.int (zi 1))] [.int (zi zq2126)] hq2126 _
                                                    have sq2126 := gSs.tr sq2097 xq2126 (by decide)
                                                    have s2127 := (xq2126.2.2.2.2.2 m 5 (by rw [tm]; decide)).trans s2098
                                                    have s2128 := (xq2126.2.2.2.2.2 m 6 (by rw [tm]; decide)).trans s2099
                                                    have s2129 := (xq2126.2.2.2.2.2 m 3 (by rw [tm]; decide)).trans s2100
                                                    have s2130 := (xq2126.2.2.2.2.2 m 16 (by rw [tm]; decide)).trans s2101
                                                    have s2131 := (xq2126.2.2.2.2.2 m 18 (by rw [tm]; decide)).trans s2102
                                                    have s2132 := (xq2126.2.2.2.2.2 m 19 (by rw [tm]; decide)).trans s2103
                                                    have s2133 := (xq2126.2.2.2.2.2 m 21 (by rw [tm]; decide)).trans s2104
                                                    have s2134 := (xq2126.2.2.2.2.2 m 22 (by rw [tm]; decide)).trans s2105
                                                    have s2135 := (xq2126.2.2.2.2.2 m 20 (by rw [tm]; decide)).trans s2106
                                                    have s2136 := (xq2126.2.2.2.2.2 m 4 (by rw [tm]; decide)).trans s2107
                                                    have s2137 := (xq2126.2.2.2.2.2 m 25 (by rw [tm]; decide)).trans s2108
                                                    have s2138 := (xq2126.2.2.2.2.2 m 26 (by rw [tm]; decide)).trans s2109
                                                    have s2139 := (xq2126.2.2.2.2.2 m 27 (by rw [tm]; decide)).trans s2110
                                                    have s2140 := (xq2126.2.2.2.2.2 m 28 (by rw [tm]; decide)).trans s2111
                                                    have pr2141 := gEl.fr xq2126.2 (by decide) (fun _ => rfl) pr2112
                                                    have pr2142 := gEl.fr xq2126.2 (by decide) (fun _ => rfl) pr2113
                                                    have pr2143 := gEl.fr xq2126.2 (by decide) (fun _ => rfl) pr2114
                                                    have pr2144 := gEl.fr xq2126.2 (by decide) (fun _ => rfl) pr2115
                                                    have pr2145 := gEl.fr xq2126.2 (by decide) (fun _ => rfl) pr2116
                                                    have pr2146 := gEl.fr xq2126.2 (by decide) (fun _ => rfl) pr2117
                                                    have pr2147 := gEl.fr xq2126.2 (by decide) (fun _ => rfl) pr2118
                                                    have pr2148 := gEl.fr xq2126.2 (by decide) (fun _ => rfl) pr2119
                                                    have pr2149 := gEl.fr xq2126.2 (by decide) (fun _ => rfl) pr2120
                                                    clear s2098 s2099 s2100 s2101 s2102 s2103 s2104 s2105 s2106 s2107 s2108 s2109 s2110 s2111 pr2112 pr2113 pr2114 pr2115 pr2116 pr2117 pr2118 pr2119 pr2120
                                                    refine gy_s 5 (pc' := 303) (L' := [some (.ref m), some (.int (zi by2)), some (.int (zi mk)), some (.int (zi bg)), some (.int (zi n)), some (.int (zi zq1286)), some (.int (zi zq1339)), some (.int (zi z1393)), some (.int (zi 2)), some (.int (zi ((p0 + 6) + 6))), some (.int ((zi 1) + zi 1))]) (S' := [.int (zi 2), .int ((zi 1) + zi 1)]) (L2 := [some (.ref m), some (.int (zi by2)), some (.int (zi mk)), some (.int (zi bg)), some (.int (zi n)), some (.int (zi zq1286)), some (.int (zi zq1339)), some (.int (zi z1393)), some (.int (zi 2)), some (.int (zi ((p0 + 6) + 6))), some (.int (zi 2))]) (S2 := [.int (zi 2), .int (zi 2)]) rfl (by simp only [zi_add, zi_sub, zi_mul, zi_neg, zi_and1, zi_and7, zi_and15, zi_and31, zi_and255, Int.reduceAdd, Int.reduceMul, Int.reduceSub]) (by simp only [zi_add, zi_sub, zi_mul, zi_neg, zi_and1, zi_and7, zi_and15, zi_and31, zi_and255, Int.reduceAdd, Int.reduceMul, Int.reduceSub]) ?_
                                                    refine gy_icT (pc' := 341) rfl (by decide) (by decide) (by omega) (by omega) (by first | (simp [zc]; done) | (simp only [zc]; omega)) ?_
                                                    refine gz_s 1 (pc' := 342) (L' := [some (.ref m), some (.int (zi by2)), some (.int (zi mk)), some (.int (zi bg)), some (.int (zi n)), some (.int (zi zq1286)), some (.int (zi zq1339)), some (.int (zi z1393)), some (.int (zi 2)), some (.int (zi ((p0 + 6) + 6))), some (.int (zi 2))]) (S' := [.ref m]) rfl ?_
                                                    refine gs_gtk rfl (by decide) rfl sq2126.1 tm rfl rfl s2138 ?_
                                                    refine gz_s 2 (pc' := 348) (L' := [some (.ref m), some (.int (zi by2)), some (.int (zi mk)), some (.int (zi bg)), some (.int (zi n)), some (.int (zi zq1286)), some (.int (zi zq1339)), some (.int (zi z1393)), some (.int (zi 2)), some (.int (zi ((p0 + 6) + 6))), some (.int (zi 2))]) (S' := [.ref m, .int (zi 2), .ref c1774]) rfl ?_
                                                    refine gs_gtk rfl (by decide) rfl sq2126.1 tm rfl rfl s2136 ?_
                                                    refine gy_s 3 (pc' := 355) (L' := [some (.ref m), some (.int (zi by2)), some (.int (zi mk)), some (.int (zi bg)), some (.int (zi n)), some (.int (zi zq1286)), some (.int (zi zq1339)), some (.int (zi z1393)), some (.int (zi 2)), some (.int (zi ((p0 + 6) + 6))), some (.int (zi 2))]) (S' := [.int ((zi ((p0 + 6) + 6)) + (zi 1)), .ref c49, .int (zi 2), .ref c1774]) (L2 := [some (.ref m), some (.int (zi by2)), some (.int (zi mk)), some (.int (zi bg)), some (.int (zi n)), some (.int (zi zq1286)), some (.int (zi zq1339)), some (.int (zi z1393)), some (.int (zi 2)), some (.int (zi ((p0 + 6) + 6))), some (.int (zi 2))]) (S2 := [.int (zi (((p0 + 6) + 6) + 1)), .ref c49, .int (zi 2), .ref c1774]) rfl (by simp only [zi_add, zi_sub, zi_mul, zi_neg, zi_and1, zi_and7, zi_and15, zi_and31, zi_and255, Int.reduceAdd, Int.reduceMul, Int.reduceSub]) (by simp only [zi_add, zi_sub, zi_mul, zi_neg, zi_and1, zi_and7, zi_and15, zi_and31, zi_and255, Int.reduceAdd, Int.reduceMul, Int.reduceSub]) ?_
                                                    have hl2150 : 2000 ≤ hq2126.2.2.2.1 c49 ∧ hq2126.2.2.2.1 c49 ≤ 2000 := gJ.rowl (G := gGG) sq2126.1 tc49 rfl
                                                    refine gs_ald rfl (by decide) sq2126.1 tc49 rfl rfl rfl (by decide) (fun _ => rfl) (by omega) (by omega) (fun z2151 ez2151 az2151 bz2151 => ?_)
                                                    refine gz_s 1 (pc' := 358) (L' := [some (.ref m), some (.int (zi by2)), some (.int (zi mk)), some (.int (zi bg)), some (.int (zi n)), some (.int (zi zq1286)), some (.int (zi zq1339)), some (.int (zi z1393)), some (.int (zi 2)), some (.int (zi ((p0 + 6) + 6))), some (.int (zi 2))]) (S' := [.int (zi 16), .int (zi z2151), .int (zi 2), .ref c1774]) rfl ?_
                                                    refine gy_div rfl (by decide) (by omega) (by omega) ?_
                                                    have hl2152 : 3 ≤ hq2126.2.2.2.1 c1774 ∧ hq2126.2.2.2.1 c1774 ≤ 3 := gJ.rowl (G := gGG) sq2126.1 tc1774 rfl
                                                    refine gs_ast rfl (by decide) sq2126 tc1774 rfl rfl rfl (by decide) (fun _ => rfl) (by omega) (by omega) (fun _ => (by decide : (12999 : Nat) ∈ ([1007, 1016, 1017, 1018, 1019, 1020, 1021, 1022, 1023, 1024, 11999, 12999, 13999, 14999, 15999, 16999, 17999, 18999, 19999, 23999, 24999] : List Nat))) (by omega) (by omega) (fun h2153 sh2153 eh2153 fh2153 => ?_)
                                                    have pr2154 := gEl.pt fh2153 tc1774 (by decide) pr2141
                                                    have pr2155 := gEl.ot fh2153 pr2142 (i := 2) (by omega)
                                                    have pr2156 := gEl.pt fh2153 tc1774 (by decide) pr2143
                                                    have pr2157 := gEl.pt fh2153 tc1774 (by decide) pr2144
                                                    have pr2158 := gEl.pt fh2153 tc1774 (by decide) pr2145
                                                    have pr2159 := gEl.ot fh2153 pr2146 (i := 2) (by omega)
                                                    have pr2160 := gEl.pt fh2153 tc1774 (by decide) pr2147
                                                    have pr2161 := gEl.pt fh2153 tc1774 (by decide) pr2148
                                                    have pr2162 := gEl.pt fh2153 tc1774 (by decide) pr2149
                                                    have s2163 := (fh2153 m 5 (fun q => absurd (((tm).symm.trans (congrArg ty q.1)).trans tc1774) (by decide))).trans s2127
                                                    have s2164 := (fh2153 m 6 (fun q => absurd (((tm).symm.trans (congrArg ty q.1)).trans tc1774) (by decide))).trans s2128
                                                    have s2165 := (fh2153 m 3 (fun q => absurd (((tm).symm.trans (congrArg ty q.1)).trans tc1774) (by decide))).trans s2129
                                                    have s2166 := (fh2153 m 16 (fun q => absurd (((tm).symm.trans (congrArg ty q.1)).trans tc1774) (by decide))).trans s2130
                                                    have s2167 := (fh2153 m 18 (fun q => absurd (((tm).symm.trans (congrArg ty q.1)).trans tc1774) (by decide))).trans s2131
                                                    have s2168 := (fh2153 m 19 (fun q => absurd (((tm).symm.trans (congrArg ty q.1)).trans tc1774) (by decide))).trans s2132
                                                    have s2169 := (fh2153 m 21 (fun q => absurd (((tm).symm.trans (congrArg ty q.1)).trans tc1774) (by decide))).trans s2133
                                                    have s2170 := (fh2153 m 22 (fun q => absurd (((tm).symm.trans (congrArg ty q.1)).trans tc1774) (by decide))).trans s2134
                                                    have s2171 := (fh2153 m 20 (fun q => absurd (((tm).symm.trans (congrArg ty q.1)).trans tc1774) (by decide))).trans s2135
                                                    have s2172 := (fh2153 m 4 (fun q => absurd (((tm).symm.trans (congrArg ty q.1)).trans tc1774) (by decide))).trans s2136
                                                    have s2173 := (fh2153 m 25 (fun q => absurd (((tm).symm.trans (congrArg ty q.1)).trans tc1774) (by decide))).trans s2137
                                                    have s2174 := (fh2153 m 26 (fun q => absurd (((tm).symm.trans (congrArg ty q.1)).trans tc1774) (by decide))).trans s2138
                                                    have s2175 := (fh2153 m 27 (fun q => absurd (((tm).symm.trans (congrArg ty q.1)).trans tc1774) (by decide))).trans s2139
                                                    have s2176 := (fh2153 m 28 (fun q => absurd (((tm).symm.trans (congrArg ty q.1)).trans tc1774) (by decide))).trans s2140
                                                    have s2177 := (fh2153 m 7 (fun q => absurd (((tm).symm.trans (congrArg ty q.1)).trans tc1774) (by decide))).trans efq2126_0
                                                    clear s2127 s2128 s2129 s2130 s2131 s2132 s2133 s2134 s2135 s2136 s2137 s2138 s2139 s2140 pr2141 pr2142 pr2143 pr2144 pr2145 pr2146 pr2147 pr2148 pr2149
                                                    have pr2178 := gEl.set (i := 2) (z := z2151 / 16) uq tc1774 (by decide) eh2153 (by omega) (by omega)
                                                    refine gz_s 1 (pc' := 361) (L' := [some (.ref m), some (.int (zi by2)), some (.int (zi mk)), some (.int (zi bg)), some (.int (zi n)), some (.int (zi zq1286)), some (.int (zi zq1339)), some (.int (zi z1393)), some (.int (zi 2)), some (.int (zi ((p0 + 6) + 6))), some (.int (zi 2))]) (S' := [.ref m]) rfl ?_
                                                    refine gs_gtk rfl (by decide) rfl sh2153.1 tm rfl rfl s2175 ?_
                                                    refine gz_s 2 (pc' := 367) (L' := [some (.ref m), some (.int (zi by2)), some (.int (zi mk)), some (.int (zi bg)), some (.int (zi n)), some (.int (zi zq1286)), some (.int (zi zq1339)), some (.int (zi z1393)), some (.int (zi 2)), some (.int (zi ((p0 + 6) + 6))), some (.int (zi 2))]) (S' := [.ref m, .int (zi 2), .ref c1794]) rfl ?_
                                                    refine gs_gtk rfl (by decide) rfl sh2153.1 tm rfl rfl s2172 ?_
                                                    refine gy_s 3 (pc' := 374) (L' := [some (.ref m), some (.int (zi by2)), some (.int (zi mk)), some (.int (zi bg)), some (.int (zi n)), some (.int (zi zq1286)), some (.int (zi zq1339)), some (.int (zi z1393)), some (.int (zi 2)), some (.int (zi ((p0 + 6) + 6))), some (.int (zi 2))]) (S' := [.int ((zi ((p0 + 6) + 6)) + (zi 1)), .ref c49, .int (zi 2), .ref c1794]) (L2 := [some (.ref m), some (.int (zi by2)), some (.int (zi mk)), some (.int (zi bg)), some (.int (zi n)), some (.int (zi zq1286)), some (.int (zi zq1339)), some (.int (zi z1393)), some (.int (zi 2)), some (.int (zi ((p0 + 6) + 6))), some (.int (zi 2))]) (S2 := [.int (zi (((p0 + 6) + 6) + 1)), .ref c49, .int (zi 2), .ref c1794]) rfl (by simp only [zi_add, zi_sub, zi_mul, zi_neg, zi_and1, zi_and7, zi_and15, zi_and31, zi_and255, Int.reduceAdd, Int.reduceMul, Int.reduceSub]) (by simp only [zi_add, zi_sub, zi_mul, zi_neg, zi_and1, zi_and7, zi_and15, zi_and31, zi_and255, Int.reduceAdd, Int.reduceMul, Int.reduceSub]) ?_
                                                    have hl2179 : 2000 ≤ h2153.2.2.2.1 c49 ∧ h2153.2.2.2.1 c49 ≤ 2000 := gJ.rowl (G := gGG) sh2153.1 tc49 rfl
                                                    refine gs_ald rfl (by decide) sh2153.1 tc49 rfl rfl rfl (by decide) (fun _ => rfl) (by omega) (by omega) (fun z2180 ez2180 az2180 bz2180 => ?_)
                                                    refine gz_s 1 (pc' := 377) (L' := [some (.ref m), some (.int (zi by2)), some (.int (zi mk)), some (.int (zi bg)), some (.int (zi n)), some (.int (zi zq1286)), some (.int (zi zq1339)), some (.int (zi z1393)), some (.int (zi 2)), some (.int (zi ((p0 + 6) + 6))), some (.int (zi 2))]) (S' := [.int (zi 16), .int (zi z2180), .int (zi 2), .ref c1794]) rfl ?_
                                                    refine gy_rem rfl (by decide) (by omega) (by omega) ?_
                                                    have hl2181 : 3 ≤ h2153.2.2.2.1 c1794 ∧ h2153.2.2.2.1 c1794 ≤ 3 := gJ.rowl (G := gGG) sh2153.1 tc1794 rfl
                                                    refine gs_ast rfl (by decide) sh2153 tc1794 rfl rfl rfl (by decide) (fun _ => rfl) (by omega) (by omega) (fun _ => (by decide : (13999 : Nat) ∈ ([1007, 1016, 1017, 1018, 1019, 1020, 1021, 1022, 1023, 1024, 11999, 12999, 13999, 14999, 15999, 16999, 17999, 18999, 19999, 23999, 24999] : List Nat))) (by omega) (by omega) (fun h2182 sh2182 eh2182 fh2182 => ?_)
                                                    have pr2183 := gEl.pt fh2182 tc1794 (by decide) pr2154
                                                    have pr2184 := gEl.pt fh2182 tc1794 (by decide) pr2155
                                                    have pr2185 := gEl.ot fh2182 pr2156 (i := 2) (by omega)
                                                    have pr2186 := gEl.pt fh2182 tc1794 (by decide) pr2157
                                                    have pr2187 := gEl.pt fh2182 tc1794 (by decide) pr2158
                                                    have pr2188 := gEl.pt fh2182 tc1794 (by decide) pr2159
                                                    have pr2189 := gEl.ot fh2182 pr2160 (i := 2) (by omega)
                                                    have pr2190 := gEl.pt fh2182 tc1794 (by decide) pr2161
                                                    have pr2191 := gEl.pt fh2182 tc1794 (by decide) pr2162
                                                    have pr2192 := gEl.pt fh2182 tc1794 (by decide) pr2178
                                                    have s2193 := (fh2182 m 5 (fun q => absurd (((tm).symm.trans (congrArg ty q.1)).trans tc1794) (by decide))).trans s2163
                                                    have s2194 := (fh2182 m 6 (fun q => absurd (((tm).symm.trans (congrArg ty q.1)).trans tc1794) (by decide))).trans s2164
                                                    have s2195 := (fh2182 m 3 (fun q => absurd (((tm).symm.trans (congrArg ty q.1)).trans tc1794) (by decide))).trans s2165
                                                    have s2196 := (fh2182 m 16 (fun q => absurd (((tm).symm.trans (congrArg ty q.1)).trans tc1794) (by decide))).trans s2166
                                                    have s2197 := (fh2182 m 18 (fun q => absurd (((tm).symm.trans (congrArg ty q.1)).trans tc1794) (by decide))).trans s2167
                                                    have s2198 := (fh2182 m 19 (fun q => absurd (((tm).symm.trans (congrArg ty q.1)).trans tc1794) (by decide))).trans s2168
                                                    have s2199 := (fh2182 m 21 (fun q => absurd (((tm).symm.trans (congrArg ty q.1)).trans tc1794) (by decide))).trans s2169
                                                    have s2200 := (fh2182 m 22 (fun q => absurd (((tm).symm.trans (congrArg ty q.1)).trans tc1794) (by decide))).trans s2170
                                                    have s2201 := (fh2182 m 20 (fun q => absurd (((tm).symm.trans (congrArg ty q.1)).trans tc1794) (by decide))).trans s2171
                                                    have s2202 := (fh2182 m 4 (fun q => absurd (((tm).symm.trans (congrArg ty q.1)).trans tc1794) (by decide))).trans s2172
                                                    have s2203 := (fh2182 m 25 (fun q => absurd (((tm).symm.trans (congrArg ty q.1)).trans tc1794) (by decide))).trans s2173
                                                    have s2204 := (fh2182 m 26 (fun q => absurd (((tm).symm.trans (congrArg ty q.1)).trans tc1794) (by decide))).trans s2174
                                                    have s2205 := (fh2182 m 27 (fun q => absurd (((tm).symm.trans (congrArg ty q.1)).trans tc1794) (by decide))).trans s2175
                                                    have s2206 := (fh2182 m 28 (fun q => absurd (((tm).symm.trans (congrArg ty q.1)).trans tc1794) (by decide))).trans s2176
                                                    have s2207 := (fh2182 m 7 (fun q => absurd (((tm).symm.trans (congrArg ty q.1)).trans tc1794) (by decide))).trans s2177
                                                    clear s2163 s2164 s2165 s2166 s2167 s2168 s2169 s2170 s2171 s2172 s2173 s2174 s2175 s2176 s2177 pr2154 pr2155 pr2156 pr2157 pr2158 pr2159 pr2160 pr2161 pr2162 pr2178
                                                    have pr2208 := gEl.set (i := 2) (z := z2180 % 16) uq tc1794 (by decide) eh2182 (by omega) (by omega)
                                                    refine gz_s 2 (pc' := 381) (L' := [some (.ref m), some (.int (zi by2)), some (.int (zi mk)), some (.int (zi bg)), some (.int (zi n)), some (.int (zi zq1286)), some (.int (zi zq1339)), some (.int (zi z1393)), some (.int (zi 2)), some (.int (zi ((p0 + 6) + 6))), some (.int (zi 2))]) (S' := [.ref m, .ref m]) rfl ?_
                                                    refine gs_gtk rfl (by decide) rfl sh2182.1 tm rfl rfl s2204 ?_
                                                    refine gz_s 1 (pc' := 386) (L' := [some (.ref m), some (.int (zi by2)), some (.int (zi mk)), some (.int (zi bg)), some (.int (zi n)), some (.int (zi zq1286)), some (.int (zi zq1339)), some (.int (zi z1393)), some (.int (zi 2)), some (.int (zi ((p0 + 6) + 6))), some (.int (zi 2))]) (S' := [.int (zi 2), .ref c1774, .ref m]) rfl ?_
                                                    have hl2209 : 3 ≤ h2182.2.2.2.1 c1774 ∧ h2182.2.2.2.1 c1774 ≤ 3 := gJ.rowl (G := gGG) sh2182.1 tc1774 rfl
                                                    refine gs_alx rfl (by decide) sh2182.1 tc1774 rfl rfl rfl (by decide) (fun _ => rfl) (by omega) (by omega) (by decide) pr2192 (fun ex2210 ax2210 bx2210 => ?_)
                                                    refine gz_s 1 (pc' := 388) (L' := [some (.ref m), some (.int (zi by2)), some (.int (zi mk)), some (.int (zi bg)), some (.int (zi n)), some (.int (zi zq1286)), some (.int (zi zq1339)), some (.int (zi z1393)), some (.int (zi 2)), some (.int (zi ((p0 + 6) + 6))), some (.int (zi 2))]) (S' := [.int (zi 1), .int (zi (z2151 / 16)), .ref m]) rfl ?_
                                                    have jn2211 : ∀ (jn2211v0 : Int), ((0 ≤ jn2211v0) ∧ (jn2211v0 ≤ 1) ∧ (jn2211v0 = 1 → (1 ≤ z2151 / 16 ∧ z2151 / 16 ≤ 2 ∧ 1 ≤ z2180 % 16 ∧ z2180 % 16 ≤ 2))) → gz gPP gGG gcn (d + 4) gt165 429 [some (.ref m), some (.int (zi by2)), some (.int (zi mk)), some (.int (zi bg)), some (.int (zi n)), some (.int (zi zq1286)), some (.int (zi zq1339)), some (.int (zi z1393)), some (.int (zi 2)), some (.int (zi ((p0 + 6) + 6))), some (.int (zi 2))] [.int (zi jn2211v0), .ref m] h2182 (fun q _ => gSs rT 1027 ty [1007, 1016, 1017, 1018, 1019, 1020, 1021, 1022, 1023, 1024, 11999, 12999, 13999, 14999, 15999, 16999, 17999, 18999, 19999, 23999, 24999] h q.2.2 ∧ ∃ f1 ip1 w1 hh1 wd1 hg1 bs1 : Int, gfin gt165 q.1 q.2.1 = some none ∧ q.2.2.2.2.2.2 m 7 = .int (zi f1) ∧ (-1) ≤ f1 ∧ f1 ≤ 4000 ∧ q.2.2.2.2.2.2 m 16 = .int (zi ip1) ∧ 0 ≤ ip1 ∧ ip1 ≤ 1 ∧ q.2.2.2.2.2.2 m 18 = .int (zi w1) ∧ 0 ≤ w1 ∧ w1 ≤ 64 ∧ q.2.2.2.2.2.2 m 19 = .int (zi hh1) ∧ 0 ≤ hh1 ∧ hh1 ≤ 64 ∧ q.2.2.2.2.2.2 m 21 = .int (zi wd1) ∧ 0 ≤ wd1 ∧ wd1 ≤ 2 ∧ q.2.2.2.2.2.2 m 22 = .int (zi hg1) ∧ 0 ≤ hg1 ∧ hg1 ≤ 2 ∧ q.2.2.2.2.2.2 m 20 = .int (zi bs1) ∧ 0 ≤ bs1 ∧ bs1 ≤ 3 ∧ (gPi ty ip1 w1 hh1 wd1 hg1 bs1 q.2.2)) := by
                                                      intro jn2211v0 jn2211d
                                                      refine gy_s 3 (pc' := 433) (L' := [some (.ref m), some (.int (zi by2)), some (.int (zi mk)), some (.int (zi bg)), some (.int (zi n)), some (.int (zi zq1286)), some (.int (zi zq1339)), some (.int (zi z1393)), some (.int (zi 2)), some (.int (zi ((p0 + 6) + 6))), some (.int (zi 2))]) (S' := [.int ((zi ((p0 + 6) + 6)) + (zi 1)), .int (zi jn2211v0), .ref m]) (L2 := [some (.ref m), some (.int (zi by2)), some (.int (zi mk)), some (.int (zi bg)), some (.int (zi n)), some (.int (zi zq1286)), some (.int (zi zq1339)), some (.int (zi z1393)), some (.int (zi 2)), some (.int (zi ((p0 + 6) + 6))), some (.int (zi 2))]) (S2 := [.int (zi (((p0 + 6) + 6) + 1)), .int (zi jn2211v0), .ref m]) rfl (by simp only [zi_add, zi_sub, zi_mul, zi_neg, zi_and1, zi_and7, zi_and15, zi_and31, zi_and255, Int.reduceAdd, Int.reduceMul, Int.reduceSub]) (by simp only [zi_add, zi_sub, zi_mul, zi_neg, zi_and1, zi_and7, zi_and15, zi_and31, zi_and255, Int.reduceAdd, Int.reduceMul, Int.reduceSub]) ?_
                                                      refine gz_call rfl (by decide) rfl (by decide) (by decide) (gcal_of rfl rfl rfl (Nat.le_of_ble_eq_true rfl) (gJ.recv (G := gGG) sh2182.1 tm rfl rfl)) (mm_must _ sh2182.1 m tm jn2211v0 (by omega) (((p0 + 6) + 6) + 1) (by omega) fq2126_0 s2207 (by omega)) (fun q2212 _ wq2212 => ?_)
                                                      obtain ⟨pq2212, oq2212, hq2212⟩ := q2212
                                                      obtain ⟨xq2212, zq2212, fq2212_0, gq2212, aq2212, bq2212, efq2212_0, afq2212_0, bfq2212_0, uq2212_0, uq2212_1⟩ := wq2212
                                                      refine ⟨_, gq2212, ?_⟩
                                                      show gz gPP gGG gcn _ _ 436 [some (.ref m), some (.int (zi by2)), some (.int (zi mk)), some (.int (zi bg)), some (.int (zi n)), some (.int (zi zq1286)), some (.int (zi zq1339)), some (.int (zi z1393)), some (.int (zi 2)), some (.int (zi ((p0 + 6) + 6))), some (.int (zi 2))] [.int (zi zq2212)] hq2212 _
                                                      have sq2212 := gSs.tr sh2182 xq2212 (by decide)
                                                      have s2213 := (xq2212.2.2.2.2.2 m 5 (by rw [tm]; decide)).trans s2193
                                                      have s2214 := (xq2212.2.2.2.2.2 m 6 (by rw [tm]; decide)).trans s2194
                                                      have s2215 := (xq2212.2.2.2.2.2 m 3 (by rw [tm]; decide)).trans s2195
                                                      have s2216 := (xq2212.2.2.2.2.2 m 16 (by rw [tm]; decide)).trans s2196
                                                      have s2217 := (xq2212.2.2.2.2.2 m 18 (by rw [tm]; decide)).trans s2197
                                                      have s2218 := (xq2212.2.2.2.2.2 m 19 (by rw [tm]; decide)).trans s2198
                                                      have s2219 := (xq2212.2.2.2.2.2 m 21 (by rw [tm]; decide)).trans s2199
                                                      have s2220 := (xq2212.2.2.2.2.2 m 22 (by rw [tm]; decide)).trans s2200
                                                      have s2221 := (xq2212.2.2.2.2.2 m 20 (by rw [tm]; decide)).trans s2201
                                                      have s2222 := (xq2212.2.2.2.2.2 m 4 (by rw [tm]; decide)).trans s2202
                                                      have s2223 := (xq2212.2.2.2.2.2 m 25 (by rw [tm]; decide)).trans s2203
                                                      have s2224 := (xq2212.2.2.2.2.2 m 26 (by rw [tm]; decide)).trans s2204
                                                      have s2225 := (xq2212.2.2.2.2.2 m 27 (by rw [tm]; decide)).trans s2205
                                                      have s2226 := (xq2212.2.2.2.2.2 m 28 (by rw [tm]; decide)).trans s2206
                                                      have pr2227 := gEl.fr xq2212.2 (by decide) (fun _ => rfl) pr2183
                                                      have pr2228 := gEl.fr xq2212.2 (by decide) (fun _ => rfl) pr2184
                                                      have pr2229 := gEl.fr xq2212.2 (by decide) (fun _ => rfl) pr2185
                                                      have pr2230 := gEl.fr xq2212.2 (by decide) (fun _ => rfl) pr2186
                                                      have pr2231 := gEl.fr xq2212.2 (by decide) (fun _ => rfl) pr2187
                                                      have pr2232 := gEl.fr xq2212.2 (by decide) (fun _ => rfl) pr2188
                                                      have pr2233 := gEl.fr xq2212.2 (by decide) (fun _ => rfl) pr2189
                                                      have pr2234 := gEl.fr xq2212.2 (by decide) (fun _ => rfl) pr2190
                                                      have pr2235 := gEl.fr xq2212.2 (by decide) (fun _ => rfl) pr2191
                                                      have pr2236 := gEl.fr xq2212.2 (by decide) (fun _ => rfl) pr2192
                                                      have pr2237 := gEl.fr xq2212.2 (by decide) (fun _ => rfl) pr2208
                                                      clear s2193 s2194 s2195 s2196 s2197 s2198 s2199 s2200 s2201 s2202 s2203 s2204 s2205 s2206 s2207 pr2183 pr2184 pr2185 pr2186 pr2187 pr2188 pr2189 pr2190 pr2191 pr2192 pr2208
                                                      refine gz_s 2 (pc' := 438) (L' := [some (.ref m), some (.int (zi by2)), some (.int (zi mk)), some (.int (zi bg)), some (.int (zi n)), some (.int (zi zq1286)), some (.int (zi zq1339)), some (.int (zi z1393)), some (.int (zi 2)), some (.int (zi ((p0 + 6) + 6))), some (.int (zi 2))]) (S' := [.ref m]) rfl ?_
                                                      refine gs_gtk rfl (by decide) rfl sq2212.1 tm rfl rfl s2226 ?_
                                                      refine gz_s 2 (pc' := 444) (L' := [some (.ref m), some (.int (zi by2)), some (.int (zi mk)), some (.int (zi bg)), some (.int (zi n)), some (.int (zi zq1286)), some (.int (zi zq1339)), some (.int (zi z1393)), some (.int (zi 2)), some (.int (zi ((p0 + 6) + 6))), some (.int (zi 2))]) (S' := [.ref m, .int (zi 2), .ref c1836]) rfl ?_
                                                      refine gs_gtk rfl (by decide) rfl sq2212.1 tm rfl rfl s2222 ?_
                                                      refine gy_s 3 (pc' := 451) (L' := [some (.ref m), some (.int (zi by2)), some (.int (zi mk)), some (.int (zi bg)), some (.int (zi n)), some (.int (zi zq1286)), some (.int (zi zq1339)), some (.int (zi z1393)), some (.int (zi 2)), some (.int (zi ((p0 + 6) + 6))), some (.int (zi 2))]) (S' := [.int ((zi ((p0 + 6) + 6)) + (zi 2)), .ref c49, .int (zi 2), .ref c1836]) (L2 := [some (.ref m), some (.int (zi by2)), some (.int (zi mk)), some (.int (zi bg)), some (.int (zi n)), some (.int (zi zq1286)), some (.int (zi zq1339)), some (.int (zi z1393)), some (.int (zi 2)), some (.int (zi ((p0 + 6) + 6))), some (.int (zi 2))]) (S2 := [.int (zi (((p0 + 6) + 6) + 2)), .ref c49, .int (zi 2), .ref c1836]) rfl (by simp only [zi_add, zi_sub, zi_mul, zi_neg, zi_and1, zi_and7, zi_and15, zi_and31, zi_and255, Int.reduceAdd, Int.reduceMul, Int.reduceSub]) (by simp only [zi_add, zi_sub, zi_mul, zi_neg, zi_and1, zi_and7, zi_and15, zi_and31, zi_and255, Int.reduceAdd, Int.reduceMul, Int.reduceSub]) ?_
                                                      have hl2238 : 2000 ≤ hq2212.2.2.2.1 c49 ∧ hq2212.2.2.2.1 c49 ≤ 2000 := gJ.rowl (G := gGG) sq2212.1 tc49 rfl
                                                      refine gs_ald rfl (by decide) sq2212.1 tc49 rfl rfl rfl (by decide) (fun _ => rfl) (by omega) (by omega) (fun z2239 ez2239 az2239 bz2239 => ?_)
                                                      have hl2240 : 3 ≤ hq2212.2.2.2.1 c1836 ∧ hq2212.2.2.2.1 c1836 ≤ 3 := gJ.rowl (G := gGG) sq2212.1 tc1836 rfl
                                                      refine gs_ast rfl (by decide) sq2212 tc1836 rfl rfl rfl (by decide) (fun _ => rfl) (by omega) (by omega) (fun _ => (by decide : (14999 : Nat) ∈ ([1007, 1016, 1017, 1018, 1019, 1020, 1021, 1022, 1023, 1024, 11999, 12999, 13999, 14999, 15999, 16999, 17999, 18999, 19999, 23999, 24999] : List Nat))) (by omega) (by omega) (fun h2241 sh2241 eh2241 fh2241 => ?_)
                                                      have pr2242 := gEl.pt fh2241 tc1836 (by decide) pr2227
                                                      have pr2243 := gEl.pt fh2241 tc1836 (by decide) pr2228
                                                      have pr2244 := gEl.pt fh2241 tc1836 (by decide) pr2229
                                                      have pr2245 := gEl.ot fh2241 pr2230 (i := 2) (by omega)
                                                      have pr2246 := gEl.pt fh2241 tc1836 (by decide) pr2231
                                                      have pr2247 := gEl.pt fh2241 tc1836 (by decide) pr2232
                                                      have pr2248 := gEl.pt fh2241 tc1836 (by decide) pr2233
                                                      have pr2249 := gEl.ot fh2241 pr2234 (i := 2) (by omega)
                                                      have pr2250 := gEl.pt fh2241 tc1836 (by decide) pr2235
                                                      have pr2251 := gEl.pt fh2241 tc1836 (by decide) pr2236
                                                      have pr2252 := gEl.pt fh2241 tc1836 (by decide) pr2237
                                                      have s2253 := (fh2241 m 5 (fun q => absurd (((tm).symm.trans (congrArg ty q.1)).trans tc1836) (by decide))).trans s2213
                                                      have s2254 := (fh2241 m 6 (fun q => absurd (((tm).symm.trans (congrArg ty q.1)).trans tc1836) (by decide))).trans s2214
                                                      have s2255 := (fh2241 m 3 (fun q => absurd (((tm).symm.trans (congrArg ty q.1)).trans tc1836) (by decide))).trans s2215
                                                      have s2256 := (fh2241 m 16 (fun q => absurd (((tm).symm.trans (congrArg ty q.1)).trans tc1836) (by decide))).trans s2216
                                                      have s2257 := (fh2241 m 18 (fun q => absurd (((tm).symm.trans (congrArg ty q.1)).trans tc1836) (by decide))).trans s2217
                                                      have s2258 := (fh2241 m 19 (fun q => absurd (((tm).symm.trans (congrArg ty q.1)).trans tc1836) (by decide))).trans s2218
                                                      have s2259 := (fh2241 m 21 (fun q => absurd (((tm).symm.trans (congrArg ty q.1)).trans tc1836) (by decide))).trans s2219
                                                      have s2260 := (fh2241 m 22 (fun q => absurd (((tm).symm.trans (congrArg ty q.1)).trans tc1836) (by decide))).trans s2220
                                                      have s2261 := (fh2241 m 20 (fun q => absurd (((tm).symm.trans (congrArg ty q.1)).trans tc1836) (by decide))).trans s2221
                                                      have s2262 := (fh2241 m 4 (fun q => absurd (((tm).symm.trans (congrArg ty q.1)).trans tc1836) (by decide))).trans s2222
                                                      have s2263 := (fh2241 m 25 (fun q => absurd (((tm).symm.trans (congrArg ty q.1)).trans tc1836) (by decide))).trans s2223
                                                      have s2264 := (fh2241 m 26 (fun q => absurd (((tm).symm.trans (congrArg ty q.1)).trans tc1836) (by decide))).trans s2224
                                                      have s2265 := (fh2241 m 27 (fun q => absurd (((tm).symm.trans (congrArg ty q.1)).trans tc1836) (by decide))).trans s2225
                                                      have s2266 := (fh2241 m 28 (fun q => absurd (((tm).symm.trans (congrArg ty q.1)).trans tc1836) (by decide))).trans s2226
                                                      have s2267 := (fh2241 m 7 (fun q => absurd (((tm).symm.trans (congrArg ty q.1)).trans tc1836) (by decide))).trans efq2212_0
                                                      clear s2213 s2214 s2215 s2216 s2217 s2218 s2219 s2220 s2221 s2222 s2223 s2224 s2225 s2226 pr2227 pr2228 pr2229 pr2230 pr2231 pr2232 pr2233 pr2234 pr2235 pr2236 pr2237
                                                      have pr2268 := gEl.set (i := 2) (z := z2239) uq tc1836 (by decide) eh2241 (by omega) (by omega)
                                                      refine gz_s 2 (pc' := 455) (L' := [some (.ref m), some (.int (zi by2)), some (.int (zi mk)), some (.int (zi bg)), some (.int (zi n)), some (.int (zi zq1286)), some (.int (zi zq1339)), some (.int (zi z1393)), some (.int (zi 2)), some (.int (zi ((p0 + 6) + 6))), some (.int (zi 2))]) (S' := [.ref m, .ref m]) rfl ?_
                                                      refine gs_gtk rfl (by decide) rfl sh2241.1 tm rfl rfl s2266 ?_
                                                      refine gz_s 1 (pc' := 460) (L' := [some (.ref m), some (.int (zi by2)), some (.int (zi mk)), some (.int (zi bg)), some (.int (zi n)), some (.int (zi zq1286)), some (.int (zi zq1339)), some (.int (zi z1393)), some (.int (zi 2)), some (.int (zi ((p0 + 6) + 6))), some (.int (zi 2))]) (S' := [.int (zi 2), .ref c1836, .ref m]) rfl ?_
                                                      have hl2269 : 3 ≤ h2241.2.2.2.1 c1836 ∧ h2241.2.2.2.1 c1836 ≤ 3 := gJ.rowl (G := gGG) sh2241.1 tc1836 rfl
                                                      refine gs_alx rfl (by decide) sh2241.1 tc1836 rfl rfl rfl (by decide) (fun _ => rfl) (by omega) (by omega) (by decide) pr2268 (fun ex2270 ax2270 bx2270 => ?_)
                                                      refine gz_s 1 (pc' := 462) (L' := [some (.ref m), some (.int (zi by2)), some (.int (zi mk)), some (.int (zi bg)), some (.int (zi n)), some (.int (zi zq1286)), some (.int (zi zq1339)), some (.int (zi z1393)), some (.int (zi 2)), some (.int (zi ((p0 + 6) + 6))), some (.int (zi 2))]) (S' := [.int (zi 4), .int (zi z2239), .ref m]) rfl ?_
                                                      have jn2271 : ∀ (jn2271v0 : Int), ((0 ≤ jn2271v0) ∧ (jn2271v0 ≤ 1) ∧ (jn2271v0 = 1 → z2239 ≤ 3)) → gz gPP gGG gcn (d + 4) gt165 470 [some (.ref m), some (.int (zi by2)), some (.int (zi mk)), some (.int (zi bg)), some (.int (zi n)), some (.int (zi zq1286)), some (.int (zi zq1339)), some (.int (zi z1393)), some (.int (zi 2)), some (.int (zi ((p0 + 6) + 6))), some (.int (zi 2))] [.int (zi jn2271v0), .ref m] h2241 (fun q _ => gSs rT 1027 ty [1007, 1016, 1017, 1018, 1019, 1020, 1021, 1022, 1023, 1024, 11999, 12999, 13999, 14999, 15999, 16999, 17999, 18999, 19999, 23999, 24999] h q.2.2 ∧ ∃ f1 ip1 w1 hh1 wd1 hg1 bs1 : Int, gfin gt165 q.1 q.2.1 = some none ∧ q.2.2.2.2.2.2 m 7 = .int (zi f1) ∧ (-1) ≤ f1 ∧ f1 ≤ 4000 ∧ q.2.2.2.2.2.2 m 16 = .int (zi ip1) ∧ 0 ≤ ip1 ∧ ip1 ≤ 1 ∧ q.2.2.2.2.2.2 m 18 = .int (zi w1) ∧ 0 ≤ w1 ∧ w1 ≤ 64 ∧ q.2.2.2.2.2.2 m 19 = .int (zi hh1) ∧ 0 ≤ hh1 ∧ hh1 ≤ 64 ∧ q.2.2.2.2.2.2 m 21 = .int (zi wd1) ∧ 0 ≤ wd1 ∧ wd1 ≤ 2 ∧ q.2.2.2.2.2.2 m 22 = .int (zi hg1) ∧ 0 ≤ hg1 ∧ hg1 ≤ 2 ∧ q.2.2.2.2.2.2 m 20 = .int (zi bs1) ∧ 0 ≤ bs1 ∧ bs1 ≤ 3 ∧ (gPi ty ip1 w1 hh1 wd1 hg1 bs1 q.2.2)) := by
                                                        intro jn2271v0 jn2271d
                                                        refine gy_s 3 (pc' := 474) (L' := [some (.ref m), some (.int (zi by2)), some (.int (zi mk)), some (.int (zi bg)), some (.int (zi n)), some (.int (zi zq1286)), some (.int (zi zq1339)), some (.int (zi z1393)), some (.int (zi 2)), some (.int (zi ((p0 + 6) + 6))), some (.int (zi 2))]) (S' := [.int ((zi ((p0 + 6) + 6)) + (zi 2)), .int (zi jn2271v0), .ref m]) (L2 := [some (.ref m), some (.int (zi by2)), some (.int (zi mk)), some (.int (zi bg)), some (.int (zi n)), some (.int (zi zq1286)), some (.int (zi zq1339)), some (.int (zi z1393)), some (.int (zi 2)), some (.int (zi ((p0 + 6) + 6))), some (.int (zi 2))]) (S2 := [.int (zi (((p0 + 6) + 6) + 2)), .int (zi jn2271v0), .ref m]) rfl (by simp only [zi_add, zi_sub, zi_mul, zi_neg, zi_and1, zi_and7, zi_and15, zi_and31, zi_and255, Int.reduceAdd, Int.reduceMul, Int.reduceSub]) (by simp only [zi_add, zi_sub, zi_mul, zi_neg, zi_and1, zi_and7, zi_and15, zi_and31, zi_and255, Int.reduceAdd, Int.reduceMul, Int.reduceSub]) ?_
                                                        refine gz_call rfl (by decide) rfl (by decide) (by decide) (gcal_of rfl rfl rfl (Nat.le_of_ble_eq_true rfl) (gJ.recv (G := gGG) sh2241.1 tm rfl rfl)) (mm_must _ sh2241.1 m tm jn2271v0 (by omega) (((p0 + 6) + 6) + 2) (by omega) fq2212_0 s2267 (by omega)) (fun q2272 _ wq2272 => ?_)
                                                        obtain ⟨pq2272, oq2272, hq2272⟩ := q2272
                                                        obtain ⟨xq2272, zq2272, fq2272_0, gq2272, aq2272, bq2272, efq2272_0, afq2272_0, bfq2272_0, uq2272_0, uq2272_1⟩ := wq2272
                                                        refine ⟨_, gq2272, ?_⟩
                                                        show gz gPP gGG gcn _ _ 477 [some (.ref m), some (.int (zi by2)), some (.int (zi mk)), some (.int (zi bg)), some (.int (zi n)), some (.int (zi zq1286)), some (.int (zi zq1339)), some (.int (zi z1393)), some (.int (zi 2)), some (.int (zi ((p0 + 6) + 6))), some (.int (zi 2))] [.int (zi zq2272)] hq2272 _
                                                        have sq2272 := gSs.tr sh2241 xq2272 (by decide)
                                                        have s2273 := (xq2272.2.2.2.2.2 m 5 (by rw [tm]; decide)).trans s2253
                                                        have s2274 := (xq2272.2.2.2.2.2 m 6 (by rw [tm]; decide)).trans s2254
                                                        have s2275 := (xq2272.2.2.2.2.2 m 3 (by rw [tm]; decide)).trans s2255
                                                        have s2276 := (xq2272.2.2.2.2.2 m 16 (by rw [tm]; decide)).trans s2256
                                                        have s2277 := (xq2272.2.2.2.2.2 m 18 (by rw [tm]; decide)).trans s2257
                                                        have s2278 := (xq2272.2.2.2.2.2 m 19 (by rw [tm]; decide)).trans s2258
                                                        have s2279 := (xq2272.2.2.2.2.2 m 21 (by rw [tm]; decide)).trans s2259
                                                        have s2280 := (xq2272.2.2.2.2.2 m 22 (by rw [tm]; decide)).trans s2260
                                                        have s2281 := (xq2272.2.2.2.2.2 m 20 (by rw [tm]; decide)).trans s2261
                                                        have s2282 := (xq2272.2.2.2.2.2 m 4 (by rw [tm]; decide)).trans s2262
                                                        have s2283 := (xq2272.2.2.2.2.2 m 25 (by rw [tm]; decide)).trans s2263
                                                        have s2284 := (xq2272.2.2.2.2.2 m 26 (by rw [tm]; decide)).trans s2264
                                                        have s2285 := (xq2272.2.2.2.2.2 m 27 (by rw [tm]; decide)).trans s2265
                                                        have s2286 := (xq2272.2.2.2.2.2 m 28 (by rw [tm]; decide)).trans s2266
                                                        have pr2287 := gEl.fr xq2272.2 (by decide) (fun _ => rfl) pr2242
                                                        have pr2288 := gEl.fr xq2272.2 (by decide) (fun _ => rfl) pr2243
                                                        have pr2289 := gEl.fr xq2272.2 (by decide) (fun _ => rfl) pr2244
                                                        have pr2290 := gEl.fr xq2272.2 (by decide) (fun _ => rfl) pr2245
                                                        have pr2291 := gEl.fr xq2272.2 (by decide) (fun _ => rfl) pr2246
                                                        have pr2292 := gEl.fr xq2272.2 (by decide) (fun _ => rfl) pr2247
                                                        have pr2293 := gEl.fr xq2272.2 (by decide) (fun _ => rfl) pr2248
                                                        have pr2294 := gEl.fr xq2272.2 (by decide) (fun _ => rfl) pr2249
                                                        have pr2295 := gEl.fr xq2272.2 (by decide) (fun _ => rfl) pr2250
                                                        have pr2296 := gEl.fr xq2272.2 (by decide) (fun _ => rfl) pr2251
                                                        have pr2297 := gEl.fr xq2272.2 (by decide) (fun _ => rfl) pr2252
                                                        have pr2298 := gEl.fr xq2272.2 (by decide) (fun _ => rfl) pr2268
                                                        clear s2253 s2254 s2255 s2256 s2257 s2258 s2259 s2260 s2261 s2262 s2263 s2264 s2265 s2266 s2267 pr2242 pr2243 pr2244 pr2245 pr2246 pr2247 pr2248 pr2249 pr2250 pr2251 pr2252 pr2268
                                                        refine gy_s 5 (pc' := 257) (L' := [some (.ref m), some (.int (zi by2)), some (.int (zi mk)), some (.int (zi bg)), some (.int (zi n)), some (.int (zi zq1286)), some (.int (zi zq1339)), some (.int (zi z1393)), some (.int ((zi 2) + zi 1)), some (.int (zi ((p0 + 6) + 6))), some (.int (zi 2))]) (S' := [.int (zi z1393), .int ((zi 2) + zi 1)]) (L2 := [some (.ref m), some (.int (zi by2)), some (.int (zi mk)), some (.int (zi bg)), some (.int (zi n)), some (.int (zi zq1286)), some (.int (zi zq1339)), some (.int (zi z1393)), some (.int (zi 3)), some (.int (zi ((p0 + 6) + 6))), some (.int (zi 2))]) (S2 := [.int (zi z1393), .int (zi 3)]) rfl (by simp only [zi_add, zi_sub, zi_mul, zi_neg, zi_and1, zi_and7, zi_and15, zi_and31, zi_and255, Int.reduceAdd, Int.reduceMul, Int.reduceSub]) (by simp only [zi_add, zi_sub, zi_mul, zi_neg, zi_and1, zi_and7, zi_and15, zi_and31, zi_and255, Int.reduceAdd, Int.reduceMul, Int.reduceSub]) ?_
                                                        refine gy_icT (pc' := 484) rfl (by decide) (by decide) (by omega) (by omega) (by first | (simp [zc]; done) | (simp only [zc]; omega)) ?_
                                                        refine gz_s 1 (pc' := 485) (L' := [some (.ref m), some (.int (zi by2)), some (.int (zi mk)), some (.int (zi bg)), some (.int (zi n)), some (.int (zi zq1286)), some (.int (zi zq1339)), some (.int (zi z1393)), some (.int (zi 3)), some (.int (zi ((p0 + 6) + 6))), some (.int (zi 2))]) (S' := [.ref m]) rfl ?_
                                                        refine gs_gtk rfl (by decide) rfl sq2272.1 tm rfl rfl efq2272_0 ?_
                                                        refine gz_s 1 (pc' := 489) (L' := [some (.ref m), some (.int (zi by2)), some (.int (zi mk)), some (.int (zi bg)), some (.int (zi n)), some (.int (zi zq1286)), some (.int (zi zq1339)), some (.int (zi z1393)), some (.int (zi 3)), some (.int (zi ((p0 + 6) + 6))), some (.int (zi 2))]) (S' := [.int (zi (-1)), .int (zi fq2272_0)]) rfl ?_
                                                        by_cases hc2299 : (fq2272_0 : Int) = (-1)
                                                        · refine gy_icT (pc' := 493) rfl (by decide) (by decide) (by omega) (by omega) hc2299 ?_
                                                          refine gz_s 2 (pc' := 495) (L' := [some (.ref m), some (.int (zi by2)), some (.int (zi mk)), some (.int (zi bg)), some (.int (zi n)), some (.int (zi zq1286)), some (.int (zi zq1339)), some (.int (zi z1393)), some (.int (zi 3)), some (.int (zi ((p0 + 6) + 6))), some (.int (zi 2))]) (S' := [.int (zi 1), .ref m]) rfl ?_
                                                          refine gs_put rfl (by decide) rfl sq2272 tm rfl rfl rfl rfl (Or.inl rfl) (by decide) (by omega) (by omega) (fun h2300 sh2300 eh2300 fh2300 => ?_)
                                                          have pr2301 := gEl.pt fh2300 tm (by decide) pr2287
                                                          have pr2302 := gEl.pt fh2300 tm (by decide) pr2288
                                                          have pr2303 := gEl.pt fh2300 tm (by decide) pr2289
                                                          have pr2304 := gEl.pt fh2300 tm (by decide) pr2290
                                                          have pr2305 := gEl.pt fh2300 tm (by decide) pr2291
                                                          have pr2306 := gEl.pt fh2300 tm (by decide) pr2292
                                                          have pr2307 := gEl.pt fh2300 tm (by decide) pr2293
                                                          have pr2308 := gEl.pt fh2300 tm (by decide) pr2294
                                                          have pr2309 := gEl.pt fh2300 tm (by decide) pr2295
                                                          have pr2310 := gEl.pt fh2300 tm (by decide) pr2296
                                                          have pr2311 := gEl.pt fh2300 tm (by decide) pr2297
                                                          have pr2312 := gEl.pt fh2300 tm (by decide) pr2298
                                                          have s2313 := (fh2300 m 5 (fun q => absurd q.2 (by decide))).trans s2273
                                                          have s2314 := (fh2300 m 6 (fun q => absurd q.2 (by decide))).trans s2274
                                                          have s2315 := (fh2300 m 3 (fun q => absurd q.2 (by decide))).trans s2275
                                                          have s2316 := (fh2300 m 18 (fun q => absurd q.2 (by decide))).trans s2277
                                                          have s2317 := (fh2300 m 19 (fun q => absurd q.2 (by decide))).trans s2278
                                                          have s2318 := (fh2300 m 21 (fun q => absurd q.2 (by decide))).trans s2279
                                                          have s2319 := (fh2300 m 22 (fun q => absurd q.2 (by decide))).trans s2280
                                                          have s2320 := (fh2300 m 20 (fun q => absurd q.2 (by decide))).trans s2281
                                                          have s2321 := (fh2300 m 4 (fun q => absurd q.2 (by decide))).trans s2282
                                                          have s2322 := (fh2300 m 25 (fun q => absurd q.2 (by decide))).trans s2283
                                                          have s2323 := (fh2300 m 26 (fun q => absurd q.2 (by decide))).trans s2284
                                                          have s2324 := (fh2300 m 27 (fun q => absurd q.2 (by decide))).trans s2285
                                                          have s2325 := (fh2300 m 28 (fun q => absurd q.2 (by decide))).trans s2286
                                                          have s2326 := (fh2300 m 7 (fun q => absurd q.2 (by decide))).trans efq2272_0
                                                          clear s2273 s2274 s2275 s2276 s2277 s2278 s2279 s2280 s2281 s2282 s2283 s2284 s2285 s2286 pr2287 pr2288 pr2289 pr2290 pr2291 pr2292 pr2293 pr2294 pr2295 pr2296 pr2297 pr2298
                                                          refine gz_s 2 (pc' := 500) (L' := [some (.ref m), some (.int (zi by2)), some (.int (zi mk)), some (.int (zi bg)), some (.int (zi n)), some (.int (zi zq1286)), some (.int (zi zq1339)), some (.int (zi z1393)), some (.int (zi 3)), some (.int (zi ((p0 + 6) + 6))), some (.int (zi 2))]) (S' := [.int (zi by2), .ref m]) rfl ?_
                                                          refine gs_put rfl (by decide) rfl sh2300 tm rfl rfl rfl (gfit_z (by omega)) (Or.inl rfl) (by decide) (by omega) (by omega) (fun h2327 sh2327 eh2327 fh2327 => ?_)
                                                          have pr2328 := gEl.pt fh2327 tm (by decide) pr2301
                                                          have pr2329 := gEl.pt fh2327 tm (by decide) pr2302
                                                          have pr2330 := gEl.pt fh2327 tm (by decide) pr2303
                                                          have pr2331 := gEl.pt fh2327 tm (by decide) pr2304
                                                          have pr2332 := gEl.pt fh2327 tm (by decide) pr2305
                                                          have pr2333 := gEl.pt fh2327 tm (by decide) pr2306
                                                          have pr2334 := gEl.pt fh2327 tm (by decide) pr2307
                                                          have pr2335 := gEl.pt fh2327 tm (by decide) pr2308
                                                          have pr2336 := gEl.pt fh2327 tm (by decide) pr2309
                                                          have pr2337 := gEl.pt fh2327 tm (by decide) pr2310
                                                          have pr2338 := gEl.pt fh2327 tm (by decide) pr2311
                                                          have pr2339 := gEl.pt fh2327 tm (by decide) pr2312
                                                          have s2340 := (fh2327 m 5 (fun q => absurd q.2 (by decide))).trans s2313
                                                          have s2341 := (fh2327 m 6 (fun q => absurd q.2 (by decide))).trans s2314
                                                          have s2342 := (fh2327 m 3 (fun q => absurd q.2 (by decide))).trans s2315
                                                          have s2343 := (fh2327 m 18 (fun q => absurd q.2 (by decide))).trans s2316
                                                          have s2344 := (fh2327 m 19 (fun q => absurd q.2 (by decide))).trans s2317
                                                          have s2345 := (fh2327 m 21 (fun q => absurd q.2 (by decide))).trans s2318
                                                          have s2346 := (fh2327 m 22 (fun q => absurd q.2 (by decide))).trans s2319
                                                          have s2347 := (fh2327 m 20 (fun q => absurd q.2 (by decide))).trans s2320
                                                          have s2348 := (fh2327 m 4 (fun q => absurd q.2 (by decide))).trans s2321
                                                          have s2349 := (fh2327 m 25 (fun q => absurd q.2 (by decide))).trans s2322
                                                          have s2350 := (fh2327 m 26 (fun q => absurd q.2 (by decide))).trans s2323
                                                          have s2351 := (fh2327 m 27 (fun q => absurd q.2 (by decide))).trans s2324
                                                          have s2352 := (fh2327 m 28 (fun q => absurd q.2 (by decide))).trans s2325
                                                          have s2353 := (fh2327 m 7 (fun q => absurd q.2 (by decide))).trans s2326
                                                          have s2354 := (fh2327 m 16 (fun q => absurd q.2 (by decide))).trans eh2300
                                                          clear s2313 s2314 s2315 s2316 s2317 s2318 s2319 s2320 s2321 s2322 s2323 s2324 s2325 s2326 pr2301 pr2302 pr2303 pr2304 pr2305 pr2306 pr2307 pr2308 pr2309 pr2310 pr2311 pr2312
                                                          refine gz_s 2 (pc' := 506) (L' := [some (.ref m), some (.int (zi by2)), some (.int (zi mk)), some (.int (zi bg)), some (.int (zi n)), some (.int (zi zq1286)), some (.int (zi zq1339)), some (.int (zi z1393)), some (.int (zi 3)), some (.int (zi ((p0 + 6) + 6))), some (.int (zi 2))]) (S' := [.int (zi zq1339), .ref m]) rfl ?_
                                                          refine gs_put rfl (by decide) rfl sh2327 tm rfl rfl rfl rfl (Or.inl rfl) (by decide) (by omega) (by omega) (fun h2355 sh2355 eh2355 fh2355 => ?_)
                                                          have pr2356 := gEl.pt fh2355 tm (by decide) pr2328
                                                          have pr2357 := gEl.pt fh2355 tm (by decide) pr2329
                                                          have pr2358 := gEl.pt fh2355 tm (by decide) pr2330
                                                          have pr2359 := gEl.pt fh2355 tm (by decide) pr2331
                                                          have pr2360 := gEl.pt fh2355 tm (by decide) pr2332
                                                          have pr2361 := gEl.pt fh2355 tm (by decide) pr2333
                                                          have pr2362 := gEl.pt fh2355 tm (by decide) pr2334
                                                          have pr2363 := gEl.pt fh2355 tm (by decide) pr2335
                                                          have pr2364 := gEl.pt fh2355 tm (by decide) pr2336
                                                          have pr2365 := gEl.pt fh2355 tm (by decide) pr2337
                                                          have pr2366 := gEl.pt fh2355 tm (by decide) pr2338
                                                          have pr2367 := gEl.pt fh2355 tm (by decide) pr2339
                                                          have s2368 := (fh2355 m 5 (fun q => absurd q.2 (by decide))).trans s2340
                                                          have s2369 := (fh2355 m 6 (fun q => absurd q.2 (by decide))).trans s2341
                                                          have s2370 := (fh2355 m 3 (fun q => absurd q.2 (by decide))).trans s2342
                                                          have s2371 := (fh2355 m 19 (fun q => absurd q.2 (by decide))).trans s2344
                                                          have s2372 := (fh2355 m 21 (fun q => absurd q.2 (by decide))).trans s2345
                                                          have s2373 := (fh2355 m 22 (fun q => absurd q.2 (by decide))).trans s2346
                                                          have s2374 := (fh2355 m 20 (fun q => absurd q.2 (by decide))).trans s2347
                                                          have s2375 := (fh2355 m 4 (fun q => absurd q.2 (by decide))).trans s2348
                                                          have s2376 := (fh2355 m 25 (fun q => absurd q.2 (by decide))).trans s2349
                                                          have s2377 := (fh2355 m 26 (fun q => absurd q.2 (by decide))).trans s2350
                                                          have s2378 := (fh2355 m 27 (fun q => absurd q.2 (by decide))).trans s2351
                                                          have s2379 := (fh2355 m 28 (fun q => absurd q.2 (by decide))).trans s2352
                                                          have s2380 := (fh2355 m 7 (fun q => absurd q.2 (by decide))).trans s2353
                                                          have s2381 := (fh2355 m 16 (fun q => absurd q.2 (by decide))).trans s2354
                                                          have s2382 := (fh2355 m 17 (fun q => absurd q.2 (by decide))).trans eh2327
                                                          clear s2340 s2341 s2342 s2343 s2344 s2345 s2346 s2347 s2348 s2349 s2350 s2351 s2352 s2353 s2354 pr2328 pr2329 pr2330 pr2331 pr2332 pr2333 pr2334 pr2335 pr2336 pr2337 pr2338 pr2339
                                                          refine gz_s 2 (pc' := 512) (L' := [some (.ref m), some (.int (zi by2)), some (.int (zi mk)), some (.int (zi bg)), some (.int (zi n)), some (.int (zi zq1286)), some (.int (zi zq1339)), some (.int (zi z1393)), some (.int (zi 3)), some (.int (zi ((p0 + 6) + 6))), some (.int (zi 2))]) (S' := [.int (zi zq1286), .ref m]) rfl ?_
                                                          refine gs_put rfl (by decide) rfl sh2355 tm rfl rfl rfl rfl (Or.inl rfl) (by decide) (by omega) (by omega) (fun h2383 sh2383 eh2383 fh2383 => ?_)
                                                          have pr2384 := gEl.pt fh2383 tm (by decide) pr2356
                                                          have pr2385 := gEl.pt fh2383 tm (by decide) pr2357
                                                          have pr2386 := gEl.pt fh2383 tm (by decide) pr2358
                                                          have pr2387 := gEl.pt fh2383 tm (by decide) pr2359
                                                          have pr2388 := gEl.pt fh2383 tm (by decide) pr2360
                                                          have pr2389 := gEl.pt fh2383 tm (by decide) pr2361
                                                          have pr2390 := gEl.pt fh2383 tm (by decide) pr2362
                                                          have pr2391 := gEl.pt fh2383 tm (by decide) pr2363
                                                          have pr2392 := gEl.pt fh2383 tm (by decide) pr2364
                                                          have pr2393 := gEl.pt fh2383 tm (by decide) pr2365
                                                          have pr2394 := gEl.pt fh2383 tm (by decide) pr2366
                                                          have pr2395 := gEl.pt fh2383 tm (by decide) pr2367
                                                          have s2396 := (fh2383 m 5 (fun q => absurd q.2 (by decide))).trans s2368
                                                          have s2397 := (fh2383 m 6 (fun q => absurd q.2 (by decide))).trans s2369
                                                          have s2398 := (fh2383 m 3 (fun q => absurd q.2 (by decide))).trans s2370
                                                          have s2399 := (fh2383 m 21 (fun q => absurd q.2 (by decide))).trans s2372
                                                          have s2400 := (fh2383 m 22 (fun q => absurd q.2 (by decide))).trans s2373
                                                          have s2401 := (fh2383 m 20 (fun q => absurd q.2 (by decide))).trans s2374
                                                          have s2402 := (fh2383 m 4 (fun q => absurd q.2 (by decide))).trans s2375
                                                          have s2403 := (fh2383 m 25 (fun q => absurd q.2 (by decide))).trans s2376
                                                          have s2404 := (fh2383 m 26 (fun q => absurd q.2 (by decide))).trans s2377
                                                          have s2405 := (fh2383 m 27 (fun q => absurd q.2 (by decide))).trans s2378
                                                          have s2406 := (fh2383 m 28 (fun q => absurd q.2 (by decide))).trans s2379
                                                          have s2407 := (fh2383 m 7 (fun q => absurd q.2 (by decide))).trans s2380
                                                          have s2408 := (fh2383 m 16 (fun q => absurd q.2 (by decide))).trans s2381
                                                          have s2409 := (fh2383 m 17 (fun q => absurd q.2 (by decide))).trans s2382
                                                          have s2410 := (fh2383 m 18 (fun q => absurd q.2 (by decide))).trans eh2355
                                                          clear s2368 s2369 s2370 s2371 s2372 s2373 s2374 s2375 s2376 s2377 s2378 s2379 s2380 s2381 s2382 pr2356 pr2357 pr2358 pr2359 pr2360 pr2361 pr2362 pr2363 pr2364 pr2365 pr2366 pr2367
                                                          refine gz_s 2 (pc' := 518) (L' := [some (.ref m), some (.int (zi by2)), some (.int (zi mk)), some (.int (zi bg)), some (.int (zi n)), some (.int (zi zq1286)), some (.int (zi zq1339)), some (.int (zi z1393)), some (.int (zi 3)), some (.int (zi ((p0 + 6) + 6))), some (.int (zi 2))]) (S' := [.int (zi z1393), .ref m]) rfl ?_
                                                          refine gs_put rfl (by decide) rfl sh2383 tm rfl rfl rfl rfl (Or.inl rfl) (by decide) (by omega) (by omega) (fun h2411 sh2411 eh2411 fh2411 => ?_)
                                                          have pr2412 := gEl.pt fh2411 tm (by decide) pr2384
                                                          have pr2413 := gEl.pt fh2411 tm (by decide) pr2385
                                                          have pr2414 := gEl.pt fh2411 tm (by decide) pr2386
                                                          have pr2415 := gEl.pt fh2411 tm (by decide) pr2387
                                                          have pr2416 := gEl.pt fh2411 tm (by decide) pr2388
                                                          have pr2417 := gEl.pt fh2411 tm (by decide) pr2389
                                                          have pr2418 := gEl.pt fh2411 tm (by decide) pr2390
                                                          have pr2419 := gEl.pt fh2411 tm (by decide) pr2391
                                                          have pr2420 := gEl.pt fh2411 tm (by decide) pr2392
                                                          have pr2421 := gEl.pt fh2411 tm (by decide) pr2393
                                                          have pr2422 := gEl.pt fh2411 tm (by decide) pr2394
                                                          have pr2423 := gEl.pt fh2411 tm (by decide) pr2395
                                                          have s2424 := (fh2411 m 5 (fun q => absurd q.2 (by decide))).trans s2396
                                                          have s2425 := (fh2411 m 6 (fun q => absurd q.2 (by decide))).trans s2397
                                                          have s2426 := (fh2411 m 3 (fun q => absurd q.2 (by decide))).trans s2398
                                                          have s2427 := (fh2411 m 21 (fun q => absurd q.2 (by decide))).trans s2399
                                                          have s2428 := (fh2411 m 22 (fun q => absurd q.2 (by decide))).trans s2400
                                                          have s2429 := (fh2411 m 4 (fun q => absurd q.2 (by decide))).trans s2402
                                                          have s2430 := (fh2411 m 25 (fun q => absurd q.2 (by decide))).trans s2403
                                                          have s2431 := (fh2411 m 26 (fun q => absurd q.2 (by decide))).trans s2404
                                                          have s2432 := (fh2411 m 27 (fun q => absurd q.2 (by decide))).trans s2405
                                                          have s2433 := (fh2411 m 28 (fun q => absurd q.2 (by decide))).trans s2406
                                                          have s2434 := (fh2411 m 7 (fun q => absurd q.2 (by decide))).trans s2407
                                                          have s2435 := (fh2411 m 16 (fun q => absurd q.2 (by decide))).trans s2408
                                                          have s2436 := (fh2411 m 17 (fun q => absurd q.2 (by decide))).trans s2409
                                                          have s2437 := (fh2411 m 18 (fun q => absurd q.2 (by decide))).trans s2410
                                                          have s2438 := (fh2411 m 19 (fun q => absurd q.2 (by decide))).trans eh2383
                                                          clear s2396 s2397 s2398 s2399 s2400 s2401 s2402 s2403 s2404 s2405 s2406 s2407 s2408 s2409 s2410 pr2384 pr2385 pr2386 pr2387 pr2388 pr2389 pr2390 pr2391 pr2392 pr2393 pr2394 pr2395
                                                          refine gz_s 1 (pc' := 522) (L' := [some (.ref m), some (.int (zi by2)), some (.int (zi mk)), some (.int (zi bg)), some (.int (zi n)), some (.int (zi zq1286)), some (.int (zi zq1339)), some (.int (zi z1393)), some (.int (zi 3)), some (.int (zi ((p0 + 6) + 6))), some (.int (zi 2))]) (S' := [.ref m]) rfl ?_
                                                          refine gz_call rfl (by decide) rfl (by decide) (by decide) (gcal_of rfl rfl rfl (Nat.le_of_ble_eq_true rfl) (gJ.recv (G := gGG) sh2411.1 tm rfl rfl)) (mm_layOut3 _ sh2411.1 m tm zq1339 s2437 (by omega) zq1286 s2438 (by omega) z1393 eh2411 (by omega) (z1776 / 16) (by omega) (z1796 % 16) (by omega) (z1934 / 16) (by omega) (z1959 % 16) (by omega) (z2151 / 16) (by omega) (z2180 % 16) (by omega) uq pr2413 pr2414 (gEl.wd pr2415 (by omega) (by omega)) pr2417 pr2418 (gEl.wd pr2419 (by omega) (by omega)) pr2421 pr2422 (gEl.wd pr2423 (by omega) (by omega))) (fun q2439 _ wq2439 => ?_)
                                                          obtain ⟨pq2439, oq2439, hq2439⟩ := q2439
                                                          obtain ⟨xq2439, fq2439_0, fq2439_1, gq2439, efq2439_0, afq2439_0, bfq2439_0, efq2439_1, afq2439_1, bfq2439_1, yq2439_0⟩ := wq2439
                                                          refine ⟨_, gq2439, ?_⟩
                                                          show gz gPP gGG gcn _ _ 525 [some (.ref m), some (.int (zi by2)), some (.int (zi mk)), some (.int (zi bg)), some (.int (zi n)), some (.int (zi zq1286)), some (.int (zi zq1339)), some (.int (zi z1393)), some (.int (zi 3)), some (.int (zi ((p0 + 6) + 6))), some (.int (zi 2))] [] hq2439 _
                                                          have sq2439 := gSs.tr sh2411 xq2439 (by decide)
                                                          have s2440 := (xq2439.2.2.2.2.2 m 5 (by rw [tm]; decide)).trans s2424
                                                          have s2441 := (xq2439.2.2.2.2.2 m 6 (by rw [tm]; decide)).trans s2425
                                                          have s2442 := (xq2439.2.2.2.2.2 m 3 (by rw [tm]; decide)).trans s2426
                                                          have s2443 := (xq2439.2.2.2.2.2 m 4 (by rw [tm]; decide)).trans s2429
                                                          have s2444 := (xq2439.2.2.2.2.2 m 25 (by rw [tm]; decide)).trans s2430
                                                          have s2445 := (xq2439.2.2.2.2.2 m 26 (by rw [tm]; decide)).trans s2431
                                                          have s2446 := (xq2439.2.2.2.2.2 m 27 (by rw [tm]; decide)).trans s2432
                                                          have s2447 := (xq2439.2.2.2.2.2 m 28 (by rw [tm]; decide)).trans s2433
                                                          have s2448 := (xq2439.2.2.2.2.2 m 7 (by rw [tm]; decide)).trans s2434
                                                          have s2449 := (xq2439.2.2.2.2.2 m 16 (by rw [tm]; decide)).trans s2435
                                                          have s2450 := (xq2439.2.2.2.2.2 m 17 (by rw [tm]; decide)).trans s2436
                                                          have s2451 := (xq2439.2.2.2.2.2 m 18 (by rw [tm]; decide)).trans s2437
                                                          have s2452 := (xq2439.2.2.2.2.2 m 19 (by rw [tm]; decide)).trans s2438
                                                          have s2453 := (xq2439.2.2.2.2.2 m 20 (by rw [tm]; decide)).trans eh2411
                                                          have pr2454 := gEl.fr xq2439.2 (by decide) (fun _ => rfl) pr2412
                                                          have pr2455 := gEl.fr xq2439.2 (by decide) (fun _ => rfl) pr2413
                                                          have pr2456 := gEl.fr xq2439.2 (by decide) (fun _ => rfl) pr2414
                                                          have pr2457 := gEl.fr xq2439.2 (by decide) (fun _ => rfl) pr2415
                                                          have pr2458 := gEl.fr xq2439.2 (by decide) (fun _ => rfl) pr2416
                                                          have pr2459 := gEl.fr xq2439.2 (by decide) (fun _ => rfl) pr2417
                                                          have pr2460 := gEl.fr xq2439.2 (by decide) (fun _ => rfl) pr2418
                                                          have pr2461 := gEl.fr xq2439.2 (by decide) (fun _ => rfl) pr2419
                                                          have pr2462 := gEl.fr xq2439.2 (by decide) (fun _ => rfl) pr2420
                                                          have pr2463 := gEl.fr xq2439.2 (by decide) (fun _ => rfl) pr2421
                                                          have pr2464 := gEl.fr xq2439.2 (by decide) (fun _ => rfl) pr2422
                                                          have pr2465 := gEl.fr xq2439.2 (by decide) (fun _ => rfl) pr2423
                                                          clear s2424 s2425 s2426 s2427 s2428 s2429 s2430 s2431 s2432 s2433 s2434 s2435 s2436 s2437 s2438 pr2412 pr2413 pr2414 pr2415 pr2416 pr2417 pr2418 pr2419 pr2420 pr2421 pr2422 pr2423
                                                          have hpi2466 : gPi ty 1 zq1339 zq1286 fq2439_0 fq2439_1 z1393 hq2439 := fun _ => yq2439_0
                                                          exact gz_end (I := .return_) (len := 1) rfl (Or.inl rfl) ⟨sq2439, fq2272_0, 1, zq1339, zq1286, fq2439_0, fq2439_1, z1393, rfl, s2448, (by omega), (by omega), s2449, (by omega), (by omega), s2451, (by omega), (by omega), s2452, (by omega), (by omega), efq2439_0, (by omega), (by omega), efq2439_1, (by omega), (by omega), s2453, (by omega), (by omega), hpi2466⟩
                                                        · refine gy_icF rfl (by decide) (by decide) (by omega) (by omega) hc2299 ?_
                                                          have hpi2467 : gPi ty ip w hh wd hg bs hq2272 := fun e => absurd e (by omega)
                                                          exact gz_end (I := .return_) (len := 1) rfl (Or.inl rfl) ⟨sq2272, fq2272_0, ip, w, hh, wd, hg, bs, rfl, efq2272_0, (by omega), (by omega), s2276, (by omega), (by omega), s2277, (by omega), (by omega), s2278, (by omega), (by omega), s2279, (by omega), (by omega), s2280, (by omega), (by omega), s2281, (by omega), (by omega), hpi2467⟩
                                                      by_cases hc2468 : (4 : Int) ≤ z2239
                                                      · refine gy_icT (pc' := 469) rfl (by decide) (by decide) (by omega) (by omega) hc2468 ?_
                                                        refine gz_s 1 (pc' := 470) (L' := [some (.ref m), some (.int (zi by2)), some (.int (zi mk)), some (.int (zi bg)), some (.int (zi n)), some (.int (zi zq1286)), some (.int (zi zq1339)), some (.int (zi z1393)), some (.int (zi 2)), some (.int (zi ((p0 + 6) + 6))), some (.int (zi 2))]) (S' := [.int (zi 0), .ref m]) rfl ?_
                                                        exact jn2271 0 (by omega)
                                                      · refine gy_icF rfl (by decide) (by decide) (by omega) (by omega) hc2468 ?_
                                                        refine gz_s 2 (pc' := 470) (L' := [some (.ref m), some (.int (zi by2)), some (.int (zi mk)), some (.int (zi bg)), some (.int (zi n)), some (.int (zi zq1286)), some (.int (zi zq1339)), some (.int (zi z1393)), some (.int (zi 2)), some (.int (zi ((p0 + 6) + 6))), some (.int (zi 2))]) (S' := [.int (zi 1), .ref m]) rfl ?_
                                                        exact jn2271 1 (by omega)
                                                    by_cases hc2469 : (z2151 / 16 : Int) < 1
                                                    · refine gy_icT (pc' := 428) rfl (by decide) (by decide) (by omega) (by omega) hc2469 ?_
                                                      refine gz_s 1 (pc' := 429) (L' := [some (.ref m), some (.int (zi by2)), some (.int (zi mk)), some (.int (zi bg)), some (.int (zi n)), some (.int (zi zq1286)), some (.int (zi zq1339)), some (.int (zi z1393)), some (.int (zi 2)), some (.int (zi ((p0 + 6) + 6))), some (.int (zi 2))]) (S' := [.int (zi 0), .ref m]) rfl ?_
                                                      exact jn2211 0 (by omega)
                                                    · refine gy_icF rfl (by decide) (by decide) (by omega) (by omega) hc2469 ?_
                                                      refine gz_s 1 (pc' := 392) (L' := [some (.ref m), some (.int (zi by2)), some (.int (zi mk)), some (.int (zi bg)), some (.int (zi n)), some (.int (zi zq1286)), some (.int (zi zq1339)), some (.int (zi z1393)), some (.int (zi 2)), some (.int (zi ((p0 + 6) + 6))), some (.int (zi 2))]) (S' := [.ref m, .ref m]) rfl ?_
                                                      refine gs_gtk rfl (by decide) rfl sh2182.1 tm rfl rfl s2204 ?_
                                                      refine gz_s 1 (pc' := 397) (L' := [some (.ref m), some (.int (zi by2)), some (.int (zi mk)), some (.int (zi bg)), some (.int (zi n)), some (.int (zi zq1286)), some (.int (zi zq1339)), some (.int (zi z1393)), some (.int (zi 2)), some (.int (zi ((p0 + 6) + 6))), some (.int (zi 2))]) (S' := [.int (zi 2), .ref c1774, .ref m]) rfl ?_
                                                      have hl2470 : 3 ≤ h2182.2.2.2.1 c1774 ∧ h2182.2.2.2.1 c1774 ≤ 3 := gJ.rowl (G := gGG) sh2182.1 tc1774 rfl
                                                      refine gs_alx rfl (by decide) sh2182.1 tc1774 rfl rfl rfl (by decide) (fun _ => rfl) (by omega) (by omega) (by decide) pr2192 (fun ex2471 ax2471 bx2471 => ?_)
                                                      refine gz_s 1 (pc' := 399) (L' := [some (.ref m), some (.int (zi by2)), some (.int (zi mk)), some (.int (zi bg)), some (.int (zi n)), some (.int (zi zq1286)), some (.int (zi zq1339)), some (.int (zi z1393)), some (.int (zi 2)), some (.int (zi ((p0 + 6) + 6))), some (.int (zi 2))]) (S' := [.int (zi 2), .int (zi (z2151 / 16)), .ref m]) rfl ?_
                                                      by_cases hc2472 : (2 : Int) < z2151 / 16
                                                      · refine gy_icT (pc' := 428) rfl (by decide) (by decide) (by omega) (by omega) hc2472 ?_
                                                        refine gz_s 1 (pc' := 429) (L' := [some (.ref m), some (.int (zi by2)), some (.int (zi mk)), some (.int (zi bg)), some (.int (zi n)), some (.int (zi zq1286)), some (.int (zi zq1339)), some (.int (zi z1393)), some (.int (zi 2)), some (.int (zi ((p0 + 6) + 6))), some (.int (zi 2))]) (S' := [.int (zi 0), .ref m]) rfl ?_
                                                        exact jn2211 0 (by omega)
                                                      · refine gy_icF rfl (by decide) (by decide) (by omega) (by omega) hc2472 ?_
                                                        refine gz_s 1 (pc' := 403) (L' := [some (.ref m), some (.int (zi by2)), some (.int (zi mk)), some (.int (zi bg)), some (.int (zi n)), some (.int (zi zq1286)), some (.int (zi zq1339)), some (.int (zi z1393)), some (.int (zi 2)), some (.int (zi ((p0 + 6) + 6))), some (.int (zi 2))]) (S' := [.ref m, .ref m]) rfl ?_
                                                        refine gs_gtk rfl (by decide) rfl sh2182.1 tm rfl rfl s2205 ?_
                                                        refine gz_s 1 (pc' := 408) (L' := [some (.ref m), some (.int (zi by2)), some (.int (zi mk)), some (.int (zi bg)), some (.int (zi n)), some (.int (zi zq1286)), some (.int (zi zq1339)), some (.int (zi z1393)), some (.int (zi 2)), some (.int (zi ((p0 + 6) + 6))), some (.int (zi 2))]) (S' := [.int (zi 2), .ref c1794, .ref m]) rfl ?_
                                                        have hl2473 : 3 ≤ h2182.2.2.2.1 c1794 ∧ h2182.2.2.2.1 c1794 ≤ 3 := gJ.rowl (G := gGG) sh2182.1 tc1794 rfl
                                                        refine gs_alx rfl (by decide) sh2182.1 tc1794 rfl rfl rfl (by decide) (fun _ => rfl) (by omega) (by omega) (by decide) pr2208 (fun ex2474 ax2474 bx2474 => ?_)
                                                        refine gz_s 1 (pc' := 410) (L' := [some (.ref m), some (.int (zi by2)), some (.int (zi mk)), some (.int (zi bg)), some (.int (zi n)), some (.int (zi zq1286)), some (.int (zi zq1339)), some (.int (zi z1393)), some (.int (zi 2)), some (.int (zi ((p0 + 6) + 6))), some (.int (zi 2))]) (S' := [.int (zi 1), .int (zi (z2180 % 16)), .ref m]) rfl ?_
                                                        by_cases hc2475 : (z2180 % 16 : Int) < 1
                                                        · refine gy_icT (pc' := 428) rfl (by decide) (by decide) (by omega) (by omega) hc2475 ?_
                                                          refine gz_s 1 (pc' := 429) (L' := [some (.ref m), some (.int (zi by2)), some (.int (zi mk)), some (.int (zi bg)), some (.int (zi n)), some (.int (zi zq1286)), some (.int (zi zq1339)), some (.int (zi z1393)), some (.int (zi 2)), some (.int (zi ((p0 + 6) + 6))), some (.int (zi 2))]) (S' := [.int (zi 0), .ref m]) rfl ?_
                                                          exact jn2211 0 (by omega)
                                                        · refine gy_icF rfl (by decide) (by decide) (by omega) (by omega) hc2475 ?_
                                                          refine gz_s 1 (pc' := 414) (L' := [some (.ref m), some (.int (zi by2)), some (.int (zi mk)), some (.int (zi bg)), some (.int (zi n)), some (.int (zi zq1286)), some (.int (zi zq1339)), some (.int (zi z1393)), some (.int (zi 2)), some (.int (zi ((p0 + 6) + 6))), some (.int (zi 2))]) (S' := [.ref m, .ref m]) rfl ?_
                                                          refine gs_gtk rfl (by decide) rfl sh2182.1 tm rfl rfl s2205 ?_
                                                          refine gz_s 1 (pc' := 419) (L' := [some (.ref m), some (.int (zi by2)), some (.int (zi mk)), some (.int (zi bg)), some (.int (zi n)), some (.int (zi zq1286)), some (.int (zi zq1339)), some (.int (zi z1393)), some (.int (zi 2)), some (.int (zi ((p0 + 6) + 6))), some (.int (zi 2))]) (S' := [.int (zi 2), .ref c1794, .ref m]) rfl ?_
                                                          have hl2476 : 3 ≤ h2182.2.2.2.1 c1794 ∧ h2182.2.2.2.1 c1794 ≤ 3 := gJ.rowl (G := gGG) sh2182.1 tc1794 rfl
                                                          refine gs_alx rfl (by decide) sh2182.1 tc1794 rfl rfl rfl (by decide) (fun _ => rfl) (by omega) (by omega) (by decide) pr2208 (fun ex2477 ax2477 bx2477 => ?_)
                                                          refine gz_s 1 (pc' := 421) (L' := [some (.ref m), some (.int (zi by2)), some (.int (zi mk)), some (.int (zi bg)), some (.int (zi n)), some (.int (zi zq1286)), some (.int (zi zq1339)), some (.int (zi z1393)), some (.int (zi 2)), some (.int (zi ((p0 + 6) + 6))), some (.int (zi 2))]) (S' := [.int (zi 2), .int (zi (z2180 % 16)), .ref m]) rfl ?_
                                                          by_cases hc2478 : (2 : Int) < z2180 % 16
                                                          · refine gy_icT (pc' := 428) rfl (by decide) (by decide) (by omega) (by omega) hc2478 ?_
                                                            refine gz_s 1 (pc' := 429) (L' := [some (.ref m), some (.int (zi by2)), some (.int (zi mk)), some (.int (zi bg)), some (.int (zi n)), some (.int (zi zq1286)), some (.int (zi zq1339)), some (.int (zi z1393)), some (.int (zi 2)), some (.int (zi ((p0 + 6) + 6))), some (.int (zi 2))]) (S' := [.int (zi 0), .ref m]) rfl ?_
                                                            exact jn2211 0 (by omega)
                                                          · refine gy_icF rfl (by decide) (by decide) (by omega) (by omega) hc2478 ?_
                                                            refine gz_s 2 (pc' := 429) (L' := [some (.ref m), some (.int (zi by2)), some (.int (zi mk)), some (.int (zi bg)), some (.int (zi n)), some (.int (zi zq1286)), some (.int (zi zq1339)), some (.int (zi z1393)), some (.int (zi 2)), some (.int (zi ((p0 + 6) + 6))), some (.int (zi 2))]) (S' := [.int (zi 1), .ref m]) rfl ?_
                                                            exact jn2211 1 (by omega)
                                                  by_cases hc2479 : (z1885 : Int) = z2065
                                                  · refine gy_icT (pc' := 328) rfl (by decide) (by decide) (by omega) (by omega) hc2479 ?_
                                                    refine gz_s 1 (pc' := 329) (L' := [some (.ref m), some (.int (zi by2)), some (.int (zi mk)), some (.int (zi bg)), some (.int (zi n)), some (.int (zi zq1286)), some (.int (zi zq1339)), some (.int (zi z1393)), some (.int (zi 2)), some (.int (zi ((p0 + 6) + 6))), some (.int (zi 1))]) (S' := [.int (zi 0), .ref m]) rfl ?_
                                                    exact jn2125 0 (by omega)
                                                  · refine gy_icF rfl (by decide) (by decide) (by omega) (by omega) hc2479 ?_
                                                    refine gz_s 2 (pc' := 329) (L' := [some (.ref m), some (.int (zi by2)), some (.int (zi mk)), some (.int (zi bg)), some (.int (zi n)), some (.int (zi zq1286)), some (.int (zi zq1339)), some (.int (zi z1393)), some (.int (zi 2)), some (.int (zi ((p0 + 6) + 6))), some (.int (zi 1))]) (S' := [.int (zi 1), .ref m]) rfl ?_
                                                    exact jn2125 1 (by omega)
                                                by_cases hc2480 : (z1757 : Int) = z2065
                                                · refine gy_icT (pc' := 328) rfl (by decide) (by decide) (by omega) (by omega) hc2480 ?_
                                                  refine gz_s 1 (pc' := 329) (L' := [some (.ref m), some (.int (zi by2)), some (.int (zi mk)), some (.int (zi bg)), some (.int (zi n)), some (.int (zi zq1286)), some (.int (zi zq1339)), some (.int (zi z1393)), some (.int (zi 2)), some (.int (zi ((p0 + 6) + 6))), some (.int (zi 0))]) (S' := [.int (zi 0), .ref m]) rfl ?_
                                                  exact jn2096 0 (by omega)
                                                · refine gy_icF rfl (by decide) (by decide) (by omega) (by omega) hc2480 ?_
                                                  refine gz_s 2 (pc' := 329) (L' := [some (.ref m), some (.int (zi by2)), some (.int (zi mk)), some (.int (zi bg)), some (.int (zi n)), some (.int (zi zq1286)), some (.int (zi zq1339)), some (.int (zi z1393)), some (.int (zi 2)), some (.int (zi ((p0 + 6) + 6))), some (.int (zi 0))]) (S' := [.int (zi 1), .ref m]) rfl ?_
                                                  exact jn2096 1 (by omega)
                                            by_cases hc2481 : (4 : Int) ≤ z2010
                                            · refine gy_icT (pc' := 469) rfl (by decide) (by decide) (by omega) (by omega) hc2481 ?_
                                              refine gz_s 1 (pc' := 470) (L' := [some (.ref m), some (.int (zi by2)), some (.int (zi mk)), some (.int (zi bg)), some (.int (zi n)), some (.int (zi zq1286)), some (.int (zi zq1339)), some (.int (zi z1393)), some (.int (zi 1)), some (.int (zi ((p0 + 6) + 3))), some (.int (zi 1))]) (S' := [.int (zi 0), .ref m]) rfl ?_
                                              exact jn2038 0 (by omega)
                                            · refine gy_icF rfl (by decide) (by decide) (by omega) (by omega) hc2481 ?_
                                              refine gz_s 2 (pc' := 470) (L' := [some (.ref m), some (.int (zi by2)), some (.int (zi mk)), some (.int (zi bg)), some (.int (zi n)), some (.int (zi zq1286)), some (.int (zi zq1339)), some (.int (zi z1393)), some (.int (zi 1)), some (.int (zi ((p0 + 6) + 3))), some (.int (zi 1))]) (S' := [.int (zi 1), .ref m]) rfl ?_
                                              exact jn2038 1 (by omega)
                                          by_cases hc2482 : (z1934 / 16 : Int) < 1
                                          · refine gy_icT (pc' := 428) rfl (by decide) (by decide) (by omega) (by omega) hc2482 ?_
                                            refine gz_s 1 (pc' := 429) (L' := [some (.ref m), some (.int (zi by2)), some (.int (zi mk)), some (.int (zi bg)), some (.int (zi n)), some (.int (zi zq1286)), some (.int (zi zq1339)), some (.int (zi z1393)), some (.int (zi 1)), some (.int (zi ((p0 + 6) + 3))), some (.int (zi 1))]) (S' := [.int (zi 0), .ref m]) rfl ?_
                                            exact jn1986 0 (by omega)
                                          · refine gy_icF rfl (by decide) (by decide) (by omega) (by omega) hc2482 ?_
                                            refine gz_s 1 (pc' := 392) (L' := [some (.ref m), some (.int (zi by2)), some (.int (zi mk)), some (.int (zi bg)), some (.int (zi n)), some (.int (zi zq1286)), some (.int (zi zq1339)), some (.int (zi z1393)), some (.int (zi 1)), some (.int (zi ((p0 + 6) + 3))), some (.int (zi 1))]) (S' := [.ref m, .ref m]) rfl ?_
                                            refine gs_gtk rfl (by decide) rfl sh1961.1 tm rfl rfl s1979 ?_
                                            refine gz_s 1 (pc' := 397) (L' := [some (.ref m), some (.int (zi by2)), some (.int (zi mk)), some (.int (zi bg)), some (.int (zi n)), some (.int (zi zq1286)), some (.int (zi zq1339)), some (.int (zi z1393)), some (.int (zi 1)), some (.int (zi ((p0 + 6) + 3))), some (.int (zi 1))]) (S' := [.int (zi 1), .ref c1774, .ref m]) rfl ?_
                                            have hl2483 : 3 ≤ h1961.2.2.2.1 c1774 ∧ h1961.2.2.2.1 c1774 ≤ 3 := gJ.rowl (G := gGG) sh1961.1 tc1774 rfl
                                            refine gs_alx rfl (by decide) sh1961.1 tc1774 rfl rfl rfl (by decide) (fun _ => rfl) (by omega) (by omega) (by decide) pr1967 (fun ex2484 ax2484 bx2484 => ?_)
                                            refine gz_s 1 (pc' := 399) (L' := [some (.ref m), some (.int (zi by2)), some (.int (zi mk)), some (.int (zi bg)), some (.int (zi n)), some (.int (zi zq1286)), some (.int (zi zq1339)), some (.int (zi z1393)), some (.int (zi 1)), some (.int (zi ((p0 + 6) + 3))), some (.int (zi 1))]) (S' := [.int (zi 2), .int (zi (z1934 / 16)), .ref m]) rfl ?_
                                            by_cases hc2485 : (2 : Int) < z1934 / 16
                                            · refine gy_icT (pc' := 428) rfl (by decide) (by decide) (by omega) (by omega) hc2485 ?_
                                              refine gz_s 1 (pc' := 429) (L' := [some (.ref m), some (.int (zi by2)), some (.int (zi mk)), some (.int (zi bg)), some (.int (zi n)), some (.int (zi zq1286)), some (.int (zi zq1339)), some (.int (zi z1393)), some (.int (zi 1)), some (.int (zi ((p0 + 6) + 3))), some (.int (zi 1))]) (S' := [.int (zi 0), .ref m]) rfl ?_
                                              exact jn1986 0 (by omega)
                                            · refine gy_icF rfl (by decide) (by decide) (by omega) (by omega) hc2485 ?_
                                              refine gz_s 1 (pc' := 403) (L' := [some (.ref m), some (.int (zi by2)), some (.int (zi mk)), some (.int (zi bg)), some (.int (zi n)), some (.int (zi zq1286)), some (.int (zi zq1339)), some (.int (zi z1393)), some (.int (zi 1)), some (.int (zi ((p0 + 6) + 3))), some (.int (zi 1))]) (S' := [.ref m, .ref m]) rfl ?_
                                              refine gs_gtk rfl (by decide) rfl sh1961.1 tm rfl rfl s1980 ?_
                                              refine gz_s 1 (pc' := 408) (L' := [some (.ref m), some (.int (zi by2)), some (.int (zi mk)), some (.int (zi bg)), some (.int (zi n)), some (.int (zi zq1286)), some (.int (zi zq1339)), some (.int (zi z1393)), some (.int (zi 1)), some (.int (zi ((p0 + 6) + 3))), some (.int (zi 1))]) (S' := [.int (zi 1), .ref c1794, .ref m]) rfl ?_
                                              have hl2486 : 3 ≤ h1961.2.2.2.1 c1794 ∧ h1961.2.2.2.1 c1794 ≤ 3 := gJ.rowl (G := gGG) sh1961.1 tc1794 rfl
                                              refine gs_alx rfl (by decide) sh1961.1 tc1794 rfl rfl rfl (by decide) (fun _ => rfl) (by omega) (by omega) (by decide) pr1983 (fun ex2487 ax2487 bx2487 => ?_)
                                              refine gz_s 1 (pc' := 410) (L' := [some (.ref m), some (.int (zi by2)), some (.int (zi mk)), some (.int (zi bg)), some (.int (zi n)), some (.int (zi zq1286)), some (.int (zi zq1339)), some (.int (zi z1393)), some (.int (zi 1)), some (.int (zi ((p0 + 6) + 3))), some (.int (zi 1))]) (S' := [.int (zi 1), .int (zi (z1959 % 16)), .ref m]) rfl ?_
                                              by_cases hc2488 : (z1959 % 16 : Int) < 1
                                              · refine gy_icT (pc' := 428) rfl (by decide) (by decide) (by omega) (by omega) hc2488 ?_
                                                refine gz_s 1 (pc' := 429) (L' := [some (.ref m), some (.int (zi by2)), some (.int (zi mk)), some (.int (zi bg)), some (.int (zi n)), some (.int (zi zq1286)), some (.int (zi zq1339)), some (.int (zi z1393)), some (.int (zi 1)), some (.int (zi ((p0 + 6) + 3))), some (.int (zi 1))]) (S' := [.int (zi 0), .ref m]) rfl ?_
                                                exact jn1986 0 (by omega)
                                              · refine gy_icF rfl (by decide) (by decide) (by omega) (by omega) hc2488 ?_
                                                refine gz_s 1 (pc' := 414) (L' := [some (.ref m), some (.int (zi by2)), some (.int (zi mk)), some (.int (zi bg)), some (.int (zi n)), some (.int (zi zq1286)), some (.int (zi zq1339)), some (.int (zi z1393)), some (.int (zi 1)), some (.int (zi ((p0 + 6) + 3))), some (.int (zi 1))]) (S' := [.ref m, .ref m]) rfl ?_
                                                refine gs_gtk rfl (by decide) rfl sh1961.1 tm rfl rfl s1980 ?_
                                                refine gz_s 1 (pc' := 419) (L' := [some (.ref m), some (.int (zi by2)), some (.int (zi mk)), some (.int (zi bg)), some (.int (zi n)), some (.int (zi zq1286)), some (.int (zi zq1339)), some (.int (zi z1393)), some (.int (zi 1)), some (.int (zi ((p0 + 6) + 3))), some (.int (zi 1))]) (S' := [.int (zi 1), .ref c1794, .ref m]) rfl ?_
                                                have hl2489 : 3 ≤ h1961.2.2.2.1 c1794 ∧ h1961.2.2.2.1 c1794 ≤ 3 := gJ.rowl (G := gGG) sh1961.1 tc1794 rfl
                                                refine gs_alx rfl (by decide) sh1961.1 tc1794 rfl rfl rfl (by decide) (fun _ => rfl) (by omega) (by omega) (by decide) pr1983 (fun ex2490 ax2490 bx2490 => ?_)
                                                refine gz_s 1 (pc' := 421) (L' := [some (.ref m), some (.int (zi by2)), some (.int (zi mk)), some (.int (zi bg)), some (.int (zi n)), some (.int (zi zq1286)), some (.int (zi zq1339)), some (.int (zi z1393)), some (.int (zi 1)), some (.int (zi ((p0 + 6) + 3))), some (.int (zi 1))]) (S' := [.int (zi 2), .int (zi (z1959 % 16)), .ref m]) rfl ?_
                                                by_cases hc2491 : (2 : Int) < z1959 % 16
                                                · refine gy_icT (pc' := 428) rfl (by decide) (by decide) (by omega) (by omega) hc2491 ?_
                                                  refine gz_s 1 (pc' := 429) (L' := [some (.ref m), some (.int (zi by2)), some (.int (zi mk)), some (.int (zi bg)), some (.int (zi n)), some (.int (zi zq1286)), some (.int (zi zq1339)), some (.int (zi z1393)), some (.int (zi 1)), some (.int (zi ((p0 + 6) + 3))), some (.int (zi 1))]) (S' := [.int (zi 0), .ref m]) rfl ?_
                                                  exact jn1986 0 (by omega)
                                                · refine gy_icF rfl (by decide) (by decide) (by omega) (by omega) hc2491 ?_
                                                  refine gz_s 2 (pc' := 429) (L' := [some (.ref m), some (.int (zi by2)), some (.int (zi mk)), some (.int (zi bg)), some (.int (zi n)), some (.int (zi zq1286)), some (.int (zi zq1339)), some (.int (zi z1393)), some (.int (zi 1)), some (.int (zi ((p0 + 6) + 3))), some (.int (zi 1))]) (S' := [.int (zi 1), .ref m]) rfl ?_
                                                  exact jn1986 1 (by omega)
                                        by_cases hc2492 : (z1757 : Int) = z1885
                                        · refine gy_icT (pc' := 328) rfl (by decide) (by decide) (by omega) (by omega) hc2492 ?_
                                          refine gz_s 1 (pc' := 329) (L' := [some (.ref m), some (.int (zi by2)), some (.int (zi mk)), some (.int (zi bg)), some (.int (zi n)), some (.int (zi zq1286)), some (.int (zi zq1339)), some (.int (zi z1393)), some (.int (zi 1)), some (.int (zi ((p0 + 6) + 3))), some (.int (zi 0))]) (S' := [.int (zi 0), .ref m]) rfl ?_
                                          exact jn1912 0 (by omega)
                                        · refine gy_icF rfl (by decide) (by decide) (by omega) (by omega) hc2492 ?_
                                          refine gz_s 2 (pc' := 329) (L' := [some (.ref m), some (.int (zi by2)), some (.int (zi mk)), some (.int (zi bg)), some (.int (zi n)), some (.int (zi zq1286)), some (.int (zi zq1339)), some (.int (zi z1393)), some (.int (zi 1)), some (.int (zi ((p0 + 6) + 3))), some (.int (zi 0))]) (S' := [.int (zi 1), .ref m]) rfl ?_
                                          exact jn1912 1 (by omega)
                                    by_cases hc2493 : (4 : Int) ≤ z1838
                                    · refine gy_icT (pc' := 469) rfl (by decide) (by decide) (by omega) (by omega) hc2493 ?_
                                      refine gz_s 1 (pc' := 470) (L' := [some (.ref m), some (.int (zi by2)), some (.int (zi mk)), some (.int (zi bg)), some (.int (zi n)), some (.int (zi zq1286)), some (.int (zi zq1339)), some (.int (zi z1393)), some (.int (zi 0)), some (.int (zi ((p0 + 6) + 0))), some (.int (zi 0))]) (S' := [.int (zi 0), .ref m]) rfl ?_
                                      exact jn1862 0 (by omega)
                                    · refine gy_icF rfl (by decide) (by decide) (by omega) (by omega) hc2493 ?_
                                      refine gz_s 2 (pc' := 470) (L' := [some (.ref m), some (.int (zi by2)), some (.int (zi mk)), some (.int (zi bg)), some (.int (zi n)), some (.int (zi zq1286)), some (.int (zi zq1339)), some (.int (zi z1393)), some (.int (zi 0)), some (.int (zi ((p0 + 6) + 0))), some (.int (zi 0))]) (S' := [.int (zi 1), .ref m]) rfl ?_
                                      exact jn1862 1 (by omega)
                                  by_cases hc2494 : (z1776 / 16 : Int) < 1
                                  · refine gy_icT (pc' := 428) rfl (by decide) (by decide) (by omega) (by omega) hc2494 ?_
                                    refine gz_s 1 (pc' := 429) (L' := [some (.ref m), some (.int (zi by2)), some (.int (zi mk)), some (.int (zi bg)), some (.int (zi n)), some (.int (zi zq1286)), some (.int (zi zq1339)), some (.int (zi z1393)), some (.int (zi 0)), some (.int (zi ((p0 + 6) + 0))), some (.int (zi 0))]) (S' := [.int (zi 0), .ref m]) rfl ?_
                                    exact jn1818 0 (by omega)
                                  · refine gy_icF rfl (by decide) (by decide) (by omega) (by omega) hc2494 ?_
                                    refine gz_s 1 (pc' := 392) (L' := [some (.ref m), some (.int (zi by2)), some (.int (zi mk)), some (.int (zi bg)), some (.int (zi n)), some (.int (zi zq1286)), some (.int (zi zq1339)), some (.int (zi z1393)), some (.int (zi 0)), some (.int (zi ((p0 + 6) + 0))), some (.int (zi 0))]) (S' := [.ref m, .ref m]) rfl ?_
                                    refine gs_gtk rfl (by decide) rfl sh1798.1 tm rfl rfl s1813 ?_
                                    refine gz_s 1 (pc' := 397) (L' := [some (.ref m), some (.int (zi by2)), some (.int (zi mk)), some (.int (zi bg)), some (.int (zi n)), some (.int (zi zq1286)), some (.int (zi zq1339)), some (.int (zi z1393)), some (.int (zi 0)), some (.int (zi ((p0 + 6) + 0))), some (.int (zi 0))]) (S' := [.int (zi 0), .ref c1774, .ref m]) rfl ?_
                                    have hl2495 : 3 ≤ h1798.2.2.2.1 c1774 ∧ h1798.2.2.2.1 c1774 ≤ 3 := gJ.rowl (G := gGG) sh1798.1 tc1774 rfl
                                    refine gs_alx rfl (by decide) sh1798.1 tc1774 rfl rfl rfl (by decide) (fun _ => rfl) (by omega) (by omega) (by decide) pr1800 (fun ex2496 ax2496 bx2496 => ?_)
                                    refine gz_s 1 (pc' := 399) (L' := [some (.ref m), some (.int (zi by2)), some (.int (zi mk)), some (.int (zi bg)), some (.int (zi n)), some (.int (zi zq1286)), some (.int (zi zq1339)), some (.int (zi z1393)), some (.int (zi 0)), some (.int (zi ((p0 + 6) + 0))), some (.int (zi 0))]) (S' := [.int (zi 2), .int (zi (z1776 / 16)), .ref m]) rfl ?_
                                    by_cases hc2497 : (2 : Int) < z1776 / 16
                                    · refine gy_icT (pc' := 428) rfl (by decide) (by decide) (by omega) (by omega) hc2497 ?_
                                      refine gz_s 1 (pc' := 429) (L' := [some (.ref m), some (.int (zi by2)), some (.int (zi mk)), some (.int (zi bg)), some (.int (zi n)), some (.int (zi zq1286)), some (.int (zi zq1339)), some (.int (zi z1393)), some (.int (zi 0)), some (.int (zi ((p0 + 6) + 0))), some (.int (zi 0))]) (S' := [.int (zi 0), .ref m]) rfl ?_
                                      exact jn1818 0 (by omega)
                                    · refine gy_icF rfl (by decide) (by decide) (by omega) (by omega) hc2497 ?_
                                      refine gz_s 1 (pc' := 403) (L' := [some (.ref m), some (.int (zi by2)), some (.int (zi mk)), some (.int (zi bg)), some (.int (zi n)), some (.int (zi zq1286)), some (.int (zi zq1339)), some (.int (zi z1393)), some (.int (zi 0)), some (.int (zi ((p0 + 6) + 0))), some (.int (zi 0))]) (S' := [.ref m, .ref m]) rfl ?_
                                      refine gs_gtk rfl (by decide) rfl sh1798.1 tm rfl rfl s1814 ?_
                                      refine gz_s 1 (pc' := 408) (L' := [some (.ref m), some (.int (zi by2)), some (.int (zi mk)), some (.int (zi bg)), some (.int (zi n)), some (.int (zi zq1286)), some (.int (zi zq1339)), some (.int (zi z1393)), some (.int (zi 0)), some (.int (zi ((p0 + 6) + 0))), some (.int (zi 0))]) (S' := [.int (zi 0), .ref c1794, .ref m]) rfl ?_
                                      have hl2498 : 3 ≤ h1798.2.2.2.1 c1794 ∧ h1798.2.2.2.1 c1794 ≤ 3 := gJ.rowl (G := gGG) sh1798.1 tc1794 rfl
                                      refine gs_alx rfl (by decide) sh1798.1 tc1794 rfl rfl rfl (by decide) (fun _ => rfl) (by omega) (by omega) (by decide) pr1815 (fun ex2499 ax2499 bx2499 => ?_)
                                      refine gz_s 1 (pc' := 410) (L' := [some (.ref m), some (.int (zi by2)), some (.int (zi mk)), some (.int (zi bg)), some (.int (zi n)), some (.int (zi zq1286)), some (.int (zi zq1339)), some (.int (zi z1393)), some (.int (zi 0)), some (.int (zi ((p0 + 6) + 0))), some (.int (zi 0))]) (S' := [.int (zi 1), .int (zi (z1796 % 16)), .ref m]) rfl ?_
                                      by_cases hc2500 : (z1796 % 16 : Int) < 1
                                      · refine gy_icT (pc' := 428) rfl (by decide) (by decide) (by omega) (by omega) hc2500 ?_
                                        refine gz_s 1 (pc' := 429) (L' := [some (.ref m), some (.int (zi by2)), some (.int (zi mk)), some (.int (zi bg)), some (.int (zi n)), some (.int (zi zq1286)), some (.int (zi zq1339)), some (.int (zi z1393)), some (.int (zi 0)), some (.int (zi ((p0 + 6) + 0))), some (.int (zi 0))]) (S' := [.int (zi 0), .ref m]) rfl ?_
                                        exact jn1818 0 (by omega)
                                      · refine gy_icF rfl (by decide) (by decide) (by omega) (by omega) hc2500 ?_
                                        refine gz_s 1 (pc' := 414) (L' := [some (.ref m), some (.int (zi by2)), some (.int (zi mk)), some (.int (zi bg)), some (.int (zi n)), some (.int (zi zq1286)), some (.int (zi zq1339)), some (.int (zi z1393)), some (.int (zi 0)), some (.int (zi ((p0 + 6) + 0))), some (.int (zi 0))]) (S' := [.ref m, .ref m]) rfl ?_
                                        refine gs_gtk rfl (by decide) rfl sh1798.1 tm rfl rfl s1814 ?_
                                        refine gz_s 1 (pc' := 419) (L' := [some (.ref m), some (.int (zi by2)), some (.int (zi mk)), some (.int (zi bg)), some (.int (zi n)), some (.int (zi zq1286)), some (.int (zi zq1339)), some (.int (zi z1393)), some (.int (zi 0)), some (.int (zi ((p0 + 6) + 0))), some (.int (zi 0))]) (S' := [.int (zi 0), .ref c1794, .ref m]) rfl ?_
                                        have hl2501 : 3 ≤ h1798.2.2.2.1 c1794 ∧ h1798.2.2.2.1 c1794 ≤ 3 := gJ.rowl (G := gGG) sh1798.1 tc1794 rfl
                                        refine gs_alx rfl (by decide) sh1798.1 tc1794 rfl rfl rfl (by decide) (fun _ => rfl) (by omega) (by omega) (by decide) pr1815 (fun ex2502 ax2502 bx2502 => ?_)
                                        refine gz_s 1 (pc' := 421) (L' := [some (.ref m), some (.int (zi by2)), some (.int (zi mk)), some (.int (zi bg)), some (.int (zi n)), some (.int (zi zq1286)), some (.int (zi zq1339)), some (.int (zi z1393)), some (.int (zi 0)), some (.int (zi ((p0 + 6) + 0))), some (.int (zi 0))]) (S' := [.int (zi 2), .int (zi (z1796 % 16)), .ref m]) rfl ?_
                                        by_cases hc2503 : (2 : Int) < z1796 % 16
                                        · refine gy_icT (pc' := 428) rfl (by decide) (by decide) (by omega) (by omega) hc2503 ?_
                                          refine gz_s 1 (pc' := 429) (L' := [some (.ref m), some (.int (zi by2)), some (.int (zi mk)), some (.int (zi bg)), some (.int (zi n)), some (.int (zi zq1286)), some (.int (zi zq1339)), some (.int (zi z1393)), some (.int (zi 0)), some (.int (zi ((p0 + 6) + 0))), some (.int (zi 0))]) (S' := [.int (zi 0), .ref m]) rfl ?_
                                          exact jn1818 0 (by omega)
                                        · refine gy_icF rfl (by decide) (by decide) (by omega) (by omega) hc2503 ?_
                                          refine gz_s 2 (pc' := 429) (L' := [some (.ref m), some (.int (zi by2)), some (.int (zi mk)), some (.int (zi bg)), some (.int (zi n)), some (.int (zi zq1286)), some (.int (zi zq1339)), some (.int (zi z1393)), some (.int (zi 0)), some (.int (zi ((p0 + 6) + 0))), some (.int (zi 0))]) (S' := [.int (zi 1), .ref m]) rfl ?_
                                          exact jn1818 1 (by omega)
                              · refine gy_ifF rfl (by decide) (by decide) (by omega) hc1752 ?_
                                have hpi2504 : gPi ty ip w hh wd hg bs hq1740 := fun e => absurd e (by omega)
                                exact gz_end (I := .return_) (len := 1) rfl (Or.inl rfl) ⟨sq1740, fq1740_0, ip, w, hh, wd, hg, bs, rfl, efq1740_0, (by omega), (by omega), s1744, (by omega), (by omega), s1745, (by omega), (by omega), s1746, (by omega), (by omega), s1747, (by omega), (by omega), s1748, (by omega), (by omega), s1749, (by omega), (by omega), hpi2504⟩
                    · refine gy_ifF rfl (by decide) (by decide) (by omega) hc1391 ?_
                      have hpi2505 : gPi ty ip w hh wd hg bs hq1379 := fun e => absurd e (by omega)
                      exact gz_end (I := .return_) (len := 1) rfl (Or.inl rfl) ⟨sq1379, fq1379_0, ip, w, hh, wd, hg, bs, rfl, efq1379_0, (by omega), (by omega), s1383, (by omega), (by omega), s1384, (by omega), (by omega), s1385, (by omega), (by omega), s1386, (by omega), (by omega), s1387, (by omega), (by omega), s1388, (by omega), (by omega), hpi2505⟩
              · refine gy_ifF rfl (by decide) (by decide) (by omega) hc1338 ?_
                have hpi2506 : gPi ty ip w hh wd hg bs hq1326 := fun e => absurd e (by omega)
                exact gz_end (I := .return_) (len := 1) rfl (Or.inl rfl) ⟨sq1326, fq1326_0, ip, w, hh, wd, hg, bs, rfl, efq1326_0, (by omega), (by omega), s1330, (by omega), (by omega), s1331, (by omega), (by omega), s1332, (by omega), (by omega), s1333, (by omega), (by omega), s1334, (by omega), (by omega), s1335, (by omega), (by omega), hpi2506⟩
