/-! ===== the model: methods (by program) ===== -/
set_option maxRecDepth 20000 in
set_option maxHeartbeats 4000000 in
theorem mm_readDifference (d : Nat) {ty : Nat → Nat} {h : gH} (hJ : gJ rT 1027 ty h) (m : Nat) (tm : ty m = 1) (b : Int) (rb : 0 ≤ b ∧ b ≤ 2) (p : Int) (rp : 0 ≤ p ∧ p ≤ 12224) (sb : Int) (rsb : 0 ≤ sb ∧ sb ≤ 31) (a0 : Int) (ea0 : h.2.2.2.2 m 47 = .int (zi a0)) (ra0 : 0 ≤ a0 ∧ a0 ≤ 2001) (k0 : Int) (ek0 : h.2.2.2.2 m 48 = .int (zi k0)) (rk0 : 0 ≤ k0 ∧ k0 ≤ 7) (sz : Int) (esz : h.2.2.2.2 m 3 = .int (zi sz)) (rsz : 0 ≤ sz ∧ sz ≤ 2000) (u0 : Int) (eu0 : h.2.2.2.2 m 46 = .int (zi u0)) (ru0 : 0 ≤ u0 ∧ u0 ≤ 1) (p0 : k0 = 0 ∨ a0 < sz) (el0 : gEl ty 21 b 0 3 h) : gz gPP gGG gcn (d + 4) gt154 0 (gent [.ref m, .int (zi b), .int (zi p), .int (zi sb)] 6) [] h (fun q _ => gSs rT 1027 ty [1046, 1047, 1048, 20999, 23999] h q.2.2 ∧ ∃ a1 k1 u1 : Int, gfin gt154 q.1 q.2.1 = some none ∧ q.2.2.2.2.2.2 m 47 = .int (zi a1) ∧ 0 ≤ a1 ∧ a1 ≤ 2001 ∧ q.2.2.2.2.2.2 m 48 = .int (zi k1) ∧ 0 ≤ k1 ∧ k1 ≤ 7 ∧ q.2.2.2.2.2.2 m 46 = .int (zi u1) ∧ 0 ≤ u1 ∧ u1 ≤ 1 ∧ (k1 = 0 ∨ a1 < sz) ∧ (a0 ≤ a1) ∧ (u1 = 0 → u0 = 0)) := by
  have hS : gSs rT 1027 ty [1046, 1047, 1048, 20999, 23999] h h := gSs.rf hJ
  refine gz_s 2 (pc' := 2) (L' := [some (.ref m), some (.int (zi b)), some (.int (zi p)), some (.int (zi sb)), none, none]) (S' := [.ref m, .ref m]) rfl ?_
  refine gs_gtr rfl (by decide) rfl hS.1 tm rfl rfl rfl (fun c1 ec1 tc1 => ?_)
  refine gz_s 1 (pc' := 6) (L' := [some (.ref m), some (.int (zi b)), some (.int (zi p)), some (.int (zi sb)), none, none]) (S' := [.int (zi b), .ref c1, .ref m]) rfl ?_
  have hl2 : 3 ≤ h.2.2.2.1 c1 ∧ h.2.2.2.1 c1 ≤ 3 := gJ.rowl (G := gGG) hS.1 tc1 rfl
  refine gs_ald rfl (by decide) hS.1 tc1 rfl rfl rfl (by decide) (fun _ => rfl) (by omega) (by omega) (fun z3 ez3 az3 bz3 => ?_)
  have he4 := el0 c1 z3 tc1 ez3 (by omega) (by omega)
  refine gz_call rfl (by decide) rfl (by decide) (by decide) (gcal_of rfl rfl rfl (Nat.le_of_ble_eq_true rfl) (gJ.recv (G := gGG) hS.1 tm rfl rfl)) (mm_symbol _ hS.1 m tm z3 (by omega) a0 ea0 (by omega) k0 ek0 (by omega) sz esz (by omega) u0 eu0 (by omega) (by omega)) (fun q5 _ wq5 => ?_)
  obtain ⟨pq5, oq5, hq5⟩ := q5
  obtain ⟨xq5, zq5, fq5_0, fq5_1, fq5_2, gq5, aq5, bq5, efq5_0, afq5_0, bfq5_0, efq5_1, afq5_1, bfq5_1, efq5_2, afq5_2, bfq5_2, uq5_0, uq5_1, uq5_2⟩ := wq5
  refine ⟨_, gq5, ?_⟩
  show gz gPP gGG gcn _ _ 10 [some (.ref m), some (.int (zi b)), some (.int (zi p)), some (.int (zi sb)), none, none] [.int (zi zq5)] hq5 _
  have sq5 := gSs.tr hS xq5 (by decide)
  have s6 := (xq5.2.2.2.2.2 m 3 (by rw [tm]; decide)).trans esz
  have s7 := (xq5.2.2.2.2.2 m 35 (by rw [tm]; decide)).trans ec1
  have pr8 := gEl.fr xq5.2 (by decide) (fun _ => rfl) el0
  refine gz_s 4 (pc' := 17) (L' := [some (.ref m), some (.int (zi b)), some (.int (zi p)), some (.int (zi sb)), some (.int (zi zq5)), none]) (S' := [.int (zi 11), .int (zi zq5), .ref m]) rfl ?_
  by_cases hc9 : (11 : Int) < zq5
  · refine gy_icT (pc' := 24) rfl (by decide) (by decide) (by omega) (by omega) hc9 ?_
    refine gz_s 1 (pc' := 25) (L' := [some (.ref m), some (.int (zi b)), some (.int (zi p)), some (.int (zi sb)), some (.int (zi zq5)), none]) (S' := [.int (zi 0), .ref m]) rfl ?_
    refine gz_call rfl (by decide) rfl (by decide) (by decide) (gcal_of rfl rfl rfl (Nat.le_of_ble_eq_true rfl) (gJ.recv (G := gGG) sq5.1 tm rfl rfl)) (mm_keep _ sq5.1 m tm 0 (by omega) fq5_2 efq5_2 (by omega)) (fun q10 _ wq10 => ?_)
    obtain ⟨pq10, oq10, hq10⟩ := q10
    obtain ⟨xq10, fq10_0, gq10, efq10_0, afq10_0, bfq10_0, uq10_0⟩ := wq10
    refine ⟨_, gq10, ?_⟩
    show gz gPP gGG gcn _ _ 28 [some (.ref m), some (.int (zi b)), some (.int (zi p)), some (.int (zi sb)), some (.int (zi zq5)), none] [] hq10 _
    have sq10 := gSs.tr sq5 xq10 (by decide)
    have s11 := (xq10.2.2.2.2.2 m 3 (by rw [tm]; decide)).trans s6
    have s12 := (xq10.2.2.2.2.2 m 35 (by rw [tm]; decide)).trans s7
    have s13 := (xq10.2.2.2.2.2 m 47 (by rw [tm]; decide)).trans efq5_0
    have s14 := (xq10.2.2.2.2.2 m 48 (by rw [tm]; decide)).trans efq5_1
    have pr15 := gEl.fr xq10.2 (by decide) (fun _ => rfl) pr8
    refine gz_s 1 (pc' := 29) (L' := [some (.ref m), some (.int (zi b)), some (.int (zi p)), some (.int (zi sb)), some (.int (zi zq5)), none]) (S' := [.ref m]) rfl ?_
    refine gs_gtk rfl (by decide) rfl sq10.1 tm rfl rfl efq10_0 ?_
    by_cases hc16 : (fq10_0 : Int) = 0
    · refine gy_ifT (pc' := 39) rfl (by decide) (by decide) (by omega) hc16 ?_
      refine gz_s 2 (pc' := 42) (L' := [some (.ref m), some (.int (zi b)), some (.int (zi p)), some (.int (zi sb)), some (.int (zi zq5)), none]) (S' := [.int (zi zq5), .ref m]) rfl ?_
      refine gz_call rfl (by decide) rfl (by decide) (by decide) (gcal_of rfl rfl rfl (Nat.le_of_ble_eq_true rfl) (gJ.recv (G := gGG) sq10.1 tm rfl rfl)) (mm_number _ sq10.1 m tm zq5 (by omega) fq5_0 s13 (by omega) fq5_1 s14 (by omega) sz s11 (by omega) fq10_0 efq10_0 (by omega) (by omega)) (fun q17 _ wq17 => ?_)
      obtain ⟨pq17, oq17, hq17⟩ := q17
      obtain ⟨xq17, zq17, fq17_0, fq17_1, fq17_2, gq17, aq17, bq17, efq17_0, afq17_0, bfq17_0, efq17_1, afq17_1, bfq17_1, efq17_2, afq17_2, bfq17_2, uq17_0, uq17_1, uq17_2⟩ := wq17
      refine ⟨_, gq17, ?_⟩
      show gz gPP gGG gcn _ _ 45 [some (.ref m), some (.int (zi b)), some (.int (zi p)), some (.int (zi sb)), some (.int (zi zq5)), none] [.int (zi zq17)] hq17 _
      have sq17 := gSs.tr sq10 xq17 (by decide)
      have s18 := (xq17.2.2.2.2.2 m 3 (by rw [tm]; decide)).trans s11
      have s19 := (xq17.2.2.2.2.2 m 35 (by rw [tm]; decide)).trans s12
      have pr20 := gEl.fr xq17.2 (by decide) (fun _ => rfl) pr15
      refine gz_s 2 (pc' := 48) (L' := [some (.ref m), some (.int (zi b)), some (.int (zi p)), some (.int (zi sb)), some (.int (zi zq5)), some (.int (zi zq17))]) (S' := [.ref m]) rfl ?_
      refine gs_gtk rfl (by decide) rfl sq17.1 tm rfl rfl efq17_2 ?_
      by_cases hc21 : ¬ (fq17_2 : Int) = 0
      · refine gy_ifT (pc' := 83) rfl (by decide) (by decide) (by omega) hc21 ?_
        exact gz_end (I := .return_) (len := 1) rfl (Or.inl rfl) ⟨sq17, fq17_0, fq17_1, fq17_2, rfl, efq17_0, (by omega), (by omega), efq17_1, (by omega), (by omega), efq17_2, (by omega), (by omega), (by omega), (by omega), (by omega)⟩
      · refine gy_ifF rfl (by decide) (by decide) (by omega) hc21 ?_
        refine gz_s 1 (pc' := 55) (L' := [some (.ref m), some (.int (zi b)), some (.int (zi p)), some (.int (zi sb)), some (.int (zi zq5)), some (.int (zi zq17))]) (S' := [.ref m]) rfl ?_
        refine gs_gtr rfl (by decide) rfl sq17.1 tm rfl rfl rfl (fun c22 ec22 tc22 => ?_)
        refine gz_s 2 (pc' := 60) (L' := [some (.ref m), some (.int (zi b)), some (.int (zi p)), some (.int (zi sb)), some (.int (zi zq5)), some (.int (zi zq17))]) (S' := [.ref m, .int (zi b), .ref c22]) rfl ?_
        refine gs_gtk rfl (by decide) rfl sq17.1 tm rfl rfl ec22 ?_
        refine gz_s 1 (pc' := 64) (L' := [some (.ref m), some (.int (zi b)), some (.int (zi p)), some (.int (zi sb)), some (.int (zi zq5)), some (.int (zi zq17))]) (S' := [.int (zi b), .ref c22, .int (zi b), .ref c22]) rfl ?_
        have hl23 : 3 ≤ hq17.2.2.2.1 c22 ∧ hq17.2.2.2.1 c22 ≤ 3 := gJ.rowl (G := gGG) sq17.1 tc22 rfl
        refine gs_ald rfl (by decide) sq17.1 tc22 rfl rfl rfl (by decide) (fun _ => rfl) (by omega) (by omega) (fun z24 ez24 az24 bz24 => ?_)
        refine gy_s 2 (pc' := 68) (L' := [some (.ref m), some (.int (zi b)), some (.int (zi p)), some (.int (zi sb)), some (.int (zi zq5)), some (.int (zi zq17))]) (S' := [.int ((zi z24) + (zi zq17)), .int (zi b), .ref c22]) (L2 := [some (.ref m), some (.int (zi b)), some (.int (zi p)), some (.int (zi sb)), some (.int (zi zq5)), some (.int (zi zq17))]) (S2 := [.int (zi (z24 + zq17)), .int (zi b), .ref c22]) rfl (by simp only [zi_add, zi_sub, zi_mul, zi_neg, zi_and1, zi_and7, zi_and15, zi_and31, zi_and255]) (by simp only [zi_add, zi_sub, zi_mul, zi_neg, zi_and1, zi_and7, zi_and15, zi_and31, zi_and255]) ?_
        have hl25 : 3 ≤ hq17.2.2.2.1 c22 ∧ hq17.2.2.2.1 c22 ≤ 3 := gJ.rowl (G := gGG) sq17.1 tc22 rfl
        refine gy_any (fun z27 ez27 az27 bz27 => ?_)
        refine gs_ast rfl (by decide) sq17 tc22 rfl rfl rfl (by decide) (fun _ => rfl) (by omega) (by omega) (fun _ => (by decide : (20999 : Nat) ∈ ([1046, 1047, 1048, 20999, 23999] : List Nat))) (by omega) (by omega) (fun h26 sh26 eh26 fh26 => ?_)
        have pr28 := gEl.pt fh26 tc22 (by decide) pr20
        have s29 := (fh26 m 3 (fun q => absurd (((tm).symm.trans (congrArg ty q.1)).trans tc22) (by decide))).trans s18
        have s30 := (fh26 m 35 (fun q => absurd (((tm).symm.trans (congrArg ty q.1)).trans tc22) (by decide))).trans s19
        have s31 := (fh26 m 47 (fun q => absurd (((tm).symm.trans (congrArg ty q.1)).trans tc22) (by decide))).trans efq17_0
        have s32 := (fh26 m 48 (fun q => absurd (((tm).symm.trans (congrArg ty q.1)).trans tc22) (by decide))).trans efq17_1
        have s33 := (fh26 m 46 (fun q => absurd (((tm).symm.trans (congrArg ty q.1)).trans tc22) (by decide))).trans efq17_2
        have s34 := (fh26 m 34 (fun q => absurd (((tm).symm.trans (congrArg ty q.1)).trans tc22) (by decide))).trans ec22
        refine gz_s 1 (pc' := 70) (L' := [some (.ref m), some (.int (zi b)), some (.int (zi p)), some (.int (zi sb)), some (.int (zi zq5)), some (.int (zi zq17))]) (S' := [.ref m]) rfl ?_
        refine gs_gtr rfl (by decide) rfl sh26.1 tm rfl rfl rfl (fun c35 ec35 tc35 => ?_)
        refine gz_s 2 (pc' := 75) (L' := [some (.ref m), some (.int (zi b)), some (.int (zi p)), some (.int (zi sb)), some (.int (zi zq5)), some (.int (zi zq17))]) (S' := [.ref m, .int (zi p), .ref c35]) rfl ?_
        refine gs_gtk rfl (by decide) rfl sh26.1 tm rfl rfl s34 ?_
        refine gz_s 1 (pc' := 79) (L' := [some (.ref m), some (.int (zi b)), some (.int (zi p)), some (.int (zi sb)), some (.int (zi zq5)), some (.int (zi zq17))]) (S' := [.int (zi b), .ref c22, .int (zi p), .ref c35]) rfl ?_
        have hl36 : 3 ≤ h26.2.2.2.1 c22 ∧ h26.2.2.2.1 c22 ≤ 3 := gJ.rowl (G := gGG) sh26.1 tc22 rfl
        refine gs_ald rfl (by decide) sh26.1 tc22 rfl rfl rfl (by decide) (fun _ => rfl) (by omega) (by omega) (fun z37 ez37 az37 bz37 => ?_)
        refine gz_s 1 (pc' := 81) (L' := [some (.ref m), some (.int (zi b)), some (.int (zi p)), some (.int (zi sb)), some (.int (zi zq5)), some (.int (zi zq17))]) (S' := [.int (zi sb), .int (zi z37), .int (zi p), .ref c35]) rfl ?_
        refine gy_iiv rfl (by decide) rfl (fun _ _ => rfl) (fun z38 ez38 az38 bz38 => ?_)
        have hl39 : 12288 ≤ h26.2.2.2.1 c35 ∧ h26.2.2.2.1 c35 ≤ 12288 := gJ.rowl (G := gGG) sh26.1 tc35 rfl
        refine gs_ast rfl (by decide) sh26 tc35 rfl rfl rfl (by decide) (fun _ => rfl) (by omega) (by omega) (fun _ => (by decide : (23999 : Nat) ∈ ([1046, 1047, 1048, 20999, 23999] : List Nat))) (by omega) (by omega) (fun h40 sh40 eh40 fh40 => ?_)
        have pr41 := gEl.pt fh40 tc35 (by decide) pr28
        have s42 := (fh40 m 3 (fun q => absurd (((tm).symm.trans (congrArg ty q.1)).trans tc35) (by decide))).trans s29
        have s43 := (fh40 m 35 (fun q => absurd (((tm).symm.trans (congrArg ty q.1)).trans tc35) (by decide))).trans s30
        have s44 := (fh40 m 47 (fun q => absurd (((tm).symm.trans (congrArg ty q.1)).trans tc35) (by decide))).trans s31
        have s45 := (fh40 m 48 (fun q => absurd (((tm).symm.trans (congrArg ty q.1)).trans tc35) (by decide))).trans s32
        have s46 := (fh40 m 46 (fun q => absurd (((tm).symm.trans (congrArg ty q.1)).trans tc35) (by decide))).trans s33
        have s47 := (fh40 m 34 (fun q => absurd (((tm).symm.trans (congrArg ty q.1)).trans tc35) (by decide))).trans s34
        have s48 := (fh40 m 37 (fun q => absurd (((tm).symm.trans (congrArg ty q.1)).trans tc35) (by decide))).trans ec35
        exact gz_end (I := .return_) (len := 1) rfl (Or.inl rfl) ⟨sh40, fq17_0, fq17_1, fq17_2, rfl, s44, (by omega), (by omega), s45, (by omega), (by omega), s46, (by omega), (by omega), (by omega), (by omega), (by omega)⟩
    · refine gy_ifF rfl (by decide) (by decide) (by omega) hc16 ?_
      refine gz_s 4 (pc' := 48) (L' := [some (.ref m), some (.int (zi b)), some (.int (zi p)), some (.int (zi sb)), some (.int (zi zq5)), some (.int (zi 0))]) (S' := [.ref m]) rfl ?_
      refine gs_gtk rfl (by decide) rfl sq10.1 tm rfl rfl efq10_0 ?_
      refine gy_ifT (pc' := 83) rfl (by decide) (by decide) (by omega) (by first | (simp [zc]; done) | (simp only [zc]; omega)) ?_
      exact gz_end (I := .return_) (len := 1) rfl (Or.inl rfl) ⟨sq10, fq5_0, fq5_1, fq10_0, rfl, s13, (by omega), (by omega), s14, (by omega), (by omega), efq10_0, (by omega), (by omega), (by omega), (by omega), (by omega)⟩
  · refine gy_icF rfl (by decide) (by decide) (by omega) (by omega) hc9 ?_
    refine gz_s 2 (pc' := 25) (L' := [some (.ref m), some (.int (zi b)), some (.int (zi p)), some (.int (zi sb)), some (.int (zi zq5)), none]) (S' := [.int (zi 1), .ref m]) rfl ?_
    refine gz_call rfl (by decide) rfl (by decide) (by decide) (gcal_of rfl rfl rfl (Nat.le_of_ble_eq_true rfl) (gJ.recv (G := gGG) sq5.1 tm rfl rfl)) (mm_keep _ sq5.1 m tm 1 (by omega) fq5_2 efq5_2 (by omega)) (fun q49 _ wq49 => ?_)
    obtain ⟨pq49, oq49, hq49⟩ := q49
    obtain ⟨xq49, fq49_0, gq49, efq49_0, afq49_0, bfq49_0, uq49_0⟩ := wq49
    refine ⟨_, gq49, ?_⟩
    show gz gPP gGG gcn _ _ 28 [some (.ref m), some (.int (zi b)), some (.int (zi p)), some (.int (zi sb)), some (.int (zi zq5)), none] [] hq49 _
    have sq49 := gSs.tr sq5 xq49 (by decide)
    have s50 := (xq49.2.2.2.2.2 m 3 (by rw [tm]; decide)).trans s6
    have s51 := (xq49.2.2.2.2.2 m 35 (by rw [tm]; decide)).trans s7
    have s52 := (xq49.2.2.2.2.2 m 47 (by rw [tm]; decide)).trans efq5_0
    have s53 := (xq49.2.2.2.2.2 m 48 (by rw [tm]; decide)).trans efq5_1
    have pr54 := gEl.fr xq49.2 (by decide) (fun _ => rfl) pr8
    refine gz_s 1 (pc' := 29) (L' := [some (.ref m), some (.int (zi b)), some (.int (zi p)), some (.int (zi sb)), some (.int (zi zq5)), none]) (S' := [.ref m]) rfl ?_
    refine gs_gtk rfl (by decide) rfl sq49.1 tm rfl rfl efq49_0 ?_
    by_cases hc55 : (fq49_0 : Int) = 0
    · refine gy_ifT (pc' := 39) rfl (by decide) (by decide) (by omega) hc55 ?_
      refine gz_s 2 (pc' := 42) (L' := [some (.ref m), some (.int (zi b)), some (.int (zi p)), some (.int (zi sb)), some (.int (zi zq5)), none]) (S' := [.int (zi zq5), .ref m]) rfl ?_
      refine gz_call rfl (by decide) rfl (by decide) (by decide) (gcal_of rfl rfl rfl (Nat.le_of_ble_eq_true rfl) (gJ.recv (G := gGG) sq49.1 tm rfl rfl)) (mm_number _ sq49.1 m tm zq5 (by omega) fq5_0 s52 (by omega) fq5_1 s53 (by omega) sz s50 (by omega) fq49_0 efq49_0 (by omega) (by omega)) (fun q56 _ wq56 => ?_)
      obtain ⟨pq56, oq56, hq56⟩ := q56
      obtain ⟨xq56, zq56, fq56_0, fq56_1, fq56_2, gq56, aq56, bq56, efq56_0, afq56_0, bfq56_0, efq56_1, afq56_1, bfq56_1, efq56_2, afq56_2, bfq56_2, uq56_0, uq56_1, uq56_2⟩ := wq56
      refine ⟨_, gq56, ?_⟩
      show gz gPP gGG gcn _ _ 45 [some (.ref m), some (.int (zi b)), some (.int (zi p)), some (.int (zi sb)), some (.int (zi zq5)), none] [.int (zi zq56)] hq56 _
      have sq56 := gSs.tr sq49 xq56 (by decide)
      have s57 := (xq56.2.2.2.2.2 m 3 (by rw [tm]; decide)).trans s50
      have s58 := (xq56.2.2.2.2.2 m 35 (by rw [tm]; decide)).trans s51
      have pr59 := gEl.fr xq56.2 (by decide) (fun _ => rfl) pr54
      refine gz_s 2 (pc' := 48) (L' := [some (.ref m), some (.int (zi b)), some (.int (zi p)), some (.int (zi sb)), some (.int (zi zq5)), some (.int (zi zq56))]) (S' := [.ref m]) rfl ?_
      refine gs_gtk rfl (by decide) rfl sq56.1 tm rfl rfl efq56_2 ?_
      by_cases hc60 : ¬ (fq56_2 : Int) = 0
      · refine gy_ifT (pc' := 83) rfl (by decide) (by decide) (by omega) hc60 ?_
        exact gz_end (I := .return_) (len := 1) rfl (Or.inl rfl) ⟨sq56, fq56_0, fq56_1, fq56_2, rfl, efq56_0, (by omega), (by omega), efq56_1, (by omega), (by omega), efq56_2, (by omega), (by omega), (by omega), (by omega), (by omega)⟩
      · refine gy_ifF rfl (by decide) (by decide) (by omega) hc60 ?_
        refine gz_s 1 (pc' := 55) (L' := [some (.ref m), some (.int (zi b)), some (.int (zi p)), some (.int (zi sb)), some (.int (zi zq5)), some (.int (zi zq56))]) (S' := [.ref m]) rfl ?_
        refine gs_gtr rfl (by decide) rfl sq56.1 tm rfl rfl rfl (fun c61 ec61 tc61 => ?_)
        refine gz_s 2 (pc' := 60) (L' := [some (.ref m), some (.int (zi b)), some (.int (zi p)), some (.int (zi sb)), some (.int (zi zq5)), some (.int (zi zq56))]) (S' := [.ref m, .int (zi b), .ref c61]) rfl ?_
        refine gs_gtk rfl (by decide) rfl sq56.1 tm rfl rfl ec61 ?_
        refine gz_s 1 (pc' := 64) (L' := [some (.ref m), some (.int (zi b)), some (.int (zi p)), some (.int (zi sb)), some (.int (zi zq5)), some (.int (zi zq56))]) (S' := [.int (zi b), .ref c61, .int (zi b), .ref c61]) rfl ?_
        have hl62 : 3 ≤ hq56.2.2.2.1 c61 ∧ hq56.2.2.2.1 c61 ≤ 3 := gJ.rowl (G := gGG) sq56.1 tc61 rfl
        refine gs_ald rfl (by decide) sq56.1 tc61 rfl rfl rfl (by decide) (fun _ => rfl) (by omega) (by omega) (fun z63 ez63 az63 bz63 => ?_)
        refine gy_s 2 (pc' := 68) (L' := [some (.ref m), some (.int (zi b)), some (.int (zi p)), some (.int (zi sb)), some (.int (zi zq5)), some (.int (zi zq56))]) (S' := [.int ((zi z63) + (zi zq56)), .int (zi b), .ref c61]) (L2 := [some (.ref m), some (.int (zi b)), some (.int (zi p)), some (.int (zi sb)), some (.int (zi zq5)), some (.int (zi zq56))]) (S2 := [.int (zi (z63 + zq56)), .int (zi b), .ref c61]) rfl (by simp only [zi_add, zi_sub, zi_mul, zi_neg, zi_and1, zi_and7, zi_and15, zi_and31, zi_and255]) (by simp only [zi_add, zi_sub, zi_mul, zi_neg, zi_and1, zi_and7, zi_and15, zi_and31, zi_and255]) ?_
        have hl64 : 3 ≤ hq56.2.2.2.1 c61 ∧ hq56.2.2.2.1 c61 ≤ 3 := gJ.rowl (G := gGG) sq56.1 tc61 rfl
        refine gy_any (fun z66 ez66 az66 bz66 => ?_)
        refine gs_ast rfl (by decide) sq56 tc61 rfl rfl rfl (by decide) (fun _ => rfl) (by omega) (by omega) (fun _ => (by decide : (20999 : Nat) ∈ ([1046, 1047, 1048, 20999, 23999] : List Nat))) (by omega) (by omega) (fun h65 sh65 eh65 fh65 => ?_)
        have pr67 := gEl.pt fh65 tc61 (by decide) pr59
        have s68 := (fh65 m 3 (fun q => absurd (((tm).symm.trans (congrArg ty q.1)).trans tc61) (by decide))).trans s57
        have s69 := (fh65 m 35 (fun q => absurd (((tm).symm.trans (congrArg ty q.1)).trans tc61) (by decide))).trans s58
        have s70 := (fh65 m 47 (fun q => absurd (((tm).symm.trans (congrArg ty q.1)).trans tc61) (by decide))).trans efq56_0
        have s71 := (fh65 m 48 (fun q => absurd (((tm).symm.trans (congrArg ty q.1)).trans tc61) (by decide))).trans efq56_1
        have s72 := (fh65 m 46 (fun q => absurd (((tm).symm.trans (congrArg ty q.1)).trans tc61) (by decide))).trans efq56_2
        have s73 := (fh65 m 34 (fun q => absurd (((tm).symm.trans (congrArg ty q.1)).trans tc61) (by decide))).trans ec61
        refine gz_s 1 (pc' := 70) (L' := [some (.ref m), some (.int (zi b)), some (.int (zi p)), some (.int (zi sb)), some (.int (zi zq5)), some (.int (zi zq56))]) (S' := [.ref m]) rfl ?_
        refine gs_gtr rfl (by decide) rfl sh65.1 tm rfl rfl rfl (fun c74 ec74 tc74 => ?_)
        refine gz_s 2 (pc' := 75) (L' := [some (.ref m), some (.int (zi b)), some (.int (zi p)), some (.int (zi sb)), some (.int (zi zq5)), some (.int (zi zq56))]) (S' := [.ref m, .int (zi p), .ref c74]) rfl ?_
        refine gs_gtk rfl (by decide) rfl sh65.1 tm rfl rfl s73 ?_
        refine gz_s 1 (pc' := 79) (L' := [some (.ref m), some (.int (zi b)), some (.int (zi p)), some (.int (zi sb)), some (.int (zi zq5)), some (.int (zi zq56))]) (S' := [.int (zi b), .ref c61, .int (zi p), .ref c74]) rfl ?_
        have hl75 : 3 ≤ h65.2.2.2.1 c61 ∧ h65.2.2.2.1 c61 ≤ 3 := gJ.rowl (G := gGG) sh65.1 tc61 rfl
        refine gs_ald rfl (by decide) sh65.1 tc61 rfl rfl rfl (by decide) (fun _ => rfl) (by omega) (by omega) (fun z76 ez76 az76 bz76 => ?_)
        refine gz_s 1 (pc' := 81) (L' := [some (.ref m), some (.int (zi b)), some (.int (zi p)), some (.int (zi sb)), some (.int (zi zq5)), some (.int (zi zq56))]) (S' := [.int (zi sb), .int (zi z76), .int (zi p), .ref c74]) rfl ?_
        refine gy_iiv rfl (by decide) rfl (fun _ _ => rfl) (fun z77 ez77 az77 bz77 => ?_)
        have hl78 : 12288 ≤ h65.2.2.2.1 c74 ∧ h65.2.2.2.1 c74 ≤ 12288 := gJ.rowl (G := gGG) sh65.1 tc74 rfl
        refine gs_ast rfl (by decide) sh65 tc74 rfl rfl rfl (by decide) (fun _ => rfl) (by omega) (by omega) (fun _ => (by decide : (23999 : Nat) ∈ ([1046, 1047, 1048, 20999, 23999] : List Nat))) (by omega) (by omega) (fun h79 sh79 eh79 fh79 => ?_)
        have pr80 := gEl.pt fh79 tc74 (by decide) pr67
        have s81 := (fh79 m 3 (fun q => absurd (((tm).symm.trans (congrArg ty q.1)).trans tc74) (by decide))).trans s68
        have s82 := (fh79 m 35 (fun q => absurd (((tm).symm.trans (congrArg ty q.1)).trans tc74) (by decide))).trans s69
        have s83 := (fh79 m 47 (fun q => absurd (((tm).symm.trans (congrArg ty q.1)).trans tc74) (by decide))).trans s70
        have s84 := (fh79 m 48 (fun q => absurd (((tm).symm.trans (congrArg ty q.1)).trans tc74) (by decide))).trans s71
        have s85 := (fh79 m 46 (fun q => absurd (((tm).symm.trans (congrArg ty q.1)).trans tc74) (by decide))).trans s72
        have s86 := (fh79 m 34 (fun q => absurd (((tm).symm.trans (congrArg ty q.1)).trans tc74) (by decide))).trans s73
        have s87 := (fh79 m 37 (fun q => absurd (((tm).symm.trans (congrArg ty q.1)).trans tc74) (by decide))).trans ec74
        exact gz_end (I := .return_) (len := 1) rfl (Or.inl rfl) ⟨sh79, fq56_0, fq56_1, fq56_2, rfl, s83, (by omega), (by omega), s84, (by omega), (by omega), s85, (by omega), (by omega), (by omega), (by omega), (by omega)⟩
    · refine gy_ifF rfl (by decide) (by decide) (by omega) hc55 ?_
      refine gz_s 4 (pc' := 48) (L' := [some (.ref m), some (.int (zi b)), some (.int (zi p)), some (.int (zi sb)), some (.int (zi zq5)), some (.int (zi 0))]) (S' := [.ref m]) rfl ?_
      refine gs_gtk rfl (by decide) rfl sq49.1 tm rfl rfl efq49_0 ?_
      refine gy_ifT (pc' := 83) rfl (by decide) (by decide) (by omega) (by first | (simp [zc]; done) | (simp only [zc]; omega)) ?_
      exact gz_end (I := .return_) (len := 1) rfl (Or.inl rfl) ⟨sq49, fq5_0, fq5_1, fq49_0, rfl, s52, (by omega), (by omega), s53, (by omega), (by omega), efq49_0, (by omega), (by omega), (by omega), (by omega), (by omega)⟩
set_option maxRecDepth 20000 in
set_option maxHeartbeats 4000000 in
theorem mm_readWhole (d : Nat) {ty : Nat → Nat} {h : gH} (hJ : gJ rT 1027 ty h) (m : Nat) (tm : ty m = 1) (b : Int) (rb : 0 ≤ b ∧ b ≤ 2) (p : Int) (rp : 0 ≤ p ∧ p ≤ 12224) (a0 : Int) (ea0 : h.2.2.2.2 m 47 = .int (zi a0)) (ra0 : 0 ≤ a0 ∧ a0 ≤ 2001) (k0 : Int) (ek0 : h.2.2.2.2 m 48 = .int (zi k0)) (rk0 : 0 ≤ k0 ∧ k0 ≤ 7) (sz : Int) (esz : h.2.2.2.2 m 3 = .int (zi sz)) (rsz : 0 ≤ sz ∧ sz ≤ 2000) (u0 : Int) (eu0 : h.2.2.2.2 m 46 = .int (zi u0)) (ru0 : 0 ≤ u0 ∧ u0 ≤ 1) (p0 : k0 = 0 ∨ a0 < sz) (el0 : gEl ty 21 b 0 3 h) (el1 : gEl ty 22 b 4 7 h) : gz gPP gGG gcn (d + 5) gt153 0 (gent [.ref m, .int (zi b), .int (zi p)] 8) [] h (fun q _ => gSs rT 1027 ty [1046, 1047, 1048, 20999, 23999] h q.2.2 ∧ ∃ a1 k1 u1 : Int, gfin gt153 q.1 q.2.1 = some none ∧ q.2.2.2.2.2.2 m 47 = .int (zi a1) ∧ 0 ≤ a1 ∧ a1 ≤ 2001 ∧ q.2.2.2.2.2.2 m 48 = .int (zi k1) ∧ 0 ≤ k1 ∧ k1 ≤ 7 ∧ q.2.2.2.2.2.2 m 46 = .int (zi u1) ∧ 0 ≤ u1 ∧ u1 ≤ 1 ∧ (k1 = 0 ∨ a1 < sz) ∧ (a0 ≤ a1) ∧ (u1 = 0 → u0 = 0)) := by
  have hS : gSs rT 1027 ty [1046, 1047, 1048, 20999, 23999] h h := gSs.rf hJ
  refine gz_s 4 (pc' := 4) (L' := [some (.ref m), some (.int (zi b)), some (.int (zi p)), none, none, none, none, none]) (S' := [.int (zi 0), .int (zi p), .int (zi b), .ref m]) rfl ?_
  refine gz_call rfl (by decide) rfl (by decide) (by decide) (gcal_of rfl rfl rfl (Nat.le_of_ble_eq_true rfl) (gJ.recv (G := gGG) hS.1 tm rfl rfl)) (mm_readDifference _ hS.1 m tm b (by omega) p (by omega) 0 (by omega) a0 ea0 (by omega) k0 ek0 (by omega) sz esz (by omega) u0 eu0 (by omega) (by omega) el0) (fun q1 _ wq1 => ?_)
  obtain ⟨pq1, oq1, hq1⟩ := q1
  obtain ⟨xq1, fq1_0, fq1_1, fq1_2, gq1, efq1_0, afq1_0, bfq1_0, efq1_1, afq1_1, bfq1_1, efq1_2, afq1_2, bfq1_2, uq1_0, uq1_1, uq1_2⟩ := wq1
  refine ⟨_, gq1, ?_⟩
  show gz gPP gGG gcn _ _ 7 [some (.ref m), some (.int (zi b)), some (.int (zi p)), none, none, none, none, none] [] hq1 _
  have sq1 := gSs.tr hS xq1 (by decide)
  have s2 := (xq1.2.2.2.2.2 m 3 (by rw [tm]; decide)).trans esz
  have pr3 := gEl.fr xq1.2 (by decide) (fun _ => rfl) el0
  have pr4 := gEl.fr xq1.2 (by decide) (fun _ => rfl) el1
  refine gz_s 2 (pc' := 9) (L' := [some (.ref m), some (.int (zi b)), some (.int (zi p)), some (.int (zi 1)), none, none, none, none]) (S' := []) rfl ?_
  have lp5 : ∀ (fu : Nat) (h6 : gH) (k : Int) (av : Int) (kv : Int) (uv : Int), (101 - k).toNat < fu → gSs rT 1027 ty [1046, 1047, 1048, 20999, 23999] h h6 → (1 ≤ k ∧ k ≤ 100) → (0 ≤ av ∧ av ≤ 2001) → (0 ≤ kv ∧ kv ≤ 7) → (0 ≤ uv ∧ uv ≤ 1) → (kv = 0 ∨ av < sz) → (a0 ≤ av) → (uv = 0 → u0 = 0) → h6.2.2.2.2 m 3 = .int (zi sz) → h6.2.2.2.2 m 47 = .int (zi av) → h6.2.2.2.2 m 48 = .int (zi kv) → h6.2.2.2.2 m 46 = .int (zi uv) → gEl ty 21 b 0 3 h6 → gEl ty 22 b 4 7 h6 → gz gPP gGG gcn (d + 5) gt153 9 [some (.ref m), some (.int (zi b)), some (.int (zi p)), some (.int (zi k)), none, none, none, none] [] h6 (fun q _ => gSs rT 1027 ty [1046, 1047, 1048, 20999, 23999] h q.2.2 ∧ ∃ a1 k1 u1 : Int, gfin gt153 q.1 q.2.1 = some none ∧ q.2.2.2.2.2.2 m 47 = .int (zi a1) ∧ 0 ≤ a1 ∧ a1 ≤ 2001 ∧ q.2.2.2.2.2.2 m 48 = .int (zi k1) ∧ 0 ≤ k1 ∧ k1 ≤ 7 ∧ q.2.2.2.2.2.2 m 46 = .int (zi u1) ∧ 0 ≤ u1 ∧ u1 ≤ 1 ∧ (k1 = 0 ∨ a1 < sz) ∧ (a0 ≤ a1) ∧ (u1 = 0 → u0 = 0)) := by
    intro fu
    induction fu with
    | zero => intro h6 k av kv uv hm; exact absurd hm (Nat.not_lt_zero _)
    | succ fu ihlp5 =>
      intro h6 k av kv uv lp5m sh6 lp5f0 lp5f1 lp5f2 lp5f3 lp5f4 lp5f5 lp5f6 lp5k0 lp5k1 lp5k2 lp5k3 lp5k4 lp5k5
      refine gz_s 2 (pc' := 12) (L' := [some (.ref m), some (.int (zi b)), some (.int (zi p)), some (.int (zi k)), none, none, none, none]) (S' := [.int (zi 64), .int (zi k)]) rfl ?_
      by_cases hc7 : (64 : Int) ≤ k
      · refine gy_icT (pc' := 159) rfl (by decide) (by decide) (by omega) (by omega) hc7 ?_
        exact gz_end (I := .return_) (len := 1) rfl (Or.inl rfl) ⟨sh6, av, kv, uv, rfl, lp5k1, (by omega), (by omega), lp5k2, (by omega), (by omega), lp5k3, (by omega), (by omega), (by omega), (by omega), (by omega)⟩
      · refine gy_icF rfl (by decide) (by decide) (by omega) (by omega) hc7 ?_
        refine gz_s 1 (pc' := 16) (L' := [some (.ref m), some (.int (zi b)), some (.int (zi p)), some (.int (zi k)), none, none, none, none]) (S' := [.ref m]) rfl ?_
        refine gs_gtk rfl (by decide) rfl sh6.1 tm rfl rfl lp5k3 ?_
        by_cases hc8 : ¬ (uv : Int) = 0
        · refine gy_ifT (pc' := 159) rfl (by decide) (by decide) (by omega) hc8 ?_
          exact gz_end (I := .return_) (len := 1) rfl (Or.inl rfl) ⟨sh6, av, kv, uv, rfl, lp5k1, (by omega), (by omega), lp5k2, (by omega), (by omega), lp5k3, (by omega), (by omega), (by omega), (by omega), (by omega)⟩
        · refine gy_ifF rfl (by decide) (by decide) (by omega) hc8 ?_
          refine gz_s 2 (pc' := 24) (L' := [some (.ref m), some (.int (zi b)), some (.int (zi p)), some (.int (zi k)), none, none, none, none]) (S' := [.ref m, .ref m]) rfl ?_
          refine gs_gtr rfl (by decide) rfl sh6.1 tm rfl rfl rfl (fun c9 ec9 tc9 => ?_)
          refine gz_s 1 (pc' := 28) (L' := [some (.ref m), some (.int (zi b)), some (.int (zi p)), some (.int (zi k)), none, none, none, none]) (S' := [.int (zi b), .ref c9, .ref m]) rfl ?_
          have hl10 : 3 ≤ h6.2.2.2.1 c9 ∧ h6.2.2.2.1 c9 ≤ 3 := gJ.rowl (G := gGG) sh6.1 tc9 rfl
          refine gs_ald rfl (by decide) sh6.1 tc9 rfl rfl rfl (by decide) (fun _ => rfl) (by omega) (by omega) (fun z11 ez11 az11 bz11 => ?_)
          have he12 := lp5k5 c9 z11 tc9 ez11 (by omega) (by omega)
          refine gz_call rfl (by decide) rfl (by decide) (by decide) (gcal_of rfl rfl rfl (Nat.le_of_ble_eq_true rfl) (gJ.recv (G := gGG) sh6.1 tm rfl rfl)) (mm_symbol _ sh6.1 m tm z11 (by omega) av lp5k1 (by omega) kv lp5k2 (by omega) sz lp5k0 (by omega) uv lp5k3 (by omega) (by omega)) (fun q13 _ wq13 => ?_)
          obtain ⟨pq13, oq13, hq13⟩ := q13
          obtain ⟨xq13, zq13, fq13_0, fq13_1, fq13_2, gq13, aq13, bq13, efq13_0, afq13_0, bfq13_0, efq13_1, afq13_1, bfq13_1, efq13_2, afq13_2, bfq13_2, uq13_0, uq13_1, uq13_2⟩ := wq13
          refine ⟨_, gq13, ?_⟩
          show gz gPP gGG gcn _ _ 32 [some (.ref m), some (.int (zi b)), some (.int (zi p)), some (.int (zi k)), none, none, none, none] [.int (zi zq13)] hq13 _
          have sq13 := gSs.tr sh6 xq13 (by decide)
          have s14 := (xq13.2.2.2.2.2 m 3 (by rw [tm]; decide)).trans lp5k0
          have s15 := (xq13.2.2.2.2.2 m 36 (by rw [tm]; decide)).trans ec9
          have pr16 := gEl.fr xq13.2 (by decide) (fun _ => rfl) lp5k4
          have pr17 := gEl.fr xq13.2 (by decide) (fun _ => rfl) lp5k5
          refine gz_s 2 (pc' := 35) (L' := [some (.ref m), some (.int (zi b)), some (.int (zi p)), some (.int (zi k)), some (.int (zi zq13)), none, none, none]) (S' := [.ref m]) rfl ?_
          refine gs_gtk rfl (by decide) rfl sq13.1 tm rfl rfl efq13_2 ?_
          by_cases hc18 : (fq13_2 : Int) = 0
          · refine gy_ifT (pc' := 42) rfl (by decide) (by decide) (by omega) hc18 ?_
            refine gz_s 2 (pc' := 46) (L' := [some (.ref m), some (.int (zi b)), some (.int (zi p)), some (.int (zi k)), some (.int (zi zq13)), none, none, none]) (S' := [.int (zi 16), .int (zi zq13)]) rfl ?_
            refine gy_div rfl (by decide) (by omega) (by omega) ?_
            refine gz_s 3 (pc' := 53) (L' := [some (.ref m), some (.int (zi b)), some (.int (zi p)), some (.int (zi k)), some (.int (zi zq13)), some (.int (zi (zq13 / 16))), none, none]) (S' := [.int (zi 16), .int (zi zq13)]) rfl ?_
            refine gy_rem rfl (by decide) (by omega) (by omega) ?_
            refine gz_s 2 (pc' := 58) (L' := [some (.ref m), some (.int (zi b)), some (.int (zi p)), some (.int (zi k)), some (.int (zi zq13)), some (.int (zi (zq13 / 16))), some (.int (zi (zq13 % 16))), none]) (S' := [.int (zi (zq13 % 16))]) rfl ?_
            by_cases hc19 : ¬ (zq13 % 16 : Int) = 0
            · refine gy_ifT (pc' := 81) rfl (by decide) (by decide) (by omega) hc19 ?_
              refine gz_s 3 (pc' := 86) (L' := [some (.ref m), some (.int (zi b)), some (.int (zi p)), some (.int (zi k)), some (.int (zi zq13)), some (.int (zi (zq13 / 16))), some (.int (zi (zq13 % 16))), none]) (S' := [.int (zi 10), .int (zi (zq13 % 16)), .ref m]) rfl ?_
              by_cases hc20 : (10 : Int) < zq13 % 16
              · refine gy_icT (pc' := 93) rfl (by decide) (by decide) (by omega) (by omega) hc20 ?_
                refine gz_s 1 (pc' := 94) (L' := [some (.ref m), some (.int (zi b)), some (.int (zi p)), some (.int (zi k)), some (.int (zi zq13)), some (.int (zi (zq13 / 16))), some (.int (zi (zq13 % 16))), none]) (S' := [.int (zi 0), .ref m]) rfl ?_
                refine gz_call rfl (by decide) rfl (by decide) (by decide) (gcal_of rfl rfl rfl (Nat.le_of_ble_eq_true rfl) (gJ.recv (G := gGG) sq13.1 tm rfl rfl)) (mm_keep _ sq13.1 m tm 0 (by omega) fq13_2 efq13_2 (by omega)) (fun q21 _ wq21 => ?_)
                obtain ⟨pq21, oq21, hq21⟩ := q21
                obtain ⟨xq21, fq21_0, gq21, efq21_0, afq21_0, bfq21_0, uq21_0⟩ := wq21
                refine ⟨_, gq21, ?_⟩
                show gz gPP gGG gcn _ _ 97 [some (.ref m), some (.int (zi b)), some (.int (zi p)), some (.int (zi k)), some (.int (zi zq13)), some (.int (zi (zq13 / 16))), some (.int (zi (zq13 % 16))), none] [] hq21 _
                have sq21 := gSs.tr sq13 xq21 (by decide)
                have s22 := (xq21.2.2.2.2.2 m 3 (by rw [tm]; decide)).trans s14
                have s23 := (xq21.2.2.2.2.2 m 36 (by rw [tm]; decide)).trans s15
                have s24 := (xq21.2.2.2.2.2 m 47 (by rw [tm]; decide)).trans efq13_0
                have s25 := (xq21.2.2.2.2.2 m 48 (by rw [tm]; decide)).trans efq13_1
                have pr26 := gEl.fr xq21.2 (by decide) (fun _ => rfl) pr16
                have pr27 := gEl.fr xq21.2 (by decide) (fun _ => rfl) pr17
                refine gy_s 5 (pc' := 103) (L' := [some (.ref m), some (.int (zi b)), some (.int (zi p)), some (.int ((zi k) + (zi (zq13 / 16)))), some (.int (zi zq13)), some (.int (zi (zq13 / 16))), some (.int (zi (zq13 % 16))), none]) (S' := [.ref m]) (L2 := [some (.ref m), some (.int (zi b)), some (.int (zi p)), some (.int (zi (k + (zq13 / 16)))), some (.int (zi zq13)), some (.int (zi (zq13 / 16))), some (.int (zi (zq13 % 16))), none]) (S2 := [.ref m]) rfl (by simp only [zi_add, zi_sub, zi_mul, zi_neg, zi_and1, zi_and7, zi_and15, zi_and31, zi_and255]) (by simp only [zi_add, zi_sub, zi_mul, zi_neg, zi_and1, zi_and7, zi_and15, zi_and31, zi_and255]) ?_
                refine gs_gtk rfl (by decide) rfl sq21.1 tm rfl rfl efq21_0 ?_
                by_cases hc28 : (fq21_0 : Int) = 0
                · refine gy_ifT (pc' := 113) rfl (by decide) (by decide) (by omega) hc28 ?_
                  refine gz_s 2 (pc' := 116) (L' := [some (.ref m), some (.int (zi b)), some (.int (zi p)), some (.int (zi (k + (zq13 / 16)))), some (.int (zi zq13)), some (.int (zi (zq13 / 16))), some (.int (zi (zq13 % 16))), none]) (S' := [.int (zi (zq13 % 16)), .ref m]) rfl ?_
                  refine gz_call rfl (by decide) rfl (by decide) (by decide) (gcal_of rfl rfl rfl (Nat.le_of_ble_eq_true rfl) (gJ.recv (G := gGG) sq21.1 tm rfl rfl)) (mm_number _ sq21.1 m tm (zq13 % 16) (by omega) fq13_0 s24 (by omega) fq13_1 s25 (by omega) sz s22 (by omega) fq21_0 efq21_0 (by omega) (by omega)) (fun q29 _ wq29 => ?_)
                  obtain ⟨pq29, oq29, hq29⟩ := q29
                  obtain ⟨xq29, zq29, fq29_0, fq29_1, fq29_2, gq29, aq29, bq29, efq29_0, afq29_0, bfq29_0, efq29_1, afq29_1, bfq29_1, efq29_2, afq29_2, bfq29_2, uq29_0, uq29_1, uq29_2⟩ := wq29
                  refine ⟨_, gq29, ?_⟩
                  show gz gPP gGG gcn _ _ 119 [some (.ref m), some (.int (zi b)), some (.int (zi p)), some (.int (zi (k + (zq13 / 16)))), some (.int (zi zq13)), some (.int (zi (zq13 / 16))), some (.int (zi (zq13 % 16))), none] [.int (zi zq29)] hq29 _
                  have sq29 := gSs.tr sq21 xq29 (by decide)
                  have s30 := (xq29.2.2.2.2.2 m 3 (by rw [tm]; decide)).trans s22
                  have s31 := (xq29.2.2.2.2.2 m 36 (by rw [tm]; decide)).trans s23
                  have pr32 := gEl.fr xq29.2 (by decide) (fun _ => rfl) pr26
                  have pr33 := gEl.fr xq29.2 (by decide) (fun _ => rfl) pr27
                  refine gz_s 4 (pc' := 125) (L' := [some (.ref m), some (.int (zi b)), some (.int (zi p)), some (.int (zi (k + (zq13 / 16)))), some (.int (zi zq13)), some (.int (zi (zq13 / 16))), some (.int (zi (zq13 % 16))), some (.int (zi zq29))]) (S' := [.int (zi 64), .int (zi (k + (zq13 / 16))), .ref m]) rfl ?_
                  by_cases hc34 : (64 : Int) ≤ k + (zq13 / 16)
                  · refine gy_icT (pc' := 132) rfl (by decide) (by decide) (by omega) (by omega) hc34 ?_
                    refine gz_s 1 (pc' := 133) (L' := [some (.ref m), some (.int (zi b)), some (.int (zi p)), some (.int (zi (k + (zq13 / 16)))), some (.int (zi zq13)), some (.int (zi (zq13 / 16))), some (.int (zi (zq13 % 16))), some (.int (zi zq29))]) (S' := [.int (zi 0), .ref m]) rfl ?_
                    refine gz_call rfl (by decide) rfl (by decide) (by decide) (gcal_of rfl rfl rfl (Nat.le_of_ble_eq_true rfl) (gJ.recv (G := gGG) sq29.1 tm rfl rfl)) (mm_keep _ sq29.1 m tm 0 (by omega) fq29_2 efq29_2 (by omega)) (fun q35 _ wq35 => ?_)
                    obtain ⟨pq35, oq35, hq35⟩ := q35
                    obtain ⟨xq35, fq35_0, gq35, efq35_0, afq35_0, bfq35_0, uq35_0⟩ := wq35
                    refine ⟨_, gq35, ?_⟩
                    show gz gPP gGG gcn _ _ 136 [some (.ref m), some (.int (zi b)), some (.int (zi p)), some (.int (zi (k + (zq13 / 16)))), some (.int (zi zq13)), some (.int (zi (zq13 / 16))), some (.int (zi (zq13 % 16))), some (.int (zi zq29))] [] hq35 _
                    have sq35 := gSs.tr sq29 xq35 (by decide)
                    have s36 := (xq35.2.2.2.2.2 m 3 (by rw [tm]; decide)).trans s30
                    have s37 := (xq35.2.2.2.2.2 m 36 (by rw [tm]; decide)).trans s31
                    have s38 := (xq35.2.2.2.2.2 m 47 (by rw [tm]; decide)).trans efq29_0
                    have s39 := (xq35.2.2.2.2.2 m 48 (by rw [tm]; decide)).trans efq29_1
                    have pr40 := gEl.fr xq35.2 (by decide) (fun _ => rfl) pr32
                    have pr41 := gEl.fr xq35.2 (by decide) (fun _ => rfl) pr33
                    refine gz_s 1 (pc' := 137) (L' := [some (.ref m), some (.int (zi b)), some (.int (zi p)), some (.int (zi (k + (zq13 / 16)))), some (.int (zi zq13)), some (.int (zi (zq13 / 16))), some (.int (zi (zq13 % 16))), some (.int (zi zq29))]) (S' := [.ref m]) rfl ?_
                    refine gs_gtk rfl (by decide) rfl sq35.1 tm rfl rfl efq35_0 ?_
                    by_cases hc42 : ¬ (fq35_0 : Int) = 0
                    · refine gy_ifT (pc' := 153) rfl (by decide) (by decide) (by omega) hc42 ?_
                      refine gy_s 2 (pc' := 9) (L' := [some (.ref m), some (.int (zi b)), some (.int (zi p)), some (.int ((zi (k + (zq13 / 16))) + zi 1)), some (.int (zi zq13)), some (.int (zi (zq13 / 16))), some (.int (zi (zq13 % 16))), some (.int (zi zq29))]) (S' := []) (L2 := [some (.ref m), some (.int (zi b)), some (.int (zi p)), some (.int (zi ((k + (zq13 / 16)) + 1))), some (.int (zi zq13)), some (.int (zi (zq13 / 16))), some (.int (zi (zq13 % 16))), some (.int (zi zq29))]) (S2 := []) rfl (by simp only [zi_add, zi_sub, zi_mul, zi_neg, zi_and1, zi_and7, zi_and15, zi_and31, zi_and255]) (by simp only [zi_add, zi_sub, zi_mul, zi_neg, zi_and1, zi_and7, zi_and15, zi_and31, zi_and255]) ?_
                      exact gz_wk (ihlp5 hq35 ((k + (zq13 / 16)) + 1) fq29_0 fq29_1 fq35_0 (by omega) sq35 (by omega) (by omega) (by omega) (by omega) (by omega) (by omega) (by omega) s36 s38 s39 efq35_0 pr40 pr41) (gLw.s (gLw.s (gLw.s (gLw.s (gLw.n (gLw.n (gLw.n (gLw.n gLw.z))))))))
                    · refine gy_ifF rfl (by decide) (by decide) (by omega) hc42 ?_
                      refine gz_s 1 (pc' := 144) (L' := [some (.ref m), some (.int (zi b)), some (.int (zi p)), some (.int (zi (k + (zq13 / 16)))), some (.int (zi zq13)), some (.int (zi (zq13 / 16))), some (.int (zi (zq13 % 16))), some (.int (zi zq29))]) (S' := [.ref m]) rfl ?_
                      refine gs_gtr rfl (by decide) rfl sq35.1 tm rfl rfl rfl (fun c43 ec43 tc43 => ?_)
                      refine gy_s 4 (pc' := 152) (L' := [some (.ref m), some (.int (zi b)), some (.int (zi p)), some (.int (zi (k + (zq13 / 16)))), some (.int (zi zq13)), some (.int (zi (zq13 / 16))), some (.int (zi (zq13 % 16))), some (.int (zi zq29))]) (S' := [.int (zi zq29), .int ((zi p) + (zi (k + (zq13 / 16)))), .ref c43]) (L2 := [some (.ref m), some (.int (zi b)), some (.int (zi p)), some (.int (zi (k + (zq13 / 16)))), some (.int (zi zq13)), some (.int (zi (zq13 / 16))), some (.int (zi (zq13 % 16))), some (.int (zi zq29))]) (S2 := [.int (zi zq29), .int (zi (p + (k + (zq13 / 16)))), .ref c43]) rfl (by simp only [zi_add, zi_sub, zi_mul, zi_neg, zi_and1, zi_and7, zi_and15, zi_and31, zi_and255]) (by simp only [zi_add, zi_sub, zi_mul, zi_neg, zi_and1, zi_and7, zi_and15, zi_and31, zi_and255]) ?_
                      have hl44 : 12288 ≤ hq35.2.2.2.1 c43 ∧ hq35.2.2.2.1 c43 ≤ 12288 := gJ.rowl (G := gGG) sq35.1 tc43 rfl
                      refine gs_ast rfl (by decide) sq35 tc43 rfl rfl rfl (by decide) (fun _ => rfl) (by omega) (by omega) (fun _ => (by decide : (23999 : Nat) ∈ ([1046, 1047, 1048, 20999, 23999] : List Nat))) (by omega) (by omega) (fun h45 sh45 eh45 fh45 => ?_)
                      have pr46 := gEl.pt fh45 tc43 (by decide) pr40
                      have pr47 := gEl.pt fh45 tc43 (by decide) pr41
                      have s48 := (fh45 m 3 (fun q => absurd (((tm).symm.trans (congrArg ty q.1)).trans tc43) (by decide))).trans s36
                      have s49 := (fh45 m 36 (fun q => absurd (((tm).symm.trans (congrArg ty q.1)).trans tc43) (by decide))).trans s37
                      have s50 := (fh45 m 47 (fun q => absurd (((tm).symm.trans (congrArg ty q.1)).trans tc43) (by decide))).trans s38
                      have s51 := (fh45 m 48 (fun q => absurd (((tm).symm.trans (congrArg ty q.1)).trans tc43) (by decide))).trans s39
                      have s52 := (fh45 m 46 (fun q => absurd (((tm).symm.trans (congrArg ty q.1)).trans tc43) (by decide))).trans efq35_0
                      have s53 := (fh45 m 37 (fun q => absurd (((tm).symm.trans (congrArg ty q.1)).trans tc43) (by decide))).trans ec43
                      refine gy_s 2 (pc' := 9) (L' := [some (.ref m), some (.int (zi b)), some (.int (zi p)), some (.int ((zi (k + (zq13 / 16))) + zi 1)), some (.int (zi zq13)), some (.int (zi (zq13 / 16))), some (.int (zi (zq13 % 16))), some (.int (zi zq29))]) (S' := []) (L2 := [some (.ref m), some (.int (zi b)), some (.int (zi p)), some (.int (zi ((k + (zq13 / 16)) + 1))), some (.int (zi zq13)), some (.int (zi (zq13 / 16))), some (.int (zi (zq13 % 16))), some (.int (zi zq29))]) (S2 := []) rfl (by simp only [zi_add, zi_sub, zi_mul, zi_neg, zi_and1, zi_and7, zi_and15, zi_and31, zi_and255]) (by simp only [zi_add, zi_sub, zi_mul, zi_neg, zi_and1, zi_and7, zi_and15, zi_and31, zi_and255]) ?_
                      exact gz_wk (ihlp5 h45 ((k + (zq13 / 16)) + 1) fq29_0 fq29_1 fq35_0 (by omega) sh45 (by omega) (by omega) (by omega) (by omega) (by omega) (by omega) (by omega) s48 s50 s51 s52 pr46 pr47) (gLw.s (gLw.s (gLw.s (gLw.s (gLw.n (gLw.n (gLw.n (gLw.n gLw.z))))))))
                  · refine gy_icF rfl (by decide) (by decide) (by omega) (by omega) hc34 ?_
                    refine gz_s 2 (pc' := 133) (L' := [some (.ref m), some (.int (zi b)), some (.int (zi p)), some (.int (zi (k + (zq13 / 16)))), some (.int (zi zq13)), some (.int (zi (zq13 / 16))), some (.int (zi (zq13 % 16))), some (.int (zi zq29))]) (S' := [.int (zi 1), .ref m]) rfl ?_
                    refine gz_call rfl (by decide) rfl (by decide) (by decide) (gcal_of rfl rfl rfl (Nat.le_of_ble_eq_true rfl) (gJ.recv (G := gGG) sq29.1 tm rfl rfl)) (mm_keep _ sq29.1 m tm 1 (by omega) fq29_2 efq29_2 (by omega)) (fun q54 _ wq54 => ?_)
                    obtain ⟨pq54, oq54, hq54⟩ := q54
                    obtain ⟨xq54, fq54_0, gq54, efq54_0, afq54_0, bfq54_0, uq54_0⟩ := wq54
                    refine ⟨_, gq54, ?_⟩
                    show gz gPP gGG gcn _ _ 136 [some (.ref m), some (.int (zi b)), some (.int (zi p)), some (.int (zi (k + (zq13 / 16)))), some (.int (zi zq13)), some (.int (zi (zq13 / 16))), some (.int (zi (zq13 % 16))), some (.int (zi zq29))] [] hq54 _
                    have sq54 := gSs.tr sq29 xq54 (by decide)
                    have s55 := (xq54.2.2.2.2.2 m 3 (by rw [tm]; decide)).trans s30
                    have s56 := (xq54.2.2.2.2.2 m 36 (by rw [tm]; decide)).trans s31
                    have s57 := (xq54.2.2.2.2.2 m 47 (by rw [tm]; decide)).trans efq29_0
                    have s58 := (xq54.2.2.2.2.2 m 48 (by rw [tm]; decide)).trans efq29_1
                    have pr59 := gEl.fr xq54.2 (by decide) (fun _ => rfl) pr32
                    have pr60 := gEl.fr xq54.2 (by decide) (fun _ => rfl) pr33
                    refine gz_s 1 (pc' := 137) (L' := [some (.ref m), some (.int (zi b)), some (.int (zi p)), some (.int (zi (k + (zq13 / 16)))), some (.int (zi zq13)), some (.int (zi (zq13 / 16))), some (.int (zi (zq13 % 16))), some (.int (zi zq29))]) (S' := [.ref m]) rfl ?_
                    refine gs_gtk rfl (by decide) rfl sq54.1 tm rfl rfl efq54_0 ?_
                    by_cases hc61 : ¬ (fq54_0 : Int) = 0
                    · refine gy_ifT (pc' := 153) rfl (by decide) (by decide) (by omega) hc61 ?_
                      refine gy_s 2 (pc' := 9) (L' := [some (.ref m), some (.int (zi b)), some (.int (zi p)), some (.int ((zi (k + (zq13 / 16))) + zi 1)), some (.int (zi zq13)), some (.int (zi (zq13 / 16))), some (.int (zi (zq13 % 16))), some (.int (zi zq29))]) (S' := []) (L2 := [some (.ref m), some (.int (zi b)), some (.int (zi p)), some (.int (zi ((k + (zq13 / 16)) + 1))), some (.int (zi zq13)), some (.int (zi (zq13 / 16))), some (.int (zi (zq13 % 16))), some (.int (zi zq29))]) (S2 := []) rfl (by simp only [zi_add, zi_sub, zi_mul, zi_neg, zi_and1, zi_and7, zi_and15, zi_and31, zi_and255]) (by simp only [zi_add, zi_sub, zi_mul, zi_neg, zi_and1, zi_and7, zi_and15, zi_and31, zi_and255]) ?_
                      exact gz_wk (ihlp5 hq54 ((k + (zq13 / 16)) + 1) fq29_0 fq29_1 fq54_0 (by omega) sq54 (by omega) (by omega) (by omega) (by omega) (by omega) (by omega) (by omega) s55 s57 s58 efq54_0 pr59 pr60) (gLw.s (gLw.s (gLw.s (gLw.s (gLw.n (gLw.n (gLw.n (gLw.n gLw.z))))))))
                    · refine gy_ifF rfl (by decide) (by decide) (by omega) hc61 ?_
                      refine gz_s 1 (pc' := 144) (L' := [some (.ref m), some (.int (zi b)), some (.int (zi p)), some (.int (zi (k + (zq13 / 16)))), some (.int (zi zq13)), some (.int (zi (zq13 / 16))), some (.int (zi (zq13 % 16))), some (.int (zi zq29))]) (S' := [.ref m]) rfl ?_
                      refine gs_gtr rfl (by decide) rfl sq54.1 tm rfl rfl rfl (fun c62 ec62 tc62 => ?_)
                      refine gy_s 4 (pc' := 152) (L' := [some (.ref m), some (.int (zi b)), some (.int (zi p)), some (.int (zi (k + (zq13 / 16)))), some (.int (zi zq13)), some (.int (zi (zq13 / 16))), some (.int (zi (zq13 % 16))), some (.int (zi zq29))]) (S' := [.int (zi zq29), .int ((zi p) + (zi (k + (zq13 / 16)))), .ref c62]) (L2 := [some (.ref m), some (.int (zi b)), some (.int (zi p)), some (.int (zi (k + (zq13 / 16)))), some (.int (zi zq13)), some (.int (zi (zq13 / 16))), some (.int (zi (zq13 % 16))), some (.int (zi zq29))]) (S2 := [.int (zi zq29), .int (zi (p + (k + (zq13 / 16)))), .ref c62]) rfl (by simp only [zi_add, zi_sub, zi_mul, zi_neg, zi_and1, zi_and7, zi_and15, zi_and31, zi_and255]) (by simp only [zi_add, zi_sub, zi_mul, zi_neg, zi_and1, zi_and7, zi_and15, zi_and31, zi_and255]) ?_
                      have hl63 : 12288 ≤ hq54.2.2.2.1 c62 ∧ hq54.2.2.2.1 c62 ≤ 12288 := gJ.rowl (G := gGG) sq54.1 tc62 rfl
                      refine gs_ast rfl (by decide) sq54 tc62 rfl rfl rfl (by decide) (fun _ => rfl) (by omega) (by omega) (fun _ => (by decide : (23999 : Nat) ∈ ([1046, 1047, 1048, 20999, 23999] : List Nat))) (by omega) (by omega) (fun h64 sh64 eh64 fh64 => ?_)
                      have pr65 := gEl.pt fh64 tc62 (by decide) pr59
                      have pr66 := gEl.pt fh64 tc62 (by decide) pr60
                      have s67 := (fh64 m 3 (fun q => absurd (((tm).symm.trans (congrArg ty q.1)).trans tc62) (by decide))).trans s55
                      have s68 := (fh64 m 36 (fun q => absurd (((tm).symm.trans (congrArg ty q.1)).trans tc62) (by decide))).trans s56
                      have s69 := (fh64 m 47 (fun q => absurd (((tm).symm.trans (congrArg ty q.1)).trans tc62) (by decide))).trans s57
                      have s70 := (fh64 m 48 (fun q => absurd (((tm).symm.trans (congrArg ty q.1)).trans tc62) (by decide))).trans s58
                      have s71 := (fh64 m 46 (fun q => absurd (((tm).symm.trans (congrArg ty q.1)).trans tc62) (by decide))).trans efq54_0
                      have s72 := (fh64 m 37 (fun q => absurd (((tm).symm.trans (congrArg ty q.1)).trans tc62) (by decide))).trans ec62
                      refine gy_s 2 (pc' := 9) (L' := [some (.ref m), some (.int (zi b)), some (.int (zi p)), some (.int ((zi (k + (zq13 / 16))) + zi 1)), some (.int (zi zq13)), some (.int (zi (zq13 / 16))), some (.int (zi (zq13 % 16))), some (.int (zi zq29))]) (S' := []) (L2 := [some (.ref m), some (.int (zi b)), some (.int (zi p)), some (.int (zi ((k + (zq13 / 16)) + 1))), some (.int (zi zq13)), some (.int (zi (zq13 / 16))), some (.int (zi (zq13 % 16))), some (.int (zi zq29))]) (S2 := []) rfl (by simp only [zi_add, zi_sub, zi_mul, zi_neg, zi_and1, zi_and7, zi_and15, zi_and31, zi_and255]) (by simp only [zi_add, zi_sub, zi_mul, zi_neg, zi_and1, zi_and7, zi_and15, zi_and31, zi_and255]) ?_
                      exact gz_wk (ihlp5 h64 ((k + (zq13 / 16)) + 1) fq29_0 fq29_1 fq54_0 (by omega) sh64 (by omega) (by omega) (by omega) (by omega) (by omega) (by omega) (by omega) s67 s69 s70 s71 pr65 pr66) (gLw.s (gLw.s (gLw.s (gLw.s (gLw.n (gLw.n (gLw.n (gLw.n gLw.z))))))))
                · refine gy_ifF rfl (by decide) (by decide) (by omega) hc28 ?_
                  refine gz_s 6 (pc' := 125) (L' := [some (.ref m), some (.int (zi b)), some (.int (zi p)), some (.int (zi (k + (zq13 / 16)))), some (.int (zi zq13)), some (.int (zi (zq13 / 16))), some (.int (zi (zq13 % 16))), some (.int (zi 0))]) (S' := [.int (zi 64), .int (zi (k + (zq13 / 16))), .ref m]) rfl ?_
                  by_cases hc73 : (64 : Int) ≤ k + (zq13 / 16)
                  · refine gy_icT (pc' := 132) rfl (by decide) (by decide) (by omega) (by omega) hc73 ?_
                    refine gz_s 1 (pc' := 133) (L' := [some (.ref m), some (.int (zi b)), some (.int (zi p)), some (.int (zi (k + (zq13 / 16)))), some (.int (zi zq13)), some (.int (zi (zq13 / 16))), some (.int (zi (zq13 % 16))), some (.int (zi 0))]) (S' := [.int (zi 0), .ref m]) rfl ?_
                    refine gz_call rfl (by decide) rfl (by decide) (by decide) (gcal_of rfl rfl rfl (Nat.le_of_ble_eq_true rfl) (gJ.recv (G := gGG) sq21.1 tm rfl rfl)) (mm_keep _ sq21.1 m tm 0 (by omega) fq21_0 efq21_0 (by omega)) (fun q74 _ wq74 => ?_)
                    obtain ⟨pq74, oq74, hq74⟩ := q74
                    obtain ⟨xq74, fq74_0, gq74, efq74_0, afq74_0, bfq74_0, uq74_0⟩ := wq74
                    refine ⟨_, gq74, ?_⟩
                    show gz gPP gGG gcn _ _ 136 [some (.ref m), some (.int (zi b)), some (.int (zi p)), some (.int (zi (k + (zq13 / 16)))), some (.int (zi zq13)), some (.int (zi (zq13 / 16))), some (.int (zi (zq13 % 16))), some (.int (zi 0))] [] hq74 _
                    have sq74 := gSs.tr sq21 xq74 (by decide)
                    have s75 := (xq74.2.2.2.2.2 m 3 (by rw [tm]; decide)).trans s22
                    have s76 := (xq74.2.2.2.2.2 m 36 (by rw [tm]; decide)).trans s23
                    have s77 := (xq74.2.2.2.2.2 m 47 (by rw [tm]; decide)).trans s24
                    have s78 := (xq74.2.2.2.2.2 m 48 (by rw [tm]; decide)).trans s25
                    have pr79 := gEl.fr xq74.2 (by decide) (fun _ => rfl) pr26
                    have pr80 := gEl.fr xq74.2 (by decide) (fun _ => rfl) pr27
                    refine gz_s 1 (pc' := 137) (L' := [some (.ref m), some (.int (zi b)), some (.int (zi p)), some (.int (zi (k + (zq13 / 16)))), some (.int (zi zq13)), some (.int (zi (zq13 / 16))), some (.int (zi (zq13 % 16))), some (.int (zi 0))]) (S' := [.ref m]) rfl ?_
                    refine gs_gtk rfl (by decide) rfl sq74.1 tm rfl rfl efq74_0 ?_
                    by_cases hc81 : ¬ (fq74_0 : Int) = 0
                    · refine gy_ifT (pc' := 153) rfl (by decide) (by decide) (by omega) hc81 ?_
                      refine gy_s 2 (pc' := 9) (L' := [some (.ref m), some (.int (zi b)), some (.int (zi p)), some (.int ((zi (k + (zq13 / 16))) + zi 1)), some (.int (zi zq13)), some (.int (zi (zq13 / 16))), some (.int (zi (zq13 % 16))), some (.int (zi 0))]) (S' := []) (L2 := [some (.ref m), some (.int (zi b)), some (.int (zi p)), some (.int (zi ((k + (zq13 / 16)) + 1))), some (.int (zi zq13)), some (.int (zi (zq13 / 16))), some (.int (zi (zq13 % 16))), some (.int (zi 0))]) (S2 := []) rfl (by simp only [zi_add, zi_sub, zi_mul, zi_neg, zi_and1, zi_and7, zi_and15, zi_and31, zi_and255]) (by simp only [zi_add, zi_sub, zi_mul, zi_neg, zi_and1, zi_and7, zi_and15, zi_and31, zi_and255]) ?_
                      exact gz_wk (ihlp5 hq74 ((k + (zq13 / 16)) + 1) fq13_0 fq13_1 fq74_0 (by omega) sq74 (by omega) (by omega) (by omega) (by omega) (by omega) (by omega) (by omega) s75 s77 s78 efq74_0 pr79 pr80) (gLw.s (gLw.s (gLw.s (gLw.s (gLw.n (gLw.n (gLw.n (gLw.n gLw.z))))))))
                    · refine gy_ifF rfl (by decide) (by decide) (by omega) hc81 ?_
                      refine gz_s 1 (pc' := 144) (L' := [some (.ref m), some (.int (zi b)), some (.int (zi p)), some (.int (zi (k + (zq13 / 16)))), some (.int (zi zq13)), some (.int (zi (zq13 / 16))), some (.int (zi (zq13 % 16))), some (.int (zi 0))]) (S' := [.ref m]) rfl ?_
                      refine gs_gtr rfl (by decide) rfl sq74.1 tm rfl rfl rfl (fun c82 ec82 tc82 => ?_)
                      refine gy_s 4 (pc' := 152) (L' := [some (.ref m), some (.int (zi b)), some (.int (zi p)), some (.int (zi (k + (zq13 / 16)))), some (.int (zi zq13)), some (.int (zi (zq13 / 16))), some (.int (zi (zq13 % 16))), some (.int (zi 0))]) (S' := [.int (zi 0), .int ((zi p) + (zi (k + (zq13 / 16)))), .ref c82]) (L2 := [some (.ref m), some (.int (zi b)), some (.int (zi p)), some (.int (zi (k + (zq13 / 16)))), some (.int (zi zq13)), some (.int (zi (zq13 / 16))), some (.int (zi (zq13 % 16))), some (.int (zi 0))]) (S2 := [.int (zi 0), .int (zi (p + (k + (zq13 / 16)))), .ref c82]) rfl (by simp only [zi_add, zi_sub, zi_mul, zi_neg, zi_and1, zi_and7, zi_and15, zi_and31, zi_and255]) (by simp only [zi_add, zi_sub, zi_mul, zi_neg, zi_and1, zi_and7, zi_and15, zi_and31, zi_and255]) ?_
                      have hl83 : 12288 ≤ hq74.2.2.2.1 c82 ∧ hq74.2.2.2.1 c82 ≤ 12288 := gJ.rowl (G := gGG) sq74.1 tc82 rfl
                      refine gs_ast rfl (by decide) sq74 tc82 rfl rfl rfl (by decide) (fun _ => rfl) (by omega) (by omega) (fun _ => (by decide : (23999 : Nat) ∈ ([1046, 1047, 1048, 20999, 23999] : List Nat))) (by omega) (by omega) (fun h84 sh84 eh84 fh84 => ?_)
                      have pr85 := gEl.pt fh84 tc82 (by decide) pr79
                      have pr86 := gEl.pt fh84 tc82 (by decide) pr80
                      have s87 := (fh84 m 3 (fun q => absurd (((tm).symm.trans (congrArg ty q.1)).trans tc82) (by decide))).trans s75
                      have s88 := (fh84 m 36 (fun q => absurd (((tm).symm.trans (congrArg ty q.1)).trans tc82) (by decide))).trans s76
                      have s89 := (fh84 m 47 (fun q => absurd (((tm).symm.trans (congrArg ty q.1)).trans tc82) (by decide))).trans s77
                      have s90 := (fh84 m 48 (fun q => absurd (((tm).symm.trans (congrArg ty q.1)).trans tc82) (by decide))).trans s78
                      have s91 := (fh84 m 46 (fun q => absurd (((tm).symm.trans (congrArg ty q.1)).trans tc82) (by decide))).trans efq74_0
                      have s92 := (fh84 m 37 (fun q => absurd (((tm).symm.trans (congrArg ty q.1)).trans tc82) (by decide))).trans ec82
                      refine gy_s 2 (pc' := 9) (L' := [some (.ref m), some (.int (zi b)), some (.int (zi p)), some (.int ((zi (k + (zq13 / 16))) + zi 1)), some (.int (zi zq13)), some (.int (zi (zq13 / 16))), some (.int (zi (zq13 % 16))), some (.int (zi 0))]) (S' := []) (L2 := [some (.ref m), some (.int (zi b)), some (.int (zi p)), some (.int (zi ((k + (zq13 / 16)) + 1))), some (.int (zi zq13)), some (.int (zi (zq13 / 16))), some (.int (zi (zq13 % 16))), some (.int (zi 0))]) (S2 := []) rfl (by simp only [zi_add, zi_sub, zi_mul, zi_neg, zi_and1, zi_and7, zi_and15, zi_and31, zi_and255]) (by simp only [zi_add, zi_sub, zi_mul, zi_neg, zi_and1, zi_and7, zi_and15, zi_and31, zi_and255]) ?_
                      exact gz_wk (ihlp5 h84 ((k + (zq13 / 16)) + 1) fq13_0 fq13_1 fq74_0 (by omega) sh84 (by omega) (by omega) (by omega) (by omega) (by omega) (by omega) (by omega) s87 s89 s90 s91 pr85 pr86) (gLw.s (gLw.s (gLw.s (gLw.s (gLw.n (gLw.n (gLw.n (gLw.n gLw.z))))))))
                  · refine gy_icF rfl (by decide) (by decide) (by omega) (by omega) hc73 ?_
                    refine gz_s 2 (pc' := 133) (L' := [some (.ref m), some (.int (zi b)), some (.int (zi p)), some (.int (zi (k + (zq13 / 16)))), some (.int (zi zq13)), some (.int (zi (zq13 / 16))), some (.int (zi (zq13 % 16))), some (.int (zi 0))]) (S' := [.int (zi 1), .ref m]) rfl ?_
                    refine gz_call rfl (by decide) rfl (by decide) (by decide) (gcal_of rfl rfl rfl (Nat.le_of_ble_eq_true rfl) (gJ.recv (G := gGG) sq21.1 tm rfl rfl)) (mm_keep _ sq21.1 m tm 1 (by omega) fq21_0 efq21_0 (by omega)) (fun q93 _ wq93 => ?_)
                    obtain ⟨pq93, oq93, hq93⟩ := q93
                    obtain ⟨xq93, fq93_0, gq93, efq93_0, afq93_0, bfq93_0, uq93_0⟩ := wq93
                    refine ⟨_, gq93, ?_⟩
                    show gz gPP gGG gcn _ _ 136 [some (.ref m), some (.int (zi b)), some (.int (zi p)), some (.int (zi (k + (zq13 / 16)))), some (.int (zi zq13)), some (.int (zi (zq13 / 16))), some (.int (zi (zq13 % 16))), some (.int (zi 0))] [] hq93 _
                    have sq93 := gSs.tr sq21 xq93 (by decide)
                    have s94 := (xq93.2.2.2.2.2 m 3 (by rw [tm]; decide)).trans s22
                    have s95 := (xq93.2.2.2.2.2 m 36 (by rw [tm]; decide)).trans s23
                    have s96 := (xq93.2.2.2.2.2 m 47 (by rw [tm]; decide)).trans s24
                    have s97 := (xq93.2.2.2.2.2 m 48 (by rw [tm]; decide)).trans s25
                    have pr98 := gEl.fr xq93.2 (by decide) (fun _ => rfl) pr26
                    have pr99 := gEl.fr xq93.2 (by decide) (fun _ => rfl) pr27
                    refine gz_s 1 (pc' := 137) (L' := [some (.ref m), some (.int (zi b)), some (.int (zi p)), some (.int (zi (k + (zq13 / 16)))), some (.int (zi zq13)), some (.int (zi (zq13 / 16))), some (.int (zi (zq13 % 16))), some (.int (zi 0))]) (S' := [.ref m]) rfl ?_
                    refine gs_gtk rfl (by decide) rfl sq93.1 tm rfl rfl efq93_0 ?_
                    by_cases hc100 : ¬ (fq93_0 : Int) = 0
                    · refine gy_ifT (pc' := 153) rfl (by decide) (by decide) (by omega) hc100 ?_
                      refine gy_s 2 (pc' := 9) (L' := [some (.ref m), some (.int (zi b)), some (.int (zi p)), some (.int ((zi (k + (zq13 / 16))) + zi 1)), some (.int (zi zq13)), some (.int (zi (zq13 / 16))), some (.int (zi (zq13 % 16))), some (.int (zi 0))]) (S' := []) (L2 := [some (.ref m), some (.int (zi b)), some (.int (zi p)), some (.int (zi ((k + (zq13 / 16)) + 1))), some (.int (zi zq13)), some (.int (zi (zq13 / 16))), some (.int (zi (zq13 % 16))), some (.int (zi 0))]) (S2 := []) rfl (by simp only [zi_add, zi_sub, zi_mul, zi_neg, zi_and1, zi_and7, zi_and15, zi_and31, zi_and255]) (by simp only [zi_add, zi_sub, zi_mul, zi_neg, zi_and1, zi_and7, zi_and15, zi_and31, zi_and255]) ?_
                      exact gz_wk (ihlp5 hq93 ((k + (zq13 / 16)) + 1) fq13_0 fq13_1 fq93_0 (by omega) sq93 (by omega) (by omega) (by omega) (by omega) (by omega) (by omega) (by omega) s94 s96 s97 efq93_0 pr98 pr99) (gLw.s (gLw.s (gLw.s (gLw.s (gLw.n (gLw.n (gLw.n (gLw.n gLw.z))))))))
                    · refine gy_ifF rfl (by decide) (by decide) (by omega) hc100 ?_
                      refine gz_s 1 (pc' := 144) (L' := [some (.ref m), some (.int (zi b)), some (.int (zi p)), some (.int (zi (k + (zq13 / 16)))), some (.int (zi zq13)), some (.int (zi (zq13 / 16))), some (.int (zi (zq13 % 16))), some (.int (zi 0))]) (S' := [.ref m]) rfl ?_
                      refine gs_gtr rfl (by decide) rfl sq93.1 tm rfl rfl rfl (fun c101 ec101 tc101 => ?_)
                      refine gy_s 4 (pc' := 152) (L' := [some (.ref m), some (.int (zi b)), some (.int (zi p)), some (.int (zi (k + (zq13 / 16)))), some (.int (zi zq13)), some (.int (zi (zq13 / 16))), some (.int (zi (zq13 % 16))), some (.int (zi 0))]) (S' := [.int (zi 0), .int ((zi p) + (zi (k + (zq13 / 16)))), .ref c101]) (L2 := [some (.ref m), some (.int (zi b)), some (.int (zi p)), some (.int (zi (k + (zq13 / 16)))), some (.int (zi zq13)), some (.int (zi (zq13 / 16))), some (.int (zi (zq13 % 16))), some (.int (zi 0))]) (S2 := [.int (zi 0), .int (zi (p + (k + (zq13 / 16)))), .ref c101]) rfl (by simp only [zi_add, zi_sub, zi_mul, zi_neg, zi_and1, zi_and7, zi_and15, zi_and31, zi_and255]) (by simp only [zi_add, zi_sub, zi_mul, zi_neg, zi_and1, zi_and7, zi_and15, zi_and31, zi_and255]) ?_
                      have hl102 : 12288 ≤ hq93.2.2.2.1 c101 ∧ hq93.2.2.2.1 c101 ≤ 12288 := gJ.rowl (G := gGG) sq93.1 tc101 rfl
                      refine gs_ast rfl (by decide) sq93 tc101 rfl rfl rfl (by decide) (fun _ => rfl) (by omega) (by omega) (fun _ => (by decide : (23999 : Nat) ∈ ([1046, 1047, 1048, 20999, 23999] : List Nat))) (by omega) (by omega) (fun h103 sh103 eh103 fh103 => ?_)
                      have pr104 := gEl.pt fh103 tc101 (by decide) pr98
                      have pr105 := gEl.pt fh103 tc101 (by decide) pr99
                      have s106 := (fh103 m 3 (fun q => absurd (((tm).symm.trans (congrArg ty q.1)).trans tc101) (by decide))).trans s94
                      have s107 := (fh103 m 36 (fun q => absurd (((tm).symm.trans (congrArg ty q.1)).trans tc101) (by decide))).trans s95
                      have s108 := (fh103 m 47 (fun q => absurd (((tm).symm.trans (congrArg ty q.1)).trans tc101) (by decide))).trans s96
                      have s109 := (fh103 m 48 (fun q => absurd (((tm).symm.trans (congrArg ty q.1)).trans tc101) (by decide))).trans s97
                      have s110 := (fh103 m 46 (fun q => absurd (((tm).symm.trans (congrArg ty q.1)).trans tc101) (by decide))).trans efq93_0
                      have s111 := (fh103 m 37 (fun q => absurd (((tm).symm.trans (congrArg ty q.1)).trans tc101) (by decide))).trans ec101
                      refine gy_s 2 (pc' := 9) (L' := [some (.ref m), some (.int (zi b)), some (.int (zi p)), some (.int ((zi (k + (zq13 / 16))) + zi 1)), some (.int (zi zq13)), some (.int (zi (zq13 / 16))), some (.int (zi (zq13 % 16))), some (.int (zi 0))]) (S' := []) (L2 := [some (.ref m), some (.int (zi b)), some (.int (zi p)), some (.int (zi ((k + (zq13 / 16)) + 1))), some (.int (zi zq13)), some (.int (zi (zq13 / 16))), some (.int (zi (zq13 % 16))), some (.int (zi 0))]) (S2 := []) rfl (by simp only [zi_add, zi_sub, zi_mul, zi_neg, zi_and1, zi_and7, zi_and15, zi_and31, zi_and255]) (by simp only [zi_add, zi_sub, zi_mul, zi_neg, zi_and1, zi_and7, zi_and15, zi_and31, zi_and255]) ?_
                      exact gz_wk (ihlp5 h103 ((k + (zq13 / 16)) + 1) fq13_0 fq13_1 fq93_0 (by omega) sh103 (by omega) (by omega) (by omega) (by omega) (by omega) (by omega) (by omega) s106 s108 s109 s110 pr104 pr105) (gLw.s (gLw.s (gLw.s (gLw.s (gLw.n (gLw.n (gLw.n (gLw.n gLw.z))))))))
              · refine gy_icF rfl (by decide) (by decide) (by omega) (by omega) hc20 ?_
                refine gz_s 2 (pc' := 94) (L' := [some (.ref m), some (.int (zi b)), some (.int (zi p)), some (.int (zi k)), some (.int (zi zq13)), some (.int (zi (zq13 / 16))), some (.int (zi (zq13 % 16))), none]) (S' := [.int (zi 1), .ref m]) rfl ?_
                refine gz_call rfl (by decide) rfl (by decide) (by decide) (gcal_of rfl rfl rfl (Nat.le_of_ble_eq_true rfl) (gJ.recv (G := gGG) sq13.1 tm rfl rfl)) (mm_keep _ sq13.1 m tm 1 (by omega) fq13_2 efq13_2 (by omega)) (fun q112 _ wq112 => ?_)
                obtain ⟨pq112, oq112, hq112⟩ := q112
                obtain ⟨xq112, fq112_0, gq112, efq112_0, afq112_0, bfq112_0, uq112_0⟩ := wq112
                refine ⟨_, gq112, ?_⟩
                show gz gPP gGG gcn _ _ 97 [some (.ref m), some (.int (zi b)), some (.int (zi p)), some (.int (zi k)), some (.int (zi zq13)), some (.int (zi (zq13 / 16))), some (.int (zi (zq13 % 16))), none] [] hq112 _
                have sq112 := gSs.tr sq13 xq112 (by decide)
                have s113 := (xq112.2.2.2.2.2 m 3 (by rw [tm]; decide)).trans s14
                have s114 := (xq112.2.2.2.2.2 m 36 (by rw [tm]; decide)).trans s15
                have s115 := (xq112.2.2.2.2.2 m 47 (by rw [tm]; decide)).trans efq13_0
                have s116 := (xq112.2.2.2.2.2 m 48 (by rw [tm]; decide)).trans efq13_1
                have pr117 := gEl.fr xq112.2 (by decide) (fun _ => rfl) pr16
                have pr118 := gEl.fr xq112.2 (by decide) (fun _ => rfl) pr17
                refine gy_s 5 (pc' := 103) (L' := [some (.ref m), some (.int (zi b)), some (.int (zi p)), some (.int ((zi k) + (zi (zq13 / 16)))), some (.int (zi zq13)), some (.int (zi (zq13 / 16))), some (.int (zi (zq13 % 16))), none]) (S' := [.ref m]) (L2 := [some (.ref m), some (.int (zi b)), some (.int (zi p)), some (.int (zi (k + (zq13 / 16)))), some (.int (zi zq13)), some (.int (zi (zq13 / 16))), some (.int (zi (zq13 % 16))), none]) (S2 := [.ref m]) rfl (by simp only [zi_add, zi_sub, zi_mul, zi_neg, zi_and1, zi_and7, zi_and15, zi_and31, zi_and255]) (by simp only [zi_add, zi_sub, zi_mul, zi_neg, zi_and1, zi_and7, zi_and15, zi_and31, zi_and255]) ?_
                refine gs_gtk rfl (by decide) rfl sq112.1 tm rfl rfl efq112_0 ?_
                by_cases hc119 : (fq112_0 : Int) = 0
                · refine gy_ifT (pc' := 113) rfl (by decide) (by decide) (by omega) hc119 ?_
                  refine gz_s 2 (pc' := 116) (L' := [some (.ref m), some (.int (zi b)), some (.int (zi p)), some (.int (zi (k + (zq13 / 16)))), some (.int (zi zq13)), some (.int (zi (zq13 / 16))), some (.int (zi (zq13 % 16))), none]) (S' := [.int (zi (zq13 % 16)), .ref m]) rfl ?_
                  refine gz_call rfl (by decide) rfl (by decide) (by decide) (gcal_of rfl rfl rfl (Nat.le_of_ble_eq_true rfl) (gJ.recv (G := gGG) sq112.1 tm rfl rfl)) (mm_number _ sq112.1 m tm (zq13 % 16) (by omega) fq13_0 s115 (by omega) fq13_1 s116 (by omega) sz s113 (by omega) fq112_0 efq112_0 (by omega) (by omega)) (fun q120 _ wq120 => ?_)
                  obtain ⟨pq120, oq120, hq120⟩ := q120
                  obtain ⟨xq120, zq120, fq120_0, fq120_1, fq120_2, gq120, aq120, bq120, efq120_0, afq120_0, bfq120_0, efq120_1, afq120_1, bfq120_1, efq120_2, afq120_2, bfq120_2, uq120_0, uq120_1, uq120_2⟩ := wq120
                  refine ⟨_, gq120, ?_⟩
                  show gz gPP gGG gcn _ _ 119 [some (.ref m), some (.int (zi b)), some (.int (zi p)), some (.int (zi (k + (zq13 / 16)))), some (.int (zi zq13)), some (.int (zi (zq13 / 16))), some (.int (zi (zq13 % 16))), none] [.int (zi zq120)] hq120 _
                  have sq120 := gSs.tr sq112 xq120 (by decide)
                  have s121 := (xq120.2.2.2.2.2 m 3 (by rw [tm]; decide)).trans s113
                  have s122 := (xq120.2.2.2.2.2 m 36 (by rw [tm]; decide)).trans s114
                  have pr123 := gEl.fr xq120.2 (by decide) (fun _ => rfl) pr117
                  have pr124 := gEl.fr xq120.2 (by decide) (fun _ => rfl) pr118
                  refine gz_s 4 (pc' := 125) (L' := [some (.ref m), some (.int (zi b)), some (.int (zi p)), some (.int (zi (k + (zq13 / 16)))), some (.int (zi zq13)), some (.int (zi (zq13 / 16))), some (.int (zi (zq13 % 16))), some (.int (zi zq120))]) (S' := [.int (zi 64), .int (zi (k + (zq13 / 16))), .ref m]) rfl ?_
                  by_cases hc125 : (64 : Int) ≤ k + (zq13 / 16)
                  · refine gy_icT (pc' := 132) rfl (by decide) (by decide) (by omega) (by omega) hc125 ?_
                    refine gz_s 1 (pc' := 133) (L' := [some (.ref m), some (.int (zi b)), some (.int (zi p)), some (.int (zi (k + (zq13 / 16)))), some (.int (zi zq13)), some (.int (zi (zq13 / 16))), some (.int (zi (zq13 % 16))), some (.int (zi zq120))]) (S' := [.int (zi 0), .ref m]) rfl ?_
                    refine gz_call rfl (by decide) rfl (by decide) (by decide) (gcal_of rfl rfl rfl (Nat.le_of_ble_eq_true rfl) (gJ.recv (G := gGG) sq120.1 tm rfl rfl)) (mm_keep _ sq120.1 m tm 0 (by omega) fq120_2 efq120_2 (by omega)) (fun q126 _ wq126 => ?_)
                    obtain ⟨pq126, oq126, hq126⟩ := q126
                    obtain ⟨xq126, fq126_0, gq126, efq126_0, afq126_0, bfq126_0, uq126_0⟩ := wq126
                    refine ⟨_, gq126, ?_⟩
                    show gz gPP gGG gcn _ _ 136 [some (.ref m), some (.int (zi b)), some (.int (zi p)), some (.int (zi (k + (zq13 / 16)))), some (.int (zi zq13)), some (.int (zi (zq13 / 16))), some (.int (zi (zq13 % 16))), some (.int (zi zq120))] [] hq126 _
                    have sq126 := gSs.tr sq120 xq126 (by decide)
                    have s127 := (xq126.2.2.2.2.2 m 3 (by rw [tm]; decide)).trans s121
                    have s128 := (xq126.2.2.2.2.2 m 36 (by rw [tm]; decide)).trans s122
                    have s129 := (xq126.2.2.2.2.2 m 47 (by rw [tm]; decide)).trans efq120_0
                    have s130 := (xq126.2.2.2.2.2 m 48 (by rw [tm]; decide)).trans efq120_1
                    have pr131 := gEl.fr xq126.2 (by decide) (fun _ => rfl) pr123
                    have pr132 := gEl.fr xq126.2 (by decide) (fun _ => rfl) pr124
                    refine gz_s 1 (pc' := 137) (L' := [some (.ref m), some (.int (zi b)), some (.int (zi p)), some (.int (zi (k + (zq13 / 16)))), some (.int (zi zq13)), some (.int (zi (zq13 / 16))), some (.int (zi (zq13 % 16))), some (.int (zi zq120))]) (S' := [.ref m]) rfl ?_
                    refine gs_gtk rfl (by decide) rfl sq126.1 tm rfl rfl efq126_0 ?_
                    by_cases hc133 : ¬ (fq126_0 : Int) = 0
                    · refine gy_ifT (pc' := 153) rfl (by decide) (by decide) (by omega) hc133 ?_
                      refine gy_s 2 (pc' := 9) (L' := [some (.ref m), some (.int (zi b)), some (.int (zi p)), some (.int ((zi (k + (zq13 / 16))) + zi 1)), some (.int (zi zq13)), some (.int (zi (zq13 / 16))), some (.int (zi (zq13 % 16))), some (.int (zi zq120))]) (S' := []) (L2 := [some (.ref m), some (.int (zi b)), some (.int (zi p)), some (.int (zi ((k + (zq13 / 16)) + 1))), some (.int (zi zq13)), some (.int (zi (zq13 / 16))), some (.int (zi (zq13 % 16))), some (.int (zi zq120))]) (S2 := []) rfl (by simp only [zi_add, zi_sub, zi_mul, zi_neg, zi_and1, zi_and7, zi_and15, zi_and31, zi_and255]) (by simp only [zi_add, zi_sub, zi_mul, zi_neg, zi_and1, zi_and7, zi_and15, zi_and31, zi_and255]) ?_
                      exact gz_wk (ihlp5 hq126 ((k + (zq13 / 16)) + 1) fq120_0 fq120_1 fq126_0 (by omega) sq126 (by omega) (by omega) (by omega) (by omega) (by omega) (by omega) (by omega) s127 s129 s130 efq126_0 pr131 pr132) (gLw.s (gLw.s (gLw.s (gLw.s (gLw.n (gLw.n (gLw.n (gLw.n gLw.z))))))))
                    · refine gy_ifF rfl (by decide) (by decide) (by omega) hc133 ?_
                      refine gz_s 1 (pc' := 144) (L' := [some (.ref m), some (.int (zi b)), some (.int (zi p)), some (.int (zi (k + (zq13 / 16)))), some (.int (zi zq13)), some (.int (zi (zq13 / 16))), some (.int (zi (zq13 % 16))), some (.int (zi zq120))]) (S' := [.ref m]) rfl ?_
                      refine gs_gtr rfl (by decide) rfl sq126.1 tm rfl rfl rfl (fun c134 ec134 tc134 => ?_)
                      refine gy_s 4 (pc' := 152) (L' := [some (.ref m), some (.int (zi b)), some (.int (zi p)), some (.int (zi (k + (zq13 / 16)))), some (.int (zi zq13)), some (.int (zi (zq13 / 16))), some (.int (zi (zq13 % 16))), some (.int (zi zq120))]) (S' := [.int (zi zq120), .int ((zi p) + (zi (k + (zq13 / 16)))), .ref c134]) (L2 := [some (.ref m), some (.int (zi b)), some (.int (zi p)), some (.int (zi (k + (zq13 / 16)))), some (.int (zi zq13)), some (.int (zi (zq13 / 16))), some (.int (zi (zq13 % 16))), some (.int (zi zq120))]) (S2 := [.int (zi zq120), .int (zi (p + (k + (zq13 / 16)))), .ref c134]) rfl (by simp only [zi_add, zi_sub, zi_mul, zi_neg, zi_and1, zi_and7, zi_and15, zi_and31, zi_and255]) (by simp only [zi_add, zi_sub, zi_mul, zi_neg, zi_and1, zi_and7, zi_and15, zi_and31, zi_and255]) ?_
                      have hl135 : 12288 ≤ hq126.2.2.2.1 c134 ∧ hq126.2.2.2.1 c134 ≤ 12288 := gJ.rowl (G := gGG) sq126.1 tc134 rfl
                      refine gs_ast rfl (by decide) sq126 tc134 rfl rfl rfl (by decide) (fun _ => rfl) (by omega) (by omega) (fun _ => (by decide : (23999 : Nat) ∈ ([1046, 1047, 1048, 20999, 23999] : List Nat))) (by omega) (by omega) (fun h136 sh136 eh136 fh136 => ?_)
                      have pr137 := gEl.pt fh136 tc134 (by decide) pr131
                      have pr138 := gEl.pt fh136 tc134 (by decide) pr132
                      have s139 := (fh136 m 3 (fun q => absurd (((tm).symm.trans (congrArg ty q.1)).trans tc134) (by decide))).trans s127
                      have s140 := (fh136 m 36 (fun q => absurd (((tm).symm.trans (congrArg ty q.1)).trans tc134) (by decide))).trans s128
                      have s141 := (fh136 m 47 (fun q => absurd (((tm).symm.trans (congrArg ty q.1)).trans tc134) (by decide))).trans s129
                      have s142 := (fh136 m 48 (fun q => absurd (((tm).symm.trans (congrArg ty q.1)).trans tc134) (by decide))).trans s130
                      have s143 := (fh136 m 46 (fun q => absurd (((tm).symm.trans (congrArg ty q.1)).trans tc134) (by decide))).trans efq126_0
                      have s144 := (fh136 m 37 (fun q => absurd (((tm).symm.trans (congrArg ty q.1)).trans tc134) (by decide))).trans ec134
                      refine gy_s 2 (pc' := 9) (L' := [some (.ref m), some (.int (zi b)), some (.int (zi p)), some (.int ((zi (k + (zq13 / 16))) + zi 1)), some (.int (zi zq13)), some (.int (zi (zq13 / 16))), some (.int (zi (zq13 % 16))), some (.int (zi zq120))]) (S' := []) (L2 := [some (.ref m), some (.int (zi b)), some (.int (zi p)), some (.int (zi ((k + (zq13 / 16)) + 1))), some (.int (zi zq13)), some (.int (zi (zq13 / 16))), some (.int (zi (zq13 % 16))), some (.int (zi zq120))]) (S2 := []) rfl (by simp only [zi_add, zi_sub, zi_mul, zi_neg, zi_and1, zi_and7, zi_and15, zi_and31, zi_and255]) (by simp only [zi_add, zi_sub, zi_mul, zi_neg, zi_and1, zi_and7, zi_and15, zi_and31, zi_and255]) ?_
                      exact gz_wk (ihlp5 h136 ((k + (zq13 / 16)) + 1) fq120_0 fq120_1 fq126_0 (by omega) sh136 (by omega) (by omega) (by omega) (by omega) (by omega) (by omega) (by omega) s139 s141 s142 s143 pr137 pr138) (gLw.s (gLw.s (gLw.s (gLw.s (gLw.n (gLw.n (gLw.n (gLw.n gLw.z))))))))
                  · refine gy_icF rfl (by decide) (by decide) (by omega) (by omega) hc125 ?_
                    refine gz_s 2 (pc' := 133) (L' := [some (.ref m), some (.int (zi b)), some (.int (zi p)), some (.int (zi (k + (zq13 / 16)))), some (.int (zi zq13)), some (.int (zi (zq13 / 16))), some (.int (zi (zq13 % 16))), some (.int (zi zq120))]) (S' := [.int (zi 1), .ref m]) rfl ?_
                    refine gz_call rfl (by decide) rfl (by decide) (by decide) (gcal_of rfl rfl rfl (Nat.le_of_ble_eq_true rfl) (gJ.recv (G := gGG) sq120.1 tm rfl rfl)) (mm_keep _ sq120.1 m tm 1 (by omega) fq120_2 efq120_2 (by omega)) (fun q145 _ wq145 => ?_)
                    obtain ⟨pq145, oq145, hq145⟩ := q145
                    obtain ⟨xq145, fq145_0, gq145, efq145_0, afq145_0, bfq145_0, uq145_0⟩ := wq145
                    refine ⟨_, gq145, ?_⟩
                    show gz gPP gGG gcn _ _ 136 [some (.ref m), some (.int (zi b)), some (.int (zi p)), some (.int (zi (k + (zq13 / 16)))), some (.int (zi zq13)), some (.int (zi (zq13 / 16))), some (.int (zi (zq13 % 16))), some (.int (zi zq120))] [] hq145 _
                    have sq145 := gSs.tr sq120 xq145 (by decide)
                    have s146 := (xq145.2.2.2.2.2 m 3 (by rw [tm]; decide)).trans s121
                    have s147 := (xq145.2.2.2.2.2 m 36 (by rw [tm]; decide)).trans s122
                    have s148 := (xq145.2.2.2.2.2 m 47 (by rw [tm]; decide)).trans efq120_0
                    have s149 := (xq145.2.2.2.2.2 m 48 (by rw [tm]; decide)).trans efq120_1
                    have pr150 := gEl.fr xq145.2 (by decide) (fun _ => rfl) pr123
                    have pr151 := gEl.fr xq145.2 (by decide) (fun _ => rfl) pr124
                    refine gz_s 1 (pc' := 137) (L' := [some (.ref m), some (.int (zi b)), some (.int (zi p)), some (.int (zi (k + (zq13 / 16)))), some (.int (zi zq13)), some (.int (zi (zq13 / 16))), some (.int (zi (zq13 % 16))), some (.int (zi zq120))]) (S' := [.ref m]) rfl ?_
                    refine gs_gtk rfl (by decide) rfl sq145.1 tm rfl rfl efq145_0 ?_
                    by_cases hc152 : ¬ (fq145_0 : Int) = 0
                    · refine gy_ifT (pc' := 153) rfl (by decide) (by decide) (by omega) hc152 ?_
                      refine gy_s 2 (pc' := 9) (L' := [some (.ref m), some (.int (zi b)), some (.int (zi p)), some (.int ((zi (k + (zq13 / 16))) + zi 1)), some (.int (zi zq13)), some (.int (zi (zq13 / 16))), some (.int (zi (zq13 % 16))), some (.int (zi zq120))]) (S' := []) (L2 := [some (.ref m), some (.int (zi b)), some (.int (zi p)), some (.int (zi ((k + (zq13 / 16)) + 1))), some (.int (zi zq13)), some (.int (zi (zq13 / 16))), some (.int (zi (zq13 % 16))), some (.int (zi zq120))]) (S2 := []) rfl (by simp only [zi_add, zi_sub, zi_mul, zi_neg, zi_and1, zi_and7, zi_and15, zi_and31, zi_and255]) (by simp only [zi_add, zi_sub, zi_mul, zi_neg, zi_and1, zi_and7, zi_and15, zi_and31, zi_and255]) ?_
                      exact gz_wk (ihlp5 hq145 ((k + (zq13 / 16)) + 1) fq120_0 fq120_1 fq145_0 (by omega) sq145 (by omega) (by omega) (by omega) (by omega) (by omega) (by omega) (by omega) s146 s148 s149 efq145_0 pr150 pr151) (gLw.s (gLw.s (gLw.s (gLw.s (gLw.n (gLw.n (gLw.n (gLw.n gLw.z))))))))
                    · refine gy_ifF rfl (by decide) (by decide) (by omega) hc152 ?_
                      refine gz_s 1 (pc' := 144) (L' := [some (.ref m), some (.int (zi b)), some (.int (zi p)), some (.int (zi (k + (zq13 / 16)))), some (.int (zi zq13)), some (.int (zi (zq13 / 16))), some (.int (zi (zq13 % 16))), some (.int (zi zq120))]) (S' := [.ref m]) rfl ?_
                      refine gs_gtr rfl (by decide) rfl sq145.1 tm rfl rfl rfl (fun c153 ec153 tc153 => ?_)
                      refine gy_s 4 (pc' := 152) (L' := [some (.ref m), some (.int (zi b)), some (.int (zi p)), some (.int (zi (k + (zq13 / 16)))), some (.int (zi zq13)), some (.int (zi (zq13 / 16))), some (.int (zi (zq13 % 16))), some (.int (zi zq120))]) (S' := [.int (zi zq120), .int ((zi p) + (zi (k + (zq13 / 16)))), .ref c153]) (L2 := [some (.ref m), some (.int (zi b)), some (.int (zi p)), some (.int (zi (k + (zq13 / 16)))), some (.int (zi zq13)), some (.int (zi (zq13 / 16))), some (.int (zi (zq13 % 16))), some (.int (zi zq120))]) (S2 := [.int (zi zq120), .int (zi (p + (k + (zq13 / 16)))), .ref c153]) rfl (by simp only [zi_add, zi_sub, zi_mul, zi_neg, zi_and1, zi_and7, zi_and15, zi_and31, zi_and255]) (by simp only [zi_add, zi_sub, zi_mul, zi_neg, zi_and1, zi_and7, zi_and15, zi_and31, zi_and255]) ?_
                      have hl154 : 12288 ≤ hq145.2.2.2.1 c153 ∧ hq145.2.2.2.1 c153 ≤ 12288 := gJ.rowl (G := gGG) sq145.1 tc153 rfl
                      refine gs_ast rfl (by decide) sq145 tc153 rfl rfl rfl (by decide) (fun _ => rfl) (by omega) (by omega) (fun _ => (by decide : (23999 : Nat) ∈ ([1046, 1047, 1048, 20999, 23999] : List Nat))) (by omega) (by omega) (fun h155 sh155 eh155 fh155 => ?_)
                      have pr156 := gEl.pt fh155 tc153 (by decide) pr150
                      have pr157 := gEl.pt fh155 tc153 (by decide) pr151
                      have s158 := (fh155 m 3 (fun q => absurd (((tm).symm.trans (congrArg ty q.1)).trans tc153) (by decide))).trans s146
                      have s159 := (fh155 m 36 (fun q => absurd (((tm).symm.trans (congrArg ty q.1)).trans tc153) (by decide))).trans s147
                      have s160 := (fh155 m 47 (fun q => absurd (((tm).symm.trans (congrArg ty q.1)).trans tc153) (by decide))).trans s148
                      have s161 := (fh155 m 48 (fun q => absurd (((tm).symm.trans (congrArg ty q.1)).trans tc153) (by decide))).trans s149
                      have s162 := (fh155 m 46 (fun q => absurd (((tm).symm.trans (congrArg ty q.1)).trans tc153) (by decide))).trans efq145_0
                      have s163 := (fh155 m 37 (fun q => absurd (((tm).symm.trans (congrArg ty q.1)).trans tc153) (by decide))).trans ec153
                      refine gy_s 2 (pc' := 9) (L' := [some (.ref m), some (.int (zi b)), some (.int (zi p)), some (.int ((zi (k + (zq13 / 16))) + zi 1)), some (.int (zi zq13)), some (.int (zi (zq13 / 16))), some (.int (zi (zq13 % 16))), some (.int (zi zq120))]) (S' := []) (L2 := [some (.ref m), some (.int (zi b)), some (.int (zi p)), some (.int (zi ((k + (zq13 / 16)) + 1))), some (.int (zi zq13)), some (.int (zi (zq13 / 16))), some (.int (zi (zq13 % 16))), some (.int (zi zq120))]) (S2 := []) rfl (by simp only [zi_add, zi_sub, zi_mul, zi_neg, zi_and1, zi_and7, zi_and15, zi_and31, zi_and255]) (by simp only [zi_add, zi_sub, zi_mul, zi_neg, zi_and1, zi_and7, zi_and15, zi_and31, zi_and255]) ?_
                      exact gz_wk (ihlp5 h155 ((k + (zq13 / 16)) + 1) fq120_0 fq120_1 fq145_0 (by omega) sh155 (by omega) (by omega) (by omega) (by omega) (by omega) (by omega) (by omega) s158 s160 s161 s162 pr156 pr157) (gLw.s (gLw.s (gLw.s (gLw.s (gLw.n (gLw.n (gLw.n (gLw.n gLw.z))))))))
                · refine gy_ifF rfl (by decide) (by decide) (by omega) hc119 ?_
                  refine gz_s 6 (pc' := 125) (L' := [some (.ref m), some (.int (zi b)), some (.int (zi p)), some (.int (zi (k + (zq13 / 16)))), some (.int (zi zq13)), some (.int (zi (zq13 / 16))), some (.int (zi (zq13 % 16))), some (.int (zi 0))]) (S' := [.int (zi 64), .int (zi (k + (zq13 / 16))), .ref m]) rfl ?_
                  by_cases hc164 : (64 : Int) ≤ k + (zq13 / 16)
                  · refine gy_icT (pc' := 132) rfl (by decide) (by decide) (by omega) (by omega) hc164 ?_
                    refine gz_s 1 (pc' := 133) (L' := [some (.ref m), some (.int (zi b)), some (.int (zi p)), some (.int (zi (k + (zq13 / 16)))), some (.int (zi zq13)), some (.int (zi (zq13 / 16))), some (.int (zi (zq13 % 16))), some (.int (zi 0))]) (S' := [.int (zi 0), .ref m]) rfl ?_
                    refine gz_call rfl (by decide) rfl (by decide) (by decide) (gcal_of rfl rfl rfl (Nat.le_of_ble_eq_true rfl) (gJ.recv (G := gGG) sq112.1 tm rfl rfl)) (mm_keep _ sq112.1 m tm 0 (by omega) fq112_0 efq112_0 (by omega)) (fun q165 _ wq165 => ?_)
                    obtain ⟨pq165, oq165, hq165⟩ := q165
                    obtain ⟨xq165, fq165_0, gq165, efq165_0, afq165_0, bfq165_0, uq165_0⟩ := wq165
                    refine ⟨_, gq165, ?_⟩
                    show gz gPP gGG gcn _ _ 136 [some (.ref m), some (.int (zi b)), some (.int (zi p)), some (.int (zi (k + (zq13 / 16)))), some (.int (zi zq13)), some (.int (zi (zq13 / 16))), some (.int (zi (zq13 % 16))), some (.int (zi 0))] [] hq165 _
                    have sq165 := gSs.tr sq112 xq165 (by decide)
                    have s166 := (xq165.2.2.2.2.2 m 3 (by rw [tm]; decide)).trans s113
                    have s167 := (xq165.2.2.2.2.2 m 36 (by rw [tm]; decide)).trans s114
                    have s168 := (xq165.2.2.2.2.2 m 47 (by rw [tm]; decide)).trans s115
                    have s169 := (xq165.2.2.2.2.2 m 48 (by rw [tm]; decide)).trans s116
                    have pr170 := gEl.fr xq165.2 (by decide) (fun _ => rfl) pr117
                    have pr171 := gEl.fr xq165.2 (by decide) (fun _ => rfl) pr118
                    refine gz_s 1 (pc' := 137) (L' := [some (.ref m), some (.int (zi b)), some (.int (zi p)), some (.int (zi (k + (zq13 / 16)))), some (.int (zi zq13)), some (.int (zi (zq13 / 16))), some (.int (zi (zq13 % 16))), some (.int (zi 0))]) (S' := [.ref m]) rfl ?_
                    refine gs_gtk rfl (by decide) rfl sq165.1 tm rfl rfl efq165_0 ?_
                    by_cases hc172 : ¬ (fq165_0 : Int) = 0
                    · refine gy_ifT (pc' := 153) rfl (by decide) (by decide) (by omega) hc172 ?_
                      refine gy_s 2 (pc' := 9) (L' := [some (.ref m), some (.int (zi b)), some (.int (zi p)), some (.int ((zi (k + (zq13 / 16))) + zi 1)), some (.int (zi zq13)), some (.int (zi (zq13 / 16))), some (.int (zi (zq13 % 16))), some (.int (zi 0))]) (S' := []) (L2 := [some (.ref m), some (.int (zi b)), some (.int (zi p)), some (.int (zi ((k + (zq13 / 16)) + 1))), some (.int (zi zq13)), some (.int (zi (zq13 / 16))), some (.int (zi (zq13 % 16))), some (.int (zi 0))]) (S2 := []) rfl (by simp only [zi_add, zi_sub, zi_mul, zi_neg, zi_and1, zi_and7, zi_and15, zi_and31, zi_and255]) (by simp only [zi_add, zi_sub, zi_mul, zi_neg, zi_and1, zi_and7, zi_and15, zi_and31, zi_and255]) ?_
                      exact gz_wk (ihlp5 hq165 ((k + (zq13 / 16)) + 1) fq13_0 fq13_1 fq165_0 (by omega) sq165 (by omega) (by omega) (by omega) (by omega) (by omega) (by omega) (by omega) s166 s168 s169 efq165_0 pr170 pr171) (gLw.s (gLw.s (gLw.s (gLw.s (gLw.n (gLw.n (gLw.n (gLw.n gLw.z))))))))
                    · refine gy_ifF rfl (by decide) (by decide) (by omega) hc172 ?_
                      refine gz_s 1 (pc' := 144) (L' := [some (.ref m), some (.int (zi b)), some (.int (zi p)), some (.int (zi (k + (zq13 / 16)))), some (.int (zi zq13)), some (.int (zi (zq13 / 16))), some (.int (zi (zq13 % 16))), some (.int (zi 0))]) (S' := [.ref m]) rfl ?_
                      refine gs_gtr rfl (by decide) rfl sq165.1 tm rfl rfl rfl (fun c173 ec173 tc173 => ?_)
                      refine gy_s 4 (pc' := 152) (L' := [some (.ref m), some (.int (zi b)), some (.int (zi p)), some (.int (zi (k + (zq13 / 16)))), some (.int (zi zq13)), some (.int (zi (zq13 / 16))), some (.int (zi (zq13 % 16))), some (.int (zi 0))]) (S' := [.int (zi 0), .int ((zi p) + (zi (k + (zq13 / 16)))), .ref c173]) (L2 := [some (.ref m), some (.int (zi b)), some (.int (zi p)), some (.int (zi (k + (zq13 / 16)))), some (.int (zi zq13)), some (.int (zi (zq13 / 16))), some (.int (zi (zq13 % 16))), some (.int (zi 0))]) (S2 := [.int (zi 0), .int (zi (p + (k + (zq13 / 16)))), .ref c173]) rfl (by simp only [zi_add, zi_sub, zi_mul, zi_neg, zi_and1, zi_and7, zi_and15, zi_and31, zi_and255]) (by simp only [zi_add, zi_sub, zi_mul, zi_neg, zi_and1, zi_and7, zi_and15, zi_and31, zi_and255]) ?_
                      have hl174 : 12288 ≤ hq165.2.2.2.1 c173 ∧ hq165.2.2.2.1 c173 ≤ 12288 := gJ.rowl (G := gGG) sq165.1 tc173 rfl
                      refine gs_ast rfl (by decide) sq165 tc173 rfl rfl rfl (by decide) (fun _ => rfl) (by omega) (by omega) (fun _ => (by decide : (23999 : Nat) ∈ ([1046, 1047, 1048, 20999, 23999] : List Nat))) (by omega) (by omega) (fun h175 sh175 eh175 fh175 => ?_)
                      have pr176 := gEl.pt fh175 tc173 (by decide) pr170
                      have pr177 := gEl.pt fh175 tc173 (by decide) pr171
                      have s178 := (fh175 m 3 (fun q => absurd (((tm).symm.trans (congrArg ty q.1)).trans tc173) (by decide))).trans s166
                      have s179 := (fh175 m 36 (fun q => absurd (((tm).symm.trans (congrArg ty q.1)).trans tc173) (by decide))).trans s167
                      have s180 := (fh175 m 47 (fun q => absurd (((tm).symm.trans (congrArg ty q.1)).trans tc173) (by decide))).trans s168
                      have s181 := (fh175 m 48 (fun q => absurd (((tm).symm.trans (congrArg ty q.1)).trans tc173) (by decide))).trans s169
                      have s182 := (fh175 m 46 (fun q => absurd (((tm).symm.trans (congrArg ty q.1)).trans tc173) (by decide))).trans efq165_0
                      have s183 := (fh175 m 37 (fun q => absurd (((tm).symm.trans (congrArg ty q.1)).trans tc173) (by decide))).trans ec173
                      refine gy_s 2 (pc' := 9) (L' := [some (.ref m), some (.int (zi b)), some (.int (zi p)), some (.int ((zi (k + (zq13 / 16))) + zi 1)), some (.int (zi zq13)), some (.int (zi (zq13 / 16))), some (.int (zi (zq13 % 16))), some (.int (zi 0))]) (S' := []) (L2 := [some (.ref m), some (.int (zi b)), some (.int (zi p)), some (.int (zi ((k + (zq13 / 16)) + 1))), some (.int (zi zq13)), some (.int (zi (zq13 / 16))), some (.int (zi (zq13 % 16))), some (.int (zi 0))]) (S2 := []) rfl (by simp only [zi_add, zi_sub, zi_mul, zi_neg, zi_and1, zi_and7, zi_and15, zi_and31, zi_and255]) (by simp only [zi_add, zi_sub, zi_mul, zi_neg, zi_and1, zi_and7, zi_and15, zi_and31, zi_and255]) ?_
                      exact gz_wk (ihlp5 h175 ((k + (zq13 / 16)) + 1) fq13_0 fq13_1 fq165_0 (by omega) sh175 (by omega) (by omega) (by omega) (by omega) (by omega) (by omega) (by omega) s178 s180 s181 s182 pr176 pr177) (gLw.s (gLw.s (gLw.s (gLw.s (gLw.n (gLw.n (gLw.n (gLw.n gLw.z))))))))
                  · refine gy_icF rfl (by decide) (by decide) (by omega) (by omega) hc164 ?_
                    refine gz_s 2 (pc' := 133) (L' := [some (.ref m), some (.int (zi b)), some (.int (zi p)), some (.int (zi (k + (zq13 / 16)))), some (.int (zi zq13)), some (.int (zi (zq13 / 16))), some (.int (zi (zq13 % 16))), some (.int (zi 0))]) (S' := [.int (zi 1), .ref m]) rfl ?_
                    refine gz_call rfl (by decide) rfl (by decide) (by decide) (gcal_of rfl rfl rfl (Nat.le_of_ble_eq_true rfl) (gJ.recv (G := gGG) sq112.1 tm rfl rfl)) (mm_keep _ sq112.1 m tm 1 (by omega) fq112_0 efq112_0 (by omega)) (fun q184 _ wq184 => ?_)
                    obtain ⟨pq184, oq184, hq184⟩ := q184
                    obtain ⟨xq184, fq184_0, gq184, efq184_0, afq184_0, bfq184_0, uq184_0⟩ := wq184
                    refine ⟨_, gq184, ?_⟩
                    show gz gPP gGG gcn _ _ 136 [some (.ref m), some (.int (zi b)), some (.int (zi p)), some (.int (zi (k + (zq13 / 16)))), some (.int (zi zq13)), some (.int (zi (zq13 / 16))), some (.int (zi (zq13 % 16))), some (.int (zi 0))] [] hq184 _
                    have sq184 := gSs.tr sq112 xq184 (by decide)
                    have s185 := (xq184.2.2.2.2.2 m 3 (by rw [tm]; decide)).trans s113
                    have s186 := (xq184.2.2.2.2.2 m 36 (by rw [tm]; decide)).trans s114
                    have s187 := (xq184.2.2.2.2.2 m 47 (by rw [tm]; decide)).trans s115
                    have s188 := (xq184.2.2.2.2.2 m 48 (by rw [tm]; decide)).trans s116
                    have pr189 := gEl.fr xq184.2 (by decide) (fun _ => rfl) pr117
                    have pr190 := gEl.fr xq184.2 (by decide) (fun _ => rfl) pr118
                    refine gz_s 1 (pc' := 137) (L' := [some (.ref m), some (.int (zi b)), some (.int (zi p)), some (.int (zi (k + (zq13 / 16)))), some (.int (zi zq13)), some (.int (zi (zq13 / 16))), some (.int (zi (zq13 % 16))), some (.int (zi 0))]) (S' := [.ref m]) rfl ?_
                    refine gs_gtk rfl (by decide) rfl sq184.1 tm rfl rfl efq184_0 ?_
                    by_cases hc191 : ¬ (fq184_0 : Int) = 0
                    · refine gy_ifT (pc' := 153) rfl (by decide) (by decide) (by omega) hc191 ?_
                      refine gy_s 2 (pc' := 9) (L' := [some (.ref m), some (.int (zi b)), some (.int (zi p)), some (.int ((zi (k + (zq13 / 16))) + zi 1)), some (.int (zi zq13)), some (.int (zi (zq13 / 16))), some (.int (zi (zq13 % 16))), some (.int (zi 0))]) (S' := []) (L2 := [some (.ref m), some (.int (zi b)), some (.int (zi p)), some (.int (zi ((k + (zq13 / 16)) + 1))), some (.int (zi zq13)), some (.int (zi (zq13 / 16))), some (.int (zi (zq13 % 16))), some (.int (zi 0))]) (S2 := []) rfl (by simp only [zi_add, zi_sub, zi_mul, zi_neg, zi_and1, zi_and7, zi_and15, zi_and31, zi_and255]) (by simp only [zi_add, zi_sub, zi_mul, zi_neg, zi_and1, zi_and7, zi_and15, zi_and31, zi_and255]) ?_
                      exact gz_wk (ihlp5 hq184 ((k + (zq13 / 16)) + 1) fq13_0 fq13_1 fq184_0 (by omega) sq184 (by omega) (by omega) (by omega) (by omega) (by omega) (by omega) (by omega) s185 s187 s188 efq184_0 pr189 pr190) (gLw.s (gLw.s (gLw.s (gLw.s (gLw.n (gLw.n (gLw.n (gLw.n gLw.z))))))))
                    · refine gy_ifF rfl (by decide) (by decide) (by omega) hc191 ?_
                      refine gz_s 1 (pc' := 144) (L' := [some (.ref m), some (.int (zi b)), some (.int (zi p)), some (.int (zi (k + (zq13 / 16)))), some (.int (zi zq13)), some (.int (zi (zq13 / 16))), some (.int (zi (zq13 % 16))), some (.int (zi 0))]) (S' := [.ref m]) rfl ?_
                      refine gs_gtr rfl (by decide) rfl sq184.1 tm rfl rfl rfl (fun c192 ec192 tc192 => ?_)
                      refine gy_s 4 (pc' := 152) (L' := [some (.ref m), some (.int (zi b)), some (.int (zi p)), some (.int (zi (k + (zq13 / 16)))), some (.int (zi zq13)), some (.int (zi (zq13 / 16))), some (.int (zi (zq13 % 16))), some (.int (zi 0))]) (S' := [.int (zi 0), .int ((zi p) + (zi (k + (zq13 / 16)))), .ref c192]) (L2 := [some (.ref m), some (.int (zi b)), some (.int (zi p)), some (.int (zi (k + (zq13 / 16)))), some (.int (zi zq13)), some (.int (zi (zq13 / 16))), some (.int (zi (zq13 % 16))), some (.int (zi 0))]) (S2 := [.int (zi 0), .int (zi (p + (k + (zq13 / 16)))), .ref c192]) rfl (by simp only [zi_add, zi_sub, zi_mul, zi_neg, zi_and1, zi_and7, zi_and15, zi_and31, zi_and255]) (by simp only [zi_add, zi_sub, zi_mul, zi_neg, zi_and1, zi_and7, zi_and15, zi_and31, zi_and255]) ?_
                      have hl193 : 12288 ≤ hq184.2.2.2.1 c192 ∧ hq184.2.2.2.1 c192 ≤ 12288 := gJ.rowl (G := gGG) sq184.1 tc192 rfl
                      refine gs_ast rfl (by decide) sq184 tc192 rfl rfl rfl (by decide) (fun _ => rfl) (by omega) (by omega) (fun _ => (by decide : (23999 : Nat) ∈ ([1046, 1047, 1048, 20999, 23999] : List Nat))) (by omega) (by omega) (fun h194 sh194 eh194 fh194 => ?_)
                      have pr195 := gEl.pt fh194 tc192 (by decide) pr189
                      have pr196 := gEl.pt fh194 tc192 (by decide) pr190
                      have s197 := (fh194 m 3 (fun q => absurd (((tm).symm.trans (congrArg ty q.1)).trans tc192) (by decide))).trans s185
                      have s198 := (fh194 m 36 (fun q => absurd (((tm).symm.trans (congrArg ty q.1)).trans tc192) (by decide))).trans s186
                      have s199 := (fh194 m 47 (fun q => absurd (((tm).symm.trans (congrArg ty q.1)).trans tc192) (by decide))).trans s187
                      have s200 := (fh194 m 48 (fun q => absurd (((tm).symm.trans (congrArg ty q.1)).trans tc192) (by decide))).trans s188
                      have s201 := (fh194 m 46 (fun q => absurd (((tm).symm.trans (congrArg ty q.1)).trans tc192) (by decide))).trans efq184_0
                      have s202 := (fh194 m 37 (fun q => absurd (((tm).symm.trans (congrArg ty q.1)).trans tc192) (by decide))).trans ec192
                      refine gy_s 2 (pc' := 9) (L' := [some (.ref m), some (.int (zi b)), some (.int (zi p)), some (.int ((zi (k + (zq13 / 16))) + zi 1)), some (.int (zi zq13)), some (.int (zi (zq13 / 16))), some (.int (zi (zq13 % 16))), some (.int (zi 0))]) (S' := []) (L2 := [some (.ref m), some (.int (zi b)), some (.int (zi p)), some (.int (zi ((k + (zq13 / 16)) + 1))), some (.int (zi zq13)), some (.int (zi (zq13 / 16))), some (.int (zi (zq13 % 16))), some (.int (zi 0))]) (S2 := []) rfl (by simp only [zi_add, zi_sub, zi_mul, zi_neg, zi_and1, zi_and7, zi_and15, zi_and31, zi_and255]) (by simp only [zi_add, zi_sub, zi_mul, zi_neg, zi_and1, zi_and7, zi_and15, zi_and31, zi_and255]) ?_
                      exact gz_wk (ihlp5 h194 ((k + (zq13 / 16)) + 1) fq13_0 fq13_1 fq184_0 (by omega) sh194 (by omega) (by omega) (by omega) (by omega) (by omega) (by omega) (by omega) s197 s199 s200 s201 pr195 pr196) (gLw.s (gLw.s (gLw.s (gLw.s (gLw.n (gLw.n (gLw.n (gLw.n gLw.z))))))))
            · refine gy_ifF rfl (by decide) (by decide) (by omega) hc19 ?_
              refine gz_s 2 (pc' := 65) (L' := [some (.ref m), some (.int (zi b)), some (.int (zi p)), some (.int (zi k)), some (.int (zi zq13)), some (.int (zi (zq13 / 16))), some (.int (zi (zq13 % 16))), none]) (S' := [.int (zi 15), .int (zi (zq13 / 16))]) rfl ?_
              by_cases hc203 : ¬ (zq13 / 16 : Int) = 15
              · refine gy_icT (pc' := 75) rfl (by decide) (by decide) (by omega) (by omega) hc203 ?_
                refine gz_s 4 (pc' := 9) (L' := [some (.ref m), some (.int (zi b)), some (.int (zi p)), some (.int (zi 64)), some (.int (zi zq13)), some (.int (zi (zq13 / 16))), some (.int (zi (zq13 % 16))), none]) (S' := []) rfl ?_
                exact gz_wk (ihlp5 hq13 64 fq13_0 fq13_1 fq13_2 (by omega) sq13 (by omega) (by omega) (by omega) (by omega) (by omega) (by omega) (by omega) s14 efq13_0 efq13_1 efq13_2 pr16 pr17) (gLw.s (gLw.s (gLw.s (gLw.s (gLw.n (gLw.n (gLw.n (gLw.n gLw.z))))))))
              · refine gy_icF rfl (by decide) (by decide) (by omega) (by omega) hc203 ?_
                refine gy_s 7 (pc' := 9) (L' := [some (.ref m), some (.int (zi b)), some (.int (zi p)), some (.int ((zi k) + (zi 16))), some (.int (zi zq13)), some (.int (zi (zq13 / 16))), some (.int (zi (zq13 % 16))), none]) (S' := []) (L2 := [some (.ref m), some (.int (zi b)), some (.int (zi p)), some (.int (zi (k + 16))), some (.int (zi zq13)), some (.int (zi (zq13 / 16))), some (.int (zi (zq13 % 16))), none]) (S2 := []) rfl (by simp only [zi_add, zi_sub, zi_mul, zi_neg, zi_and1, zi_and7, zi_and15, zi_and31, zi_and255]) (by simp only [zi_add, zi_sub, zi_mul, zi_neg, zi_and1, zi_and7, zi_and15, zi_and31, zi_and255]) ?_
                exact gz_wk (ihlp5 hq13 (k + 16) fq13_0 fq13_1 fq13_2 (by omega) sq13 (by omega) (by omega) (by omega) (by omega) (by omega) (by omega) (by omega) s14 efq13_0 efq13_1 efq13_2 pr16 pr17) (gLw.s (gLw.s (gLw.s (gLw.s (gLw.n (gLw.n (gLw.n (gLw.n gLw.z))))))))
          · refine gy_ifF rfl (by decide) (by decide) (by omega) hc18 ?_
            exact gz_end (I := .return_) (len := 1) rfl (Or.inl rfl) ⟨sq13, fq13_0, fq13_1, fq13_2, rfl, efq13_0, (by omega), (by omega), efq13_1, (by omega), (by omega), efq13_2, (by omega), (by omega), (by omega), (by omega), (by omega)⟩
  exact gz_wk (lp5 _ hq1 1 fq1_0 fq1_1 fq1_2 (Nat.lt_succ_self _) sq1 (by omega) (by omega) (by omega) (by omega) (by omega) (by omega) (by omega) s2 efq1_0 efq1_1 efq1_2 pr3 pr4) (gLw.s (gLw.s (gLw.s (gLw.s (gLw.n (gLw.n (gLw.n (gLw.n gLw.z))))))))
set_option maxRecDepth 20000 in
set_option maxHeartbeats 4000000 in
theorem mm_readFirst (d : Nat) {ty : Nat → Nat} {h : gH} (hJ : gJ rT 1027 ty h) (m : Nat) (tm : ty m = 1) (b : Int) (rb : 0 ≤ b ∧ b ≤ 2) (p : Int) (rp : 0 ≤ p ∧ p ≤ 12224) (a0 : Int) (ea0 : h.2.2.2.2 m 47 = .int (zi a0)) (ra0 : 0 ≤ a0 ∧ a0 ≤ 2001) (k0 : Int) (ek0 : h.2.2.2.2 m 48 = .int (zi k0)) (rk0 : 0 ≤ k0 ∧ k0 ≤ 7) (sz : Int) (esz : h.2.2.2.2 m 3 = .int (zi sz)) (rsz : 0 ≤ sz ∧ sz ≤ 2000) (u0 : Int) (eu0 : h.2.2.2.2 m 46 = .int (zi u0)) (ru0 : 0 ≤ u0 ∧ u0 ≤ 1) (lw : Int) (elw : h.2.2.2.2 m 44 = .int (zi lw)) (rlw : 0 ≤ lw ∧ lw ≤ 13) (p0 : k0 = 0 ∨ a0 < sz) (el0 : gEl ty 21 b 0 3 h) : gz gPP gGG gcn (d + 5) gt159 0 (gent [.ref m, .int (zi b), .int (zi p)] 3) [] h (fun q _ => gSs rT 1027 ty [1046, 1047, 1048, 20999, 23999] h q.2.2 ∧ ∃ a1 k1 u1 : Int, gfin gt159 q.1 q.2.1 = some none ∧ q.2.2.2.2.2.2 m 47 = .int (zi a1) ∧ 0 ≤ a1 ∧ a1 ≤ 2001 ∧ q.2.2.2.2.2.2 m 48 = .int (zi k1) ∧ 0 ≤ k1 ∧ k1 ≤ 7 ∧ q.2.2.2.2.2.2 m 46 = .int (zi u1) ∧ 0 ≤ u1 ∧ u1 ≤ 1 ∧ (k1 = 0 ∨ a1 < sz) ∧ (a0 ≤ a1) ∧ (u1 = 0 → u0 = 0)) := by
  have hS : gSs rT 1027 ty [1046, 1047, 1048, 20999, 23999] h h := gSs.rf hJ
  refine gz_s 1 (pc' := 1) (L' := [some (.ref m), some (.int (zi b)), some (.int (zi p))]) (S' := [.ref m]) rfl ?_
  refine gs_get rfl (by decide) rfl hS.1 tm rfl rfl rfl (fun z1 ez1 az1 bz1 => ?_)
  by_cases hc2 : ¬ (z1 : Int) = 0
  · refine gy_ifT (pc' := 20) rfl (by decide) (by decide) (by omega) hc2 ?_
    refine gz_s 1 (pc' := 21) (L' := [some (.ref m), some (.int (zi b)), some (.int (zi p))]) (S' := [.ref m]) rfl ?_
    refine gz_call rfl (by decide) rfl (by decide) (by decide) (gcal_of rfl rfl rfl (Nat.le_of_ble_eq_true rfl) (gJ.recv (G := gGG) hS.1 tm rfl rfl)) (mm_bit _ hS.1 m tm a0 ea0 (by omega) k0 ek0 (by omega) sz esz (by omega) u0 eu0 (by omega) (by omega)) (fun q3 _ wq3 => ?_)
    obtain ⟨pq3, oq3, hq3⟩ := q3
    obtain ⟨xq3, zq3, fq3_0, fq3_1, fq3_2, gq3, aq3, bq3, efq3_0, afq3_0, bfq3_0, efq3_1, afq3_1, bfq3_1, efq3_2, afq3_2, bfq3_2, uq3_0, uq3_1, uq3_2⟩ := wq3
    refine ⟨_, gq3, ?_⟩
    show gz gPP gGG gcn _ _ 24 [some (.ref m), some (.int (zi b)), some (.int (zi p))] [.int (zi zq3)] hq3 _
    have sq3 := gSs.tr hS xq3 (by decide)
    have s4 := (xq3.2.2.2.2.2 m 3 (by rw [tm]; decide)).trans esz
    have s5 := (xq3.2.2.2.2.2 m 44 (by rw [tm]; decide)).trans elw
    have s6 := (xq3.2.2.2.2.2 m 43 (by rw [tm]; decide)).trans ez1
    have pr7 := gEl.fr xq3.2 (by decide) (fun _ => rfl) el0
    refine gz_s 1 (pc' := 25) (L' := [some (.ref m), some (.int (zi b)), some (.int (zi p))]) (S' := [.int (zi 1), .int (zi zq3)]) rfl ?_
    by_cases hc8 : ¬ (zq3 : Int) = 1
    · refine gy_icT (pc' := 47) rfl (by decide) (by decide) (by omega) (by omega) hc8 ?_
      exact gz_end (I := .return_) (len := 1) rfl (Or.inl rfl) ⟨sq3, fq3_0, fq3_1, fq3_2, rfl, efq3_0, (by omega), (by omega), efq3_1, (by omega), (by omega), efq3_2, (by omega), (by omega), (by omega), (by omega), (by omega)⟩
    · refine gy_icF rfl (by decide) (by decide) (by omega) (by omega) hc8 ?_
      refine gz_s 1 (pc' := 29) (L' := [some (.ref m), some (.int (zi b)), some (.int (zi p))]) (S' := [.ref m]) rfl ?_
      refine gs_gtr rfl (by decide) rfl sq3.1 tm rfl rfl rfl (fun c9 ec9 tc9 => ?_)
      refine gz_s 2 (pc' := 34) (L' := [some (.ref m), some (.int (zi b)), some (.int (zi p))]) (S' := [.ref m, .int (zi p), .ref c9]) rfl ?_
      refine gs_gtk rfl (by decide) rfl sq3.1 tm rfl rfl ec9 ?_
      refine gz_s 1 (pc' := 38) (L' := [some (.ref m), some (.int (zi b)), some (.int (zi p))]) (S' := [.int (zi p), .ref c9, .int (zi p), .ref c9]) rfl ?_
      have hl10 : 12288 ≤ hq3.2.2.2.1 c9 ∧ hq3.2.2.2.1 c9 ≤ 12288 := gJ.rowl (G := gGG) sq3.1 tc9 rfl
      refine gs_ald rfl (by decide) sq3.1 tc9 rfl rfl rfl (by decide) (fun _ => rfl) (by omega) (by omega) (fun z11 ez11 az11 bz11 => ?_)
      refine gz_s 2 (pc' := 41) (L' := [some (.ref m), some (.int (zi b)), some (.int (zi p))]) (S' := [.ref m, .int (zi 1), .int (zi z11), .int (zi p), .ref c9]) rfl ?_
      refine gs_gtk rfl (by decide) rfl sq3.1 tm rfl rfl s5 ?_
      refine gy_sh1 rfl (by decide) (by omega) (fun z12 az12 bz12 cz12 => ?_)
      refine gy_iiv rfl (by decide) rfl (fun _ _ => rfl) (fun z13 ez13 az13 bz13 => ?_)
      have hl14 : 12288 ≤ hq3.2.2.2.1 c9 ∧ hq3.2.2.2.1 c9 ≤ 12288 := gJ.rowl (G := gGG) sq3.1 tc9 rfl
      refine gs_ast rfl (by decide) sq3 tc9 rfl rfl rfl (by decide) (fun _ => rfl) (by omega) (by omega) (fun _ => (by decide : (23999 : Nat) ∈ ([1046, 1047, 1048, 20999, 23999] : List Nat))) (by omega) (by omega) (fun h15 sh15 eh15 fh15 => ?_)
      have pr16 := gEl.pt fh15 tc9 (by decide) pr7
      have s17 := (fh15 m 3 (fun q => absurd (((tm).symm.trans (congrArg ty q.1)).trans tc9) (by decide))).trans s4
      have s18 := (fh15 m 44 (fun q => absurd (((tm).symm.trans (congrArg ty q.1)).trans tc9) (by decide))).trans s5
      have s19 := (fh15 m 43 (fun q => absurd (((tm).symm.trans (congrArg ty q.1)).trans tc9) (by decide))).trans s6
      have s20 := (fh15 m 47 (fun q => absurd (((tm).symm.trans (congrArg ty q.1)).trans tc9) (by decide))).trans efq3_0
      have s21 := (fh15 m 48 (fun q => absurd (((tm).symm.trans (congrArg ty q.1)).trans tc9) (by decide))).trans efq3_1
      have s22 := (fh15 m 46 (fun q => absurd (((tm).symm.trans (congrArg ty q.1)).trans tc9) (by decide))).trans efq3_2
      have s23 := (fh15 m 37 (fun q => absurd (((tm).symm.trans (congrArg ty q.1)).trans tc9) (by decide))).trans ec9
      exact gz_end (I := .return_) (len := 1) rfl (Or.inl rfl) ⟨sh15, fq3_0, fq3_1, fq3_2, rfl, s20, (by omega), (by omega), s21, (by omega), (by omega), s22, (by omega), (by omega), (by omega), (by omega), (by omega)⟩
  · refine gy_ifF rfl (by decide) (by decide) (by omega) hc2 ?_
    refine gz_s 4 (pc' := 11) (L' := [some (.ref m), some (.int (zi b)), some (.int (zi p))]) (S' := [.ref m, .int (zi p), .int (zi b), .ref m]) rfl ?_
    refine gs_gtk rfl (by decide) rfl hS.1 tm rfl rfl elw ?_
    refine gz_call rfl (by decide) rfl (by decide) (by decide) (gcal_of rfl rfl rfl (Nat.le_of_ble_eq_true rfl) (gJ.recv (G := gGG) hS.1 tm rfl rfl)) (mm_readDifference _ hS.1 m tm b (by omega) p (by omega) lw (by omega) a0 ea0 (by omega) k0 ek0 (by omega) sz esz (by omega) u0 eu0 (by omega) (by omega) el0) (fun q24 _ wq24 => ?_)
    obtain ⟨pq24, oq24, hq24⟩ := q24
    obtain ⟨xq24, fq24_0, fq24_1, fq24_2, gq24, efq24_0, afq24_0, bfq24_0, efq24_1, afq24_1, bfq24_1, efq24_2, afq24_2, bfq24_2, uq24_0, uq24_1, uq24_2⟩ := wq24
    refine ⟨_, gq24, ?_⟩
    show gz gPP gGG gcn _ _ 17 [some (.ref m), some (.int (zi b)), some (.int (zi p))] [] hq24 _
    have sq24 := gSs.tr hS xq24 (by decide)
    have s25 := (xq24.2.2.2.2.2 m 3 (by rw [tm]; decide)).trans esz
    have s26 := (xq24.2.2.2.2.2 m 44 (by rw [tm]; decide)).trans elw
    have s27 := (xq24.2.2.2.2.2 m 43 (by rw [tm]; decide)).trans ez1
    have pr28 := gEl.fr xq24.2 (by decide) (fun _ => rfl) el0
    refine gz_s 1 (pc' := 47) (L' := [some (.ref m), some (.int (zi b)), some (.int (zi p))]) (S' := []) rfl ?_
    exact gz_end (I := .return_) (len := 1) rfl (Or.inl rfl) ⟨sq24, fq24_0, fq24_1, fq24_2, rfl, efq24_0, (by omega), (by omega), efq24_1, (by omega), (by omega), efq24_2, (by omega), (by omega), (by omega), (by omega), (by omega)⟩
set_option maxRecDepth 20000 in
set_option maxHeartbeats 4000000 in
theorem mm_readOthers (d : Nat) {ty : Nat → Nat} {h : gH} (hJ : gJ rT 1027 ty h) (m : Nat) (tm : ty m = 1) (b : Int) (rb : 0 ≤ b ∧ b ≤ 2) (p : Int) (rp : 0 ≤ p ∧ p ≤ 12224) (a0 : Int) (ea0 : h.2.2.2.2 m 47 = .int (zi a0)) (ra0 : 0 ≤ a0 ∧ a0 ≤ 2001) (k0 : Int) (ek0 : h.2.2.2.2 m 48 = .int (zi k0)) (rk0 : 0 ≤ k0 ∧ k0 ≤ 7) (sz : Int) (esz : h.2.2.2.2 m 3 = .int (zi sz)) (rsz : 0 ≤ sz ∧ sz ≤ 2000) (u0 : Int) (eu0 : h.2.2.2.2 m 46 = .int (zi u0)) (ru0 : 0 ≤ u0 ∧ u0 ≤ 1) (lw : Int) (elw : h.2.2.2.2 m 44 = .int (zi lw)) (rlw : 0 ≤ lw ∧ lw ≤ 13) (fr : Int) (efr : h.2.2.2.2 m 41 = .int (zi fr)) (rfr : 1 ≤ fr ∧ fr ≤ 63) (tt : Int) (ett : h.2.2.2.2 m 42 = .int (zi tt)) (rtt : 1 ≤ tt ∧ tt ≤ 63) (p0 : k0 = 0 ∨ a0 < sz) (el0 : gEl ty 22 b 4 7 h) : gz gPP gGG gcn (d + 5) gt160 0 (gent [.ref m, .int (zi b), .int (zi p)] 8) [] h (fun q _ => gSs rT 1027 ty [1045, 1046, 1047, 1048, 20999, 23999] h q.2.2 ∧ ∃ a1 k1 u1 : Int, gfin gt160 q.1 q.2.1 = some none ∧ q.2.2.2.2.2.2 m 47 = .int (zi a1) ∧ 0 ≤ a1 ∧ a1 ≤ 2001 ∧ q.2.2.2.2.2.2 m 48 = .int (zi k1) ∧ 0 ≤ k1 ∧ k1 ≤ 7 ∧ q.2.2.2.2.2.2 m 46 = .int (zi u1) ∧ 0 ≤ u1 ∧ u1 ≤ 1 ∧ (k1 = 0 ∨ a1 < sz) ∧ (a0 ≤ a1) ∧ (u1 = 0 → u0 = 0)) := by
  have hS : gSs rT 1027 ty [1045, 1046, 1047, 1048, 20999, 23999] h h := gSs.rf hJ
  refine gz_s 1 (pc' := 1) (L' := [some (.ref m), some (.int (zi b)), some (.int (zi p)), none, none, none, none, none]) (S' := [.ref m]) rfl ?_
  refine gs_gtk rfl (by decide) rfl hS.1 tm rfl rfl efr ?_
  refine gz_s 1 (pc' := 5) (L' := [some (.ref m), some (.int (zi b)), some (.int (zi p)), some (.int (zi fr)), none, none, none, none]) (S' := []) rfl ?_
  obtain ⟨z1, ez1, az1, bz1⟩ := gJ.int (k := 45) (G := gGG) hS.1 tm rfl rfl rfl
  have lp2 : ∀ (fu : Nat) (h3 : gH) (k : Int) (av : Int) (kv : Int) (uv : Int) (rv : Int), (if rv = 0 then 102 - k else 0).toNat < fu → gSs rT 1027 ty [1045, 1046, 1047, 1048, 20999, 23999] h h3 → (1 ≤ k ∧ k ≤ 100) → (0 ≤ av ∧ av ≤ 2001) → (0 ≤ kv ∧ kv ≤ 7) → (0 ≤ uv ∧ uv ≤ 1) → ((-2147483648) ≤ rv ∧ rv ≤ 2147483647) → (kv = 0 ∨ av < sz) → (a0 ≤ av) → (uv = 0 → u0 = 0) → h3.2.2.2.2 m 3 = .int (zi sz) → h3.2.2.2.2 m 44 = .int (zi lw) → h3.2.2.2.2 m 41 = .int (zi fr) → h3.2.2.2.2 m 42 = .int (zi tt) → h3.2.2.2.2 m 47 = .int (zi av) → h3.2.2.2.2 m 48 = .int (zi kv) → h3.2.2.2.2 m 46 = .int (zi uv) → h3.2.2.2.2 m 45 = .int (zi rv) → gEl ty 22 b 4 7 h3 → gz gPP gGG gcn (d + 5) gt160 5 [some (.ref m), some (.int (zi b)), some (.int (zi p)), some (.int (zi k)), none, none, none, none] [] h3 (fun q _ => gSs rT 1027 ty [1045, 1046, 1047, 1048, 20999, 23999] h q.2.2 ∧ ∃ a1 k1 u1 : Int, gfin gt160 q.1 q.2.1 = some none ∧ q.2.2.2.2.2.2 m 47 = .int (zi a1) ∧ 0 ≤ a1 ∧ a1 ≤ 2001 ∧ q.2.2.2.2.2.2 m 48 = .int (zi k1) ∧ 0 ≤ k1 ∧ k1 ≤ 7 ∧ q.2.2.2.2.2.2 m 46 = .int (zi u1) ∧ 0 ≤ u1 ∧ u1 ≤ 1 ∧ (k1 = 0 ∨ a1 < sz) ∧ (a0 ≤ a1) ∧ (u1 = 0 → u0 = 0)) := by
    intro fu
    induction fu with
    | zero => intro h3 k av kv uv rv hm; exact absurd hm (Nat.not_lt_zero _)
    | succ fu ihlp2 =>
      intro h3 k av kv uv rv lp2m sh3 lp2f0 lp2f1 lp2f2 lp2f3 lp2f4 lp2f5 lp2f6 lp2f7 lp2k0 lp2k1 lp2k2 lp2k3 lp2k4 lp2k5 lp2k6 lp2k7 lp2k8
      refine gz_s 1 (pc' := 6) (L' := [some (.ref m), some (.int (zi b)), some (.int (zi p)), some (.int (zi k)), none, none, none, none]) (S' := [.ref m]) rfl ?_
      refine gs_gtk rfl (by decide) rfl sh3.1 tm rfl rfl lp2k7 ?_
      by_cases hc4 : ¬ (rv : Int) = 0
      · refine gy_ifT (pc' := 190) rfl (by decide) (by decide) (by omega) hc4 ?_
        refine gz_s 2 (pc' := 192) (L' := [some (.ref m), some (.int (zi b)), some (.int (zi p)), some (.int (zi k)), none, none, none, none]) (S' := [.ref m, .ref m]) rfl ?_
        refine gs_gtk rfl (by decide) rfl sh3.1 tm rfl rfl lp2k7 ?_
        by_cases hc5 : (rv : Int) ≤ 0
        · refine gy_ifT (pc' := 207) rfl (by decide) (by decide) (by omega) hc5 ?_
          refine gz_s 1 (pc' := 208) (L' := [some (.ref m), some (.int (zi b)), some (.int (zi p)), some (.int (zi k)), none, none, none, none]) (S' := [.int (zi 0), .ref m]) rfl ?_
          refine gs_put rfl (by decide) rfl sh3 tm rfl rfl rfl rfl (Or.inl rfl) (by decide) (by omega) (by omega) (fun h6 sh6 eh6 fh6 => ?_)
          have pr7 := gEl.pt fh6 tm (by decide) lp2k8
          have s8 := (fh6 m 3 (fun q => absurd q.2 (by decide))).trans lp2k0
          have s9 := (fh6 m 44 (fun q => absurd q.2 (by decide))).trans lp2k1
          have s10 := (fh6 m 41 (fun q => absurd q.2 (by decide))).trans lp2k2
          have s11 := (fh6 m 42 (fun q => absurd q.2 (by decide))).trans lp2k3
          have s12 := (fh6 m 47 (fun q => absurd q.2 (by decide))).trans lp2k4
          have s13 := (fh6 m 48 (fun q => absurd q.2 (by decide))).trans lp2k5
          have s14 := (fh6 m 46 (fun q => absurd q.2 (by decide))).trans lp2k6
          exact gz_end (I := .return_) (len := 1) rfl (Or.inl rfl) ⟨sh6, av, kv, uv, rfl, s12, (by omega), (by omega), s13, (by omega), (by omega), s14, (by omega), (by omega), (by omega), (by omega), (by omega)⟩
        · refine gy_ifF rfl (by decide) (by decide) (by omega) hc5 ?_
          refine gz_s 1 (pc' := 199) (L' := [some (.ref m), some (.int (zi b)), some (.int (zi p)), some (.int (zi k)), none, none, none, none]) (S' := [.ref m, .ref m]) rfl ?_
          refine gs_gtk rfl (by decide) rfl sh3.1 tm rfl rfl lp2k7 ?_
          refine gy_s 3 (pc' := 208) (L' := [some (.ref m), some (.int (zi b)), some (.int (zi p)), some (.int (zi k)), none, none, none, none]) (S' := [.int ((zi rv) - (zi 1)), .ref m]) (L2 := [some (.ref m), some (.int (zi b)), some (.int (zi p)), some (.int (zi k)), none, none, none, none]) (S2 := [.int (zi (rv - 1)), .ref m]) rfl (by simp only [zi_add, zi_sub, zi_mul, zi_neg, zi_and1, zi_and7, zi_and15, zi_and31, zi_and255]) (by simp only [zi_add, zi_sub, zi_mul, zi_neg, zi_and1, zi_and7, zi_and15, zi_and31, zi_and255]) ?_
          refine gs_put rfl (by decide) rfl sh3 tm rfl rfl rfl rfl (Or.inl rfl) (by decide) (by omega) (by omega) (fun h15 sh15 eh15 fh15 => ?_)
          have pr16 := gEl.pt fh15 tm (by decide) lp2k8
          have s17 := (fh15 m 3 (fun q => absurd q.2 (by decide))).trans lp2k0
          have s18 := (fh15 m 44 (fun q => absurd q.2 (by decide))).trans lp2k1
          have s19 := (fh15 m 41 (fun q => absurd q.2 (by decide))).trans lp2k2
          have s20 := (fh15 m 42 (fun q => absurd q.2 (by decide))).trans lp2k3
          have s21 := (fh15 m 47 (fun q => absurd q.2 (by decide))).trans lp2k4
          have s22 := (fh15 m 48 (fun q => absurd q.2 (by decide))).trans lp2k5
          have s23 := (fh15 m 46 (fun q => absurd q.2 (by decide))).trans lp2k6
          exact gz_end (I := .return_) (len := 1) rfl (Or.inl rfl) ⟨sh15, av, kv, uv, rfl, s21, (by omega), (by omega), s22, (by omega), (by omega), s23, (by omega), (by omega), (by omega), (by omega), (by omega)⟩
      · refine gy_ifF rfl (by decide) (by decide) (by omega) hc4 ?_
        refine gz_s 2 (pc' := 14) (L' := [some (.ref m), some (.int (zi b)), some (.int (zi p)), some (.int (zi k)), none, none, none, none]) (S' := [.ref m, .int (zi k)]) rfl ?_
        refine gs_gtk rfl (by decide) rfl sh3.1 tm rfl rfl lp2k3 ?_
        by_cases hc24 : (tt : Int) < k
        · refine gy_icT (pc' := 190) rfl (by decide) (by decide) (by omega) (by omega) hc24 ?_
          refine gz_s 2 (pc' := 192) (L' := [some (.ref m), some (.int (zi b)), some (.int (zi p)), some (.int (zi k)), none, none, none, none]) (S' := [.ref m, .ref m]) rfl ?_
          refine gs_gtk rfl (by decide) rfl sh3.1 tm rfl rfl lp2k7 ?_
          refine gy_ifT (pc' := 207) rfl (by decide) (by decide) (by omega) (by first | (simp [zc]; done) | (simp only [zc]; omega)) ?_
          refine gz_s 1 (pc' := 208) (L' := [some (.ref m), some (.int (zi b)), some (.int (zi p)), some (.int (zi k)), none, none, none, none]) (S' := [.int (zi 0), .ref m]) rfl ?_
          refine gs_put rfl (by decide) rfl sh3 tm rfl rfl rfl rfl (Or.inl rfl) (by decide) (by omega) (by omega) (fun h25 sh25 eh25 fh25 => ?_)
          have pr26 := gEl.pt fh25 tm (by decide) lp2k8
          have s27 := (fh25 m 3 (fun q => absurd q.2 (by decide))).trans lp2k0
          have s28 := (fh25 m 44 (fun q => absurd q.2 (by decide))).trans lp2k1
          have s29 := (fh25 m 41 (fun q => absurd q.2 (by decide))).trans lp2k2
          have s30 := (fh25 m 42 (fun q => absurd q.2 (by decide))).trans lp2k3
          have s31 := (fh25 m 47 (fun q => absurd q.2 (by decide))).trans lp2k4
          have s32 := (fh25 m 48 (fun q => absurd q.2 (by decide))).trans lp2k5
          have s33 := (fh25 m 46 (fun q => absurd q.2 (by decide))).trans lp2k6
          exact gz_end (I := .return_) (len := 1) rfl (Or.inl rfl) ⟨sh25, av, kv, uv, rfl, s31, (by omega), (by omega), s32, (by omega), (by omega), s33, (by omega), (by omega), (by omega), (by omega), (by omega)⟩
        · refine gy_icF rfl (by decide) (by decide) (by omega) (by omega) hc24 ?_
          refine gz_s 2 (pc' := 22) (L' := [some (.ref m), some (.int (zi b)), some (.int (zi p)), some (.int (zi k)), none, none, none, none]) (S' := [.ref m, .ref m]) rfl ?_
          refine gs_gtr rfl (by decide) rfl sh3.1 tm rfl rfl rfl (fun c34 ec34 tc34 => ?_)
          refine gz_s 1 (pc' := 26) (L' := [some (.ref m), some (.int (zi b)), some (.int (zi p)), some (.int (zi k)), none, none, none, none]) (S' := [.int (zi b), .ref c34, .ref m]) rfl ?_
          have hl35 : 3 ≤ h3.2.2.2.1 c34 ∧ h3.2.2.2.1 c34 ≤ 3 := gJ.rowl (G := gGG) sh3.1 tc34 rfl
          refine gs_ald rfl (by decide) sh3.1 tc34 rfl rfl rfl (by decide) (fun _ => rfl) (by omega) (by omega) (fun z36 ez36 az36 bz36 => ?_)
          have he37 := lp2k8 c34 z36 tc34 ez36 (by omega) (by omega)
          refine gz_call rfl (by decide) rfl (by decide) (by decide) (gcal_of rfl rfl rfl (Nat.le_of_ble_eq_true rfl) (gJ.recv (G := gGG) sh3.1 tm rfl rfl)) (mm_symbol _ sh3.1 m tm z36 (by omega) av lp2k4 (by omega) kv lp2k5 (by omega) sz lp2k0 (by omega) uv lp2k6 (by omega) (by omega)) (fun q38 _ wq38 => ?_)
          obtain ⟨pq38, oq38, hq38⟩ := q38
          obtain ⟨xq38, zq38, fq38_0, fq38_1, fq38_2, gq38, aq38, bq38, efq38_0, afq38_0, bfq38_0, efq38_1, afq38_1, bfq38_1, efq38_2, afq38_2, bfq38_2, uq38_0, uq38_1, uq38_2⟩ := wq38
          refine ⟨_, gq38, ?_⟩
          show gz gPP gGG gcn _ _ 30 [some (.ref m), some (.int (zi b)), some (.int (zi p)), some (.int (zi k)), none, none, none, none] [.int (zi zq38)] hq38 _
          have sq38 := gSs.tr sh3 xq38 (by decide)
          have s39 := (xq38.2.2.2.2.2 m 3 (by rw [tm]; decide)).trans lp2k0
          have s40 := (xq38.2.2.2.2.2 m 44 (by rw [tm]; decide)).trans lp2k1
          have s41 := (xq38.2.2.2.2.2 m 41 (by rw [tm]; decide)).trans lp2k2
          have s42 := (xq38.2.2.2.2.2 m 42 (by rw [tm]; decide)).trans lp2k3
          have s43 := (xq38.2.2.2.2.2 m 45 (by rw [tm]; decide)).trans lp2k7
          have s44 := (xq38.2.2.2.2.2 m 36 (by rw [tm]; decide)).trans ec34
          have pr45 := gEl.fr xq38.2 (by decide) (fun _ => rfl) lp2k8
          refine gz_s 2 (pc' := 33) (L' := [some (.ref m), some (.int (zi b)), some (.int (zi p)), some (.int (zi k)), some (.int (zi zq38)), none, none, none]) (S' := [.ref m]) rfl ?_
          refine gs_gtk rfl (by decide) rfl sq38.1 tm rfl rfl efq38_2 ?_
          by_cases hc46 : (fq38_2 : Int) = 0
          · refine gy_ifT (pc' := 40) rfl (by decide) (by decide) (by omega) hc46 ?_
            refine gz_s 2 (pc' := 44) (L' := [some (.ref m), some (.int (zi b)), some (.int (zi p)), some (.int (zi k)), some (.int (zi zq38)), none, none, none]) (S' := [.int (zi 16), .int (zi zq38)]) rfl ?_
            refine gy_div rfl (by decide) (by omega) (by omega) ?_
            refine gz_s 3 (pc' := 51) (L' := [some (.ref m), some (.int (zi b)), some (.int (zi p)), some (.int (zi k)), some (.int (zi zq38)), some (.int (zi (zq38 / 16))), none, none]) (S' := [.int (zi 16), .int (zi zq38)]) rfl ?_
            refine gy_rem rfl (by decide) (by omega) (by omega) ?_
            refine gz_s 2 (pc' := 56) (L' := [some (.ref m), some (.int (zi b)), some (.int (zi p)), some (.int (zi k)), some (.int (zi zq38)), some (.int (zi (zq38 / 16))), some (.int (zi (zq38 % 16))), none]) (S' := [.int (zi (zq38 % 16))]) rfl ?_
            by_cases hc47 : (zq38 % 16 : Int) ≤ 0
            · refine gy_ifT (pc' := 145) rfl (by decide) (by decide) (by omega) hc47 ?_
              refine gz_s 2 (pc' := 149) (L' := [some (.ref m), some (.int (zi b)), some (.int (zi p)), some (.int (zi k)), some (.int (zi zq38)), some (.int (zi (zq38 / 16))), some (.int (zi (zq38 % 16))), none]) (S' := [.int (zi 15), .int (zi (zq38 / 16))]) rfl ?_
              by_cases hc48 : ¬ (zq38 / 16 : Int) = 15
              · refine gy_icT (pc' := 160) rfl (by decide) (by decide) (by omega) (by omega) hc48 ?_
                refine gz_s 2 (pc' := 163) (L' := [some (.ref m), some (.int (zi b)), some (.int (zi p)), some (.int (zi k)), some (.int (zi zq38)), some (.int (zi (zq38 / 16))), some (.int (zi (zq38 % 16))), none]) (S' := [.int (zi (zq38 / 16)), .ref m]) rfl ?_
                refine gz_call rfl (by decide) rfl (by decide) (by decide) (gcal_of rfl rfl rfl (Nat.le_of_ble_eq_true rfl) (gJ.recv (G := gGG) sq38.1 tm rfl rfl)) (mm_bits _ sq38.1 m tm (zq38 / 16) (by omega) fq38_0 efq38_0 (by omega) fq38_1 efq38_1 (by omega) sz s39 (by omega) fq38_2 efq38_2 (by omega) (by omega)) (fun q49 _ wq49 => ?_)
                obtain ⟨pq49, oq49, hq49⟩ := q49
                obtain ⟨xq49, zq49, fq49_0, fq49_1, fq49_2, gq49, aq49, bq49, efq49_0, afq49_0, bfq49_0, efq49_1, afq49_1, bfq49_1, efq49_2, afq49_2, bfq49_2, uq49_0, uq49_1, uq49_2⟩ := wq49
                refine ⟨_, gq49, ?_⟩
                show gz gPP gGG gcn _ _ 166 [some (.ref m), some (.int (zi b)), some (.int (zi p)), some (.int (zi k)), some (.int (zi zq38)), some (.int (zi (zq38 / 16))), some (.int (zi (zq38 % 16))), none] [.int (zi zq49)] hq49 _
                have sq49 := gSs.tr sq38 xq49 (by decide)
                have s50 := (xq49.2.2.2.2.2 m 3 (by rw [tm]; decide)).trans s39
                have s51 := (xq49.2.2.2.2.2 m 44 (by rw [tm]; decide)).trans s40
                have s52 := (xq49.2.2.2.2.2 m 41 (by rw [tm]; decide)).trans s41
                have s53 := (xq49.2.2.2.2.2 m 42 (by rw [tm]; decide)).trans s42
                have s54 := (xq49.2.2.2.2.2 m 45 (by rw [tm]; decide)).trans s43
                have s55 := (xq49.2.2.2.2.2 m 36 (by rw [tm]; decide)).trans s44
                have pr56 := gEl.fr xq49.2 (by decide) (fun _ => rfl) pr45
                refine gz_s 2 (pc' := 169) (L' := [some (.ref m), some (.int (zi b)), some (.int (zi p)), some (.int (zi k)), some (.int (zi zq38)), some (.int (zi (zq38 / 16))), some (.int (zi (zq38 % 16))), some (.int (zi zq49))]) (S' := [.ref m]) rfl ?_
                refine gs_gtk rfl (by decide) rfl sq49.1 tm rfl rfl efq49_2 ?_
                by_cases hc57 : (fq49_2 : Int) = 0
                · refine gy_ifT (pc' := 176) rfl (by decide) (by decide) (by omega) hc57 ?_
                  refine gz_s 3 (pc' := 180) (L' := [some (.ref m), some (.int (zi b)), some (.int (zi p)), some (.int (zi k)), some (.int (zi zq38)), some (.int (zi (zq38 / 16))), some (.int (zi (zq38 % 16))), some (.int (zi zq49))]) (S' := [.int (zi (zq38 / 16)), .int (zi 1), .ref m]) rfl ?_
                  refine gy_sh1 rfl (by decide) (by omega) (fun z58 az58 bz58 cz58 => ?_)
                  refine gy_s 2 (pc' := 184) (L' := [some (.ref m), some (.int (zi b)), some (.int (zi p)), some (.int (zi k)), some (.int (zi zq38)), some (.int (zi (zq38 / 16))), some (.int (zi (zq38 % 16))), some (.int (zi zq49))]) (S' := [.int ((zi z58) + (zi zq49)), .ref m]) (L2 := [some (.ref m), some (.int (zi b)), some (.int (zi p)), some (.int (zi k)), some (.int (zi zq38)), some (.int (zi (zq38 / 16))), some (.int (zi (zq38 % 16))), some (.int (zi zq49))]) (S2 := [.int (zi (z58 + zq49)), .ref m]) rfl (by simp only [zi_add, zi_sub, zi_mul, zi_neg, zi_and1, zi_and7, zi_and15, zi_and31, zi_and255]) (by simp only [zi_add, zi_sub, zi_mul, zi_neg, zi_and1, zi_and7, zi_and15, zi_and31, zi_and255]) ?_
                  refine gs_put rfl (by decide) rfl sq49 tm rfl rfl rfl rfl (Or.inl rfl) (by decide) (by omega) (by omega) (fun h59 sh59 eh59 fh59 => ?_)
                  have pr60 := gEl.pt fh59 tm (by decide) pr56
                  have s61 := (fh59 m 3 (fun q => absurd q.2 (by decide))).trans s50
                  have s62 := (fh59 m 44 (fun q => absurd q.2 (by decide))).trans s51
                  have s63 := (fh59 m 41 (fun q => absurd q.2 (by decide))).trans s52
                  have s64 := (fh59 m 42 (fun q => absurd q.2 (by decide))).trans s53
                  have s65 := (fh59 m 36 (fun q => absurd q.2 (by decide))).trans s55
                  have s66 := (fh59 m 47 (fun q => absurd q.2 (by decide))).trans efq49_0
                  have s67 := (fh59 m 48 (fun q => absurd q.2 (by decide))).trans efq49_1
                  have s68 := (fh59 m 46 (fun q => absurd q.2 (by decide))).trans efq49_2
                  refine gz_s 1 (pc' := 5) (L' := [some (.ref m), some (.int (zi b)), some (.int (zi p)), some (.int (zi k)), some (.int (zi zq38)), some (.int (zi (zq38 / 16))), some (.int (zi (zq38 % 16))), some (.int (zi zq49))]) (S' := []) rfl ?_
                  exact gz_wk (ihlp2 h59 k fq49_0 fq49_1 fq49_2 (z58 + zq49) (by omega) sh59 (by omega) (by omega) (by omega) (by omega) (by omega) (by omega) (by omega) (by omega) s61 s62 s63 s64 s66 s67 s68 eh59 pr60) (gLw.s (gLw.s (gLw.s (gLw.s (gLw.n (gLw.n (gLw.n (gLw.n gLw.z))))))))
                · refine gy_ifF rfl (by decide) (by decide) (by omega) hc57 ?_
                  exact gz_end (I := .return_) (len := 1) rfl (Or.inl rfl) ⟨sq49, fq49_0, fq49_1, fq49_2, rfl, efq49_0, (by omega), (by omega), efq49_1, (by omega), (by omega), efq49_2, (by omega), (by omega), (by omega), (by omega), (by omega)⟩
              · refine gy_icF rfl (by decide) (by decide) (by omega) (by omega) hc48 ?_
                refine gy_s 6 (pc' := 5) (L' := [some (.ref m), some (.int (zi b)), some (.int (zi p)), some (.int ((zi k) + (zi 16))), some (.int (zi zq38)), some (.int (zi (zq38 / 16))), some (.int (zi (zq38 % 16))), none]) (S' := []) (L2 := [some (.ref m), some (.int (zi b)), some (.int (zi p)), some (.int (zi (k + 16))), some (.int (zi zq38)), some (.int (zi (zq38 / 16))), some (.int (zi (zq38 % 16))), none]) (S2 := []) rfl (by simp only [zi_add, zi_sub, zi_mul, zi_neg, zi_and1, zi_and7, zi_and15, zi_and31, zi_and255]) (by simp only [zi_add, zi_sub, zi_mul, zi_neg, zi_and1, zi_and7, zi_and15, zi_and31, zi_and255]) ?_
                exact gz_wk (ihlp2 hq38 (k + 16) fq38_0 fq38_1 fq38_2 rv (by omega) sq38 (by omega) (by omega) (by omega) (by omega) (by omega) (by omega) (by omega) (by omega) s39 s40 s41 s42 efq38_0 efq38_1 efq38_2 s43 pr45) (gLw.s (gLw.s (gLw.s (gLw.s (gLw.n (gLw.n (gLw.n (gLw.n gLw.z))))))))
            · refine gy_ifF rfl (by decide) (by decide) (by omega) hc47 ?_
              refine gz_s 3 (pc' := 64) (L' := [some (.ref m), some (.int (zi b)), some (.int (zi p)), some (.int (zi k)), some (.int (zi zq38)), some (.int (zi (zq38 / 16))), some (.int (zi (zq38 % 16))), none]) (S' := [.int (zi 10), .int (zi (zq38 % 16)), .ref m]) rfl ?_
              by_cases hc69 : (10 : Int) < zq38 % 16
              · refine gy_icT (pc' := 71) rfl (by decide) (by decide) (by omega) (by omega) hc69 ?_
                refine gz_s 1 (pc' := 72) (L' := [some (.ref m), some (.int (zi b)), some (.int (zi p)), some (.int (zi k)), some (.int (zi zq38)), some (.int (zi (zq38 / 16))), some (.int (zi (zq38 % 16))), none]) (S' := [.int (zi 0), .ref m]) rfl ?_
                refine gz_call rfl (by decide) rfl (by decide) (by decide) (gcal_of rfl rfl rfl (Nat.le_of_ble_eq_true rfl) (gJ.recv (G := gGG) sq38.1 tm rfl rfl)) (mm_keep _ sq38.1 m tm 0 (by omega) fq38_2 efq38_2 (by omega)) (fun q70 _ wq70 => ?_)
                obtain ⟨pq70, oq70, hq70⟩ := q70
                obtain ⟨xq70, fq70_0, gq70, efq70_0, afq70_0, bfq70_0, uq70_0⟩ := wq70
                refine ⟨_, gq70, ?_⟩
                show gz gPP gGG gcn _ _ 75 [some (.ref m), some (.int (zi b)), some (.int (zi p)), some (.int (zi k)), some (.int (zi zq38)), some (.int (zi (zq38 / 16))), some (.int (zi (zq38 % 16))), none] [] hq70 _
                have sq70 := gSs.tr sq38 xq70 (by decide)
                have s71 := (xq70.2.2.2.2.2 m 3 (by rw [tm]; decide)).trans s39
                have s72 := (xq70.2.2.2.2.2 m 44 (by rw [tm]; decide)).trans s40
                have s73 := (xq70.2.2.2.2.2 m 41 (by rw [tm]; decide)).trans s41
                have s74 := (xq70.2.2.2.2.2 m 42 (by rw [tm]; decide)).trans s42
                have s75 := (xq70.2.2.2.2.2 m 45 (by rw [tm]; decide)).trans s43
                have s76 := (xq70.2.2.2.2.2 m 36 (by rw [tm]; decide)).trans s44
                have s77 := (xq70.2.2.2.2.2 m 47 (by rw [tm]; decide)).trans efq38_0
                have s78 := (xq70.2.2.2.2.2 m 48 (by rw [tm]; decide)).trans efq38_1
                have pr79 := gEl.fr xq70.2 (by decide) (fun _ => rfl) pr45
                refine gy_s 5 (pc' := 81) (L' := [some (.ref m), some (.int (zi b)), some (.int (zi p)), some (.int ((zi k) + (zi (zq38 / 16)))), some (.int (zi zq38)), some (.int (zi (zq38 / 16))), some (.int (zi (zq38 % 16))), none]) (S' := [.ref m]) (L2 := [some (.ref m), some (.int (zi b)), some (.int (zi p)), some (.int (zi (k + (zq38 / 16)))), some (.int (zi zq38)), some (.int (zi (zq38 / 16))), some (.int (zi (zq38 % 16))), none]) (S2 := [.ref m]) rfl (by simp only [zi_add, zi_sub, zi_mul, zi_neg, zi_and1, zi_and7, zi_and15, zi_and31, zi_and255]) (by simp only [zi_add, zi_sub, zi_mul, zi_neg, zi_and1, zi_and7, zi_and15, zi_and31, zi_and255]) ?_
                refine gs_gtk rfl (by decide) rfl sq70.1 tm rfl rfl efq70_0 ?_
                by_cases hc80 : (fq70_0 : Int) = 0
                · refine gy_ifT (pc' := 91) rfl (by decide) (by decide) (by omega) hc80 ?_
                  refine gz_s 2 (pc' := 94) (L' := [some (.ref m), some (.int (zi b)), some (.int (zi p)), some (.int (zi (k + (zq38 / 16)))), some (.int (zi zq38)), some (.int (zi (zq38 / 16))), some (.int (zi (zq38 % 16))), none]) (S' := [.int (zi (zq38 % 16)), .ref m]) rfl ?_
                  refine gz_call rfl (by decide) rfl (by decide) (by decide) (gcal_of rfl rfl rfl (Nat.le_of_ble_eq_true rfl) (gJ.recv (G := gGG) sq70.1 tm rfl rfl)) (mm_number _ sq70.1 m tm (zq38 % 16) (by omega) fq38_0 s77 (by omega) fq38_1 s78 (by omega) sz s71 (by omega) fq70_0 efq70_0 (by omega) (by omega)) (fun q81 _ wq81 => ?_)
                  obtain ⟨pq81, oq81, hq81⟩ := q81
                  obtain ⟨xq81, zq81, fq81_0, fq81_1, fq81_2, gq81, aq81, bq81, efq81_0, afq81_0, bfq81_0, efq81_1, afq81_1, bfq81_1, efq81_2, afq81_2, bfq81_2, uq81_0, uq81_1, uq81_2⟩ := wq81
                  refine ⟨_, gq81, ?_⟩
                  show gz gPP gGG gcn _ _ 97 [some (.ref m), some (.int (zi b)), some (.int (zi p)), some (.int (zi (k + (zq38 / 16)))), some (.int (zi zq38)), some (.int (zi (zq38 / 16))), some (.int (zi (zq38 % 16))), none] [.int (zi zq81)] hq81 _
                  have sq81 := gSs.tr sq70 xq81 (by decide)
                  have s82 := (xq81.2.2.2.2.2 m 3 (by rw [tm]; decide)).trans s71
                  have s83 := (xq81.2.2.2.2.2 m 44 (by rw [tm]; decide)).trans s72
                  have s84 := (xq81.2.2.2.2.2 m 41 (by rw [tm]; decide)).trans s73
                  have s85 := (xq81.2.2.2.2.2 m 42 (by rw [tm]; decide)).trans s74
                  have s86 := (xq81.2.2.2.2.2 m 45 (by rw [tm]; decide)).trans s75
                  have s87 := (xq81.2.2.2.2.2 m 36 (by rw [tm]; decide)).trans s76
                  have pr88 := gEl.fr xq81.2 (by decide) (fun _ => rfl) pr79
                  refine gz_s 4 (pc' := 102) (L' := [some (.ref m), some (.int (zi b)), some (.int (zi p)), some (.int (zi (k + (zq38 / 16)))), some (.int (zi zq38)), some (.int (zi (zq38 / 16))), some (.int (zi (zq38 % 16))), some (.int (zi zq81))]) (S' := [.ref m, .int (zi (k + (zq38 / 16))), .ref m]) rfl ?_
                  refine gs_gtk rfl (by decide) rfl sq81.1 tm rfl rfl s85 ?_
                  by_cases hc89 : (tt : Int) < k + (zq38 / 16)
                  · refine gy_icT (pc' := 112) rfl (by decide) (by decide) (by omega) (by omega) hc89 ?_
                    refine gz_s 1 (pc' := 113) (L' := [some (.ref m), some (.int (zi b)), some (.int (zi p)), some (.int (zi (k + (zq38 / 16)))), some (.int (zi zq38)), some (.int (zi (zq38 / 16))), some (.int (zi (zq38 % 16))), some (.int (zi zq81))]) (S' := [.int (zi 0), .ref m]) rfl ?_
                    refine gz_call rfl (by decide) rfl (by decide) (by decide) (gcal_of rfl rfl rfl (Nat.le_of_ble_eq_true rfl) (gJ.recv (G := gGG) sq81.1 tm rfl rfl)) (mm_keep _ sq81.1 m tm 0 (by omega) fq81_2 efq81_2 (by omega)) (fun q90 _ wq90 => ?_)
                    obtain ⟨pq90, oq90, hq90⟩ := q90
                    obtain ⟨xq90, fq90_0, gq90, efq90_0, afq90_0, bfq90_0, uq90_0⟩ := wq90
                    refine ⟨_, gq90, ?_⟩
                    show gz gPP gGG gcn _ _ 116 [some (.ref m), some (.int (zi b)), some (.int (zi p)), some (.int (zi (k + (zq38 / 16)))), some (.int (zi zq38)), some (.int (zi (zq38 / 16))), some (.int (zi (zq38 % 16))), some (.int (zi zq81))] [] hq90 _
                    have sq90 := gSs.tr sq81 xq90 (by decide)
                    have s91 := (xq90.2.2.2.2.2 m 3 (by rw [tm]; decide)).trans s82
                    have s92 := (xq90.2.2.2.2.2 m 44 (by rw [tm]; decide)).trans s83
                    have s93 := (xq90.2.2.2.2.2 m 41 (by rw [tm]; decide)).trans s84
                    have s94 := (xq90.2.2.2.2.2 m 42 (by rw [tm]; decide)).trans s85
                    have s95 := (xq90.2.2.2.2.2 m 45 (by rw [tm]; decide)).trans s86
                    have s96 := (xq90.2.2.2.2.2 m 36 (by rw [tm]; decide)).trans s87
                    have s97 := (xq90.2.2.2.2.2 m 47 (by rw [tm]; decide)).trans efq81_0
                    have s98 := (xq90.2.2.2.2.2 m 48 (by rw [tm]; decide)).trans efq81_1
                    have pr99 := gEl.fr xq90.2 (by decide) (fun _ => rfl) pr88
                    refine gz_s 1 (pc' := 117) (L' := [some (.ref m), some (.int (zi b)), some (.int (zi p)), some (.int (zi (k + (zq38 / 16)))), some (.int (zi zq38)), some (.int (zi (zq38 / 16))), some (.int (zi (zq38 % 16))), some (.int (zi zq81))]) (S' := [.ref m]) rfl ?_
                    refine gs_gtk rfl (by decide) rfl sq90.1 tm rfl rfl efq90_0 ?_
                    by_cases hc100 : (fq90_0 : Int) = 0
                    · refine gy_ifT (pc' := 124) rfl (by decide) (by decide) (by omega) hc100 ?_
                      refine gz_s 1 (pc' := 125) (L' := [some (.ref m), some (.int (zi b)), some (.int (zi p)), some (.int (zi (k + (zq38 / 16)))), some (.int (zi zq38)), some (.int (zi (zq38 / 16))), some (.int (zi (zq38 % 16))), some (.int (zi zq81))]) (S' := [.ref m]) rfl ?_
                      refine gs_gtr rfl (by decide) rfl sq90.1 tm rfl rfl rfl (fun c101 ec101 tc101 => ?_)
                      refine gy_s 5 (pc' := 134) (L' := [some (.ref m), some (.int (zi b)), some (.int (zi p)), some (.int (zi (k + (zq38 / 16)))), some (.int (zi zq38)), some (.int (zi (zq38 / 16))), some (.int (zi (zq38 % 16))), some (.int (zi zq81))]) (S' := [.ref m, .int (zi zq81), .int ((zi p) + (zi (k + (zq38 / 16)))), .ref c101]) (L2 := [some (.ref m), some (.int (zi b)), some (.int (zi p)), some (.int (zi (k + (zq38 / 16)))), some (.int (zi zq38)), some (.int (zi (zq38 / 16))), some (.int (zi (zq38 % 16))), some (.int (zi zq81))]) (S2 := [.ref m, .int (zi zq81), .int (zi (p + (k + (zq38 / 16)))), .ref c101]) rfl (by simp only [zi_add, zi_sub, zi_mul, zi_neg, zi_and1, zi_and7, zi_and15, zi_and31, zi_and255]) (by simp only [zi_add, zi_sub, zi_mul, zi_neg, zi_and1, zi_and7, zi_and15, zi_and31, zi_and255]) ?_
                      refine gs_gtk rfl (by decide) rfl sq90.1 tm rfl rfl s92 ?_
                      refine gy_iiv rfl (by decide) rfl (fun _ _ => rfl) (fun z102 ez102 az102 bz102 => ?_)
                      have hl103 : 12288 ≤ hq90.2.2.2.1 c101 ∧ hq90.2.2.2.1 c101 ≤ 12288 := gJ.rowl (G := gGG) sq90.1 tc101 rfl
                      refine gs_ast rfl (by decide) sq90 tc101 rfl rfl rfl (by decide) (fun _ => rfl) (by omega) (by omega) (fun _ => (by decide : (23999 : Nat) ∈ ([1045, 1046, 1047, 1048, 20999, 23999] : List Nat))) (by omega) (by omega) (fun h104 sh104 eh104 fh104 => ?_)
                      have pr105 := gEl.pt fh104 tc101 (by decide) pr99
                      have s106 := (fh104 m 3 (fun q => absurd (((tm).symm.trans (congrArg ty q.1)).trans tc101) (by decide))).trans s91
                      have s107 := (fh104 m 44 (fun q => absurd (((tm).symm.trans (congrArg ty q.1)).trans tc101) (by decide))).trans s92
                      have s108 := (fh104 m 41 (fun q => absurd (((tm).symm.trans (congrArg ty q.1)).trans tc101) (by decide))).trans s93
                      have s109 := (fh104 m 42 (fun q => absurd (((tm).symm.trans (congrArg ty q.1)).trans tc101) (by decide))).trans s94
                      have s110 := (fh104 m 45 (fun q => absurd (((tm).symm.trans (congrArg ty q.1)).trans tc101) (by decide))).trans s95
                      have s111 := (fh104 m 36 (fun q => absurd (((tm).symm.trans (congrArg ty q.1)).trans tc101) (by decide))).trans s96
                      have s112 := (fh104 m 47 (fun q => absurd (((tm).symm.trans (congrArg ty q.1)).trans tc101) (by decide))).trans s97
                      have s113 := (fh104 m 48 (fun q => absurd (((tm).symm.trans (congrArg ty q.1)).trans tc101) (by decide))).trans s98
                      have s114 := (fh104 m 46 (fun q => absurd (((tm).symm.trans (congrArg ty q.1)).trans tc101) (by decide))).trans efq90_0
                      have s115 := (fh104 m 37 (fun q => absurd (((tm).symm.trans (congrArg ty q.1)).trans tc101) (by decide))).trans ec101
                      refine gy_s 3 (pc' := 5) (L' := [some (.ref m), some (.int (zi b)), some (.int (zi p)), some (.int ((zi (k + (zq38 / 16))) + zi 1)), some (.int (zi zq38)), some (.int (zi (zq38 / 16))), some (.int (zi (zq38 % 16))), some (.int (zi zq81))]) (S' := []) (L2 := [some (.ref m), some (.int (zi b)), some (.int (zi p)), some (.int (zi ((k + (zq38 / 16)) + 1))), some (.int (zi zq38)), some (.int (zi (zq38 / 16))), some (.int (zi (zq38 % 16))), some (.int (zi zq81))]) (S2 := []) rfl (by simp only [zi_add, zi_sub, zi_mul, zi_neg, zi_and1, zi_and7, zi_and15, zi_and31, zi_and255]) (by simp only [zi_add, zi_sub, zi_mul, zi_neg, zi_and1, zi_and7, zi_and15, zi_and31, zi_and255]) ?_
                      exact gz_wk (ihlp2 h104 ((k + (zq38 / 16)) + 1) fq81_0 fq81_1 fq90_0 rv (by omega) sh104 (by omega) (by omega) (by omega) (by omega) (by omega) (by omega) (by omega) (by omega) s106 s107 s108 s109 s112 s113 s114 s110 pr105) (gLw.s (gLw.s (gLw.s (gLw.s (gLw.n (gLw.n (gLw.n (gLw.n gLw.z))))))))
                    · refine gy_ifF rfl (by decide) (by decide) (by omega) hc100 ?_
                      exact gz_end (I := .return_) (len := 1) rfl (Or.inl rfl) ⟨sq90, fq81_0, fq81_1, fq90_0, rfl, s97, (by omega), (by omega), s98, (by omega), (by omega), efq90_0, (by omega), (by omega), (by omega), (by omega), (by omega)⟩
                  · refine gy_icF rfl (by decide) (by decide) (by omega) (by omega) hc89 ?_
                    refine gz_s 2 (pc' := 113) (L' := [some (.ref m), some (.int (zi b)), some (.int (zi p)), some (.int (zi (k + (zq38 / 16)))), some (.int (zi zq38)), some (.int (zi (zq38 / 16))), some (.int (zi (zq38 % 16))), some (.int (zi zq81))]) (S' := [.int (zi 1), .ref m]) rfl ?_
                    refine gz_call rfl (by decide) rfl (by decide) (by decide) (gcal_of rfl rfl rfl (Nat.le_of_ble_eq_true rfl) (gJ.recv (G := gGG) sq81.1 tm rfl rfl)) (mm_keep _ sq81.1 m tm 1 (by omega) fq81_2 efq81_2 (by omega)) (fun q116 _ wq116 => ?_)
                    obtain ⟨pq116, oq116, hq116⟩ := q116
                    obtain ⟨xq116, fq116_0, gq116, efq116_0, afq116_0, bfq116_0, uq116_0⟩ := wq116
                    refine ⟨_, gq116, ?_⟩
                    show gz gPP gGG gcn _ _ 116 [some (.ref m), some (.int (zi b)), some (.int (zi p)), some (.int (zi (k + (zq38 / 16)))), some (.int (zi zq38)), some (.int (zi (zq38 / 16))), some (.int (zi (zq38 % 16))), some (.int (zi zq81))] [] hq116 _
                    have sq116 := gSs.tr sq81 xq116 (by decide)
                    have s117 := (xq116.2.2.2.2.2 m 3 (by rw [tm]; decide)).trans s82
                    have s118 := (xq116.2.2.2.2.2 m 44 (by rw [tm]; decide)).trans s83
                    have s119 := (xq116.2.2.2.2.2 m 41 (by rw [tm]; decide)).trans s84
                    have s120 := (xq116.2.2.2.2.2 m 42 (by rw [tm]; decide)).trans s85
                    have s121 := (xq116.2.2.2.2.2 m 45 (by rw [tm]; decide)).trans s86
                    have s122 := (xq116.2.2.2.2.2 m 36 (by rw [tm]; decide)).trans s87
                    have s123 := (xq116.2.2.2.2.2 m 47 (by rw [tm]; decide)).trans efq81_0
                    have s124 := (xq116.2.2.2.2.2 m 48 (by rw [tm]; decide)).trans efq81_1
                    have pr125 := gEl.fr xq116.2 (by decide) (fun _ => rfl) pr88
                    refine gz_s 1 (pc' := 117) (L' := [some (.ref m), some (.int (zi b)), some (.int (zi p)), some (.int (zi (k + (zq38 / 16)))), some (.int (zi zq38)), some (.int (zi (zq38 / 16))), some (.int (zi (zq38 % 16))), some (.int (zi zq81))]) (S' := [.ref m]) rfl ?_
                    refine gs_gtk rfl (by decide) rfl sq116.1 tm rfl rfl efq116_0 ?_
                    by_cases hc126 : (fq116_0 : Int) = 0
                    · refine gy_ifT (pc' := 124) rfl (by decide) (by decide) (by omega) hc126 ?_
                      refine gz_s 1 (pc' := 125) (L' := [some (.ref m), some (.int (zi b)), some (.int (zi p)), some (.int (zi (k + (zq38 / 16)))), some (.int (zi zq38)), some (.int (zi (zq38 / 16))), some (.int (zi (zq38 % 16))), some (.int (zi zq81))]) (S' := [.ref m]) rfl ?_
                      refine gs_gtr rfl (by decide) rfl sq116.1 tm rfl rfl rfl (fun c127 ec127 tc127 => ?_)
                      refine gy_s 5 (pc' := 134) (L' := [some (.ref m), some (.int (zi b)), some (.int (zi p)), some (.int (zi (k + (zq38 / 16)))), some (.int (zi zq38)), some (.int (zi (zq38 / 16))), some (.int (zi (zq38 % 16))), some (.int (zi zq81))]) (S' := [.ref m, .int (zi zq81), .int ((zi p) + (zi (k + (zq38 / 16)))), .ref c127]) (L2 := [some (.ref m), some (.int (zi b)), some (.int (zi p)), some (.int (zi (k + (zq38 / 16)))), some (.int (zi zq38)), some (.int (zi (zq38 / 16))), some (.int (zi (zq38 % 16))), some (.int (zi zq81))]) (S2 := [.ref m, .int (zi zq81), .int (zi (p + (k + (zq38 / 16)))), .ref c127]) rfl (by simp only [zi_add, zi_sub, zi_mul, zi_neg, zi_and1, zi_and7, zi_and15, zi_and31, zi_and255]) (by simp only [zi_add, zi_sub, zi_mul, zi_neg, zi_and1, zi_and7, zi_and15, zi_and31, zi_and255]) ?_
                      refine gs_gtk rfl (by decide) rfl sq116.1 tm rfl rfl s118 ?_
                      refine gy_iiv rfl (by decide) rfl (fun _ _ => rfl) (fun z128 ez128 az128 bz128 => ?_)
                      have hl129 : 12288 ≤ hq116.2.2.2.1 c127 ∧ hq116.2.2.2.1 c127 ≤ 12288 := gJ.rowl (G := gGG) sq116.1 tc127 rfl
                      refine gs_ast rfl (by decide) sq116 tc127 rfl rfl rfl (by decide) (fun _ => rfl) (by omega) (by omega) (fun _ => (by decide : (23999 : Nat) ∈ ([1045, 1046, 1047, 1048, 20999, 23999] : List Nat))) (by omega) (by omega) (fun h130 sh130 eh130 fh130 => ?_)
                      have pr131 := gEl.pt fh130 tc127 (by decide) pr125
                      have s132 := (fh130 m 3 (fun q => absurd (((tm).symm.trans (congrArg ty q.1)).trans tc127) (by decide))).trans s117
                      have s133 := (fh130 m 44 (fun q => absurd (((tm).symm.trans (congrArg ty q.1)).trans tc127) (by decide))).trans s118
                      have s134 := (fh130 m 41 (fun q => absurd (((tm).symm.trans (congrArg ty q.1)).trans tc127) (by decide))).trans s119
                      have s135 := (fh130 m 42 (fun q => absurd (((tm).symm.trans (congrArg ty q.1)).trans tc127) (by decide))).trans s120
                      have s136 := (fh130 m 45 (fun q => absurd (((tm).symm.trans (congrArg ty q.1)).trans tc127) (by decide))).trans s121
                      have s137 := (fh130 m 36 (fun q => absurd (((tm).symm.trans (congrArg ty q.1)).trans tc127) (by decide))).trans s122
                      have s138 := (fh130 m 47 (fun q => absurd (((tm).symm.trans (congrArg ty q.1)).trans tc127) (by decide))).trans s123
                      have s139 := (fh130 m 48 (fun q => absurd (((tm).symm.trans (congrArg ty q.1)).trans tc127) (by decide))).trans s124
                      have s140 := (fh130 m 46 (fun q => absurd (((tm).symm.trans (congrArg ty q.1)).trans tc127) (by decide))).trans efq116_0
                      have s141 := (fh130 m 37 (fun q => absurd (((tm).symm.trans (congrArg ty q.1)).trans tc127) (by decide))).trans ec127
                      refine gy_s 3 (pc' := 5) (L' := [some (.ref m), some (.int (zi b)), some (.int (zi p)), some (.int ((zi (k + (zq38 / 16))) + zi 1)), some (.int (zi zq38)), some (.int (zi (zq38 / 16))), some (.int (zi (zq38 % 16))), some (.int (zi zq81))]) (S' := []) (L2 := [some (.ref m), some (.int (zi b)), some (.int (zi p)), some (.int (zi ((k + (zq38 / 16)) + 1))), some (.int (zi zq38)), some (.int (zi (zq38 / 16))), some (.int (zi (zq38 % 16))), some (.int (zi zq81))]) (S2 := []) rfl (by simp only [zi_add, zi_sub, zi_mul, zi_neg, zi_and1, zi_and7, zi_and15, zi_and31, zi_and255]) (by simp only [zi_add, zi_sub, zi_mul, zi_neg, zi_and1, zi_and7, zi_and15, zi_and31, zi_and255]) ?_
                      exact gz_wk (ihlp2 h130 ((k + (zq38 / 16)) + 1) fq81_0 fq81_1 fq116_0 rv (by omega) sh130 (by omega) (by omega) (by omega) (by omega) (by omega) (by omega) (by omega) (by omega) s132 s133 s134 s135 s138 s139 s140 s136 pr131) (gLw.s (gLw.s (gLw.s (gLw.s (gLw.n (gLw.n (gLw.n (gLw.n gLw.z))))))))
                    · refine gy_ifF rfl (by decide) (by decide) (by omega) hc126 ?_
                      exact gz_end (I := .return_) (len := 1) rfl (Or.inl rfl) ⟨sq116, fq81_0, fq81_1, fq116_0, rfl, s123, (by omega), (by omega), s124, (by omega), (by omega), efq116_0, (by omega), (by omega), (by omega), (by omega), (by omega)⟩
                · refine gy_ifF rfl (by decide) (by decide) (by omega) hc80 ?_
                  refine gz_s 6 (pc' := 102) (L' := [some (.ref m), some (.int (zi b)), some (.int (zi p)), some (.int (zi (k + (zq38 / 16)))), some (.int (zi zq38)), some (.int (zi (zq38 / 16))), some (.int (zi (zq38 % 16))), some (.int (zi 0))]) (S' := [.ref m, .int (zi (k + (zq38 / 16))), .ref m]) rfl ?_
                  refine gs_gtk rfl (by decide) rfl sq70.1 tm rfl rfl s74 ?_
                  by_cases hc142 : (tt : Int) < k + (zq38 / 16)
                  · refine gy_icT (pc' := 112) rfl (by decide) (by decide) (by omega) (by omega) hc142 ?_
                    refine gz_s 1 (pc' := 113) (L' := [some (.ref m), some (.int (zi b)), some (.int (zi p)), some (.int (zi (k + (zq38 / 16)))), some (.int (zi zq38)), some (.int (zi (zq38 / 16))), some (.int (zi (zq38 % 16))), some (.int (zi 0))]) (S' := [.int (zi 0), .ref m]) rfl ?_
                    refine gz_call rfl (by decide) rfl (by decide) (by decide) (gcal_of rfl rfl rfl (Nat.le_of_ble_eq_true rfl) (gJ.recv (G := gGG) sq70.1 tm rfl rfl)) (mm_keep _ sq70.1 m tm 0 (by omega) fq70_0 efq70_0 (by omega)) (fun q143 _ wq143 => ?_)
                    obtain ⟨pq143, oq143, hq143⟩ := q143
                    obtain ⟨xq143, fq143_0, gq143, efq143_0, afq143_0, bfq143_0, uq143_0⟩ := wq143
                    refine ⟨_, gq143, ?_⟩
                    show gz gPP gGG gcn _ _ 116 [some (.ref m), some (.int (zi b)), some (.int (zi p)), some (.int (zi (k + (zq38 / 16)))), some (.int (zi zq38)), some (.int (zi (zq38 / 16))), some (.int (zi (zq38 % 16))), some (.int (zi 0))] [] hq143 _
                    have sq143 := gSs.tr sq70 xq143 (by decide)
                    have s144 := (xq143.2.2.2.2.2 m 3 (by rw [tm]; decide)).trans s71
                    have s145 := (xq143.2.2.2.2.2 m 44 (by rw [tm]; decide)).trans s72
                    have s146 := (xq143.2.2.2.2.2 m 41 (by rw [tm]; decide)).trans s73
                    have s147 := (xq143.2.2.2.2.2 m 42 (by rw [tm]; decide)).trans s74
                    have s148 := (xq143.2.2.2.2.2 m 45 (by rw [tm]; decide)).trans s75
                    have s149 := (xq143.2.2.2.2.2 m 36 (by rw [tm]; decide)).trans s76
                    have s150 := (xq143.2.2.2.2.2 m 47 (by rw [tm]; decide)).trans s77
                    have s151 := (xq143.2.2.2.2.2 m 48 (by rw [tm]; decide)).trans s78
                    have pr152 := gEl.fr xq143.2 (by decide) (fun _ => rfl) pr79
                    refine gz_s 1 (pc' := 117) (L' := [some (.ref m), some (.int (zi b)), some (.int (zi p)), some (.int (zi (k + (zq38 / 16)))), some (.int (zi zq38)), some (.int (zi (zq38 / 16))), some (.int (zi (zq38 % 16))), some (.int (zi 0))]) (S' := [.ref m]) rfl ?_
                    refine gs_gtk rfl (by decide) rfl sq143.1 tm rfl rfl efq143_0 ?_
                    by_cases hc153 : (fq143_0 : Int) = 0
                    · refine gy_ifT (pc' := 124) rfl (by decide) (by decide) (by omega) hc153 ?_
                      refine gz_s 1 (pc' := 125) (L' := [some (.ref m), some (.int (zi b)), some (.int (zi p)), some (.int (zi (k + (zq38 / 16)))), some (.int (zi zq38)), some (.int (zi (zq38 / 16))), some (.int (zi (zq38 % 16))), some (.int (zi 0))]) (S' := [.ref m]) rfl ?_
                      refine gs_gtr rfl (by decide) rfl sq143.1 tm rfl rfl rfl (fun c154 ec154 tc154 => ?_)
                      refine gy_s 5 (pc' := 134) (L' := [some (.ref m), some (.int (zi b)), some (.int (zi p)), some (.int (zi (k + (zq38 / 16)))), some (.int (zi zq38)), some (.int (zi (zq38 / 16))), some (.int (zi (zq38 % 16))), some (.int (zi 0))]) (S' := [.ref m, .int (zi 0), .int ((zi p) + (zi (k + (zq38 / 16)))), .ref c154]) (L2 := [some (.ref m), some (.int (zi b)), some (.int (zi p)), some (.int (zi (k + (zq38 / 16)))), some (.int (zi zq38)), some (.int (zi (zq38 / 16))), some (.int (zi (zq38 % 16))), some (.int (zi 0))]) (S2 := [.ref m, .int (zi 0), .int (zi (p + (k + (zq38 / 16)))), .ref c154]) rfl (by simp only [zi_add, zi_sub, zi_mul, zi_neg, zi_and1, zi_and7, zi_and15, zi_and31, zi_and255]) (by simp only [zi_add, zi_sub, zi_mul, zi_neg, zi_and1, zi_and7, zi_and15, zi_and31, zi_and255]) ?_
                      refine gs_gtk rfl (by decide) rfl sq143.1 tm rfl rfl s145 ?_
                      refine gy_iiv rfl (by decide) rfl (fun _ _ => rfl) (fun z155 ez155 az155 bz155 => ?_)
                      have hl156 : 12288 ≤ hq143.2.2.2.1 c154 ∧ hq143.2.2.2.1 c154 ≤ 12288 := gJ.rowl (G := gGG) sq143.1 tc154 rfl
                      refine gs_ast rfl (by decide) sq143 tc154 rfl rfl rfl (by decide) (fun _ => rfl) (by omega) (by omega) (fun _ => (by decide : (23999 : Nat) ∈ ([1045, 1046, 1047, 1048, 20999, 23999] : List Nat))) (by omega) (by omega) (fun h157 sh157 eh157 fh157 => ?_)
                      have pr158 := gEl.pt fh157 tc154 (by decide) pr152
                      have s159 := (fh157 m 3 (fun q => absurd (((tm).symm.trans (congrArg ty q.1)).trans tc154) (by decide))).trans s144
                      have s160 := (fh157 m 44 (fun q => absurd (((tm).symm.trans (congrArg ty q.1)).trans tc154) (by decide))).trans s145
                      have s161 := (fh157 m 41 (fun q => absurd (((tm).symm.trans (congrArg ty q.1)).trans tc154) (by decide))).trans s146
                      have s162 := (fh157 m 42 (fun q => absurd (((tm).symm.trans (congrArg ty q.1)).trans tc154) (by decide))).trans s147
                      have s163 := (fh157 m 45 (fun q => absurd (((tm).symm.trans (congrArg ty q.1)).trans tc154) (by decide))).trans s148
                      have s164 := (fh157 m 36 (fun q => absurd (((tm).symm.trans (congrArg ty q.1)).trans tc154) (by decide))).trans s149
                      have s165 := (fh157 m 47 (fun q => absurd (((tm).symm.trans (congrArg ty q.1)).trans tc154) (by decide))).trans s150
                      have s166 := (fh157 m 48 (fun q => absurd (((tm).symm.trans (congrArg ty q.1)).trans tc154) (by decide))).trans s151
                      have s167 := (fh157 m 46 (fun q => absurd (((tm).symm.trans (congrArg ty q.1)).trans tc154) (by decide))).trans efq143_0
                      have s168 := (fh157 m 37 (fun q => absurd (((tm).symm.trans (congrArg ty q.1)).trans tc154) (by decide))).trans ec154
                      refine gy_s 3 (pc' := 5) (L' := [some (.ref m), some (.int (zi b)), some (.int (zi p)), some (.int ((zi (k + (zq38 / 16))) + zi 1)), some (.int (zi zq38)), some (.int (zi (zq38 / 16))), some (.int (zi (zq38 % 16))), some (.int (zi 0))]) (S' := []) (L2 := [some (.ref m), some (.int (zi b)), some (.int (zi p)), some (.int (zi ((k + (zq38 / 16)) + 1))), some (.int (zi zq38)), some (.int (zi (zq38 / 16))), some (.int (zi (zq38 % 16))), some (.int (zi 0))]) (S2 := []) rfl (by simp only [zi_add, zi_sub, zi_mul, zi_neg, zi_and1, zi_and7, zi_and15, zi_and31, zi_and255]) (by simp only [zi_add, zi_sub, zi_mul, zi_neg, zi_and1, zi_and7, zi_and15, zi_and31, zi_and255]) ?_
                      exact gz_wk (ihlp2 h157 ((k + (zq38 / 16)) + 1) fq38_0 fq38_1 fq143_0 rv (by omega) sh157 (by omega) (by omega) (by omega) (by omega) (by omega) (by omega) (by omega) (by omega) s159 s160 s161 s162 s165 s166 s167 s163 pr158) (gLw.s (gLw.s (gLw.s (gLw.s (gLw.n (gLw.n (gLw.n (gLw.n gLw.z))))))))
                    · refine gy_ifF rfl (by decide) (by decide) (by omega) hc153 ?_
                      exact gz_end (I := .return_) (len := 1) rfl (Or.inl rfl) ⟨sq143, fq38_0, fq38_1, fq143_0, rfl, s150, (by omega), (by omega), s151, (by omega), (by omega), efq143_0, (by omega), (by omega), (by omega), (by omega), (by omega)⟩
                  · refine gy_icF rfl (by decide) (by decide) (by omega) (by omega) hc142 ?_
                    refine gz_s 2 (pc' := 113) (L' := [some (.ref m), some (.int (zi b)), some (.int (zi p)), some (.int (zi (k + (zq38 / 16)))), some (.int (zi zq38)), some (.int (zi (zq38 / 16))), some (.int (zi (zq38 % 16))), some (.int (zi 0))]) (S' := [.int (zi 1), .ref m]) rfl ?_
                    refine gz_call rfl (by decide) rfl (by decide) (by decide) (gcal_of rfl rfl rfl (Nat.le_of_ble_eq_true rfl) (gJ.recv (G := gGG) sq70.1 tm rfl rfl)) (mm_keep _ sq70.1 m tm 1 (by omega) fq70_0 efq70_0 (by omega)) (fun q169 _ wq169 => ?_)
                    obtain ⟨pq169, oq169, hq169⟩ := q169
                    obtain ⟨xq169, fq169_0, gq169, efq169_0, afq169_0, bfq169_0, uq169_0⟩ := wq169
                    refine ⟨_, gq169, ?_⟩
                    show gz gPP gGG gcn _ _ 116 [some (.ref m), some (.int (zi b)), some (.int (zi p)), some (.int (zi (k + (zq38 / 16)))), some (.int (zi zq38)), some (.int (zi (zq38 / 16))), some (.int (zi (zq38 % 16))), some (.int (zi 0))] [] hq169 _
                    have sq169 := gSs.tr sq70 xq169 (by decide)
                    have s170 := (xq169.2.2.2.2.2 m 3 (by rw [tm]; decide)).trans s71
                    have s171 := (xq169.2.2.2.2.2 m 44 (by rw [tm]; decide)).trans s72
                    have s172 := (xq169.2.2.2.2.2 m 41 (by rw [tm]; decide)).trans s73
                    have s173 := (xq169.2.2.2.2.2 m 42 (by rw [tm]; decide)).trans s74
                    have s174 := (xq169.2.2.2.2.2 m 45 (by rw [tm]; decide)).trans s75
                    have s175 := (xq169.2.2.2.2.2 m 36 (by rw [tm]; decide)).trans s76
                    have s176 := (xq169.2.2.2.2.2 m 47 (by rw [tm]; decide)).trans s77
                    have s177 := (xq169.2.2.2.2.2 m 48 (by rw [tm]; decide)).trans s78
                    have pr178 := gEl.fr xq169.2 (by decide) (fun _ => rfl) pr79
                    refine gz_s 1 (pc' := 117) (L' := [some (.ref m), some (.int (zi b)), some (.int (zi p)), some (.int (zi (k + (zq38 / 16)))), some (.int (zi zq38)), some (.int (zi (zq38 / 16))), some (.int (zi (zq38 % 16))), some (.int (zi 0))]) (S' := [.ref m]) rfl ?_
                    refine gs_gtk rfl (by decide) rfl sq169.1 tm rfl rfl efq169_0 ?_
                    by_cases hc179 : (fq169_0 : Int) = 0
                    · refine gy_ifT (pc' := 124) rfl (by decide) (by decide) (by omega) hc179 ?_
                      refine gz_s 1 (pc' := 125) (L' := [some (.ref m), some (.int (zi b)), some (.int (zi p)), some (.int (zi (k + (zq38 / 16)))), some (.int (zi zq38)), some (.int (zi (zq38 / 16))), some (.int (zi (zq38 % 16))), some (.int (zi 0))]) (S' := [.ref m]) rfl ?_
                      refine gs_gtr rfl (by decide) rfl sq169.1 tm rfl rfl rfl (fun c180 ec180 tc180 => ?_)
                      refine gy_s 5 (pc' := 134) (L' := [some (.ref m), some (.int (zi b)), some (.int (zi p)), some (.int (zi (k + (zq38 / 16)))), some (.int (zi zq38)), some (.int (zi (zq38 / 16))), some (.int (zi (zq38 % 16))), some (.int (zi 0))]) (S' := [.ref m, .int (zi 0), .int ((zi p) + (zi (k + (zq38 / 16)))), .ref c180]) (L2 := [some (.ref m), some (.int (zi b)), some (.int (zi p)), some (.int (zi (k + (zq38 / 16)))), some (.int (zi zq38)), some (.int (zi (zq38 / 16))), some (.int (zi (zq38 % 16))), some (.int (zi 0))]) (S2 := [.ref m, .int (zi 0), .int (zi (p + (k + (zq38 / 16)))), .ref c180]) rfl (by simp only [zi_add, zi_sub, zi_mul, zi_neg, zi_and1, zi_and7, zi_and15, zi_and31, zi_and255]) (by simp only [zi_add, zi_sub, zi_mul, zi_neg, zi_and1, zi_and7, zi_and15, zi_and31, zi_and255]) ?_
                      refine gs_gtk rfl (by decide) rfl sq169.1 tm rfl rfl s171 ?_
                      refine gy_iiv rfl (by decide) rfl (fun _ _ => rfl) (fun z181 ez181 az181 bz181 => ?_)
                      have hl182 : 12288 ≤ hq169.2.2.2.1 c180 ∧ hq169.2.2.2.1 c180 ≤ 12288 := gJ.rowl (G := gGG) sq169.1 tc180 rfl
                      refine gs_ast rfl (by decide) sq169 tc180 rfl rfl rfl (by decide) (fun _ => rfl) (by omega) (by omega) (fun _ => (by decide : (23999 : Nat) ∈ ([1045, 1046, 1047, 1048, 20999, 23999] : List Nat))) (by omega) (by omega) (fun h183 sh183 eh183 fh183 => ?_)
                      have pr184 := gEl.pt fh183 tc180 (by decide) pr178
                      have s185 := (fh183 m 3 (fun q => absurd (((tm).symm.trans (congrArg ty q.1)).trans tc180) (by decide))).trans s170
                      have s186 := (fh183 m 44 (fun q => absurd (((tm).symm.trans (congrArg ty q.1)).trans tc180) (by decide))).trans s171
                      have s187 := (fh183 m 41 (fun q => absurd (((tm).symm.trans (congrArg ty q.1)).trans tc180) (by decide))).trans s172
                      have s188 := (fh183 m 42 (fun q => absurd (((tm).symm.trans (congrArg ty q.1)).trans tc180) (by decide))).trans s173
                      have s189 := (fh183 m 45 (fun q => absurd (((tm).symm.trans (congrArg ty q.1)).trans tc180) (by decide))).trans s174
                      have s190 := (fh183 m 36 (fun q => absurd (((tm).symm.trans (congrArg ty q.1)).trans tc180) (by decide))).trans s175
                      have s191 := (fh183 m 47 (fun q => absurd (((tm).symm.trans (congrArg ty q.1)).trans tc180) (by decide))).trans s176
                      have s192 := (fh183 m 48 (fun q => absurd (((tm).symm.trans (congrArg ty q.1)).trans tc180) (by decide))).trans s177
                      have s193 := (fh183 m 46 (fun q => absurd (((tm).symm.trans (congrArg ty q.1)).trans tc180) (by decide))).trans efq169_0
                      have s194 := (fh183 m 37 (fun q => absurd (((tm).symm.trans (congrArg ty q.1)).trans tc180) (by decide))).trans ec180
                      refine gy_s 3 (pc' := 5) (L' := [some (.ref m), some (.int (zi b)), some (.int (zi p)), some (.int ((zi (k + (zq38 / 16))) + zi 1)), some (.int (zi zq38)), some (.int (zi (zq38 / 16))), some (.int (zi (zq38 % 16))), some (.int (zi 0))]) (S' := []) (L2 := [some (.ref m), some (.int (zi b)), some (.int (zi p)), some (.int (zi ((k + (zq38 / 16)) + 1))), some (.int (zi zq38)), some (.int (zi (zq38 / 16))), some (.int (zi (zq38 % 16))), some (.int (zi 0))]) (S2 := []) rfl (by simp only [zi_add, zi_sub, zi_mul, zi_neg, zi_and1, zi_and7, zi_and15, zi_and31, zi_and255]) (by simp only [zi_add, zi_sub, zi_mul, zi_neg, zi_and1, zi_and7, zi_and15, zi_and31, zi_and255]) ?_
                      exact gz_wk (ihlp2 h183 ((k + (zq38 / 16)) + 1) fq38_0 fq38_1 fq169_0 rv (by omega) sh183 (by omega) (by omega) (by omega) (by omega) (by omega) (by omega) (by omega) (by omega) s185 s186 s187 s188 s191 s192 s193 s189 pr184) (gLw.s (gLw.s (gLw.s (gLw.s (gLw.n (gLw.n (gLw.n (gLw.n gLw.z))))))))
                    · refine gy_ifF rfl (by decide) (by decide) (by omega) hc179 ?_
                      exact gz_end (I := .return_) (len := 1) rfl (Or.inl rfl) ⟨sq169, fq38_0, fq38_1, fq169_0, rfl, s176, (by omega), (by omega), s177, (by omega), (by omega), efq169_0, (by omega), (by omega), (by omega), (by omega), (by omega)⟩
              · refine gy_icF rfl (by decide) (by decide) (by omega) (by omega) hc69 ?_
                refine gz_s 2 (pc' := 72) (L' := [some (.ref m), some (.int (zi b)), some (.int (zi p)), some (.int (zi k)), some (.int (zi zq38)), some (.int (zi (zq38 / 16))), some (.int (zi (zq38 % 16))), none]) (S' := [.int (zi 1), .ref m]) rfl ?_
                refine gz_call rfl (by decide) rfl (by decide) (by decide) (gcal_of rfl rfl rfl (Nat.le_of_ble_eq_true rfl) (gJ.recv (G := gGG) sq38.1 tm rfl rfl)) (mm_keep _ sq38.1 m tm 1 (by omega) fq38_2 efq38_2 (by omega)) (fun q195 _ wq195 => ?_)
                obtain ⟨pq195, oq195, hq195⟩ := q195
                obtain ⟨xq195, fq195_0, gq195, efq195_0, afq195_0, bfq195_0, uq195_0⟩ := wq195
                refine ⟨_, gq195, ?_⟩
                show gz gPP gGG gcn _ _ 75 [some (.ref m), some (.int (zi b)), some (.int (zi p)), some (.int (zi k)), some (.int (zi zq38)), some (.int (zi (zq38 / 16))), some (.int (zi (zq38 % 16))), none] [] hq195 _
                have sq195 := gSs.tr sq38 xq195 (by decide)
                have s196 := (xq195.2.2.2.2.2 m 3 (by rw [tm]; decide)).trans s39
                have s197 := (xq195.2.2.2.2.2 m 44 (by rw [tm]; decide)).trans s40
                have s198 := (xq195.2.2.2.2.2 m 41 (by rw [tm]; decide)).trans s41
                have s199 := (xq195.2.2.2.2.2 m 42 (by rw [tm]; decide)).trans s42
                have s200 := (xq195.2.2.2.2.2 m 45 (by rw [tm]; decide)).trans s43
                have s201 := (xq195.2.2.2.2.2 m 36 (by rw [tm]; decide)).trans s44
                have s202 := (xq195.2.2.2.2.2 m 47 (by rw [tm]; decide)).trans efq38_0
                have s203 := (xq195.2.2.2.2.2 m 48 (by rw [tm]; decide)).trans efq38_1
                have pr204 := gEl.fr xq195.2 (by decide) (fun _ => rfl) pr45
                refine gy_s 5 (pc' := 81) (L' := [some (.ref m), some (.int (zi b)), some (.int (zi p)), some (.int ((zi k) + (zi (zq38 / 16)))), some (.int (zi zq38)), some (.int (zi (zq38 / 16))), some (.int (zi (zq38 % 16))), none]) (S' := [.ref m]) (L2 := [some (.ref m), some (.int (zi b)), some (.int (zi p)), some (.int (zi (k + (zq38 / 16)))), some (.int (zi zq38)), some (.int (zi (zq38 / 16))), some (.int (zi (zq38 % 16))), none]) (S2 := [.ref m]) rfl (by simp only [zi_add, zi_sub, zi_mul, zi_neg, zi_and1, zi_and7, zi_and15, zi_and31, zi_and255]) (by simp only [zi_add, zi_sub, zi_mul, zi_neg, zi_and1, zi_and7, zi_and15, zi_and31, zi_and255]) ?_
                refine gs_gtk rfl (by decide) rfl sq195.1 tm rfl rfl efq195_0 ?_
                by_cases hc205 : (fq195_0 : Int) = 0
                · refine gy_ifT (pc' := 91) rfl (by decide) (by decide) (by omega) hc205 ?_
                  refine gz_s 2 (pc' := 94) (L' := [some (.ref m), some (.int (zi b)), some (.int (zi p)), some (.int (zi (k + (zq38 / 16)))), some (.int (zi zq38)), some (.int (zi (zq38 / 16))), some (.int (zi (zq38 % 16))), none]) (S' := [.int (zi (zq38 % 16)), .ref m]) rfl ?_
                  refine gz_call rfl (by decide) rfl (by decide) (by decide) (gcal_of rfl rfl rfl (Nat.le_of_ble_eq_true rfl) (gJ.recv (G := gGG) sq195.1 tm rfl rfl)) (mm_number _ sq195.1 m tm (zq38 % 16) (by omega) fq38_0 s202 (by omega) fq38_1 s203 (by omega) sz s196 (by omega) fq195_0 efq195_0 (by omega) (by omega)) (fun q206 _ wq206 => ?_)
                  obtain ⟨pq206, oq206, hq206⟩ := q206
                  obtain ⟨xq206, zq206, fq206_0, fq206_1, fq206_2, gq206, aq206, bq206, efq206_0, afq206_0, bfq206_0, efq206_1, afq206_1, bfq206_1, efq206_2, afq206_2, bfq206_2, uq206_0, uq206_1, uq206_2⟩ := wq206
                  refine ⟨_, gq206, ?_⟩
                  show gz gPP gGG gcn _ _ 97 [some (.ref m), some (.int (zi b)), some (.int (zi p)), some (.int (zi (k + (zq38 / 16)))), some (.int (zi zq38)), some (.int (zi (zq38 / 16))), some (.int (zi (zq38 % 16))), none] [.int (zi zq206)] hq206 _
                  have sq206 := gSs.tr sq195 xq206 (by decide)
                  have s207 := (xq206.2.2.2.2.2 m 3 (by rw [tm]; decide)).trans s196
                  have s208 := (xq206.2.2.2.2.2 m 44 (by rw [tm]; decide)).trans s197
                  have s209 := (xq206.2.2.2.2.2 m 41 (by rw [tm]; decide)).trans s198
                  have s210 := (xq206.2.2.2.2.2 m 42 (by rw [tm]; decide)).trans s199
                  have s211 := (xq206.2.2.2.2.2 m 45 (by rw [tm]; decide)).trans s200
                  have s212 := (xq206.2.2.2.2.2 m 36 (by rw [tm]; decide)).trans s201
                  have pr213 := gEl.fr xq206.2 (by decide) (fun _ => rfl) pr204
                  refine gz_s 4 (pc' := 102) (L' := [some (.ref m), some (.int (zi b)), some (.int (zi p)), some (.int (zi (k + (zq38 / 16)))), some (.int (zi zq38)), some (.int (zi (zq38 / 16))), some (.int (zi (zq38 % 16))), some (.int (zi zq206))]) (S' := [.ref m, .int (zi (k + (zq38 / 16))), .ref m]) rfl ?_
                  refine gs_gtk rfl (by decide) rfl sq206.1 tm rfl rfl s210 ?_
                  by_cases hc214 : (tt : Int) < k + (zq38 / 16)
                  · refine gy_icT (pc' := 112) rfl (by decide) (by decide) (by omega) (by omega) hc214 ?_
                    refine gz_s 1 (pc' := 113) (L' := [some (.ref m), some (.int (zi b)), some (.int (zi p)), some (.int (zi (k + (zq38 / 16)))), some (.int (zi zq38)), some (.int (zi (zq38 / 16))), some (.int (zi (zq38 % 16))), some (.int (zi zq206))]) (S' := [.int (zi 0), .ref m]) rfl ?_
                    refine gz_call rfl (by decide) rfl (by decide) (by decide) (gcal_of rfl rfl rfl (Nat.le_of_ble_eq_true rfl) (gJ.recv (G := gGG) sq206.1 tm rfl rfl)) (mm_keep _ sq206.1 m tm 0 (by omega) fq206_2 efq206_2 (by omega)) (fun q215 _ wq215 => ?_)
                    obtain ⟨pq215, oq215, hq215⟩ := q215
                    obtain ⟨xq215, fq215_0, gq215, efq215_0, afq215_0, bfq215_0, uq215_0⟩ := wq215
                    refine ⟨_, gq215, ?_⟩
                    show gz gPP gGG gcn _ _ 116 [some (.ref m), some (.int (zi b)), some (.int (zi p)), some (.int (zi (k + (zq38 / 16)))), some (.int (zi zq38)), some (.int (zi (zq38 / 16))), some (.int (zi (zq38 % 16))), some (.int (zi zq206))] [] hq215 _
                    have sq215 := gSs.tr sq206 xq215 (by decide)
                    have s216 := (xq215.2.2.2.2.2 m 3 (by rw [tm]; decide)).trans s207
                    have s217 := (xq215.2.2.2.2.2 m 44 (by rw [tm]; decide)).trans s208
                    have s218 := (xq215.2.2.2.2.2 m 41 (by rw [tm]; decide)).trans s209
                    have s219 := (xq215.2.2.2.2.2 m 42 (by rw [tm]; decide)).trans s210
                    have s220 := (xq215.2.2.2.2.2 m 45 (by rw [tm]; decide)).trans s211
                    have s221 := (xq215.2.2.2.2.2 m 36 (by rw [tm]; decide)).trans s212
                    have s222 := (xq215.2.2.2.2.2 m 47 (by rw [tm]; decide)).trans efq206_0
                    have s223 := (xq215.2.2.2.2.2 m 48 (by rw [tm]; decide)).trans efq206_1
                    have pr224 := gEl.fr xq215.2 (by decide) (fun _ => rfl) pr213
                    refine gz_s 1 (pc' := 117) (L' := [some (.ref m), some (.int (zi b)), some (.int (zi p)), some (.int (zi (k + (zq38 / 16)))), some (.int (zi zq38)), some (.int (zi (zq38 / 16))), some (.int (zi (zq38 % 16))), some (.int (zi zq206))]) (S' := [.ref m]) rfl ?_
                    refine gs_gtk rfl (by decide) rfl sq215.1 tm rfl rfl efq215_0 ?_
                    by_cases hc225 : (fq215_0 : Int) = 0
                    · refine gy_ifT (pc' := 124) rfl (by decide) (by decide) (by omega) hc225 ?_
                      refine gz_s 1 (pc' := 125) (L' := [some (.ref m), some (.int (zi b)), some (.int (zi p)), some (.int (zi (k + (zq38 / 16)))), some (.int (zi zq38)), some (.int (zi (zq38 / 16))), some (.int (zi (zq38 % 16))), some (.int (zi zq206))]) (S' := [.ref m]) rfl ?_
                      refine gs_gtr rfl (by decide) rfl sq215.1 tm rfl rfl rfl (fun c226 ec226 tc226 => ?_)
                      refine gy_s 5 (pc' := 134) (L' := [some (.ref m), some (.int (zi b)), some (.int (zi p)), some (.int (zi (k + (zq38 / 16)))), some (.int (zi zq38)), some (.int (zi (zq38 / 16))), some (.int (zi (zq38 % 16))), some (.int (zi zq206))]) (S' := [.ref m, .int (zi zq206), .int ((zi p) + (zi (k + (zq38 / 16)))), .ref c226]) (L2 := [some (.ref m), some (.int (zi b)), some (.int (zi p)), some (.int (zi (k + (zq38 / 16)))), some (.int (zi zq38)), some (.int (zi (zq38 / 16))), some (.int (zi (zq38 % 16))), some (.int (zi zq206))]) (S2 := [.ref m, .int (zi zq206), .int (zi (p + (k + (zq38 / 16)))), .ref c226]) rfl (by simp only [zi_add, zi_sub, zi_mul, zi_neg, zi_and1, zi_and7, zi_and15, zi_and31, zi_and255]) (by simp only [zi_add, zi_sub, zi_mul, zi_neg, zi_and1, zi_and7, zi_and15, zi_and31, zi_and255]) ?_
                      refine gs_gtk rfl (by decide) rfl sq215.1 tm rfl rfl s217 ?_
                      refine gy_iiv rfl (by decide) rfl (fun _ _ => rfl) (fun z227 ez227 az227 bz227 => ?_)
                      have hl228 : 12288 ≤ hq215.2.2.2.1 c226 ∧ hq215.2.2.2.1 c226 ≤ 12288 := gJ.rowl (G := gGG) sq215.1 tc226 rfl
                      refine gs_ast rfl (by decide) sq215 tc226 rfl rfl rfl (by decide) (fun _ => rfl) (by omega) (by omega) (fun _ => (by decide : (23999 : Nat) ∈ ([1045, 1046, 1047, 1048, 20999, 23999] : List Nat))) (by omega) (by omega) (fun h229 sh229 eh229 fh229 => ?_)
                      have pr230 := gEl.pt fh229 tc226 (by decide) pr224
                      have s231 := (fh229 m 3 (fun q => absurd (((tm).symm.trans (congrArg ty q.1)).trans tc226) (by decide))).trans s216
                      have s232 := (fh229 m 44 (fun q => absurd (((tm).symm.trans (congrArg ty q.1)).trans tc226) (by decide))).trans s217
                      have s233 := (fh229 m 41 (fun q => absurd (((tm).symm.trans (congrArg ty q.1)).trans tc226) (by decide))).trans s218
                      have s234 := (fh229 m 42 (fun q => absurd (((tm).symm.trans (congrArg ty q.1)).trans tc226) (by decide))).trans s219
                      have s235 := (fh229 m 45 (fun q => absurd (((tm).symm.trans (congrArg ty q.1)).trans tc226) (by decide))).trans s220
                      have s236 := (fh229 m 36 (fun q => absurd (((tm).symm.trans (congrArg ty q.1)).trans tc226) (by decide))).trans s221
                      have s237 := (fh229 m 47 (fun q => absurd (((tm).symm.trans (congrArg ty q.1)).trans tc226) (by decide))).trans s222
                      have s238 := (fh229 m 48 (fun q => absurd (((tm).symm.trans (congrArg ty q.1)).trans tc226) (by decide))).trans s223
                      have s239 := (fh229 m 46 (fun q => absurd (((tm).symm.trans (congrArg ty q.1)).trans tc226) (by decide))).trans efq215_0
                      have s240 := (fh229 m 37 (fun q => absurd (((tm).symm.trans (congrArg ty q.1)).trans tc226) (by decide))).trans ec226
                      refine gy_s 3 (pc' := 5) (L' := [some (.ref m), some (.int (zi b)), some (.int (zi p)), some (.int ((zi (k + (zq38 / 16))) + zi 1)), some (.int (zi zq38)), some (.int (zi (zq38 / 16))), some (.int (zi (zq38 % 16))), some (.int (zi zq206))]) (S' := []) (L2 := [some (.ref m), some (.int (zi b)), some (.int (zi p)), some (.int (zi ((k + (zq38 / 16)) + 1))), some (.int (zi zq38)), some (.int (zi (zq38 / 16))), some (.int (zi (zq38 % 16))), some (.int (zi zq206))]) (S2 := []) rfl (by simp only [zi_add, zi_sub, zi_mul, zi_neg, zi_and1, zi_and7, zi_and15, zi_and31, zi_and255]) (by simp only [zi_add, zi_sub, zi_mul, zi_neg, zi_and1, zi_and7, zi_and15, zi_and31, zi_and255]) ?_
                      exact gz_wk (ihlp2 h229 ((k + (zq38 / 16)) + 1) fq206_0 fq206_1 fq215_0 rv (by omega) sh229 (by omega) (by omega) (by omega) (by omega) (by omega) (by omega) (by omega) (by omega) s231 s232 s233 s234 s237 s238 s239 s235 pr230) (gLw.s (gLw.s (gLw.s (gLw.s (gLw.n (gLw.n (gLw.n (gLw.n gLw.z))))))))
                    · refine gy_ifF rfl (by decide) (by decide) (by omega) hc225 ?_
                      exact gz_end (I := .return_) (len := 1) rfl (Or.inl rfl) ⟨sq215, fq206_0, fq206_1, fq215_0, rfl, s222, (by omega), (by omega), s223, (by omega), (by omega), efq215_0, (by omega), (by omega), (by omega), (by omega), (by omega)⟩
                  · refine gy_icF rfl (by decide) (by decide) (by omega) (by omega) hc214 ?_
                    refine gz_s 2 (pc' := 113) (L' := [some (.ref m), some (.int (zi b)), some (.int (zi p)), some (.int (zi (k + (zq38 / 16)))), some (.int (zi zq38)), some (.int (zi (zq38 / 16))), some (.int (zi (zq38 % 16))), some (.int (zi zq206))]) (S' := [.int (zi 1), .ref m]) rfl ?_
                    refine gz_call rfl (by decide) rfl (by decide) (by decide) (gcal_of rfl rfl rfl (Nat.le_of_ble_eq_true rfl) (gJ.recv (G := gGG) sq206.1 tm rfl rfl)) (mm_keep _ sq206.1 m tm 1 (by omega) fq206_2 efq206_2 (by omega)) (fun q241 _ wq241 => ?_)
                    obtain ⟨pq241, oq241, hq241⟩ := q241
                    obtain ⟨xq241, fq241_0, gq241, efq241_0, afq241_0, bfq241_0, uq241_0⟩ := wq241
                    refine ⟨_, gq241, ?_⟩
                    show gz gPP gGG gcn _ _ 116 [some (.ref m), some (.int (zi b)), some (.int (zi p)), some (.int (zi (k + (zq38 / 16)))), some (.int (zi zq38)), some (.int (zi (zq38 / 16))), some (.int (zi (zq38 % 16))), some (.int (zi zq206))] [] hq241 _
                    have sq241 := gSs.tr sq206 xq241 (by decide)
                    have s242 := (xq241.2.2.2.2.2 m 3 (by rw [tm]; decide)).trans s207
                    have s243 := (xq241.2.2.2.2.2 m 44 (by rw [tm]; decide)).trans s208
                    have s244 := (xq241.2.2.2.2.2 m 41 (by rw [tm]; decide)).trans s209
                    have s245 := (xq241.2.2.2.2.2 m 42 (by rw [tm]; decide)).trans s210
                    have s246 := (xq241.2.2.2.2.2 m 45 (by rw [tm]; decide)).trans s211
                    have s247 := (xq241.2.2.2.2.2 m 36 (by rw [tm]; decide)).trans s212
                    have s248 := (xq241.2.2.2.2.2 m 47 (by rw [tm]; decide)).trans efq206_0
                    have s249 := (xq241.2.2.2.2.2 m 48 (by rw [tm]; decide)).trans efq206_1
                    have pr250 := gEl.fr xq241.2 (by decide) (fun _ => rfl) pr213
                    refine gz_s 1 (pc' := 117) (L' := [some (.ref m), some (.int (zi b)), some (.int (zi p)), some (.int (zi (k + (zq38 / 16)))), some (.int (zi zq38)), some (.int (zi (zq38 / 16))), some (.int (zi (zq38 % 16))), some (.int (zi zq206))]) (S' := [.ref m]) rfl ?_
                    refine gs_gtk rfl (by decide) rfl sq241.1 tm rfl rfl efq241_0 ?_
                    by_cases hc251 : (fq241_0 : Int) = 0
                    · refine gy_ifT (pc' := 124) rfl (by decide) (by decide) (by omega) hc251 ?_
                      refine gz_s 1 (pc' := 125) (L' := [some (.ref m), some (.int (zi b)), some (.int (zi p)), some (.int (zi (k + (zq38 / 16)))), some (.int (zi zq38)), some (.int (zi (zq38 / 16))), some (.int (zi (zq38 % 16))), some (.int (zi zq206))]) (S' := [.ref m]) rfl ?_
                      refine gs_gtr rfl (by decide) rfl sq241.1 tm rfl rfl rfl (fun c252 ec252 tc252 => ?_)
                      refine gy_s 5 (pc' := 134) (L' := [some (.ref m), some (.int (zi b)), some (.int (zi p)), some (.int (zi (k + (zq38 / 16)))), some (.int (zi zq38)), some (.int (zi (zq38 / 16))), some (.int (zi (zq38 % 16))), some (.int (zi zq206))]) (S' := [.ref m, .int (zi zq206), .int ((zi p) + (zi (k + (zq38 / 16)))), .ref c252]) (L2 := [some (.ref m), some (.int (zi b)), some (.int (zi p)), some (.int (zi (k + (zq38 / 16)))), some (.int (zi zq38)), some (.int (zi (zq38 / 16))), some (.int (zi (zq38 % 16))), some (.int (zi zq206))]) (S2 := [.ref m, .int (zi zq206), .int (zi (p + (k + (zq38 / 16)))), .ref c252]) rfl (by simp only [zi_add, zi_sub, zi_mul, zi_neg, zi_and1, zi_and7, zi_and15, zi_and31, zi_and255]) (by simp only [zi_add, zi_sub, zi_mul, zi_neg, zi_and1, zi_and7, zi_and15, zi_and31, zi_and255]) ?_
                      refine gs_gtk rfl (by decide) rfl sq241.1 tm rfl rfl s243 ?_
                      refine gy_iiv rfl (by decide) rfl (fun _ _ => rfl) (fun z253 ez253 az253 bz253 => ?_)
                      have hl254 : 12288 ≤ hq241.2.2.2.1 c252 ∧ hq241.2.2.2.1 c252 ≤ 12288 := gJ.rowl (G := gGG) sq241.1 tc252 rfl
                      refine gs_ast rfl (by decide) sq241 tc252 rfl rfl rfl (by decide) (fun _ => rfl) (by omega) (by omega) (fun _ => (by decide : (23999 : Nat) ∈ ([1045, 1046, 1047, 1048, 20999, 23999] : List Nat))) (by omega) (by omega) (fun h255 sh255 eh255 fh255 => ?_)
                      have pr256 := gEl.pt fh255 tc252 (by decide) pr250
                      have s257 := (fh255 m 3 (fun q => absurd (((tm).symm.trans (congrArg ty q.1)).trans tc252) (by decide))).trans s242
                      have s258 := (fh255 m 44 (fun q => absurd (((tm).symm.trans (congrArg ty q.1)).trans tc252) (by decide))).trans s243
                      have s259 := (fh255 m 41 (fun q => absurd (((tm).symm.trans (congrArg ty q.1)).trans tc252) (by decide))).trans s244
                      have s260 := (fh255 m 42 (fun q => absurd (((tm).symm.trans (congrArg ty q.1)).trans tc252) (by decide))).trans s245
                      have s261 := (fh255 m 45 (fun q => absurd (((tm).symm.trans (congrArg ty q.1)).trans tc252) (by decide))).trans s246
                      have s262 := (fh255 m 36 (fun q => absurd (((tm).symm.trans (congrArg ty q.1)).trans tc252) (by decide))).trans s247
                      have s263 := (fh255 m 47 (fun q => absurd (((tm).symm.trans (congrArg ty q.1)).trans tc252) (by decide))).trans s248
                      have s264 := (fh255 m 48 (fun q => absurd (((tm).symm.trans (congrArg ty q.1)).trans tc252) (by decide))).trans s249
                      have s265 := (fh255 m 46 (fun q => absurd (((tm).symm.trans (congrArg ty q.1)).trans tc252) (by decide))).trans efq241_0
                      have s266 := (fh255 m 37 (fun q => absurd (((tm).symm.trans (congrArg ty q.1)).trans tc252) (by decide))).trans ec252
                      refine gy_s 3 (pc' := 5) (L' := [some (.ref m), some (.int (zi b)), some (.int (zi p)), some (.int ((zi (k + (zq38 / 16))) + zi 1)), some (.int (zi zq38)), some (.int (zi (zq38 / 16))), some (.int (zi (zq38 % 16))), some (.int (zi zq206))]) (S' := []) (L2 := [some (.ref m), some (.int (zi b)), some (.int (zi p)), some (.int (zi ((k + (zq38 / 16)) + 1))), some (.int (zi zq38)), some (.int (zi (zq38 / 16))), some (.int (zi (zq38 % 16))), some (.int (zi zq206))]) (S2 := []) rfl (by simp only [zi_add, zi_sub, zi_mul, zi_neg, zi_and1, zi_and7, zi_and15, zi_and31, zi_and255]) (by simp only [zi_add, zi_sub, zi_mul, zi_neg, zi_and1, zi_and7, zi_and15, zi_and31, zi_and255]) ?_
                      exact gz_wk (ihlp2 h255 ((k + (zq38 / 16)) + 1) fq206_0 fq206_1 fq241_0 rv (by omega) sh255 (by omega) (by omega) (by omega) (by omega) (by omega) (by omega) (by omega) (by omega) s257 s258 s259 s260 s263 s264 s265 s261 pr256) (gLw.s (gLw.s (gLw.s (gLw.s (gLw.n (gLw.n (gLw.n (gLw.n gLw.z))))))))
                    · refine gy_ifF rfl (by decide) (by decide) (by omega) hc251 ?_
                      exact gz_end (I := .return_) (len := 1) rfl (Or.inl rfl) ⟨sq241, fq206_0, fq206_1, fq241_0, rfl, s248, (by omega), (by omega), s249, (by omega), (by omega), efq241_0, (by omega), (by omega), (by omega), (by omega), (by omega)⟩
                · refine gy_ifF rfl (by decide) (by decide) (by omega) hc205 ?_
                  refine gz_s 6 (pc' := 102) (L' := [some (.ref m), some (.int (zi b)), some (.int (zi p)), some (.int (zi (k + (zq38 / 16)))), some (.int (zi zq38)), some (.int (zi (zq38 / 16))), some (.int (zi (zq38 % 16))), some (.int (zi 0))]) (S' := [.ref m, .int (zi (k + (zq38 / 16))), .ref m]) rfl ?_
                  refine gs_gtk rfl (by decide) rfl sq195.1 tm rfl rfl s199 ?_
                  by_cases hc267 : (tt : Int) < k + (zq38 / 16)
                  · refine gy_icT (pc' := 112) rfl (by decide) (by decide) (by omega) (by omega) hc267 ?_
                    refine gz_s 1 (pc' := 113) (L' := [some (.ref m), some (.int (zi b)), some (.int (zi p)), some (.int (zi (k + (zq38 / 16)))), some (.int (zi zq38)), some (.int (zi (zq38 / 16))), some (.int (zi (zq38 % 16))), some (.int (zi 0))]) (S' := [.int (zi 0), .ref m]) rfl ?_
                    refine gz_call rfl (by decide) rfl (by decide) (by decide) (gcal_of rfl rfl rfl (Nat.le_of_ble_eq_true rfl) (gJ.recv (G := gGG) sq195.1 tm rfl rfl)) (mm_keep _ sq195.1 m tm 0 (by omega) fq195_0 efq195_0 (by omega)) (fun q268 _ wq268 => ?_)
                    obtain ⟨pq268, oq268, hq268⟩ := q268
                    obtain ⟨xq268, fq268_0, gq268, efq268_0, afq268_0, bfq268_0, uq268_0⟩ := wq268
                    refine ⟨_, gq268, ?_⟩
                    show gz gPP gGG gcn _ _ 116 [some (.ref m), some (.int (zi b)), some (.int (zi p)), some (.int (zi (k + (zq38 / 16)))), some (.int (zi zq38)), some (.int (zi (zq38 / 16))), some (.int (zi (zq38 % 16))), some (.int (zi 0))] [] hq268 _
                    have sq268 := gSs.tr sq195 xq268 (by decide)
                    have s269 := (xq268.2.2.2.2.2 m 3 (by rw [tm]; decide)).trans s196
                    have s270 := (xq268.2.2.2.2.2 m 44 (by rw [tm]; decide)).trans s197
                    have s271 := (xq268.2.2.2.2.2 m 41 (by rw [tm]; decide)).trans s198
                    have s272 := (xq268.2.2.2.2.2 m 42 (by rw [tm]; decide)).trans s199
                    have s273 := (xq268.2.2.2.2.2 m 45 (by rw [tm]; decide)).trans s200
                    have s274 := (xq268.2.2.2.2.2 m 36 (by rw [tm]; decide)).trans s201
                    have s275 := (xq268.2.2.2.2.2 m 47 (by rw [tm]; decide)).trans s202
                    have s276 := (xq268.2.2.2.2.2 m 48 (by rw [tm]; decide)).trans s203
                    have pr277 := gEl.fr xq268.2 (by decide) (fun _ => rfl) pr204
                    refine gz_s 1 (pc' := 117) (L' := [some (.ref m), some (.int (zi b)), some (.int (zi p)), some (.int (zi (k + (zq38 / 16)))), some (.int (zi zq38)), some (.int (zi (zq38 / 16))), some (.int (zi (zq38 % 16))), some (.int (zi 0))]) (S' := [.ref m]) rfl ?_
                    refine gs_gtk rfl (by decide) rfl sq268.1 tm rfl rfl efq268_0 ?_
                    by_cases hc278 : (fq268_0 : Int) = 0
                    · refine gy_ifT (pc' := 124) rfl (by decide) (by decide) (by omega) hc278 ?_
                      refine gz_s 1 (pc' := 125) (L' := [some (.ref m), some (.int (zi b)), some (.int (zi p)), some (.int (zi (k + (zq38 / 16)))), some (.int (zi zq38)), some (.int (zi (zq38 / 16))), some (.int (zi (zq38 % 16))), some (.int (zi 0))]) (S' := [.ref m]) rfl ?_
                      refine gs_gtr rfl (by decide) rfl sq268.1 tm rfl rfl rfl (fun c279 ec279 tc279 => ?_)
                      refine gy_s 5 (pc' := 134) (L' := [some (.ref m), some (.int (zi b)), some (.int (zi p)), some (.int (zi (k + (zq38 / 16)))), some (.int (zi zq38)), some (.int (zi (zq38 / 16))), some (.int (zi (zq38 % 16))), some (.int (zi 0))]) (S' := [.ref m, .int (zi 0), .int ((zi p) + (zi (k + (zq38 / 16)))), .ref c279]) (L2 := [some (.ref m), some (.int (zi b)), some (.int (zi p)), some (.int (zi (k + (zq38 / 16)))), some (.int (zi zq38)), some (.int (zi (zq38 / 16))), some (.int (zi (zq38 % 16))), some (.int (zi 0))]) (S2 := [.ref m, .int (zi 0), .int (zi (p + (k + (zq38 / 16)))), .ref c279]) rfl (by simp only [zi_add, zi_sub, zi_mul, zi_neg, zi_and1, zi_and7, zi_and15, zi_and31, zi_and255]) (by simp only [zi_add, zi_sub, zi_mul, zi_neg, zi_and1, zi_and7, zi_and15, zi_and31, zi_and255]) ?_
                      refine gs_gtk rfl (by decide) rfl sq268.1 tm rfl rfl s270 ?_
                      refine gy_iiv rfl (by decide) rfl (fun _ _ => rfl) (fun z280 ez280 az280 bz280 => ?_)
                      have hl281 : 12288 ≤ hq268.2.2.2.1 c279 ∧ hq268.2.2.2.1 c279 ≤ 12288 := gJ.rowl (G := gGG) sq268.1 tc279 rfl
                      refine gs_ast rfl (by decide) sq268 tc279 rfl rfl rfl (by decide) (fun _ => rfl) (by omega) (by omega) (fun _ => (by decide : (23999 : Nat) ∈ ([1045, 1046, 1047, 1048, 20999, 23999] : List Nat))) (by omega) (by omega) (fun h282 sh282 eh282 fh282 => ?_)
                      have pr283 := gEl.pt fh282 tc279 (by decide) pr277
                      have s284 := (fh282 m 3 (fun q => absurd (((tm).symm.trans (congrArg ty q.1)).trans tc279) (by decide))).trans s269
                      have s285 := (fh282 m 44 (fun q => absurd (((tm).symm.trans (congrArg ty q.1)).trans tc279) (by decide))).trans s270
                      have s286 := (fh282 m 41 (fun q => absurd (((tm).symm.trans (congrArg ty q.1)).trans tc279) (by decide))).trans s271
                      have s287 := (fh282 m 42 (fun q => absurd (((tm).symm.trans (congrArg ty q.1)).trans tc279) (by decide))).trans s272
                      have s288 := (fh282 m 45 (fun q => absurd (((tm).symm.trans (congrArg ty q.1)).trans tc279) (by decide))).trans s273
                      have s289 := (fh282 m 36 (fun q => absurd (((tm).symm.trans (congrArg ty q.1)).trans tc279) (by decide))).trans s274
                      have s290 := (fh282 m 47 (fun q => absurd (((tm).symm.trans (congrArg ty q.1)).trans tc279) (by decide))).trans s275
                      have s291 := (fh282 m 48 (fun q => absurd (((tm).symm.trans (congrArg ty q.1)).trans tc279) (by decide))).trans s276
                      have s292 := (fh282 m 46 (fun q => absurd (((tm).symm.trans (congrArg ty q.1)).trans tc279) (by decide))).trans efq268_0
                      have s293 := (fh282 m 37 (fun q => absurd (((tm).symm.trans (congrArg ty q.1)).trans tc279) (by decide))).trans ec279
                      refine gy_s 3 (pc' := 5) (L' := [some (.ref m), some (.int (zi b)), some (.int (zi p)), some (.int ((zi (k + (zq38 / 16))) + zi 1)), some (.int (zi zq38)), some (.int (zi (zq38 / 16))), some (.int (zi (zq38 % 16))), some (.int (zi 0))]) (S' := []) (L2 := [some (.ref m), some (.int (zi b)), some (.int (zi p)), some (.int (zi ((k + (zq38 / 16)) + 1))), some (.int (zi zq38)), some (.int (zi (zq38 / 16))), some (.int (zi (zq38 % 16))), some (.int (zi 0))]) (S2 := []) rfl (by simp only [zi_add, zi_sub, zi_mul, zi_neg, zi_and1, zi_and7, zi_and15, zi_and31, zi_and255]) (by simp only [zi_add, zi_sub, zi_mul, zi_neg, zi_and1, zi_and7, zi_and15, zi_and31, zi_and255]) ?_
                      exact gz_wk (ihlp2 h282 ((k + (zq38 / 16)) + 1) fq38_0 fq38_1 fq268_0 rv (by omega) sh282 (by omega) (by omega) (by omega) (by omega) (by omega) (by omega) (by omega) (by omega) s284 s285 s286 s287 s290 s291 s292 s288 pr283) (gLw.s (gLw.s (gLw.s (gLw.s (gLw.n (gLw.n (gLw.n (gLw.n gLw.z))))))))
                    · refine gy_ifF rfl (by decide) (by decide) (by omega) hc278 ?_
                      exact gz_end (I := .return_) (len := 1) rfl (Or.inl rfl) ⟨sq268, fq38_0, fq38_1, fq268_0, rfl, s275, (by omega), (by omega), s276, (by omega), (by omega), efq268_0, (by omega), (by omega), (by omega), (by omega), (by omega)⟩
                  · refine gy_icF rfl (by decide) (by decide) (by omega) (by omega) hc267 ?_
                    refine gz_s 2 (pc' := 113) (L' := [some (.ref m), some (.int (zi b)), some (.int (zi p)), some (.int (zi (k + (zq38 / 16)))), some (.int (zi zq38)), some (.int (zi (zq38 / 16))), some (.int (zi (zq38 % 16))), some (.int (zi 0))]) (S' := [.int (zi 1), .ref m]) rfl ?_
                    refine gz_call rfl (by decide) rfl (by decide) (by decide) (gcal_of rfl rfl rfl (Nat.le_of_ble_eq_true rfl) (gJ.recv (G := gGG) sq195.1 tm rfl rfl)) (mm_keep _ sq195.1 m tm 1 (by omega) fq195_0 efq195_0 (by omega)) (fun q294 _ wq294 => ?_)
                    obtain ⟨pq294, oq294, hq294⟩ := q294
                    obtain ⟨xq294, fq294_0, gq294, efq294_0, afq294_0, bfq294_0, uq294_0⟩ := wq294
                    refine ⟨_, gq294, ?_⟩
                    show gz gPP gGG gcn _ _ 116 [some (.ref m), some (.int (zi b)), some (.int (zi p)), some (.int (zi (k + (zq38 / 16)))), some (.int (zi zq38)), some (.int (zi (zq38 / 16))), some (.int (zi (zq38 % 16))), some (.int (zi 0))] [] hq294 _
                    have sq294 := gSs.tr sq195 xq294 (by decide)
                    have s295 := (xq294.2.2.2.2.2 m 3 (by rw [tm]; decide)).trans s196
                    have s296 := (xq294.2.2.2.2.2 m 44 (by rw [tm]; decide)).trans s197
                    have s297 := (xq294.2.2.2.2.2 m 41 (by rw [tm]; decide)).trans s198
                    have s298 := (xq294.2.2.2.2.2 m 42 (by rw [tm]; decide)).trans s199
                    have s299 := (xq294.2.2.2.2.2 m 45 (by rw [tm]; decide)).trans s200
                    have s300 := (xq294.2.2.2.2.2 m 36 (by rw [tm]; decide)).trans s201
                    have s301 := (xq294.2.2.2.2.2 m 47 (by rw [tm]; decide)).trans s202
                    have s302 := (xq294.2.2.2.2.2 m 48 (by rw [tm]; decide)).trans s203
                    have pr303 := gEl.fr xq294.2 (by decide) (fun _ => rfl) pr204
                    refine gz_s 1 (pc' := 117) (L' := [some (.ref m), some (.int (zi b)), some (.int (zi p)), some (.int (zi (k + (zq38 / 16)))), some (.int (zi zq38)), some (.int (zi (zq38 / 16))), some (.int (zi (zq38 % 16))), some (.int (zi 0))]) (S' := [.ref m]) rfl ?_
                    refine gs_gtk rfl (by decide) rfl sq294.1 tm rfl rfl efq294_0 ?_
                    by_cases hc304 : (fq294_0 : Int) = 0
                    · refine gy_ifT (pc' := 124) rfl (by decide) (by decide) (by omega) hc304 ?_
                      refine gz_s 1 (pc' := 125) (L' := [some (.ref m), some (.int (zi b)), some (.int (zi p)), some (.int (zi (k + (zq38 / 16)))), some (.int (zi zq38)), some (.int (zi (zq38 / 16))), some (.int (zi (zq38 % 16))), some (.int (zi 0))]) (S' := [.ref m]) rfl ?_
                      refine gs_gtr rfl (by decide) rfl sq294.1 tm rfl rfl rfl (fun c305 ec305 tc305 => ?_)
                      refine gy_s 5 (pc' := 134) (L' := [some (.ref m), some (.int (zi b)), some (.int (zi p)), some (.int (zi (k + (zq38 / 16)))), some (.int (zi zq38)), some (.int (zi (zq38 / 16))), some (.int (zi (zq38 % 16))), some (.int (zi 0))]) (S' := [.ref m, .int (zi 0), .int ((zi p) + (zi (k + (zq38 / 16)))), .ref c305]) (L2 := [some (.ref m), some (.int (zi b)), some (.int (zi p)), some (.int (zi (k + (zq38 / 16)))), some (.int (zi zq38)), some (.int (zi (zq38 / 16))), some (.int (zi (zq38 % 16))), some (.int (zi 0))]) (S2 := [.ref m, .int (zi 0), .int (zi (p + (k + (zq38 / 16)))), .ref c305]) rfl (by simp only [zi_add, zi_sub, zi_mul, zi_neg, zi_and1, zi_and7, zi_and15, zi_and31, zi_and255]) (by simp only [zi_add, zi_sub, zi_mul, zi_neg, zi_and1, zi_and7, zi_and15, zi_and31, zi_and255]) ?_
                      refine gs_gtk rfl (by decide) rfl sq294.1 tm rfl rfl s296 ?_
                      refine gy_iiv rfl (by decide) rfl (fun _ _ => rfl) (fun z306 ez306 az306 bz306 => ?_)
                      have hl307 : 12288 ≤ hq294.2.2.2.1 c305 ∧ hq294.2.2.2.1 c305 ≤ 12288 := gJ.rowl (G := gGG) sq294.1 tc305 rfl
                      refine gs_ast rfl (by decide) sq294 tc305 rfl rfl rfl (by decide) (fun _ => rfl) (by omega) (by omega) (fun _ => (by decide : (23999 : Nat) ∈ ([1045, 1046, 1047, 1048, 20999, 23999] : List Nat))) (by omega) (by omega) (fun h308 sh308 eh308 fh308 => ?_)
                      have pr309 := gEl.pt fh308 tc305 (by decide) pr303
                      have s310 := (fh308 m 3 (fun q => absurd (((tm).symm.trans (congrArg ty q.1)).trans tc305) (by decide))).trans s295
                      have s311 := (fh308 m 44 (fun q => absurd (((tm).symm.trans (congrArg ty q.1)).trans tc305) (by decide))).trans s296
                      have s312 := (fh308 m 41 (fun q => absurd (((tm).symm.trans (congrArg ty q.1)).trans tc305) (by decide))).trans s297
                      have s313 := (fh308 m 42 (fun q => absurd (((tm).symm.trans (congrArg ty q.1)).trans tc305) (by decide))).trans s298
                      have s314 := (fh308 m 45 (fun q => absurd (((tm).symm.trans (congrArg ty q.1)).trans tc305) (by decide))).trans s299
                      have s315 := (fh308 m 36 (fun q => absurd (((tm).symm.trans (congrArg ty q.1)).trans tc305) (by decide))).trans s300
                      have s316 := (fh308 m 47 (fun q => absurd (((tm).symm.trans (congrArg ty q.1)).trans tc305) (by decide))).trans s301
                      have s317 := (fh308 m 48 (fun q => absurd (((tm).symm.trans (congrArg ty q.1)).trans tc305) (by decide))).trans s302
                      have s318 := (fh308 m 46 (fun q => absurd (((tm).symm.trans (congrArg ty q.1)).trans tc305) (by decide))).trans efq294_0
                      have s319 := (fh308 m 37 (fun q => absurd (((tm).symm.trans (congrArg ty q.1)).trans tc305) (by decide))).trans ec305
                      refine gy_s 3 (pc' := 5) (L' := [some (.ref m), some (.int (zi b)), some (.int (zi p)), some (.int ((zi (k + (zq38 / 16))) + zi 1)), some (.int (zi zq38)), some (.int (zi (zq38 / 16))), some (.int (zi (zq38 % 16))), some (.int (zi 0))]) (S' := []) (L2 := [some (.ref m), some (.int (zi b)), some (.int (zi p)), some (.int (zi ((k + (zq38 / 16)) + 1))), some (.int (zi zq38)), some (.int (zi (zq38 / 16))), some (.int (zi (zq38 % 16))), some (.int (zi 0))]) (S2 := []) rfl (by simp only [zi_add, zi_sub, zi_mul, zi_neg, zi_and1, zi_and7, zi_and15, zi_and31, zi_and255]) (by simp only [zi_add, zi_sub, zi_mul, zi_neg, zi_and1, zi_and7, zi_and15, zi_and31, zi_and255]) ?_
                      exact gz_wk (ihlp2 h308 ((k + (zq38 / 16)) + 1) fq38_0 fq38_1 fq294_0 rv (by omega) sh308 (by omega) (by omega) (by omega) (by omega) (by omega) (by omega) (by omega) (by omega) s310 s311 s312 s313 s316 s317 s318 s314 pr309) (gLw.s (gLw.s (gLw.s (gLw.s (gLw.n (gLw.n (gLw.n (gLw.n gLw.z))))))))
                    · refine gy_ifF rfl (by decide) (by decide) (by omega) hc304 ?_
                      exact gz_end (I := .return_) (len := 1) rfl (Or.inl rfl) ⟨sq294, fq38_0, fq38_1, fq294_0, rfl, s301, (by omega), (by omega), s302, (by omega), (by omega), efq294_0, (by omega), (by omega), (by omega), (by omega), (by omega)⟩
          · refine gy_ifF rfl (by decide) (by decide) (by omega) hc46 ?_
            exact gz_end (I := .return_) (len := 1) rfl (Or.inl rfl) ⟨sq38, fq38_0, fq38_1, fq38_2, rfl, efq38_0, (by omega), (by omega), efq38_1, (by omega), (by omega), efq38_2, (by omega), (by omega), (by omega), (by omega), (by omega)⟩
  exact gz_wk (lp2 _ h fr a0 k0 u0 z1 (Nat.lt_succ_self _) hS (by omega) (by omega) (by omega) (by omega) (by omega) (by omega) (by omega) (by omega) esz elw efr ett ea0 ek0 eu0 ez1 el0) (gLw.s (gLw.s (gLw.s (gLw.s (gLw.n (gLw.n (gLw.n (gLw.n gLw.z))))))))
