/-! ===== the model: methods (by program) ===== -/
set_option maxRecDepth 20000 in
set_option maxHeartbeats 4000000 in
theorem mm_layOut1 (d : Nat) {ty : Nat → Nat} {h : gH} (hJ : gJ rT 1027 ty h) (m : Nat) (tm : ty m = 1) (w : Int) (ew : h.2.2.2.2 m 18 = .int (zi w)) (rw : 1 ≤ w ∧ w ≤ 64) (hh : Int) (ehh : h.2.2.2.2 m 19 = .int (zi hh)) (rhh : 1 ≤ hh ∧ hh ≤ 64) (bs : Int) (ebs : h.2.2.2.2 m 20 = .int (zi bs)) (rbs : 1 ≤ bs ∧ bs ≤ 1) (hb0 : Int) (rhb0 : 1 ≤ hb0 ∧ hb0 ≤ 2) (vb0 : Int) (rvb0 : 1 ≤ vb0 ∧ vb0 ≤ 2) (uq : gUq ty) (el0 : gEl ty 12 0 hb0 hb0 h) (el1 : gEl ty 13 0 vb0 vb0 h) (el2 : gEl ty 14 0 0 3 h) : gz gPP gGG gcn (d + 1) gt167 0 (gent [.ref m] 2) [] h (fun q _ => gSs rT 1027 ty [1021, 1022, 1023, 1024, 15999, 16999, 17999, 18999, 19999, 23999, 24999] h q.2.2 ∧ ∃ wd hg : Int, gfin gt167 q.1 q.2.1 = some none ∧ q.2.2.2.2.2.2 m 21 = .int (zi wd) ∧ 0 ≤ wd ∧ wd ≤ 2 ∧ q.2.2.2.2.2.2 m 22 = .int (zi hg) ∧ 0 ≤ hg ∧ hg ≤ 2 ∧ (gPic ty w hh wd hg bs q.2.2)) := by
  have hS : gSs rT 1027 ty [1021, 1022, 1023, 1024, 15999, 16999, 17999, 18999, 19999, 23999, 24999] h h := gSs.rf hJ
  refine gz_s 2 (pc' := 2) (L' := [some (.ref m), none]) (S' := [.int (zi 0), .ref m]) rfl ?_
  refine gs_put rfl (by decide) rfl hS tm rfl rfl rfl rfl (Or.inl rfl) (by decide) (by omega) (by omega) (fun h1 sh1 eh1 fh1 => ?_)
  have pr2 := gEl.pt fh1 tm (by decide) el0
  have pr3 := gEl.pt fh1 tm (by decide) el1
  have pr4 := gEl.pt fh1 tm (by decide) el2
  have s5 := (fh1 m 18 (fun q => absurd q.2 (by decide))).trans ew
  have s6 := (fh1 m 19 (fun q => absurd q.2 (by decide))).trans ehh
  have s7 := (fh1 m 20 (fun q => absurd q.2 (by decide))).trans ebs
  refine gz_s 2 (pc' := 7) (L' := [some (.ref m), none]) (S' := [.int (zi 0), .ref m]) rfl ?_
  refine gs_put rfl (by decide) rfl sh1 tm rfl rfl rfl rfl (Or.inl rfl) (by decide) (by omega) (by omega) (fun h8 sh8 eh8 fh8 => ?_)
  have pr9 := gEl.pt fh8 tm (by decide) pr2
  have pr10 := gEl.pt fh8 tm (by decide) pr3
  have pr11 := gEl.pt fh8 tm (by decide) pr4
  have s12 := (fh8 m 18 (fun q => absurd q.2 (by decide))).trans s5
  have s13 := (fh8 m 19 (fun q => absurd q.2 (by decide))).trans s6
  have s14 := (fh8 m 20 (fun q => absurd q.2 (by decide))).trans s7
  have s15 := (fh8 m 21 (fun q => absurd q.2 (by decide))).trans eh1
  refine gz_s 4 (pc' := 14) (L' := [some (.ref m), some (.int (zi 0))]) (S' := [.ref m, .int (zi 0)]) rfl ?_
  refine gs_gtk rfl (by decide) rfl sh8.1 tm rfl rfl s14 ?_
  refine gy_icF rfl (by decide) (by decide) (by omega) (by omega) (by first | (simp [zc]; done) | (simp only [zc]; omega)) ?_
  refine gz_s 2 (pc' := 22) (L' := [some (.ref m), some (.int (zi 0))]) (S' := [.ref m, .ref m]) rfl ?_
  refine gs_gtr rfl (by decide) rfl sh8.1 tm rfl rfl rfl (fun c16 ec16 tc16 => ?_)
  refine gz_s 1 (pc' := 26) (L' := [some (.ref m), some (.int (zi 0))]) (S' := [.int (zi 0), .ref c16, .ref m]) rfl ?_
  have hl17 : 3 ≤ h8.2.2.2.1 c16 ∧ h8.2.2.2.1 c16 ≤ 3 := gJ.rowl (G := gGG) sh8.1 tc16 rfl
  refine gs_alx rfl (by decide) sh8.1 tc16 rfl rfl rfl (by decide) (fun _ => rfl) (by omega) (by omega) (by decide) pr9 (fun ex18 ax18 bx18 => ?_)
  refine gz_s 1 (pc' := 28) (L' := [some (.ref m), some (.int (zi 0))]) (S' := [.ref m, .int (zi hb0), .ref m]) rfl ?_
  refine gs_gtk rfl (by decide) rfl sh8.1 tm rfl rfl s15 ?_
  refine gy_icF rfl (by decide) (by decide) (by omega) (by omega) (by first | (simp [zc]; done) | (simp only [zc]; omega)) ?_
  refine gz_s 1 (pc' := 35) (L' := [some (.ref m), some (.int (zi 0))]) (S' := [.ref m, .ref m]) rfl ?_
  refine gs_gtk rfl (by decide) rfl sh8.1 tm rfl rfl ec16 ?_
  refine gz_s 1 (pc' := 39) (L' := [some (.ref m), some (.int (zi 0))]) (S' := [.int (zi 0), .ref c16, .ref m]) rfl ?_
  have hl19 : 3 ≤ h8.2.2.2.1 c16 ∧ h8.2.2.2.1 c16 ≤ 3 := gJ.rowl (G := gGG) sh8.1 tc16 rfl
  refine gs_alx rfl (by decide) sh8.1 tc16 rfl rfl rfl (by decide) (fun _ => rfl) (by omega) (by omega) (by decide) pr9 (fun ex20 ax20 bx20 => ?_)
  refine gz_s 1 (pc' := 47) (L' := [some (.ref m), some (.int (zi 0))]) (S' := [.int (zi hb0), .ref m]) rfl ?_
  refine gs_put rfl (by decide) rfl sh8 tm rfl rfl rfl rfl (Or.inl rfl) (by decide) (by omega) (by omega) (fun h21 sh21 eh21 fh21 => ?_)
  have pr22 := gEl.pt fh21 tm (by decide) pr9
  have pr23 := gEl.pt fh21 tm (by decide) pr10
  have pr24 := gEl.pt fh21 tm (by decide) pr11
  have s25 := (fh21 m 18 (fun q => absurd q.2 (by decide))).trans s12
  have s26 := (fh21 m 19 (fun q => absurd q.2 (by decide))).trans s13
  have s27 := (fh21 m 20 (fun q => absurd q.2 (by decide))).trans s14
  have s28 := (fh21 m 22 (fun q => absurd q.2 (by decide))).trans eh8
  have s29 := (fh21 m 26 (fun q => absurd q.2 (by decide))).trans ec16
  refine gz_s 2 (pc' := 52) (L' := [some (.ref m), some (.int (zi 0))]) (S' := [.ref m, .ref m]) rfl ?_
  refine gs_gtr rfl (by decide) rfl sh21.1 tm rfl rfl rfl (fun c30 ec30 tc30 => ?_)
  refine gz_s 1 (pc' := 56) (L' := [some (.ref m), some (.int (zi 0))]) (S' := [.int (zi 0), .ref c30, .ref m]) rfl ?_
  have hl31 : 3 ≤ h21.2.2.2.1 c30 ∧ h21.2.2.2.1 c30 ≤ 3 := gJ.rowl (G := gGG) sh21.1 tc30 rfl
  refine gs_alx rfl (by decide) sh21.1 tc30 rfl rfl rfl (by decide) (fun _ => rfl) (by omega) (by omega) (by decide) pr23 (fun ex32 ax32 bx32 => ?_)
  refine gz_s 1 (pc' := 58) (L' := [some (.ref m), some (.int (zi 0))]) (S' := [.ref m, .int (zi vb0), .ref m]) rfl ?_
  refine gs_gtk rfl (by decide) rfl sh21.1 tm rfl rfl s28 ?_
  refine gy_icF rfl (by decide) (by decide) (by omega) (by omega) (by first | (simp [zc]; done) | (simp only [zc]; omega)) ?_
  refine gz_s 1 (pc' := 65) (L' := [some (.ref m), some (.int (zi 0))]) (S' := [.ref m, .ref m]) rfl ?_
  refine gs_gtk rfl (by decide) rfl sh21.1 tm rfl rfl ec30 ?_
  refine gz_s 1 (pc' := 69) (L' := [some (.ref m), some (.int (zi 0))]) (S' := [.int (zi 0), .ref c30, .ref m]) rfl ?_
  have hl33 : 3 ≤ h21.2.2.2.1 c30 ∧ h21.2.2.2.1 c30 ≤ 3 := gJ.rowl (G := gGG) sh21.1 tc30 rfl
  refine gs_alx rfl (by decide) sh21.1 tc30 rfl rfl rfl (by decide) (fun _ => rfl) (by omega) (by omega) (by decide) pr23 (fun ex34 ax34 bx34 => ?_)
  refine gz_s 1 (pc' := 77) (L' := [some (.ref m), some (.int (zi 0))]) (S' := [.int (zi vb0), .ref m]) rfl ?_
  refine gs_put rfl (by decide) rfl sh21 tm rfl rfl rfl rfl (Or.inl rfl) (by decide) (by omega) (by omega) (fun h35 sh35 eh35 fh35 => ?_)
  have pr36 := gEl.pt fh35 tm (by decide) pr22
  have pr37 := gEl.pt fh35 tm (by decide) pr23
  have pr38 := gEl.pt fh35 tm (by decide) pr24
  have s39 := (fh35 m 18 (fun q => absurd q.2 (by decide))).trans s25
  have s40 := (fh35 m 19 (fun q => absurd q.2 (by decide))).trans s26
  have s41 := (fh35 m 20 (fun q => absurd q.2 (by decide))).trans s27
  have s42 := (fh35 m 26 (fun q => absurd q.2 (by decide))).trans s29
  have s43 := (fh35 m 21 (fun q => absurd q.2 (by decide))).trans eh21
  have s44 := (fh35 m 27 (fun q => absurd q.2 (by decide))).trans ec30
  refine gy_s 4 (pc' := 14) (L' := [some (.ref m), some (.int ((zi 0) + zi 1))]) (S' := [.ref m, .int ((zi 0) + zi 1)]) (L2 := [some (.ref m), some (.int (zi 1))]) (S2 := [.ref m, .int (zi 1)]) rfl (by simp only [zi_add, zi_sub, zi_mul, zi_neg, zi_and1, zi_and7, zi_and15, zi_and31, zi_and255, Int.reduceAdd, Int.reduceMul, Int.reduceSub]) (by simp only [zi_add, zi_sub, zi_mul, zi_neg, zi_and1, zi_and7, zi_and15, zi_and31, zi_and255, Int.reduceAdd, Int.reduceMul, Int.reduceSub]) ?_
  refine gs_gtk rfl (by decide) rfl sh35.1 tm rfl rfl s41 ?_
  refine gy_icT (pc' := 86) rfl (by decide) (by decide) (by omega) (by omega) (by first | (simp [zc]; done) | (simp only [zc]; omega)) ?_
  refine gz_s 2 (pc' := 88) (L' := [some (.ref m), some (.int (zi 1))]) (S' := [.int (zi 0), .ref m]) rfl ?_
  refine gs_put rfl (by decide) rfl sh35 tm rfl rfl rfl rfl (Or.inl rfl) (by decide) (by omega) (by omega) (fun h45 sh45 eh45 fh45 => ?_)
  have pr46 := gEl.pt fh45 tm (by decide) pr36
  have pr47 := gEl.pt fh45 tm (by decide) pr37
  have pr48 := gEl.pt fh45 tm (by decide) pr38
  have s49 := (fh45 m 18 (fun q => absurd q.2 (by decide))).trans s39
  have s50 := (fh45 m 19 (fun q => absurd q.2 (by decide))).trans s40
  have s51 := (fh45 m 20 (fun q => absurd q.2 (by decide))).trans s41
  have s52 := (fh45 m 26 (fun q => absurd q.2 (by decide))).trans s42
  have s53 := (fh45 m 21 (fun q => absurd q.2 (by decide))).trans s43
  have s54 := (fh45 m 27 (fun q => absurd q.2 (by decide))).trans s44
  have s55 := (fh45 m 22 (fun q => absurd q.2 (by decide))).trans eh35
  refine gz_s 2 (pc' := 93) (L' := [some (.ref m), some (.int (zi 1))]) (S' := [.int (zi 0), .ref m]) rfl ?_
  refine gs_put rfl (by decide) rfl sh45 tm rfl rfl rfl rfl (Or.inl rfl) (by decide) (by omega) (by omega) (fun h56 sh56 eh56 fh56 => ?_)
  have pr57 := gEl.pt fh56 tm (by decide) pr46
  have pr58 := gEl.pt fh56 tm (by decide) pr47
  have pr59 := gEl.pt fh56 tm (by decide) pr48
  have s60 := (fh56 m 18 (fun q => absurd q.2 (by decide))).trans s49
  have s61 := (fh56 m 19 (fun q => absurd q.2 (by decide))).trans s50
  have s62 := (fh56 m 20 (fun q => absurd q.2 (by decide))).trans s51
  have s63 := (fh56 m 26 (fun q => absurd q.2 (by decide))).trans s52
  have s64 := (fh56 m 21 (fun q => absurd q.2 (by decide))).trans s53
  have s65 := (fh56 m 27 (fun q => absurd q.2 (by decide))).trans s54
  have s66 := (fh56 m 22 (fun q => absurd q.2 (by decide))).trans s55
  have s67 := (fh56 m 23 (fun q => absurd q.2 (by decide))).trans eh45
  refine gz_s 4 (pc' := 100) (L' := [some (.ref m), some (.int (zi 0))]) (S' := [.ref m, .int (zi 0)]) rfl ?_
  refine gs_gtk rfl (by decide) rfl sh56.1 tm rfl rfl s62 ?_
  refine gy_icF rfl (by decide) (by decide) (by omega) (by omega) (by first | (simp [zc]; done) | (simp only [zc]; omega)) ?_
  have zA := zup8 (w := w) (wd := hb0) (by omega) (by omega)
  have zB := zup8 (w := hh) (wd := vb0) (by omega) (by omega)
  have zC0 := zupC (w := w) (wd := hb0) (hb := hb0) (by omega) (by omega) (by omega) (by omega)
  have zR0 := zupC (w := hh) (wd := vb0) (hb := vb0) (by omega) (by omega) (by omega) (by omega)
  have zP0 := zb3 (a := (zup w (8 * hb0)) * hb0) (b := (zup hh (8 * vb0)) * vb0) (by omega) (by omega)
  refine gz_s 1 (pc' := 107) (L' := [some (.ref m), some (.int (zi 0))]) (S' := [.ref m]) rfl ?_
  refine gs_gtr rfl (by decide) rfl sh56.1 tm rfl rfl rfl (fun c68 ec68 tc68 => ?_)
  refine gz_s 2 (pc' := 112) (L' := [some (.ref m), some (.int (zi 0))]) (S' := [.ref m, .int (zi 0), .ref c68]) rfl ?_
  refine gs_gtk rfl (by decide) rfl sh56.1 tm rfl rfl s60 ?_
  refine gz_s 2 (pc' := 118) (L' := [some (.ref m), some (.int (zi 0))]) (S' := [.ref m, .int (zi 8), .int (zi w), .int (zi 0), .ref c68]) rfl ?_
  refine gs_gtk rfl (by decide) rfl sh56.1 tm rfl rfl s64 ?_
  refine gy_s 1 (pc' := 122) (L' := [some (.ref m), some (.int (zi 0))]) (S' := [.int ((zi 8) * (zi hb0)), .int (zi w), .int (zi 0), .ref c68]) (L2 := [some (.ref m), some (.int (zi 0))]) (S2 := [.int (zi (8 * hb0)), .int (zi w), .int (zi 0), .ref c68]) rfl (by simp only [zi_add, zi_sub, zi_mul, zi_neg, zi_and1, zi_and7, zi_and15, zi_and31, zi_and255, Int.reduceAdd, Int.reduceMul, Int.reduceSub]) (by simp only [zi_add, zi_sub, zi_mul, zi_neg, zi_and1, zi_and7, zi_and15, zi_and31, zi_and255, Int.reduceAdd, Int.reduceMul, Int.reduceSub]) ?_
  refine gz_call rfl (by decide) rfl (by decide) (by decide) (gcal_of rfl rfl rfl (Nat.le_of_ble_eq_true rfl) rfl) (mm_up _ sh56.1 w (by omega) (8 * hb0) (by omega) ) (fun q69 _ wq69 => ?_)
  obtain ⟨pq69, oq69, hq69⟩ := q69
  obtain ⟨xq69, zq69, gq69, aq69, bq69, uq69_0⟩ := wq69
  subst uq69_0
  refine ⟨_, gq69, ?_⟩
  show gz gPP gGG gcn _ _ 125 [some (.ref m), some (.int (zi 0))] [.int (zi (zup w (8 * hb0))), .int (zi 0), .ref c68] hq69 _
  have sq69 := gSs.tr sh56 xq69 (by decide)
  have s70 := (xq69.2.2.2.2.2 m 18 (by rw [tm]; decide)).trans s60
  have s71 := (xq69.2.2.2.2.2 m 19 (by rw [tm]; decide)).trans s61
  have s72 := (xq69.2.2.2.2.2 m 20 (by rw [tm]; decide)).trans s62
  have s73 := (xq69.2.2.2.2.2 m 26 (by rw [tm]; decide)).trans s63
  have s74 := (xq69.2.2.2.2.2 m 21 (by rw [tm]; decide)).trans s64
  have s75 := (xq69.2.2.2.2.2 m 27 (by rw [tm]; decide)).trans s65
  have s76 := (xq69.2.2.2.2.2 m 22 (by rw [tm]; decide)).trans s66
  have s77 := (xq69.2.2.2.2.2 m 23 (by rw [tm]; decide)).trans s67
  have s78 := (xq69.2.2.2.2.2 m 24 (by rw [tm]; decide)).trans eh56
  have s79 := (xq69.2.2.2.2.2 m 29 (by rw [tm]; decide)).trans ec68
  have pr80 := gEl.fr xq69.2 (by decide) (fun _ => rfl) pr57
  have pr81 := gEl.fr xq69.2 (by decide) (fun _ => rfl) pr58
  have pr82 := gEl.fr xq69.2 (by decide) (fun _ => rfl) pr59
  refine gz_s 1 (pc' := 126) (L' := [some (.ref m), some (.int (zi 0))]) (S' := [.ref m, .int (zi (zup w (8 * hb0))), .int (zi 0), .ref c68]) rfl ?_
  refine gs_gtk rfl (by decide) rfl sq69.1 tm rfl rfl s73 ?_
  refine gz_s 1 (pc' := 130) (L' := [some (.ref m), some (.int (zi 0))]) (S' := [.int (zi 0), .ref c16, .int (zi (zup w (8 * hb0))), .int (zi 0), .ref c68]) rfl ?_
  have hl83 : 3 ≤ hq69.2.2.2.1 c16 ∧ hq69.2.2.2.1 c16 ≤ 3 := gJ.rowl (G := gGG) sq69.1 tc16 rfl
  refine gs_alx rfl (by decide) sq69.1 tc16 rfl rfl rfl (by decide) (fun _ => rfl) (by omega) (by omega) (by decide) pr80 (fun ex84 ax84 bx84 => ?_)
  have hx85 := zx_f (a := zup w (8 * hb0)) (b := hb0) (A := 4097) (B := 2) (by omega) (by omega) (by omega) (by omega)
  refine gy_s 1 (pc' := 132) (L' := [some (.ref m), some (.int (zi 0))]) (S' := [.int ((zi (zup w (8 * hb0))) * (zi hb0)), .int (zi 0), .ref c68]) (L2 := [some (.ref m), some (.int (zi 0))]) (S2 := [.int (zi ((zup w (8 * hb0)) * hb0)), .int (zi 0), .ref c68]) rfl (by simp only [zi_add, zi_sub, zi_mul, zi_neg, zi_and1, zi_and7, zi_and15, zi_and31, zi_and255, Int.reduceAdd, Int.reduceMul, Int.reduceSub]) (by simp only [zi_add, zi_sub, zi_mul, zi_neg, zi_and1, zi_and7, zi_and15, zi_and31, zi_and255, Int.reduceAdd, Int.reduceMul, Int.reduceSub]) ?_
  have hl86 : 3 ≤ hq69.2.2.2.1 c68 ∧ hq69.2.2.2.1 c68 ≤ 3 := gJ.rowl (G := gGG) sq69.1 tc68 rfl
  refine gs_ast rfl (by decide) sq69 tc68 rfl rfl rfl (by decide) (fun _ => rfl) (by omega) (by omega) (fun _ => (by decide : (15999 : Nat) ∈ ([1021, 1022, 1023, 1024, 15999, 16999, 17999, 18999, 19999, 23999, 24999] : List Nat))) (by omega) (by omega) (fun h87 sh87 eh87 fh87 => ?_)
  have pr88 := gEl.pt fh87 tc68 (by decide) pr80
  have pr89 := gEl.pt fh87 tc68 (by decide) pr81
  have pr90 := gEl.pt fh87 tc68 (by decide) pr82
  have s91 := (fh87 m 18 (fun q => absurd (((tm).symm.trans (congrArg ty q.1)).trans tc68) (by decide))).trans s70
  have s92 := (fh87 m 19 (fun q => absurd (((tm).symm.trans (congrArg ty q.1)).trans tc68) (by decide))).trans s71
  have s93 := (fh87 m 20 (fun q => absurd (((tm).symm.trans (congrArg ty q.1)).trans tc68) (by decide))).trans s72
  have s94 := (fh87 m 26 (fun q => absurd (((tm).symm.trans (congrArg ty q.1)).trans tc68) (by decide))).trans s73
  have s95 := (fh87 m 21 (fun q => absurd (((tm).symm.trans (congrArg ty q.1)).trans tc68) (by decide))).trans s74
  have s96 := (fh87 m 27 (fun q => absurd (((tm).symm.trans (congrArg ty q.1)).trans tc68) (by decide))).trans s75
  have s97 := (fh87 m 22 (fun q => absurd (((tm).symm.trans (congrArg ty q.1)).trans tc68) (by decide))).trans s76
  have s98 := (fh87 m 23 (fun q => absurd (((tm).symm.trans (congrArg ty q.1)).trans tc68) (by decide))).trans s77
  have s99 := (fh87 m 24 (fun q => absurd (((tm).symm.trans (congrArg ty q.1)).trans tc68) (by decide))).trans s78
  have s100 := (fh87 m 29 (fun q => absurd (((tm).symm.trans (congrArg ty q.1)).trans tc68) (by decide))).trans s79
  have pr101 := gEl.set (i := 0) (z := (zup w (8 * hb0)) * hb0) uq tc68 (by decide) eh87 (by omega) (by omega)
  refine gz_s 1 (pc' := 134) (L' := [some (.ref m), some (.int (zi 0))]) (S' := [.ref m]) rfl ?_
  refine gs_gtr rfl (by decide) rfl sh87.1 tm rfl rfl rfl (fun c102 ec102 tc102 => ?_)
  refine gz_s 2 (pc' := 139) (L' := [some (.ref m), some (.int (zi 0))]) (S' := [.ref m, .int (zi 0), .ref c102]) rfl ?_
  refine gs_gtk rfl (by decide) rfl sh87.1 tm rfl rfl s92 ?_
  refine gz_s 2 (pc' := 145) (L' := [some (.ref m), some (.int (zi 0))]) (S' := [.ref m, .int (zi 8), .int (zi hh), .int (zi 0), .ref c102]) rfl ?_
  refine gs_gtk rfl (by decide) rfl sh87.1 tm rfl rfl s97 ?_
  refine gy_s 1 (pc' := 149) (L' := [some (.ref m), some (.int (zi 0))]) (S' := [.int ((zi 8) * (zi vb0)), .int (zi hh), .int (zi 0), .ref c102]) (L2 := [some (.ref m), some (.int (zi 0))]) (S2 := [.int (zi (8 * vb0)), .int (zi hh), .int (zi 0), .ref c102]) rfl (by simp only [zi_add, zi_sub, zi_mul, zi_neg, zi_and1, zi_and7, zi_and15, zi_and31, zi_and255, Int.reduceAdd, Int.reduceMul, Int.reduceSub]) (by simp only [zi_add, zi_sub, zi_mul, zi_neg, zi_and1, zi_and7, zi_and15, zi_and31, zi_and255, Int.reduceAdd, Int.reduceMul, Int.reduceSub]) ?_
  refine gz_call rfl (by decide) rfl (by decide) (by decide) (gcal_of rfl rfl rfl (Nat.le_of_ble_eq_true rfl) rfl) (mm_up _ sh87.1 hh (by omega) (8 * vb0) (by omega) ) (fun q103 _ wq103 => ?_)
  obtain ⟨pq103, oq103, hq103⟩ := q103
  obtain ⟨xq103, zq103, gq103, aq103, bq103, uq103_0⟩ := wq103
  subst uq103_0
  refine ⟨_, gq103, ?_⟩
  show gz gPP gGG gcn _ _ 152 [some (.ref m), some (.int (zi 0))] [.int (zi (zup hh (8 * vb0))), .int (zi 0), .ref c102] hq103 _
  have sq103 := gSs.tr sh87 xq103 (by decide)
  have s104 := (xq103.2.2.2.2.2 m 18 (by rw [tm]; decide)).trans s91
  have s105 := (xq103.2.2.2.2.2 m 19 (by rw [tm]; decide)).trans s92
  have s106 := (xq103.2.2.2.2.2 m 20 (by rw [tm]; decide)).trans s93
  have s107 := (xq103.2.2.2.2.2 m 26 (by rw [tm]; decide)).trans s94
  have s108 := (xq103.2.2.2.2.2 m 21 (by rw [tm]; decide)).trans s95
  have s109 := (xq103.2.2.2.2.2 m 27 (by rw [tm]; decide)).trans s96
  have s110 := (xq103.2.2.2.2.2 m 22 (by rw [tm]; decide)).trans s97
  have s111 := (xq103.2.2.2.2.2 m 23 (by rw [tm]; decide)).trans s98
  have s112 := (xq103.2.2.2.2.2 m 24 (by rw [tm]; decide)).trans s99
  have s113 := (xq103.2.2.2.2.2 m 29 (by rw [tm]; decide)).trans s100
  have s114 := (xq103.2.2.2.2.2 m 30 (by rw [tm]; decide)).trans ec102
  have pr115 := gEl.fr xq103.2 (by decide) (fun _ => rfl) pr88
  have pr116 := gEl.fr xq103.2 (by decide) (fun _ => rfl) pr89
  have pr117 := gEl.fr xq103.2 (by decide) (fun _ => rfl) pr90
  have pr118 := gEl.fr xq103.2 (by decide) (fun _ => rfl) pr101
  refine gz_s 1 (pc' := 153) (L' := [some (.ref m), some (.int (zi 0))]) (S' := [.ref m, .int (zi (zup hh (8 * vb0))), .int (zi 0), .ref c102]) rfl ?_
  refine gs_gtk rfl (by decide) rfl sq103.1 tm rfl rfl s109 ?_
  refine gz_s 1 (pc' := 157) (L' := [some (.ref m), some (.int (zi 0))]) (S' := [.int (zi 0), .ref c30, .int (zi (zup hh (8 * vb0))), .int (zi 0), .ref c102]) rfl ?_
  have hl119 : 3 ≤ hq103.2.2.2.1 c30 ∧ hq103.2.2.2.1 c30 ≤ 3 := gJ.rowl (G := gGG) sq103.1 tc30 rfl
  refine gs_alx rfl (by decide) sq103.1 tc30 rfl rfl rfl (by decide) (fun _ => rfl) (by omega) (by omega) (by decide) pr116 (fun ex120 ax120 bx120 => ?_)
  have hx121 := zx_f (a := zup hh (8 * vb0)) (b := vb0) (A := 4097) (B := 2) (by omega) (by omega) (by omega) (by omega)
  refine gy_s 1 (pc' := 159) (L' := [some (.ref m), some (.int (zi 0))]) (S' := [.int ((zi (zup hh (8 * vb0))) * (zi vb0)), .int (zi 0), .ref c102]) (L2 := [some (.ref m), some (.int (zi 0))]) (S2 := [.int (zi ((zup hh (8 * vb0)) * vb0)), .int (zi 0), .ref c102]) rfl (by simp only [zi_add, zi_sub, zi_mul, zi_neg, zi_and1, zi_and7, zi_and15, zi_and31, zi_and255, Int.reduceAdd, Int.reduceMul, Int.reduceSub]) (by simp only [zi_add, zi_sub, zi_mul, zi_neg, zi_and1, zi_and7, zi_and15, zi_and31, zi_and255, Int.reduceAdd, Int.reduceMul, Int.reduceSub]) ?_
  have hl122 : 3 ≤ hq103.2.2.2.1 c102 ∧ hq103.2.2.2.1 c102 ≤ 3 := gJ.rowl (G := gGG) sq103.1 tc102 rfl
  refine gs_ast rfl (by decide) sq103 tc102 rfl rfl rfl (by decide) (fun _ => rfl) (by omega) (by omega) (fun _ => (by decide : (16999 : Nat) ∈ ([1021, 1022, 1023, 1024, 15999, 16999, 17999, 18999, 19999, 23999, 24999] : List Nat))) (by omega) (by omega) (fun h123 sh123 eh123 fh123 => ?_)
  have pr124 := gEl.pt fh123 tc102 (by decide) pr115
  have pr125 := gEl.pt fh123 tc102 (by decide) pr116
  have pr126 := gEl.pt fh123 tc102 (by decide) pr117
  have pr127 := gEl.pt fh123 tc102 (by decide) pr118
  have s128 := (fh123 m 18 (fun q => absurd (((tm).symm.trans (congrArg ty q.1)).trans tc102) (by decide))).trans s104
  have s129 := (fh123 m 19 (fun q => absurd (((tm).symm.trans (congrArg ty q.1)).trans tc102) (by decide))).trans s105
  have s130 := (fh123 m 20 (fun q => absurd (((tm).symm.trans (congrArg ty q.1)).trans tc102) (by decide))).trans s106
  have s131 := (fh123 m 26 (fun q => absurd (((tm).symm.trans (congrArg ty q.1)).trans tc102) (by decide))).trans s107
  have s132 := (fh123 m 21 (fun q => absurd (((tm).symm.trans (congrArg ty q.1)).trans tc102) (by decide))).trans s108
  have s133 := (fh123 m 27 (fun q => absurd (((tm).symm.trans (congrArg ty q.1)).trans tc102) (by decide))).trans s109
  have s134 := (fh123 m 22 (fun q => absurd (((tm).symm.trans (congrArg ty q.1)).trans tc102) (by decide))).trans s110
  have s135 := (fh123 m 23 (fun q => absurd (((tm).symm.trans (congrArg ty q.1)).trans tc102) (by decide))).trans s111
  have s136 := (fh123 m 24 (fun q => absurd (((tm).symm.trans (congrArg ty q.1)).trans tc102) (by decide))).trans s112
  have s137 := (fh123 m 29 (fun q => absurd (((tm).symm.trans (congrArg ty q.1)).trans tc102) (by decide))).trans s113
  have s138 := (fh123 m 30 (fun q => absurd (((tm).symm.trans (congrArg ty q.1)).trans tc102) (by decide))).trans s114
  have pr139 := gEl.set (i := 0) (z := (zup hh (8 * vb0)) * vb0) uq tc102 (by decide) eh123 (by omega) (by omega)
  refine gz_s 1 (pc' := 161) (L' := [some (.ref m), some (.int (zi 0))]) (S' := [.ref m]) rfl ?_
  refine gs_gtr rfl (by decide) rfl sh123.1 tm rfl rfl rfl (fun c140 ec140 tc140 => ?_)
  refine gz_s 2 (pc' := 166) (L' := [some (.ref m), some (.int (zi 0))]) (S' := [.ref m, .int (zi 0), .ref c140]) rfl ?_
  refine gs_gtk rfl (by decide) rfl sh123.1 tm rfl rfl s128 ?_
  refine gz_s 1 (pc' := 170) (L' := [some (.ref m), some (.int (zi 0))]) (S' := [.ref m, .int (zi w), .int (zi 0), .ref c140]) rfl ?_
  refine gs_gtk rfl (by decide) rfl sh123.1 tm rfl rfl s131 ?_
  refine gz_s 1 (pc' := 174) (L' := [some (.ref m), some (.int (zi 0))]) (S' := [.int (zi 0), .ref c16, .int (zi w), .int (zi 0), .ref c140]) rfl ?_
  have hl141 : 3 ≤ h123.2.2.2.1 c16 ∧ h123.2.2.2.1 c16 ≤ 3 := gJ.rowl (G := gGG) sh123.1 tc16 rfl
  refine gs_alx rfl (by decide) sh123.1 tc16 rfl rfl rfl (by decide) (fun _ => rfl) (by omega) (by omega) (by decide) pr124 (fun ex142 ax142 bx142 => ?_)
  have hx143 := zx_f (a := w) (b := hb0) (A := 64) (B := 2) (by omega) (by omega) (by omega) (by omega)
  refine gy_s 2 (pc' := 177) (L' := [some (.ref m), some (.int (zi 0))]) (S' := [.ref m, .int ((zi w) * (zi hb0)), .int (zi 0), .ref c140]) (L2 := [some (.ref m), some (.int (zi 0))]) (S2 := [.ref m, .int (zi (w * hb0)), .int (zi 0), .ref c140]) rfl (by simp only [zi_add, zi_sub, zi_mul, zi_neg, zi_and1, zi_and7, zi_and15, zi_and31, zi_and255, Int.reduceAdd, Int.reduceMul, Int.reduceSub]) (by simp only [zi_add, zi_sub, zi_mul, zi_neg, zi_and1, zi_and7, zi_and15, zi_and31, zi_and255, Int.reduceAdd, Int.reduceMul, Int.reduceSub]) ?_
  refine gs_gtk rfl (by decide) rfl sh123.1 tm rfl rfl s132 ?_
  refine gz_call rfl (by decide) rfl (by decide) (by decide) (gcal_of rfl rfl rfl (Nat.le_of_ble_eq_true rfl) rfl) (mm_up _ sh123.1 (w * hb0) (by omega) hb0 (by omega) ) (fun q144 _ wq144 => ?_)
  obtain ⟨pq144, oq144, hq144⟩ := q144
  obtain ⟨xq144, zq144, gq144, aq144, bq144, uq144_0⟩ := wq144
  subst uq144_0
  refine ⟨_, gq144, ?_⟩
  show gz gPP gGG gcn _ _ 183 [some (.ref m), some (.int (zi 0))] [.int (zi (zup (w * hb0) hb0)), .int (zi 0), .ref c140] hq144 _
  have sq144 := gSs.tr sh123 xq144 (by decide)
  have s145 := (xq144.2.2.2.2.2 m 18 (by rw [tm]; decide)).trans s128
  have s146 := (xq144.2.2.2.2.2 m 19 (by rw [tm]; decide)).trans s129
  have s147 := (xq144.2.2.2.2.2 m 20 (by rw [tm]; decide)).trans s130
  have s148 := (xq144.2.2.2.2.2 m 26 (by rw [tm]; decide)).trans s131
  have s149 := (xq144.2.2.2.2.2 m 21 (by rw [tm]; decide)).trans s132
  have s150 := (xq144.2.2.2.2.2 m 27 (by rw [tm]; decide)).trans s133
  have s151 := (xq144.2.2.2.2.2 m 22 (by rw [tm]; decide)).trans s134
  have s152 := (xq144.2.2.2.2.2 m 23 (by rw [tm]; decide)).trans s135
  have s153 := (xq144.2.2.2.2.2 m 24 (by rw [tm]; decide)).trans s136
  have s154 := (xq144.2.2.2.2.2 m 29 (by rw [tm]; decide)).trans s137
  have s155 := (xq144.2.2.2.2.2 m 30 (by rw [tm]; decide)).trans s138
  have s156 := (xq144.2.2.2.2.2 m 31 (by rw [tm]; decide)).trans ec140
  have pr157 := gEl.fr xq144.2 (by decide) (fun _ => rfl) pr124
  have pr158 := gEl.fr xq144.2 (by decide) (fun _ => rfl) pr125
  have pr159 := gEl.fr xq144.2 (by decide) (fun _ => rfl) pr126
  have pr160 := gEl.fr xq144.2 (by decide) (fun _ => rfl) pr127
  have pr161 := gEl.fr xq144.2 (by decide) (fun _ => rfl) pr139
  refine gz_s 1 (pc' := 185) (L' := [some (.ref m), some (.int (zi 0))]) (S' := [.int (zi 8), .int (zi (zup (w * hb0) hb0)), .int (zi 0), .ref c140]) rfl ?_
  refine gz_call rfl (by decide) rfl (by decide) (by decide) (gcal_of rfl rfl rfl (Nat.le_of_ble_eq_true rfl) rfl) (mm_up _ sq144.1 (zup (w * hb0) hb0) (by omega) 8 (by omega) ) (fun q162 _ wq162 => ?_)
  obtain ⟨pq162, oq162, hq162⟩ := q162
  obtain ⟨xq162, zq162, gq162, aq162, bq162, uq162_0⟩ := wq162
  subst uq162_0
  refine ⟨_, gq162, ?_⟩
  show gz gPP gGG gcn _ _ 188 [some (.ref m), some (.int (zi 0))] [.int (zi (zup (zup (w * hb0) hb0) 8)), .int (zi 0), .ref c140] hq162 _
  have sq162 := gSs.tr sq144 xq162 (by decide)
  have s163 := (xq162.2.2.2.2.2 m 18 (by rw [tm]; decide)).trans s145
  have s164 := (xq162.2.2.2.2.2 m 19 (by rw [tm]; decide)).trans s146
  have s165 := (xq162.2.2.2.2.2 m 20 (by rw [tm]; decide)).trans s147
  have s166 := (xq162.2.2.2.2.2 m 26 (by rw [tm]; decide)).trans s148
  have s167 := (xq162.2.2.2.2.2 m 21 (by rw [tm]; decide)).trans s149
  have s168 := (xq162.2.2.2.2.2 m 27 (by rw [tm]; decide)).trans s150
  have s169 := (xq162.2.2.2.2.2 m 22 (by rw [tm]; decide)).trans s151
  have s170 := (xq162.2.2.2.2.2 m 23 (by rw [tm]; decide)).trans s152
  have s171 := (xq162.2.2.2.2.2 m 24 (by rw [tm]; decide)).trans s153
  have s172 := (xq162.2.2.2.2.2 m 29 (by rw [tm]; decide)).trans s154
  have s173 := (xq162.2.2.2.2.2 m 30 (by rw [tm]; decide)).trans s155
  have s174 := (xq162.2.2.2.2.2 m 31 (by rw [tm]; decide)).trans s156
  have pr175 := gEl.fr xq162.2 (by decide) (fun _ => rfl) pr157
  have pr176 := gEl.fr xq162.2 (by decide) (fun _ => rfl) pr158
  have pr177 := gEl.fr xq162.2 (by decide) (fun _ => rfl) pr159
  have pr178 := gEl.fr xq162.2 (by decide) (fun _ => rfl) pr160
  have pr179 := gEl.fr xq162.2 (by decide) (fun _ => rfl) pr161
  have hl180 : 3 ≤ hq162.2.2.2.1 c140 ∧ hq162.2.2.2.1 c140 ≤ 3 := gJ.rowl (G := gGG) sq162.1 tc140 rfl
  refine gs_ast rfl (by decide) sq162 tc140 rfl rfl rfl (by decide) (fun _ => rfl) (by omega) (by omega) (fun _ => (by decide : (17999 : Nat) ∈ ([1021, 1022, 1023, 1024, 15999, 16999, 17999, 18999, 19999, 23999, 24999] : List Nat))) (by omega) (by omega) (fun h181 sh181 eh181 fh181 => ?_)
  have pr182 := gEl.pt fh181 tc140 (by decide) pr175
  have pr183 := gEl.pt fh181 tc140 (by decide) pr176
  have pr184 := gEl.pt fh181 tc140 (by decide) pr177
  have pr185 := gEl.pt fh181 tc140 (by decide) pr178
  have pr186 := gEl.pt fh181 tc140 (by decide) pr179
  have s187 := (fh181 m 18 (fun q => absurd (((tm).symm.trans (congrArg ty q.1)).trans tc140) (by decide))).trans s163
  have s188 := (fh181 m 19 (fun q => absurd (((tm).symm.trans (congrArg ty q.1)).trans tc140) (by decide))).trans s164
  have s189 := (fh181 m 20 (fun q => absurd (((tm).symm.trans (congrArg ty q.1)).trans tc140) (by decide))).trans s165
  have s190 := (fh181 m 26 (fun q => absurd (((tm).symm.trans (congrArg ty q.1)).trans tc140) (by decide))).trans s166
  have s191 := (fh181 m 21 (fun q => absurd (((tm).symm.trans (congrArg ty q.1)).trans tc140) (by decide))).trans s167
  have s192 := (fh181 m 27 (fun q => absurd (((tm).symm.trans (congrArg ty q.1)).trans tc140) (by decide))).trans s168
  have s193 := (fh181 m 22 (fun q => absurd (((tm).symm.trans (congrArg ty q.1)).trans tc140) (by decide))).trans s169
  have s194 := (fh181 m 23 (fun q => absurd (((tm).symm.trans (congrArg ty q.1)).trans tc140) (by decide))).trans s170
  have s195 := (fh181 m 24 (fun q => absurd (((tm).symm.trans (congrArg ty q.1)).trans tc140) (by decide))).trans s171
  have s196 := (fh181 m 29 (fun q => absurd (((tm).symm.trans (congrArg ty q.1)).trans tc140) (by decide))).trans s172
  have s197 := (fh181 m 30 (fun q => absurd (((tm).symm.trans (congrArg ty q.1)).trans tc140) (by decide))).trans s173
  have s198 := (fh181 m 31 (fun q => absurd (((tm).symm.trans (congrArg ty q.1)).trans tc140) (by decide))).trans s174
  have pr199 := gEl.set (i := 0) (z := zup (zup (w * hb0) hb0) 8) uq tc140 (by decide) eh181 (by omega) (by omega)
  refine gz_s 1 (pc' := 190) (L' := [some (.ref m), some (.int (zi 0))]) (S' := [.ref m]) rfl ?_
  refine gs_gtr rfl (by decide) rfl sh181.1 tm rfl rfl rfl (fun c200 ec200 tc200 => ?_)
  refine gz_s 2 (pc' := 195) (L' := [some (.ref m), some (.int (zi 0))]) (S' := [.ref m, .int (zi 0), .ref c200]) rfl ?_
  refine gs_gtk rfl (by decide) rfl sh181.1 tm rfl rfl s188 ?_
  refine gz_s 1 (pc' := 199) (L' := [some (.ref m), some (.int (zi 0))]) (S' := [.ref m, .int (zi hh), .int (zi 0), .ref c200]) rfl ?_
  refine gs_gtk rfl (by decide) rfl sh181.1 tm rfl rfl s192 ?_
  refine gz_s 1 (pc' := 203) (L' := [some (.ref m), some (.int (zi 0))]) (S' := [.int (zi 0), .ref c30, .int (zi hh), .int (zi 0), .ref c200]) rfl ?_
  have hl201 : 3 ≤ h181.2.2.2.1 c30 ∧ h181.2.2.2.1 c30 ≤ 3 := gJ.rowl (G := gGG) sh181.1 tc30 rfl
  refine gs_alx rfl (by decide) sh181.1 tc30 rfl rfl rfl (by decide) (fun _ => rfl) (by omega) (by omega) (by decide) pr183 (fun ex202 ax202 bx202 => ?_)
  have hx203 := zx_f (a := hh) (b := vb0) (A := 64) (B := 2) (by omega) (by omega) (by omega) (by omega)
  refine gy_s 2 (pc' := 206) (L' := [some (.ref m), some (.int (zi 0))]) (S' := [.ref m, .int ((zi hh) * (zi vb0)), .int (zi 0), .ref c200]) (L2 := [some (.ref m), some (.int (zi 0))]) (S2 := [.ref m, .int (zi (hh * vb0)), .int (zi 0), .ref c200]) rfl (by simp only [zi_add, zi_sub, zi_mul, zi_neg, zi_and1, zi_and7, zi_and15, zi_and31, zi_and255, Int.reduceAdd, Int.reduceMul, Int.reduceSub]) (by simp only [zi_add, zi_sub, zi_mul, zi_neg, zi_and1, zi_and7, zi_and15, zi_and31, zi_and255, Int.reduceAdd, Int.reduceMul, Int.reduceSub]) ?_
  refine gs_gtk rfl (by decide) rfl sh181.1 tm rfl rfl s193 ?_
  refine gz_call rfl (by decide) rfl (by decide) (by decide) (gcal_of rfl rfl rfl (Nat.le_of_ble_eq_true rfl) rfl) (mm_up _ sh181.1 (hh * vb0) (by omega) vb0 (by omega) ) (fun q204 _ wq204 => ?_)
  obtain ⟨pq204, oq204, hq204⟩ := q204
  obtain ⟨xq204, zq204, gq204, aq204, bq204, uq204_0⟩ := wq204
  subst uq204_0
  refine ⟨_, gq204, ?_⟩
  show gz gPP gGG gcn _ _ 212 [some (.ref m), some (.int (zi 0))] [.int (zi (zup (hh * vb0) vb0)), .int (zi 0), .ref c200] hq204 _
  have sq204 := gSs.tr sh181 xq204 (by decide)
  have s205 := (xq204.2.2.2.2.2 m 18 (by rw [tm]; decide)).trans s187
  have s206 := (xq204.2.2.2.2.2 m 19 (by rw [tm]; decide)).trans s188
  have s207 := (xq204.2.2.2.2.2 m 20 (by rw [tm]; decide)).trans s189
  have s208 := (xq204.2.2.2.2.2 m 26 (by rw [tm]; decide)).trans s190
  have s209 := (xq204.2.2.2.2.2 m 21 (by rw [tm]; decide)).trans s191
  have s210 := (xq204.2.2.2.2.2 m 27 (by rw [tm]; decide)).trans s192
  have s211 := (xq204.2.2.2.2.2 m 22 (by rw [tm]; decide)).trans s193
  have s212 := (xq204.2.2.2.2.2 m 23 (by rw [tm]; decide)).trans s194
  have s213 := (xq204.2.2.2.2.2 m 24 (by rw [tm]; decide)).trans s195
  have s214 := (xq204.2.2.2.2.2 m 29 (by rw [tm]; decide)).trans s196
  have s215 := (xq204.2.2.2.2.2 m 30 (by rw [tm]; decide)).trans s197
  have s216 := (xq204.2.2.2.2.2 m 31 (by rw [tm]; decide)).trans s198
  have s217 := (xq204.2.2.2.2.2 m 32 (by rw [tm]; decide)).trans ec200
  have pr218 := gEl.fr xq204.2 (by decide) (fun _ => rfl) pr182
  have pr219 := gEl.fr xq204.2 (by decide) (fun _ => rfl) pr183
  have pr220 := gEl.fr xq204.2 (by decide) (fun _ => rfl) pr184
  have pr221 := gEl.fr xq204.2 (by decide) (fun _ => rfl) pr185
  have pr222 := gEl.fr xq204.2 (by decide) (fun _ => rfl) pr186
  have pr223 := gEl.fr xq204.2 (by decide) (fun _ => rfl) pr199
  refine gz_s 1 (pc' := 214) (L' := [some (.ref m), some (.int (zi 0))]) (S' := [.int (zi 8), .int (zi (zup (hh * vb0) vb0)), .int (zi 0), .ref c200]) rfl ?_
  refine gz_call rfl (by decide) rfl (by decide) (by decide) (gcal_of rfl rfl rfl (Nat.le_of_ble_eq_true rfl) rfl) (mm_up _ sq204.1 (zup (hh * vb0) vb0) (by omega) 8 (by omega) ) (fun q224 _ wq224 => ?_)
  obtain ⟨pq224, oq224, hq224⟩ := q224
  obtain ⟨xq224, zq224, gq224, aq224, bq224, uq224_0⟩ := wq224
  subst uq224_0
  refine ⟨_, gq224, ?_⟩
  show gz gPP gGG gcn _ _ 217 [some (.ref m), some (.int (zi 0))] [.int (zi (zup (zup (hh * vb0) vb0) 8)), .int (zi 0), .ref c200] hq224 _
  have sq224 := gSs.tr sq204 xq224 (by decide)
  have s225 := (xq224.2.2.2.2.2 m 18 (by rw [tm]; decide)).trans s205
  have s226 := (xq224.2.2.2.2.2 m 19 (by rw [tm]; decide)).trans s206
  have s227 := (xq224.2.2.2.2.2 m 20 (by rw [tm]; decide)).trans s207
  have s228 := (xq224.2.2.2.2.2 m 26 (by rw [tm]; decide)).trans s208
  have s229 := (xq224.2.2.2.2.2 m 21 (by rw [tm]; decide)).trans s209
  have s230 := (xq224.2.2.2.2.2 m 27 (by rw [tm]; decide)).trans s210
  have s231 := (xq224.2.2.2.2.2 m 22 (by rw [tm]; decide)).trans s211
  have s232 := (xq224.2.2.2.2.2 m 23 (by rw [tm]; decide)).trans s212
  have s233 := (xq224.2.2.2.2.2 m 24 (by rw [tm]; decide)).trans s213
  have s234 := (xq224.2.2.2.2.2 m 29 (by rw [tm]; decide)).trans s214
  have s235 := (xq224.2.2.2.2.2 m 30 (by rw [tm]; decide)).trans s215
  have s236 := (xq224.2.2.2.2.2 m 31 (by rw [tm]; decide)).trans s216
  have s237 := (xq224.2.2.2.2.2 m 32 (by rw [tm]; decide)).trans s217
  have pr238 := gEl.fr xq224.2 (by decide) (fun _ => rfl) pr218
  have pr239 := gEl.fr xq224.2 (by decide) (fun _ => rfl) pr219
  have pr240 := gEl.fr xq224.2 (by decide) (fun _ => rfl) pr220
  have pr241 := gEl.fr xq224.2 (by decide) (fun _ => rfl) pr221
  have pr242 := gEl.fr xq224.2 (by decide) (fun _ => rfl) pr222
  have pr243 := gEl.fr xq224.2 (by decide) (fun _ => rfl) pr223
  have hl244 : 3 ≤ hq224.2.2.2.1 c200 ∧ hq224.2.2.2.1 c200 ≤ 3 := gJ.rowl (G := gGG) sq224.1 tc200 rfl
  refine gs_ast rfl (by decide) sq224 tc200 rfl rfl rfl (by decide) (fun _ => rfl) (by omega) (by omega) (fun _ => (by decide : (18999 : Nat) ∈ ([1021, 1022, 1023, 1024, 15999, 16999, 17999, 18999, 19999, 23999, 24999] : List Nat))) (by omega) (by omega) (fun h245 sh245 eh245 fh245 => ?_)
  have pr246 := gEl.pt fh245 tc200 (by decide) pr238
  have pr247 := gEl.pt fh245 tc200 (by decide) pr239
  have pr248 := gEl.pt fh245 tc200 (by decide) pr240
  have pr249 := gEl.pt fh245 tc200 (by decide) pr241
  have pr250 := gEl.pt fh245 tc200 (by decide) pr242
  have pr251 := gEl.pt fh245 tc200 (by decide) pr243
  have s252 := (fh245 m 18 (fun q => absurd (((tm).symm.trans (congrArg ty q.1)).trans tc200) (by decide))).trans s225
  have s253 := (fh245 m 19 (fun q => absurd (((tm).symm.trans (congrArg ty q.1)).trans tc200) (by decide))).trans s226
  have s254 := (fh245 m 20 (fun q => absurd (((tm).symm.trans (congrArg ty q.1)).trans tc200) (by decide))).trans s227
  have s255 := (fh245 m 26 (fun q => absurd (((tm).symm.trans (congrArg ty q.1)).trans tc200) (by decide))).trans s228
  have s256 := (fh245 m 21 (fun q => absurd (((tm).symm.trans (congrArg ty q.1)).trans tc200) (by decide))).trans s229
  have s257 := (fh245 m 27 (fun q => absurd (((tm).symm.trans (congrArg ty q.1)).trans tc200) (by decide))).trans s230
  have s258 := (fh245 m 22 (fun q => absurd (((tm).symm.trans (congrArg ty q.1)).trans tc200) (by decide))).trans s231
  have s259 := (fh245 m 23 (fun q => absurd (((tm).symm.trans (congrArg ty q.1)).trans tc200) (by decide))).trans s232
  have s260 := (fh245 m 24 (fun q => absurd (((tm).symm.trans (congrArg ty q.1)).trans tc200) (by decide))).trans s233
  have s261 := (fh245 m 29 (fun q => absurd (((tm).symm.trans (congrArg ty q.1)).trans tc200) (by decide))).trans s234
  have s262 := (fh245 m 30 (fun q => absurd (((tm).symm.trans (congrArg ty q.1)).trans tc200) (by decide))).trans s235
  have s263 := (fh245 m 31 (fun q => absurd (((tm).symm.trans (congrArg ty q.1)).trans tc200) (by decide))).trans s236
  have s264 := (fh245 m 32 (fun q => absurd (((tm).symm.trans (congrArg ty q.1)).trans tc200) (by decide))).trans s237
  have pr265 := gEl.set (i := 0) (z := zup (zup (hh * vb0) vb0) 8) uq tc200 (by decide) eh245 (by omega) (by omega)
  refine gz_s 1 (pc' := 219) (L' := [some (.ref m), some (.int (zi 0))]) (S' := [.ref m]) rfl ?_
  refine gs_gtr rfl (by decide) rfl sh245.1 tm rfl rfl rfl (fun c266 ec266 tc266 => ?_)
  refine gz_s 2 (pc' := 224) (L' := [some (.ref m), some (.int (zi 0))]) (S' := [.ref m, .int (zi 0), .ref c266]) rfl ?_
  refine gs_gtk rfl (by decide) rfl sh245.1 tm rfl rfl s259 ?_
  have hl267 : 3 ≤ h245.2.2.2.1 c266 ∧ h245.2.2.2.1 c266 ≤ 3 := gJ.rowl (G := gGG) sh245.1 tc266 rfl
  refine gs_ast rfl (by decide) sh245 tc266 rfl rfl rfl (by decide) (fun _ => rfl) (by omega) (by omega) (fun _ => (by decide : (19999 : Nat) ∈ ([1021, 1022, 1023, 1024, 15999, 16999, 17999, 18999, 19999, 23999, 24999] : List Nat))) (by omega) (by omega) (fun h268 sh268 eh268 fh268 => ?_)
  have pr269 := gEl.pt fh268 tc266 (by decide) pr246
  have pr270 := gEl.pt fh268 tc266 (by decide) pr247
  have pr271 := gEl.pt fh268 tc266 (by decide) pr248
  have pr272 := gEl.pt fh268 tc266 (by decide) pr249
  have pr273 := gEl.pt fh268 tc266 (by decide) pr250
  have pr274 := gEl.pt fh268 tc266 (by decide) pr251
  have pr275 := gEl.pt fh268 tc266 (by decide) pr265
  have s276 := (fh268 m 18 (fun q => absurd (((tm).symm.trans (congrArg ty q.1)).trans tc266) (by decide))).trans s252
  have s277 := (fh268 m 19 (fun q => absurd (((tm).symm.trans (congrArg ty q.1)).trans tc266) (by decide))).trans s253
  have s278 := (fh268 m 20 (fun q => absurd (((tm).symm.trans (congrArg ty q.1)).trans tc266) (by decide))).trans s254
  have s279 := (fh268 m 26 (fun q => absurd (((tm).symm.trans (congrArg ty q.1)).trans tc266) (by decide))).trans s255
  have s280 := (fh268 m 21 (fun q => absurd (((tm).symm.trans (congrArg ty q.1)).trans tc266) (by decide))).trans s256
  have s281 := (fh268 m 27 (fun q => absurd (((tm).symm.trans (congrArg ty q.1)).trans tc266) (by decide))).trans s257
  have s282 := (fh268 m 22 (fun q => absurd (((tm).symm.trans (congrArg ty q.1)).trans tc266) (by decide))).trans s258
  have s283 := (fh268 m 23 (fun q => absurd (((tm).symm.trans (congrArg ty q.1)).trans tc266) (by decide))).trans s259
  have s284 := (fh268 m 24 (fun q => absurd (((tm).symm.trans (congrArg ty q.1)).trans tc266) (by decide))).trans s260
  have s285 := (fh268 m 29 (fun q => absurd (((tm).symm.trans (congrArg ty q.1)).trans tc266) (by decide))).trans s261
  have s286 := (fh268 m 30 (fun q => absurd (((tm).symm.trans (congrArg ty q.1)).trans tc266) (by decide))).trans s262
  have s287 := (fh268 m 31 (fun q => absurd (((tm).symm.trans (congrArg ty q.1)).trans tc266) (by decide))).trans s263
  have s288 := (fh268 m 32 (fun q => absurd (((tm).symm.trans (congrArg ty q.1)).trans tc266) (by decide))).trans s264
  have s289 := (fh268 m 33 (fun q => absurd (((tm).symm.trans (congrArg ty q.1)).trans tc266) (by decide))).trans ec266
  have pr290 := gEl.set (i := 0) (z := 0) uq tc266 (by decide) eh268 (by omega) (by omega)
  refine gz_s 2 (pc' := 230) (L' := [some (.ref m), some (.int (zi 0))]) (S' := [.ref m, .ref m]) rfl ?_
  refine gs_gtk rfl (by decide) rfl sh268.1 tm rfl rfl s283 ?_
  refine gz_s 1 (pc' := 234) (L' := [some (.ref m), some (.int (zi 0))]) (S' := [.ref m, .int (zi 0), .ref m]) rfl ?_
  refine gs_gtk rfl (by decide) rfl sh268.1 tm rfl rfl s285 ?_
  refine gz_s 1 (pc' := 238) (L' := [some (.ref m), some (.int (zi 0))]) (S' := [.int (zi 0), .ref c68, .int (zi 0), .ref m]) rfl ?_
  have hl291 : 3 ≤ h268.2.2.2.1 c68 ∧ h268.2.2.2.1 c68 ≤ 3 := gJ.rowl (G := gGG) sh268.1 tc68 rfl
  refine gs_alx rfl (by decide) sh268.1 tc68 rfl rfl rfl (by decide) (fun _ => rfl) (by omega) (by omega) (by decide) pr272 (fun ex292 ax292 bx292 => ?_)
  refine gz_s 1 (pc' := 240) (L' := [some (.ref m), some (.int (zi 0))]) (S' := [.ref m, .int (zi ((zup w (8 * hb0)) * hb0)), .int (zi 0), .ref m]) rfl ?_
  refine gs_gtk rfl (by decide) rfl sh268.1 tm rfl rfl s286 ?_
  refine gz_s 1 (pc' := 244) (L' := [some (.ref m), some (.int (zi 0))]) (S' := [.int (zi 0), .ref c102, .int (zi ((zup w (8 * hb0)) * hb0)), .int (zi 0), .ref m]) rfl ?_
  have hl293 : 3 ≤ h268.2.2.2.1 c102 ∧ h268.2.2.2.1 c102 ≤ 3 := gJ.rowl (G := gGG) sh268.1 tc102 rfl
  refine gs_alx rfl (by decide) sh268.1 tc102 rfl rfl rfl (by decide) (fun _ => rfl) (by omega) (by omega) (by decide) pr273 (fun ex294 ax294 bx294 => ?_)
  have hx295 := zx_f (a := (zup w (8 * hb0)) * hb0) (b := (zup hh (8 * vb0)) * vb0) (A := 16) (B := 16) (by omega) (by omega) (by omega) (by omega)
  refine gy_s 2 (pc' := 247) (L' := [some (.ref m), some (.int (zi 0))]) (S' := [.int ((zi 0) + ((zi ((zup w (8 * hb0)) * hb0)) * (zi ((zup hh (8 * vb0)) * vb0)))), .ref m]) (L2 := [some (.ref m), some (.int (zi 0))]) (S2 := [.int (zi (0 + (((zup w (8 * hb0)) * hb0) * ((zup hh (8 * vb0)) * vb0)))), .ref m]) rfl (by simp only [zi_add, zi_sub, zi_mul, zi_neg, zi_and1, zi_and7, zi_and15, zi_and31, zi_and255, Int.reduceAdd, Int.reduceMul, Int.reduceSub]) (by simp only [zi_add, zi_sub, zi_mul, zi_neg, zi_and1, zi_and7, zi_and15, zi_and31, zi_and255, Int.reduceAdd, Int.reduceMul, Int.reduceSub]) ?_
  refine gs_put rfl (by decide) rfl sh268 tm rfl rfl rfl rfl (Or.inl rfl) (by decide) (by omega) (by omega) (fun h296 sh296 eh296 fh296 => ?_)
  have pr297 := gEl.pt fh296 tm (by decide) pr269
  have pr298 := gEl.pt fh296 tm (by decide) pr270
  have pr299 := gEl.pt fh296 tm (by decide) pr271
  have pr300 := gEl.pt fh296 tm (by decide) pr272
  have pr301 := gEl.pt fh296 tm (by decide) pr273
  have pr302 := gEl.pt fh296 tm (by decide) pr274
  have pr303 := gEl.pt fh296 tm (by decide) pr275
  have pr304 := gEl.pt fh296 tm (by decide) pr290
  have s305 := (fh296 m 18 (fun q => absurd q.2 (by decide))).trans s276
  have s306 := (fh296 m 19 (fun q => absurd q.2 (by decide))).trans s277
  have s307 := (fh296 m 20 (fun q => absurd q.2 (by decide))).trans s278
  have s308 := (fh296 m 26 (fun q => absurd q.2 (by decide))).trans s279
  have s309 := (fh296 m 21 (fun q => absurd q.2 (by decide))).trans s280
  have s310 := (fh296 m 27 (fun q => absurd q.2 (by decide))).trans s281
  have s311 := (fh296 m 22 (fun q => absurd q.2 (by decide))).trans s282
  have s312 := (fh296 m 24 (fun q => absurd q.2 (by decide))).trans s284
  have s313 := (fh296 m 29 (fun q => absurd q.2 (by decide))).trans s285
  have s314 := (fh296 m 30 (fun q => absurd q.2 (by decide))).trans s286
  have s315 := (fh296 m 31 (fun q => absurd q.2 (by decide))).trans s287
  have s316 := (fh296 m 32 (fun q => absurd q.2 (by decide))).trans s288
  have s317 := (fh296 m 33 (fun q => absurd q.2 (by decide))).trans s289
  refine gy_s 4 (pc' := 100) (L' := [some (.ref m), some (.int ((zi 0) + zi 1))]) (S' := [.ref m, .int ((zi 0) + zi 1)]) (L2 := [some (.ref m), some (.int (zi 1))]) (S2 := [.ref m, .int (zi 1)]) rfl (by simp only [zi_add, zi_sub, zi_mul, zi_neg, zi_and1, zi_and7, zi_and15, zi_and31, zi_and255, Int.reduceAdd, Int.reduceMul, Int.reduceSub]) (by simp only [zi_add, zi_sub, zi_mul, zi_neg, zi_and1, zi_and7, zi_and15, zi_and31, zi_and255, Int.reduceAdd, Int.reduceMul, Int.reduceSub]) ?_
  refine gs_gtk rfl (by decide) rfl sh296.1 tm rfl rfl s307 ?_
  refine gy_icT (pc' := 256) rfl (by decide) (by decide) (by omega) (by omega) (by first | (simp [zc]; done) | (simp only [zc]; omega)) ?_
  refine gz_s 2 (pc' := 258) (L' := [some (.ref m), some (.int (zi 0))]) (S' := []) rfl ?_
  have lp318 : ∀ (fu : Nat) (h319 : gH) (kc : Int), (12289 - kc).toNat < fu → gSs rT 1027 ty [1021, 1022, 1023, 1024, 15999, 16999, 17999, 18999, 19999, 23999, 24999] h h319 → (0 ≤ kc ∧ kc ≤ 12288) → h319.2.2.2.2 m 18 = .int (zi w) → h319.2.2.2.2 m 19 = .int (zi hh) → h319.2.2.2.2 m 20 = .int (zi bs) → h319.2.2.2.2 m 26 = .ref c16 → h319.2.2.2.2 m 21 = .int (zi hb0) → h319.2.2.2.2 m 27 = .ref c30 → h319.2.2.2.2 m 22 = .int (zi vb0) → h319.2.2.2.2 m 24 = .int (zi 0) → h319.2.2.2.2 m 29 = .ref c68 → h319.2.2.2.2 m 30 = .ref c102 → h319.2.2.2.2 m 31 = .ref c140 → h319.2.2.2.2 m 32 = .ref c200 → h319.2.2.2.2 m 33 = .ref c266 → h319.2.2.2.2 m 23 = .int (zi (0 + (((zup w (8 * hb0)) * hb0) * ((zup hh (8 * vb0)) * vb0)))) → gEl ty 12 0 hb0 hb0 h319 → gEl ty 13 0 vb0 vb0 h319 → gEl ty 14 0 0 3 h319 → gEl ty 15 0 ((zup w (8 * hb0)) * hb0) ((zup w (8 * hb0)) * hb0) h319 → gEl ty 16 0 ((zup hh (8 * vb0)) * vb0) ((zup hh (8 * vb0)) * vb0) h319 → gEl ty 17 0 (zup (zup (w * hb0) hb0) 8) (zup (zup (w * hb0) hb0) 8) h319 → gEl ty 18 0 (zup (zup (hh * vb0) vb0) 8) (zup (zup (hh * vb0) vb0) 8) h319 → gEl ty 19 0 0 0 h319 → gz gPP gGG gcn (d + 1) gt167 258 [some (.ref m), some (.int (zi kc))] [] h319 (fun q _ => gSs rT 1027 ty [1021, 1022, 1023, 1024, 15999, 16999, 17999, 18999, 19999, 23999, 24999] h q.2.2 ∧ ∃ wd hg : Int, gfin gt167 q.1 q.2.1 = some none ∧ q.2.2.2.2.2.2 m 21 = .int (zi wd) ∧ 0 ≤ wd ∧ wd ≤ 2 ∧ q.2.2.2.2.2.2 m 22 = .int (zi hg) ∧ 0 ≤ hg ∧ hg ≤ 2 ∧ (gPic ty w hh wd hg bs q.2.2)) := by
    intro fu
    induction fu with
    | zero => intro h319 kc hm; exact absurd hm (Nat.not_lt_zero _)
    | succ fu ihlp318 =>
      intro h319 kc lp318m sh319 lp318f0 lp318k0 lp318k1 lp318k2 lp318k3 lp318k4 lp318k5 lp318k6 lp318k7 lp318k8 lp318k9 lp318k10 lp318k11 lp318k12 lp318k13 lp318k14 lp318k15 lp318k16 lp318k17 lp318k18 lp318k19 lp318k20 lp318k21
      refine gz_s 3 (pc' := 262) (L' := [some (.ref m), some (.int (zi kc))]) (S' := [.ref m, .int (zi 64), .int (zi kc)]) rfl ?_
      refine gs_gtk rfl (by decide) rfl sh319.1 tm rfl rfl lp318k13 ?_
      refine gy_s 1 (pc' := 266) (L' := [some (.ref m), some (.int (zi kc))]) (S' := [.int ((zi 64) * (zi (0 + (((zup w (8 * hb0)) * hb0) * ((zup hh (8 * vb0)) * vb0))))), .int (zi kc)]) (L2 := [some (.ref m), some (.int (zi kc))]) (S2 := [.int (zi (64 * (0 + (((zup w (8 * hb0)) * hb0) * ((zup hh (8 * vb0)) * vb0))))), .int (zi kc)]) rfl (by simp only [zi_add, zi_sub, zi_mul, zi_neg, zi_and1, zi_and7, zi_and15, zi_and31, zi_and255, Int.reduceAdd, Int.reduceMul, Int.reduceSub]) (by simp only [zi_add, zi_sub, zi_mul, zi_neg, zi_and1, zi_and7, zi_and15, zi_and31, zi_and255, Int.reduceAdd, Int.reduceMul, Int.reduceSub]) ?_
      by_cases hc320 : (64 * (0 + (((zup w (8 * hb0)) * hb0) * ((zup hh (8 * vb0)) * vb0))) : Int) ≤ kc
      · refine gy_icT (pc' := 282) rfl (by decide) (by decide) (by omega) (by omega) hc320 ?_
        refine gz_s 2 (pc' := 284) (L' := [some (.ref m), some (.int (zi 0))]) (S' := []) rfl ?_
        have lp321 : ∀ (fu : Nat) (h322 : gH) (kd : Int), (193 - kd).toNat < fu → gSs rT 1027 ty [1021, 1022, 1023, 1024, 15999, 16999, 17999, 18999, 19999, 23999, 24999] h h322 → (0 ≤ kd ∧ kd ≤ 192) → h322.2.2.2.2 m 18 = .int (zi w) → h322.2.2.2.2 m 19 = .int (zi hh) → h322.2.2.2.2 m 20 = .int (zi bs) → h322.2.2.2.2 m 26 = .ref c16 → h322.2.2.2.2 m 21 = .int (zi hb0) → h322.2.2.2.2 m 27 = .ref c30 → h322.2.2.2.2 m 22 = .int (zi vb0) → h322.2.2.2.2 m 24 = .int (zi 0) → h322.2.2.2.2 m 29 = .ref c68 → h322.2.2.2.2 m 30 = .ref c102 → h322.2.2.2.2 m 31 = .ref c140 → h322.2.2.2.2 m 32 = .ref c200 → h322.2.2.2.2 m 33 = .ref c266 → h322.2.2.2.2 m 23 = .int (zi (0 + (((zup w (8 * hb0)) * hb0) * ((zup hh (8 * vb0)) * vb0)))) → gEl ty 12 0 hb0 hb0 h322 → gEl ty 13 0 vb0 vb0 h322 → gEl ty 14 0 0 3 h322 → gEl ty 15 0 ((zup w (8 * hb0)) * hb0) ((zup w (8 * hb0)) * hb0) h322 → gEl ty 16 0 ((zup hh (8 * vb0)) * vb0) ((zup hh (8 * vb0)) * vb0) h322 → gEl ty 17 0 (zup (zup (w * hb0) hb0) 8) (zup (zup (w * hb0) hb0) 8) h322 → gEl ty 18 0 (zup (zup (hh * vb0) vb0) 8) (zup (zup (hh * vb0) vb0) 8) h322 → gEl ty 19 0 0 0 h322 → gz gPP gGG gcn (d + 1) gt167 284 [some (.ref m), some (.int (zi kd))] [] h322 (fun q _ => gSs rT 1027 ty [1021, 1022, 1023, 1024, 15999, 16999, 17999, 18999, 19999, 23999, 24999] h q.2.2 ∧ ∃ wd hg : Int, gfin gt167 q.1 q.2.1 = some none ∧ q.2.2.2.2.2.2 m 21 = .int (zi wd) ∧ 0 ≤ wd ∧ wd ≤ 2 ∧ q.2.2.2.2.2.2 m 22 = .int (zi hg) ∧ 0 ≤ hg ∧ hg ≤ 2 ∧ (gPic ty w hh wd hg bs q.2.2)) := by
          intro fu
          induction fu with
          | zero => intro h322 kd hm; exact absurd hm (Nat.not_lt_zero _)
          | succ fu ihlp321 =>
            intro h322 kd lp321m sh322 lp321f0 lp321k0 lp321k1 lp321k2 lp321k3 lp321k4 lp321k5 lp321k6 lp321k7 lp321k8 lp321k9 lp321k10 lp321k11 lp321k12 lp321k13 lp321k14 lp321k15 lp321k16 lp321k17 lp321k18 lp321k19 lp321k20 lp321k21
            refine gz_s 2 (pc' := 286) (L' := [some (.ref m), some (.int (zi kd))]) (S' := [.ref m, .int (zi kd)]) rfl ?_
            refine gs_gtk rfl (by decide) rfl sh322.1 tm rfl rfl lp321k13 ?_
            by_cases hc323 : (0 + (((zup w (8 * hb0)) * hb0) * ((zup hh (8 * vb0)) * vb0)) : Int) ≤ kd
            · refine gy_icT (pc' := 305) rfl (by decide) (by decide) (by omega) (by omega) hc323 ?_
              have hpost324 : gPic ty w hh hb0 vb0 bs h322 := by
                refine ⟨by omega, fun b h0 h1 => ?_⟩
                obtain rfl : b = 0 := by omega
                exact ⟨hb0, vb0, (zup w (8 * hb0)) * hb0, (zup hh (8 * vb0)) * vb0, zup (zup (w * hb0) hb0) 8, zup (zup (hh * vb0) vb0) 8, 0, lp321k14, lp321k15, lp321k17, lp321k18, lp321k19, lp321k20, lp321k21, lp321k16, by unfold gPk; omega⟩
              exact gz_end (I := .return_) (len := 1) rfl (Or.inl rfl) ⟨sh322, hb0, vb0, rfl, lp321k4, (by omega), (by omega), lp321k6, (by omega), (by omega), hpost324⟩
            · refine gy_icF rfl (by decide) (by decide) (by omega) (by omega) hc323 ?_
              refine gz_s 1 (pc' := 293) (L' := [some (.ref m), some (.int (zi kd))]) (S' := [.ref m]) rfl ?_
              refine gs_gtr rfl (by decide) rfl sh322.1 tm rfl rfl rfl (fun c325 ec325 tc325 => ?_)
              refine gz_s 2 (pc' := 298) (L' := [some (.ref m), some (.int (zi kd))]) (S' := [.int (zi 0), .int (zi kd), .ref c325]) rfl ?_
              have hl326 : 192 ≤ h322.2.2.2.1 c325 ∧ h322.2.2.2.1 c325 ≤ 192 := gJ.rowl (G := gGG) sh322.1 tc325 rfl
              refine gs_zast rfl (by decide) sh322 tc325 rfl rfl rfl (by decide) (fun _ => rfl) (by omega) (by omega) (fun _ => (by decide : (24999 : Nat) ∈ ([1021, 1022, 1023, 1024, 15999, 16999, 17999, 18999, 19999, 23999, 24999] : List Nat))) (by omega) (by omega) (by omega) (fun h327 sh327 eh327 fh327 => ?_)
              have pr328 := gEl.pt fh327 tc325 (by decide) lp321k14
              have pr329 := gEl.pt fh327 tc325 (by decide) lp321k15
              have pr330 := gEl.pt fh327 tc325 (by decide) lp321k16
              have pr331 := gEl.pt fh327 tc325 (by decide) lp321k17
              have pr332 := gEl.pt fh327 tc325 (by decide) lp321k18
              have pr333 := gEl.pt fh327 tc325 (by decide) lp321k19
              have pr334 := gEl.pt fh327 tc325 (by decide) lp321k20
              have pr335 := gEl.pt fh327 tc325 (by decide) lp321k21
              have s336 := (fh327 m 18 (fun q => absurd (((tm).symm.trans (congrArg ty q.1)).trans tc325) (by decide))).trans lp321k0
              have s337 := (fh327 m 19 (fun q => absurd (((tm).symm.trans (congrArg ty q.1)).trans tc325) (by decide))).trans lp321k1
              have s338 := (fh327 m 20 (fun q => absurd (((tm).symm.trans (congrArg ty q.1)).trans tc325) (by decide))).trans lp321k2
              have s339 := (fh327 m 26 (fun q => absurd (((tm).symm.trans (congrArg ty q.1)).trans tc325) (by decide))).trans lp321k3
              have s340 := (fh327 m 21 (fun q => absurd (((tm).symm.trans (congrArg ty q.1)).trans tc325) (by decide))).trans lp321k4
              have s341 := (fh327 m 27 (fun q => absurd (((tm).symm.trans (congrArg ty q.1)).trans tc325) (by decide))).trans lp321k5
              have s342 := (fh327 m 22 (fun q => absurd (((tm).symm.trans (congrArg ty q.1)).trans tc325) (by decide))).trans lp321k6
              have s343 := (fh327 m 24 (fun q => absurd (((tm).symm.trans (congrArg ty q.1)).trans tc325) (by decide))).trans lp321k7
              have s344 := (fh327 m 29 (fun q => absurd (((tm).symm.trans (congrArg ty q.1)).trans tc325) (by decide))).trans lp321k8
              have s345 := (fh327 m 30 (fun q => absurd (((tm).symm.trans (congrArg ty q.1)).trans tc325) (by decide))).trans lp321k9
              have s346 := (fh327 m 31 (fun q => absurd (((tm).symm.trans (congrArg ty q.1)).trans tc325) (by decide))).trans lp321k10
              have s347 := (fh327 m 32 (fun q => absurd (((tm).symm.trans (congrArg ty q.1)).trans tc325) (by decide))).trans lp321k11
              have s348 := (fh327 m 33 (fun q => absurd (((tm).symm.trans (congrArg ty q.1)).trans tc325) (by decide))).trans lp321k12
              have s349 := (fh327 m 23 (fun q => absurd (((tm).symm.trans (congrArg ty q.1)).trans tc325) (by decide))).trans lp321k13
              have s350 := (fh327 m 38 (fun q => absurd (((tm).symm.trans (congrArg ty q.1)).trans tc325) (by decide))).trans ec325
              refine gy_s 2 (pc' := 284) (L' := [some (.ref m), some (.int ((zi kd) + zi 1))]) (S' := []) (L2 := [some (.ref m), some (.int (zi (kd + 1)))]) (S2 := []) rfl (by simp only [zi_add, zi_sub, zi_mul, zi_neg, zi_and1, zi_and7, zi_and15, zi_and31, zi_and255, Int.reduceAdd, Int.reduceMul, Int.reduceSub]) (by simp only [zi_add, zi_sub, zi_mul, zi_neg, zi_and1, zi_and7, zi_and15, zi_and31, zi_and255, Int.reduceAdd, Int.reduceMul, Int.reduceSub]) ?_
              exact gz_wk (ihlp321 h327 (kd + 1) (by omega) sh327 (by omega) s336 s337 s338 s339 s340 s341 s342 s343 s344 s345 s346 s347 s348 s349 pr328 pr329 pr330 pr331 pr332 pr333 pr334 pr335) (gLw.s (gLw.s gLw.z))
        exact gz_wk (lp321 _ h319 0 (Nat.lt_succ_self _) sh319 (by omega) lp318k0 lp318k1 lp318k2 lp318k3 lp318k4 lp318k5 lp318k6 lp318k7 lp318k8 lp318k9 lp318k10 lp318k11 lp318k12 lp318k13 lp318k14 lp318k15 lp318k16 lp318k17 lp318k18 lp318k19 lp318k20 lp318k21) (gLw.s (gLw.s gLw.z))
      · refine gy_icF rfl (by decide) (by decide) (by omega) (by omega) hc320 ?_
        refine gz_s 1 (pc' := 270) (L' := [some (.ref m), some (.int (zi kc))]) (S' := [.ref m]) rfl ?_
        refine gs_gtr rfl (by decide) rfl sh319.1 tm rfl rfl rfl (fun c351 ec351 tc351 => ?_)
        refine gz_s 2 (pc' := 275) (L' := [some (.ref m), some (.int (zi kc))]) (S' := [.int (zi 0), .int (zi kc), .ref c351]) rfl ?_
        have hl352 : 12288 ≤ h319.2.2.2.1 c351 ∧ h319.2.2.2.1 c351 ≤ 12288 := gJ.rowl (G := gGG) sh319.1 tc351 rfl
        refine gs_ast rfl (by decide) sh319 tc351 rfl rfl rfl (by decide) (fun _ => rfl) (by omega) (by omega) (fun _ => (by decide : (23999 : Nat) ∈ ([1021, 1022, 1023, 1024, 15999, 16999, 17999, 18999, 19999, 23999, 24999] : List Nat))) (by omega) (by omega) (fun h353 sh353 eh353 fh353 => ?_)
        have pr354 := gEl.pt fh353 tc351 (by decide) lp318k14
        have pr355 := gEl.pt fh353 tc351 (by decide) lp318k15
        have pr356 := gEl.pt fh353 tc351 (by decide) lp318k16
        have pr357 := gEl.pt fh353 tc351 (by decide) lp318k17
        have pr358 := gEl.pt fh353 tc351 (by decide) lp318k18
        have pr359 := gEl.pt fh353 tc351 (by decide) lp318k19
        have pr360 := gEl.pt fh353 tc351 (by decide) lp318k20
        have pr361 := gEl.pt fh353 tc351 (by decide) lp318k21
        have s362 := (fh353 m 18 (fun q => absurd (((tm).symm.trans (congrArg ty q.1)).trans tc351) (by decide))).trans lp318k0
        have s363 := (fh353 m 19 (fun q => absurd (((tm).symm.trans (congrArg ty q.1)).trans tc351) (by decide))).trans lp318k1
        have s364 := (fh353 m 20 (fun q => absurd (((tm).symm.trans (congrArg ty q.1)).trans tc351) (by decide))).trans lp318k2
        have s365 := (fh353 m 26 (fun q => absurd (((tm).symm.trans (congrArg ty q.1)).trans tc351) (by decide))).trans lp318k3
        have s366 := (fh353 m 21 (fun q => absurd (((tm).symm.trans (congrArg ty q.1)).trans tc351) (by decide))).trans lp318k4
        have s367 := (fh353 m 27 (fun q => absurd (((tm).symm.trans (congrArg ty q.1)).trans tc351) (by decide))).trans lp318k5
        have s368 := (fh353 m 22 (fun q => absurd (((tm).symm.trans (congrArg ty q.1)).trans tc351) (by decide))).trans lp318k6
        have s369 := (fh353 m 24 (fun q => absurd (((tm).symm.trans (congrArg ty q.1)).trans tc351) (by decide))).trans lp318k7
        have s370 := (fh353 m 29 (fun q => absurd (((tm).symm.trans (congrArg ty q.1)).trans tc351) (by decide))).trans lp318k8
        have s371 := (fh353 m 30 (fun q => absurd (((tm).symm.trans (congrArg ty q.1)).trans tc351) (by decide))).trans lp318k9
        have s372 := (fh353 m 31 (fun q => absurd (((tm).symm.trans (congrArg ty q.1)).trans tc351) (by decide))).trans lp318k10
        have s373 := (fh353 m 32 (fun q => absurd (((tm).symm.trans (congrArg ty q.1)).trans tc351) (by decide))).trans lp318k11
        have s374 := (fh353 m 33 (fun q => absurd (((tm).symm.trans (congrArg ty q.1)).trans tc351) (by decide))).trans lp318k12
        have s375 := (fh353 m 23 (fun q => absurd (((tm).symm.trans (congrArg ty q.1)).trans tc351) (by decide))).trans lp318k13
        have s376 := (fh353 m 37 (fun q => absurd (((tm).symm.trans (congrArg ty q.1)).trans tc351) (by decide))).trans ec351
        have pr377 := gEl.set (i := kc) (z := 0) uq tc351 (by decide) eh353 (by omega) (by omega)
        refine gy_s 2 (pc' := 258) (L' := [some (.ref m), some (.int ((zi kc) + zi 1))]) (S' := []) (L2 := [some (.ref m), some (.int (zi (kc + 1)))]) (S2 := []) rfl (by simp only [zi_add, zi_sub, zi_mul, zi_neg, zi_and1, zi_and7, zi_and15, zi_and31, zi_and255, Int.reduceAdd, Int.reduceMul, Int.reduceSub]) (by simp only [zi_add, zi_sub, zi_mul, zi_neg, zi_and1, zi_and7, zi_and15, zi_and31, zi_and255, Int.reduceAdd, Int.reduceMul, Int.reduceSub]) ?_
        exact gz_wk (ihlp318 h353 (kc + 1) (by omega) sh353 (by omega) s362 s363 s364 s365 s366 s367 s368 s369 s370 s371 s372 s373 s374 s375 pr354 pr355 pr356 pr357 pr358 pr359 pr360 pr361) (gLw.s (gLw.s gLw.z))
  exact gz_wk (lp318 _ h296 0 (Nat.lt_succ_self _) sh296 (by omega) s305 s306 s307 s308 s309 s310 s311 s312 s313 s314 s315 s316 s317 eh296 pr297 pr298 pr299 pr300 pr301 pr302 pr303 pr304) (gLw.s (gLw.s gLw.z))
set_option maxRecDepth 20000 in
set_option maxHeartbeats 4000000 in
theorem mm_layOut3 (d : Nat) {ty : Nat → Nat} {h : gH} (hJ : gJ rT 1027 ty h) (m : Nat) (tm : ty m = 1) (w : Int) (ew : h.2.2.2.2 m 18 = .int (zi w)) (rw : 1 ≤ w ∧ w ≤ 64) (hh : Int) (ehh : h.2.2.2.2 m 19 = .int (zi hh)) (rhh : 1 ≤ hh ∧ hh ≤ 64) (bs : Int) (ebs : h.2.2.2.2 m 20 = .int (zi bs)) (rbs : 3 ≤ bs ∧ bs ≤ 3) (hb0 : Int) (rhb0 : 1 ≤ hb0 ∧ hb0 ≤ 2) (vb0 : Int) (rvb0 : 1 ≤ vb0 ∧ vb0 ≤ 2) (hb1 : Int) (rhb1 : 1 ≤ hb1 ∧ hb1 ≤ 2) (vb1 : Int) (rvb1 : 1 ≤ vb1 ∧ vb1 ≤ 2) (hb2 : Int) (rhb2 : 1 ≤ hb2 ∧ hb2 ≤ 2) (vb2 : Int) (rvb2 : 1 ≤ vb2 ∧ vb2 ≤ 2) (uq : gUq ty) (el0 : gEl ty 12 0 hb0 hb0 h) (el1 : gEl ty 13 0 vb0 vb0 h) (el2 : gEl ty 14 0 0 3 h) (el3 : gEl ty 12 1 hb1 hb1 h) (el4 : gEl ty 13 1 vb1 vb1 h) (el5 : gEl ty 14 1 0 3 h) (el6 : gEl ty 12 2 hb2 hb2 h) (el7 : gEl ty 13 2 vb2 vb2 h) (el8 : gEl ty 14 2 0 3 h) : gz gPP gGG gcn (d + 1) gt167 0 (gent [.ref m] 2) [] h (fun q _ => gSs rT 1027 ty [1021, 1022, 1023, 1024, 15999, 16999, 17999, 18999, 19999, 23999, 24999] h q.2.2 ∧ ∃ wd hg : Int, gfin gt167 q.1 q.2.1 = some none ∧ q.2.2.2.2.2.2 m 21 = .int (zi wd) ∧ 0 ≤ wd ∧ wd ≤ 2 ∧ q.2.2.2.2.2.2 m 22 = .int (zi hg) ∧ 0 ≤ hg ∧ hg ≤ 2 ∧ (gPic ty w hh wd hg bs q.2.2)) := by
  have hS : gSs rT 1027 ty [1021, 1022, 1023, 1024, 15999, 16999, 17999, 18999, 19999, 23999, 24999] h h := gSs.rf hJ
  refine gz_s 2 (pc' := 2) (L' := [some (.ref m), none]) (S' := [.int (zi 0), .ref m]) rfl ?_
  refine gs_put rfl (by decide) rfl hS tm rfl rfl rfl rfl (Or.inl rfl) (by decide) (by omega) (by omega) (fun h1 sh1 eh1 fh1 => ?_)
  have pr2 := gEl.pt fh1 tm (by decide) el0
  have pr3 := gEl.pt fh1 tm (by decide) el1
  have pr4 := gEl.pt fh1 tm (by decide) el2
  have pr5 := gEl.pt fh1 tm (by decide) el3
  have pr6 := gEl.pt fh1 tm (by decide) el4
  have pr7 := gEl.pt fh1 tm (by decide) el5
  have pr8 := gEl.pt fh1 tm (by decide) el6
  have pr9 := gEl.pt fh1 tm (by decide) el7
  have pr10 := gEl.pt fh1 tm (by decide) el8
  have s11 := (fh1 m 18 (fun q => absurd q.2 (by decide))).trans ew
  have s12 := (fh1 m 19 (fun q => absurd q.2 (by decide))).trans ehh
  have s13 := (fh1 m 20 (fun q => absurd q.2 (by decide))).trans ebs
  refine gz_s 2 (pc' := 7) (L' := [some (.ref m), none]) (S' := [.int (zi 0), .ref m]) rfl ?_
  refine gs_put rfl (by decide) rfl sh1 tm rfl rfl rfl rfl (Or.inl rfl) (by decide) (by omega) (by omega) (fun h14 sh14 eh14 fh14 => ?_)
  have pr15 := gEl.pt fh14 tm (by decide) pr2
  have pr16 := gEl.pt fh14 tm (by decide) pr3
  have pr17 := gEl.pt fh14 tm (by decide) pr4
  have pr18 := gEl.pt fh14 tm (by decide) pr5
  have pr19 := gEl.pt fh14 tm (by decide) pr6
  have pr20 := gEl.pt fh14 tm (by decide) pr7
  have pr21 := gEl.pt fh14 tm (by decide) pr8
  have pr22 := gEl.pt fh14 tm (by decide) pr9
  have pr23 := gEl.pt fh14 tm (by decide) pr10
  have s24 := (fh14 m 18 (fun q => absurd q.2 (by decide))).trans s11
  have s25 := (fh14 m 19 (fun q => absurd q.2 (by decide))).trans s12
  have s26 := (fh14 m 20 (fun q => absurd q.2 (by decide))).trans s13
  have s27 := (fh14 m 21 (fun q => absurd q.2 (by decide))).trans eh1
  refine gz_s 4 (pc' := 14) (L' := [some (.ref m), some (.int (zi 0))]) (S' := [.ref m, .int (zi 0)]) rfl ?_
  refine gs_gtk rfl (by decide) rfl sh14.1 tm rfl rfl s26 ?_
  refine gy_icF rfl (by decide) (by decide) (by omega) (by omega) (by first | (simp [zc]; done) | (simp only [zc]; omega)) ?_
  refine gz_s 2 (pc' := 22) (L' := [some (.ref m), some (.int (zi 0))]) (S' := [.ref m, .ref m]) rfl ?_
  refine gs_gtr rfl (by decide) rfl sh14.1 tm rfl rfl rfl (fun c28 ec28 tc28 => ?_)
  refine gz_s 1 (pc' := 26) (L' := [some (.ref m), some (.int (zi 0))]) (S' := [.int (zi 0), .ref c28, .ref m]) rfl ?_
  have hl29 : 3 ≤ h14.2.2.2.1 c28 ∧ h14.2.2.2.1 c28 ≤ 3 := gJ.rowl (G := gGG) sh14.1 tc28 rfl
  refine gs_alx rfl (by decide) sh14.1 tc28 rfl rfl rfl (by decide) (fun _ => rfl) (by omega) (by omega) (by decide) pr15 (fun ex30 ax30 bx30 => ?_)
  refine gz_s 1 (pc' := 28) (L' := [some (.ref m), some (.int (zi 0))]) (S' := [.ref m, .int (zi hb0), .ref m]) rfl ?_
  refine gs_gtk rfl (by decide) rfl sh14.1 tm rfl rfl s27 ?_
  refine gy_icF rfl (by decide) (by decide) (by omega) (by omega) (by first | (simp [zc]; done) | (simp only [zc]; omega)) ?_
  refine gz_s 1 (pc' := 35) (L' := [some (.ref m), some (.int (zi 0))]) (S' := [.ref m, .ref m]) rfl ?_
  refine gs_gtk rfl (by decide) rfl sh14.1 tm rfl rfl ec28 ?_
  refine gz_s 1 (pc' := 39) (L' := [some (.ref m), some (.int (zi 0))]) (S' := [.int (zi 0), .ref c28, .ref m]) rfl ?_
  have hl31 : 3 ≤ h14.2.2.2.1 c28 ∧ h14.2.2.2.1 c28 ≤ 3 := gJ.rowl (G := gGG) sh14.1 tc28 rfl
  refine gs_alx rfl (by decide) sh14.1 tc28 rfl rfl rfl (by decide) (fun _ => rfl) (by omega) (by omega) (by decide) pr15 (fun ex32 ax32 bx32 => ?_)
  refine gz_s 1 (pc' := 47) (L' := [some (.ref m), some (.int (zi 0))]) (S' := [.int (zi hb0), .ref m]) rfl ?_
  refine gs_put rfl (by decide) rfl sh14 tm rfl rfl rfl rfl (Or.inl rfl) (by decide) (by omega) (by omega) (fun h33 sh33 eh33 fh33 => ?_)
  have pr34 := gEl.pt fh33 tm (by decide) pr15
  have pr35 := gEl.pt fh33 tm (by decide) pr16
  have pr36 := gEl.pt fh33 tm (by decide) pr17
  have pr37 := gEl.pt fh33 tm (by decide) pr18
  have pr38 := gEl.pt fh33 tm (by decide) pr19
  have pr39 := gEl.pt fh33 tm (by decide) pr20
  have pr40 := gEl.pt fh33 tm (by decide) pr21
  have pr41 := gEl.pt fh33 tm (by decide) pr22
  have pr42 := gEl.pt fh33 tm (by decide) pr23
  have s43 := (fh33 m 18 (fun q => absurd q.2 (by decide))).trans s24
  have s44 := (fh33 m 19 (fun q => absurd q.2 (by decide))).trans s25
  have s45 := (fh33 m 20 (fun q => absurd q.2 (by decide))).trans s26
  have s46 := (fh33 m 22 (fun q => absurd q.2 (by decide))).trans eh14
  have s47 := (fh33 m 26 (fun q => absurd q.2 (by decide))).trans ec28
  refine gz_s 2 (pc' := 52) (L' := [some (.ref m), some (.int (zi 0))]) (S' := [.ref m, .ref m]) rfl ?_
  refine gs_gtr rfl (by decide) rfl sh33.1 tm rfl rfl rfl (fun c48 ec48 tc48 => ?_)
  refine gz_s 1 (pc' := 56) (L' := [some (.ref m), some (.int (zi 0))]) (S' := [.int (zi 0), .ref c48, .ref m]) rfl ?_
  have hl49 : 3 ≤ h33.2.2.2.1 c48 ∧ h33.2.2.2.1 c48 ≤ 3 := gJ.rowl (G := gGG) sh33.1 tc48 rfl
  refine gs_alx rfl (by decide) sh33.1 tc48 rfl rfl rfl (by decide) (fun _ => rfl) (by omega) (by omega) (by decide) pr35 (fun ex50 ax50 bx50 => ?_)
  refine gz_s 1 (pc' := 58) (L' := [some (.ref m), some (.int (zi 0))]) (S' := [.ref m, .int (zi vb0), .ref m]) rfl ?_
  refine gs_gtk rfl (by decide) rfl sh33.1 tm rfl rfl s46 ?_
  refine gy_icF rfl (by decide) (by decide) (by omega) (by omega) (by first | (simp [zc]; done) | (simp only [zc]; omega)) ?_
  refine gz_s 1 (pc' := 65) (L' := [some (.ref m), some (.int (zi 0))]) (S' := [.ref m, .ref m]) rfl ?_
  refine gs_gtk rfl (by decide) rfl sh33.1 tm rfl rfl ec48 ?_
  refine gz_s 1 (pc' := 69) (L' := [some (.ref m), some (.int (zi 0))]) (S' := [.int (zi 0), .ref c48, .ref m]) rfl ?_
  have hl51 : 3 ≤ h33.2.2.2.1 c48 ∧ h33.2.2.2.1 c48 ≤ 3 := gJ.rowl (G := gGG) sh33.1 tc48 rfl
  refine gs_alx rfl (by decide) sh33.1 tc48 rfl rfl rfl (by decide) (fun _ => rfl) (by omega) (by omega) (by decide) pr35 (fun ex52 ax52 bx52 => ?_)
  refine gz_s 1 (pc' := 77) (L' := [some (.ref m), some (.int (zi 0))]) (S' := [.int (zi vb0), .ref m]) rfl ?_
  refine gs_put rfl (by decide) rfl sh33 tm rfl rfl rfl rfl (Or.inl rfl) (by decide) (by omega) (by omega) (fun h53 sh53 eh53 fh53 => ?_)
  have pr54 := gEl.pt fh53 tm (by decide) pr34
  have pr55 := gEl.pt fh53 tm (by decide) pr35
  have pr56 := gEl.pt fh53 tm (by decide) pr36
  have pr57 := gEl.pt fh53 tm (by decide) pr37
  have pr58 := gEl.pt fh53 tm (by decide) pr38
  have pr59 := gEl.pt fh53 tm (by decide) pr39
  have pr60 := gEl.pt fh53 tm (by decide) pr40
  have pr61 := gEl.pt fh53 tm (by decide) pr41
  have pr62 := gEl.pt fh53 tm (by decide) pr42
  have s63 := (fh53 m 18 (fun q => absurd q.2 (by decide))).trans s43
  have s64 := (fh53 m 19 (fun q => absurd q.2 (by decide))).trans s44
  have s65 := (fh53 m 20 (fun q => absurd q.2 (by decide))).trans s45
  have s66 := (fh53 m 26 (fun q => absurd q.2 (by decide))).trans s47
  have s67 := (fh53 m 21 (fun q => absurd q.2 (by decide))).trans eh33
  have s68 := (fh53 m 27 (fun q => absurd q.2 (by decide))).trans ec48
  refine gy_s 4 (pc' := 14) (L' := [some (.ref m), some (.int ((zi 0) + zi 1))]) (S' := [.ref m, .int ((zi 0) + zi 1)]) (L2 := [some (.ref m), some (.int (zi 1))]) (S2 := [.ref m, .int (zi 1)]) rfl (by simp only [zi_add, zi_sub, zi_mul, zi_neg, zi_and1, zi_and7, zi_and15, zi_and31, zi_and255, Int.reduceAdd, Int.reduceMul, Int.reduceSub]) (by simp only [zi_add, zi_sub, zi_mul, zi_neg, zi_and1, zi_and7, zi_and15, zi_and31, zi_and255, Int.reduceAdd, Int.reduceMul, Int.reduceSub]) ?_
  refine gs_gtk rfl (by decide) rfl sh53.1 tm rfl rfl s65 ?_
  refine gy_icF rfl (by decide) (by decide) (by omega) (by omega) (by first | (simp [zc]; done) | (simp only [zc]; omega)) ?_
  refine gz_s 2 (pc' := 22) (L' := [some (.ref m), some (.int (zi 1))]) (S' := [.ref m, .ref m]) rfl ?_
  refine gs_gtk rfl (by decide) rfl sh53.1 tm rfl rfl s66 ?_
  refine gz_s 1 (pc' := 26) (L' := [some (.ref m), some (.int (zi 1))]) (S' := [.int (zi 1), .ref c28, .ref m]) rfl ?_
  have hl69 : 3 ≤ h53.2.2.2.1 c28 ∧ h53.2.2.2.1 c28 ≤ 3 := gJ.rowl (G := gGG) sh53.1 tc28 rfl
  refine gs_alx rfl (by decide) sh53.1 tc28 rfl rfl rfl (by decide) (fun _ => rfl) (by omega) (by omega) (by decide) pr57 (fun ex70 ax70 bx70 => ?_)
  refine gz_s 1 (pc' := 28) (L' := [some (.ref m), some (.int (zi 1))]) (S' := [.ref m, .int (zi hb1), .ref m]) rfl ?_
  refine gs_gtk rfl (by decide) rfl sh53.1 tm rfl rfl s67 ?_
  have jn71 : ∀ (jn71v0 : Int), ((hb1 ≤ jn71v0) ∧ (hb0 ≤ jn71v0) ∧ (1 ≤ jn71v0) ∧ (jn71v0 ≤ 2)) → gz gPP gGG gcn (d + 1) gt167 47 [some (.ref m), some (.int (zi 1))] [.int (zi jn71v0), .ref m] h53 (fun q _ => gSs rT 1027 ty [1021, 1022, 1023, 1024, 15999, 16999, 17999, 18999, 19999, 23999, 24999] h q.2.2 ∧ ∃ wd hg : Int, gfin gt167 q.1 q.2.1 = some none ∧ q.2.2.2.2.2.2 m 21 = .int (zi wd) ∧ 0 ≤ wd ∧ wd ≤ 2 ∧ q.2.2.2.2.2.2 m 22 = .int (zi hg) ∧ 0 ≤ hg ∧ hg ≤ 2 ∧ (gPic ty w hh wd hg bs q.2.2)) := by
    intro jn71v0 jn71d
    refine gs_put rfl (by decide) rfl sh53 tm rfl rfl rfl rfl (Or.inl rfl) (by decide) (by omega) (by omega) (fun h72 sh72 eh72 fh72 => ?_)
    have pr73 := gEl.pt fh72 tm (by decide) pr54
    have pr74 := gEl.pt fh72 tm (by decide) pr55
    have pr75 := gEl.pt fh72 tm (by decide) pr56
    have pr76 := gEl.pt fh72 tm (by decide) pr57
    have pr77 := gEl.pt fh72 tm (by decide) pr58
    have pr78 := gEl.pt fh72 tm (by decide) pr59
    have pr79 := gEl.pt fh72 tm (by decide) pr60
    have pr80 := gEl.pt fh72 tm (by decide) pr61
    have pr81 := gEl.pt fh72 tm (by decide) pr62
    have s82 := (fh72 m 18 (fun q => absurd q.2 (by decide))).trans s63
    have s83 := (fh72 m 19 (fun q => absurd q.2 (by decide))).trans s64
    have s84 := (fh72 m 20 (fun q => absurd q.2 (by decide))).trans s65
    have s85 := (fh72 m 26 (fun q => absurd q.2 (by decide))).trans s66
    have s86 := (fh72 m 27 (fun q => absurd q.2 (by decide))).trans s68
    have s87 := (fh72 m 22 (fun q => absurd q.2 (by decide))).trans eh53
    refine gz_s 2 (pc' := 52) (L' := [some (.ref m), some (.int (zi 1))]) (S' := [.ref m, .ref m]) rfl ?_
    refine gs_gtk rfl (by decide) rfl sh72.1 tm rfl rfl s86 ?_
    refine gz_s 1 (pc' := 56) (L' := [some (.ref m), some (.int (zi 1))]) (S' := [.int (zi 1), .ref c48, .ref m]) rfl ?_
    have hl88 : 3 ≤ h72.2.2.2.1 c48 ∧ h72.2.2.2.1 c48 ≤ 3 := gJ.rowl (G := gGG) sh72.1 tc48 rfl
    refine gs_alx rfl (by decide) sh72.1 tc48 rfl rfl rfl (by decide) (fun _ => rfl) (by omega) (by omega) (by decide) pr77 (fun ex89 ax89 bx89 => ?_)
    refine gz_s 1 (pc' := 58) (L' := [some (.ref m), some (.int (zi 1))]) (S' := [.ref m, .int (zi vb1), .ref m]) rfl ?_
    refine gs_gtk rfl (by decide) rfl sh72.1 tm rfl rfl s87 ?_
    have jn90 : ∀ (jn90v0 : Int), ((vb1 ≤ jn90v0) ∧ (vb0 ≤ jn90v0) ∧ (1 ≤ jn90v0) ∧ (jn90v0 ≤ 2)) → gz gPP gGG gcn (d + 1) gt167 77 [some (.ref m), some (.int (zi 1))] [.int (zi jn90v0), .ref m] h72 (fun q _ => gSs rT 1027 ty [1021, 1022, 1023, 1024, 15999, 16999, 17999, 18999, 19999, 23999, 24999] h q.2.2 ∧ ∃ wd hg : Int, gfin gt167 q.1 q.2.1 = some none ∧ q.2.2.2.2.2.2 m 21 = .int (zi wd) ∧ 0 ≤ wd ∧ wd ≤ 2 ∧ q.2.2.2.2.2.2 m 22 = .int (zi hg) ∧ 0 ≤ hg ∧ hg ≤ 2 ∧ (gPic ty w hh wd hg bs q.2.2)) := by
      intro jn90v0 jn90d
      refine gs_put rfl (by decide) rfl sh72 tm rfl rfl rfl rfl (Or.inl rfl) (by decide) (by omega) (by omega) (fun h91 sh91 eh91 fh91 => ?_)
      have pr92 := gEl.pt fh91 tm (by decide) pr73
      have pr93 := gEl.pt fh91 tm (by decide) pr74
      have pr94 := gEl.pt fh91 tm (by decide) pr75
      have pr95 := gEl.pt fh91 tm (by decide) pr76
      have pr96 := gEl.pt fh91 tm (by decide) pr77
      have pr97 := gEl.pt fh91 tm (by decide) pr78
      have pr98 := gEl.pt fh91 tm (by decide) pr79
      have pr99 := gEl.pt fh91 tm (by decide) pr80
      have pr100 := gEl.pt fh91 tm (by decide) pr81
      have s101 := (fh91 m 18 (fun q => absurd q.2 (by decide))).trans s82
      have s102 := (fh91 m 19 (fun q => absurd q.2 (by decide))).trans s83
      have s103 := (fh91 m 20 (fun q => absurd q.2 (by decide))).trans s84
      have s104 := (fh91 m 26 (fun q => absurd q.2 (by decide))).trans s85
      have s105 := (fh91 m 27 (fun q => absurd q.2 (by decide))).trans s86
      have s106 := (fh91 m 21 (fun q => absurd q.2 (by decide))).trans eh72
      refine gy_s 4 (pc' := 14) (L' := [some (.ref m), some (.int ((zi 1) + zi 1))]) (S' := [.ref m, .int ((zi 1) + zi 1)]) (L2 := [some (.ref m), some (.int (zi 2))]) (S2 := [.ref m, .int (zi 2)]) rfl (by simp only [zi_add, zi_sub, zi_mul, zi_neg, zi_and1, zi_and7, zi_and15, zi_and31, zi_and255, Int.reduceAdd, Int.reduceMul, Int.reduceSub]) (by simp only [zi_add, zi_sub, zi_mul, zi_neg, zi_and1, zi_and7, zi_and15, zi_and31, zi_and255, Int.reduceAdd, Int.reduceMul, Int.reduceSub]) ?_
      refine gs_gtk rfl (by decide) rfl sh91.1 tm rfl rfl s103 ?_
      refine gy_icF rfl (by decide) (by decide) (by omega) (by omega) (by first | (simp [zc]; done) | (simp only [zc]; omega)) ?_
      refine gz_s 2 (pc' := 22) (L' := [some (.ref m), some (.int (zi 2))]) (S' := [.ref m, .ref m]) rfl ?_
      refine gs_gtk rfl (by decide) rfl sh91.1 tm rfl rfl s104 ?_
      refine gz_s 1 (pc' := 26) (L' := [some (.ref m), some (.int (zi 2))]) (S' := [.int (zi 2), .ref c28, .ref m]) rfl ?_
      have hl107 : 3 ≤ h91.2.2.2.1 c28 ∧ h91.2.2.2.1 c28 ≤ 3 := gJ.rowl (G := gGG) sh91.1 tc28 rfl
      refine gs_alx rfl (by decide) sh91.1 tc28 rfl rfl rfl (by decide) (fun _ => rfl) (by omega) (by omega) (by decide) pr98 (fun ex108 ax108 bx108 => ?_)
      refine gz_s 1 (pc' := 28) (L' := [some (.ref m), some (.int (zi 2))]) (S' := [.ref m, .int (zi hb2), .ref m]) rfl ?_
      refine gs_gtk rfl (by decide) rfl sh91.1 tm rfl rfl s106 ?_
      have jn109 : ∀ (jn109v0 : Int), ((hb2 ≤ jn109v0) ∧ (jn71v0 ≤ jn109v0) ∧ (1 ≤ jn109v0) ∧ (jn109v0 ≤ 2)) → gz gPP gGG gcn (d + 1) gt167 47 [some (.ref m), some (.int (zi 2))] [.int (zi jn109v0), .ref m] h91 (fun q _ => gSs rT 1027 ty [1021, 1022, 1023, 1024, 15999, 16999, 17999, 18999, 19999, 23999, 24999] h q.2.2 ∧ ∃ wd hg : Int, gfin gt167 q.1 q.2.1 = some none ∧ q.2.2.2.2.2.2 m 21 = .int (zi wd) ∧ 0 ≤ wd ∧ wd ≤ 2 ∧ q.2.2.2.2.2.2 m 22 = .int (zi hg) ∧ 0 ≤ hg ∧ hg ≤ 2 ∧ (gPic ty w hh wd hg bs q.2.2)) := by
        intro jn109v0 jn109d
        refine gs_put rfl (by decide) rfl sh91 tm rfl rfl rfl rfl (Or.inl rfl) (by decide) (by omega) (by omega) (fun h110 sh110 eh110 fh110 => ?_)
        have pr111 := gEl.pt fh110 tm (by decide) pr92
        have pr112 := gEl.pt fh110 tm (by decide) pr93
        have pr113 := gEl.pt fh110 tm (by decide) pr94
        have pr114 := gEl.pt fh110 tm (by decide) pr95
        have pr115 := gEl.pt fh110 tm (by decide) pr96
        have pr116 := gEl.pt fh110 tm (by decide) pr97
        have pr117 := gEl.pt fh110 tm (by decide) pr98
        have pr118 := gEl.pt fh110 tm (by decide) pr99
        have pr119 := gEl.pt fh110 tm (by decide) pr100
        have s120 := (fh110 m 18 (fun q => absurd q.2 (by decide))).trans s101
        have s121 := (fh110 m 19 (fun q => absurd q.2 (by decide))).trans s102
        have s122 := (fh110 m 20 (fun q => absurd q.2 (by decide))).trans s103
        have s123 := (fh110 m 26 (fun q => absurd q.2 (by decide))).trans s104
        have s124 := (fh110 m 27 (fun q => absurd q.2 (by decide))).trans s105
        have s125 := (fh110 m 22 (fun q => absurd q.2 (by decide))).trans eh91
        refine gz_s 2 (pc' := 52) (L' := [some (.ref m), some (.int (zi 2))]) (S' := [.ref m, .ref m]) rfl ?_
        refine gs_gtk rfl (by decide) rfl sh110.1 tm rfl rfl s124 ?_
        refine gz_s 1 (pc' := 56) (L' := [some (.ref m), some (.int (zi 2))]) (S' := [.int (zi 2), .ref c48, .ref m]) rfl ?_
        have hl126 : 3 ≤ h110.2.2.2.1 c48 ∧ h110.2.2.2.1 c48 ≤ 3 := gJ.rowl (G := gGG) sh110.1 tc48 rfl
        refine gs_alx rfl (by decide) sh110.1 tc48 rfl rfl rfl (by decide) (fun _ => rfl) (by omega) (by omega) (by decide) pr118 (fun ex127 ax127 bx127 => ?_)
        refine gz_s 1 (pc' := 58) (L' := [some (.ref m), some (.int (zi 2))]) (S' := [.ref m, .int (zi vb2), .ref m]) rfl ?_
        refine gs_gtk rfl (by decide) rfl sh110.1 tm rfl rfl s125 ?_
        have jn128 : ∀ (jn128v0 : Int), ((vb2 ≤ jn128v0) ∧ (jn90v0 ≤ jn128v0) ∧ (1 ≤ jn128v0) ∧ (jn128v0 ≤ 2)) → gz gPP gGG gcn (d + 1) gt167 77 [some (.ref m), some (.int (zi 2))] [.int (zi jn128v0), .ref m] h110 (fun q _ => gSs rT 1027 ty [1021, 1022, 1023, 1024, 15999, 16999, 17999, 18999, 19999, 23999, 24999] h q.2.2 ∧ ∃ wd hg : Int, gfin gt167 q.1 q.2.1 = some none ∧ q.2.2.2.2.2.2 m 21 = .int (zi wd) ∧ 0 ≤ wd ∧ wd ≤ 2 ∧ q.2.2.2.2.2.2 m 22 = .int (zi hg) ∧ 0 ≤ hg ∧ hg ≤ 2 ∧ (gPic ty w hh wd hg bs q.2.2)) := by
          intro jn128v0 jn128d
          refine gs_put rfl (by decide) rfl sh110 tm rfl rfl rfl rfl (Or.inl rfl) (by decide) (by omega) (by omega) (fun h129 sh129 eh129 fh129 => ?_)
          have pr130 := gEl.pt fh129 tm (by decide) pr111
          have pr131 := gEl.pt fh129 tm (by decide) pr112
          have pr132 := gEl.pt fh129 tm (by decide) pr113
          have pr133 := gEl.pt fh129 tm (by decide) pr114
          have pr134 := gEl.pt fh129 tm (by decide) pr115
          have pr135 := gEl.pt fh129 tm (by decide) pr116
          have pr136 := gEl.pt fh129 tm (by decide) pr117
          have pr137 := gEl.pt fh129 tm (by decide) pr118
          have pr138 := gEl.pt fh129 tm (by decide) pr119
          have s139 := (fh129 m 18 (fun q => absurd q.2 (by decide))).trans s120
          have s140 := (fh129 m 19 (fun q => absurd q.2 (by decide))).trans s121
          have s141 := (fh129 m 20 (fun q => absurd q.2 (by decide))).trans s122
          have s142 := (fh129 m 26 (fun q => absurd q.2 (by decide))).trans s123
          have s143 := (fh129 m 27 (fun q => absurd q.2 (by decide))).trans s124
          have s144 := (fh129 m 21 (fun q => absurd q.2 (by decide))).trans eh110
          refine gy_s 4 (pc' := 14) (L' := [some (.ref m), some (.int ((zi 2) + zi 1))]) (S' := [.ref m, .int ((zi 2) + zi 1)]) (L2 := [some (.ref m), some (.int (zi 3))]) (S2 := [.ref m, .int (zi 3)]) rfl (by simp only [zi_add, zi_sub, zi_mul, zi_neg, zi_and1, zi_and7, zi_and15, zi_and31, zi_and255, Int.reduceAdd, Int.reduceMul, Int.reduceSub]) (by simp only [zi_add, zi_sub, zi_mul, zi_neg, zi_and1, zi_and7, zi_and15, zi_and31, zi_and255, Int.reduceAdd, Int.reduceMul, Int.reduceSub]) ?_
          refine gs_gtk rfl (by decide) rfl sh129.1 tm rfl rfl s141 ?_
          refine gy_icT (pc' := 86) rfl (by decide) (by decide) (by omega) (by omega) (by first | (simp [zc]; done) | (simp only [zc]; omega)) ?_
          refine gz_s 2 (pc' := 88) (L' := [some (.ref m), some (.int (zi 3))]) (S' := [.int (zi 0), .ref m]) rfl ?_
          refine gs_put rfl (by decide) rfl sh129 tm rfl rfl rfl rfl (Or.inl rfl) (by decide) (by omega) (by omega) (fun h145 sh145 eh145 fh145 => ?_)
          have pr146 := gEl.pt fh145 tm (by decide) pr130
          have pr147 := gEl.pt fh145 tm (by decide) pr131
          have pr148 := gEl.pt fh145 tm (by decide) pr132
          have pr149 := gEl.pt fh145 tm (by decide) pr133
          have pr150 := gEl.pt fh145 tm (by decide) pr134
          have pr151 := gEl.pt fh145 tm (by decide) pr135
          have pr152 := gEl.pt fh145 tm (by decide) pr136
          have pr153 := gEl.pt fh145 tm (by decide) pr137
          have pr154 := gEl.pt fh145 tm (by decide) pr138
          have s155 := (fh145 m 18 (fun q => absurd q.2 (by decide))).trans s139
          have s156 := (fh145 m 19 (fun q => absurd q.2 (by decide))).trans s140
          have s157 := (fh145 m 20 (fun q => absurd q.2 (by decide))).trans s141
          have s158 := (fh145 m 26 (fun q => absurd q.2 (by decide))).trans s142
          have s159 := (fh145 m 27 (fun q => absurd q.2 (by decide))).trans s143
          have s160 := (fh145 m 21 (fun q => absurd q.2 (by decide))).trans s144
          have s161 := (fh145 m 22 (fun q => absurd q.2 (by decide))).trans eh129
          refine gz_s 2 (pc' := 93) (L' := [some (.ref m), some (.int (zi 3))]) (S' := [.int (zi 0), .ref m]) rfl ?_
          refine gs_put rfl (by decide) rfl sh145 tm rfl rfl rfl rfl (Or.inl rfl) (by decide) (by omega) (by omega) (fun h162 sh162 eh162 fh162 => ?_)
          have pr163 := gEl.pt fh162 tm (by decide) pr146
          have pr164 := gEl.pt fh162 tm (by decide) pr147
          have pr165 := gEl.pt fh162 tm (by decide) pr148
          have pr166 := gEl.pt fh162 tm (by decide) pr149
          have pr167 := gEl.pt fh162 tm (by decide) pr150
          have pr168 := gEl.pt fh162 tm (by decide) pr151
          have pr169 := gEl.pt fh162 tm (by decide) pr152
          have pr170 := gEl.pt fh162 tm (by decide) pr153
          have pr171 := gEl.pt fh162 tm (by decide) pr154
          have s172 := (fh162 m 18 (fun q => absurd q.2 (by decide))).trans s155
          have s173 := (fh162 m 19 (fun q => absurd q.2 (by decide))).trans s156
          have s174 := (fh162 m 20 (fun q => absurd q.2 (by decide))).trans s157
          have s175 := (fh162 m 26 (fun q => absurd q.2 (by decide))).trans s158
          have s176 := (fh162 m 27 (fun q => absurd q.2 (by decide))).trans s159
          have s177 := (fh162 m 21 (fun q => absurd q.2 (by decide))).trans s160
          have s178 := (fh162 m 22 (fun q => absurd q.2 (by decide))).trans s161
          have s179 := (fh162 m 23 (fun q => absurd q.2 (by decide))).trans eh145
          refine gz_s 4 (pc' := 100) (L' := [some (.ref m), some (.int (zi 0))]) (S' := [.ref m, .int (zi 0)]) rfl ?_
          refine gs_gtk rfl (by decide) rfl sh162.1 tm rfl rfl s174 ?_
          refine gy_icF rfl (by decide) (by decide) (by omega) (by omega) (by first | (simp [zc]; done) | (simp only [zc]; omega)) ?_
          have zA := zup8 (w := w) (wd := jn109v0) (by omega) (by omega)
          have zB := zup8 (w := hh) (wd := jn128v0) (by omega) (by omega)
          have zC0 := zupC (w := w) (wd := jn109v0) (hb := hb0) (by omega) (by omega) (by omega) (by omega)
          have zR0 := zupC (w := hh) (wd := jn128v0) (hb := vb0) (by omega) (by omega) (by omega) (by omega)
          have zP0 := zb3 (a := (zup w (8 * jn109v0)) * hb0) (b := (zup hh (8 * jn128v0)) * vb0) (by omega) (by omega)
          refine gz_s 1 (pc' := 107) (L' := [some (.ref m), some (.int (zi 0))]) (S' := [.ref m]) rfl ?_
          refine gs_gtr rfl (by decide) rfl sh162.1 tm rfl rfl rfl (fun c180 ec180 tc180 => ?_)
          refine gz_s 2 (pc' := 112) (L' := [some (.ref m), some (.int (zi 0))]) (S' := [.ref m, .int (zi 0), .ref c180]) rfl ?_
          refine gs_gtk rfl (by decide) rfl sh162.1 tm rfl rfl s172 ?_
          refine gz_s 2 (pc' := 118) (L' := [some (.ref m), some (.int (zi 0))]) (S' := [.ref m, .int (zi 8), .int (zi w), .int (zi 0), .ref c180]) rfl ?_
          refine gs_gtk rfl (by decide) rfl sh162.1 tm rfl rfl s177 ?_
          refine gy_s 1 (pc' := 122) (L' := [some (.ref m), some (.int (zi 0))]) (S' := [.int ((zi 8) * (zi jn109v0)), .int (zi w), .int (zi 0), .ref c180]) (L2 := [some (.ref m), some (.int (zi 0))]) (S2 := [.int (zi (8 * jn109v0)), .int (zi w), .int (zi 0), .ref c180]) rfl (by simp only [zi_add, zi_sub, zi_mul, zi_neg, zi_and1, zi_and7, zi_and15, zi_and31, zi_and255, Int.reduceAdd, Int.reduceMul, Int.reduceSub]) (by simp only [zi_add, zi_sub, zi_mul, zi_neg, zi_and1, zi_and7, zi_and15, zi_and31, zi_and255, Int.reduceAdd, Int.reduceMul, Int.reduceSub]) ?_
          refine gz_call rfl (by decide) rfl (by decide) (by decide) (gcal_of rfl rfl rfl (Nat.le_of_ble_eq_true rfl) rfl) (mm_up _ sh162.1 w (by omega) (8 * jn109v0) (by omega) ) (fun q181 _ wq181 => ?_)
          obtain ⟨pq181, oq181, hq181⟩ := q181
          obtain ⟨xq181, zq181, gq181, aq181, bq181, uq181_0⟩ := wq181
          subst uq181_0
          refine ⟨_, gq181, ?_⟩
          show gz gPP gGG gcn _ _ 125 [some (.ref m), some (.int (zi 0))] [.int (zi (zup w (8 * jn109v0))), .int (zi 0), .ref c180] hq181 _
          have sq181 := gSs.tr sh162 xq181 (by decide)
          have s182 := (xq181.2.2.2.2.2 m 18 (by rw [tm]; decide)).trans s172
          have s183 := (xq181.2.2.2.2.2 m 19 (by rw [tm]; decide)).trans s173
          have s184 := (xq181.2.2.2.2.2 m 20 (by rw [tm]; decide)).trans s174
          have s185 := (xq181.2.2.2.2.2 m 26 (by rw [tm]; decide)).trans s175
          have s186 := (xq181.2.2.2.2.2 m 27 (by rw [tm]; decide)).trans s176
          have s187 := (xq181.2.2.2.2.2 m 21 (by rw [tm]; decide)).trans s177
          have s188 := (xq181.2.2.2.2.2 m 22 (by rw [tm]; decide)).trans s178
          have s189 := (xq181.2.2.2.2.2 m 23 (by rw [tm]; decide)).trans s179
          have s190 := (xq181.2.2.2.2.2 m 24 (by rw [tm]; decide)).trans eh162
          have s191 := (xq181.2.2.2.2.2 m 29 (by rw [tm]; decide)).trans ec180
          have pr192 := gEl.fr xq181.2 (by decide) (fun _ => rfl) pr163
          have pr193 := gEl.fr xq181.2 (by decide) (fun _ => rfl) pr164
          have pr194 := gEl.fr xq181.2 (by decide) (fun _ => rfl) pr165
          have pr195 := gEl.fr xq181.2 (by decide) (fun _ => rfl) pr166
          have pr196 := gEl.fr xq181.2 (by decide) (fun _ => rfl) pr167
          have pr197 := gEl.fr xq181.2 (by decide) (fun _ => rfl) pr168
          have pr198 := gEl.fr xq181.2 (by decide) (fun _ => rfl) pr169
          have pr199 := gEl.fr xq181.2 (by decide) (fun _ => rfl) pr170
          have pr200 := gEl.fr xq181.2 (by decide) (fun _ => rfl) pr171
          refine gz_s 1 (pc' := 126) (L' := [some (.ref m), some (.int (zi 0))]) (S' := [.ref m, .int (zi (zup w (8 * jn109v0))), .int (zi 0), .ref c180]) rfl ?_
          refine gs_gtk rfl (by decide) rfl sq181.1 tm rfl rfl s185 ?_
          refine gz_s 1 (pc' := 130) (L' := [some (.ref m), some (.int (zi 0))]) (S' := [.int (zi 0), .ref c28, .int (zi (zup w (8 * jn109v0))), .int (zi 0), .ref c180]) rfl ?_
          have hl201 : 3 ≤ hq181.2.2.2.1 c28 ∧ hq181.2.2.2.1 c28 ≤ 3 := gJ.rowl (G := gGG) sq181.1 tc28 rfl
          refine gs_alx rfl (by decide) sq181.1 tc28 rfl rfl rfl (by decide) (fun _ => rfl) (by omega) (by omega) (by decide) pr192 (fun ex202 ax202 bx202 => ?_)
          have hx203 := zx_f (a := zup w (8 * jn109v0)) (b := hb0) (A := 4097) (B := 2) (by omega) (by omega) (by omega) (by omega)
          refine gy_s 1 (pc' := 132) (L' := [some (.ref m), some (.int (zi 0))]) (S' := [.int ((zi (zup w (8 * jn109v0))) * (zi hb0)), .int (zi 0), .ref c180]) (L2 := [some (.ref m), some (.int (zi 0))]) (S2 := [.int (zi ((zup w (8 * jn109v0)) * hb0)), .int (zi 0), .ref c180]) rfl (by simp only [zi_add, zi_sub, zi_mul, zi_neg, zi_and1, zi_and7, zi_and15, zi_and31, zi_and255, Int.reduceAdd, Int.reduceMul, Int.reduceSub]) (by simp only [zi_add, zi_sub, zi_mul, zi_neg, zi_and1, zi_and7, zi_and15, zi_and31, zi_and255, Int.reduceAdd, Int.reduceMul, Int.reduceSub]) ?_
          have hl204 : 3 ≤ hq181.2.2.2.1 c180 ∧ hq181.2.2.2.1 c180 ≤ 3 := gJ.rowl (G := gGG) sq181.1 tc180 rfl
          refine gs_ast rfl (by decide) sq181 tc180 rfl rfl rfl (by decide) (fun _ => rfl) (by omega) (by omega) (fun _ => (by decide : (15999 : Nat) ∈ ([1021, 1022, 1023, 1024, 15999, 16999, 17999, 18999, 19999, 23999, 24999] : List Nat))) (by omega) (by omega) (fun h205 sh205 eh205 fh205 => ?_)
          have pr206 := gEl.pt fh205 tc180 (by decide) pr192
          have pr207 := gEl.pt fh205 tc180 (by decide) pr193
          have pr208 := gEl.pt fh205 tc180 (by decide) pr194
          have pr209 := gEl.pt fh205 tc180 (by decide) pr195
          have pr210 := gEl.pt fh205 tc180 (by decide) pr196
          have pr211 := gEl.pt fh205 tc180 (by decide) pr197
          have pr212 := gEl.pt fh205 tc180 (by decide) pr198
          have pr213 := gEl.pt fh205 tc180 (by decide) pr199
          have pr214 := gEl.pt fh205 tc180 (by decide) pr200
          have s215 := (fh205 m 18 (fun q => absurd (((tm).symm.trans (congrArg ty q.1)).trans tc180) (by decide))).trans s182
          have s216 := (fh205 m 19 (fun q => absurd (((tm).symm.trans (congrArg ty q.1)).trans tc180) (by decide))).trans s183
          have s217 := (fh205 m 20 (fun q => absurd (((tm).symm.trans (congrArg ty q.1)).trans tc180) (by decide))).trans s184
          have s218 := (fh205 m 26 (fun q => absurd (((tm).symm.trans (congrArg ty q.1)).trans tc180) (by decide))).trans s185
          have s219 := (fh205 m 27 (fun q => absurd (((tm).symm.trans (congrArg ty q.1)).trans tc180) (by decide))).trans s186
          have s220 := (fh205 m 21 (fun q => absurd (((tm).symm.trans (congrArg ty q.1)).trans tc180) (by decide))).trans s187
          have s221 := (fh205 m 22 (fun q => absurd (((tm).symm.trans (congrArg ty q.1)).trans tc180) (by decide))).trans s188
          have s222 := (fh205 m 23 (fun q => absurd (((tm).symm.trans (congrArg ty q.1)).trans tc180) (by decide))).trans s189
          have s223 := (fh205 m 24 (fun q => absurd (((tm).symm.trans (congrArg ty q.1)).trans tc180) (by decide))).trans s190
          have s224 := (fh205 m 29 (fun q => absurd (((tm).symm.trans (congrArg ty q.1)).trans tc180) (by decide))).trans s191
          have pr225 := gEl.set (i := 0) (z := (zup w (8 * jn109v0)) * hb0) uq tc180 (by decide) eh205 (by omega) (by omega)
          refine gz_s 1 (pc' := 134) (L' := [some (.ref m), some (.int (zi 0))]) (S' := [.ref m]) rfl ?_
          refine gs_gtr rfl (by decide) rfl sh205.1 tm rfl rfl rfl (fun c226 ec226 tc226 => ?_)
          refine gz_s 2 (pc' := 139) (L' := [some (.ref m), some (.int (zi 0))]) (S' := [.ref m, .int (zi 0), .ref c226]) rfl ?_
          refine gs_gtk rfl (by decide) rfl sh205.1 tm rfl rfl s216 ?_
          refine gz_s 2 (pc' := 145) (L' := [some (.ref m), some (.int (zi 0))]) (S' := [.ref m, .int (zi 8), .int (zi hh), .int (zi 0), .ref c226]) rfl ?_
          refine gs_gtk rfl (by decide) rfl sh205.1 tm rfl rfl s221 ?_
          refine gy_s 1 (pc' := 149) (L' := [some (.ref m), some (.int (zi 0))]) (S' := [.int ((zi 8) * (zi jn128v0)), .int (zi hh), .int (zi 0), .ref c226]) (L2 := [some (.ref m), some (.int (zi 0))]) (S2 := [.int (zi (8 * jn128v0)), .int (zi hh), .int (zi 0), .ref c226]) rfl (by simp only [zi_add, zi_sub, zi_mul, zi_neg, zi_and1, zi_and7, zi_and15, zi_and31, zi_and255, Int.reduceAdd, Int.reduceMul, Int.reduceSub]) (by simp only [zi_add, zi_sub, zi_mul, zi_neg, zi_and1, zi_and7, zi_and15, zi_and31, zi_and255, Int.reduceAdd, Int.reduceMul, Int.reduceSub]) ?_
          refine gz_call rfl (by decide) rfl (by decide) (by decide) (gcal_of rfl rfl rfl (Nat.le_of_ble_eq_true rfl) rfl) (mm_up _ sh205.1 hh (by omega) (8 * jn128v0) (by omega) ) (fun q227 _ wq227 => ?_)
          obtain ⟨pq227, oq227, hq227⟩ := q227
          obtain ⟨xq227, zq227, gq227, aq227, bq227, uq227_0⟩ := wq227
          subst uq227_0
          refine ⟨_, gq227, ?_⟩
          show gz gPP gGG gcn _ _ 152 [some (.ref m), some (.int (zi 0))] [.int (zi (zup hh (8 * jn128v0))), .int (zi 0), .ref c226] hq227 _
          have sq227 := gSs.tr sh205 xq227 (by decide)
          have s228 := (xq227.2.2.2.2.2 m 18 (by rw [tm]; decide)).trans s215
          have s229 := (xq227.2.2.2.2.2 m 19 (by rw [tm]; decide)).trans s216
          have s230 := (xq227.2.2.2.2.2 m 20 (by rw [tm]; decide)).trans s217
          have s231 := (xq227.2.2.2.2.2 m 26 (by rw [tm]; decide)).trans s218
          have s232 := (xq227.2.2.2.2.2 m 27 (by rw [tm]; decide)).trans s219
          have s233 := (xq227.2.2.2.2.2 m 21 (by rw [tm]; decide)).trans s220
          have s234 := (xq227.2.2.2.2.2 m 22 (by rw [tm]; decide)).trans s221
          have s235 := (xq227.2.2.2.2.2 m 23 (by rw [tm]; decide)).trans s222
          have s236 := (xq227.2.2.2.2.2 m 24 (by rw [tm]; decide)).trans s223
          have s237 := (xq227.2.2.2.2.2 m 29 (by rw [tm]; decide)).trans s224
          have s238 := (xq227.2.2.2.2.2 m 30 (by rw [tm]; decide)).trans ec226
          have pr239 := gEl.fr xq227.2 (by decide) (fun _ => rfl) pr206
          have pr240 := gEl.fr xq227.2 (by decide) (fun _ => rfl) pr207
          have pr241 := gEl.fr xq227.2 (by decide) (fun _ => rfl) pr208
          have pr242 := gEl.fr xq227.2 (by decide) (fun _ => rfl) pr209
          have pr243 := gEl.fr xq227.2 (by decide) (fun _ => rfl) pr210
          have pr244 := gEl.fr xq227.2 (by decide) (fun _ => rfl) pr211
          have pr245 := gEl.fr xq227.2 (by decide) (fun _ => rfl) pr212
          have pr246 := gEl.fr xq227.2 (by decide) (fun _ => rfl) pr213
          have pr247 := gEl.fr xq227.2 (by decide) (fun _ => rfl) pr214
          have pr248 := gEl.fr xq227.2 (by decide) (fun _ => rfl) pr225
          refine gz_s 1 (pc' := 153) (L' := [some (.ref m), some (.int (zi 0))]) (S' := [.ref m, .int (zi (zup hh (8 * jn128v0))), .int (zi 0), .ref c226]) rfl ?_
          refine gs_gtk rfl (by decide) rfl sq227.1 tm rfl rfl s232 ?_
          refine gz_s 1 (pc' := 157) (L' := [some (.ref m), some (.int (zi 0))]) (S' := [.int (zi 0), .ref c48, .int (zi (zup hh (8 * jn128v0))), .int (zi 0), .ref c226]) rfl ?_
          have hl249 : 3 ≤ hq227.2.2.2.1 c48 ∧ hq227.2.2.2.1 c48 ≤ 3 := gJ.rowl (G := gGG) sq227.1 tc48 rfl
          refine gs_alx rfl (by decide) sq227.1 tc48 rfl rfl rfl (by decide) (fun _ => rfl) (by omega) (by omega) (by decide) pr240 (fun ex250 ax250 bx250 => ?_)
          have hx251 := zx_f (a := zup hh (8 * jn128v0)) (b := vb0) (A := 4097) (B := 2) (by omega) (by omega) (by omega) (by omega)
          refine gy_s 1 (pc' := 159) (L' := [some (.ref m), some (.int (zi 0))]) (S' := [.int ((zi (zup hh (8 * jn128v0))) * (zi vb0)), .int (zi 0), .ref c226]) (L2 := [some (.ref m), some (.int (zi 0))]) (S2 := [.int (zi ((zup hh (8 * jn128v0)) * vb0)), .int (zi 0), .ref c226]) rfl (by simp only [zi_add, zi_sub, zi_mul, zi_neg, zi_and1, zi_and7, zi_and15, zi_and31, zi_and255, Int.reduceAdd, Int.reduceMul, Int.reduceSub]) (by simp only [zi_add, zi_sub, zi_mul, zi_neg, zi_and1, zi_and7, zi_and15, zi_and31, zi_and255, Int.reduceAdd, Int.reduceMul, Int.reduceSub]) ?_
          have hl252 : 3 ≤ hq227.2.2.2.1 c226 ∧ hq227.2.2.2.1 c226 ≤ 3 := gJ.rowl (G := gGG) sq227.1 tc226 rfl
          refine gs_ast rfl (by decide) sq227 tc226 rfl rfl rfl (by decide) (fun _ => rfl) (by omega) (by omega) (fun _ => (by decide : (16999 : Nat) ∈ ([1021, 1022, 1023, 1024, 15999, 16999, 17999, 18999, 19999, 23999, 24999] : List Nat))) (by omega) (by omega) (fun h253 sh253 eh253 fh253 => ?_)
          have pr254 := gEl.pt fh253 tc226 (by decide) pr239
          have pr255 := gEl.pt fh253 tc226 (by decide) pr240
          have pr256 := gEl.pt fh253 tc226 (by decide) pr241
          have pr257 := gEl.pt fh253 tc226 (by decide) pr242
          have pr258 := gEl.pt fh253 tc226 (by decide) pr243
          have pr259 := gEl.pt fh253 tc226 (by decide) pr244
          have pr260 := gEl.pt fh253 tc226 (by decide) pr245
          have pr261 := gEl.pt fh253 tc226 (by decide) pr246
          have pr262 := gEl.pt fh253 tc226 (by decide) pr247
          have pr263 := gEl.pt fh253 tc226 (by decide) pr248
          have s264 := (fh253 m 18 (fun q => absurd (((tm).symm.trans (congrArg ty q.1)).trans tc226) (by decide))).trans s228
          have s265 := (fh253 m 19 (fun q => absurd (((tm).symm.trans (congrArg ty q.1)).trans tc226) (by decide))).trans s229
          have s266 := (fh253 m 20 (fun q => absurd (((tm).symm.trans (congrArg ty q.1)).trans tc226) (by decide))).trans s230
          have s267 := (fh253 m 26 (fun q => absurd (((tm).symm.trans (congrArg ty q.1)).trans tc226) (by decide))).trans s231
          have s268 := (fh253 m 27 (fun q => absurd (((tm).symm.trans (congrArg ty q.1)).trans tc226) (by decide))).trans s232
          have s269 := (fh253 m 21 (fun q => absurd (((tm).symm.trans (congrArg ty q.1)).trans tc226) (by decide))).trans s233
          have s270 := (fh253 m 22 (fun q => absurd (((tm).symm.trans (congrArg ty q.1)).trans tc226) (by decide))).trans s234
          have s271 := (fh253 m 23 (fun q => absurd (((tm).symm.trans (congrArg ty q.1)).trans tc226) (by decide))).trans s235
          have s272 := (fh253 m 24 (fun q => absurd (((tm).symm.trans (congrArg ty q.1)).trans tc226) (by decide))).trans s236
          have s273 := (fh253 m 29 (fun q => absurd (((tm).symm.trans (congrArg ty q.1)).trans tc226) (by decide))).trans s237
          have s274 := (fh253 m 30 (fun q => absurd (((tm).symm.trans (congrArg ty q.1)).trans tc226) (by decide))).trans s238
          have pr275 := gEl.set (i := 0) (z := (zup hh (8 * jn128v0)) * vb0) uq tc226 (by decide) eh253 (by omega) (by omega)
          refine gz_s 1 (pc' := 161) (L' := [some (.ref m), some (.int (zi 0))]) (S' := [.ref m]) rfl ?_
          refine gs_gtr rfl (by decide) rfl sh253.1 tm rfl rfl rfl (fun c276 ec276 tc276 => ?_)
          refine gz_s 2 (pc' := 166) (L' := [some (.ref m), some (.int (zi 0))]) (S' := [.ref m, .int (zi 0), .ref c276]) rfl ?_
          refine gs_gtk rfl (by decide) rfl sh253.1 tm rfl rfl s264 ?_
          refine gz_s 1 (pc' := 170) (L' := [some (.ref m), some (.int (zi 0))]) (S' := [.ref m, .int (zi w), .int (zi 0), .ref c276]) rfl ?_
          refine gs_gtk rfl (by decide) rfl sh253.1 tm rfl rfl s267 ?_
          refine gz_s 1 (pc' := 174) (L' := [some (.ref m), some (.int (zi 0))]) (S' := [.int (zi 0), .ref c28, .int (zi w), .int (zi 0), .ref c276]) rfl ?_
          have hl277 : 3 ≤ h253.2.2.2.1 c28 ∧ h253.2.2.2.1 c28 ≤ 3 := gJ.rowl (G := gGG) sh253.1 tc28 rfl
          refine gs_alx rfl (by decide) sh253.1 tc28 rfl rfl rfl (by decide) (fun _ => rfl) (by omega) (by omega) (by decide) pr254 (fun ex278 ax278 bx278 => ?_)
          have hx279 := zx_f (a := w) (b := hb0) (A := 64) (B := 2) (by omega) (by omega) (by omega) (by omega)
          refine gy_s 2 (pc' := 177) (L' := [some (.ref m), some (.int (zi 0))]) (S' := [.ref m, .int ((zi w) * (zi hb0)), .int (zi 0), .ref c276]) (L2 := [some (.ref m), some (.int (zi 0))]) (S2 := [.ref m, .int (zi (w * hb0)), .int (zi 0), .ref c276]) rfl (by simp only [zi_add, zi_sub, zi_mul, zi_neg, zi_and1, zi_and7, zi_and15, zi_and31, zi_and255, Int.reduceAdd, Int.reduceMul, Int.reduceSub]) (by simp only [zi_add, zi_sub, zi_mul, zi_neg, zi_and1, zi_and7, zi_and15, zi_and31, zi_and255, Int.reduceAdd, Int.reduceMul, Int.reduceSub]) ?_
          refine gs_gtk rfl (by decide) rfl sh253.1 tm rfl rfl s269 ?_
          refine gz_call rfl (by decide) rfl (by decide) (by decide) (gcal_of rfl rfl rfl (Nat.le_of_ble_eq_true rfl) rfl) (mm_up _ sh253.1 (w * hb0) (by omega) jn109v0 (by omega) ) (fun q280 _ wq280 => ?_)
          obtain ⟨pq280, oq280, hq280⟩ := q280
          obtain ⟨xq280, zq280, gq280, aq280, bq280, uq280_0⟩ := wq280
          subst uq280_0
          refine ⟨_, gq280, ?_⟩
          show gz gPP gGG gcn _ _ 183 [some (.ref m), some (.int (zi 0))] [.int (zi (zup (w * hb0) jn109v0)), .int (zi 0), .ref c276] hq280 _
          have sq280 := gSs.tr sh253 xq280 (by decide)
          have s281 := (xq280.2.2.2.2.2 m 18 (by rw [tm]; decide)).trans s264
          have s282 := (xq280.2.2.2.2.2 m 19 (by rw [tm]; decide)).trans s265
          have s283 := (xq280.2.2.2.2.2 m 20 (by rw [tm]; decide)).trans s266
          have s284 := (xq280.2.2.2.2.2 m 26 (by rw [tm]; decide)).trans s267
          have s285 := (xq280.2.2.2.2.2 m 27 (by rw [tm]; decide)).trans s268
          have s286 := (xq280.2.2.2.2.2 m 21 (by rw [tm]; decide)).trans s269
          have s287 := (xq280.2.2.2.2.2 m 22 (by rw [tm]; decide)).trans s270
          have s288 := (xq280.2.2.2.2.2 m 23 (by rw [tm]; decide)).trans s271
          have s289 := (xq280.2.2.2.2.2 m 24 (by rw [tm]; decide)).trans s272
          have s290 := (xq280.2.2.2.2.2 m 29 (by rw [tm]; decide)).trans s273
          have s291 := (xq280.2.2.2.2.2 m 30 (by rw [tm]; decide)).trans s274
          have s292 := (xq280.2.2.2.2.2 m 31 (by rw [tm]; decide)).trans ec276
          have pr293 := gEl.fr xq280.2 (by decide) (fun _ => rfl) pr254
          have pr294 := gEl.fr xq280.2 (by decide) (fun _ => rfl) pr255
          have pr295 := gEl.fr xq280.2 (by decide) (fun _ => rfl) pr256
          have pr296 := gEl.fr xq280.2 (by decide) (fun _ => rfl) pr257
          have pr297 := gEl.fr xq280.2 (by decide) (fun _ => rfl) pr258
          have pr298 := gEl.fr xq280.2 (by decide) (fun _ => rfl) pr259
          have pr299 := gEl.fr xq280.2 (by decide) (fun _ => rfl) pr260
          have pr300 := gEl.fr xq280.2 (by decide) (fun _ => rfl) pr261
          have pr301 := gEl.fr xq280.2 (by decide) (fun _ => rfl) pr262
          have pr302 := gEl.fr xq280.2 (by decide) (fun _ => rfl) pr263
          have pr303 := gEl.fr xq280.2 (by decide) (fun _ => rfl) pr275
          refine gz_s 1 (pc' := 185) (L' := [some (.ref m), some (.int (zi 0))]) (S' := [.int (zi 8), .int (zi (zup (w * hb0) jn109v0)), .int (zi 0), .ref c276]) rfl ?_
          refine gz_call rfl (by decide) rfl (by decide) (by decide) (gcal_of rfl rfl rfl (Nat.le_of_ble_eq_true rfl) rfl) (mm_up _ sq280.1 (zup (w * hb0) jn109v0) (by omega) 8 (by omega) ) (fun q304 _ wq304 => ?_)
          obtain ⟨pq304, oq304, hq304⟩ := q304
          obtain ⟨xq304, zq304, gq304, aq304, bq304, uq304_0⟩ := wq304
          subst uq304_0
          refine ⟨_, gq304, ?_⟩
          show gz gPP gGG gcn _ _ 188 [some (.ref m), some (.int (zi 0))] [.int (zi (zup (zup (w * hb0) jn109v0) 8)), .int (zi 0), .ref c276] hq304 _
          have sq304 := gSs.tr sq280 xq304 (by decide)
          have s305 := (xq304.2.2.2.2.2 m 18 (by rw [tm]; decide)).trans s281
          have s306 := (xq304.2.2.2.2.2 m 19 (by rw [tm]; decide)).trans s282
          have s307 := (xq304.2.2.2.2.2 m 20 (by rw [tm]; decide)).trans s283
          have s308 := (xq304.2.2.2.2.2 m 26 (by rw [tm]; decide)).trans s284
          have s309 := (xq304.2.2.2.2.2 m 27 (by rw [tm]; decide)).trans s285
          have s310 := (xq304.2.2.2.2.2 m 21 (by rw [tm]; decide)).trans s286
          have s311 := (xq304.2.2.2.2.2 m 22 (by rw [tm]; decide)).trans s287
          have s312 := (xq304.2.2.2.2.2 m 23 (by rw [tm]; decide)).trans s288
          have s313 := (xq304.2.2.2.2.2 m 24 (by rw [tm]; decide)).trans s289
          have s314 := (xq304.2.2.2.2.2 m 29 (by rw [tm]; decide)).trans s290
          have s315 := (xq304.2.2.2.2.2 m 30 (by rw [tm]; decide)).trans s291
          have s316 := (xq304.2.2.2.2.2 m 31 (by rw [tm]; decide)).trans s292
          have pr317 := gEl.fr xq304.2 (by decide) (fun _ => rfl) pr293
          have pr318 := gEl.fr xq304.2 (by decide) (fun _ => rfl) pr294
          have pr319 := gEl.fr xq304.2 (by decide) (fun _ => rfl) pr295
          have pr320 := gEl.fr xq304.2 (by decide) (fun _ => rfl) pr296
          have pr321 := gEl.fr xq304.2 (by decide) (fun _ => rfl) pr297
          have pr322 := gEl.fr xq304.2 (by decide) (fun _ => rfl) pr298
          have pr323 := gEl.fr xq304.2 (by decide) (fun _ => rfl) pr299
          have pr324 := gEl.fr xq304.2 (by decide) (fun _ => rfl) pr300
          have pr325 := gEl.fr xq304.2 (by decide) (fun _ => rfl) pr301
          have pr326 := gEl.fr xq304.2 (by decide) (fun _ => rfl) pr302
          have pr327 := gEl.fr xq304.2 (by decide) (fun _ => rfl) pr303
          have hl328 : 3 ≤ hq304.2.2.2.1 c276 ∧ hq304.2.2.2.1 c276 ≤ 3 := gJ.rowl (G := gGG) sq304.1 tc276 rfl
          refine gs_ast rfl (by decide) sq304 tc276 rfl rfl rfl (by decide) (fun _ => rfl) (by omega) (by omega) (fun _ => (by decide : (17999 : Nat) ∈ ([1021, 1022, 1023, 1024, 15999, 16999, 17999, 18999, 19999, 23999, 24999] : List Nat))) (by omega) (by omega) (fun h329 sh329 eh329 fh329 => ?_)
          have pr330 := gEl.pt fh329 tc276 (by decide) pr317
          have pr331 := gEl.pt fh329 tc276 (by decide) pr318
          have pr332 := gEl.pt fh329 tc276 (by decide) pr319
          have pr333 := gEl.pt fh329 tc276 (by decide) pr320
          have pr334 := gEl.pt fh329 tc276 (by decide) pr321
          have pr335 := gEl.pt fh329 tc276 (by decide) pr322
          have pr336 := gEl.pt fh329 tc276 (by decide) pr323
          have pr337 := gEl.pt fh329 tc276 (by decide) pr324
          have pr338 := gEl.pt fh329 tc276 (by decide) pr325
          have pr339 := gEl.pt fh329 tc276 (by decide) pr326
          have pr340 := gEl.pt fh329 tc276 (by decide) pr327
          have s341 := (fh329 m 18 (fun q => absurd (((tm).symm.trans (congrArg ty q.1)).trans tc276) (by decide))).trans s305
          have s342 := (fh329 m 19 (fun q => absurd (((tm).symm.trans (congrArg ty q.1)).trans tc276) (by decide))).trans s306
          have s343 := (fh329 m 20 (fun q => absurd (((tm).symm.trans (congrArg ty q.1)).trans tc276) (by decide))).trans s307
          have s344 := (fh329 m 26 (fun q => absurd (((tm).symm.trans (congrArg ty q.1)).trans tc276) (by decide))).trans s308
          have s345 := (fh329 m 27 (fun q => absurd (((tm).symm.trans (congrArg ty q.1)).trans tc276) (by decide))).trans s309
          have s346 := (fh329 m 21 (fun q => absurd (((tm).symm.trans (congrArg ty q.1)).trans tc276) (by decide))).trans s310
          have s347 := (fh329 m 22 (fun q => absurd (((tm).symm.trans (congrArg ty q.1)).trans tc276) (by decide))).trans s311
          have s348 := (fh329 m 23 (fun q => absurd (((tm).symm.trans (congrArg ty q.1)).trans tc276) (by decide))).trans s312
          have s349 := (fh329 m 24 (fun q => absurd (((tm).symm.trans (congrArg ty q.1)).trans tc276) (by decide))).trans s313
          have s350 := (fh329 m 29 (fun q => absurd (((tm).symm.trans (congrArg ty q.1)).trans tc276) (by decide))).trans s314
          have s351 := (fh329 m 30 (fun q => absurd (((tm).symm.trans (congrArg ty q.1)).trans tc276) (by decide))).trans s315
          have s352 := (fh329 m 31 (fun q => absurd (((tm).symm.trans (congrArg ty q.1)).trans tc276) (by decide))).trans s316
          have pr353 := gEl.set (i := 0) (z := zup (zup (w * hb0) jn109v0) 8) uq tc276 (by decide) eh329 (by omega) (by omega)
          refine gz_s 1 (pc' := 190) (L' := [some (.ref m), some (.int (zi 0))]) (S' := [.ref m]) rfl ?_
          refine gs_gtr rfl (by decide) rfl sh329.1 tm rfl rfl rfl (fun c354 ec354 tc354 => ?_)
          refine gz_s 2 (pc' := 195) (L' := [some (.ref m), some (.int (zi 0))]) (S' := [.ref m, .int (zi 0), .ref c354]) rfl ?_
          refine gs_gtk rfl (by decide) rfl sh329.1 tm rfl rfl s342 ?_
          refine gz_s 1 (pc' := 199) (L' := [some (.ref m), some (.int (zi 0))]) (S' := [.ref m, .int (zi hh), .int (zi 0), .ref c354]) rfl ?_
          refine gs_gtk rfl (by decide) rfl sh329.1 tm rfl rfl s345 ?_
          refine gz_s 1 (pc' := 203) (L' := [some (.ref m), some (.int (zi 0))]) (S' := [.int (zi 0), .ref c48, .int (zi hh), .int (zi 0), .ref c354]) rfl ?_
          have hl355 : 3 ≤ h329.2.2.2.1 c48 ∧ h329.2.2.2.1 c48 ≤ 3 := gJ.rowl (G := gGG) sh329.1 tc48 rfl
          refine gs_alx rfl (by decide) sh329.1 tc48 rfl rfl rfl (by decide) (fun _ => rfl) (by omega) (by omega) (by decide) pr331 (fun ex356 ax356 bx356 => ?_)
          have hx357 := zx_f (a := hh) (b := vb0) (A := 64) (B := 2) (by omega) (by omega) (by omega) (by omega)
          refine gy_s 2 (pc' := 206) (L' := [some (.ref m), some (.int (zi 0))]) (S' := [.ref m, .int ((zi hh) * (zi vb0)), .int (zi 0), .ref c354]) (L2 := [some (.ref m), some (.int (zi 0))]) (S2 := [.ref m, .int (zi (hh * vb0)), .int (zi 0), .ref c354]) rfl (by simp only [zi_add, zi_sub, zi_mul, zi_neg, zi_and1, zi_and7, zi_and15, zi_and31, zi_and255, Int.reduceAdd, Int.reduceMul, Int.reduceSub]) (by simp only [zi_add, zi_sub, zi_mul, zi_neg, zi_and1, zi_and7, zi_and15, zi_and31, zi_and255, Int.reduceAdd, Int.reduceMul, Int.reduceSub]) ?_
          refine gs_gtk rfl (by decide) rfl sh329.1 tm rfl rfl s347 ?_
          refine gz_call rfl (by decide) rfl (by decide) (by decide) (gcal_of rfl rfl rfl (Nat.le_of_ble_eq_true rfl) rfl) (mm_up _ sh329.1 (hh * vb0) (by omega) jn128v0 (by omega) ) (fun q358 _ wq358 => ?_)
          obtain ⟨pq358, oq358, hq358⟩ := q358
          obtain ⟨xq358, zq358, gq358, aq358, bq358, uq358_0⟩ := wq358
          subst uq358_0
          refine ⟨_, gq358, ?_⟩
          show gz gPP gGG gcn _ _ 212 [some (.ref m), some (.int (zi 0))] [.int (zi (zup (hh * vb0) jn128v0)), .int (zi 0), .ref c354] hq358 _
          have sq358 := gSs.tr sh329 xq358 (by decide)
          have s359 := (xq358.2.2.2.2.2 m 18 (by rw [tm]; decide)).trans s341
          have s360 := (xq358.2.2.2.2.2 m 19 (by rw [tm]; decide)).trans s342
          have s361 := (xq358.2.2.2.2.2 m 20 (by rw [tm]; decide)).trans s343
          have s362 := (xq358.2.2.2.2.2 m 26 (by rw [tm]; decide)).trans s344
          have s363 := (xq358.2.2.2.2.2 m 27 (by rw [tm]; decide)).trans s345
          have s364 := (xq358.2.2.2.2.2 m 21 (by rw [tm]; decide)).trans s346
          have s365 := (xq358.2.2.2.2.2 m 22 (by rw [tm]; decide)).trans s347
          have s366 := (xq358.2.2.2.2.2 m 23 (by rw [tm]; decide)).trans s348
          have s367 := (xq358.2.2.2.2.2 m 24 (by rw [tm]; decide)).trans s349
          have s368 := (xq358.2.2.2.2.2 m 29 (by rw [tm]; decide)).trans s350
          have s369 := (xq358.2.2.2.2.2 m 30 (by rw [tm]; decide)).trans s351
          have s370 := (xq358.2.2.2.2.2 m 31 (by rw [tm]; decide)).trans s352
          have s371 := (xq358.2.2.2.2.2 m 32 (by rw [tm]; decide)).trans ec354
          have pr372 := gEl.fr xq358.2 (by decide) (fun _ => rfl) pr330
          have pr373 := gEl.fr xq358.2 (by decide) (fun _ => rfl) pr331
          have pr374 := gEl.fr xq358.2 (by decide) (fun _ => rfl) pr332
          have pr375 := gEl.fr xq358.2 (by decide) (fun _ => rfl) pr333
          have pr376 := gEl.fr xq358.2 (by decide) (fun _ => rfl) pr334
          have pr377 := gEl.fr xq358.2 (by decide) (fun _ => rfl) pr335
          have pr378 := gEl.fr xq358.2 (by decide) (fun _ => rfl) pr336
          have pr379 := gEl.fr xq358.2 (by decide) (fun _ => rfl) pr337
          have pr380 := gEl.fr xq358.2 (by decide) (fun _ => rfl) pr338
          have pr381 := gEl.fr xq358.2 (by decide) (fun _ => rfl) pr339
          have pr382 := gEl.fr xq358.2 (by decide) (fun _ => rfl) pr340
          have pr383 := gEl.fr xq358.2 (by decide) (fun _ => rfl) pr353
          refine gz_s 1 (pc' := 214) (L' := [some (.ref m), some (.int (zi 0))]) (S' := [.int (zi 8), .int (zi (zup (hh * vb0) jn128v0)), .int (zi 0), .ref c354]) rfl ?_
          refine gz_call rfl (by decide) rfl (by decide) (by decide) (gcal_of rfl rfl rfl (Nat.le_of_ble_eq_true rfl) rfl) (mm_up _ sq358.1 (zup (hh * vb0) jn128v0) (by omega) 8 (by omega) ) (fun q384 _ wq384 => ?_)
          obtain ⟨pq384, oq384, hq384⟩ := q384
          obtain ⟨xq384, zq384, gq384, aq384, bq384, uq384_0⟩ := wq384
          subst uq384_0
          refine ⟨_, gq384, ?_⟩
          show gz gPP gGG gcn _ _ 217 [some (.ref m), some (.int (zi 0))] [.int (zi (zup (zup (hh * vb0) jn128v0) 8)), .int (zi 0), .ref c354] hq384 _
          have sq384 := gSs.tr sq358 xq384 (by decide)
          have s385 := (xq384.2.2.2.2.2 m 18 (by rw [tm]; decide)).trans s359
          have s386 := (xq384.2.2.2.2.2 m 19 (by rw [tm]; decide)).trans s360
          have s387 := (xq384.2.2.2.2.2 m 20 (by rw [tm]; decide)).trans s361
          have s388 := (xq384.2.2.2.2.2 m 26 (by rw [tm]; decide)).trans s362
          have s389 := (xq384.2.2.2.2.2 m 27 (by rw [tm]; decide)).trans s363
          have s390 := (xq384.2.2.2.2.2 m 21 (by rw [tm]; decide)).trans s364
          have s391 := (xq384.2.2.2.2.2 m 22 (by rw [tm]; decide)).trans s365
          have s392 := (xq384.2.2.2.2.2 m 23 (by rw [tm]; decide)).trans s366
          have s393 := (xq384.2.2.2.2.2 m 24 (by rw [tm]; decide)).trans s367
          have s394 := (xq384.2.2.2.2.2 m 29 (by rw [tm]; decide)).trans s368
          have s395 := (xq384.2.2.2.2.2 m 30 (by rw [tm]; decide)).trans s369
          have s396 := (xq384.2.2.2.2.2 m 31 (by rw [tm]; decide)).trans s370
          have s397 := (xq384.2.2.2.2.2 m 32 (by rw [tm]; decide)).trans s371
          have pr398 := gEl.fr xq384.2 (by decide) (fun _ => rfl) pr372
          have pr399 := gEl.fr xq384.2 (by decide) (fun _ => rfl) pr373
          have pr400 := gEl.fr xq384.2 (by decide) (fun _ => rfl) pr374
          have pr401 := gEl.fr xq384.2 (by decide) (fun _ => rfl) pr375
          have pr402 := gEl.fr xq384.2 (by decide) (fun _ => rfl) pr376
          have pr403 := gEl.fr xq384.2 (by decide) (fun _ => rfl) pr377
          have pr404 := gEl.fr xq384.2 (by decide) (fun _ => rfl) pr378
          have pr405 := gEl.fr xq384.2 (by decide) (fun _ => rfl) pr379
          have pr406 := gEl.fr xq384.2 (by decide) (fun _ => rfl) pr380
          have pr407 := gEl.fr xq384.2 (by decide) (fun _ => rfl) pr381
          have pr408 := gEl.fr xq384.2 (by decide) (fun _ => rfl) pr382
          have pr409 := gEl.fr xq384.2 (by decide) (fun _ => rfl) pr383
          have hl410 : 3 ≤ hq384.2.2.2.1 c354 ∧ hq384.2.2.2.1 c354 ≤ 3 := gJ.rowl (G := gGG) sq384.1 tc354 rfl
          refine gs_ast rfl (by decide) sq384 tc354 rfl rfl rfl (by decide) (fun _ => rfl) (by omega) (by omega) (fun _ => (by decide : (18999 : Nat) ∈ ([1021, 1022, 1023, 1024, 15999, 16999, 17999, 18999, 19999, 23999, 24999] : List Nat))) (by omega) (by omega) (fun h411 sh411 eh411 fh411 => ?_)
          have pr412 := gEl.pt fh411 tc354 (by decide) pr398
          have pr413 := gEl.pt fh411 tc354 (by decide) pr399
          have pr414 := gEl.pt fh411 tc354 (by decide) pr400
          have pr415 := gEl.pt fh411 tc354 (by decide) pr401
          have pr416 := gEl.pt fh411 tc354 (by decide) pr402
          have pr417 := gEl.pt fh411 tc354 (by decide) pr403
          have pr418 := gEl.pt fh411 tc354 (by decide) pr404
          have pr419 := gEl.pt fh411 tc354 (by decide) pr405
          have pr420 := gEl.pt fh411 tc354 (by decide) pr406
          have pr421 := gEl.pt fh411 tc354 (by decide) pr407
          have pr422 := gEl.pt fh411 tc354 (by decide) pr408
          have pr423 := gEl.pt fh411 tc354 (by decide) pr409
          have s424 := (fh411 m 18 (fun q => absurd (((tm).symm.trans (congrArg ty q.1)).trans tc354) (by decide))).trans s385
          have s425 := (fh411 m 19 (fun q => absurd (((tm).symm.trans (congrArg ty q.1)).trans tc354) (by decide))).trans s386
          have s426 := (fh411 m 20 (fun q => absurd (((tm).symm.trans (congrArg ty q.1)).trans tc354) (by decide))).trans s387
          have s427 := (fh411 m 26 (fun q => absurd (((tm).symm.trans (congrArg ty q.1)).trans tc354) (by decide))).trans s388
          have s428 := (fh411 m 27 (fun q => absurd (((tm).symm.trans (congrArg ty q.1)).trans tc354) (by decide))).trans s389
          have s429 := (fh411 m 21 (fun q => absurd (((tm).symm.trans (congrArg ty q.1)).trans tc354) (by decide))).trans s390
          have s430 := (fh411 m 22 (fun q => absurd (((tm).symm.trans (congrArg ty q.1)).trans tc354) (by decide))).trans s391
          have s431 := (fh411 m 23 (fun q => absurd (((tm).symm.trans (congrArg ty q.1)).trans tc354) (by decide))).trans s392
          have s432 := (fh411 m 24 (fun q => absurd (((tm).symm.trans (congrArg ty q.1)).trans tc354) (by decide))).trans s393
          have s433 := (fh411 m 29 (fun q => absurd (((tm).symm.trans (congrArg ty q.1)).trans tc354) (by decide))).trans s394
          have s434 := (fh411 m 30 (fun q => absurd (((tm).symm.trans (congrArg ty q.1)).trans tc354) (by decide))).trans s395
          have s435 := (fh411 m 31 (fun q => absurd (((tm).symm.trans (congrArg ty q.1)).trans tc354) (by decide))).trans s396
          have s436 := (fh411 m 32 (fun q => absurd (((tm).symm.trans (congrArg ty q.1)).trans tc354) (by decide))).trans s397
          have pr437 := gEl.set (i := 0) (z := zup (zup (hh * vb0) jn128v0) 8) uq tc354 (by decide) eh411 (by omega) (by omega)
          refine gz_s 1 (pc' := 219) (L' := [some (.ref m), some (.int (zi 0))]) (S' := [.ref m]) rfl ?_
          refine gs_gtr rfl (by decide) rfl sh411.1 tm rfl rfl rfl (fun c438 ec438 tc438 => ?_)
          refine gz_s 2 (pc' := 224) (L' := [some (.ref m), some (.int (zi 0))]) (S' := [.ref m, .int (zi 0), .ref c438]) rfl ?_
          refine gs_gtk rfl (by decide) rfl sh411.1 tm rfl rfl s431 ?_
          have hl439 : 3 ≤ h411.2.2.2.1 c438 ∧ h411.2.2.2.1 c438 ≤ 3 := gJ.rowl (G := gGG) sh411.1 tc438 rfl
          refine gs_ast rfl (by decide) sh411 tc438 rfl rfl rfl (by decide) (fun _ => rfl) (by omega) (by omega) (fun _ => (by decide : (19999 : Nat) ∈ ([1021, 1022, 1023, 1024, 15999, 16999, 17999, 18999, 19999, 23999, 24999] : List Nat))) (by omega) (by omega) (fun h440 sh440 eh440 fh440 => ?_)
          have pr441 := gEl.pt fh440 tc438 (by decide) pr412
          have pr442 := gEl.pt fh440 tc438 (by decide) pr413
          have pr443 := gEl.pt fh440 tc438 (by decide) pr414
          have pr444 := gEl.pt fh440 tc438 (by decide) pr415
          have pr445 := gEl.pt fh440 tc438 (by decide) pr416
          have pr446 := gEl.pt fh440 tc438 (by decide) pr417
          have pr447 := gEl.pt fh440 tc438 (by decide) pr418
          have pr448 := gEl.pt fh440 tc438 (by decide) pr419
          have pr449 := gEl.pt fh440 tc438 (by decide) pr420
          have pr450 := gEl.pt fh440 tc438 (by decide) pr421
          have pr451 := gEl.pt fh440 tc438 (by decide) pr422
          have pr452 := gEl.pt fh440 tc438 (by decide) pr423
          have pr453 := gEl.pt fh440 tc438 (by decide) pr437
          have s454 := (fh440 m 18 (fun q => absurd (((tm).symm.trans (congrArg ty q.1)).trans tc438) (by decide))).trans s424
          have s455 := (fh440 m 19 (fun q => absurd (((tm).symm.trans (congrArg ty q.1)).trans tc438) (by decide))).trans s425
          have s456 := (fh440 m 20 (fun q => absurd (((tm).symm.trans (congrArg ty q.1)).trans tc438) (by decide))).trans s426
          have s457 := (fh440 m 26 (fun q => absurd (((tm).symm.trans (congrArg ty q.1)).trans tc438) (by decide))).trans s427
          have s458 := (fh440 m 27 (fun q => absurd (((tm).symm.trans (congrArg ty q.1)).trans tc438) (by decide))).trans s428
          have s459 := (fh440 m 21 (fun q => absurd (((tm).symm.trans (congrArg ty q.1)).trans tc438) (by decide))).trans s429
          have s460 := (fh440 m 22 (fun q => absurd (((tm).symm.trans (congrArg ty q.1)).trans tc438) (by decide))).trans s430
          have s461 := (fh440 m 23 (fun q => absurd (((tm).symm.trans (congrArg ty q.1)).trans tc438) (by decide))).trans s431
          have s462 := (fh440 m 24 (fun q => absurd (((tm).symm.trans (congrArg ty q.1)).trans tc438) (by decide))).trans s432
          have s463 := (fh440 m 29 (fun q => absurd (((tm).symm.trans (congrArg ty q.1)).trans tc438) (by decide))).trans s433
          have s464 := (fh440 m 30 (fun q => absurd (((tm).symm.trans (congrArg ty q.1)).trans tc438) (by decide))).trans s434
          have s465 := (fh440 m 31 (fun q => absurd (((tm).symm.trans (congrArg ty q.1)).trans tc438) (by decide))).trans s435
          have s466 := (fh440 m 32 (fun q => absurd (((tm).symm.trans (congrArg ty q.1)).trans tc438) (by decide))).trans s436
          have s467 := (fh440 m 33 (fun q => absurd (((tm).symm.trans (congrArg ty q.1)).trans tc438) (by decide))).trans ec438
          have pr468 := gEl.set (i := 0) (z := 0) uq tc438 (by decide) eh440 (by omega) (by omega)
          refine gz_s 2 (pc' := 230) (L' := [some (.ref m), some (.int (zi 0))]) (S' := [.ref m, .ref m]) rfl ?_
          refine gs_gtk rfl (by decide) rfl sh440.1 tm rfl rfl s461 ?_
          refine gz_s 1 (pc' := 234) (L' := [some (.ref m), some (.int (zi 0))]) (S' := [.ref m, .int (zi 0), .ref m]) rfl ?_
          refine gs_gtk rfl (by decide) rfl sh440.1 tm rfl rfl s463 ?_
          refine gz_s 1 (pc' := 238) (L' := [some (.ref m), some (.int (zi 0))]) (S' := [.int (zi 0), .ref c180, .int (zi 0), .ref m]) rfl ?_
          have hl469 : 3 ≤ h440.2.2.2.1 c180 ∧ h440.2.2.2.1 c180 ≤ 3 := gJ.rowl (G := gGG) sh440.1 tc180 rfl
          refine gs_alx rfl (by decide) sh440.1 tc180 rfl rfl rfl (by decide) (fun _ => rfl) (by omega) (by omega) (by decide) pr450 (fun ex470 ax470 bx470 => ?_)
          refine gz_s 1 (pc' := 240) (L' := [some (.ref m), some (.int (zi 0))]) (S' := [.ref m, .int (zi ((zup w (8 * jn109v0)) * hb0)), .int (zi 0), .ref m]) rfl ?_
          refine gs_gtk rfl (by decide) rfl sh440.1 tm rfl rfl s464 ?_
          refine gz_s 1 (pc' := 244) (L' := [some (.ref m), some (.int (zi 0))]) (S' := [.int (zi 0), .ref c226, .int (zi ((zup w (8 * jn109v0)) * hb0)), .int (zi 0), .ref m]) rfl ?_
          have hl471 : 3 ≤ h440.2.2.2.1 c226 ∧ h440.2.2.2.1 c226 ≤ 3 := gJ.rowl (G := gGG) sh440.1 tc226 rfl
          refine gs_alx rfl (by decide) sh440.1 tc226 rfl rfl rfl (by decide) (fun _ => rfl) (by omega) (by omega) (by decide) pr451 (fun ex472 ax472 bx472 => ?_)
          have hx473 := zx_f (a := (zup w (8 * jn109v0)) * hb0) (b := (zup hh (8 * jn128v0)) * vb0) (A := 16) (B := 16) (by omega) (by omega) (by omega) (by omega)
          refine gy_s 2 (pc' := 247) (L' := [some (.ref m), some (.int (zi 0))]) (S' := [.int ((zi 0) + ((zi ((zup w (8 * jn109v0)) * hb0)) * (zi ((zup hh (8 * jn128v0)) * vb0)))), .ref m]) (L2 := [some (.ref m), some (.int (zi 0))]) (S2 := [.int (zi (0 + (((zup w (8 * jn109v0)) * hb0) * ((zup hh (8 * jn128v0)) * vb0)))), .ref m]) rfl (by simp only [zi_add, zi_sub, zi_mul, zi_neg, zi_and1, zi_and7, zi_and15, zi_and31, zi_and255, Int.reduceAdd, Int.reduceMul, Int.reduceSub]) (by simp only [zi_add, zi_sub, zi_mul, zi_neg, zi_and1, zi_and7, zi_and15, zi_and31, zi_and255, Int.reduceAdd, Int.reduceMul, Int.reduceSub]) ?_
          refine gs_put rfl (by decide) rfl sh440 tm rfl rfl rfl rfl (Or.inl rfl) (by decide) (by omega) (by omega) (fun h474 sh474 eh474 fh474 => ?_)
          have pr475 := gEl.pt fh474 tm (by decide) pr441
          have pr476 := gEl.pt fh474 tm (by decide) pr442
          have pr477 := gEl.pt fh474 tm (by decide) pr443
          have pr478 := gEl.pt fh474 tm (by decide) pr444
          have pr479 := gEl.pt fh474 tm (by decide) pr445
          have pr480 := gEl.pt fh474 tm (by decide) pr446
          have pr481 := gEl.pt fh474 tm (by decide) pr447
          have pr482 := gEl.pt fh474 tm (by decide) pr448
          have pr483 := gEl.pt fh474 tm (by decide) pr449
          have pr484 := gEl.pt fh474 tm (by decide) pr450
          have pr485 := gEl.pt fh474 tm (by decide) pr451
          have pr486 := gEl.pt fh474 tm (by decide) pr452
          have pr487 := gEl.pt fh474 tm (by decide) pr453
          have pr488 := gEl.pt fh474 tm (by decide) pr468
          have s489 := (fh474 m 18 (fun q => absurd q.2 (by decide))).trans s454
          have s490 := (fh474 m 19 (fun q => absurd q.2 (by decide))).trans s455
          have s491 := (fh474 m 20 (fun q => absurd q.2 (by decide))).trans s456
          have s492 := (fh474 m 26 (fun q => absurd q.2 (by decide))).trans s457
          have s493 := (fh474 m 27 (fun q => absurd q.2 (by decide))).trans s458
          have s494 := (fh474 m 21 (fun q => absurd q.2 (by decide))).trans s459
          have s495 := (fh474 m 22 (fun q => absurd q.2 (by decide))).trans s460
          have s496 := (fh474 m 24 (fun q => absurd q.2 (by decide))).trans s462
          have s497 := (fh474 m 29 (fun q => absurd q.2 (by decide))).trans s463
          have s498 := (fh474 m 30 (fun q => absurd q.2 (by decide))).trans s464
          have s499 := (fh474 m 31 (fun q => absurd q.2 (by decide))).trans s465
          have s500 := (fh474 m 32 (fun q => absurd q.2 (by decide))).trans s466
          have s501 := (fh474 m 33 (fun q => absurd q.2 (by decide))).trans s467
          refine gy_s 4 (pc' := 100) (L' := [some (.ref m), some (.int ((zi 0) + zi 1))]) (S' := [.ref m, .int ((zi 0) + zi 1)]) (L2 := [some (.ref m), some (.int (zi 1))]) (S2 := [.ref m, .int (zi 1)]) rfl (by simp only [zi_add, zi_sub, zi_mul, zi_neg, zi_and1, zi_and7, zi_and15, zi_and31, zi_and255, Int.reduceAdd, Int.reduceMul, Int.reduceSub]) (by simp only [zi_add, zi_sub, zi_mul, zi_neg, zi_and1, zi_and7, zi_and15, zi_and31, zi_and255, Int.reduceAdd, Int.reduceMul, Int.reduceSub]) ?_
          refine gs_gtk rfl (by decide) rfl sh474.1 tm rfl rfl s491 ?_
          refine gy_icF rfl (by decide) (by decide) (by omega) (by omega) (by first | (simp [zc]; done) | (simp only [zc]; omega)) ?_
          have zC1 := zupC (w := w) (wd := jn109v0) (hb := hb1) (by omega) (by omega) (by omega) (by omega)
          have zR1 := zupC (w := hh) (wd := jn128v0) (hb := vb1) (by omega) (by omega) (by omega) (by omega)
          have zP1 := zb3 (a := (zup w (8 * jn109v0)) * hb1) (b := (zup hh (8 * jn128v0)) * vb1) (by omega) (by omega)
          refine gz_s 1 (pc' := 107) (L' := [some (.ref m), some (.int (zi 1))]) (S' := [.ref m]) rfl ?_
          refine gs_gtk rfl (by decide) rfl sh474.1 tm rfl rfl s497 ?_
          refine gz_s 2 (pc' := 112) (L' := [some (.ref m), some (.int (zi 1))]) (S' := [.ref m, .int (zi 1), .ref c180]) rfl ?_
          refine gs_gtk rfl (by decide) rfl sh474.1 tm rfl rfl s489 ?_
          refine gz_s 2 (pc' := 118) (L' := [some (.ref m), some (.int (zi 1))]) (S' := [.ref m, .int (zi 8), .int (zi w), .int (zi 1), .ref c180]) rfl ?_
          refine gs_gtk rfl (by decide) rfl sh474.1 tm rfl rfl s494 ?_
          refine gy_s 1 (pc' := 122) (L' := [some (.ref m), some (.int (zi 1))]) (S' := [.int ((zi 8) * (zi jn109v0)), .int (zi w), .int (zi 1), .ref c180]) (L2 := [some (.ref m), some (.int (zi 1))]) (S2 := [.int (zi (8 * jn109v0)), .int (zi w), .int (zi 1), .ref c180]) rfl (by simp only [zi_add, zi_sub, zi_mul, zi_neg, zi_and1, zi_and7, zi_and15, zi_and31, zi_and255, Int.reduceAdd, Int.reduceMul, Int.reduceSub]) (by simp only [zi_add, zi_sub, zi_mul, zi_neg, zi_and1, zi_and7, zi_and15, zi_and31, zi_and255, Int.reduceAdd, Int.reduceMul, Int.reduceSub]) ?_
          refine gz_call rfl (by decide) rfl (by decide) (by decide) (gcal_of rfl rfl rfl (Nat.le_of_ble_eq_true rfl) rfl) (mm_up _ sh474.1 w (by omega) (8 * jn109v0) (by omega) ) (fun q502 _ wq502 => ?_)
          obtain ⟨pq502, oq502, hq502⟩ := q502
          obtain ⟨xq502, zq502, gq502, aq502, bq502, uq502_0⟩ := wq502
          subst uq502_0
          refine ⟨_, gq502, ?_⟩
          show gz gPP gGG gcn _ _ 125 [some (.ref m), some (.int (zi 1))] [.int (zi (zup w (8 * jn109v0))), .int (zi 1), .ref c180] hq502 _
          have sq502 := gSs.tr sh474 xq502 (by decide)
          have s503 := (xq502.2.2.2.2.2 m 18 (by rw [tm]; decide)).trans s489
          have s504 := (xq502.2.2.2.2.2 m 19 (by rw [tm]; decide)).trans s490
          have s505 := (xq502.2.2.2.2.2 m 20 (by rw [tm]; decide)).trans s491
          have s506 := (xq502.2.2.2.2.2 m 26 (by rw [tm]; decide)).trans s492
          have s507 := (xq502.2.2.2.2.2 m 27 (by rw [tm]; decide)).trans s493
          have s508 := (xq502.2.2.2.2.2 m 21 (by rw [tm]; decide)).trans s494
          have s509 := (xq502.2.2.2.2.2 m 22 (by rw [tm]; decide)).trans s495
          have s510 := (xq502.2.2.2.2.2 m 24 (by rw [tm]; decide)).trans s496
          have s511 := (xq502.2.2.2.2.2 m 29 (by rw [tm]; decide)).trans s497
          have s512 := (xq502.2.2.2.2.2 m 30 (by rw [tm]; decide)).trans s498
          have s513 := (xq502.2.2.2.2.2 m 31 (by rw [tm]; decide)).trans s499
          have s514 := (xq502.2.2.2.2.2 m 32 (by rw [tm]; decide)).trans s500
          have s515 := (xq502.2.2.2.2.2 m 33 (by rw [tm]; decide)).trans s501
          have s516 := (xq502.2.2.2.2.2 m 23 (by rw [tm]; decide)).trans eh474
          have pr517 := gEl.fr xq502.2 (by decide) (fun _ => rfl) pr475
          have pr518 := gEl.fr xq502.2 (by decide) (fun _ => rfl) pr476
          have pr519 := gEl.fr xq502.2 (by decide) (fun _ => rfl) pr477
          have pr520 := gEl.fr xq502.2 (by decide) (fun _ => rfl) pr478
          have pr521 := gEl.fr xq502.2 (by decide) (fun _ => rfl) pr479
          have pr522 := gEl.fr xq502.2 (by decide) (fun _ => rfl) pr480
          have pr523 := gEl.fr xq502.2 (by decide) (fun _ => rfl) pr481
          have pr524 := gEl.fr xq502.2 (by decide) (fun _ => rfl) pr482
          have pr525 := gEl.fr xq502.2 (by decide) (fun _ => rfl) pr483
          have pr526 := gEl.fr xq502.2 (by decide) (fun _ => rfl) pr484
          have pr527 := gEl.fr xq502.2 (by decide) (fun _ => rfl) pr485
          have pr528 := gEl.fr xq502.2 (by decide) (fun _ => rfl) pr486
          have pr529 := gEl.fr xq502.2 (by decide) (fun _ => rfl) pr487
          have pr530 := gEl.fr xq502.2 (by decide) (fun _ => rfl) pr488
          refine gz_s 1 (pc' := 126) (L' := [some (.ref m), some (.int (zi 1))]) (S' := [.ref m, .int (zi (zup w (8 * jn109v0))), .int (zi 1), .ref c180]) rfl ?_
          refine gs_gtk rfl (by decide) rfl sq502.1 tm rfl rfl s506 ?_
          refine gz_s 1 (pc' := 130) (L' := [some (.ref m), some (.int (zi 1))]) (S' := [.int (zi 1), .ref c28, .int (zi (zup w (8 * jn109v0))), .int (zi 1), .ref c180]) rfl ?_
          have hl531 : 3 ≤ hq502.2.2.2.1 c28 ∧ hq502.2.2.2.1 c28 ≤ 3 := gJ.rowl (G := gGG) sq502.1 tc28 rfl
          refine gs_alx rfl (by decide) sq502.1 tc28 rfl rfl rfl (by decide) (fun _ => rfl) (by omega) (by omega) (by decide) pr520 (fun ex532 ax532 bx532 => ?_)
          have hx533 := zx_f (a := zup w (8 * jn109v0)) (b := hb1) (A := 4097) (B := 2) (by omega) (by omega) (by omega) (by omega)
          refine gy_s 1 (pc' := 132) (L' := [some (.ref m), some (.int (zi 1))]) (S' := [.int ((zi (zup w (8 * jn109v0))) * (zi hb1)), .int (zi 1), .ref c180]) (L2 := [some (.ref m), some (.int (zi 1))]) (S2 := [.int (zi ((zup w (8 * jn109v0)) * hb1)), .int (zi 1), .ref c180]) rfl (by simp only [zi_add, zi_sub, zi_mul, zi_neg, zi_and1, zi_and7, zi_and15, zi_and31, zi_and255, Int.reduceAdd, Int.reduceMul, Int.reduceSub]) (by simp only [zi_add, zi_sub, zi_mul, zi_neg, zi_and1, zi_and7, zi_and15, zi_and31, zi_and255, Int.reduceAdd, Int.reduceMul, Int.reduceSub]) ?_
          have hl534 : 3 ≤ hq502.2.2.2.1 c180 ∧ hq502.2.2.2.1 c180 ≤ 3 := gJ.rowl (G := gGG) sq502.1 tc180 rfl
          refine gs_ast rfl (by decide) sq502 tc180 rfl rfl rfl (by decide) (fun _ => rfl) (by omega) (by omega) (fun _ => (by decide : (15999 : Nat) ∈ ([1021, 1022, 1023, 1024, 15999, 16999, 17999, 18999, 19999, 23999, 24999] : List Nat))) (by omega) (by omega) (fun h535 sh535 eh535 fh535 => ?_)
          have pr536 := gEl.pt fh535 tc180 (by decide) pr517
          have pr537 := gEl.pt fh535 tc180 (by decide) pr518
          have pr538 := gEl.pt fh535 tc180 (by decide) pr519
          have pr539 := gEl.pt fh535 tc180 (by decide) pr520
          have pr540 := gEl.pt fh535 tc180 (by decide) pr521
          have pr541 := gEl.pt fh535 tc180 (by decide) pr522
          have pr542 := gEl.pt fh535 tc180 (by decide) pr523
          have pr543 := gEl.pt fh535 tc180 (by decide) pr524
          have pr544 := gEl.pt fh535 tc180 (by decide) pr525
          have pr545 := gEl.ot fh535 pr526 (i := 1) (by omega)
          have pr546 := gEl.pt fh535 tc180 (by decide) pr527
          have pr547 := gEl.pt fh535 tc180 (by decide) pr528
          have pr548 := gEl.pt fh535 tc180 (by decide) pr529
          have pr549 := gEl.pt fh535 tc180 (by decide) pr530
          have s550 := (fh535 m 18 (fun q => absurd (((tm).symm.trans (congrArg ty q.1)).trans tc180) (by decide))).trans s503
          have s551 := (fh535 m 19 (fun q => absurd (((tm).symm.trans (congrArg ty q.1)).trans tc180) (by decide))).trans s504
          have s552 := (fh535 m 20 (fun q => absurd (((tm).symm.trans (congrArg ty q.1)).trans tc180) (by decide))).trans s505
          have s553 := (fh535 m 26 (fun q => absurd (((tm).symm.trans (congrArg ty q.1)).trans tc180) (by decide))).trans s506
          have s554 := (fh535 m 27 (fun q => absurd (((tm).symm.trans (congrArg ty q.1)).trans tc180) (by decide))).trans s507
          have s555 := (fh535 m 21 (fun q => absurd (((tm).symm.trans (congrArg ty q.1)).trans tc180) (by decide))).trans s508
          have s556 := (fh535 m 22 (fun q => absurd (((tm).symm.trans (congrArg ty q.1)).trans tc180) (by decide))).trans s509
          have s557 := (fh535 m 24 (fun q => absurd (((tm).symm.trans (congrArg ty q.1)).trans tc180) (by decide))).trans s510
          have s558 := (fh535 m 29 (fun q => absurd (((tm).symm.trans (congrArg ty q.1)).trans tc180) (by decide))).trans s511
          have s559 := (fh535 m 30 (fun q => absurd (((tm).symm.trans (congrArg ty q.1)).trans tc180) (by decide))).trans s512
          have s560 := (fh535 m 31 (fun q => absurd (((tm).symm.trans (congrArg ty q.1)).trans tc180) (by decide))).trans s513
          have s561 := (fh535 m 32 (fun q => absurd (((tm).symm.trans (congrArg ty q.1)).trans tc180) (by decide))).trans s514
          have s562 := (fh535 m 33 (fun q => absurd (((tm).symm.trans (congrArg ty q.1)).trans tc180) (by decide))).trans s515
          have s563 := (fh535 m 23 (fun q => absurd (((tm).symm.trans (congrArg ty q.1)).trans tc180) (by decide))).trans s516
          have pr564 := gEl.set (i := 1) (z := (zup w (8 * jn109v0)) * hb1) uq tc180 (by decide) eh535 (by omega) (by omega)
          refine gz_s 1 (pc' := 134) (L' := [some (.ref m), some (.int (zi 1))]) (S' := [.ref m]) rfl ?_
          refine gs_gtk rfl (by decide) rfl sh535.1 tm rfl rfl s559 ?_
          refine gz_s 2 (pc' := 139) (L' := [some (.ref m), some (.int (zi 1))]) (S' := [.ref m, .int (zi 1), .ref c226]) rfl ?_
          refine gs_gtk rfl (by decide) rfl sh535.1 tm rfl rfl s551 ?_
          refine gz_s 2 (pc' := 145) (L' := [some (.ref m), some (.int (zi 1))]) (S' := [.ref m, .int (zi 8), .int (zi hh), .int (zi 1), .ref c226]) rfl ?_
          refine gs_gtk rfl (by decide) rfl sh535.1 tm rfl rfl s556 ?_
          refine gy_s 1 (pc' := 149) (L' := [some (.ref m), some (.int (zi 1))]) (S' := [.int ((zi 8) * (zi jn128v0)), .int (zi hh), .int (zi 1), .ref c226]) (L2 := [some (.ref m), some (.int (zi 1))]) (S2 := [.int (zi (8 * jn128v0)), .int (zi hh), .int (zi 1), .ref c226]) rfl (by simp only [zi_add, zi_sub, zi_mul, zi_neg, zi_and1, zi_and7, zi_and15, zi_and31, zi_and255, Int.reduceAdd, Int.reduceMul, Int.reduceSub]) (by simp only [zi_add, zi_sub, zi_mul, zi_neg, zi_and1, zi_and7, zi_and15, zi_and31, zi_and255, Int.reduceAdd, Int.reduceMul, Int.reduceSub]) ?_
          refine gz_call rfl (by decide) rfl (by decide) (by decide) (gcal_of rfl rfl rfl (Nat.le_of_ble_eq_true rfl) rfl) (mm_up _ sh535.1 hh (by omega) (8 * jn128v0) (by omega) ) (fun q565 _ wq565 => ?_)
          obtain ⟨pq565, oq565, hq565⟩ := q565
          obtain ⟨xq565, zq565, gq565, aq565, bq565, uq565_0⟩ := wq565
          subst uq565_0
          refine ⟨_, gq565, ?_⟩
          show gz gPP gGG gcn _ _ 152 [some (.ref m), some (.int (zi 1))] [.int (zi (zup hh (8 * jn128v0))), .int (zi 1), .ref c226] hq565 _
          have sq565 := gSs.tr sh535 xq565 (by decide)
          have s566 := (xq565.2.2.2.2.2 m 18 (by rw [tm]; decide)).trans s550
          have s567 := (xq565.2.2.2.2.2 m 19 (by rw [tm]; decide)).trans s551
          have s568 := (xq565.2.2.2.2.2 m 20 (by rw [tm]; decide)).trans s552
          have s569 := (xq565.2.2.2.2.2 m 26 (by rw [tm]; decide)).trans s553
          have s570 := (xq565.2.2.2.2.2 m 27 (by rw [tm]; decide)).trans s554
          have s571 := (xq565.2.2.2.2.2 m 21 (by rw [tm]; decide)).trans s555
          have s572 := (xq565.2.2.2.2.2 m 22 (by rw [tm]; decide)).trans s556
          have s573 := (xq565.2.2.2.2.2 m 24 (by rw [tm]; decide)).trans s557
          have s574 := (xq565.2.2.2.2.2 m 29 (by rw [tm]; decide)).trans s558
          have s575 := (xq565.2.2.2.2.2 m 30 (by rw [tm]; decide)).trans s559
          have s576 := (xq565.2.2.2.2.2 m 31 (by rw [tm]; decide)).trans s560
          have s577 := (xq565.2.2.2.2.2 m 32 (by rw [tm]; decide)).trans s561
          have s578 := (xq565.2.2.2.2.2 m 33 (by rw [tm]; decide)).trans s562
          have s579 := (xq565.2.2.2.2.2 m 23 (by rw [tm]; decide)).trans s563
          have pr580 := gEl.fr xq565.2 (by decide) (fun _ => rfl) pr536
          have pr581 := gEl.fr xq565.2 (by decide) (fun _ => rfl) pr537
          have pr582 := gEl.fr xq565.2 (by decide) (fun _ => rfl) pr538
          have pr583 := gEl.fr xq565.2 (by decide) (fun _ => rfl) pr539
          have pr584 := gEl.fr xq565.2 (by decide) (fun _ => rfl) pr540
          have pr585 := gEl.fr xq565.2 (by decide) (fun _ => rfl) pr541
          have pr586 := gEl.fr xq565.2 (by decide) (fun _ => rfl) pr542
          have pr587 := gEl.fr xq565.2 (by decide) (fun _ => rfl) pr543
          have pr588 := gEl.fr xq565.2 (by decide) (fun _ => rfl) pr544
          have pr589 := gEl.fr xq565.2 (by decide) (fun _ => rfl) pr545
          have pr590 := gEl.fr xq565.2 (by decide) (fun _ => rfl) pr546
          have pr591 := gEl.fr xq565.2 (by decide) (fun _ => rfl) pr547
          have pr592 := gEl.fr xq565.2 (by decide) (fun _ => rfl) pr548
          have pr593 := gEl.fr xq565.2 (by decide) (fun _ => rfl) pr549
          have pr594 := gEl.fr xq565.2 (by decide) (fun _ => rfl) pr564
          refine gz_s 1 (pc' := 153) (L' := [some (.ref m), some (.int (zi 1))]) (S' := [.ref m, .int (zi (zup hh (8 * jn128v0))), .int (zi 1), .ref c226]) rfl ?_
          refine gs_gtk rfl (by decide) rfl sq565.1 tm rfl rfl s570 ?_
          refine gz_s 1 (pc' := 157) (L' := [some (.ref m), some (.int (zi 1))]) (S' := [.int (zi 1), .ref c48, .int (zi (zup hh (8 * jn128v0))), .int (zi 1), .ref c226]) rfl ?_
          have hl595 : 3 ≤ hq565.2.2.2.1 c48 ∧ hq565.2.2.2.1 c48 ≤ 3 := gJ.rowl (G := gGG) sq565.1 tc48 rfl
          refine gs_alx rfl (by decide) sq565.1 tc48 rfl rfl rfl (by decide) (fun _ => rfl) (by omega) (by omega) (by decide) pr584 (fun ex596 ax596 bx596 => ?_)
          have hx597 := zx_f (a := zup hh (8 * jn128v0)) (b := vb1) (A := 4097) (B := 2) (by omega) (by omega) (by omega) (by omega)
          refine gy_s 1 (pc' := 159) (L' := [some (.ref m), some (.int (zi 1))]) (S' := [.int ((zi (zup hh (8 * jn128v0))) * (zi vb1)), .int (zi 1), .ref c226]) (L2 := [some (.ref m), some (.int (zi 1))]) (S2 := [.int (zi ((zup hh (8 * jn128v0)) * vb1)), .int (zi 1), .ref c226]) rfl (by simp only [zi_add, zi_sub, zi_mul, zi_neg, zi_and1, zi_and7, zi_and15, zi_and31, zi_and255, Int.reduceAdd, Int.reduceMul, Int.reduceSub]) (by simp only [zi_add, zi_sub, zi_mul, zi_neg, zi_and1, zi_and7, zi_and15, zi_and31, zi_and255, Int.reduceAdd, Int.reduceMul, Int.reduceSub]) ?_
          have hl598 : 3 ≤ hq565.2.2.2.1 c226 ∧ hq565.2.2.2.1 c226 ≤ 3 := gJ.rowl (G := gGG) sq565.1 tc226 rfl
          refine gs_ast rfl (by decide) sq565 tc226 rfl rfl rfl (by decide) (fun _ => rfl) (by omega) (by omega) (fun _ => (by decide : (16999 : Nat) ∈ ([1021, 1022, 1023, 1024, 15999, 16999, 17999, 18999, 19999, 23999, 24999] : List Nat))) (by omega) (by omega) (fun h599 sh599 eh599 fh599 => ?_)
          have pr600 := gEl.pt fh599 tc226 (by decide) pr580
          have pr601 := gEl.pt fh599 tc226 (by decide) pr581
          have pr602 := gEl.pt fh599 tc226 (by decide) pr582
          have pr603 := gEl.pt fh599 tc226 (by decide) pr583
          have pr604 := gEl.pt fh599 tc226 (by decide) pr584
          have pr605 := gEl.pt fh599 tc226 (by decide) pr585
          have pr606 := gEl.pt fh599 tc226 (by decide) pr586
          have pr607 := gEl.pt fh599 tc226 (by decide) pr587
          have pr608 := gEl.pt fh599 tc226 (by decide) pr588
          have pr609 := gEl.pt fh599 tc226 (by decide) pr589
          have pr610 := gEl.ot fh599 pr590 (i := 1) (by omega)
          have pr611 := gEl.pt fh599 tc226 (by decide) pr591
          have pr612 := gEl.pt fh599 tc226 (by decide) pr592
          have pr613 := gEl.pt fh599 tc226 (by decide) pr593
          have pr614 := gEl.pt fh599 tc226 (by decide) pr594
          have s615 := (fh599 m 18 (fun q => absurd (((tm).symm.trans (congrArg ty q.1)).trans tc226) (by decide))).trans s566
          have s616 := (fh599 m 19 (fun q => absurd (((tm).symm.trans (congrArg ty q.1)).trans tc226) (by decide))).trans s567
          have s617 := (fh599 m 20 (fun q => absurd (((tm).symm.trans (congrArg ty q.1)).trans tc226) (by decide))).trans s568
          have s618 := (fh599 m 26 (fun q => absurd (((tm).symm.trans (congrArg ty q.1)).trans tc226) (by decide))).trans s569
          have s619 := (fh599 m 27 (fun q => absurd (((tm).symm.trans (congrArg ty q.1)).trans tc226) (by decide))).trans s570
          have s620 := (fh599 m 21 (fun q => absurd (((tm).symm.trans (congrArg ty q.1)).trans tc226) (by decide))).trans s571
          have s621 := (fh599 m 22 (fun q => absurd (((tm).symm.trans (congrArg ty q.1)).trans tc226) (by decide))).trans s572
          have s622 := (fh599 m 24 (fun q => absurd (((tm).symm.trans (congrArg ty q.1)).trans tc226) (by decide))).trans s573
          have s623 := (fh599 m 29 (fun q => absurd (((tm).symm.trans (congrArg ty q.1)).trans tc226) (by decide))).trans s574
          have s624 := (fh599 m 30 (fun q => absurd (((tm).symm.trans (congrArg ty q.1)).trans tc226) (by decide))).trans s575
          have s625 := (fh599 m 31 (fun q => absurd (((tm).symm.trans (congrArg ty q.1)).trans tc226) (by decide))).trans s576
          have s626 := (fh599 m 32 (fun q => absurd (((tm).symm.trans (congrArg ty q.1)).trans tc226) (by decide))).trans s577
          have s627 := (fh599 m 33 (fun q => absurd (((tm).symm.trans (congrArg ty q.1)).trans tc226) (by decide))).trans s578
          have s628 := (fh599 m 23 (fun q => absurd (((tm).symm.trans (congrArg ty q.1)).trans tc226) (by decide))).trans s579
          have pr629 := gEl.set (i := 1) (z := (zup hh (8 * jn128v0)) * vb1) uq tc226 (by decide) eh599 (by omega) (by omega)
          refine gz_s 1 (pc' := 161) (L' := [some (.ref m), some (.int (zi 1))]) (S' := [.ref m]) rfl ?_
          refine gs_gtk rfl (by decide) rfl sh599.1 tm rfl rfl s625 ?_
          refine gz_s 2 (pc' := 166) (L' := [some (.ref m), some (.int (zi 1))]) (S' := [.ref m, .int (zi 1), .ref c276]) rfl ?_
          refine gs_gtk rfl (by decide) rfl sh599.1 tm rfl rfl s615 ?_
          refine gz_s 1 (pc' := 170) (L' := [some (.ref m), some (.int (zi 1))]) (S' := [.ref m, .int (zi w), .int (zi 1), .ref c276]) rfl ?_
          refine gs_gtk rfl (by decide) rfl sh599.1 tm rfl rfl s618 ?_
          refine gz_s 1 (pc' := 174) (L' := [some (.ref m), some (.int (zi 1))]) (S' := [.int (zi 1), .ref c28, .int (zi w), .int (zi 1), .ref c276]) rfl ?_
          have hl630 : 3 ≤ h599.2.2.2.1 c28 ∧ h599.2.2.2.1 c28 ≤ 3 := gJ.rowl (G := gGG) sh599.1 tc28 rfl
          refine gs_alx rfl (by decide) sh599.1 tc28 rfl rfl rfl (by decide) (fun _ => rfl) (by omega) (by omega) (by decide) pr603 (fun ex631 ax631 bx631 => ?_)
          have hx632 := zx_f (a := w) (b := hb1) (A := 64) (B := 2) (by omega) (by omega) (by omega) (by omega)
          refine gy_s 2 (pc' := 177) (L' := [some (.ref m), some (.int (zi 1))]) (S' := [.ref m, .int ((zi w) * (zi hb1)), .int (zi 1), .ref c276]) (L2 := [some (.ref m), some (.int (zi 1))]) (S2 := [.ref m, .int (zi (w * hb1)), .int (zi 1), .ref c276]) rfl (by simp only [zi_add, zi_sub, zi_mul, zi_neg, zi_and1, zi_and7, zi_and15, zi_and31, zi_and255, Int.reduceAdd, Int.reduceMul, Int.reduceSub]) (by simp only [zi_add, zi_sub, zi_mul, zi_neg, zi_and1, zi_and7, zi_and15, zi_and31, zi_and255, Int.reduceAdd, Int.reduceMul, Int.reduceSub]) ?_
          refine gs_gtk rfl (by decide) rfl sh599.1 tm rfl rfl s620 ?_
          refine gz_call rfl (by decide) rfl (by decide) (by decide) (gcal_of rfl rfl rfl (Nat.le_of_ble_eq_true rfl) rfl) (mm_up _ sh599.1 (w * hb1) (by omega) jn109v0 (by omega) ) (fun q633 _ wq633 => ?_)
          obtain ⟨pq633, oq633, hq633⟩ := q633
          obtain ⟨xq633, zq633, gq633, aq633, bq633, uq633_0⟩ := wq633
          subst uq633_0
          refine ⟨_, gq633, ?_⟩
          show gz gPP gGG gcn _ _ 183 [some (.ref m), some (.int (zi 1))] [.int (zi (zup (w * hb1) jn109v0)), .int (zi 1), .ref c276] hq633 _
          have sq633 := gSs.tr sh599 xq633 (by decide)
          have s634 := (xq633.2.2.2.2.2 m 18 (by rw [tm]; decide)).trans s615
          have s635 := (xq633.2.2.2.2.2 m 19 (by rw [tm]; decide)).trans s616
          have s636 := (xq633.2.2.2.2.2 m 20 (by rw [tm]; decide)).trans s617
          have s637 := (xq633.2.2.2.2.2 m 26 (by rw [tm]; decide)).trans s618
          have s638 := (xq633.2.2.2.2.2 m 27 (by rw [tm]; decide)).trans s619
          have s639 := (xq633.2.2.2.2.2 m 21 (by rw [tm]; decide)).trans s620
          have s640 := (xq633.2.2.2.2.2 m 22 (by rw [tm]; decide)).trans s621
          have s641 := (xq633.2.2.2.2.2 m 24 (by rw [tm]; decide)).trans s622
          have s642 := (xq633.2.2.2.2.2 m 29 (by rw [tm]; decide)).trans s623
          have s643 := (xq633.2.2.2.2.2 m 30 (by rw [tm]; decide)).trans s624
          have s644 := (xq633.2.2.2.2.2 m 31 (by rw [tm]; decide)).trans s625
          have s645 := (xq633.2.2.2.2.2 m 32 (by rw [tm]; decide)).trans s626
          have s646 := (xq633.2.2.2.2.2 m 33 (by rw [tm]; decide)).trans s627
          have s647 := (xq633.2.2.2.2.2 m 23 (by rw [tm]; decide)).trans s628
          have pr648 := gEl.fr xq633.2 (by decide) (fun _ => rfl) pr600
          have pr649 := gEl.fr xq633.2 (by decide) (fun _ => rfl) pr601
          have pr650 := gEl.fr xq633.2 (by decide) (fun _ => rfl) pr602
          have pr651 := gEl.fr xq633.2 (by decide) (fun _ => rfl) pr603
          have pr652 := gEl.fr xq633.2 (by decide) (fun _ => rfl) pr604
          have pr653 := gEl.fr xq633.2 (by decide) (fun _ => rfl) pr605
          have pr654 := gEl.fr xq633.2 (by decide) (fun _ => rfl) pr606
          have pr655 := gEl.fr xq633.2 (by decide) (fun _ => rfl) pr607
          have pr656 := gEl.fr xq633.2 (by decide) (fun _ => rfl) pr608
          have pr657 := gEl.fr xq633.2 (by decide) (fun _ => rfl) pr609
          have pr658 := gEl.fr xq633.2 (by decide) (fun _ => rfl) pr610
          have pr659 := gEl.fr xq633.2 (by decide) (fun _ => rfl) pr611
          have pr660 := gEl.fr xq633.2 (by decide) (fun _ => rfl) pr612
          have pr661 := gEl.fr xq633.2 (by decide) (fun _ => rfl) pr613
          have pr662 := gEl.fr xq633.2 (by decide) (fun _ => rfl) pr614
          have pr663 := gEl.fr xq633.2 (by decide) (fun _ => rfl) pr629
          refine gz_s 1 (pc' := 185) (L' := [some (.ref m), some (.int (zi 1))]) (S' := [.int (zi 8), .int (zi (zup (w * hb1) jn109v0)), .int (zi 1), .ref c276]) rfl ?_
          refine gz_call rfl (by decide) rfl (by decide) (by decide) (gcal_of rfl rfl rfl (Nat.le_of_ble_eq_true rfl) rfl) (mm_up _ sq633.1 (zup (w * hb1) jn109v0) (by omega) 8 (by omega) ) (fun q664 _ wq664 => ?_)
          obtain ⟨pq664, oq664, hq664⟩ := q664
          obtain ⟨xq664, zq664, gq664, aq664, bq664, uq664_0⟩ := wq664
          subst uq664_0
          refine ⟨_, gq664, ?_⟩
          show gz gPP gGG gcn _ _ 188 [some (.ref m), some (.int (zi 1))] [.int (zi (zup (zup (w * hb1) jn109v0) 8)), .int (zi 1), .ref c276] hq664 _
          have sq664 := gSs.tr sq633 xq664 (by decide)
          have s665 := (xq664.2.2.2.2.2 m 18 (by rw [tm]; decide)).trans s634
          have s666 := (xq664.2.2.2.2.2 m 19 (by rw [tm]; decide)).trans s635
          have s667 := (xq664.2.2.2.2.2 m 20 (by rw [tm]; decide)).trans s636
          have s668 := (xq664.2.2.2.2.2 m 26 (by rw [tm]; decide)).trans s637
          have s669 := (xq664.2.2.2.2.2 m 27 (by rw [tm]; decide)).trans s638
          have s670 := (xq664.2.2.2.2.2 m 21 (by rw [tm]; decide)).trans s639
          have s671 := (xq664.2.2.2.2.2 m 22 (by rw [tm]; decide)).trans s640
          have s672 := (xq664.2.2.2.2.2 m 24 (by rw [tm]; decide)).trans s641
          have s673 := (xq664.2.2.2.2.2 m 29 (by rw [tm]; decide)).trans s642
          have s674 := (xq664.2.2.2.2.2 m 30 (by rw [tm]; decide)).trans s643
          have s675 := (xq664.2.2.2.2.2 m 31 (by rw [tm]; decide)).trans s644
          have s676 := (xq664.2.2.2.2.2 m 32 (by rw [tm]; decide)).trans s645
          have s677 := (xq664.2.2.2.2.2 m 33 (by rw [tm]; decide)).trans s646
          have s678 := (xq664.2.2.2.2.2 m 23 (by rw [tm]; decide)).trans s647
          have pr679 := gEl.fr xq664.2 (by decide) (fun _ => rfl) pr648
          have pr680 := gEl.fr xq664.2 (by decide) (fun _ => rfl) pr649
          have pr681 := gEl.fr xq664.2 (by decide) (fun _ => rfl) pr650
          have pr682 := gEl.fr xq664.2 (by decide) (fun _ => rfl) pr651
          have pr683 := gEl.fr xq664.2 (by decide) (fun _ => rfl) pr652
          have pr684 := gEl.fr xq664.2 (by decide) (fun _ => rfl) pr653
          have pr685 := gEl.fr xq664.2 (by decide) (fun _ => rfl) pr654
          have pr686 := gEl.fr xq664.2 (by decide) (fun _ => rfl) pr655
          have pr687 := gEl.fr xq664.2 (by decide) (fun _ => rfl) pr656
          have pr688 := gEl.fr xq664.2 (by decide) (fun _ => rfl) pr657
          have pr689 := gEl.fr xq664.2 (by decide) (fun _ => rfl) pr658
          have pr690 := gEl.fr xq664.2 (by decide) (fun _ => rfl) pr659
          have pr691 := gEl.fr xq664.2 (by decide) (fun _ => rfl) pr660
          have pr692 := gEl.fr xq664.2 (by decide) (fun _ => rfl) pr661
          have pr693 := gEl.fr xq664.2 (by decide) (fun _ => rfl) pr662
          have pr694 := gEl.fr xq664.2 (by decide) (fun _ => rfl) pr663
          have hl695 : 3 ≤ hq664.2.2.2.1 c276 ∧ hq664.2.2.2.1 c276 ≤ 3 := gJ.rowl (G := gGG) sq664.1 tc276 rfl
          refine gs_ast rfl (by decide) sq664 tc276 rfl rfl rfl (by decide) (fun _ => rfl) (by omega) (by omega) (fun _ => (by decide : (17999 : Nat) ∈ ([1021, 1022, 1023, 1024, 15999, 16999, 17999, 18999, 19999, 23999, 24999] : List Nat))) (by omega) (by omega) (fun h696 sh696 eh696 fh696 => ?_)
          have pr697 := gEl.pt fh696 tc276 (by decide) pr679
          have pr698 := gEl.pt fh696 tc276 (by decide) pr680
          have pr699 := gEl.pt fh696 tc276 (by decide) pr681
          have pr700 := gEl.pt fh696 tc276 (by decide) pr682
          have pr701 := gEl.pt fh696 tc276 (by decide) pr683
          have pr702 := gEl.pt fh696 tc276 (by decide) pr684
          have pr703 := gEl.pt fh696 tc276 (by decide) pr685
          have pr704 := gEl.pt fh696 tc276 (by decide) pr686
          have pr705 := gEl.pt fh696 tc276 (by decide) pr687
          have pr706 := gEl.pt fh696 tc276 (by decide) pr688
          have pr707 := gEl.pt fh696 tc276 (by decide) pr689
          have pr708 := gEl.ot fh696 pr690 (i := 1) (by omega)
          have pr709 := gEl.pt fh696 tc276 (by decide) pr691
          have pr710 := gEl.pt fh696 tc276 (by decide) pr692
          have pr711 := gEl.pt fh696 tc276 (by decide) pr693
          have pr712 := gEl.pt fh696 tc276 (by decide) pr694
          have s713 := (fh696 m 18 (fun q => absurd (((tm).symm.trans (congrArg ty q.1)).trans tc276) (by decide))).trans s665
          have s714 := (fh696 m 19 (fun q => absurd (((tm).symm.trans (congrArg ty q.1)).trans tc276) (by decide))).trans s666
          have s715 := (fh696 m 20 (fun q => absurd (((tm).symm.trans (congrArg ty q.1)).trans tc276) (by decide))).trans s667
          have s716 := (fh696 m 26 (fun q => absurd (((tm).symm.trans (congrArg ty q.1)).trans tc276) (by decide))).trans s668
          have s717 := (fh696 m 27 (fun q => absurd (((tm).symm.trans (congrArg ty q.1)).trans tc276) (by decide))).trans s669
          have s718 := (fh696 m 21 (fun q => absurd (((tm).symm.trans (congrArg ty q.1)).trans tc276) (by decide))).trans s670
          have s719 := (fh696 m 22 (fun q => absurd (((tm).symm.trans (congrArg ty q.1)).trans tc276) (by decide))).trans s671
          have s720 := (fh696 m 24 (fun q => absurd (((tm).symm.trans (congrArg ty q.1)).trans tc276) (by decide))).trans s672
          have s721 := (fh696 m 29 (fun q => absurd (((tm).symm.trans (congrArg ty q.1)).trans tc276) (by decide))).trans s673
          have s722 := (fh696 m 30 (fun q => absurd (((tm).symm.trans (congrArg ty q.1)).trans tc276) (by decide))).trans s674
          have s723 := (fh696 m 31 (fun q => absurd (((tm).symm.trans (congrArg ty q.1)).trans tc276) (by decide))).trans s675
          have s724 := (fh696 m 32 (fun q => absurd (((tm).symm.trans (congrArg ty q.1)).trans tc276) (by decide))).trans s676
          have s725 := (fh696 m 33 (fun q => absurd (((tm).symm.trans (congrArg ty q.1)).trans tc276) (by decide))).trans s677
          have s726 := (fh696 m 23 (fun q => absurd (((tm).symm.trans (congrArg ty q.1)).trans tc276) (by decide))).trans s678
          have pr727 := gEl.set (i := 1) (z := zup (zup (w * hb1) jn109v0) 8) uq tc276 (by decide) eh696 (by omega) (by omega)
          refine gz_s 1 (pc' := 190) (L' := [some (.ref m), some (.int (zi 1))]) (S' := [.ref m]) rfl ?_
          refine gs_gtk rfl (by decide) rfl sh696.1 tm rfl rfl s724 ?_
          refine gz_s 2 (pc' := 195) (L' := [some (.ref m), some (.int (zi 1))]) (S' := [.ref m, .int (zi 1), .ref c354]) rfl ?_
          refine gs_gtk rfl (by decide) rfl sh696.1 tm rfl rfl s714 ?_
          refine gz_s 1 (pc' := 199) (L' := [some (.ref m), some (.int (zi 1))]) (S' := [.ref m, .int (zi hh), .int (zi 1), .ref c354]) rfl ?_
          refine gs_gtk rfl (by decide) rfl sh696.1 tm rfl rfl s717 ?_
          refine gz_s 1 (pc' := 203) (L' := [some (.ref m), some (.int (zi 1))]) (S' := [.int (zi 1), .ref c48, .int (zi hh), .int (zi 1), .ref c354]) rfl ?_
          have hl728 : 3 ≤ h696.2.2.2.1 c48 ∧ h696.2.2.2.1 c48 ≤ 3 := gJ.rowl (G := gGG) sh696.1 tc48 rfl
          refine gs_alx rfl (by decide) sh696.1 tc48 rfl rfl rfl (by decide) (fun _ => rfl) (by omega) (by omega) (by decide) pr701 (fun ex729 ax729 bx729 => ?_)
          have hx730 := zx_f (a := hh) (b := vb1) (A := 64) (B := 2) (by omega) (by omega) (by omega) (by omega)
          refine gy_s 2 (pc' := 206) (L' := [some (.ref m), some (.int (zi 1))]) (S' := [.ref m, .int ((zi hh) * (zi vb1)), .int (zi 1), .ref c354]) (L2 := [some (.ref m), some (.int (zi 1))]) (S2 := [.ref m, .int (zi (hh * vb1)), .int (zi 1), .ref c354]) rfl (by simp only [zi_add, zi_sub, zi_mul, zi_neg, zi_and1, zi_and7, zi_and15, zi_and31, zi_and255, Int.reduceAdd, Int.reduceMul, Int.reduceSub]) (by simp only [zi_add, zi_sub, zi_mul, zi_neg, zi_and1, zi_and7, zi_and15, zi_and31, zi_and255, Int.reduceAdd, Int.reduceMul, Int.reduceSub]) ?_
          refine gs_gtk rfl (by decide) rfl sh696.1 tm rfl rfl s719 ?_
          refine gz_call rfl (by decide) rfl (by decide) (by decide) (gcal_of rfl rfl rfl (Nat.le_of_ble_eq_true rfl) rfl) (mm_up _ sh696.1 (hh * vb1) (by omega) jn128v0 (by omega) ) (fun q731 _ wq731 => ?_)
          obtain ⟨pq731, oq731, hq731⟩ := q731
          obtain ⟨xq731, zq731, gq731, aq731, bq731, uq731_0⟩ := wq731
          subst uq731_0
          refine ⟨_, gq731, ?_⟩
          show gz gPP gGG gcn _ _ 212 [some (.ref m), some (.int (zi 1))] [.int (zi (zup (hh * vb1) jn128v0)), .int (zi 1), .ref c354] hq731 _
          have sq731 := gSs.tr sh696 xq731 (by decide)
          have s732 := (xq731.2.2.2.2.2 m 18 (by rw [tm]; decide)).trans s713
          have s733 := (xq731.2.2.2.2.2 m 19 (by rw [tm]; decide)).trans s714
          have s734 := (xq731.2.2.2.2.2 m 20 (by rw [tm]; decide)).trans s715
          have s735 := (xq731.2.2.2.2.2 m 26 (by rw [tm]; decide)).trans s716
          have s736 := (xq731.2.2.2.2.2 m 27 (by rw [tm]; decide)).trans s717
          have s737 := (xq731.2.2.2.2.2 m 21 (by rw [tm]; decide)).trans s718
          have s738 := (xq731.2.2.2.2.2 m 22 (by rw [tm]; decide)).trans s719
          have s739 := (xq731.2.2.2.2.2 m 24 (by rw [tm]; decide)).trans s720
          have s740 := (xq731.2.2.2.2.2 m 29 (by rw [tm]; decide)).trans s721
          have s741 := (xq731.2.2.2.2.2 m 30 (by rw [tm]; decide)).trans s722
          have s742 := (xq731.2.2.2.2.2 m 31 (by rw [tm]; decide)).trans s723
          have s743 := (xq731.2.2.2.2.2 m 32 (by rw [tm]; decide)).trans s724
          have s744 := (xq731.2.2.2.2.2 m 33 (by rw [tm]; decide)).trans s725
          have s745 := (xq731.2.2.2.2.2 m 23 (by rw [tm]; decide)).trans s726
          have pr746 := gEl.fr xq731.2 (by decide) (fun _ => rfl) pr697
          have pr747 := gEl.fr xq731.2 (by decide) (fun _ => rfl) pr698
          have pr748 := gEl.fr xq731.2 (by decide) (fun _ => rfl) pr699
          have pr749 := gEl.fr xq731.2 (by decide) (fun _ => rfl) pr700
          have pr750 := gEl.fr xq731.2 (by decide) (fun _ => rfl) pr701
          have pr751 := gEl.fr xq731.2 (by decide) (fun _ => rfl) pr702
          have pr752 := gEl.fr xq731.2 (by decide) (fun _ => rfl) pr703
          have pr753 := gEl.fr xq731.2 (by decide) (fun _ => rfl) pr704
          have pr754 := gEl.fr xq731.2 (by decide) (fun _ => rfl) pr705
          have pr755 := gEl.fr xq731.2 (by decide) (fun _ => rfl) pr706
          have pr756 := gEl.fr xq731.2 (by decide) (fun _ => rfl) pr707
          have pr757 := gEl.fr xq731.2 (by decide) (fun _ => rfl) pr708
          have pr758 := gEl.fr xq731.2 (by decide) (fun _ => rfl) pr709
          have pr759 := gEl.fr xq731.2 (by decide) (fun _ => rfl) pr710
          have pr760 := gEl.fr xq731.2 (by decide) (fun _ => rfl) pr711
          have pr761 := gEl.fr xq731.2 (by decide) (fun _ => rfl) pr712
          have pr762 := gEl.fr xq731.2 (by decide) (fun _ => rfl) pr727
          refine gz_s 1 (pc' := 214) (L' := [some (.ref m), some (.int (zi 1))]) (S' := [.int (zi 8), .int (zi (zup (hh * vb1) jn128v0)), .int (zi 1), .ref c354]) rfl ?_
          refine gz_call rfl (by decide) rfl (by decide) (by decide) (gcal_of rfl rfl rfl (Nat.le_of_ble_eq_true rfl) rfl) (mm_up _ sq731.1 (zup (hh * vb1) jn128v0) (by omega) 8 (by omega) ) (fun q763 _ wq763 => ?_)
          obtain ⟨pq763, oq763, hq763⟩ := q763
          obtain ⟨xq763, zq763, gq763, aq763, bq763, uq763_0⟩ := wq763
          subst uq763_0
          refine ⟨_, gq763, ?_⟩
          show gz gPP gGG gcn _ _ 217 [some (.ref m), some (.int (zi 1))] [.int (zi (zup (zup (hh * vb1) jn128v0) 8)), .int (zi 1), .ref c354] hq763 _
          have sq763 := gSs.tr sq731 xq763 (by decide)
          have s764 := (xq763.2.2.2.2.2 m 18 (by rw [tm]; decide)).trans s732
          have s765 := (xq763.2.2.2.2.2 m 19 (by rw [tm]; decide)).trans s733
          have s766 := (xq763.2.2.2.2.2 m 20 (by rw [tm]; decide)).trans s734
          have s767 := (xq763.2.2.2.2.2 m 26 (by rw [tm]; decide)).trans s735
          have s768 := (xq763.2.2.2.2.2 m 27 (by rw [tm]; decide)).trans s736
          have s769 := (xq763.2.2.2.2.2 m 21 (by rw [tm]; decide)).trans s737
          have s770 := (xq763.2.2.2.2.2 m 22 (by rw [tm]; decide)).trans s738
          have s771 := (xq763.2.2.2.2.2 m 24 (by rw [tm]; decide)).trans s739
          have s772 := (xq763.2.2.2.2.2 m 29 (by rw [tm]; decide)).trans s740
          have s773 := (xq763.2.2.2.2.2 m 30 (by rw [tm]; decide)).trans s741
          have s774 := (xq763.2.2.2.2.2 m 31 (by rw [tm]; decide)).trans s742
          have s775 := (xq763.2.2.2.2.2 m 32 (by rw [tm]; decide)).trans s743
          have s776 := (xq763.2.2.2.2.2 m 33 (by rw [tm]; decide)).trans s744
          have s777 := (xq763.2.2.2.2.2 m 23 (by rw [tm]; decide)).trans s745
          have pr778 := gEl.fr xq763.2 (by decide) (fun _ => rfl) pr746
          have pr779 := gEl.fr xq763.2 (by decide) (fun _ => rfl) pr747
          have pr780 := gEl.fr xq763.2 (by decide) (fun _ => rfl) pr748
          have pr781 := gEl.fr xq763.2 (by decide) (fun _ => rfl) pr749
          have pr782 := gEl.fr xq763.2 (by decide) (fun _ => rfl) pr750
          have pr783 := gEl.fr xq763.2 (by decide) (fun _ => rfl) pr751
          have pr784 := gEl.fr xq763.2 (by decide) (fun _ => rfl) pr752
          have pr785 := gEl.fr xq763.2 (by decide) (fun _ => rfl) pr753
          have pr786 := gEl.fr xq763.2 (by decide) (fun _ => rfl) pr754
          have pr787 := gEl.fr xq763.2 (by decide) (fun _ => rfl) pr755
          have pr788 := gEl.fr xq763.2 (by decide) (fun _ => rfl) pr756
          have pr789 := gEl.fr xq763.2 (by decide) (fun _ => rfl) pr757
          have pr790 := gEl.fr xq763.2 (by decide) (fun _ => rfl) pr758
          have pr791 := gEl.fr xq763.2 (by decide) (fun _ => rfl) pr759
          have pr792 := gEl.fr xq763.2 (by decide) (fun _ => rfl) pr760
          have pr793 := gEl.fr xq763.2 (by decide) (fun _ => rfl) pr761
          have pr794 := gEl.fr xq763.2 (by decide) (fun _ => rfl) pr762
          have hl795 : 3 ≤ hq763.2.2.2.1 c354 ∧ hq763.2.2.2.1 c354 ≤ 3 := gJ.rowl (G := gGG) sq763.1 tc354 rfl
          refine gs_ast rfl (by decide) sq763 tc354 rfl rfl rfl (by decide) (fun _ => rfl) (by omega) (by omega) (fun _ => (by decide : (18999 : Nat) ∈ ([1021, 1022, 1023, 1024, 15999, 16999, 17999, 18999, 19999, 23999, 24999] : List Nat))) (by omega) (by omega) (fun h796 sh796 eh796 fh796 => ?_)
          have pr797 := gEl.pt fh796 tc354 (by decide) pr778
          have pr798 := gEl.pt fh796 tc354 (by decide) pr779
          have pr799 := gEl.pt fh796 tc354 (by decide) pr780
          have pr800 := gEl.pt fh796 tc354 (by decide) pr781
          have pr801 := gEl.pt fh796 tc354 (by decide) pr782
          have pr802 := gEl.pt fh796 tc354 (by decide) pr783
          have pr803 := gEl.pt fh796 tc354 (by decide) pr784
          have pr804 := gEl.pt fh796 tc354 (by decide) pr785
          have pr805 := gEl.pt fh796 tc354 (by decide) pr786
          have pr806 := gEl.pt fh796 tc354 (by decide) pr787
          have pr807 := gEl.pt fh796 tc354 (by decide) pr788
          have pr808 := gEl.pt fh796 tc354 (by decide) pr789
          have pr809 := gEl.ot fh796 pr790 (i := 1) (by omega)
          have pr810 := gEl.pt fh796 tc354 (by decide) pr791
          have pr811 := gEl.pt fh796 tc354 (by decide) pr792
          have pr812 := gEl.pt fh796 tc354 (by decide) pr793
          have pr813 := gEl.pt fh796 tc354 (by decide) pr794
          have s814 := (fh796 m 18 (fun q => absurd (((tm).symm.trans (congrArg ty q.1)).trans tc354) (by decide))).trans s764
          have s815 := (fh796 m 19 (fun q => absurd (((tm).symm.trans (congrArg ty q.1)).trans tc354) (by decide))).trans s765
          have s816 := (fh796 m 20 (fun q => absurd (((tm).symm.trans (congrArg ty q.1)).trans tc354) (by decide))).trans s766
          have s817 := (fh796 m 26 (fun q => absurd (((tm).symm.trans (congrArg ty q.1)).trans tc354) (by decide))).trans s767
          have s818 := (fh796 m 27 (fun q => absurd (((tm).symm.trans (congrArg ty q.1)).trans tc354) (by decide))).trans s768
          have s819 := (fh796 m 21 (fun q => absurd (((tm).symm.trans (congrArg ty q.1)).trans tc354) (by decide))).trans s769
          have s820 := (fh796 m 22 (fun q => absurd (((tm).symm.trans (congrArg ty q.1)).trans tc354) (by decide))).trans s770
          have s821 := (fh796 m 24 (fun q => absurd (((tm).symm.trans (congrArg ty q.1)).trans tc354) (by decide))).trans s771
          have s822 := (fh796 m 29 (fun q => absurd (((tm).symm.trans (congrArg ty q.1)).trans tc354) (by decide))).trans s772
          have s823 := (fh796 m 30 (fun q => absurd (((tm).symm.trans (congrArg ty q.1)).trans tc354) (by decide))).trans s773
          have s824 := (fh796 m 31 (fun q => absurd (((tm).symm.trans (congrArg ty q.1)).trans tc354) (by decide))).trans s774
          have s825 := (fh796 m 32 (fun q => absurd (((tm).symm.trans (congrArg ty q.1)).trans tc354) (by decide))).trans s775
          have s826 := (fh796 m 33 (fun q => absurd (((tm).symm.trans (congrArg ty q.1)).trans tc354) (by decide))).trans s776
          have s827 := (fh796 m 23 (fun q => absurd (((tm).symm.trans (congrArg ty q.1)).trans tc354) (by decide))).trans s777
          have pr828 := gEl.set (i := 1) (z := zup (zup (hh * vb1) jn128v0) 8) uq tc354 (by decide) eh796 (by omega) (by omega)
          refine gz_s 1 (pc' := 219) (L' := [some (.ref m), some (.int (zi 1))]) (S' := [.ref m]) rfl ?_
          refine gs_gtk rfl (by decide) rfl sh796.1 tm rfl rfl s826 ?_
          refine gz_s 2 (pc' := 224) (L' := [some (.ref m), some (.int (zi 1))]) (S' := [.ref m, .int (zi 1), .ref c438]) rfl ?_
          refine gs_gtk rfl (by decide) rfl sh796.1 tm rfl rfl s827 ?_
          have hl829 : 3 ≤ h796.2.2.2.1 c438 ∧ h796.2.2.2.1 c438 ≤ 3 := gJ.rowl (G := gGG) sh796.1 tc438 rfl
          refine gs_ast rfl (by decide) sh796 tc438 rfl rfl rfl (by decide) (fun _ => rfl) (by omega) (by omega) (fun _ => (by decide : (19999 : Nat) ∈ ([1021, 1022, 1023, 1024, 15999, 16999, 17999, 18999, 19999, 23999, 24999] : List Nat))) (by omega) (by omega) (fun h830 sh830 eh830 fh830 => ?_)
          have pr831 := gEl.pt fh830 tc438 (by decide) pr797
          have pr832 := gEl.pt fh830 tc438 (by decide) pr798
          have pr833 := gEl.pt fh830 tc438 (by decide) pr799
          have pr834 := gEl.pt fh830 tc438 (by decide) pr800
          have pr835 := gEl.pt fh830 tc438 (by decide) pr801
          have pr836 := gEl.pt fh830 tc438 (by decide) pr802
          have pr837 := gEl.pt fh830 tc438 (by decide) pr803
          have pr838 := gEl.pt fh830 tc438 (by decide) pr804
          have pr839 := gEl.pt fh830 tc438 (by decide) pr805
          have pr840 := gEl.pt fh830 tc438 (by decide) pr806
          have pr841 := gEl.pt fh830 tc438 (by decide) pr807
          have pr842 := gEl.pt fh830 tc438 (by decide) pr808
          have pr843 := gEl.pt fh830 tc438 (by decide) pr809
          have pr844 := gEl.ot fh830 pr810 (i := 1) (by omega)
          have pr845 := gEl.pt fh830 tc438 (by decide) pr811
          have pr846 := gEl.pt fh830 tc438 (by decide) pr812
          have pr847 := gEl.pt fh830 tc438 (by decide) pr813
          have pr848 := gEl.pt fh830 tc438 (by decide) pr828
          have s849 := (fh830 m 18 (fun q => absurd (((tm).symm.trans (congrArg ty q.1)).trans tc438) (by decide))).trans s814
          have s850 := (fh830 m 19 (fun q => absurd (((tm).symm.trans (congrArg ty q.1)).trans tc438) (by decide))).trans s815
          have s851 := (fh830 m 20 (fun q => absurd (((tm).symm.trans (congrArg ty q.1)).trans tc438) (by decide))).trans s816
          have s852 := (fh830 m 26 (fun q => absurd (((tm).symm.trans (congrArg ty q.1)).trans tc438) (by decide))).trans s817
          have s853 := (fh830 m 27 (fun q => absurd (((tm).symm.trans (congrArg ty q.1)).trans tc438) (by decide))).trans s818
          have s854 := (fh830 m 21 (fun q => absurd (((tm).symm.trans (congrArg ty q.1)).trans tc438) (by decide))).trans s819
          have s855 := (fh830 m 22 (fun q => absurd (((tm).symm.trans (congrArg ty q.1)).trans tc438) (by decide))).trans s820
          have s856 := (fh830 m 24 (fun q => absurd (((tm).symm.trans (congrArg ty q.1)).trans tc438) (by decide))).trans s821
          have s857 := (fh830 m 29 (fun q => absurd (((tm).symm.trans (congrArg ty q.1)).trans tc438) (by decide))).trans s822
          have s858 := (fh830 m 30 (fun q => absurd (((tm).symm.trans (congrArg ty q.1)).trans tc438) (by decide))).trans s823
          have s859 := (fh830 m 31 (fun q => absurd (((tm).symm.trans (congrArg ty q.1)).trans tc438) (by decide))).trans s824
          have s860 := (fh830 m 32 (fun q => absurd (((tm).symm.trans (congrArg ty q.1)).trans tc438) (by decide))).trans s825
          have s861 := (fh830 m 33 (fun q => absurd (((tm).symm.trans (congrArg ty q.1)).trans tc438) (by decide))).trans s826
          have s862 := (fh830 m 23 (fun q => absurd (((tm).symm.trans (congrArg ty q.1)).trans tc438) (by decide))).trans s827
          have pr863 := gEl.set (i := 1) (z := 0 + (((zup w (8 * jn109v0)) * hb0) * ((zup hh (8 * jn128v0)) * vb0))) uq tc438 (by decide) eh830 (by omega) (by omega)
          refine gz_s 2 (pc' := 230) (L' := [some (.ref m), some (.int (zi 1))]) (S' := [.ref m, .ref m]) rfl ?_
          refine gs_gtk rfl (by decide) rfl sh830.1 tm rfl rfl s862 ?_
          refine gz_s 1 (pc' := 234) (L' := [some (.ref m), some (.int (zi 1))]) (S' := [.ref m, .int (zi (0 + (((zup w (8 * jn109v0)) * hb0) * ((zup hh (8 * jn128v0)) * vb0)))), .ref m]) rfl ?_
          refine gs_gtk rfl (by decide) rfl sh830.1 tm rfl rfl s857 ?_
          refine gz_s 1 (pc' := 238) (L' := [some (.ref m), some (.int (zi 1))]) (S' := [.int (zi 1), .ref c180, .int (zi (0 + (((zup w (8 * jn109v0)) * hb0) * ((zup hh (8 * jn128v0)) * vb0)))), .ref m]) rfl ?_
          have hl864 : 3 ≤ h830.2.2.2.1 c180 ∧ h830.2.2.2.1 c180 ≤ 3 := gJ.rowl (G := gGG) sh830.1 tc180 rfl
          refine gs_alx rfl (by decide) sh830.1 tc180 rfl rfl rfl (by decide) (fun _ => rfl) (by omega) (by omega) (by decide) pr845 (fun ex865 ax865 bx865 => ?_)
          refine gz_s 1 (pc' := 240) (L' := [some (.ref m), some (.int (zi 1))]) (S' := [.ref m, .int (zi ((zup w (8 * jn109v0)) * hb1)), .int (zi (0 + (((zup w (8 * jn109v0)) * hb0) * ((zup hh (8 * jn128v0)) * vb0)))), .ref m]) rfl ?_
          refine gs_gtk rfl (by decide) rfl sh830.1 tm rfl rfl s858 ?_
          refine gz_s 1 (pc' := 244) (L' := [some (.ref m), some (.int (zi 1))]) (S' := [.int (zi 1), .ref c226, .int (zi ((zup w (8 * jn109v0)) * hb1)), .int (zi (0 + (((zup w (8 * jn109v0)) * hb0) * ((zup hh (8 * jn128v0)) * vb0)))), .ref m]) rfl ?_
          have hl866 : 3 ≤ h830.2.2.2.1 c226 ∧ h830.2.2.2.1 c226 ≤ 3 := gJ.rowl (G := gGG) sh830.1 tc226 rfl
          refine gs_alx rfl (by decide) sh830.1 tc226 rfl rfl rfl (by decide) (fun _ => rfl) (by omega) (by omega) (by decide) pr846 (fun ex867 ax867 bx867 => ?_)
          have hx868 := zx_f (a := (zup w (8 * jn109v0)) * hb1) (b := (zup hh (8 * jn128v0)) * vb1) (A := 16) (B := 16) (by omega) (by omega) (by omega) (by omega)
          refine gy_s 2 (pc' := 247) (L' := [some (.ref m), some (.int (zi 1))]) (S' := [.int ((zi (0 + (((zup w (8 * jn109v0)) * hb0) * ((zup hh (8 * jn128v0)) * vb0)))) + ((zi ((zup w (8 * jn109v0)) * hb1)) * (zi ((zup hh (8 * jn128v0)) * vb1)))), .ref m]) (L2 := [some (.ref m), some (.int (zi 1))]) (S2 := [.int (zi ((0 + (((zup w (8 * jn109v0)) * hb0) * ((zup hh (8 * jn128v0)) * vb0))) + (((zup w (8 * jn109v0)) * hb1) * ((zup hh (8 * jn128v0)) * vb1)))), .ref m]) rfl (by simp only [zi_add, zi_sub, zi_mul, zi_neg, zi_and1, zi_and7, zi_and15, zi_and31, zi_and255, Int.reduceAdd, Int.reduceMul, Int.reduceSub]) (by simp only [zi_add, zi_sub, zi_mul, zi_neg, zi_and1, zi_and7, zi_and15, zi_and31, zi_and255, Int.reduceAdd, Int.reduceMul, Int.reduceSub]) ?_
          refine gs_put rfl (by decide) rfl sh830 tm rfl rfl rfl rfl (Or.inl rfl) (by decide) (by omega) (by omega) (fun h869 sh869 eh869 fh869 => ?_)
          have pr870 := gEl.pt fh869 tm (by decide) pr831
          have pr871 := gEl.pt fh869 tm (by decide) pr832
          have pr872 := gEl.pt fh869 tm (by decide) pr833
          have pr873 := gEl.pt fh869 tm (by decide) pr834
          have pr874 := gEl.pt fh869 tm (by decide) pr835
          have pr875 := gEl.pt fh869 tm (by decide) pr836
          have pr876 := gEl.pt fh869 tm (by decide) pr837
          have pr877 := gEl.pt fh869 tm (by decide) pr838
          have pr878 := gEl.pt fh869 tm (by decide) pr839
          have pr879 := gEl.pt fh869 tm (by decide) pr840
          have pr880 := gEl.pt fh869 tm (by decide) pr841
          have pr881 := gEl.pt fh869 tm (by decide) pr842
          have pr882 := gEl.pt fh869 tm (by decide) pr843
          have pr883 := gEl.pt fh869 tm (by decide) pr844
          have pr884 := gEl.pt fh869 tm (by decide) pr845
          have pr885 := gEl.pt fh869 tm (by decide) pr846
          have pr886 := gEl.pt fh869 tm (by decide) pr847
          have pr887 := gEl.pt fh869 tm (by decide) pr848
          have pr888 := gEl.pt fh869 tm (by decide) pr863
          have s889 := (fh869 m 18 (fun q => absurd q.2 (by decide))).trans s849
          have s890 := (fh869 m 19 (fun q => absurd q.2 (by decide))).trans s850
          have s891 := (fh869 m 20 (fun q => absurd q.2 (by decide))).trans s851
          have s892 := (fh869 m 26 (fun q => absurd q.2 (by decide))).trans s852
          have s893 := (fh869 m 27 (fun q => absurd q.2 (by decide))).trans s853
          have s894 := (fh869 m 21 (fun q => absurd q.2 (by decide))).trans s854
          have s895 := (fh869 m 22 (fun q => absurd q.2 (by decide))).trans s855
          have s896 := (fh869 m 24 (fun q => absurd q.2 (by decide))).trans s856
          have s897 := (fh869 m 29 (fun q => absurd q.2 (by decide))).trans s857
          have s898 := (fh869 m 30 (fun q => absurd q.2 (by decide))).trans s858
          have s899 := (fh869 m 31 (fun q => absurd q.2 (by decide))).trans s859
          have s900 := (fh869 m 32 (fun q => absurd q.2 (by decide))).trans s860
          have s901 := (fh869 m 33 (fun q => absurd q.2 (by decide))).trans s861
          refine gy_s 4 (pc' := 100) (L' := [some (.ref m), some (.int ((zi 1) + zi 1))]) (S' := [.ref m, .int ((zi 1) + zi 1)]) (L2 := [some (.ref m), some (.int (zi 2))]) (S2 := [.ref m, .int (zi 2)]) rfl (by simp only [zi_add, zi_sub, zi_mul, zi_neg, zi_and1, zi_and7, zi_and15, zi_and31, zi_and255, Int.reduceAdd, Int.reduceMul, Int.reduceSub]) (by simp only [zi_add, zi_sub, zi_mul, zi_neg, zi_and1, zi_and7, zi_and15, zi_and31, zi_and255, Int.reduceAdd, Int.reduceMul, Int.reduceSub]) ?_
          refine gs_gtk rfl (by decide) rfl sh869.1 tm rfl rfl s891 ?_
          refine gy_icF rfl (by decide) (by decide) (by omega) (by omega) (by first | (simp [zc]; done) | (simp only [zc]; omega)) ?_
          have zC2 := zupC (w := w) (wd := jn109v0) (hb := hb2) (by omega) (by omega) (by omega) (by omega)
          have zR2 := zupC (w := hh) (wd := jn128v0) (hb := vb2) (by omega) (by omega) (by omega) (by omega)
          have zP2 := zb3 (a := (zup w (8 * jn109v0)) * hb2) (b := (zup hh (8 * jn128v0)) * vb2) (by omega) (by omega)
          refine gz_s 1 (pc' := 107) (L' := [some (.ref m), some (.int (zi 2))]) (S' := [.ref m]) rfl ?_
          refine gs_gtk rfl (by decide) rfl sh869.1 tm rfl rfl s897 ?_
          refine gz_s 2 (pc' := 112) (L' := [some (.ref m), some (.int (zi 2))]) (S' := [.ref m, .int (zi 2), .ref c180]) rfl ?_
          refine gs_gtk rfl (by decide) rfl sh869.1 tm rfl rfl s889 ?_
          refine gz_s 2 (pc' := 118) (L' := [some (.ref m), some (.int (zi 2))]) (S' := [.ref m, .int (zi 8), .int (zi w), .int (zi 2), .ref c180]) rfl ?_
          refine gs_gtk rfl (by decide) rfl sh869.1 tm rfl rfl s894 ?_
          refine gy_s 1 (pc' := 122) (L' := [some (.ref m), some (.int (zi 2))]) (S' := [.int ((zi 8) * (zi jn109v0)), .int (zi w), .int (zi 2), .ref c180]) (L2 := [some (.ref m), some (.int (zi 2))]) (S2 := [.int (zi (8 * jn109v0)), .int (zi w), .int (zi 2), .ref c180]) rfl (by simp only [zi_add, zi_sub, zi_mul, zi_neg, zi_and1, zi_and7, zi_and15, zi_and31, zi_and255, Int.reduceAdd, Int.reduceMul, Int.reduceSub]) (by simp only [zi_add, zi_sub, zi_mul, zi_neg, zi_and1, zi_and7, zi_and15, zi_and31, zi_and255, Int.reduceAdd, Int.reduceMul, Int.reduceSub]) ?_
          refine gz_call rfl (by decide) rfl (by decide) (by decide) (gcal_of rfl rfl rfl (Nat.le_of_ble_eq_true rfl) rfl) (mm_up _ sh869.1 w (by omega) (8 * jn109v0) (by omega) ) (fun q902 _ wq902 => ?_)
          obtain ⟨pq902, oq902, hq902⟩ := q902
          obtain ⟨xq902, zq902, gq902, aq902, bq902, uq902_0⟩ := wq902
          subst uq902_0
          refine ⟨_, gq902, ?_⟩
          show gz gPP gGG gcn _ _ 125 [some (.ref m), some (.int (zi 2))] [.int (zi (zup w (8 * jn109v0))), .int (zi 2), .ref c180] hq902 _
          have sq902 := gSs.tr sh869 xq902 (by decide)
          have s903 := (xq902.2.2.2.2.2 m 18 (by rw [tm]; decide)).trans s889
          have s904 := (xq902.2.2.2.2.2 m 19 (by rw [tm]; decide)).trans s890
          have s905 := (xq902.2.2.2.2.2 m 20 (by rw [tm]; decide)).trans s891
          have s906 := (xq902.2.2.2.2.2 m 26 (by rw [tm]; decide)).trans s892
          have s907 := (xq902.2.2.2.2.2 m 27 (by rw [tm]; decide)).trans s893
          have s908 := (xq902.2.2.2.2.2 m 21 (by rw [tm]; decide)).trans s894
          have s909 := (xq902.2.2.2.2.2 m 22 (by rw [tm]; decide)).trans s895
          have s910 := (xq902.2.2.2.2.2 m 24 (by rw [tm]; decide)).trans s896
          have s911 := (xq902.2.2.2.2.2 m 29 (by rw [tm]; decide)).trans s897
          have s912 := (xq902.2.2.2.2.2 m 30 (by rw [tm]; decide)).trans s898
          have s913 := (xq902.2.2.2.2.2 m 31 (by rw [tm]; decide)).trans s899
          have s914 := (xq902.2.2.2.2.2 m 32 (by rw [tm]; decide)).trans s900
          have s915 := (xq902.2.2.2.2.2 m 33 (by rw [tm]; decide)).trans s901
          have s916 := (xq902.2.2.2.2.2 m 23 (by rw [tm]; decide)).trans eh869
          have pr917 := gEl.fr xq902.2 (by decide) (fun _ => rfl) pr870
          have pr918 := gEl.fr xq902.2 (by decide) (fun _ => rfl) pr871
          have pr919 := gEl.fr xq902.2 (by decide) (fun _ => rfl) pr872
          have pr920 := gEl.fr xq902.2 (by decide) (fun _ => rfl) pr873
          have pr921 := gEl.fr xq902.2 (by decide) (fun _ => rfl) pr874
          have pr922 := gEl.fr xq902.2 (by decide) (fun _ => rfl) pr875
          have pr923 := gEl.fr xq902.2 (by decide) (fun _ => rfl) pr876
          have pr924 := gEl.fr xq902.2 (by decide) (fun _ => rfl) pr877
          have pr925 := gEl.fr xq902.2 (by decide) (fun _ => rfl) pr878
          have pr926 := gEl.fr xq902.2 (by decide) (fun _ => rfl) pr879
          have pr927 := gEl.fr xq902.2 (by decide) (fun _ => rfl) pr880
          have pr928 := gEl.fr xq902.2 (by decide) (fun _ => rfl) pr881
          have pr929 := gEl.fr xq902.2 (by decide) (fun _ => rfl) pr882
          have pr930 := gEl.fr xq902.2 (by decide) (fun _ => rfl) pr883
          have pr931 := gEl.fr xq902.2 (by decide) (fun _ => rfl) pr884
          have pr932 := gEl.fr xq902.2 (by decide) (fun _ => rfl) pr885
          have pr933 := gEl.fr xq902.2 (by decide) (fun _ => rfl) pr886
          have pr934 := gEl.fr xq902.2 (by decide) (fun _ => rfl) pr887
          have pr935 := gEl.fr xq902.2 (by decide) (fun _ => rfl) pr888
          refine gz_s 1 (pc' := 126) (L' := [some (.ref m), some (.int (zi 2))]) (S' := [.ref m, .int (zi (zup w (8 * jn109v0))), .int (zi 2), .ref c180]) rfl ?_
          refine gs_gtk rfl (by decide) rfl sq902.1 tm rfl rfl s906 ?_
          refine gz_s 1 (pc' := 130) (L' := [some (.ref m), some (.int (zi 2))]) (S' := [.int (zi 2), .ref c28, .int (zi (zup w (8 * jn109v0))), .int (zi 2), .ref c180]) rfl ?_
          have hl936 : 3 ≤ hq902.2.2.2.1 c28 ∧ hq902.2.2.2.1 c28 ≤ 3 := gJ.rowl (G := gGG) sq902.1 tc28 rfl
          refine gs_alx rfl (by decide) sq902.1 tc28 rfl rfl rfl (by decide) (fun _ => rfl) (by omega) (by omega) (by decide) pr923 (fun ex937 ax937 bx937 => ?_)
          have hx938 := zx_f (a := zup w (8 * jn109v0)) (b := hb2) (A := 4097) (B := 2) (by omega) (by omega) (by omega) (by omega)
          refine gy_s 1 (pc' := 132) (L' := [some (.ref m), some (.int (zi 2))]) (S' := [.int ((zi (zup w (8 * jn109v0))) * (zi hb2)), .int (zi 2), .ref c180]) (L2 := [some (.ref m), some (.int (zi 2))]) (S2 := [.int (zi ((zup w (8 * jn109v0)) * hb2)), .int (zi 2), .ref c180]) rfl (by simp only [zi_add, zi_sub, zi_mul, zi_neg, zi_and1, zi_and7, zi_and15, zi_and31, zi_and255, Int.reduceAdd, Int.reduceMul, Int.reduceSub]) (by simp only [zi_add, zi_sub, zi_mul, zi_neg, zi_and1, zi_and7, zi_and15, zi_and31, zi_and255, Int.reduceAdd, Int.reduceMul, Int.reduceSub]) ?_
          have hl939 : 3 ≤ hq902.2.2.2.1 c180 ∧ hq902.2.2.2.1 c180 ≤ 3 := gJ.rowl (G := gGG) sq902.1 tc180 rfl
          refine gs_ast rfl (by decide) sq902 tc180 rfl rfl rfl (by decide) (fun _ => rfl) (by omega) (by omega) (fun _ => (by decide : (15999 : Nat) ∈ ([1021, 1022, 1023, 1024, 15999, 16999, 17999, 18999, 19999, 23999, 24999] : List Nat))) (by omega) (by omega) (fun h940 sh940 eh940 fh940 => ?_)
          have pr941 := gEl.pt fh940 tc180 (by decide) pr917
          have pr942 := gEl.pt fh940 tc180 (by decide) pr918
          have pr943 := gEl.pt fh940 tc180 (by decide) pr919
          have pr944 := gEl.pt fh940 tc180 (by decide) pr920
          have pr945 := gEl.pt fh940 tc180 (by decide) pr921
          have pr946 := gEl.pt fh940 tc180 (by decide) pr922
          have pr947 := gEl.pt fh940 tc180 (by decide) pr923
          have pr948 := gEl.pt fh940 tc180 (by decide) pr924
          have pr949 := gEl.pt fh940 tc180 (by decide) pr925
          have pr950 := gEl.ot fh940 pr926 (i := 2) (by omega)
          have pr951 := gEl.pt fh940 tc180 (by decide) pr927
          have pr952 := gEl.pt fh940 tc180 (by decide) pr928
          have pr953 := gEl.pt fh940 tc180 (by decide) pr929
          have pr954 := gEl.pt fh940 tc180 (by decide) pr930
          have pr955 := gEl.ot fh940 pr931 (i := 2) (by omega)
          have pr956 := gEl.pt fh940 tc180 (by decide) pr932
          have pr957 := gEl.pt fh940 tc180 (by decide) pr933
          have pr958 := gEl.pt fh940 tc180 (by decide) pr934
          have pr959 := gEl.pt fh940 tc180 (by decide) pr935
          have s960 := (fh940 m 18 (fun q => absurd (((tm).symm.trans (congrArg ty q.1)).trans tc180) (by decide))).trans s903
          have s961 := (fh940 m 19 (fun q => absurd (((tm).symm.trans (congrArg ty q.1)).trans tc180) (by decide))).trans s904
          have s962 := (fh940 m 20 (fun q => absurd (((tm).symm.trans (congrArg ty q.1)).trans tc180) (by decide))).trans s905
          have s963 := (fh940 m 26 (fun q => absurd (((tm).symm.trans (congrArg ty q.1)).trans tc180) (by decide))).trans s906
          have s964 := (fh940 m 27 (fun q => absurd (((tm).symm.trans (congrArg ty q.1)).trans tc180) (by decide))).trans s907
          have s965 := (fh940 m 21 (fun q => absurd (((tm).symm.trans (congrArg ty q.1)).trans tc180) (by decide))).trans s908
          have s966 := (fh940 m 22 (fun q => absurd (((tm).symm.trans (congrArg ty q.1)).trans tc180) (by decide))).trans s909
          have s967 := (fh940 m 24 (fun q => absurd (((tm).symm.trans (congrArg ty q.1)).trans tc180) (by decide))).trans s910
          have s968 := (fh940 m 29 (fun q => absurd (((tm).symm.trans (congrArg ty q.1)).trans tc180) (by decide))).trans s911
          have s969 := (fh940 m 30 (fun q => absurd (((tm).symm.trans (congrArg ty q.1)).trans tc180) (by decide))).trans s912
          have s970 := (fh940 m 31 (fun q => absurd (((tm).symm.trans (congrArg ty q.1)).trans tc180) (by decide))).trans s913
          have s971 := (fh940 m 32 (fun q => absurd (((tm).symm.trans (congrArg ty q.1)).trans tc180) (by decide))).trans s914
          have s972 := (fh940 m 33 (fun q => absurd (((tm).symm.trans (congrArg ty q.1)).trans tc180) (by decide))).trans s915
          have s973 := (fh940 m 23 (fun q => absurd (((tm).symm.trans (congrArg ty q.1)).trans tc180) (by decide))).trans s916
          have pr974 := gEl.set (i := 2) (z := (zup w (8 * jn109v0)) * hb2) uq tc180 (by decide) eh940 (by omega) (by omega)
          refine gz_s 1 (pc' := 134) (L' := [some (.ref m), some (.int (zi 2))]) (S' := [.ref m]) rfl ?_
          refine gs_gtk rfl (by decide) rfl sh940.1 tm rfl rfl s969 ?_
          refine gz_s 2 (pc' := 139) (L' := [some (.ref m), some (.int (zi 2))]) (S' := [.ref m, .int (zi 2), .ref c226]) rfl ?_
          refine gs_gtk rfl (by decide) rfl sh940.1 tm rfl rfl s961 ?_
          refine gz_s 2 (pc' := 145) (L' := [some (.ref m), some (.int (zi 2))]) (S' := [.ref m, .int (zi 8), .int (zi hh), .int (zi 2), .ref c226]) rfl ?_
          refine gs_gtk rfl (by decide) rfl sh940.1 tm rfl rfl s966 ?_
          refine gy_s 1 (pc' := 149) (L' := [some (.ref m), some (.int (zi 2))]) (S' := [.int ((zi 8) * (zi jn128v0)), .int (zi hh), .int (zi 2), .ref c226]) (L2 := [some (.ref m), some (.int (zi 2))]) (S2 := [.int (zi (8 * jn128v0)), .int (zi hh), .int (zi 2), .ref c226]) rfl (by simp only [zi_add, zi_sub, zi_mul, zi_neg, zi_and1, zi_and7, zi_and15, zi_and31, zi_and255, Int.reduceAdd, Int.reduceMul, Int.reduceSub]) (by simp only [zi_add, zi_sub, zi_mul, zi_neg, zi_and1, zi_and7, zi_and15, zi_and31, zi_and255, Int.reduceAdd, Int.reduceMul, Int.reduceSub]) ?_
          refine gz_call rfl (by decide) rfl (by decide) (by decide) (gcal_of rfl rfl rfl (Nat.le_of_ble_eq_true rfl) rfl) (mm_up _ sh940.1 hh (by omega) (8 * jn128v0) (by omega) ) (fun q975 _ wq975 => ?_)
          obtain ⟨pq975, oq975, hq975⟩ := q975
          obtain ⟨xq975, zq975, gq975, aq975, bq975, uq975_0⟩ := wq975
          subst uq975_0
          refine ⟨_, gq975, ?_⟩
          show gz gPP gGG gcn _ _ 152 [some (.ref m), some (.int (zi 2))] [.int (zi (zup hh (8 * jn128v0))), .int (zi 2), .ref c226] hq975 _
          have sq975 := gSs.tr sh940 xq975 (by decide)
          have s976 := (xq975.2.2.2.2.2 m 18 (by rw [tm]; decide)).trans s960
          have s977 := (xq975.2.2.2.2.2 m 19 (by rw [tm]; decide)).trans s961
          have s978 := (xq975.2.2.2.2.2 m 20 (by rw [tm]; decide)).trans s962
          have s979 := (xq975.2.2.2.2.2 m 26 (by rw [tm]; decide)).trans s963
          have s980 := (xq975.2.2.2.2.2 m 27 (by rw [tm]; decide)).trans s964
          have s981 := (xq975.2.2.2.2.2 m 21 (by rw [tm]; decide)).trans s965
          have s982 := (xq975.2.2.2.2.2 m 22 (by rw [tm]; decide)).trans s966
          have s983 := (xq975.2.2.2.2.2 m 24 (by rw [tm]; decide)).trans s967
          have s984 := (xq975.2.2.2.2.2 m 29 (by rw [tm]; decide)).trans s968
          have s985 := (xq975.2.2.2.2.2 m 30 (by rw [tm]; decide)).trans s969
          have s986 := (xq975.2.2.2.2.2 m 31 (by rw [tm]; decide)).trans s970
          have s987 := (xq975.2.2.2.2.2 m 32 (by rw [tm]; decide)).trans s971
          have s988 := (xq975.2.2.2.2.2 m 33 (by rw [tm]; decide)).trans s972
          have s989 := (xq975.2.2.2.2.2 m 23 (by rw [tm]; decide)).trans s973
          have pr990 := gEl.fr xq975.2 (by decide) (fun _ => rfl) pr941
          have pr991 := gEl.fr xq975.2 (by decide) (fun _ => rfl) pr942
          have pr992 := gEl.fr xq975.2 (by decide) (fun _ => rfl) pr943
          have pr993 := gEl.fr xq975.2 (by decide) (fun _ => rfl) pr944
          have pr994 := gEl.fr xq975.2 (by decide) (fun _ => rfl) pr945
          have pr995 := gEl.fr xq975.2 (by decide) (fun _ => rfl) pr946
          have pr996 := gEl.fr xq975.2 (by decide) (fun _ => rfl) pr947
          have pr997 := gEl.fr xq975.2 (by decide) (fun _ => rfl) pr948
          have pr998 := gEl.fr xq975.2 (by decide) (fun _ => rfl) pr949
          have pr999 := gEl.fr xq975.2 (by decide) (fun _ => rfl) pr950
          have pr1000 := gEl.fr xq975.2 (by decide) (fun _ => rfl) pr951
          have pr1001 := gEl.fr xq975.2 (by decide) (fun _ => rfl) pr952
          have pr1002 := gEl.fr xq975.2 (by decide) (fun _ => rfl) pr953
          have pr1003 := gEl.fr xq975.2 (by decide) (fun _ => rfl) pr954
          have pr1004 := gEl.fr xq975.2 (by decide) (fun _ => rfl) pr955
          have pr1005 := gEl.fr xq975.2 (by decide) (fun _ => rfl) pr956
          have pr1006 := gEl.fr xq975.2 (by decide) (fun _ => rfl) pr957
          have pr1007 := gEl.fr xq975.2 (by decide) (fun _ => rfl) pr958
          have pr1008 := gEl.fr xq975.2 (by decide) (fun _ => rfl) pr959
          have pr1009 := gEl.fr xq975.2 (by decide) (fun _ => rfl) pr974
          refine gz_s 1 (pc' := 153) (L' := [some (.ref m), some (.int (zi 2))]) (S' := [.ref m, .int (zi (zup hh (8 * jn128v0))), .int (zi 2), .ref c226]) rfl ?_
          refine gs_gtk rfl (by decide) rfl sq975.1 tm rfl rfl s980 ?_
          refine gz_s 1 (pc' := 157) (L' := [some (.ref m), some (.int (zi 2))]) (S' := [.int (zi 2), .ref c48, .int (zi (zup hh (8 * jn128v0))), .int (zi 2), .ref c226]) rfl ?_
          have hl1010 : 3 ≤ hq975.2.2.2.1 c48 ∧ hq975.2.2.2.1 c48 ≤ 3 := gJ.rowl (G := gGG) sq975.1 tc48 rfl
          refine gs_alx rfl (by decide) sq975.1 tc48 rfl rfl rfl (by decide) (fun _ => rfl) (by omega) (by omega) (by decide) pr997 (fun ex1011 ax1011 bx1011 => ?_)
          have hx1012 := zx_f (a := zup hh (8 * jn128v0)) (b := vb2) (A := 4097) (B := 2) (by omega) (by omega) (by omega) (by omega)
          refine gy_s 1 (pc' := 159) (L' := [some (.ref m), some (.int (zi 2))]) (S' := [.int ((zi (zup hh (8 * jn128v0))) * (zi vb2)), .int (zi 2), .ref c226]) (L2 := [some (.ref m), some (.int (zi 2))]) (S2 := [.int (zi ((zup hh (8 * jn128v0)) * vb2)), .int (zi 2), .ref c226]) rfl (by simp only [zi_add, zi_sub, zi_mul, zi_neg, zi_and1, zi_and7, zi_and15, zi_and31, zi_and255, Int.reduceAdd, Int.reduceMul, Int.reduceSub]) (by simp only [zi_add, zi_sub, zi_mul, zi_neg, zi_and1, zi_and7, zi_and15, zi_and31, zi_and255, Int.reduceAdd, Int.reduceMul, Int.reduceSub]) ?_
          have hl1013 : 3 ≤ hq975.2.2.2.1 c226 ∧ hq975.2.2.2.1 c226 ≤ 3 := gJ.rowl (G := gGG) sq975.1 tc226 rfl
          refine gs_ast rfl (by decide) sq975 tc226 rfl rfl rfl (by decide) (fun _ => rfl) (by omega) (by omega) (fun _ => (by decide : (16999 : Nat) ∈ ([1021, 1022, 1023, 1024, 15999, 16999, 17999, 18999, 19999, 23999, 24999] : List Nat))) (by omega) (by omega) (fun h1014 sh1014 eh1014 fh1014 => ?_)
          have pr1015 := gEl.pt fh1014 tc226 (by decide) pr990
          have pr1016 := gEl.pt fh1014 tc226 (by decide) pr991
          have pr1017 := gEl.pt fh1014 tc226 (by decide) pr992
          have pr1018 := gEl.pt fh1014 tc226 (by decide) pr993
          have pr1019 := gEl.pt fh1014 tc226 (by decide) pr994
          have pr1020 := gEl.pt fh1014 tc226 (by decide) pr995
          have pr1021 := gEl.pt fh1014 tc226 (by decide) pr996
          have pr1022 := gEl.pt fh1014 tc226 (by decide) pr997
          have pr1023 := gEl.pt fh1014 tc226 (by decide) pr998
          have pr1024 := gEl.pt fh1014 tc226 (by decide) pr999
          have pr1025 := gEl.ot fh1014 pr1000 (i := 2) (by omega)
          have pr1026 := gEl.pt fh1014 tc226 (by decide) pr1001
          have pr1027 := gEl.pt fh1014 tc226 (by decide) pr1002
          have pr1028 := gEl.pt fh1014 tc226 (by decide) pr1003
          have pr1029 := gEl.pt fh1014 tc226 (by decide) pr1004
          have pr1030 := gEl.ot fh1014 pr1005 (i := 2) (by omega)
          have pr1031 := gEl.pt fh1014 tc226 (by decide) pr1006
          have pr1032 := gEl.pt fh1014 tc226 (by decide) pr1007
          have pr1033 := gEl.pt fh1014 tc226 (by decide) pr1008
          have pr1034 := gEl.pt fh1014 tc226 (by decide) pr1009
          have s1035 := (fh1014 m 18 (fun q => absurd (((tm).symm.trans (congrArg ty q.1)).trans tc226) (by decide))).trans s976
          have s1036 := (fh1014 m 19 (fun q => absurd (((tm).symm.trans (congrArg ty q.1)).trans tc226) (by decide))).trans s977
          have s1037 := (fh1014 m 20 (fun q => absurd (((tm).symm.trans (congrArg ty q.1)).trans tc226) (by decide))).trans s978
          have s1038 := (fh1014 m 26 (fun q => absurd (((tm).symm.trans (congrArg ty q.1)).trans tc226) (by decide))).trans s979
          have s1039 := (fh1014 m 27 (fun q => absurd (((tm).symm.trans (congrArg ty q.1)).trans tc226) (by decide))).trans s980
          have s1040 := (fh1014 m 21 (fun q => absurd (((tm).symm.trans (congrArg ty q.1)).trans tc226) (by decide))).trans s981
          have s1041 := (fh1014 m 22 (fun q => absurd (((tm).symm.trans (congrArg ty q.1)).trans tc226) (by decide))).trans s982
          have s1042 := (fh1014 m 24 (fun q => absurd (((tm).symm.trans (congrArg ty q.1)).trans tc226) (by decide))).trans s983
          have s1043 := (fh1014 m 29 (fun q => absurd (((tm).symm.trans (congrArg ty q.1)).trans tc226) (by decide))).trans s984
          have s1044 := (fh1014 m 30 (fun q => absurd (((tm).symm.trans (congrArg ty q.1)).trans tc226) (by decide))).trans s985
          have s1045 := (fh1014 m 31 (fun q => absurd (((tm).symm.trans (congrArg ty q.1)).trans tc226) (by decide))).trans s986
          have s1046 := (fh1014 m 32 (fun q => absurd (((tm).symm.trans (congrArg ty q.1)).trans tc226) (by decide))).trans s987
          have s1047 := (fh1014 m 33 (fun q => absurd (((tm).symm.trans (congrArg ty q.1)).trans tc226) (by decide))).trans s988
          have s1048 := (fh1014 m 23 (fun q => absurd (((tm).symm.trans (congrArg ty q.1)).trans tc226) (by decide))).trans s989
          have pr1049 := gEl.set (i := 2) (z := (zup hh (8 * jn128v0)) * vb2) uq tc226 (by decide) eh1014 (by omega) (by omega)
          refine gz_s 1 (pc' := 161) (L' := [some (.ref m), some (.int (zi 2))]) (S' := [.ref m]) rfl ?_
          refine gs_gtk rfl (by decide) rfl sh1014.1 tm rfl rfl s1045 ?_
          refine gz_s 2 (pc' := 166) (L' := [some (.ref m), some (.int (zi 2))]) (S' := [.ref m, .int (zi 2), .ref c276]) rfl ?_
          refine gs_gtk rfl (by decide) rfl sh1014.1 tm rfl rfl s1035 ?_
          refine gz_s 1 (pc' := 170) (L' := [some (.ref m), some (.int (zi 2))]) (S' := [.ref m, .int (zi w), .int (zi 2), .ref c276]) rfl ?_
          refine gs_gtk rfl (by decide) rfl sh1014.1 tm rfl rfl s1038 ?_
          refine gz_s 1 (pc' := 174) (L' := [some (.ref m), some (.int (zi 2))]) (S' := [.int (zi 2), .ref c28, .int (zi w), .int (zi 2), .ref c276]) rfl ?_
          have hl1050 : 3 ≤ h1014.2.2.2.1 c28 ∧ h1014.2.2.2.1 c28 ≤ 3 := gJ.rowl (G := gGG) sh1014.1 tc28 rfl
          refine gs_alx rfl (by decide) sh1014.1 tc28 rfl rfl rfl (by decide) (fun _ => rfl) (by omega) (by omega) (by decide) pr1021 (fun ex1051 ax1051 bx1051 => ?_)
          have hx1052 := zx_f (a := w) (b := hb2) (A := 64) (B := 2) (by omega) (by omega) (by omega) (by omega)
          refine gy_s 2 (pc' := 177) (L' := [some (.ref m), some (.int (zi 2))]) (S' := [.ref m, .int ((zi w) * (zi hb2)), .int (zi 2), .ref c276]) (L2 := [some (.ref m), some (.int (zi 2))]) (S2 := [.ref m, .int (zi (w * hb2)), .int (zi 2), .ref c276]) rfl (by simp only [zi_add, zi_sub, zi_mul, zi_neg, zi_and1, zi_and7, zi_and15, zi_and31, zi_and255, Int.reduceAdd, Int.reduceMul, Int.reduceSub]) (by simp only [zi_add, zi_sub, zi_mul, zi_neg, zi_and1, zi_and7, zi_and15, zi_and31, zi_and255, Int.reduceAdd, Int.reduceMul, Int.reduceSub]) ?_
          refine gs_gtk rfl (by decide) rfl sh1014.1 tm rfl rfl s1040 ?_
          refine gz_call rfl (by decide) rfl (by decide) (by decide) (gcal_of rfl rfl rfl (Nat.le_of_ble_eq_true rfl) rfl) (mm_up _ sh1014.1 (w * hb2) (by omega) jn109v0 (by omega) ) (fun q1053 _ wq1053 => ?_)
          obtain ⟨pq1053, oq1053, hq1053⟩ := q1053
          obtain ⟨xq1053, zq1053, gq1053, aq1053, bq1053, uq1053_0⟩ := wq1053
          subst uq1053_0
          refine ⟨_, gq1053, ?_⟩
          show gz gPP gGG gcn _ _ 183 [some (.ref m), some (.int (zi 2))] [.int (zi (zup (w * hb2) jn109v0)), .int (zi 2), .ref c276] hq1053 _
          have sq1053 := gSs.tr sh1014 xq1053 (by decide)
          have s1054 := (xq1053.2.2.2.2.2 m 18 (by rw [tm]; decide)).trans s1035
          have s1055 := (xq1053.2.2.2.2.2 m 19 (by rw [tm]; decide)).trans s1036
          have s1056 := (xq1053.2.2.2.2.2 m 20 (by rw [tm]; decide)).trans s1037
          have s1057 := (xq1053.2.2.2.2.2 m 26 (by rw [tm]; decide)).trans s1038
          have s1058 := (xq1053.2.2.2.2.2 m 27 (by rw [tm]; decide)).trans s1039
          have s1059 := (xq1053.2.2.2.2.2 m 21 (by rw [tm]; decide)).trans s1040
          have s1060 := (xq1053.2.2.2.2.2 m 22 (by rw [tm]; decide)).trans s1041
          have s1061 := (xq1053.2.2.2.2.2 m 24 (by rw [tm]; decide)).trans s1042
          have s1062 := (xq1053.2.2.2.2.2 m 29 (by rw [tm]; decide)).trans s1043
          have s1063 := (xq1053.2.2.2.2.2 m 30 (by rw [tm]; decide)).trans s1044
          have s1064 := (xq1053.2.2.2.2.2 m 31 (by rw [tm]; decide)).trans s1045
          have s1065 := (xq1053.2.2.2.2.2 m 32 (by rw [tm]; decide)).trans s1046
          have s1066 := (xq1053.2.2.2.2.2 m 33 (by rw [tm]; decide)).trans s1047
          have s1067 := (xq1053.2.2.2.2.2 m 23 (by rw [tm]; decide)).trans s1048
          have pr1068 := gEl.fr xq1053.2 (by decide) (fun _ => rfl) pr1015
          have pr1069 := gEl.fr xq1053.2 (by decide) (fun _ => rfl) pr1016
          have pr1070 := gEl.fr xq1053.2 (by decide) (fun _ => rfl) pr1017
          have pr1071 := gEl.fr xq1053.2 (by decide) (fun _ => rfl) pr1018
          have pr1072 := gEl.fr xq1053.2 (by decide) (fun _ => rfl) pr1019
          have pr1073 := gEl.fr xq1053.2 (by decide) (fun _ => rfl) pr1020
          have pr1074 := gEl.fr xq1053.2 (by decide) (fun _ => rfl) pr1021
          have pr1075 := gEl.fr xq1053.2 (by decide) (fun _ => rfl) pr1022
          have pr1076 := gEl.fr xq1053.2 (by decide) (fun _ => rfl) pr1023
          have pr1077 := gEl.fr xq1053.2 (by decide) (fun _ => rfl) pr1024
          have pr1078 := gEl.fr xq1053.2 (by decide) (fun _ => rfl) pr1025
          have pr1079 := gEl.fr xq1053.2 (by decide) (fun _ => rfl) pr1026
          have pr1080 := gEl.fr xq1053.2 (by decide) (fun _ => rfl) pr1027
          have pr1081 := gEl.fr xq1053.2 (by decide) (fun _ => rfl) pr1028
          have pr1082 := gEl.fr xq1053.2 (by decide) (fun _ => rfl) pr1029
          have pr1083 := gEl.fr xq1053.2 (by decide) (fun _ => rfl) pr1030
          have pr1084 := gEl.fr xq1053.2 (by decide) (fun _ => rfl) pr1031
          have pr1085 := gEl.fr xq1053.2 (by decide) (fun _ => rfl) pr1032
          have pr1086 := gEl.fr xq1053.2 (by decide) (fun _ => rfl) pr1033
          have pr1087 := gEl.fr xq1053.2 (by decide) (fun _ => rfl) pr1034
          have pr1088 := gEl.fr xq1053.2 (by decide) (fun _ => rfl) pr1049
          refine gz_s 1 (pc' := 185) (L' := [some (.ref m), some (.int (zi 2))]) (S' := [.int (zi 8), .int (zi (zup (w * hb2) jn109v0)), .int (zi 2), .ref c276]) rfl ?_
          refine gz_call rfl (by decide) rfl (by decide) (by decide) (gcal_of rfl rfl rfl (Nat.le_of_ble_eq_true rfl) rfl) (mm_up _ sq1053.1 (zup (w * hb2) jn109v0) (by omega) 8 (by omega) ) (fun q1089 _ wq1089 => ?_)
          obtain ⟨pq1089, oq1089, hq1089⟩ := q1089
          obtain ⟨xq1089, zq1089, gq1089, aq1089, bq1089, uq1089_0⟩ := wq1089
          subst uq1089_0
          refine ⟨_, gq1089, ?_⟩
          show gz gPP gGG gcn _ _ 188 [some (.ref m), some (.int (zi 2))] [.int (zi (zup (zup (w * hb2) jn109v0) 8)), .int (zi 2), .ref c276] hq1089 _
          have sq1089 := gSs.tr sq1053 xq1089 (by decide)
          have s1090 := (xq1089.2.2.2.2.2 m 18 (by rw [tm]; decide)).trans s1054
          have s1091 := (xq1089.2.2.2.2.2 m 19 (by rw [tm]; decide)).trans s1055
          have s1092 := (xq1089.2.2.2.2.2 m 20 (by rw [tm]; decide)).trans s1056
          have s1093 := (xq1089.2.2.2.2.2 m 26 (by rw [tm]; decide)).trans s1057
          have s1094 := (xq1089.2.2.2.2.2 m 27 (by rw [tm]; decide)).trans s1058
          have s1095 := (xq1089.2.2.2.2.2 m 21 (by rw [tm]; decide)).trans s1059
          have s1096 := (xq1089.2.2.2.2.2 m 22 (by rw [tm]; decide)).trans s1060
          have s1097 := (xq1089.2.2.2.2.2 m 24 (by rw [tm]; decide)).trans s1061
          have s1098 := (xq1089.2.2.2.2.2 m 29 (by rw [tm]; decide)).trans s1062
          have s1099 := (xq1089.2.2.2.2.2 m 30 (by rw [tm]; decide)).trans s1063
          have s1100 := (xq1089.2.2.2.2.2 m 31 (by rw [tm]; decide)).trans s1064
          have s1101 := (xq1089.2.2.2.2.2 m 32 (by rw [tm]; decide)).trans s1065
          have s1102 := (xq1089.2.2.2.2.2 m 33 (by rw [tm]; decide)).trans s1066
          have s1103 := (xq1089.2.2.2.2.2 m 23 (by rw [tm]; decide)).trans s1067
          have pr1104 := gEl.fr xq1089.2 (by decide) (fun _ => rfl) pr1068
          have pr1105 := gEl.fr xq1089.2 (by decide) (fun _ => rfl) pr1069
          have pr1106 := gEl.fr xq1089.2 (by decide) (fun _ => rfl) pr1070
          have pr1107 := gEl.fr xq1089.2 (by decide) (fun _ => rfl) pr1071
          have pr1108 := gEl.fr xq1089.2 (by decide) (fun _ => rfl) pr1072
          have pr1109 := gEl.fr xq1089.2 (by decide) (fun _ => rfl) pr1073
          have pr1110 := gEl.fr xq1089.2 (by decide) (fun _ => rfl) pr1074
          have pr1111 := gEl.fr xq1089.2 (by decide) (fun _ => rfl) pr1075
          have pr1112 := gEl.fr xq1089.2 (by decide) (fun _ => rfl) pr1076
          have pr1113 := gEl.fr xq1089.2 (by decide) (fun _ => rfl) pr1077
          have pr1114 := gEl.fr xq1089.2 (by decide) (fun _ => rfl) pr1078
          have pr1115 := gEl.fr xq1089.2 (by decide) (fun _ => rfl) pr1079
          have pr1116 := gEl.fr xq1089.2 (by decide) (fun _ => rfl) pr1080
          have pr1117 := gEl.fr xq1089.2 (by decide) (fun _ => rfl) pr1081
          have pr1118 := gEl.fr xq1089.2 (by decide) (fun _ => rfl) pr1082
          have pr1119 := gEl.fr xq1089.2 (by decide) (fun _ => rfl) pr1083
          have pr1120 := gEl.fr xq1089.2 (by decide) (fun _ => rfl) pr1084
          have pr1121 := gEl.fr xq1089.2 (by decide) (fun _ => rfl) pr1085
          have pr1122 := gEl.fr xq1089.2 (by decide) (fun _ => rfl) pr1086
          have pr1123 := gEl.fr xq1089.2 (by decide) (fun _ => rfl) pr1087
          have pr1124 := gEl.fr xq1089.2 (by decide) (fun _ => rfl) pr1088
          have hl1125 : 3 ≤ hq1089.2.2.2.1 c276 ∧ hq1089.2.2.2.1 c276 ≤ 3 := gJ.rowl (G := gGG) sq1089.1 tc276 rfl
          refine gs_ast rfl (by decide) sq1089 tc276 rfl rfl rfl (by decide) (fun _ => rfl) (by omega) (by omega) (fun _ => (by decide : (17999 : Nat) ∈ ([1021, 1022, 1023, 1024, 15999, 16999, 17999, 18999, 19999, 23999, 24999] : List Nat))) (by omega) (by omega) (fun h1126 sh1126 eh1126 fh1126 => ?_)
          have pr1127 := gEl.pt fh1126 tc276 (by decide) pr1104
          have pr1128 := gEl.pt fh1126 tc276 (by decide) pr1105
          have pr1129 := gEl.pt fh1126 tc276 (by decide) pr1106
          have pr1130 := gEl.pt fh1126 tc276 (by decide) pr1107
          have pr1131 := gEl.pt fh1126 tc276 (by decide) pr1108
          have pr1132 := gEl.pt fh1126 tc276 (by decide) pr1109
          have pr1133 := gEl.pt fh1126 tc276 (by decide) pr1110
          have pr1134 := gEl.pt fh1126 tc276 (by decide) pr1111
          have pr1135 := gEl.pt fh1126 tc276 (by decide) pr1112
          have pr1136 := gEl.pt fh1126 tc276 (by decide) pr1113
          have pr1137 := gEl.pt fh1126 tc276 (by decide) pr1114
          have pr1138 := gEl.ot fh1126 pr1115 (i := 2) (by omega)
          have pr1139 := gEl.pt fh1126 tc276 (by decide) pr1116
          have pr1140 := gEl.pt fh1126 tc276 (by decide) pr1117
          have pr1141 := gEl.pt fh1126 tc276 (by decide) pr1118
          have pr1142 := gEl.pt fh1126 tc276 (by decide) pr1119
          have pr1143 := gEl.ot fh1126 pr1120 (i := 2) (by omega)
          have pr1144 := gEl.pt fh1126 tc276 (by decide) pr1121
          have pr1145 := gEl.pt fh1126 tc276 (by decide) pr1122
          have pr1146 := gEl.pt fh1126 tc276 (by decide) pr1123
          have pr1147 := gEl.pt fh1126 tc276 (by decide) pr1124
          have s1148 := (fh1126 m 18 (fun q => absurd (((tm).symm.trans (congrArg ty q.1)).trans tc276) (by decide))).trans s1090
          have s1149 := (fh1126 m 19 (fun q => absurd (((tm).symm.trans (congrArg ty q.1)).trans tc276) (by decide))).trans s1091
          have s1150 := (fh1126 m 20 (fun q => absurd (((tm).symm.trans (congrArg ty q.1)).trans tc276) (by decide))).trans s1092
          have s1151 := (fh1126 m 26 (fun q => absurd (((tm).symm.trans (congrArg ty q.1)).trans tc276) (by decide))).trans s1093
          have s1152 := (fh1126 m 27 (fun q => absurd (((tm).symm.trans (congrArg ty q.1)).trans tc276) (by decide))).trans s1094
          have s1153 := (fh1126 m 21 (fun q => absurd (((tm).symm.trans (congrArg ty q.1)).trans tc276) (by decide))).trans s1095
          have s1154 := (fh1126 m 22 (fun q => absurd (((tm).symm.trans (congrArg ty q.1)).trans tc276) (by decide))).trans s1096
          have s1155 := (fh1126 m 24 (fun q => absurd (((tm).symm.trans (congrArg ty q.1)).trans tc276) (by decide))).trans s1097
          have s1156 := (fh1126 m 29 (fun q => absurd (((tm).symm.trans (congrArg ty q.1)).trans tc276) (by decide))).trans s1098
          have s1157 := (fh1126 m 30 (fun q => absurd (((tm).symm.trans (congrArg ty q.1)).trans tc276) (by decide))).trans s1099
          have s1158 := (fh1126 m 31 (fun q => absurd (((tm).symm.trans (congrArg ty q.1)).trans tc276) (by decide))).trans s1100
          have s1159 := (fh1126 m 32 (fun q => absurd (((tm).symm.trans (congrArg ty q.1)).trans tc276) (by decide))).trans s1101
          have s1160 := (fh1126 m 33 (fun q => absurd (((tm).symm.trans (congrArg ty q.1)).trans tc276) (by decide))).trans s1102
          have s1161 := (fh1126 m 23 (fun q => absurd (((tm).symm.trans (congrArg ty q.1)).trans tc276) (by decide))).trans s1103
          have pr1162 := gEl.set (i := 2) (z := zup (zup (w * hb2) jn109v0) 8) uq tc276 (by decide) eh1126 (by omega) (by omega)
          refine gz_s 1 (pc' := 190) (L' := [some (.ref m), some (.int (zi 2))]) (S' := [.ref m]) rfl ?_
          refine gs_gtk rfl (by decide) rfl sh1126.1 tm rfl rfl s1159 ?_
          refine gz_s 2 (pc' := 195) (L' := [some (.ref m), some (.int (zi 2))]) (S' := [.ref m, .int (zi 2), .ref c354]) rfl ?_
          refine gs_gtk rfl (by decide) rfl sh1126.1 tm rfl rfl s1149 ?_
          refine gz_s 1 (pc' := 199) (L' := [some (.ref m), some (.int (zi 2))]) (S' := [.ref m, .int (zi hh), .int (zi 2), .ref c354]) rfl ?_
          refine gs_gtk rfl (by decide) rfl sh1126.1 tm rfl rfl s1152 ?_
          refine gz_s 1 (pc' := 203) (L' := [some (.ref m), some (.int (zi 2))]) (S' := [.int (zi 2), .ref c48, .int (zi hh), .int (zi 2), .ref c354]) rfl ?_
          have hl1163 : 3 ≤ h1126.2.2.2.1 c48 ∧ h1126.2.2.2.1 c48 ≤ 3 := gJ.rowl (G := gGG) sh1126.1 tc48 rfl
          refine gs_alx rfl (by decide) sh1126.1 tc48 rfl rfl rfl (by decide) (fun _ => rfl) (by omega) (by omega) (by decide) pr1134 (fun ex1164 ax1164 bx1164 => ?_)
          have hx1165 := zx_f (a := hh) (b := vb2) (A := 64) (B := 2) (by omega) (by omega) (by omega) (by omega)
          refine gy_s 2 (pc' := 206) (L' := [some (.ref m), some (.int (zi 2))]) (S' := [.ref m, .int ((zi hh) * (zi vb2)), .int (zi 2), .ref c354]) (L2 := [some (.ref m), some (.int (zi 2))]) (S2 := [.ref m, .int (zi (hh * vb2)), .int (zi 2), .ref c354]) rfl (by simp only [zi_add, zi_sub, zi_mul, zi_neg, zi_and1, zi_and7, zi_and15, zi_and31, zi_and255, Int.reduceAdd, Int.reduceMul, Int.reduceSub]) (by simp only [zi_add, zi_sub, zi_mul, zi_neg, zi_and1, zi_and7, zi_and15, zi_and31, zi_and255, Int.reduceAdd, Int.reduceMul, Int.reduceSub]) ?_
          refine gs_gtk rfl (by decide) rfl sh1126.1 tm rfl rfl s1154 ?_
          refine gz_call rfl (by decide) rfl (by decide) (by decide) (gcal_of rfl rfl rfl (Nat.le_of_ble_eq_true rfl) rfl) (mm_up _ sh1126.1 (hh * vb2) (by omega) jn128v0 (by omega) ) (fun q1166 _ wq1166 => ?_)
          obtain ⟨pq1166, oq1166, hq1166⟩ := q1166
          obtain ⟨xq1166, zq1166, gq1166, aq1166, bq1166, uq1166_0⟩ := wq1166
          subst uq1166_0
          refine ⟨_, gq1166, ?_⟩
          show gz gPP gGG gcn _ _ 212 [some (.ref m), some (.int (zi 2))] [.int (zi (zup (hh * vb2) jn128v0)), .int (zi 2), .ref c354] hq1166 _
          have sq1166 := gSs.tr sh1126 xq1166 (by decide)
          have s1167 := (xq1166.2.2.2.2.2 m 18 (by rw [tm]; decide)).trans s1148
          have s1168 := (xq1166.2.2.2.2.2 m 19 (by rw [tm]; decide)).trans s1149
          have s1169 := (xq1166.2.2.2.2.2 m 20 (by rw [tm]; decide)).trans s1150
          have s1170 := (xq1166.2.2.2.2.2 m 26 (by rw [tm]; decide)).trans s1151
          have s1171 := (xq1166.2.2.2.2.2 m 27 (by rw [tm]; decide)).trans s1152
          have s1172 := (xq1166.2.2.2.2.2 m 21 (by rw [tm]; decide)).trans s1153
          have s1173 := (xq1166.2.2.2.2.2 m 22 (by rw [tm]; decide)).trans s1154
          have s1174 := (xq1166.2.2.2.2.2 m 24 (by rw [tm]; decide)).trans s1155
          have s1175 := (xq1166.2.2.2.2.2 m 29 (by rw [tm]; decide)).trans s1156
          have s1176 := (xq1166.2.2.2.2.2 m 30 (by rw [tm]; decide)).trans s1157
          have s1177 := (xq1166.2.2.2.2.2 m 31 (by rw [tm]; decide)).trans s1158
          have s1178 := (xq1166.2.2.2.2.2 m 32 (by rw [tm]; decide)).trans s1159
          have s1179 := (xq1166.2.2.2.2.2 m 33 (by rw [tm]; decide)).trans s1160
          have s1180 := (xq1166.2.2.2.2.2 m 23 (by rw [tm]; decide)).trans s1161
          have pr1181 := gEl.fr xq1166.2 (by decide) (fun _ => rfl) pr1127
          have pr1182 := gEl.fr xq1166.2 (by decide) (fun _ => rfl) pr1128
          have pr1183 := gEl.fr xq1166.2 (by decide) (fun _ => rfl) pr1129
          have pr1184 := gEl.fr xq1166.2 (by decide) (fun _ => rfl) pr1130
          have pr1185 := gEl.fr xq1166.2 (by decide) (fun _ => rfl) pr1131
          have pr1186 := gEl.fr xq1166.2 (by decide) (fun _ => rfl) pr1132
          have pr1187 := gEl.fr xq1166.2 (by decide) (fun _ => rfl) pr1133
          have pr1188 := gEl.fr xq1166.2 (by decide) (fun _ => rfl) pr1134
          have pr1189 := gEl.fr xq1166.2 (by decide) (fun _ => rfl) pr1135
          have pr1190 := gEl.fr xq1166.2 (by decide) (fun _ => rfl) pr1136
          have pr1191 := gEl.fr xq1166.2 (by decide) (fun _ => rfl) pr1137
          have pr1192 := gEl.fr xq1166.2 (by decide) (fun _ => rfl) pr1138
          have pr1193 := gEl.fr xq1166.2 (by decide) (fun _ => rfl) pr1139
          have pr1194 := gEl.fr xq1166.2 (by decide) (fun _ => rfl) pr1140
          have pr1195 := gEl.fr xq1166.2 (by decide) (fun _ => rfl) pr1141
          have pr1196 := gEl.fr xq1166.2 (by decide) (fun _ => rfl) pr1142
          have pr1197 := gEl.fr xq1166.2 (by decide) (fun _ => rfl) pr1143
          have pr1198 := gEl.fr xq1166.2 (by decide) (fun _ => rfl) pr1144
          have pr1199 := gEl.fr xq1166.2 (by decide) (fun _ => rfl) pr1145
          have pr1200 := gEl.fr xq1166.2 (by decide) (fun _ => rfl) pr1146
          have pr1201 := gEl.fr xq1166.2 (by decide) (fun _ => rfl) pr1147
          have pr1202 := gEl.fr xq1166.2 (by decide) (fun _ => rfl) pr1162
          refine gz_s 1 (pc' := 214) (L' := [some (.ref m), some (.int (zi 2))]) (S' := [.int (zi 8), .int (zi (zup (hh * vb2) jn128v0)), .int (zi 2), .ref c354]) rfl ?_
          refine gz_call rfl (by decide) rfl (by decide) (by decide) (gcal_of rfl rfl rfl (Nat.le_of_ble_eq_true rfl) rfl) (mm_up _ sq1166.1 (zup (hh * vb2) jn128v0) (by omega) 8 (by omega) ) (fun q1203 _ wq1203 => ?_)
          obtain ⟨pq1203, oq1203, hq1203⟩ := q1203
          obtain ⟨xq1203, zq1203, gq1203, aq1203, bq1203, uq1203_0⟩ := wq1203
          subst uq1203_0
          refine ⟨_, gq1203, ?_⟩
          show gz gPP gGG gcn _ _ 217 [some (.ref m), some (.int (zi 2))] [.int (zi (zup (zup (hh * vb2) jn128v0) 8)), .int (zi 2), .ref c354] hq1203 _
          have sq1203 := gSs.tr sq1166 xq1203 (by decide)
          have s1204 := (xq1203.2.2.2.2.2 m 18 (by rw [tm]; decide)).trans s1167
          have s1205 := (xq1203.2.2.2.2.2 m 19 (by rw [tm]; decide)).trans s1168
          have s1206 := (xq1203.2.2.2.2.2 m 20 (by rw [tm]; decide)).trans s1169
          have s1207 := (xq1203.2.2.2.2.2 m 26 (by rw [tm]; decide)).trans s1170
          have s1208 := (xq1203.2.2.2.2.2 m 27 (by rw [tm]; decide)).trans s1171
          have s1209 := (xq1203.2.2.2.2.2 m 21 (by rw [tm]; decide)).trans s1172
          have s1210 := (xq1203.2.2.2.2.2 m 22 (by rw [tm]; decide)).trans s1173
          have s1211 := (xq1203.2.2.2.2.2 m 24 (by rw [tm]; decide)).trans s1174
          have s1212 := (xq1203.2.2.2.2.2 m 29 (by rw [tm]; decide)).trans s1175
          have s1213 := (xq1203.2.2.2.2.2 m 30 (by rw [tm]; decide)).trans s1176
          have s1214 := (xq1203.2.2.2.2.2 m 31 (by rw [tm]; decide)).trans s1177
          have s1215 := (xq1203.2.2.2.2.2 m 32 (by rw [tm]; decide)).trans s1178
          have s1216 := (xq1203.2.2.2.2.2 m 33 (by rw [tm]; decide)).trans s1179
          have s1217 := (xq1203.2.2.2.2.2 m 23 (by rw [tm]; decide)).trans s1180
          have pr1218 := gEl.fr xq1203.2 (by decide) (fun _ => rfl) pr1181
          have pr1219 := gEl.fr xq1203.2 (by decide) (fun _ => rfl) pr1182
          have pr1220 := gEl.fr xq1203.2 (by decide) (fun _ => rfl) pr1183
          have pr1221 := gEl.fr xq1203.2 (by decide) (fun _ => rfl) pr1184
          have pr1222 := gEl.fr xq1203.2 (by decide) (fun _ => rfl) pr1185
          have pr1223 := gEl.fr xq1203.2 (by decide) (fun _ => rfl) pr1186
          have pr1224 := gEl.fr xq1203.2 (by decide) (fun _ => rfl) pr1187
          have pr1225 := gEl.fr xq1203.2 (by decide) (fun _ => rfl) pr1188
          have pr1226 := gEl.fr xq1203.2 (by decide) (fun _ => rfl) pr1189
          have pr1227 := gEl.fr xq1203.2 (by decide) (fun _ => rfl) pr1190
          have pr1228 := gEl.fr xq1203.2 (by decide) (fun _ => rfl) pr1191
          have pr1229 := gEl.fr xq1203.2 (by decide) (fun _ => rfl) pr1192
          have pr1230 := gEl.fr xq1203.2 (by decide) (fun _ => rfl) pr1193
          have pr1231 := gEl.fr xq1203.2 (by decide) (fun _ => rfl) pr1194
          have pr1232 := gEl.fr xq1203.2 (by decide) (fun _ => rfl) pr1195
          have pr1233 := gEl.fr xq1203.2 (by decide) (fun _ => rfl) pr1196
          have pr1234 := gEl.fr xq1203.2 (by decide) (fun _ => rfl) pr1197
          have pr1235 := gEl.fr xq1203.2 (by decide) (fun _ => rfl) pr1198
          have pr1236 := gEl.fr xq1203.2 (by decide) (fun _ => rfl) pr1199
          have pr1237 := gEl.fr xq1203.2 (by decide) (fun _ => rfl) pr1200
          have pr1238 := gEl.fr xq1203.2 (by decide) (fun _ => rfl) pr1201
          have pr1239 := gEl.fr xq1203.2 (by decide) (fun _ => rfl) pr1202
          have hl1240 : 3 ≤ hq1203.2.2.2.1 c354 ∧ hq1203.2.2.2.1 c354 ≤ 3 := gJ.rowl (G := gGG) sq1203.1 tc354 rfl
          refine gs_ast rfl (by decide) sq1203 tc354 rfl rfl rfl (by decide) (fun _ => rfl) (by omega) (by omega) (fun _ => (by decide : (18999 : Nat) ∈ ([1021, 1022, 1023, 1024, 15999, 16999, 17999, 18999, 19999, 23999, 24999] : List Nat))) (by omega) (by omega) (fun h1241 sh1241 eh1241 fh1241 => ?_)
          have pr1242 := gEl.pt fh1241 tc354 (by decide) pr1218
          have pr1243 := gEl.pt fh1241 tc354 (by decide) pr1219
          have pr1244 := gEl.pt fh1241 tc354 (by decide) pr1220
          have pr1245 := gEl.pt fh1241 tc354 (by decide) pr1221
          have pr1246 := gEl.pt fh1241 tc354 (by decide) pr1222
          have pr1247 := gEl.pt fh1241 tc354 (by decide) pr1223
          have pr1248 := gEl.pt fh1241 tc354 (by decide) pr1224
          have pr1249 := gEl.pt fh1241 tc354 (by decide) pr1225
          have pr1250 := gEl.pt fh1241 tc354 (by decide) pr1226
          have pr1251 := gEl.pt fh1241 tc354 (by decide) pr1227
          have pr1252 := gEl.pt fh1241 tc354 (by decide) pr1228
          have pr1253 := gEl.pt fh1241 tc354 (by decide) pr1229
          have pr1254 := gEl.ot fh1241 pr1230 (i := 2) (by omega)
          have pr1255 := gEl.pt fh1241 tc354 (by decide) pr1231
          have pr1256 := gEl.pt fh1241 tc354 (by decide) pr1232
          have pr1257 := gEl.pt fh1241 tc354 (by decide) pr1233
          have pr1258 := gEl.pt fh1241 tc354 (by decide) pr1234
          have pr1259 := gEl.ot fh1241 pr1235 (i := 2) (by omega)
          have pr1260 := gEl.pt fh1241 tc354 (by decide) pr1236
          have pr1261 := gEl.pt fh1241 tc354 (by decide) pr1237
          have pr1262 := gEl.pt fh1241 tc354 (by decide) pr1238
          have pr1263 := gEl.pt fh1241 tc354 (by decide) pr1239
          have s1264 := (fh1241 m 18 (fun q => absurd (((tm).symm.trans (congrArg ty q.1)).trans tc354) (by decide))).trans s1204
          have s1265 := (fh1241 m 19 (fun q => absurd (((tm).symm.trans (congrArg ty q.1)).trans tc354) (by decide))).trans s1205
          have s1266 := (fh1241 m 20 (fun q => absurd (((tm).symm.trans (congrArg ty q.1)).trans tc354) (by decide))).trans s1206
          have s1267 := (fh1241 m 26 (fun q => absurd (((tm).symm.trans (congrArg ty q.1)).trans tc354) (by decide))).trans s1207
          have s1268 := (fh1241 m 27 (fun q => absurd (((tm).symm.trans (congrArg ty q.1)).trans tc354) (by decide))).trans s1208
          have s1269 := (fh1241 m 21 (fun q => absurd (((tm).symm.trans (congrArg ty q.1)).trans tc354) (by decide))).trans s1209
          have s1270 := (fh1241 m 22 (fun q => absurd (((tm).symm.trans (congrArg ty q.1)).trans tc354) (by decide))).trans s1210
          have s1271 := (fh1241 m 24 (fun q => absurd (((tm).symm.trans (congrArg ty q.1)).trans tc354) (by decide))).trans s1211
          have s1272 := (fh1241 m 29 (fun q => absurd (((tm).symm.trans (congrArg ty q.1)).trans tc354) (by decide))).trans s1212
          have s1273 := (fh1241 m 30 (fun q => absurd (((tm).symm.trans (congrArg ty q.1)).trans tc354) (by decide))).trans s1213
          have s1274 := (fh1241 m 31 (fun q => absurd (((tm).symm.trans (congrArg ty q.1)).trans tc354) (by decide))).trans s1214
          have s1275 := (fh1241 m 32 (fun q => absurd (((tm).symm.trans (congrArg ty q.1)).trans tc354) (by decide))).trans s1215
          have s1276 := (fh1241 m 33 (fun q => absurd (((tm).symm.trans (congrArg ty q.1)).trans tc354) (by decide))).trans s1216
          have s1277 := (fh1241 m 23 (fun q => absurd (((tm).symm.trans (congrArg ty q.1)).trans tc354) (by decide))).trans s1217
          have pr1278 := gEl.set (i := 2) (z := zup (zup (hh * vb2) jn128v0) 8) uq tc354 (by decide) eh1241 (by omega) (by omega)
          refine gz_s 1 (pc' := 219) (L' := [some (.ref m), some (.int (zi 2))]) (S' := [.ref m]) rfl ?_
          refine gs_gtk rfl (by decide) rfl sh1241.1 tm rfl rfl s1276 ?_
          refine gz_s 2 (pc' := 224) (L' := [some (.ref m), some (.int (zi 2))]) (S' := [.ref m, .int (zi 2), .ref c438]) rfl ?_
          refine gs_gtk rfl (by decide) rfl sh1241.1 tm rfl rfl s1277 ?_
          have hl1279 : 3 ≤ h1241.2.2.2.1 c438 ∧ h1241.2.2.2.1 c438 ≤ 3 := gJ.rowl (G := gGG) sh1241.1 tc438 rfl
          refine gs_ast rfl (by decide) sh1241 tc438 rfl rfl rfl (by decide) (fun _ => rfl) (by omega) (by omega) (fun _ => (by decide : (19999 : Nat) ∈ ([1021, 1022, 1023, 1024, 15999, 16999, 17999, 18999, 19999, 23999, 24999] : List Nat))) (by omega) (by omega) (fun h1280 sh1280 eh1280 fh1280 => ?_)
          have pr1281 := gEl.pt fh1280 tc438 (by decide) pr1242
          have pr1282 := gEl.pt fh1280 tc438 (by decide) pr1243
          have pr1283 := gEl.pt fh1280 tc438 (by decide) pr1244
          have pr1284 := gEl.pt fh1280 tc438 (by decide) pr1245
          have pr1285 := gEl.pt fh1280 tc438 (by decide) pr1246
          have pr1286 := gEl.pt fh1280 tc438 (by decide) pr1247
          have pr1287 := gEl.pt fh1280 tc438 (by decide) pr1248
          have pr1288 := gEl.pt fh1280 tc438 (by decide) pr1249
          have pr1289 := gEl.pt fh1280 tc438 (by decide) pr1250
          have pr1290 := gEl.pt fh1280 tc438 (by decide) pr1251
          have pr1291 := gEl.pt fh1280 tc438 (by decide) pr1252
          have pr1292 := gEl.pt fh1280 tc438 (by decide) pr1253
          have pr1293 := gEl.pt fh1280 tc438 (by decide) pr1254
          have pr1294 := gEl.ot fh1280 pr1255 (i := 2) (by omega)
          have pr1295 := gEl.pt fh1280 tc438 (by decide) pr1256
          have pr1296 := gEl.pt fh1280 tc438 (by decide) pr1257
          have pr1297 := gEl.pt fh1280 tc438 (by decide) pr1258
          have pr1298 := gEl.pt fh1280 tc438 (by decide) pr1259
          have pr1299 := gEl.ot fh1280 pr1260 (i := 2) (by omega)
          have pr1300 := gEl.pt fh1280 tc438 (by decide) pr1261
          have pr1301 := gEl.pt fh1280 tc438 (by decide) pr1262
          have pr1302 := gEl.pt fh1280 tc438 (by decide) pr1263
          have pr1303 := gEl.pt fh1280 tc438 (by decide) pr1278
          have s1304 := (fh1280 m 18 (fun q => absurd (((tm).symm.trans (congrArg ty q.1)).trans tc438) (by decide))).trans s1264
          have s1305 := (fh1280 m 19 (fun q => absurd (((tm).symm.trans (congrArg ty q.1)).trans tc438) (by decide))).trans s1265
          have s1306 := (fh1280 m 20 (fun q => absurd (((tm).symm.trans (congrArg ty q.1)).trans tc438) (by decide))).trans s1266
          have s1307 := (fh1280 m 26 (fun q => absurd (((tm).symm.trans (congrArg ty q.1)).trans tc438) (by decide))).trans s1267
          have s1308 := (fh1280 m 27 (fun q => absurd (((tm).symm.trans (congrArg ty q.1)).trans tc438) (by decide))).trans s1268
          have s1309 := (fh1280 m 21 (fun q => absurd (((tm).symm.trans (congrArg ty q.1)).trans tc438) (by decide))).trans s1269
          have s1310 := (fh1280 m 22 (fun q => absurd (((tm).symm.trans (congrArg ty q.1)).trans tc438) (by decide))).trans s1270
          have s1311 := (fh1280 m 24 (fun q => absurd (((tm).symm.trans (congrArg ty q.1)).trans tc438) (by decide))).trans s1271
          have s1312 := (fh1280 m 29 (fun q => absurd (((tm).symm.trans (congrArg ty q.1)).trans tc438) (by decide))).trans s1272
          have s1313 := (fh1280 m 30 (fun q => absurd (((tm).symm.trans (congrArg ty q.1)).trans tc438) (by decide))).trans s1273
          have s1314 := (fh1280 m 31 (fun q => absurd (((tm).symm.trans (congrArg ty q.1)).trans tc438) (by decide))).trans s1274
          have s1315 := (fh1280 m 32 (fun q => absurd (((tm).symm.trans (congrArg ty q.1)).trans tc438) (by decide))).trans s1275
          have s1316 := (fh1280 m 33 (fun q => absurd (((tm).symm.trans (congrArg ty q.1)).trans tc438) (by decide))).trans s1276
          have s1317 := (fh1280 m 23 (fun q => absurd (((tm).symm.trans (congrArg ty q.1)).trans tc438) (by decide))).trans s1277
          have pr1318 := gEl.set (i := 2) (z := (0 + (((zup w (8 * jn109v0)) * hb0) * ((zup hh (8 * jn128v0)) * vb0))) + (((zup w (8 * jn109v0)) * hb1) * ((zup hh (8 * jn128v0)) * vb1))) uq tc438 (by decide) eh1280 (by omega) (by omega)
          refine gz_s 2 (pc' := 230) (L' := [some (.ref m), some (.int (zi 2))]) (S' := [.ref m, .ref m]) rfl ?_
          refine gs_gtk rfl (by decide) rfl sh1280.1 tm rfl rfl s1317 ?_
          refine gz_s 1 (pc' := 234) (L' := [some (.ref m), some (.int (zi 2))]) (S' := [.ref m, .int (zi ((0 + (((zup w (8 * jn109v0)) * hb0) * ((zup hh (8 * jn128v0)) * vb0))) + (((zup w (8 * jn109v0)) * hb1) * ((zup hh (8 * jn128v0)) * vb1)))), .ref m]) rfl ?_
          refine gs_gtk rfl (by decide) rfl sh1280.1 tm rfl rfl s1312 ?_
          refine gz_s 1 (pc' := 238) (L' := [some (.ref m), some (.int (zi 2))]) (S' := [.int (zi 2), .ref c180, .int (zi ((0 + (((zup w (8 * jn109v0)) * hb0) * ((zup hh (8 * jn128v0)) * vb0))) + (((zup w (8 * jn109v0)) * hb1) * ((zup hh (8 * jn128v0)) * vb1)))), .ref m]) rfl ?_
          have hl1319 : 3 ≤ h1280.2.2.2.1 c180 ∧ h1280.2.2.2.1 c180 ≤ 3 := gJ.rowl (G := gGG) sh1280.1 tc180 rfl
          refine gs_alx rfl (by decide) sh1280.1 tc180 rfl rfl rfl (by decide) (fun _ => rfl) (by omega) (by omega) (by decide) pr1300 (fun ex1320 ax1320 bx1320 => ?_)
          refine gz_s 1 (pc' := 240) (L' := [some (.ref m), some (.int (zi 2))]) (S' := [.ref m, .int (zi ((zup w (8 * jn109v0)) * hb2)), .int (zi ((0 + (((zup w (8 * jn109v0)) * hb0) * ((zup hh (8 * jn128v0)) * vb0))) + (((zup w (8 * jn109v0)) * hb1) * ((zup hh (8 * jn128v0)) * vb1)))), .ref m]) rfl ?_
          refine gs_gtk rfl (by decide) rfl sh1280.1 tm rfl rfl s1313 ?_
          refine gz_s 1 (pc' := 244) (L' := [some (.ref m), some (.int (zi 2))]) (S' := [.int (zi 2), .ref c226, .int (zi ((zup w (8 * jn109v0)) * hb2)), .int (zi ((0 + (((zup w (8 * jn109v0)) * hb0) * ((zup hh (8 * jn128v0)) * vb0))) + (((zup w (8 * jn109v0)) * hb1) * ((zup hh (8 * jn128v0)) * vb1)))), .ref m]) rfl ?_
          have hl1321 : 3 ≤ h1280.2.2.2.1 c226 ∧ h1280.2.2.2.1 c226 ≤ 3 := gJ.rowl (G := gGG) sh1280.1 tc226 rfl
          refine gs_alx rfl (by decide) sh1280.1 tc226 rfl rfl rfl (by decide) (fun _ => rfl) (by omega) (by omega) (by decide) pr1301 (fun ex1322 ax1322 bx1322 => ?_)
          have hx1323 := zx_f (a := (zup w (8 * jn109v0)) * hb2) (b := (zup hh (8 * jn128v0)) * vb2) (A := 16) (B := 16) (by omega) (by omega) (by omega) (by omega)
          refine gy_s 2 (pc' := 247) (L' := [some (.ref m), some (.int (zi 2))]) (S' := [.int ((zi ((0 + (((zup w (8 * jn109v0)) * hb0) * ((zup hh (8 * jn128v0)) * vb0))) + (((zup w (8 * jn109v0)) * hb1) * ((zup hh (8 * jn128v0)) * vb1)))) + ((zi ((zup w (8 * jn109v0)) * hb2)) * (zi ((zup hh (8 * jn128v0)) * vb2)))), .ref m]) (L2 := [some (.ref m), some (.int (zi 2))]) (S2 := [.int (zi (((0 + (((zup w (8 * jn109v0)) * hb0) * ((zup hh (8 * jn128v0)) * vb0))) + (((zup w (8 * jn109v0)) * hb1) * ((zup hh (8 * jn128v0)) * vb1))) + (((zup w (8 * jn109v0)) * hb2) * ((zup hh (8 * jn128v0)) * vb2)))), .ref m]) rfl (by simp only [zi_add, zi_sub, zi_mul, zi_neg, zi_and1, zi_and7, zi_and15, zi_and31, zi_and255, Int.reduceAdd, Int.reduceMul, Int.reduceSub]) (by simp only [zi_add, zi_sub, zi_mul, zi_neg, zi_and1, zi_and7, zi_and15, zi_and31, zi_and255, Int.reduceAdd, Int.reduceMul, Int.reduceSub]) ?_
          refine gs_put rfl (by decide) rfl sh1280 tm rfl rfl rfl rfl (Or.inl rfl) (by decide) (by omega) (by omega) (fun h1324 sh1324 eh1324 fh1324 => ?_)
          have pr1325 := gEl.pt fh1324 tm (by decide) pr1281
          have pr1326 := gEl.pt fh1324 tm (by decide) pr1282
          have pr1327 := gEl.pt fh1324 tm (by decide) pr1283
          have pr1328 := gEl.pt fh1324 tm (by decide) pr1284
          have pr1329 := gEl.pt fh1324 tm (by decide) pr1285
          have pr1330 := gEl.pt fh1324 tm (by decide) pr1286
          have pr1331 := gEl.pt fh1324 tm (by decide) pr1287
          have pr1332 := gEl.pt fh1324 tm (by decide) pr1288
          have pr1333 := gEl.pt fh1324 tm (by decide) pr1289
          have pr1334 := gEl.pt fh1324 tm (by decide) pr1290
          have pr1335 := gEl.pt fh1324 tm (by decide) pr1291
          have pr1336 := gEl.pt fh1324 tm (by decide) pr1292
          have pr1337 := gEl.pt fh1324 tm (by decide) pr1293
          have pr1338 := gEl.pt fh1324 tm (by decide) pr1294
          have pr1339 := gEl.pt fh1324 tm (by decide) pr1295
          have pr1340 := gEl.pt fh1324 tm (by decide) pr1296
          have pr1341 := gEl.pt fh1324 tm (by decide) pr1297
          have pr1342 := gEl.pt fh1324 tm (by decide) pr1298
          have pr1343 := gEl.pt fh1324 tm (by decide) pr1299
          have pr1344 := gEl.pt fh1324 tm (by decide) pr1300
          have pr1345 := gEl.pt fh1324 tm (by decide) pr1301
          have pr1346 := gEl.pt fh1324 tm (by decide) pr1302
          have pr1347 := gEl.pt fh1324 tm (by decide) pr1303
          have pr1348 := gEl.pt fh1324 tm (by decide) pr1318
          have s1349 := (fh1324 m 18 (fun q => absurd q.2 (by decide))).trans s1304
          have s1350 := (fh1324 m 19 (fun q => absurd q.2 (by decide))).trans s1305
          have s1351 := (fh1324 m 20 (fun q => absurd q.2 (by decide))).trans s1306
          have s1352 := (fh1324 m 26 (fun q => absurd q.2 (by decide))).trans s1307
          have s1353 := (fh1324 m 27 (fun q => absurd q.2 (by decide))).trans s1308
          have s1354 := (fh1324 m 21 (fun q => absurd q.2 (by decide))).trans s1309
          have s1355 := (fh1324 m 22 (fun q => absurd q.2 (by decide))).trans s1310
          have s1356 := (fh1324 m 24 (fun q => absurd q.2 (by decide))).trans s1311
          have s1357 := (fh1324 m 29 (fun q => absurd q.2 (by decide))).trans s1312
          have s1358 := (fh1324 m 30 (fun q => absurd q.2 (by decide))).trans s1313
          have s1359 := (fh1324 m 31 (fun q => absurd q.2 (by decide))).trans s1314
          have s1360 := (fh1324 m 32 (fun q => absurd q.2 (by decide))).trans s1315
          have s1361 := (fh1324 m 33 (fun q => absurd q.2 (by decide))).trans s1316
          refine gy_s 4 (pc' := 100) (L' := [some (.ref m), some (.int ((zi 2) + zi 1))]) (S' := [.ref m, .int ((zi 2) + zi 1)]) (L2 := [some (.ref m), some (.int (zi 3))]) (S2 := [.ref m, .int (zi 3)]) rfl (by simp only [zi_add, zi_sub, zi_mul, zi_neg, zi_and1, zi_and7, zi_and15, zi_and31, zi_and255, Int.reduceAdd, Int.reduceMul, Int.reduceSub]) (by simp only [zi_add, zi_sub, zi_mul, zi_neg, zi_and1, zi_and7, zi_and15, zi_and31, zi_and255, Int.reduceAdd, Int.reduceMul, Int.reduceSub]) ?_
          refine gs_gtk rfl (by decide) rfl sh1324.1 tm rfl rfl s1351 ?_
          refine gy_icT (pc' := 256) rfl (by decide) (by decide) (by omega) (by omega) (by first | (simp [zc]; done) | (simp only [zc]; omega)) ?_
          refine gz_s 2 (pc' := 258) (L' := [some (.ref m), some (.int (zi 0))]) (S' := []) rfl ?_
          have lp1362 : ∀ (fu : Nat) (h1363 : gH) (kc : Int), (12289 - kc).toNat < fu → gSs rT 1027 ty [1021, 1022, 1023, 1024, 15999, 16999, 17999, 18999, 19999, 23999, 24999] h h1363 → (0 ≤ kc ∧ kc ≤ 12288) → h1363.2.2.2.2 m 18 = .int (zi w) → h1363.2.2.2.2 m 19 = .int (zi hh) → h1363.2.2.2.2 m 20 = .int (zi bs) → h1363.2.2.2.2 m 26 = .ref c28 → h1363.2.2.2.2 m 27 = .ref c48 → h1363.2.2.2.2 m 21 = .int (zi jn109v0) → h1363.2.2.2.2 m 22 = .int (zi jn128v0) → h1363.2.2.2.2 m 24 = .int (zi 0) → h1363.2.2.2.2 m 29 = .ref c180 → h1363.2.2.2.2 m 30 = .ref c226 → h1363.2.2.2.2 m 31 = .ref c276 → h1363.2.2.2.2 m 32 = .ref c354 → h1363.2.2.2.2 m 33 = .ref c438 → h1363.2.2.2.2 m 23 = .int (zi (((0 + (((zup w (8 * jn109v0)) * hb0) * ((zup hh (8 * jn128v0)) * vb0))) + (((zup w (8 * jn109v0)) * hb1) * ((zup hh (8 * jn128v0)) * vb1))) + (((zup w (8 * jn109v0)) * hb2) * ((zup hh (8 * jn128v0)) * vb2)))) → gEl ty 12 0 hb0 hb0 h1363 → gEl ty 13 0 vb0 vb0 h1363 → gEl ty 14 0 0 3 h1363 → gEl ty 12 1 hb1 hb1 h1363 → gEl ty 13 1 vb1 vb1 h1363 → gEl ty 14 1 0 3 h1363 → gEl ty 12 2 hb2 hb2 h1363 → gEl ty 13 2 vb2 vb2 h1363 → gEl ty 14 2 0 3 h1363 → gEl ty 15 0 ((zup w (8 * jn109v0)) * hb0) ((zup w (8 * jn109v0)) * hb0) h1363 → gEl ty 16 0 ((zup hh (8 * jn128v0)) * vb0) ((zup hh (8 * jn128v0)) * vb0) h1363 → gEl ty 17 0 (zup (zup (w * hb0) jn109v0) 8) (zup (zup (w * hb0) jn109v0) 8) h1363 → gEl ty 18 0 (zup (zup (hh * vb0) jn128v0) 8) (zup (zup (hh * vb0) jn128v0) 8) h1363 → gEl ty 19 0 0 0 h1363 → gEl ty 15 1 ((zup w (8 * jn109v0)) * hb1) ((zup w (8 * jn109v0)) * hb1) h1363 → gEl ty 16 1 ((zup hh (8 * jn128v0)) * vb1) ((zup hh (8 * jn128v0)) * vb1) h1363 → gEl ty 17 1 (zup (zup (w * hb1) jn109v0) 8) (zup (zup (w * hb1) jn109v0) 8) h1363 → gEl ty 18 1 (zup (zup (hh * vb1) jn128v0) 8) (zup (zup (hh * vb1) jn128v0) 8) h1363 → gEl ty 19 1 (0 + (((zup w (8 * jn109v0)) * hb0) * ((zup hh (8 * jn128v0)) * vb0))) (0 + (((zup w (8 * jn109v0)) * hb0) * ((zup hh (8 * jn128v0)) * vb0))) h1363 → gEl ty 15 2 ((zup w (8 * jn109v0)) * hb2) ((zup w (8 * jn109v0)) * hb2) h1363 → gEl ty 16 2 ((zup hh (8 * jn128v0)) * vb2) ((zup hh (8 * jn128v0)) * vb2) h1363 → gEl ty 17 2 (zup (zup (w * hb2) jn109v0) 8) (zup (zup (w * hb2) jn109v0) 8) h1363 → gEl ty 18 2 (zup (zup (hh * vb2) jn128v0) 8) (zup (zup (hh * vb2) jn128v0) 8) h1363 → gEl ty 19 2 ((0 + (((zup w (8 * jn109v0)) * hb0) * ((zup hh (8 * jn128v0)) * vb0))) + (((zup w (8 * jn109v0)) * hb1) * ((zup hh (8 * jn128v0)) * vb1))) ((0 + (((zup w (8 * jn109v0)) * hb0) * ((zup hh (8 * jn128v0)) * vb0))) + (((zup w (8 * jn109v0)) * hb1) * ((zup hh (8 * jn128v0)) * vb1))) h1363 → gz gPP gGG gcn (d + 1) gt167 258 [some (.ref m), some (.int (zi kc))] [] h1363 (fun q _ => gSs rT 1027 ty [1021, 1022, 1023, 1024, 15999, 16999, 17999, 18999, 19999, 23999, 24999] h q.2.2 ∧ ∃ wd hg : Int, gfin gt167 q.1 q.2.1 = some none ∧ q.2.2.2.2.2.2 m 21 = .int (zi wd) ∧ 0 ≤ wd ∧ wd ≤ 2 ∧ q.2.2.2.2.2.2 m 22 = .int (zi hg) ∧ 0 ≤ hg ∧ hg ≤ 2 ∧ (gPic ty w hh wd hg bs q.2.2)) := by
            intro fu
            induction fu with
            | zero => intro h1363 kc hm; exact absurd hm (Nat.not_lt_zero _)
            | succ fu ihlp1362 =>
              intro h1363 kc lp1362m sh1363 lp1362f0 lp1362k0 lp1362k1 lp1362k2 lp1362k3 lp1362k4 lp1362k5 lp1362k6 lp1362k7 lp1362k8 lp1362k9 lp1362k10 lp1362k11 lp1362k12 lp1362k13 lp1362k14 lp1362k15 lp1362k16 lp1362k17 lp1362k18 lp1362k19 lp1362k20 lp1362k21 lp1362k22 lp1362k23 lp1362k24 lp1362k25 lp1362k26 lp1362k27 lp1362k28 lp1362k29 lp1362k30 lp1362k31 lp1362k32 lp1362k33 lp1362k34 lp1362k35 lp1362k36 lp1362k37
              refine gz_s 3 (pc' := 262) (L' := [some (.ref m), some (.int (zi kc))]) (S' := [.ref m, .int (zi 64), .int (zi kc)]) rfl ?_
              refine gs_gtk rfl (by decide) rfl sh1363.1 tm rfl rfl lp1362k13 ?_
              refine gy_s 1 (pc' := 266) (L' := [some (.ref m), some (.int (zi kc))]) (S' := [.int ((zi 64) * (zi (((0 + (((zup w (8 * jn109v0)) * hb0) * ((zup hh (8 * jn128v0)) * vb0))) + (((zup w (8 * jn109v0)) * hb1) * ((zup hh (8 * jn128v0)) * vb1))) + (((zup w (8 * jn109v0)) * hb2) * ((zup hh (8 * jn128v0)) * vb2))))), .int (zi kc)]) (L2 := [some (.ref m), some (.int (zi kc))]) (S2 := [.int (zi (64 * (((0 + (((zup w (8 * jn109v0)) * hb0) * ((zup hh (8 * jn128v0)) * vb0))) + (((zup w (8 * jn109v0)) * hb1) * ((zup hh (8 * jn128v0)) * vb1))) + (((zup w (8 * jn109v0)) * hb2) * ((zup hh (8 * jn128v0)) * vb2))))), .int (zi kc)]) rfl (by simp only [zi_add, zi_sub, zi_mul, zi_neg, zi_and1, zi_and7, zi_and15, zi_and31, zi_and255, Int.reduceAdd, Int.reduceMul, Int.reduceSub]) (by simp only [zi_add, zi_sub, zi_mul, zi_neg, zi_and1, zi_and7, zi_and15, zi_and31, zi_and255, Int.reduceAdd, Int.reduceMul, Int.reduceSub]) ?_
              by_cases hc1364 : (64 * (((0 + (((zup w (8 * jn109v0)) * hb0) * ((zup hh (8 * jn128v0)) * vb0))) + (((zup w (8 * jn109v0)) * hb1) * ((zup hh (8 * jn128v0)) * vb1))) + (((zup w (8 * jn109v0)) * hb2) * ((zup hh (8 * jn128v0)) * vb2))) : Int) ≤ kc
              · refine gy_icT (pc' := 282) rfl (by decide) (by decide) (by omega) (by omega) hc1364 ?_
                refine gz_s 2 (pc' := 284) (L' := [some (.ref m), some (.int (zi 0))]) (S' := []) rfl ?_
                have lp1365 : ∀ (fu : Nat) (h1366 : gH) (kd : Int), (193 - kd).toNat < fu → gSs rT 1027 ty [1021, 1022, 1023, 1024, 15999, 16999, 17999, 18999, 19999, 23999, 24999] h h1366 → (0 ≤ kd ∧ kd ≤ 192) → h1366.2.2.2.2 m 18 = .int (zi w) → h1366.2.2.2.2 m 19 = .int (zi hh) → h1366.2.2.2.2 m 20 = .int (zi bs) → h1366.2.2.2.2 m 26 = .ref c28 → h1366.2.2.2.2 m 27 = .ref c48 → h1366.2.2.2.2 m 21 = .int (zi jn109v0) → h1366.2.2.2.2 m 22 = .int (zi jn128v0) → h1366.2.2.2.2 m 24 = .int (zi 0) → h1366.2.2.2.2 m 29 = .ref c180 → h1366.2.2.2.2 m 30 = .ref c226 → h1366.2.2.2.2 m 31 = .ref c276 → h1366.2.2.2.2 m 32 = .ref c354 → h1366.2.2.2.2 m 33 = .ref c438 → h1366.2.2.2.2 m 23 = .int (zi (((0 + (((zup w (8 * jn109v0)) * hb0) * ((zup hh (8 * jn128v0)) * vb0))) + (((zup w (8 * jn109v0)) * hb1) * ((zup hh (8 * jn128v0)) * vb1))) + (((zup w (8 * jn109v0)) * hb2) * ((zup hh (8 * jn128v0)) * vb2)))) → gEl ty 12 0 hb0 hb0 h1366 → gEl ty 13 0 vb0 vb0 h1366 → gEl ty 14 0 0 3 h1366 → gEl ty 12 1 hb1 hb1 h1366 → gEl ty 13 1 vb1 vb1 h1366 → gEl ty 14 1 0 3 h1366 → gEl ty 12 2 hb2 hb2 h1366 → gEl ty 13 2 vb2 vb2 h1366 → gEl ty 14 2 0 3 h1366 → gEl ty 15 0 ((zup w (8 * jn109v0)) * hb0) ((zup w (8 * jn109v0)) * hb0) h1366 → gEl ty 16 0 ((zup hh (8 * jn128v0)) * vb0) ((zup hh (8 * jn128v0)) * vb0) h1366 → gEl ty 17 0 (zup (zup (w * hb0) jn109v0) 8) (zup (zup (w * hb0) jn109v0) 8) h1366 → gEl ty 18 0 (zup (zup (hh * vb0) jn128v0) 8) (zup (zup (hh * vb0) jn128v0) 8) h1366 → gEl ty 19 0 0 0 h1366 → gEl ty 15 1 ((zup w (8 * jn109v0)) * hb1) ((zup w (8 * jn109v0)) * hb1) h1366 → gEl ty 16 1 ((zup hh (8 * jn128v0)) * vb1) ((zup hh (8 * jn128v0)) * vb1) h1366 → gEl ty 17 1 (zup (zup (w * hb1) jn109v0) 8) (zup (zup (w * hb1) jn109v0) 8) h1366 → gEl ty 18 1 (zup (zup (hh * vb1) jn128v0) 8) (zup (zup (hh * vb1) jn128v0) 8) h1366 → gEl ty 19 1 (0 + (((zup w (8 * jn109v0)) * hb0) * ((zup hh (8 * jn128v0)) * vb0))) (0 + (((zup w (8 * jn109v0)) * hb0) * ((zup hh (8 * jn128v0)) * vb0))) h1366 → gEl ty 15 2 ((zup w (8 * jn109v0)) * hb2) ((zup w (8 * jn109v0)) * hb2) h1366 → gEl ty 16 2 ((zup hh (8 * jn128v0)) * vb2) ((zup hh (8 * jn128v0)) * vb2) h1366 → gEl ty 17 2 (zup (zup (w * hb2) jn109v0) 8) (zup (zup (w * hb2) jn109v0) 8) h1366 → gEl ty 18 2 (zup (zup (hh * vb2) jn128v0) 8) (zup (zup (hh * vb2) jn128v0) 8) h1366 → gEl ty 19 2 ((0 + (((zup w (8 * jn109v0)) * hb0) * ((zup hh (8 * jn128v0)) * vb0))) + (((zup w (8 * jn109v0)) * hb1) * ((zup hh (8 * jn128v0)) * vb1))) ((0 + (((zup w (8 * jn109v0)) * hb0) * ((zup hh (8 * jn128v0)) * vb0))) + (((zup w (8 * jn109v0)) * hb1) * ((zup hh (8 * jn128v0)) * vb1))) h1366 → gz gPP gGG gcn (d + 1) gt167 284 [some (.ref m), some (.int (zi kd))] [] h1366 (fun q _ => gSs rT 1027 ty [1021, 1022, 1023, 1024, 15999, 16999, 17999, 18999, 19999, 23999, 24999] h q.2.2 ∧ ∃ wd hg : Int, gfin gt167 q.1 q.2.1 = some none ∧ q.2.2.2.2.2.2 m 21 = .int (zi wd) ∧ 0 ≤ wd ∧ wd ≤ 2 ∧ q.2.2.2.2.2.2 m 22 = .int (zi hg) ∧ 0 ≤ hg ∧ hg ≤ 2 ∧ (gPic ty w hh wd hg bs q.2.2)) := by
                  intro fu
                  induction fu with
                  | zero => intro h1366 kd hm; exact absurd hm (Nat.not_lt_zero _)
                  | succ fu ihlp1365 =>
                    intro h1366 kd lp1365m sh1366 lp1365f0 lp1365k0 lp1365k1 lp1365k2 lp1365k3 lp1365k4 lp1365k5 lp1365k6 lp1365k7 lp1365k8 lp1365k9 lp1365k10 lp1365k11 lp1365k12 lp1365k13 lp1365k14 lp1365k15 lp1365k16 lp1365k17 lp1365k18 lp1365k19 lp1365k20 lp1365k21 lp1365k22 lp1365k23 lp1365k24 lp1365k25 lp1365k26 lp1365k27 lp1365k28 lp1365k29 lp1365k30 lp1365k31 lp1365k32 lp1365k33 lp1365k34 lp1365k35 lp1365k36 lp1365k37
                    refine gz_s 2 (pc' := 286) (L' := [some (.ref m), some (.int (zi kd))]) (S' := [.ref m, .int (zi kd)]) rfl ?_
                    refine gs_gtk rfl (by decide) rfl sh1366.1 tm rfl rfl lp1365k13 ?_
                    by_cases hc1367 : (((0 + (((zup w (8 * jn109v0)) * hb0) * ((zup hh (8 * jn128v0)) * vb0))) + (((zup w (8 * jn109v0)) * hb1) * ((zup hh (8 * jn128v0)) * vb1))) + (((zup w (8 * jn109v0)) * hb2) * ((zup hh (8 * jn128v0)) * vb2)) : Int) ≤ kd
                    · refine gy_icT (pc' := 305) rfl (by decide) (by decide) (by omega) (by omega) hc1367 ?_
                      have hpost1368 : gPic ty w hh jn109v0 jn128v0 bs h1366 := by
                        refine ⟨by omega, fun b h0 h1 => ?_⟩
                        rcases (by omega : b = 0 ∨ b = 1 ∨ b = 2) with e | e | e
                        · subst e
                          exact ⟨hb0, vb0, (zup w (8 * jn109v0)) * hb0, (zup hh (8 * jn128v0)) * vb0, zup (zup (w * hb0) jn109v0) 8, zup (zup (hh * vb0) jn128v0) 8, 0, lp1365k14, lp1365k15, lp1365k23, lp1365k24, lp1365k25, lp1365k26, lp1365k27, lp1365k16, by unfold gPk; omega⟩
                        · subst e
                          exact ⟨hb1, vb1, (zup w (8 * jn109v0)) * hb1, (zup hh (8 * jn128v0)) * vb1, zup (zup (w * hb1) jn109v0) 8, zup (zup (hh * vb1) jn128v0) 8, 0 + (((zup w (8 * jn109v0)) * hb0) * ((zup hh (8 * jn128v0)) * vb0)), lp1365k17, lp1365k18, lp1365k28, lp1365k29, lp1365k30, lp1365k31, lp1365k32, lp1365k19, by unfold gPk; omega⟩
                        · subst e
                          exact ⟨hb2, vb2, (zup w (8 * jn109v0)) * hb2, (zup hh (8 * jn128v0)) * vb2, zup (zup (w * hb2) jn109v0) 8, zup (zup (hh * vb2) jn128v0) 8, (0 + (((zup w (8 * jn109v0)) * hb0) * ((zup hh (8 * jn128v0)) * vb0))) + (((zup w (8 * jn109v0)) * hb1) * ((zup hh (8 * jn128v0)) * vb1)), lp1365k20, lp1365k21, lp1365k33, lp1365k34, lp1365k35, lp1365k36, lp1365k37, lp1365k22, by unfold gPk; omega⟩
                      exact gz_end (I := .return_) (len := 1) rfl (Or.inl rfl) ⟨sh1366, jn109v0, jn128v0, rfl, lp1365k5, (by omega), (by omega), lp1365k6, (by omega), (by omega), hpost1368⟩
                    · refine gy_icF rfl (by decide) (by decide) (by omega) (by omega) hc1367 ?_
                      refine gz_s 1 (pc' := 293) (L' := [some (.ref m), some (.int (zi kd))]) (S' := [.ref m]) rfl ?_
                      refine gs_gtr rfl (by decide) rfl sh1366.1 tm rfl rfl rfl (fun c1369 ec1369 tc1369 => ?_)
                      refine gz_s 2 (pc' := 298) (L' := [some (.ref m), some (.int (zi kd))]) (S' := [.int (zi 0), .int (zi kd), .ref c1369]) rfl ?_
                      have hl1370 : 192 ≤ h1366.2.2.2.1 c1369 ∧ h1366.2.2.2.1 c1369 ≤ 192 := gJ.rowl (G := gGG) sh1366.1 tc1369 rfl
                      refine gs_zast rfl (by decide) sh1366 tc1369 rfl rfl rfl (by decide) (fun _ => rfl) (by omega) (by omega) (fun _ => (by decide : (24999 : Nat) ∈ ([1021, 1022, 1023, 1024, 15999, 16999, 17999, 18999, 19999, 23999, 24999] : List Nat))) (by omega) (by omega) (by omega) (fun h1371 sh1371 eh1371 fh1371 => ?_)
                      have pr1372 := gEl.pt fh1371 tc1369 (by decide) lp1365k14
                      have pr1373 := gEl.pt fh1371 tc1369 (by decide) lp1365k15
                      have pr1374 := gEl.pt fh1371 tc1369 (by decide) lp1365k16
                      have pr1375 := gEl.pt fh1371 tc1369 (by decide) lp1365k17
                      have pr1376 := gEl.pt fh1371 tc1369 (by decide) lp1365k18
                      have pr1377 := gEl.pt fh1371 tc1369 (by decide) lp1365k19
                      have pr1378 := gEl.pt fh1371 tc1369 (by decide) lp1365k20
                      have pr1379 := gEl.pt fh1371 tc1369 (by decide) lp1365k21
                      have pr1380 := gEl.pt fh1371 tc1369 (by decide) lp1365k22
                      have pr1381 := gEl.pt fh1371 tc1369 (by decide) lp1365k23
                      have pr1382 := gEl.pt fh1371 tc1369 (by decide) lp1365k24
                      have pr1383 := gEl.pt fh1371 tc1369 (by decide) lp1365k25
                      have pr1384 := gEl.pt fh1371 tc1369 (by decide) lp1365k26
                      have pr1385 := gEl.pt fh1371 tc1369 (by decide) lp1365k27
                      have pr1386 := gEl.pt fh1371 tc1369 (by decide) lp1365k28
                      have pr1387 := gEl.pt fh1371 tc1369 (by decide) lp1365k29
                      have pr1388 := gEl.pt fh1371 tc1369 (by decide) lp1365k30
                      have pr1389 := gEl.pt fh1371 tc1369 (by decide) lp1365k31
                      have pr1390 := gEl.pt fh1371 tc1369 (by decide) lp1365k32
                      have pr1391 := gEl.pt fh1371 tc1369 (by decide) lp1365k33
                      have pr1392 := gEl.pt fh1371 tc1369 (by decide) lp1365k34
                      have pr1393 := gEl.pt fh1371 tc1369 (by decide) lp1365k35
                      have pr1394 := gEl.pt fh1371 tc1369 (by decide) lp1365k36
                      have pr1395 := gEl.pt fh1371 tc1369 (by decide) lp1365k37
                      have s1396 := (fh1371 m 18 (fun q => absurd (((tm).symm.trans (congrArg ty q.1)).trans tc1369) (by decide))).trans lp1365k0
                      have s1397 := (fh1371 m 19 (fun q => absurd (((tm).symm.trans (congrArg ty q.1)).trans tc1369) (by decide))).trans lp1365k1
                      have s1398 := (fh1371 m 20 (fun q => absurd (((tm).symm.trans (congrArg ty q.1)).trans tc1369) (by decide))).trans lp1365k2
                      have s1399 := (fh1371 m 26 (fun q => absurd (((tm).symm.trans (congrArg ty q.1)).trans tc1369) (by decide))).trans lp1365k3
                      have s1400 := (fh1371 m 27 (fun q => absurd (((tm).symm.trans (congrArg ty q.1)).trans tc1369) (by decide))).trans lp1365k4
                      have s1401 := (fh1371 m 21 (fun q => absurd (((tm).symm.trans (congrArg ty q.1)).trans tc1369) (by decide))).trans lp1365k5
                      have s1402 := (fh1371 m 22 (fun q => absurd (((tm).symm.trans (congrArg ty q.1)).trans tc1369) (by decide))).trans lp1365k6
                      have s1403 := (fh1371 m 24 (fun q => absurd (((tm).symm.trans (congrArg ty q.1)).trans tc1369) (by decide))).trans lp1365k7
                      have s1404 := (fh1371 m 29 (fun q => absurd (((tm).symm.trans (congrArg ty q.1)).trans tc1369) (by decide))).trans lp1365k8
                      have s1405 := (fh1371 m 30 (fun q => absurd (((tm).symm.trans (congrArg ty q.1)).trans tc1369) (by decide))).trans lp1365k9
                      have s1406 := (fh1371 m 31 (fun q => absurd (((tm).symm.trans (congrArg ty q.1)).trans tc1369) (by decide))).trans lp1365k10
                      have s1407 := (fh1371 m 32 (fun q => absurd (((tm).symm.trans (congrArg ty q.1)).trans tc1369) (by decide))).trans lp1365k11
                      have s1408 := (fh1371 m 33 (fun q => absurd (((tm).symm.trans (congrArg ty q.1)).trans tc1369) (by decide))).trans lp1365k12
                      have s1409 := (fh1371 m 23 (fun q => absurd (((tm).symm.trans (congrArg ty q.1)).trans tc1369) (by decide))).trans lp1365k13
                      have s1410 := (fh1371 m 38 (fun q => absurd (((tm).symm.trans (congrArg ty q.1)).trans tc1369) (by decide))).trans ec1369
                      refine gy_s 2 (pc' := 284) (L' := [some (.ref m), some (.int ((zi kd) + zi 1))]) (S' := []) (L2 := [some (.ref m), some (.int (zi (kd + 1)))]) (S2 := []) rfl (by simp only [zi_add, zi_sub, zi_mul, zi_neg, zi_and1, zi_and7, zi_and15, zi_and31, zi_and255, Int.reduceAdd, Int.reduceMul, Int.reduceSub]) (by simp only [zi_add, zi_sub, zi_mul, zi_neg, zi_and1, zi_and7, zi_and15, zi_and31, zi_and255, Int.reduceAdd, Int.reduceMul, Int.reduceSub]) ?_
                      exact gz_wk (ihlp1365 h1371 (kd + 1) (by omega) sh1371 (by omega) s1396 s1397 s1398 s1399 s1400 s1401 s1402 s1403 s1404 s1405 s1406 s1407 s1408 s1409 pr1372 pr1373 pr1374 pr1375 pr1376 pr1377 pr1378 pr1379 pr1380 pr1381 pr1382 pr1383 pr1384 pr1385 pr1386 pr1387 pr1388 pr1389 pr1390 pr1391 pr1392 pr1393 pr1394 pr1395) (gLw.s (gLw.s gLw.z))
                exact gz_wk (lp1365 _ h1363 0 (Nat.lt_succ_self _) sh1363 (by omega) lp1362k0 lp1362k1 lp1362k2 lp1362k3 lp1362k4 lp1362k5 lp1362k6 lp1362k7 lp1362k8 lp1362k9 lp1362k10 lp1362k11 lp1362k12 lp1362k13 lp1362k14 lp1362k15 lp1362k16 lp1362k17 lp1362k18 lp1362k19 lp1362k20 lp1362k21 lp1362k22 lp1362k23 lp1362k24 lp1362k25 lp1362k26 lp1362k27 lp1362k28 lp1362k29 lp1362k30 lp1362k31 lp1362k32 lp1362k33 lp1362k34 lp1362k35 lp1362k36 lp1362k37) (gLw.s (gLw.s gLw.z))
              · refine gy_icF rfl (by decide) (by decide) (by omega) (by omega) hc1364 ?_
                refine gz_s 1 (pc' := 270) (L' := [some (.ref m), some (.int (zi kc))]) (S' := [.ref m]) rfl ?_
                refine gs_gtr rfl (by decide) rfl sh1363.1 tm rfl rfl rfl (fun c1411 ec1411 tc1411 => ?_)
                refine gz_s 2 (pc' := 275) (L' := [some (.ref m), some (.int (zi kc))]) (S' := [.int (zi 0), .int (zi kc), .ref c1411]) rfl ?_
                have hl1412 : 12288 ≤ h1363.2.2.2.1 c1411 ∧ h1363.2.2.2.1 c1411 ≤ 12288 := gJ.rowl (G := gGG) sh1363.1 tc1411 rfl
                refine gs_ast rfl (by decide) sh1363 tc1411 rfl rfl rfl (by decide) (fun _ => rfl) (by omega) (by omega) (fun _ => (by decide : (23999 : Nat) ∈ ([1021, 1022, 1023, 1024, 15999, 16999, 17999, 18999, 19999, 23999, 24999] : List Nat))) (by omega) (by omega) (fun h1413 sh1413 eh1413 fh1413 => ?_)
                have pr1414 := gEl.pt fh1413 tc1411 (by decide) lp1362k14
                have pr1415 := gEl.pt fh1413 tc1411 (by decide) lp1362k15
                have pr1416 := gEl.pt fh1413 tc1411 (by decide) lp1362k16
                have pr1417 := gEl.pt fh1413 tc1411 (by decide) lp1362k17
                have pr1418 := gEl.pt fh1413 tc1411 (by decide) lp1362k18
                have pr1419 := gEl.pt fh1413 tc1411 (by decide) lp1362k19
                have pr1420 := gEl.pt fh1413 tc1411 (by decide) lp1362k20
                have pr1421 := gEl.pt fh1413 tc1411 (by decide) lp1362k21
                have pr1422 := gEl.pt fh1413 tc1411 (by decide) lp1362k22
                have pr1423 := gEl.pt fh1413 tc1411 (by decide) lp1362k23
                have pr1424 := gEl.pt fh1413 tc1411 (by decide) lp1362k24
                have pr1425 := gEl.pt fh1413 tc1411 (by decide) lp1362k25
                have pr1426 := gEl.pt fh1413 tc1411 (by decide) lp1362k26
                have pr1427 := gEl.pt fh1413 tc1411 (by decide) lp1362k27
                have pr1428 := gEl.pt fh1413 tc1411 (by decide) lp1362k28
                have pr1429 := gEl.pt fh1413 tc1411 (by decide) lp1362k29
                have pr1430 := gEl.pt fh1413 tc1411 (by decide) lp1362k30
                have pr1431 := gEl.pt fh1413 tc1411 (by decide) lp1362k31
                have pr1432 := gEl.pt fh1413 tc1411 (by decide) lp1362k32
                have pr1433 := gEl.pt fh1413 tc1411 (by decide) lp1362k33
                have pr1434 := gEl.pt fh1413 tc1411 (by decide) lp1362k34
                have pr1435 := gEl.pt fh1413 tc1411 (by decide) lp1362k35
                have pr1436 := gEl.pt fh1413 tc1411 (by decide) lp1362k36
                have pr1437 := gEl.pt fh1413 tc1411 (by decide) lp1362k37
                have s1438 := (fh1413 m 18 (fun q => absurd (((tm).symm.trans (congrArg ty q.1)).trans tc1411) (by decide))).trans lp1362k0
                have s1439 := (fh1413 m 19 (fun q => absurd (((tm).symm.trans (congrArg ty q.1)).trans tc1411) (by decide))).trans lp1362k1
                have s1440 := (fh1413 m 20 (fun q => absurd (((tm).symm.trans (congrArg ty q.1)).trans tc1411) (by decide))).trans lp1362k2
                have s1441 := (fh1413 m 26 (fun q => absurd (((tm).symm.trans (congrArg ty q.1)).trans tc1411) (by decide))).trans lp1362k3
                have s1442 := (fh1413 m 27 (fun q => absurd (((tm).symm.trans (congrArg ty q.1)).trans tc1411) (by decide))).trans lp1362k4
                have s1443 := (fh1413 m 21 (fun q => absurd (((tm).symm.trans (congrArg ty q.1)).trans tc1411) (by decide))).trans lp1362k5
                have s1444 := (fh1413 m 22 (fun q => absurd (((tm).symm.trans (congrArg ty q.1)).trans tc1411) (by decide))).trans lp1362k6
                have s1445 := (fh1413 m 24 (fun q => absurd (((tm).symm.trans (congrArg ty q.1)).trans tc1411) (by decide))).trans lp1362k7
                have s1446 := (fh1413 m 29 (fun q => absurd (((tm).symm.trans (congrArg ty q.1)).trans tc1411) (by decide))).trans lp1362k8
                have s1447 := (fh1413 m 30 (fun q => absurd (((tm).symm.trans (congrArg ty q.1)).trans tc1411) (by decide))).trans lp1362k9
                have s1448 := (fh1413 m 31 (fun q => absurd (((tm).symm.trans (congrArg ty q.1)).trans tc1411) (by decide))).trans lp1362k10
                have s1449 := (fh1413 m 32 (fun q => absurd (((tm).symm.trans (congrArg ty q.1)).trans tc1411) (by decide))).trans lp1362k11
                have s1450 := (fh1413 m 33 (fun q => absurd (((tm).symm.trans (congrArg ty q.1)).trans tc1411) (by decide))).trans lp1362k12
                have s1451 := (fh1413 m 23 (fun q => absurd (((tm).symm.trans (congrArg ty q.1)).trans tc1411) (by decide))).trans lp1362k13
                have s1452 := (fh1413 m 37 (fun q => absurd (((tm).symm.trans (congrArg ty q.1)).trans tc1411) (by decide))).trans ec1411
                have pr1453 := gEl.set (i := kc) (z := 0) uq tc1411 (by decide) eh1413 (by omega) (by omega)
                refine gy_s 2 (pc' := 258) (L' := [some (.ref m), some (.int ((zi kc) + zi 1))]) (S' := []) (L2 := [some (.ref m), some (.int (zi (kc + 1)))]) (S2 := []) rfl (by simp only [zi_add, zi_sub, zi_mul, zi_neg, zi_and1, zi_and7, zi_and15, zi_and31, zi_and255, Int.reduceAdd, Int.reduceMul, Int.reduceSub]) (by simp only [zi_add, zi_sub, zi_mul, zi_neg, zi_and1, zi_and7, zi_and15, zi_and31, zi_and255, Int.reduceAdd, Int.reduceMul, Int.reduceSub]) ?_
                exact gz_wk (ihlp1362 h1413 (kc + 1) (by omega) sh1413 (by omega) s1438 s1439 s1440 s1441 s1442 s1443 s1444 s1445 s1446 s1447 s1448 s1449 s1450 s1451 pr1414 pr1415 pr1416 pr1417 pr1418 pr1419 pr1420 pr1421 pr1422 pr1423 pr1424 pr1425 pr1426 pr1427 pr1428 pr1429 pr1430 pr1431 pr1432 pr1433 pr1434 pr1435 pr1436 pr1437) (gLw.s (gLw.s gLw.z))
          exact gz_wk (lp1362 _ h1324 0 (Nat.lt_succ_self _) sh1324 (by omega) s1349 s1350 s1351 s1352 s1353 s1354 s1355 s1356 s1357 s1358 s1359 s1360 s1361 eh1324 pr1325 pr1326 pr1327 pr1328 pr1329 pr1330 pr1331 pr1332 pr1333 pr1334 pr1335 pr1336 pr1337 pr1338 pr1339 pr1340 pr1341 pr1342 pr1343 pr1344 pr1345 pr1346 pr1347 pr1348) (gLw.s (gLw.s gLw.z))
        by_cases hc1454 : (vb2 : Int) ≤ jn90v0
        · refine gy_icT (pc' := 73) rfl (by decide) (by decide) (by omega) (by omega) hc1454 ?_
          refine gz_s 1 (pc' := 74) (L' := [some (.ref m), some (.int (zi 2))]) (S' := [.ref m, .ref m]) rfl ?_
          refine gs_gtk rfl (by decide) rfl sh110.1 tm rfl rfl s125 ?_
          exact jn128 jn90v0 (by omega)
        · refine gy_icF rfl (by decide) (by decide) (by omega) (by omega) hc1454 ?_
          refine gz_s 1 (pc' := 65) (L' := [some (.ref m), some (.int (zi 2))]) (S' := [.ref m, .ref m]) rfl ?_
          refine gs_gtk rfl (by decide) rfl sh110.1 tm rfl rfl s124 ?_
          refine gz_s 1 (pc' := 69) (L' := [some (.ref m), some (.int (zi 2))]) (S' := [.int (zi 2), .ref c48, .ref m]) rfl ?_
          have hl1455 : 3 ≤ h110.2.2.2.1 c48 ∧ h110.2.2.2.1 c48 ≤ 3 := gJ.rowl (G := gGG) sh110.1 tc48 rfl
          refine gs_alx rfl (by decide) sh110.1 tc48 rfl rfl rfl (by decide) (fun _ => rfl) (by omega) (by omega) (by decide) pr118 (fun ex1456 ax1456 bx1456 => ?_)
          refine gz_s 1 (pc' := 77) (L' := [some (.ref m), some (.int (zi 2))]) (S' := [.int (zi vb2), .ref m]) rfl ?_
          exact jn128 vb2 (by omega)
      by_cases hc1457 : (hb2 : Int) ≤ jn71v0
      · refine gy_icT (pc' := 43) rfl (by decide) (by decide) (by omega) (by omega) hc1457 ?_
        refine gz_s 1 (pc' := 44) (L' := [some (.ref m), some (.int (zi 2))]) (S' := [.ref m, .ref m]) rfl ?_
        refine gs_gtk rfl (by decide) rfl sh91.1 tm rfl rfl s106 ?_
        exact jn109 jn71v0 (by omega)
      · refine gy_icF rfl (by decide) (by decide) (by omega) (by omega) hc1457 ?_
        refine gz_s 1 (pc' := 35) (L' := [some (.ref m), some (.int (zi 2))]) (S' := [.ref m, .ref m]) rfl ?_
        refine gs_gtk rfl (by decide) rfl sh91.1 tm rfl rfl s104 ?_
        refine gz_s 1 (pc' := 39) (L' := [some (.ref m), some (.int (zi 2))]) (S' := [.int (zi 2), .ref c28, .ref m]) rfl ?_
        have hl1458 : 3 ≤ h91.2.2.2.1 c28 ∧ h91.2.2.2.1 c28 ≤ 3 := gJ.rowl (G := gGG) sh91.1 tc28 rfl
        refine gs_alx rfl (by decide) sh91.1 tc28 rfl rfl rfl (by decide) (fun _ => rfl) (by omega) (by omega) (by decide) pr98 (fun ex1459 ax1459 bx1459 => ?_)
        refine gz_s 1 (pc' := 47) (L' := [some (.ref m), some (.int (zi 2))]) (S' := [.int (zi hb2), .ref m]) rfl ?_
        exact jn109 hb2 (by omega)
    by_cases hc1460 : (vb1 : Int) ≤ vb0
    · refine gy_icT (pc' := 73) rfl (by decide) (by decide) (by omega) (by omega) hc1460 ?_
      refine gz_s 1 (pc' := 74) (L' := [some (.ref m), some (.int (zi 1))]) (S' := [.ref m, .ref m]) rfl ?_
      refine gs_gtk rfl (by decide) rfl sh72.1 tm rfl rfl s87 ?_
      exact jn90 vb0 (by omega)
    · refine gy_icF rfl (by decide) (by decide) (by omega) (by omega) hc1460 ?_
      refine gz_s 1 (pc' := 65) (L' := [some (.ref m), some (.int (zi 1))]) (S' := [.ref m, .ref m]) rfl ?_
      refine gs_gtk rfl (by decide) rfl sh72.1 tm rfl rfl s86 ?_
      refine gz_s 1 (pc' := 69) (L' := [some (.ref m), some (.int (zi 1))]) (S' := [.int (zi 1), .ref c48, .ref m]) rfl ?_
      have hl1461 : 3 ≤ h72.2.2.2.1 c48 ∧ h72.2.2.2.1 c48 ≤ 3 := gJ.rowl (G := gGG) sh72.1 tc48 rfl
      refine gs_alx rfl (by decide) sh72.1 tc48 rfl rfl rfl (by decide) (fun _ => rfl) (by omega) (by omega) (by decide) pr77 (fun ex1462 ax1462 bx1462 => ?_)
      refine gz_s 1 (pc' := 77) (L' := [some (.ref m), some (.int (zi 1))]) (S' := [.int (zi vb1), .ref m]) rfl ?_
      exact jn90 vb1 (by omega)
  by_cases hc1463 : (hb1 : Int) ≤ hb0
  · refine gy_icT (pc' := 43) rfl (by decide) (by decide) (by omega) (by omega) hc1463 ?_
    refine gz_s 1 (pc' := 44) (L' := [some (.ref m), some (.int (zi 1))]) (S' := [.ref m, .ref m]) rfl ?_
    refine gs_gtk rfl (by decide) rfl sh53.1 tm rfl rfl s67 ?_
    exact jn71 hb0 (by omega)
  · refine gy_icF rfl (by decide) (by decide) (by omega) (by omega) hc1463 ?_
    refine gz_s 1 (pc' := 35) (L' := [some (.ref m), some (.int (zi 1))]) (S' := [.ref m, .ref m]) rfl ?_
    refine gs_gtk rfl (by decide) rfl sh53.1 tm rfl rfl s66 ?_
    refine gz_s 1 (pc' := 39) (L' := [some (.ref m), some (.int (zi 1))]) (S' := [.int (zi 1), .ref c28, .ref m]) rfl ?_
    have hl1464 : 3 ≤ h53.2.2.2.1 c28 ∧ h53.2.2.2.1 c28 ≤ 3 := gJ.rowl (G := gGG) sh53.1 tc28 rfl
    refine gs_alx rfl (by decide) sh53.1 tc28 rfl rfl rfl (by decide) (fun _ => rfl) (by omega) (by omega) (by decide) pr57 (fun ex1465 ax1465 bx1465 => ?_)
    refine gz_s 1 (pc' := 47) (L' := [some (.ref m), some (.int (zi 1))]) (S' := [.int (zi hb1), .ref m]) rfl ?_
    exact jn71 hb1 (by omega)
