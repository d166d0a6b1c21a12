/-! ===== methods of the landed text (by program) ===== -/
set_option maxRecDepth 20000 in
set_option maxHeartbeats 4000000 in
theorem cw_putCodes0 (d : Nat) {ty : Nat → Nat} {h : gH} (hJ : gJ rT 1027 ty h) (x : Nat) (tx : ty x = 71) (kd : Int) (rkd : 0 ≤ kd ∧ kd ≤ 0) (sk : Nat) (esk : h.2.2.2.2 x 0 = .ref sk) (tsk : ty sk = 56) (bt : Nat) (ebt : h.2.2.2.2 sk 0 = .ref bt) (tbt : ty bt = 114) (c0 : Int) (ec0 : h.2.2.2.2 sk 1 = .int (zi c0)) (rc0 : 0 ≤ c0 ∧ c0 ≤ 499000) (w0 : Nat → Int) (sg : gWt) (pp0 : c0 = sg.1) (pp1 : c0 ≤ (h.2.2.2.1 bt : Int)) (uq : gUq ty) (hysw : gSW ty bt sg h) (hyok : eeOk sg) (hyf97 : gRn 257 ty 97 w0 h) (hywb : ewB w0 1999) (hyw6 : 0 < w0 256) : gz gPP gGG gcn (d + 4) gt121 0 (gent [.ref x, .int (zi kd)] 4) [] h (fun q _ => ∃ ty9 : Nat → Nat, gSg [114] [] [56000, 56001, 91004, 91008, 93999, 94999, 95999, 96999, 97999, 98999, 99999, 114999] ty h ty9 q.2.2 ∧ ∃ bt2 : Nat, True ∧ ∃ c1 : Int, q.2.2.2.2.2.2 sk 0 = .ref bt2 ∧ ty9 bt2 = 114 ∧ gfin gt121 q.1 q.2.1 = some none ∧ q.2.2.2.2.2.2 sk 1 = .int (zi c1) ∧ 0 ≤ c1 ∧ c1 ≤ 500000 ∧ (c1 = (ekP 0 (ehN w0) sg).1) ∧ ((ekP 0 (ehN w0) sg).2.1 = sg.2.1) ∧ ((ekP 0 (ehN w0) sg).2.2.1 = sg.2.2.1) ∧ (c0 ≤ c1) ∧ (c1 ≤ c0 + 300) ∧ (1024 * ((q.2.2.1 : Int) - h.1) ≤ (q.2.2.2.2.2.1 bt2 : Int) - h.2.2.2.1 bt) ∧ (((q.2.2.2.1 : Int) - h.2.1) ≤ 2 * ((q.2.2.2.2.2.1 bt2 : Int) - h.2.2.2.1 bt)) ∧ ((h.2.2.2.1 bt : Int) ≤ (q.2.2.2.2.2.1 bt2 : Int)) ∧ (c1 ≤ (q.2.2.2.2.2.1 bt2 : Int)) ∧ (gSW ty9 bt2 (ekP 0 (ehN w0) sg) q.2.2) ∧ (eeOk (ekP 0 (ehN w0) sg)) ∧ (gTab (True) ty9 95 96 (ekc (ehN w0)) q.2.2)) := by
  have hS : gSs rT 1027 ty [56000, 56001, 91004, 91008, 93999, 94999, 95999, 96999, 97999, 98999, 99999, 114999] h h := gSs.rf hJ
  have G0 : gSg [114] [] [56000, 56001, 91004, 91008, 93999, 94999, 95999, 96999, 97999, 98999, 99999, 114999] ty h ty h := gSg.rf hJ (fun x hx => by cases hx)
  refine gz_s 1 (pc' := 1) (L' := [some (.ref x), some (.int (zi kd)), none, none]) (S' := [.ref x]) rfl ?_
  refine gs_gtr rfl (by decide) rfl hS.1 tx rfl rfl rfl (fun c1 ec1 tc1 => ?_)
  refine gz_s 1 (pc' := 5) (L' := [some (.ref x), some (.int (zi kd)), none, none]) (S' := [.int (zi kd), .ref c1]) rfl ?_
  have he4 : (kd : Int) = 0 := by omega
  refine gs_aal (j := 0) (q2 := 91) rfl (by decide) hS.1 tc1 rfl rfl rfl (by decide) he4 rfl (by decide) (fun c5 ec5 tc5 => ?_)
  refine gz_s 2 (pc' := 8) (L' := [some (.ref x), some (.int (zi kd)), some (.ref c5), none]) (S' := [.ref c5]) rfl ?_
  refine gz_call rfl (by decide) rfl (by decide) (by decide) (gcal_of rfl rfl rfl (Nat.le_of_ble_eq_true rfl) (gJ.recv (G := gGG) hS.1 tc5 rfl rfl)) (cw_Suited0_suit _ hS.1 c5 tc5 w0 uq hyf97 hywb hyw6) (fun q6 _ wq6 => ?_)
  obtain ⟨pq6, oq6, hq6⟩ := q6
  obtain ⟨xq6, fq6_0, gq6, efq6_0, afq6_0, bfq6_0, yq6_0, yq6_1⟩ := wq6
  refine ⟨_, gq6, ?_⟩
  show gz gPP gGG gcn _ _ 11 [some (.ref x), some (.int (zi kd)), some (.ref c5), none] [] hq6 _
  have sq6 : gSs rT 1027 ty [56000, 56001, 91004, 91008, 93999, 94999, 95999, 96999, 97999, 98999, 99999, 114999] h hq6 := gSs.tr hS xq6 (by decide)
  have s7 := (xq6.2.2.2.2.2 x 0 (by rw [tx]; decide)).trans esk
  have s8 := (xq6.2.2.2.2.2 sk 0 (by rw [tsk]; decide)).trans ebt
  have s9 := (xq6.2.2.2.2.2 sk 1 (by rw [tsk]; decide)).trans ec0
  have s10 := (xq6.2.2.2.2.2 x 4 (by rw [tx]; decide)).trans ec1
  have s11 := (xq6.2.2.2.2.2 c1 0 (by rw [tc1]; decide)).trans ec5
  have pr12 := gSW.fr xq6.2 (by decide) hysw
  obtain ⟨etd, fc9, fo9, fd9, y1, y2, y3, y4, y5, y6⟩ := yq6_1
  have l169 : ∀ j9 : Nat, j9 < 257 → 0 ≤ (ehN w0) j9 ∧ (ehN w0) j9 ≤ 16 := fun j9 hj9 => eh16 (fun x _ => hywb.1 x) (by have := hywb.2; omega) 257 j9 hj9
  have htn := ekT_n (ehN w0) 16 256
  refine gz_s 1 (pc' := 12) (L' := [some (.ref x), some (.int (zi kd)), some (.ref c5), none]) (S' := [.ref x]) rfl ?_
  refine gs_gtk rfl (by decide) rfl sq6.1 tx rfl rfl s7 ?_
  refine gz_s 1 (pc' := 18) (L' := [some (.ref x), some (.int (zi kd)), some (.ref c5), none]) (S' := [.int (zi 196), .ref sk]) rfl ?_
  have k13 := sq6.2.1
  have k13b := sq6.2.2.1
  have hl14 : hq6.2.2.2.1 bt = h.2.2.2.1 bt := congrFun sq6.2.2.2.2.1 bt
  have hl15 : hq6.2.2.2.1 bt = h.2.2.2.1 bt := congrFun sq6.2.2.2.2.1 bt
  refine gz_call rfl (by decide) rfl (by decide) (by decide) (gcal_of rfl rfl rfl (Nat.le_of_ble_eq_true rfl) (gJ.recv (G := gGG) sq6.1 tsk rfl rfl)) (cw_putMarker _ sq6.1 sk tsk 196 ⟨by omega, by omega⟩ bt s8 tbt c0 s9 ⟨by omega, by omega⟩ sg (by omega) (by omega) uq pr12 hyok) (fun q16 _ wq16 => ?_)
  obtain ⟨pq16, oq16, hq16⟩ := q16
  obtain ⟨tyq16, xq16, cq16_0, ttq16, fq16_0, ecq16_0, tcq16_0, gq16, efq16_0, afq16_0, bfq16_0, uq16_0, uq16_1, uq16_2, uq16_3, uq16_4, uq16_5, uq16_6, uq16_7, yq16_0, yq16_1⟩ := wq16
  dsimp only at uq16_4 uq16_5 uq16_6 uq16_7
  refine ⟨_, gq16, ?_⟩
  show gz gPP gGG gcn _ _ 21 [some (.ref x), some (.int (zi kd)), some (.ref c5), none] [] hq16 _
  have G17 : gSg [114] [] [56000, 56001, 91004, 91008, 93999, 94999, 95999, 96999, 97999, 98999, 99999, 114999] ty h tyq16 hq16 := gSg.tr (gSg.ss G0 sq6 (by decide)) xq16 (by decide) (by decide) (fun x hx => by cases hx)
  have t18 : tyq16 x = 71 := gSg.typ xq16 sq6.1 tx rfl
  have t19 : tyq16 sk = 56 := gSg.typ xq16 sq6.1 tsk rfl
  have t20 : tyq16 bt = 114 := gSg.typ xq16 sq6.1 tbt rfl
  have hl21 : hq16.2.2.2.1 bt = hq6.2.2.2.1 bt := gSg.len xq16 sq6.1 tbt rfl
  have t22 : tyq16 c1 = 75 := gSg.typ xq16 sq6.1 tc1 rfl
  have t23 : tyq16 c5 = 91 := gSg.typ xq16 sq6.1 tc5 rfl
  have s24 := gSg.at xq16 sq6.1 tx rfl (by decide) s7
  have s25 := gSg.at xq16 sq6.1 tx rfl (by decide) s10
  have s26 := gSg.at xq16 sq6.1 tc1 rfl (by decide) s11
  have s27 := gSg.at xq16 sq6.1 tc5 rfl (by decide) efq6_0
  have pr28 := gRn.gr xq16 sq6.1 rfl (by decide) (by decide) yq6_0
  have pr29 := gRn.gr xq16 sq6.1 rfl (by decide) (by decide) y1
  have pr30 := gRn.gr xq16 sq6.1 rfl (by decide) (by decide) y2
  have pr31 := gRn.gr xq16 sq6.1 rfl (by decide) (by decide) y3
  have uq32 := gSg.uq xq16 uq (by decide)
  have sS33 : gSs rT 1027 tyq16 [56000, 56001, 91004, 91008, 93999, 94999, 95999, 96999, 97999, 98999, 99999, 114999] hq16 hq16 := gSs.rf xq16.1
  refine gz_s 1 (pc' := 22) (L' := [some (.ref x), some (.int (zi kd)), some (.ref c5), none]) (S' := [.ref x]) rfl ?_
  refine gs_gtk rfl (by decide) rfl sS33.1 t18 rfl rfl s24 ?_
  refine gz_s 2 (pc' := 28) (L' := [some (.ref x), some (.int (zi kd)), some (.ref c5), none]) (S' := [.ref c5, .int (zi 19), .ref sk]) rfl ?_
  refine gs_gtk rfl (by decide) rfl sS33.1 t23 rfl rfl s27 ?_
  refine gy_s 1 (pc' := 32) (L' := [some (.ref x), some (.int (zi kd)), some (.ref c5), none]) (S' := [.int ((zi 19) + (zi fq6_0)), .ref sk]) (L2 := [some (.ref x), some (.int (zi kd)), some (.ref c5), none]) (S2 := [.int (zi (19 + fq6_0)), .ref sk]) rfl (by simp only [zi_add, zi_sub, zi_mul, zi_neg, zi_and1, zi_and7, zi_and15, zi_and31, zi_and255]) (by simp only [zi_add, zi_sub, zi_mul, zi_neg, zi_and1, zi_and7, zi_and15, zi_and31, zi_and255]) ?_
  have hl34 : hq16.2.2.2.1 cq16_0 = hq16.2.2.2.1 cq16_0 := congrFun sS33.2.2.2.2.1 cq16_0
  refine gz_call rfl (by decide) rfl (by decide) (by decide) (gcal_of rfl rfl rfl (Nat.le_of_ble_eq_true rfl) (gJ.recv (G := gGG) sS33.1 t19 rfl rfl)) (cw_putTwo _ sS33.1 sk t19 (19 + fq6_0) ⟨by omega, by omega⟩ cq16_0 ecq16_0 tcq16_0 fq16_0 efq16_0 ⟨by omega, by omega⟩ (eeM sg 196) (by omega) (by omega) uq32 yq16_0 yq16_1) (fun q35 _ wq35 => ?_)
  obtain ⟨pq35, oq35, hq35⟩ := q35
  obtain ⟨tyq35, xq35, cq35_0, ttq35, fq35_0, ecq35_0, tcq35_0, gq35, efq35_0, afq35_0, bfq35_0, uq35_0, uq35_1, uq35_2, uq35_3, uq35_4, uq35_5, uq35_6, uq35_7, yq35_0, yq35_1⟩ := wq35
  dsimp only at uq35_4 uq35_5 uq35_6 uq35_7
  refine ⟨_, gq35, ?_⟩
  show gz gPP gGG gcn _ _ 35 [some (.ref x), some (.int (zi kd)), some (.ref c5), none] [] hq35 _
  have G36 : gSg [114] [] [56000, 56001, 91004, 91008, 93999, 94999, 95999, 96999, 97999, 98999, 99999, 114999] ty h tyq35 hq35 := gSg.tr (gSg.ss G17 sS33 (by decide)) xq35 (by decide) (by decide) (fun x hx => by cases hx)
  have t37 : tyq35 x = 71 := gSg.typ xq35 sS33.1 t18 rfl
  have t38 : tyq35 sk = 56 := gSg.typ xq35 sS33.1 t19 rfl
  have t39 : tyq35 bt = 114 := gSg.typ xq35 sS33.1 t20 rfl
  have hl40 : hq35.2.2.2.1 bt = hq16.2.2.2.1 bt := gSg.len xq35 sS33.1 t20 rfl
  have t41 : tyq35 c1 = 75 := gSg.typ xq35 sS33.1 t22 rfl
  have t42 : tyq35 c5 = 91 := gSg.typ xq35 sS33.1 t23 rfl
  have t43 : tyq35 cq16_0 = 114 := gSg.typ xq35 sS33.1 tcq16_0 rfl
  have hl44 : hq35.2.2.2.1 cq16_0 = hq16.2.2.2.1 cq16_0 := gSg.len xq35 sS33.1 tcq16_0 rfl
  have s45 := gSg.at xq35 sS33.1 t18 rfl (by decide) s24
  have s46 := gSg.at xq35 sS33.1 t18 rfl (by decide) s25
  have s47 := gSg.at xq35 sS33.1 t22 rfl (by decide) s26
  have s48 := gSg.at xq35 sS33.1 t23 rfl (by decide) s27
  have pr49 := gRn.gr xq35 sS33.1 rfl (by decide) (by decide) pr28
  have pr50 := gRn.gr xq35 sS33.1 rfl (by decide) (by decide) pr29
  have pr51 := gRn.gr xq35 sS33.1 rfl (by decide) (by decide) pr30
  have pr52 := gRn.gr xq35 sS33.1 rfl (by decide) (by decide) pr31
  have uq53 := gSg.uq xq35 uq32 (by decide)
  have sS54 : gSs rT 1027 tyq35 [56000, 56001, 91004, 91008, 93999, 94999, 95999, 96999, 97999, 98999, 99999, 114999] hq35 hq35 := gSs.rf xq35.1
  refine gz_s 1 (pc' := 36) (L' := [some (.ref x), some (.int (zi kd)), some (.ref c5), none]) (S' := [.ref x]) rfl ?_
  refine gs_gtk rfl (by decide) rfl sS54.1 t37 rfl rfl s45 ?_
  refine gy_s 3 (pc' := 43) (L' := [some (.ref x), some (.int (zi kd)), some (.ref c5), none]) (S' := [.int ((zi 16) * (zi kd)), .ref sk]) (L2 := [some (.ref x), some (.int (zi kd)), some (.ref c5), none]) (S2 := [.int (zi (16 * kd)), .ref sk]) rfl (by simp only [zi_add, zi_sub, zi_mul, zi_neg, zi_and1, zi_and7, zi_and15, zi_and31, zi_and255]) (by simp only [zi_add, zi_sub, zi_mul, zi_neg, zi_and1, zi_and7, zi_and15, zi_and31, zi_and255]) ?_
  have hl55 : hq35.2.2.2.1 cq35_0 = hq35.2.2.2.1 cq35_0 := congrFun sS54.2.2.2.2.1 cq35_0
  refine gz_call rfl (by decide) rfl (by decide) (by decide) (gcal_of rfl rfl rfl (Nat.le_of_ble_eq_true rfl) (gJ.recv (G := gGG) sS54.1 t38 rfl rfl)) (cw_putByte _ sS54.1 sk t38 (16 * kd) ⟨by omega, by omega⟩ cq35_0 ecq35_0 tcq35_0 fq35_0 efq35_0 ⟨by omega, by omega⟩ (eeT (eeM sg 196) (19 + fq6_0)) (by omega) (by omega) uq53 yq35_0 yq35_1) (fun q56 _ wq56 => ?_)
  obtain ⟨pq56, oq56, hq56⟩ := q56
  obtain ⟨tyq56, xq56, cq56_0, ttq56, fq56_0, ecq56_0, tcq56_0, gq56, efq56_0, afq56_0, bfq56_0, uq56_0, uq56_1, uq56_2, uq56_3, uq56_4, uq56_5, uq56_6, uq56_7, yq56_0, yq56_1⟩ := wq56
  dsimp only at uq56_4 uq56_5 uq56_6 uq56_7
  refine ⟨_, gq56, ?_⟩
  show gz gPP gGG gcn _ _ 46 [some (.ref x), some (.int (zi kd)), some (.ref c5), none] [] hq56 _
  have G57 : gSg [114] [] [56000, 56001, 91004, 91008, 93999, 94999, 95999, 96999, 97999, 98999, 99999, 114999] ty h tyq56 hq56 := gSg.tr (gSg.ss G36 sS54 (by decide)) xq56 (by decide) (by decide) (fun x hx => by cases hx)
  have t58 : tyq56 x = 71 := gSg.typ xq56 sS54.1 t37 rfl
  have t59 : tyq56 sk = 56 := gSg.typ xq56 sS54.1 t38 rfl
  have t60 : tyq56 bt = 114 := gSg.typ xq56 sS54.1 t39 rfl
  have hl61 : hq56.2.2.2.1 bt = hq35.2.2.2.1 bt := gSg.len xq56 sS54.1 t39 rfl
  have t62 : tyq56 c1 = 75 := gSg.typ xq56 sS54.1 t41 rfl
  have t63 : tyq56 c5 = 91 := gSg.typ xq56 sS54.1 t42 rfl
  have t64 : tyq56 cq16_0 = 114 := gSg.typ xq56 sS54.1 t43 rfl
  have hl65 : hq56.2.2.2.1 cq16_0 = hq35.2.2.2.1 cq16_0 := gSg.len xq56 sS54.1 t43 rfl
  have t66 : tyq56 cq35_0 = 114 := gSg.typ xq56 sS54.1 tcq35_0 rfl
  have hl67 : hq56.2.2.2.1 cq35_0 = hq35.2.2.2.1 cq35_0 := gSg.len xq56 sS54.1 tcq35_0 rfl
  have s68 := gSg.at xq56 sS54.1 t37 rfl (by decide) s45
  have s69 := gSg.at xq56 sS54.1 t37 rfl (by decide) s46
  have s70 := gSg.at xq56 sS54.1 t41 rfl (by decide) s47
  have s71 := gSg.at xq56 sS54.1 t42 rfl (by decide) s48
  have pr72 := gRn.gr xq56 sS54.1 rfl (by decide) (by decide) pr49
  have pr73 := gRn.gr xq56 sS54.1 rfl (by decide) (by decide) pr50
  have pr74 := gRn.gr xq56 sS54.1 rfl (by decide) (by decide) pr51
  have pr75 := gRn.gr xq56 sS54.1 rfl (by decide) (by decide) pr52
  have uq76 := gSg.uq xq56 uq53 (by decide)
  have sS77 : gSs rT 1027 tyq56 [56000, 56001, 91004, 91008, 93999, 94999, 95999, 96999, 97999, 98999, 99999, 114999] hq56 hq56 := gSs.rf xq56.1
  have hk78 : eeB (eeT (eeM sg 196) (19 + ekT (ehN w0) 256 16)) (16 * 0) = eeB (eeT (eeM sg 196) (19 + fq6_0)) (16 * kd) := by rw [etd, show kd = 0 by omega]
  have hk78_1 : (eeB (eeT (eeM sg 196) (19 + ekT (ehN w0) 256 16)) (16 * 0)).1 = (eeB (eeT (eeM sg 196) (19 + fq6_0)) (16 * kd)).1 := by rw [hk78]
  have hk78_21 : (eeB (eeT (eeM sg 196) (19 + ekT (ehN w0) 256 16)) (16 * 0)).2.1 = (eeB (eeT (eeM sg 196) (19 + fq6_0)) (16 * kd)).2.1 := by rw [hk78]
  have hk78_221 : (eeB (eeT (eeM sg 196) (19 + ekT (ehN w0) 256 16)) (16 * 0)).2.2.1 = (eeB (eeT (eeM sg 196) (19 + fq6_0)) (16 * kd)).2.2.1 := by rw [hk78]
  have hsw79 : gSW tyq56 cq56_0 (eeB (eeT (eeM sg 196) (19 + ekT (ehN w0) 256 16)) (16 * 0)) hq56 := by rw [hk78]; exact yq56_0
  have hok80 : eeOk (eeB (eeT (eeM sg 196) (19 + ekT (ehN w0) 256 16)) (16 * 0)) := by rw [hk78]; exact yq56_1
  have hoc81 := hok80.cur
  refine gz_s 2 (pc' := 48) (L' := [some (.ref x), some (.int (zi kd)), some (.ref c5), some (.int (zi 1))]) (S' := []) rfl ?_
  have hk83 : ekA (ehN w0) (eeB (eeT (eeM sg 196) (19 + ekT (ehN w0) 256 16)) (16 * 0)) (1 - 1 : Int).toNat = eeB (eeT (eeM sg 196) (19 + ekT (ehN w0) 256 16)) (16 * 0) := rfl
  have hk83_1 : (ekA (ehN w0) (eeB (eeT (eeM sg 196) (19 + ekT (ehN w0) 256 16)) (16 * 0)) (1 - 1 : Int).toNat).1 = (eeB (eeT (eeM sg 196) (19 + ekT (ehN w0) 256 16)) (16 * 0)).1 := by rw [hk83]
  have hk83_21 : (ekA (ehN w0) (eeB (eeT (eeM sg 196) (19 + ekT (ehN w0) 256 16)) (16 * 0)) (1 - 1 : Int).toNat).2.1 = (eeB (eeT (eeM sg 196) (19 + ekT (ehN w0) 256 16)) (16 * 0)).2.1 := by rw [hk83]
  have hk83_221 : (ekA (ehN w0) (eeB (eeT (eeM sg 196) (19 + ekT (ehN w0) 256 16)) (16 * 0)) (1 - 1 : Int).toNat).2.2.1 = (eeB (eeT (eeM sg 196) (19 + ekT (ehN w0) 256 16)) (16 * 0)).2.2.1 := by rw [hk83]
  have hsw84 : gSW tyq56 cq56_0 (ekA (ehN w0) (eeB (eeT (eeM sg 196) (19 + ekT (ehN w0) 256 16)) (16 * 0)) (1 - 1 : Int).toNat) hq56 := by rw [hk83]; exact hsw79
  have hok85 : eeOk (ekA (ehN w0) (eeB (eeT (eeM sg 196) (19 + ekT (ehN w0) 256 16)) (16 * 0)) (1 - 1 : Int).toNat) := by rw [hk83]; exact hok80
  have hoc86 := hok85.cur
  have lp82 : ∀ (fu : Nat) (ty88 : Nat → Nat) (h87 : gH) (bv : Nat) (i : Int) (cv : Int), (18 - i).toNat < fu → gSg [114] [] [56000, 56001, 91004, 91008, 93999, 94999, 95999, 96999, 97999, 98999, 99999, 114999] ty h ty88 h87 → gUq ty88 → ty88 x = 71 → ty88 c5 = 91 → ty88 sk = 56 → ty88 c1 = 75 → h87.2.2.2.2 sk 0 = .ref bv → ty88 bv = 114 → (1 ≤ i ∧ i ≤ 17) → (0 ≤ cv ∧ cv ≤ 499999) → (cv = c0 + 4 + i) → (cv = (ekA (ehN w0) (eeB (eeT (eeM sg 196) (19 + ekT (ehN w0) 256 16)) (16 * 0)) (i - 1).toNat).1) → ((ekA (ehN w0) (eeB (eeT (eeM sg 196) (19 + ekT (ehN w0) 256 16)) (16 * 0)) (i - 1).toNat).2.1 = sg.2.1) → ((ekA (ehN w0) (eeB (eeT (eeM sg 196) (19 + ekT (ehN w0) 256 16)) (16 * 0)) (i - 1).toNat).2.2.1 = sg.2.2.1) → (1024 * ((h87.1 : Int) - h.1) ≤ (h87.2.2.2.1 bv : Int) - h.2.2.2.1 bt) → (((h87.2.1 : Int) - h.2.1) ≤ 2 * ((h87.2.2.2.1 bv : Int) - h.2.2.2.1 bt)) → ((h.2.2.2.1 bt : Int) ≤ (h87.2.2.2.1 bv : Int)) → (cv ≤ (h87.2.2.2.1 bv : Int)) → h87.2.2.2.2 x 0 = .ref sk → h87.2.2.2.2 x 4 = .ref c1 → h87.2.2.2.2 c1 0 = .ref c5 → h87.2.2.2.2 c5 4 = .int (zi fq6_0) → h87.2.2.2.2 sk 1 = .int (zi cv) → ewB w0 1999 → 0 < w0 256 → gRn 257 ty88 96 (ehN w0) h87 → gRn 17 ty88 93 fc9 h87 → gRn 256 ty88 94 fo9 h87 → gRn 257 ty88 95 fd9 h87 → gSW ty88 bv (ekA (ehN w0) (eeB (eeT (eeM sg 196) (19 + ekT (ehN w0) 256 16)) (16 * 0)) (i - 1).toNat) h87 → eeOk (ekA (ehN w0) (eeB (eeT (eeM sg 196) (19 + ekT (ehN w0) 256 16)) (16 * 0)) (i - 1).toNat) → gz gPP gGG gcn (d + 4) gt121 48 [some (.ref x), some (.int (zi kd)), some (.ref c5), some (.int (zi i))] [] h87 (fun q _ => ∃ ty9 : Nat → Nat, gSg [114] [] [56000, 56001, 91004, 91008, 93999, 94999, 95999, 96999, 97999, 98999, 99999, 114999] ty h ty9 q.2.2 ∧ ∃ bt2 : Nat, True ∧ ∃ c1 : Int, q.2.2.2.2.2.2 sk 0 = .ref bt2 ∧ ty9 bt2 = 114 ∧ gfin gt121 q.1 q.2.1 = some none ∧ q.2.2.2.2.2.2 sk 1 = .int (zi c1) ∧ 0 ≤ c1 ∧ c1 ≤ 500000 ∧ (c1 = (ekP 0 (ehN w0) sg).1) ∧ ((ekP 0 (ehN w0) sg).2.1 = sg.2.1) ∧ ((ekP 0 (ehN w0) sg).2.2.1 = sg.2.2.1) ∧ (c0 ≤ c1) ∧ (c1 ≤ c0 + 300) ∧ (1024 * ((q.2.2.1 : Int) - h.1) ≤ (q.2.2.2.2.2.1 bt2 : Int) - h.2.2.2.1 bt) ∧ (((q.2.2.2.1 : Int) - h.2.1) ≤ 2 * ((q.2.2.2.2.2.1 bt2 : Int) - h.2.2.2.1 bt)) ∧ ((h.2.2.2.1 bt : Int) ≤ (q.2.2.2.2.2.1 bt2 : Int)) ∧ (c1 ≤ (q.2.2.2.2.2.1 bt2 : Int)) ∧ (gSW ty9 bt2 (ekP 0 (ehN w0) sg) q.2.2) ∧ (eeOk (ekP 0 (ehN w0) sg)) ∧ (gTab (True) ty9 95 96 (ekc (ehN w0)) q.2.2)) := by
    intro fu
    induction fu with
    | zero => intro ty88 h87 bv i cv hm; exact absurd hm (Nat.not_lt_zero _)
    | succ fu ihlp82 =>
      intro ty88 h87 bv i cv lp82m lp82G lp82u lp82c0 lp82c1 lp82c2 lp82c3 lp82r0 lp82r1 lp82f0 lp82f1 lp82f2 lp82f3 lp82f4 lp82f5 lp82f6 lp82f7 lp82f8 lp82f9 lp82k0 lp82k1 lp82k2 lp82k3 lp82k4 lp82k5 lp82k6 lp82k7 lp82k8 lp82k9 lp82k10 lp82k11 lp82k12
      have sh87 : gSs rT 1027 ty88 [56000, 56001, 91004, 91008, 93999, 94999, 95999, 96999, 97999, 98999, 99999, 114999] h87 h87 := gSs.rf lp82G.1
      refine gz_s 2 (pc' := 51) (L' := [some (.ref x), some (.int (zi kd)), some (.ref c5), some (.int (zi i))]) (S' := [.int (zi 16), .int (zi i)]) rfl ?_
      by_cases hc89 : (16 : Int) < i
      · refine gy_icT (pc' := 73) rfl (by decide) (by decide) (by omega) (by omega) hc89 ?_
        have hk90 : ekA (ehN w0) (eeB (eeT (eeM sg 196) (19 + ekT (ehN w0) 256 16)) (16 * 0)) 16 = ekA (ehN w0) (eeB (eeT (eeM sg 196) (19 + ekT (ehN w0) 256 16)) (16 * 0)) (i - 1).toNat := by rw [(by omega : (i - 1).toNat = 16)]
        have hk90_1 : (ekA (ehN w0) (eeB (eeT (eeM sg 196) (19 + ekT (ehN w0) 256 16)) (16 * 0)) 16).1 = (ekA (ehN w0) (eeB (eeT (eeM sg 196) (19 + ekT (ehN w0) 256 16)) (16 * 0)) (i - 1).toNat).1 := by rw [hk90]
        have hk90_21 : (ekA (ehN w0) (eeB (eeT (eeM sg 196) (19 + ekT (ehN w0) 256 16)) (16 * 0)) 16).2.1 = (ekA (ehN w0) (eeB (eeT (eeM sg 196) (19 + ekT (ehN w0) 256 16)) (16 * 0)) (i - 1).toNat).2.1 := by rw [hk90]
        have hk90_221 : (ekA (ehN w0) (eeB (eeT (eeM sg 196) (19 + ekT (ehN w0) 256 16)) (16 * 0)) 16).2.2.1 = (ekA (ehN w0) (eeB (eeT (eeM sg 196) (19 + ekT (ehN w0) 256 16)) (16 * 0)) (i - 1).toNat).2.2.1 := by rw [hk90]
        have hsw91 : gSW ty88 bv (ekA (ehN w0) (eeB (eeT (eeM sg 196) (19 + ekT (ehN w0) 256 16)) (16 * 0)) 16) h87 := by rw [hk90]; exact lp82k11
        have hok92 : eeOk (ekA (ehN w0) (eeB (eeT (eeM sg 196) (19 + ekT (ehN w0) 256 16)) (16 * 0)) 16) := by rw [hk90]; exact lp82k12
        have hoc93 := hok92.cur
        have hkA := ekA_k (ehN w0) (eeB (eeT (eeM sg 196) (19 + ekT (ehN w0) 256 16)) (16 * 0)) 16
        refine gz_s 2 (pc' := 75) (L' := [some (.ref x), some (.int (zi kd)), some (.ref c5), some (.int (zi 0))]) (S' := []) rfl ?_
        have hk95 : ekW fo9 (ekA (ehN w0) (eeB (eeT (eeM sg 196) (19 + ekT (ehN w0) 256 16)) (16 * 0)) 16) (0 : Int).toNat = ekA (ehN w0) (eeB (eeT (eeM sg 196) (19 + ekT (ehN w0) 256 16)) (16 * 0)) 16 := rfl
        have hk95_1 : (ekW fo9 (ekA (ehN w0) (eeB (eeT (eeM sg 196) (19 + ekT (ehN w0) 256 16)) (16 * 0)) 16) (0 : Int).toNat).1 = (ekA (ehN w0) (eeB (eeT (eeM sg 196) (19 + ekT (ehN w0) 256 16)) (16 * 0)) 16).1 := by rw [hk95]
        have hk95_21 : (ekW fo9 (ekA (ehN w0) (eeB (eeT (eeM sg 196) (19 + ekT (ehN w0) 256 16)) (16 * 0)) 16) (0 : Int).toNat).2.1 = (ekA (ehN w0) (eeB (eeT (eeM sg 196) (19 + ekT (ehN w0) 256 16)) (16 * 0)) 16).2.1 := by rw [hk95]
        have hk95_221 : (ekW fo9 (ekA (ehN w0) (eeB (eeT (eeM sg 196) (19 + ekT (ehN w0) 256 16)) (16 * 0)) 16) (0 : Int).toNat).2.2.1 = (ekA (ehN w0) (eeB (eeT (eeM sg 196) (19 + ekT (ehN w0) 256 16)) (16 * 0)) 16).2.2.1 := by rw [hk95]
        have hsw96 : gSW ty88 bv (ekW fo9 (ekA (ehN w0) (eeB (eeT (eeM sg 196) (19 + ekT (ehN w0) 256 16)) (16 * 0)) 16) (0 : Int).toNat) h87 := by rw [hk95]; exact hsw91
        have hok97 : eeOk (ekW fo9 (ekA (ehN w0) (eeB (eeT (eeM sg 196) (19 + ekT (ehN w0) 256 16)) (16 * 0)) 16) (0 : Int).toNat) := by rw [hk95]; exact hok92
        have hoc98 := hok97.cur
        have lp94 : ∀ (fu : Nat) (ty100 : Nat → Nat) (h99 : gH) (bv2 : Nat) (k : Int) (cv2 : Int), (257 - k).toNat < fu → gSg [114] [] [56000, 56001, 91004, 91008, 93999, 94999, 95999, 96999, 97999, 98999, 99999, 114999] ty h ty100 h99 → gUq ty100 → ty100 x = 71 → ty100 c5 = 91 → ty100 sk = 56 → ty100 c1 = 75 → h99.2.2.2.2 sk 0 = .ref bv2 → ty100 bv2 = 114 → (0 ≤ k ∧ k ≤ 256) → (0 ≤ cv2 ∧ cv2 ≤ 499999) → (cv2 = c0 + 21 + k) → (cv2 = (ekW fo9 (ekA (ehN w0) (eeB (eeT (eeM sg 196) (19 + ekT (ehN w0) 256 16)) (16 * 0)) 16) (k).toNat).1) → ((ekW fo9 (ekA (ehN w0) (eeB (eeT (eeM sg 196) (19 + ekT (ehN w0) 256 16)) (16 * 0)) 16) (k).toNat).2.1 = sg.2.1) → ((ekW fo9 (ekA (ehN w0) (eeB (eeT (eeM sg 196) (19 + ekT (ehN w0) 256 16)) (16 * 0)) 16) (k).toNat).2.2.1 = sg.2.2.1) → (k ≤ ekT (ehN w0) 256 16) → (1024 * ((h99.1 : Int) - h.1) ≤ (h99.2.2.2.1 bv2 : Int) - h.2.2.2.1 bt) → (((h99.2.1 : Int) - h.2.1) ≤ 2 * ((h99.2.2.2.1 bv2 : Int) - h.2.2.2.1 bt)) → ((h.2.2.2.1 bt : Int) ≤ (h99.2.2.2.1 bv2 : Int)) → (cv2 ≤ (h99.2.2.2.1 bv2 : Int)) → h99.2.2.2.2 x 0 = .ref sk → h99.2.2.2.2 x 4 = .ref c1 → h99.2.2.2.2 c1 0 = .ref c5 → h99.2.2.2.2 c5 4 = .int (zi fq6_0) → h99.2.2.2.2 sk 1 = .int (zi cv2) → ewB w0 1999 → 0 < w0 256 → gRn 257 ty100 96 (ehN w0) h99 → gRn 17 ty100 93 fc9 h99 → gRn 256 ty100 94 fo9 h99 → gRn 257 ty100 95 fd9 h99 → gSW ty100 bv2 (ekW fo9 (ekA (ehN w0) (eeB (eeT (eeM sg 196) (19 + ekT (ehN w0) 256 16)) (16 * 0)) 16) (k).toNat) h99 → eeOk (ekW fo9 (ekA (ehN w0) (eeB (eeT (eeM sg 196) (19 + ekT (ehN w0) 256 16)) (16 * 0)) 16) (k).toNat) → gz gPP gGG gcn (d + 4) gt121 75 [some (.ref x), some (.int (zi kd)), some (.ref c5), some (.int (zi k))] [] h99 (fun q _ => ∃ ty9 : Nat → Nat, gSg [114] [] [56000, 56001, 91004, 91008, 93999, 94999, 95999, 96999, 97999, 98999, 99999, 114999] ty h ty9 q.2.2 ∧ ∃ bt2 : Nat, True ∧ ∃ c1 : Int, q.2.2.2.2.2.2 sk 0 = .ref bt2 ∧ ty9 bt2 = 114 ∧ gfin gt121 q.1 q.2.1 = some none ∧ q.2.2.2.2.2.2 sk 1 = .int (zi c1) ∧ 0 ≤ c1 ∧ c1 ≤ 500000 ∧ (c1 = (ekP 0 (ehN w0) sg).1) ∧ ((ekP 0 (ehN w0) sg).2.1 = sg.2.1) ∧ ((ekP 0 (ehN w0) sg).2.2.1 = sg.2.2.1) ∧ (c0 ≤ c1) ∧ (c1 ≤ c0 + 300) ∧ (1024 * ((q.2.2.1 : Int) - h.1) ≤ (q.2.2.2.2.2.1 bt2 : Int) - h.2.2.2.1 bt) ∧ (((q.2.2.2.1 : Int) - h.2.1) ≤ 2 * ((q.2.2.2.2.2.1 bt2 : Int) - h.2.2.2.1 bt)) ∧ ((h.2.2.2.1 bt : Int) ≤ (q.2.2.2.2.2.1 bt2 : Int)) ∧ (c1 ≤ (q.2.2.2.2.2.1 bt2 : Int)) ∧ (gSW ty9 bt2 (ekP 0 (ehN w0) sg) q.2.2) ∧ (eeOk (ekP 0 (ehN w0) sg)) ∧ (gTab (True) ty9 95 96 (ekc (ehN w0)) q.2.2)) := by
          intro fu
          induction fu with
          | zero => intro ty100 h99 bv2 k cv2 hm; exact absurd hm (Nat.not_lt_zero _)
          | succ fu ihlp94 =>
            intro ty100 h99 bv2 k cv2 lp94m lp94G lp94u lp94c0 lp94c1 lp94c2 lp94c3 lp94r0 lp94r1 lp94f0 lp94f1 lp94f2 lp94f3 lp94f4 lp94f5 lp94f6 lp94f7 lp94f8 lp94f9 lp94f10 lp94k0 lp94k1 lp94k2 lp94k3 lp94k4 lp94k5 lp94k6 lp94k7 lp94k8 lp94k9 lp94k10 lp94k11 lp94k12
            have sh99 : gSs rT 1027 ty100 [56000, 56001, 91004, 91008, 93999, 94999, 95999, 96999, 97999, 98999, 99999, 114999] h99 h99 := gSs.rf lp94G.1
            refine gz_s 2 (pc' := 77) (L' := [some (.ref x), some (.int (zi kd)), some (.ref c5), some (.int (zi k))]) (S' := [.ref c5, .int (zi k)]) rfl ?_
            refine gs_gtk rfl (by decide) rfl sh99.1 lp94c1 rfl rfl lp94k3 ?_
            by_cases hc101 : (fq6_0 : Int) ≤ k
            · refine gy_icT (pc' := 102) rfl (by decide) (by decide) (by omega) (by omega) hc101 ?_
              have hkW := ekW_k fo9 (ekA (ehN w0) (eeB (eeT (eeM sg 196) (19 + ekT (ehN w0) 256 16)) (16 * 0)) 16) (k).toNat
              have hk102 : ekP 0 (ehN w0) sg = ekW fo9 (ekA (ehN w0) (eeB (eeT (eeM sg 196) (19 + ekT (ehN w0) 256 16)) (16 * 0)) 16) (k).toNat := by rw [show (k).toNat = (fq6_0).toNat by omega]; exact (y5 (ekA (ehN w0) (eeB (eeT (eeM sg 196) (19 + ekT (ehN w0) 256 16)) (16 * 0)) 16)).symm
              have hk102_1 : (ekP 0 (ehN w0) sg).1 = (ekW fo9 (ekA (ehN w0) (eeB (eeT (eeM sg 196) (19 + ekT (ehN w0) 256 16)) (16 * 0)) 16) (k).toNat).1 := by rw [hk102]
              have hk102_21 : (ekP 0 (ehN w0) sg).2.1 = (ekW fo9 (ekA (ehN w0) (eeB (eeT (eeM sg 196) (19 + ekT (ehN w0) 256 16)) (16 * 0)) 16) (k).toNat).2.1 := by rw [hk102]
              have hk102_221 : (ekP 0 (ehN w0) sg).2.2.1 = (ekW fo9 (ekA (ehN w0) (eeB (eeT (eeM sg 196) (19 + ekT (ehN w0) 256 16)) (16 * 0)) 16) (k).toNat).2.2.1 := by rw [hk102]
              have hsw103 : gSW ty100 bv2 (ekP 0 (ehN w0) sg) h99 := by rw [hk102]; exact lp94k11
              have hok104 : eeOk (ekP 0 (ehN w0) sg) := by rw [hk102]; exact lp94k12
              have hoc105 := hok104.cur
              have hl106 : 1024 ≤ h99.2.2.2.1 bv2 ∧ h99.2.2.2.1 bv2 ≤ 1000000 := gJ.rowl (G := gGG) sh99.1 lp94r1 rfl
              have htb107 : gTab True ty100 95 96 (ekc (ehN w0)) h99 := fun _ => ⟨gOd_tb l169, fun c hc s hs => lp94k7.2 c hc s (by omega), fun c hc s hs h0 => (lp94k10.2 c hc s (by omega)).trans (y6 s hs h0)⟩
              have G108 : gSg [114] [] [56000, 56001, 91004, 91008, 93999, 94999, 95999, 96999, 97999, 98999, 99999, 114999] ty h ty100 h99 := gSg.ss lp94G sh99 (by decide)
              exact gz_end (I := .return_) (len := 1) rfl (Or.inl rfl) ⟨ty100, G108, bv2, trivial, cv2, lp94r0, lp94r1, rfl, lp94k4, (by omega), (by omega), (by omega), (by omega), (by omega), (by omega), (by omega), (by dsimp only; omega), (by dsimp only; omega), (by dsimp only; omega), (by dsimp only; omega), hsw103, hok104, htb107⟩
            · refine gy_icF rfl (by decide) (by decide) (by omega) (by omega) hc101 ?_
              refine gz_s 1 (pc' := 84) (L' := [some (.ref x), some (.int (zi kd)), some (.ref c5), some (.int (zi k))]) (S' := [.ref x]) rfl ?_
              refine gs_gtk rfl (by decide) rfl sh99.1 lp94c0 rfl rfl lp94k0 ?_
              refine gz_s 1 (pc' := 88) (L' := [some (.ref x), some (.int (zi kd)), some (.ref c5), some (.int (zi k))]) (S' := [.ref c5, .ref sk]) rfl ?_
              refine gs_gtr rfl (by decide) rfl sh99.1 lp94c1 rfl rfl rfl (fun c109 ec109 tc109 => ?_)
              refine gz_s 1 (pc' := 92) (L' := [some (.ref x), some (.int (zi kd)), some (.ref c5), some (.int (zi k))]) (S' := [.int (zi k), .ref c109, .ref sk]) rfl ?_
              have hl110 : 256 ≤ h99.2.2.2.1 c109 ∧ h99.2.2.2.1 c109 ≤ 256 := gJ.rowl (G := gGG) sh99.1 tc109 rfl
              refine gs_ald rfl (by decide) sh99.1 tc109 rfl rfl rfl (by decide) (fun _ => rfl) (by omega) (by omega) (fun z111 ez111 az111 bz111 => ?_)
              have hf112 := gRn.at (i := k) (z := z111) lp94k9 tc109 ez111 (by omega) (by omega) (by omega)
              have hl113 : h99.2.2.2.1 bv2 = h99.2.2.2.1 bv2 := congrFun sh99.2.2.2.2.1 bv2
              refine gz_call rfl (by decide) rfl (by decide) (by decide) (gcal_of rfl rfl rfl (Nat.le_of_ble_eq_true rfl) (gJ.recv (G := gGG) sh99.1 lp94c2 rfl rfl)) (cw_putByte _ sh99.1 sk lp94c2 z111 ⟨by omega, by omega⟩ bv2 lp94r0 lp94r1 cv2 lp94k4 ⟨by omega, by omega⟩ (ekW fo9 (ekA (ehN w0) (eeB (eeT (eeM sg 196) (19 + ekT (ehN w0) 256 16)) (16 * 0)) 16) (k).toNat) (by omega) (by omega) lp94u lp94k11 lp94k12) (fun q114 _ wq114 => ?_)
              obtain ⟨pq114, oq114, hq114⟩ := q114
              obtain ⟨tyq114, xq114, cq114_0, ttq114, fq114_0, ecq114_0, tcq114_0, gq114, efq114_0, afq114_0, bfq114_0, uq114_0, uq114_1, uq114_2, uq114_3, uq114_4, uq114_5, uq114_6, uq114_7, yq114_0, yq114_1⟩ := wq114
              dsimp only at uq114_4 uq114_5 uq114_6 uq114_7
              refine ⟨_, gq114, ?_⟩
              show gz gPP gGG gcn _ _ 96 [some (.ref x), some (.int (zi kd)), some (.ref c5), some (.int (zi k))] [] hq114 _
              have G115 : gSg [114] [] [56000, 56001, 91004, 91008, 93999, 94999, 95999, 96999, 97999, 98999, 99999, 114999] ty h tyq114 hq114 := gSg.tr (gSg.ss lp94G sh99 (by decide)) xq114 (by decide) (by decide) (fun x hx => by cases hx)
              have t116 : tyq114 x = 71 := gSg.typ xq114 sh99.1 lp94c0 rfl
              have t117 : tyq114 c5 = 91 := gSg.typ xq114 sh99.1 lp94c1 rfl
              have t118 : tyq114 sk = 56 := gSg.typ xq114 sh99.1 lp94c2 rfl
              have t119 : tyq114 c1 = 75 := gSg.typ xq114 sh99.1 lp94c3 rfl
              have t120 : tyq114 bv2 = 114 := gSg.typ xq114 sh99.1 lp94r1 rfl
              have hl121 : hq114.2.2.2.1 bv2 = h99.2.2.2.1 bv2 := gSg.len xq114 sh99.1 lp94r1 rfl
              have t122 : tyq114 c109 = 94 := gSg.typ xq114 sh99.1 tc109 rfl
              have s123 := gSg.at xq114 sh99.1 lp94c0 rfl (by decide) lp94k0
              have s124 := gSg.at xq114 sh99.1 lp94c0 rfl (by decide) lp94k1
              have s125 := gSg.at xq114 sh99.1 lp94c3 rfl (by decide) lp94k2
              have s126 := gSg.at xq114 sh99.1 lp94c1 rfl (by decide) lp94k3
              have s127 := gSg.at xq114 sh99.1 lp94c1 rfl (by decide) ec109
              have pr128 := gRn.gr xq114 sh99.1 rfl (by decide) (by decide) lp94k7
              have pr129 := gRn.gr xq114 sh99.1 rfl (by decide) (by decide) lp94k8
              have pr130 := gRn.gr xq114 sh99.1 rfl (by decide) (by decide) lp94k9
              have pr131 := gRn.gr xq114 sh99.1 rfl (by decide) (by decide) lp94k10
              have uq132 := gSg.uq xq114 lp94u (by decide)
              have sS133 : gSs rT 1027 tyq114 [56000, 56001, 91004, 91008, 93999, 94999, 95999, 96999, 97999, 98999, 99999, 114999] hq114 hq114 := gSs.rf xq114.1
              have hk134 : ekW fo9 (ekA (ehN w0) (eeB (eeT (eeM sg 196) (19 + ekT (ehN w0) 256 16)) (16 * 0)) 16) (k + 1).toNat = eeB (ekW fo9 (ekA (ehN w0) (eeB (eeT (eeM sg 196) (19 + ekT (ehN w0) 256 16)) (16 * 0)) 16) (k).toNat) z111 := by rw [(by omega : (k + 1).toNat = (k).toNat + 1)]; show eeB _ (fo9 (k).toNat) = _; rw [hf112]
              have hk134_1 : (ekW fo9 (ekA (ehN w0) (eeB (eeT (eeM sg 196) (19 + ekT (ehN w0) 256 16)) (16 * 0)) 16) (k + 1).toNat).1 = (eeB (ekW fo9 (ekA (ehN w0) (eeB (eeT (eeM sg 196) (19 + ekT (ehN w0) 256 16)) (16 * 0)) 16) (k).toNat) z111).1 := by rw [hk134]
              have hk134_21 : (ekW fo9 (ekA (ehN w0) (eeB (eeT (eeM sg 196) (19 + ekT (ehN w0) 256 16)) (16 * 0)) 16) (k + 1).toNat).2.1 = (eeB (ekW fo9 (ekA (ehN w0) (eeB (eeT (eeM sg 196) (19 + ekT (ehN w0) 256 16)) (16 * 0)) 16) (k).toNat) z111).2.1 := by rw [hk134]
              have hk134_221 : (ekW fo9 (ekA (ehN w0) (eeB (eeT (eeM sg 196) (19 + ekT (ehN w0) 256 16)) (16 * 0)) 16) (k + 1).toNat).2.2.1 = (eeB (ekW fo9 (ekA (ehN w0) (eeB (eeT (eeM sg 196) (19 + ekT (ehN w0) 256 16)) (16 * 0)) 16) (k).toNat) z111).2.2.1 := by rw [hk134]
              have hsw135 : gSW tyq114 cq114_0 (ekW fo9 (ekA (ehN w0) (eeB (eeT (eeM sg 196) (19 + ekT (ehN w0) 256 16)) (16 * 0)) 16) (k + 1).toNat) hq114 := by rw [hk134]; exact yq114_0
              have hok136 : eeOk (ekW fo9 (ekA (ehN w0) (eeB (eeT (eeM sg 196) (19 + ekT (ehN w0) 256 16)) (16 * 0)) 16) (k + 1).toNat) := by rw [hk134]; exact yq114_1
              have hoc137 := hok136.cur
              refine gy_s 2 (pc' := 75) (L' := [some (.ref x), some (.int (zi kd)), some (.ref c5), some (.int ((zi k) + zi 1))]) (S' := []) (L2 := [some (.ref x), some (.int (zi kd)), some (.ref c5), some (.int (zi (k + 1)))]) (S2 := []) rfl (by simp only [zi_add, zi_sub, zi_mul, zi_neg, zi_and1, zi_and7, zi_and15, zi_and31, zi_and255]) (by simp only [zi_add, zi_sub, zi_mul, zi_neg, zi_and1, zi_and7, zi_and15, zi_and31, zi_and255]) ?_
              have hl138 : 1024 ≤ hq114.2.2.2.1 bv2 ∧ hq114.2.2.2.1 bv2 ≤ 1000000 := gJ.rowl (G := gGG) sS133.1 t120 rfl
              have hl139 : 1024 ≤ hq114.2.2.2.1 cq114_0 ∧ hq114.2.2.2.1 cq114_0 ≤ 1000000 := gJ.rowl (G := gGG) sS133.1 tcq114_0 rfl
              have G140 : gSg [114] [] [56000, 56001, 91004, 91008, 93999, 94999, 95999, 96999, 97999, 98999, 99999, 114999] ty h tyq114 hq114 := gSg.ss G115 sS133 (by decide)
              exact gz_wk (ihlp94 tyq114 hq114 cq114_0 (k + 1) fq114_0 (gms lp94m (by omega) (by omega)) G140 uq132 t116 t117 t118 t119 ecq114_0 tcq114_0 ⟨by omega, by omega⟩ ⟨by omega, by omega⟩ (by omega) (by omega) (by omega) (by omega) (by omega) (by omega) (by omega) (by omega) (by omega) s123 s124 s125 s126 efq114_0 lp94k5 lp94k6 pr128 pr129 pr130 pr131 hsw135 hok136) (gLw.s (gLw.s (gLw.s (gLw.s gLw.z))))
        have hl141 : 1024 ≤ h87.2.2.2.1 bv ∧ h87.2.2.2.1 bv ≤ 1000000 := gJ.rowl (G := gGG) sh87.1 lp82r1 rfl
        have G142 : gSg [114] [] [56000, 56001, 91004, 91008, 93999, 94999, 95999, 96999, 97999, 98999, 99999, 114999] ty h ty88 h87 := gSg.ss lp82G sh87 (by decide)
        exact gz_wk (lp94 _ ty88 h87 bv 0 cv (Nat.lt_succ_self _) G142 lp82u lp82c0 lp82c1 lp82c2 lp82c3 lp82r0 lp82r1 ⟨by omega, by omega⟩ ⟨by omega, by omega⟩ (by omega) (by omega) (by omega) (by omega) (by omega) (by omega) (by omega) (by omega) (by omega) lp82k0 lp82k1 lp82k2 lp82k3 lp82k4 lp82k5 lp82k6 lp82k7 lp82k8 lp82k9 lp82k10 hsw96 hok97) (gLw.s (gLw.s (gLw.s (gLw.s gLw.z))))
      · refine gy_icF rfl (by decide) (by decide) (by omega) (by omega) hc89 ?_
        refine gz_s 1 (pc' := 55) (L' := [some (.ref x), some (.int (zi kd)), some (.ref c5), some (.int (zi i))]) (S' := [.ref x]) rfl ?_
        refine gs_gtk rfl (by decide) rfl sh87.1 lp82c0 rfl rfl lp82k0 ?_
        refine gz_s 1 (pc' := 59) (L' := [some (.ref x), some (.int (zi kd)), some (.ref c5), some (.int (zi i))]) (S' := [.ref c5, .ref sk]) rfl ?_
        refine gs_gtr rfl (by decide) rfl sh87.1 lp82c1 rfl rfl rfl (fun c143 ec143 tc143 => ?_)
        refine gz_s 1 (pc' := 63) (L' := [some (.ref x), some (.int (zi kd)), some (.ref c5), some (.int (zi i))]) (S' := [.int (zi i), .ref c143, .ref sk]) rfl ?_
        have hl144 : 17 ≤ h87.2.2.2.1 c143 ∧ h87.2.2.2.1 c143 ≤ 17 := gJ.rowl (G := gGG) sh87.1 tc143 rfl
        refine gs_ald rfl (by decide) sh87.1 tc143 rfl rfl rfl (by decide) (fun _ => rfl) (by omega) (by omega) (fun z145 ez145 az145 bz145 => ?_)
        have hf146 := gRn.at (i := i) (z := z145) lp82k8 tc143 ez145 (by omega) (by omega) (by omega)
        have hz9 : z145 = ekN (ehN w0) i 256 := by
          have e9 := y4 (i).toNat (by omega) (by omega)
          rw [hf146, (by omega : (((i).toNat : Nat) : Int) = i)] at e9
          exact e9
        have hl147 : h87.2.2.2.1 bv = h87.2.2.2.1 bv := congrFun sh87.2.2.2.2.1 bv
        refine gz_call rfl (by decide) rfl (by decide) (by decide) (gcal_of rfl rfl rfl (Nat.le_of_ble_eq_true rfl) (gJ.recv (G := gGG) sh87.1 lp82c2 rfl rfl)) (cw_putByte _ sh87.1 sk lp82c2 z145 ⟨by omega, by omega⟩ bv lp82r0 lp82r1 cv lp82k4 ⟨by omega, by omega⟩ (ekA (ehN w0) (eeB (eeT (eeM sg 196) (19 + ekT (ehN w0) 256 16)) (16 * 0)) (i - 1).toNat) (by omega) (by omega) lp82u lp82k11 lp82k12) (fun q148 _ wq148 => ?_)
        obtain ⟨pq148, oq148, hq148⟩ := q148
        obtain ⟨tyq148, xq148, cq148_0, ttq148, fq148_0, ecq148_0, tcq148_0, gq148, efq148_0, afq148_0, bfq148_0, uq148_0, uq148_1, uq148_2, uq148_3, uq148_4, uq148_5, uq148_6, uq148_7, yq148_0, yq148_1⟩ := wq148
        dsimp only at uq148_4 uq148_5 uq148_6 uq148_7
        refine ⟨_, gq148, ?_⟩
        show gz gPP gGG gcn _ _ 67 [some (.ref x), some (.int (zi kd)), some (.ref c5), some (.int (zi i))] [] hq148 _
        have G149 : gSg [114] [] [56000, 56001, 91004, 91008, 93999, 94999, 95999, 96999, 97999, 98999, 99999, 114999] ty h tyq148 hq148 := gSg.tr (gSg.ss lp82G sh87 (by decide)) xq148 (by decide) (by decide) (fun x hx => by cases hx)
        have t150 : tyq148 x = 71 := gSg.typ xq148 sh87.1 lp82c0 rfl
        have t151 : tyq148 c5 = 91 := gSg.typ xq148 sh87.1 lp82c1 rfl
        have t152 : tyq148 sk = 56 := gSg.typ xq148 sh87.1 lp82c2 rfl
        have t153 : tyq148 c1 = 75 := gSg.typ xq148 sh87.1 lp82c3 rfl
        have t154 : tyq148 bv = 114 := gSg.typ xq148 sh87.1 lp82r1 rfl
        have hl155 : hq148.2.2.2.1 bv = h87.2.2.2.1 bv := gSg.len xq148 sh87.1 lp82r1 rfl
        have t156 : tyq148 c143 = 93 := gSg.typ xq148 sh87.1 tc143 rfl
        have s157 := gSg.at xq148 sh87.1 lp82c0 rfl (by decide) lp82k0
        have s158 := gSg.at xq148 sh87.1 lp82c0 rfl (by decide) lp82k1
        have s159 := gSg.at xq148 sh87.1 lp82c3 rfl (by decide) lp82k2
        have s160 := gSg.at xq148 sh87.1 lp82c1 rfl (by decide) lp82k3
        have s161 := gSg.at xq148 sh87.1 lp82c1 rfl (by decide) ec143
        have pr162 := gRn.gr xq148 sh87.1 rfl (by decide) (by decide) lp82k7
        have pr163 := gRn.gr xq148 sh87.1 rfl (by decide) (by decide) lp82k8
        have pr164 := gRn.gr xq148 sh87.1 rfl (by decide) (by decide) lp82k9
        have pr165 := gRn.gr xq148 sh87.1 rfl (by decide) (by decide) lp82k10
        have uq166 := gSg.uq xq148 lp82u (by decide)
        have sS167 : gSs rT 1027 tyq148 [56000, 56001, 91004, 91008, 93999, 94999, 95999, 96999, 97999, 98999, 99999, 114999] hq148 hq148 := gSs.rf xq148.1
        have hk168 : ekA (ehN w0) (eeB (eeT (eeM sg 196) (19 + ekT (ehN w0) 256 16)) (16 * 0)) ((i + 1) - 1).toNat = eeB (ekA (ehN w0) (eeB (eeT (eeM sg 196) (19 + ekT (ehN w0) 256 16)) (16 * 0)) (i - 1).toNat) z145 := by rw [(by omega : (i + 1 - 1).toNat = (i - 1).toNat + 1)]; show eeB _ (ekN (ehN w0) (((i - 1).toNat + 1 : Nat) : Int) 256) = _; rw [(by omega : (((i - 1).toNat + 1 : Nat) : Int) = i), ← hz9]
        have hk168_1 : (ekA (ehN w0) (eeB (eeT (eeM sg 196) (19 + ekT (ehN w0) 256 16)) (16 * 0)) ((i + 1) - 1).toNat).1 = (eeB (ekA (ehN w0) (eeB (eeT (eeM sg 196) (19 + ekT (ehN w0) 256 16)) (16 * 0)) (i - 1).toNat) z145).1 := by rw [hk168]
        have hk168_21 : (ekA (ehN w0) (eeB (eeT (eeM sg 196) (19 + ekT (ehN w0) 256 16)) (16 * 0)) ((i + 1) - 1).toNat).2.1 = (eeB (ekA (ehN w0) (eeB (eeT (eeM sg 196) (19 + ekT (ehN w0) 256 16)) (16 * 0)) (i - 1).toNat) z145).2.1 := by rw [hk168]
        have hk168_221 : (ekA (ehN w0) (eeB (eeT (eeM sg 196) (19 + ekT (ehN w0) 256 16)) (16 * 0)) ((i + 1) - 1).toNat).2.2.1 = (eeB (ekA (ehN w0) (eeB (eeT (eeM sg 196) (19 + ekT (ehN w0) 256 16)) (16 * 0)) (i - 1).toNat) z145).2.2.1 := by rw [hk168]
        have hsw169 : gSW tyq148 cq148_0 (ekA (ehN w0) (eeB (eeT (eeM sg 196) (19 + ekT (ehN w0) 256 16)) (16 * 0)) ((i + 1) - 1).toNat) hq148 := by rw [hk168]; exact yq148_0
        have hok170 : eeOk (ekA (ehN w0) (eeB (eeT (eeM sg 196) (19 + ekT (ehN w0) 256 16)) (16 * 0)) ((i + 1) - 1).toNat) := by rw [hk168]; exact yq148_1
        have hoc171 := hok170.cur
        refine gy_s 2 (pc' := 48) (L' := [some (.ref x), some (.int (zi kd)), some (.ref c5), some (.int ((zi i) + zi 1))]) (S' := []) (L2 := [some (.ref x), some (.int (zi kd)), some (.ref c5), some (.int (zi (i + 1)))]) (S2 := []) rfl (by simp only [zi_add, zi_sub, zi_mul, zi_neg, zi_and1, zi_and7, zi_and15, zi_and31, zi_and255]) (by simp only [zi_add, zi_sub, zi_mul, zi_neg, zi_and1, zi_and7, zi_and15, zi_and31, zi_and255]) ?_
        have hl172 : 1024 ≤ hq148.2.2.2.1 bv ∧ hq148.2.2.2.1 bv ≤ 1000000 := gJ.rowl (G := gGG) sS167.1 t154 rfl
        have hl173 : 1024 ≤ hq148.2.2.2.1 cq148_0 ∧ hq148.2.2.2.1 cq148_0 ≤ 1000000 := gJ.rowl (G := gGG) sS167.1 tcq148_0 rfl
        have G174 : gSg [114] [] [56000, 56001, 91004, 91008, 93999, 94999, 95999, 96999, 97999, 98999, 99999, 114999] ty h tyq148 hq148 := gSg.ss G149 sS167 (by decide)
        exact gz_wk (ihlp82 tyq148 hq148 cq148_0 (i + 1) fq148_0 (gms lp82m (by omega) (by omega)) G174 uq166 t150 t151 t152 t153 ecq148_0 tcq148_0 ⟨by omega, by omega⟩ ⟨by omega, by omega⟩ (by omega) (by omega) (by omega) (by omega) (by omega) (by omega) (by omega) (by omega) s157 s158 s159 s160 efq148_0 lp82k5 lp82k6 pr162 pr163 pr164 pr165 hsw169 hok170) (gLw.s (gLw.s (gLw.s (gLw.s gLw.z))))
  have hl175 : 1024 ≤ hq56.2.2.2.1 bt ∧ hq56.2.2.2.1 bt ≤ 1000000 := gJ.rowl (G := gGG) sS77.1 t60 rfl
  have hl176 : 1024 ≤ hq56.2.2.2.1 cq16_0 ∧ hq56.2.2.2.1 cq16_0 ≤ 1000000 := gJ.rowl (G := gGG) sS77.1 t64 rfl
  have hl177 : 1024 ≤ hq56.2.2.2.1 cq35_0 ∧ hq56.2.2.2.1 cq35_0 ≤ 1000000 := gJ.rowl (G := gGG) sS77.1 t66 rfl
  have hl178 : 1024 ≤ hq56.2.2.2.1 cq56_0 ∧ hq56.2.2.2.1 cq56_0 ≤ 1000000 := gJ.rowl (G := gGG) sS77.1 tcq56_0 rfl
  have G179 : gSg [114] [] [56000, 56001, 91004, 91008, 93999, 94999, 95999, 96999, 97999, 98999, 99999, 114999] ty h tyq56 hq56 := gSg.ss G57 sS77 (by decide)
  exact gz_wk (lp82 _ tyq56 hq56 cq56_0 1 fq56_0 (Nat.lt_succ_self _) G179 uq76 t58 t63 t59 t62 ecq56_0 tcq56_0 ⟨by omega, by omega⟩ ⟨by omega, by omega⟩ (by omega) (by omega) (by omega) (by omega) (by omega) (by omega) (by omega) (by omega) s68 s69 s70 s71 efq56_0 hywb hyw6 pr72 pr73 pr74 pr75 hsw84 hok85) (gLw.s (gLw.s (gLw.s (gLw.s gLw.z))))
set_option maxRecDepth 20000 in
set_option maxHeartbeats 4000000 in
theorem cw_putCodes1 (d : Nat) {ty : Nat → Nat} {h : gH} (hJ : gJ rT 1027 ty h) (x : Nat) (tx : ty x = 71) (kd : Int) (rkd : 1 ≤ kd ∧ kd ≤ 1) (sk : Nat) (esk : h.2.2.2.2 x 0 = .ref sk) (tsk : ty sk = 56) (bt : Nat) (ebt : h.2.2.2.2 sk 0 = .ref bt) (tbt : ty bt = 114) (c0 : Int) (ec0 : h.2.2.2.2 sk 1 = .int (zi c0)) (rc0 : 0 ≤ c0 ∧ c0 ≤ 499000) (w0 : Nat → Int) (sg : gWt) (pp0 : c0 = sg.1) (pp1 : c0 ≤ (h.2.2.2.1 bt : Int)) (uq : gUq ty) (hysw : gSW ty bt sg h) (hyok : eeOk sg) (hyf80 : gRn 257 ty 80 w0 h) (hywb : ewB w0 1999) (hyw6 : 0 < w0 256) : gz gPP gGG gcn (d + 4) gt121 0 (gent [.ref x, .int (zi kd)] 4) [] h (fun q _ => ∃ ty9 : Nat → Nat, gSg [114] [] [56000, 56001, 76999, 77999, 78999, 79999, 80999, 81999, 85999, 92004, 92008, 114999] ty h ty9 q.2.2 ∧ ∃ bt2 : Nat, True ∧ ∃ c1 : Int, q.2.2.2.2.2.2 sk 0 = .ref bt2 ∧ ty9 bt2 = 114 ∧ gfin gt121 q.1 q.2.1 = some none ∧ q.2.2.2.2.2.2 sk 1 = .int (zi c1) ∧ 0 ≤ c1 ∧ c1 ≤ 500000 ∧ (c1 = (ekP 1 (ehN w0) sg).1) ∧ ((ekP 1 (ehN w0) sg).2.1 = sg.2.1) ∧ ((ekP 1 (ehN w0) sg).2.2.1 = sg.2.2.1) ∧ (c0 ≤ c1) ∧ (c1 ≤ c0 + 300) ∧ (1024 * ((q.2.2.1 : Int) - h.1) ≤ (q.2.2.2.2.2.1 bt2 : Int) - h.2.2.2.1 bt) ∧ (((q.2.2.2.1 : Int) - h.2.1) ≤ 2 * ((q.2.2.2.2.2.1 bt2 : Int) - h.2.2.2.1 bt)) ∧ ((h.2.2.2.1 bt : Int) ≤ (q.2.2.2.2.2.1 bt2 : Int)) ∧ (c1 ≤ (q.2.2.2.2.2.1 bt2 : Int)) ∧ (gSW ty9 bt2 (ekP 1 (ehN w0) sg) q.2.2) ∧ (eeOk (ekP 1 (ehN w0) sg)) ∧ (gTab (True) ty9 78 79 (ekc (ehN w0)) q.2.2)) := by
  have hS : gSs rT 1027 ty [56000, 56001, 76999, 77999, 78999, 79999, 80999, 81999, 85999, 92004, 92008, 114999] h h := gSs.rf hJ
  have G0 : gSg [114] [] [56000, 56001, 76999, 77999, 78999, 79999, 80999, 81999, 85999, 92004, 92008, 114999] ty h ty h := gSg.rf hJ (fun x hx => by cases hx)
  refine gz_s 1 (pc' := 1) (L' := [some (.ref x), some (.int (zi kd)), none, none]) (S' := [.ref x]) rfl ?_
  refine gs_gtr rfl (by decide) rfl hS.1 tx rfl rfl rfl (fun c1 ec1 tc1 => ?_)
  refine gz_s 1 (pc' := 5) (L' := [some (.ref x), some (.int (zi kd)), none, none]) (S' := [.int (zi kd), .ref c1]) rfl ?_
  have he4 : (kd : Int) = 1 := by omega
  refine gs_aal (j := 1) (q2 := 92) rfl (by decide) hS.1 tc1 rfl rfl rfl (by decide) he4 rfl (by decide) (fun c5 ec5 tc5 => ?_)
  refine gz_s 2 (pc' := 8) (L' := [some (.ref x), some (.int (zi kd)), some (.ref c5), none]) (S' := [.ref c5]) rfl ?_
  refine gz_call rfl (by decide) rfl (by decide) (by decide) (gcal_of rfl rfl rfl (Nat.le_of_ble_eq_true rfl) (gJ.recv (G := gGG) hS.1 tc5 rfl rfl)) (cw_Suited1_suit _ hS.1 c5 tc5 w0 uq hyf80 hywb hyw6) (fun q6 _ wq6 => ?_)
  obtain ⟨pq6, oq6, hq6⟩ := q6
  obtain ⟨xq6, fq6_0, gq6, efq6_0, afq6_0, bfq6_0, yq6_0, yq6_1⟩ := wq6
  refine ⟨_, gq6, ?_⟩
  show gz gPP gGG gcn _ _ 11 [some (.ref x), some (.int (zi kd)), some (.ref c5), none] [] hq6 _
  have sq6 : gSs rT 1027 ty [56000, 56001, 76999, 77999, 78999, 79999, 80999, 81999, 85999, 92004, 92008, 114999] h hq6 := gSs.tr hS xq6 (by decide)
  have s7 := (xq6.2.2.2.2.2 x 0 (by rw [tx]; decide)).trans esk
  have s8 := (xq6.2.2.2.2.2 sk 0 (by rw [tsk]; decide)).trans ebt
  have s9 := (xq6.2.2.2.2.2 sk 1 (by rw [tsk]; decide)).trans ec0
  have s10 := (xq6.2.2.2.2.2 x 4 (by rw [tx]; decide)).trans ec1
  have s11 := (xq6.2.2.2.2.2 c1 1 (by rw [tc1]; decide)).trans ec5
  have pr12 := gSW.fr xq6.2 (by decide) hysw
  obtain ⟨etd, fc9, fo9, fd9, y1, y2, y3, y4, y5, y6⟩ := yq6_1
  have l169 : ∀ j9 : Nat, j9 < 257 → 0 ≤ (ehN w0) j9 ∧ (ehN w0) j9 ≤ 16 := fun j9 hj9 => eh16 (fun x _ => hywb.1 x) (by have := hywb.2; omega) 257 j9 hj9
  have htn := ekT_n (ehN w0) 16 256
  refine gz_s 1 (pc' := 12) (L' := [some (.ref x), some (.int (zi kd)), some (.ref c5), none]) (S' := [.ref x]) rfl ?_
  refine gs_gtk rfl (by decide) rfl sq6.1 tx rfl rfl s7 ?_
  refine gz_s 1 (pc' := 18) (L' := [some (.ref x), some (.int (zi kd)), some (.ref c5), none]) (S' := [.int (zi 196), .ref sk]) rfl ?_
  have k13 := sq6.2.1
  have k13b := sq6.2.2.1
  have hl14 : hq6.2.2.2.1 bt = h.2.2.2.1 bt := congrFun sq6.2.2.2.2.1 bt
  have hl15 : hq6.2.2.2.1 bt = h.2.2.2.1 bt := congrFun sq6.2.2.2.2.1 bt
  refine gz_call rfl (by decide) rfl (by decide) (by decide) (gcal_of rfl rfl rfl (Nat.le_of_ble_eq_true rfl) (gJ.recv (G := gGG) sq6.1 tsk rfl rfl)) (cw_putMarker _ sq6.1 sk tsk 196 ⟨by omega, by omega⟩ bt s8 tbt c0 s9 ⟨by omega, by omega⟩ sg (by omega) (by omega) uq pr12 hyok) (fun q16 _ wq16 => ?_)
  obtain ⟨pq16, oq16, hq16⟩ := q16
  obtain ⟨tyq16, xq16, cq16_0, ttq16, fq16_0, ecq16_0, tcq16_0, gq16, efq16_0, afq16_0, bfq16_0, uq16_0, uq16_1, uq16_2, uq16_3, uq16_4, uq16_5, uq16_6, uq16_7, yq16_0, yq16_1⟩ := wq16
  dsimp only at uq16_4 uq16_5 uq16_6 uq16_7
  refine ⟨_, gq16, ?_⟩
  show gz gPP gGG gcn _ _ 21 [some (.ref x), some (.int (zi kd)), some (.ref c5), none] [] hq16 _
  have G17 : gSg [114] [] [56000, 56001, 76999, 77999, 78999, 79999, 80999, 81999, 85999, 92004, 92008, 114999] ty h tyq16 hq16 := gSg.tr (gSg.ss G0 sq6 (by decide)) xq16 (by decide) (by decide) (fun x hx => by cases hx)
  have t18 : tyq16 x = 71 := gSg.typ xq16 sq6.1 tx rfl
  have t19 : tyq16 sk = 56 := gSg.typ xq16 sq6.1 tsk rfl
  have t20 : tyq16 bt = 114 := gSg.typ xq16 sq6.1 tbt rfl
  have hl21 : hq16.2.2.2.1 bt = hq6.2.2.2.1 bt := gSg.len xq16 sq6.1 tbt rfl
  have t22 : tyq16 c1 = 75 := gSg.typ xq16 sq6.1 tc1 rfl
  have t23 : tyq16 c5 = 92 := gSg.typ xq16 sq6.1 tc5 rfl
  have s24 := gSg.at xq16 sq6.1 tx rfl (by decide) s7
  have s25 := gSg.at xq16 sq6.1 tx rfl (by decide) s10
  have s26 := gSg.at xq16 sq6.1 tc1 rfl (by decide) s11
  have s27 := gSg.at xq16 sq6.1 tc5 rfl (by decide) efq6_0
  have pr28 := gRn.gr xq16 sq6.1 rfl (by decide) (by decide) yq6_0
  have pr29 := gRn.gr xq16 sq6.1 rfl (by decide) (by decide) y1
  have pr30 := gRn.gr xq16 sq6.1 rfl (by decide) (by decide) y2
  have pr31 := gRn.gr xq16 sq6.1 rfl (by decide) (by decide) y3
  have uq32 := gSg.uq xq16 uq (by decide)
  have sS33 : gSs rT 1027 tyq16 [56000, 56001, 76999, 77999, 78999, 79999, 80999, 81999, 85999, 92004, 92008, 114999] hq16 hq16 := gSs.rf xq16.1
  refine gz_s 1 (pc' := 22) (L' := [some (.ref x), some (.int (zi kd)), some (.ref c5), none]) (S' := [.ref x]) rfl ?_
  refine gs_gtk rfl (by decide) rfl sS33.1 t18 rfl rfl s24 ?_
  refine gz_s 2 (pc' := 28) (L' := [some (.ref x), some (.int (zi kd)), some (.ref c5), none]) (S' := [.ref c5, .int (zi 19), .ref sk]) rfl ?_
  refine gs_gtk rfl (by decide) rfl sS33.1 t23 rfl rfl s27 ?_
  refine gy_s 1 (pc' := 32) (L' := [some (.ref x), some (.int (zi kd)), some (.ref c5), none]) (S' := [.int ((zi 19) + (zi fq6_0)), .ref sk]) (L2 := [some (.ref x), some (.int (zi kd)), some (.ref c5), none]) (S2 := [.int (zi (19 + fq6_0)), .ref sk]) rfl (by simp only [zi_add, zi_sub, zi_mul, zi_neg, zi_and1, zi_and7, zi_and15, zi_and31, zi_and255]) (by simp only [zi_add, zi_sub, zi_mul, zi_neg, zi_and1, zi_and7, zi_and15, zi_and31, zi_and255]) ?_
  have hl34 : hq16.2.2.2.1 cq16_0 = hq16.2.2.2.1 cq16_0 := congrFun sS33.2.2.2.2.1 cq16_0
  refine gz_call rfl (by decide) rfl (by decide) (by decide) (gcal_of rfl rfl rfl (Nat.le_of_ble_eq_true rfl) (gJ.recv (G := gGG) sS33.1 t19 rfl rfl)) (cw_putTwo _ sS33.1 sk t19 (19 + fq6_0) ⟨by omega, by omega⟩ cq16_0 ecq16_0 tcq16_0 fq16_0 efq16_0 ⟨by omega, by omega⟩ (eeM sg 196) (by omega) (by omega) uq32 yq16_0 yq16_1) (fun q35 _ wq35 => ?_)
  obtain ⟨pq35, oq35, hq35⟩ := q35
  obtain ⟨tyq35, xq35, cq35_0, ttq35, fq35_0, ecq35_0, tcq35_0, gq35, efq35_0, afq35_0, bfq35_0, uq35_0, uq35_1, uq35_2, uq35_3, uq35_4, uq35_5, uq35_6, uq35_7, yq35_0, yq35_1⟩ := wq35
  dsimp only at uq35_4 uq35_5 uq35_6 uq35_7
  refine ⟨_, gq35, ?_⟩
  show gz gPP gGG gcn _ _ 35 [some (.ref x), some (.int (zi kd)), some (.ref c5), none] [] hq35 _
  have G36 : gSg [114] [] [56000, 56001, 76999, 77999, 78999, 79999, 80999, 81999, 85999, 92004, 92008, 114999] ty h tyq35 hq35 := gSg.tr (gSg.ss G17 sS33 (by decide)) xq35 (by decide) (by decide) (fun x hx => by cases hx)
  have t37 : tyq35 x = 71 := gSg.typ xq35 sS33.1 t18 rfl
  have t38 : tyq35 sk = 56 := gSg.typ xq35 sS33.1 t19 rfl
  have t39 : tyq35 bt = 114 := gSg.typ xq35 sS33.1 t20 rfl
  have hl40 : hq35.2.2.2.1 bt = hq16.2.2.2.1 bt := gSg.len xq35 sS33.1 t20 rfl
  have t41 : tyq35 c1 = 75 := gSg.typ xq35 sS33.1 t22 rfl
  have t42 : tyq35 c5 = 92 := gSg.typ xq35 sS33.1 t23 rfl
  have t43 : tyq35 cq16_0 = 114 := gSg.typ xq35 sS33.1 tcq16_0 rfl
  have hl44 : hq35.2.2.2.1 cq16_0 = hq16.2.2.2.1 cq16_0 := gSg.len xq35 sS33.1 tcq16_0 rfl
  have s45 := gSg.at xq35 sS33.1 t18 rfl (by decide) s24
  have s46 := gSg.at xq35 sS33.1 t18 rfl (by decide) s25
  have s47 := gSg.at xq35 sS33.1 t22 rfl (by decide) s26
  have s48 := gSg.at xq35 sS33.1 t23 rfl (by decide) s27
  have pr49 := gRn.gr xq35 sS33.1 rfl (by decide) (by decide) pr28
  have pr50 := gRn.gr xq35 sS33.1 rfl (by decide) (by decide) pr29
  have pr51 := gRn.gr xq35 sS33.1 rfl (by decide) (by decide) pr30
  have pr52 := gRn.gr xq35 sS33.1 rfl (by decide) (by decide) pr31
  have uq53 := gSg.uq xq35 uq32 (by decide)
  have sS54 : gSs rT 1027 tyq35 [56000, 56001, 76999, 77999, 78999, 79999, 80999, 81999, 85999, 92004, 92008, 114999] hq35 hq35 := gSs.rf xq35.1
  refine gz_s 1 (pc' := 36) (L' := [some (.ref x), some (.int (zi kd)), some (.ref c5), none]) (S' := [.ref x]) rfl ?_
  refine gs_gtk rfl (by decide) rfl sS54.1 t37 rfl rfl s45 ?_
  refine gy_s 3 (pc' := 43) (L' := [some (.ref x), some (.int (zi kd)), some (.ref c5), none]) (S' := [.int ((zi 16) * (zi kd)), .ref sk]) (L2 := [some (.ref x), some (.int (zi kd)), some (.ref c5), none]) (S2 := [.int (zi (16 * kd)), .ref sk]) rfl (by simp only [zi_add, zi_sub, zi_mul, zi_neg, zi_and1, zi_and7, zi_and15, zi_and31, zi_and255]) (by simp only [zi_add, zi_sub, zi_mul, zi_neg, zi_and1, zi_and7, zi_and15, zi_and31, zi_and255]) ?_
  have hl55 : hq35.2.2.2.1 cq35_0 = hq35.2.2.2.1 cq35_0 := congrFun sS54.2.2.2.2.1 cq35_0
  refine gz_call rfl (by decide) rfl (by decide) (by decide) (gcal_of rfl rfl rfl (Nat.le_of_ble_eq_true rfl) (gJ.recv (G := gGG) sS54.1 t38 rfl rfl)) (cw_putByte _ sS54.1 sk t38 (16 * kd) ⟨by omega, by omega⟩ cq35_0 ecq35_0 tcq35_0 fq35_0 efq35_0 ⟨by omega, by omega⟩ (eeT (eeM sg 196) (19 + fq6_0)) (by omega) (by omega) uq53 yq35_0 yq35_1) (fun q56 _ wq56 => ?_)
  obtain ⟨pq56, oq56, hq56⟩ := q56
  obtain ⟨tyq56, xq56, cq56_0, ttq56, fq56_0, ecq56_0, tcq56_0, gq56, efq56_0, afq56_0, bfq56_0, uq56_0, uq56_1, uq56_2, uq56_3, uq56_4, uq56_5, uq56_6, uq56_7, yq56_0, yq56_1⟩ := wq56
  dsimp only at uq56_4 uq56_5 uq56_6 uq56_7
  refine ⟨_, gq56, ?_⟩
  show gz gPP gGG gcn _ _ 46 [some (.ref x), some (.int (zi kd)), some (.ref c5), none] [] hq56 _
  have G57 : gSg [114] [] [56000, 56001, 76999, 77999, 78999, 79999, 80999, 81999, 85999, 92004, 92008, 114999] ty h tyq56 hq56 := gSg.tr (gSg.ss G36 sS54 (by decide)) xq56 (by decide) (by decide) (fun x hx => by cases hx)
  have t58 : tyq56 x = 71 := gSg.typ xq56 sS54.1 t37 rfl
  have t59 : tyq56 sk = 56 := gSg.typ xq56 sS54.1 t38 rfl
  have t60 : tyq56 bt = 114 := gSg.typ xq56 sS54.1 t39 rfl
  have hl61 : hq56.2.2.2.1 bt = hq35.2.2.2.1 bt := gSg.len xq56 sS54.1 t39 rfl
  have t62 : tyq56 c1 = 75 := gSg.typ xq56 sS54.1 t41 rfl
  have t63 : tyq56 c5 = 92 := gSg.typ xq56 sS54.1 t42 rfl
  have t64 : tyq56 cq16_0 = 114 := gSg.typ xq56 sS54.1 t43 rfl
  have hl65 : hq56.2.2.2.1 cq16_0 = hq35.2.2.2.1 cq16_0 := gSg.len xq56 sS54.1 t43 rfl
  have t66 : tyq56 cq35_0 = 114 := gSg.typ xq56 sS54.1 tcq35_0 rfl
  have hl67 : hq56.2.2.2.1 cq35_0 = hq35.2.2.2.1 cq35_0 := gSg.len xq56 sS54.1 tcq35_0 rfl
  have s68 := gSg.at xq56 sS54.1 t37 rfl (by decide) s45
  have s69 := gSg.at xq56 sS54.1 t37 rfl (by decide) s46
  have s70 := gSg.at xq56 sS54.1 t41 rfl (by decide) s47
  have s71 := gSg.at xq56 sS54.1 t42 rfl (by decide) s48
  have pr72 := gRn.gr xq56 sS54.1 rfl (by decide) (by decide) pr49
  have pr73 := gRn.gr xq56 sS54.1 rfl (by decide) (by decide) pr50
  have pr74 := gRn.gr xq56 sS54.1 rfl (by decide) (by decide) pr51
  have pr75 := gRn.gr xq56 sS54.1 rfl (by decide) (by decide) pr52
  have uq76 := gSg.uq xq56 uq53 (by decide)
  have sS77 : gSs rT 1027 tyq56 [56000, 56001, 76999, 77999, 78999, 79999, 80999, 81999, 85999, 92004, 92008, 114999] hq56 hq56 := gSs.rf xq56.1
  have hk78 : eeB (eeT (eeM sg 196) (19 + ekT (ehN w0) 256 16)) (16 * 1) = eeB (eeT (eeM sg 196) (19 + fq6_0)) (16 * kd) := by rw [etd, show kd = 1 by omega]
  have hk78_1 : (eeB (eeT (eeM sg 196) (19 + ekT (ehN w0) 256 16)) (16 * 1)).1 = (eeB (eeT (eeM sg 196) (19 + fq6_0)) (16 * kd)).1 := by rw [hk78]
  have hk78_21 : (eeB (eeT (eeM sg 196) (19 + ekT (ehN w0) 256 16)) (16 * 1)).2.1 = (eeB (eeT (eeM sg 196) (19 + fq6_0)) (16 * kd)).2.1 := by rw [hk78]
  have hk78_221 : (eeB (eeT (eeM sg 196) (19 + ekT (ehN w0) 256 16)) (16 * 1)).2.2.1 = (eeB (eeT (eeM sg 196) (19 + fq6_0)) (16 * kd)).2.2.1 := by rw [hk78]
  have hsw79 : gSW tyq56 cq56_0 (eeB (eeT (eeM sg 196) (19 + ekT (ehN w0) 256 16)) (16 * 1)) hq56 := by rw [hk78]; exact yq56_0
  have hok80 : eeOk (eeB (eeT (eeM sg 196) (19 + ekT (ehN w0) 256 16)) (16 * 1)) := by rw [hk78]; exact yq56_1
  have hoc81 := hok80.cur
  refine gz_s 2 (pc' := 48) (L' := [some (.ref x), some (.int (zi kd)), some (.ref c5), some (.int (zi 1))]) (S' := []) rfl ?_
  have hk83 : ekA (ehN w0) (eeB (eeT (eeM sg 196) (19 + ekT (ehN w0) 256 16)) (16 * 1)) (1 - 1 : Int).toNat = eeB (eeT (eeM sg 196) (19 + ekT (ehN w0) 256 16)) (16 * 1) := rfl
  have hk83_1 : (ekA (ehN w0) (eeB (eeT (eeM sg 196) (19 + ekT (ehN w0) 256 16)) (16 * 1)) (1 - 1 : Int).toNat).1 = (eeB (eeT (eeM sg 196) (19 + ekT (ehN w0) 256 16)) (16 * 1)).1 := by rw [hk83]
  have hk83_21 : (ekA (ehN w0) (eeB (eeT (eeM sg 196) (19 + ekT (ehN w0) 256 16)) (16 * 1)) (1 - 1 : Int).toNat).2.1 = (eeB (eeT (eeM sg 196) (19 + ekT (ehN w0) 256 16)) (16 * 1)).2.1 := by rw [hk83]
  have hk83_221 : (ekA (ehN w0) (eeB (eeT (eeM sg 196) (19 + ekT (ehN w0) 256 16)) (16 * 1)) (1 - 1 : Int).toNat).2.2.1 = (eeB (eeT (eeM sg 196) (19 + ekT (ehN w0) 256 16)) (16 * 1)).2.2.1 := by rw [hk83]
  have hsw84 : gSW tyq56 cq56_0 (ekA (ehN w0) (eeB (eeT (eeM sg 196) (19 + ekT (ehN w0) 256 16)) (16 * 1)) (1 - 1 : Int).toNat) hq56 := by rw [hk83]; exact hsw79
  have hok85 : eeOk (ekA (ehN w0) (eeB (eeT (eeM sg 196) (19 + ekT (ehN w0) 256 16)) (16 * 1)) (1 - 1 : Int).toNat) := by rw [hk83]; exact hok80
  have hoc86 := hok85.cur
  have lp82 : ∀ (fu : Nat) (ty88 : Nat → Nat) (h87 : gH) (bv : Nat) (i : Int) (cv : Int), (18 - i).toNat < fu → gSg [114] [] [56000, 56001, 76999, 77999, 78999, 79999, 80999, 81999, 85999, 92004, 92008, 114999] ty h ty88 h87 → gUq ty88 → ty88 x = 71 → ty88 c5 = 92 → ty88 sk = 56 → ty88 c1 = 75 → h87.2.2.2.2 sk 0 = .ref bv → ty88 bv = 114 → (1 ≤ i ∧ i ≤ 17) → (0 ≤ cv ∧ cv ≤ 499999) → (cv = c0 + 4 + i) → (cv = (ekA (ehN w0) (eeB (eeT (eeM sg 196) (19 + ekT (ehN w0) 256 16)) (16 * 1)) (i - 1).toNat).1) → ((ekA (ehN w0) (eeB (eeT (eeM sg 196) (19 + ekT (ehN w0) 256 16)) (16 * 1)) (i - 1).toNat).2.1 = sg.2.1) → ((ekA (ehN w0) (eeB (eeT (eeM sg 196) (19 + ekT (ehN w0) 256 16)) (16 * 1)) (i - 1).toNat).2.2.1 = sg.2.2.1) → (1024 * ((h87.1 : Int) - h.1) ≤ (h87.2.2.2.1 bv : Int) - h.2.2.2.1 bt) → (((h87.2.1 : Int) - h.2.1) ≤ 2 * ((h87.2.2.2.1 bv : Int) - h.2.2.2.1 bt)) → ((h.2.2.2.1 bt : Int) ≤ (h87.2.2.2.1 bv : Int)) → (cv ≤ (h87.2.2.2.1 bv : Int)) → h87.2.2.2.2 x 0 = .ref sk → h87.2.2.2.2 x 4 = .ref c1 → h87.2.2.2.2 c1 1 = .ref c5 → h87.2.2.2.2 c5 4 = .int (zi fq6_0) → h87.2.2.2.2 sk 1 = .int (zi cv) → ewB w0 1999 → 0 < w0 256 → gRn 257 ty88 79 (ehN w0) h87 → gRn 17 ty88 76 fc9 h87 → gRn 256 ty88 77 fo9 h87 → gRn 257 ty88 78 fd9 h87 → gSW ty88 bv (ekA (ehN w0) (eeB (eeT (eeM sg 196) (19 + ekT (ehN w0) 256 16)) (16 * 1)) (i - 1).toNat) h87 → eeOk (ekA (ehN w0) (eeB (eeT (eeM sg 196) (19 + ekT (ehN w0) 256 16)) (16 * 1)) (i - 1).toNat) → gz gPP gGG gcn (d + 4) gt121 48 [some (.ref x), some (.int (zi kd)), some (.ref c5), some (.int (zi i))] [] h87 (fun q _ => ∃ ty9 : Nat → Nat, gSg [114] [] [56000, 56001, 76999, 77999, 78999, 79999, 80999, 81999, 85999, 92004, 92008, 114999] ty h ty9 q.2.2 ∧ ∃ bt2 : Nat, True ∧ ∃ c1 : Int, q.2.2.2.2.2.2 sk 0 = .ref bt2 ∧ ty9 bt2 = 114 ∧ gfin gt121 q.1 q.2.1 = some none ∧ q.2.2.2.2.2.2 sk 1 = .int (zi c1) ∧ 0 ≤ c1 ∧ c1 ≤ 500000 ∧ (c1 = (ekP 1 (ehN w0) sg).1) ∧ ((ekP 1 (ehN w0) sg).2.1 = sg.2.1) ∧ ((ekP 1 (ehN w0) sg).2.2.1 = sg.2.2.1) ∧ (c0 ≤ c1) ∧ (c1 ≤ c0 + 300) ∧ (1024 * ((q.2.2.1 : Int) - h.1) ≤ (q.2.2.2.2.2.1 bt2 : Int) - h.2.2.2.1 bt) ∧ (((q.2.2.2.1 : Int) - h.2.1) ≤ 2 * ((q.2.2.2.2.2.1 bt2 : Int) - h.2.2.2.1 bt)) ∧ ((h.2.2.2.1 bt : Int) ≤ (q.2.2.2.2.2.1 bt2 : Int)) ∧ (c1 ≤ (q.2.2.2.2.2.1 bt2 : Int)) ∧ (gSW ty9 bt2 (ekP 1 (ehN w0) sg) q.2.2) ∧ (eeOk (ekP 1 (ehN w0) sg)) ∧ (gTab (True) ty9 78 79 (ekc (ehN w0)) q.2.2)) := by
    intro fu
    induction fu with
    | zero => intro ty88 h87 bv i cv hm; exact absurd hm (Nat.not_lt_zero _)
    | succ fu ihlp82 =>
      intro ty88 h87 bv i cv lp82m lp82G lp82u lp82c0 lp82c1 lp82c2 lp82c3 lp82r0 lp82r1 lp82f0 lp82f1 lp82f2 lp82f3 lp82f4 lp82f5 lp82f6 lp82f7 lp82f8 lp82f9 lp82k0 lp82k1 lp82k2 lp82k3 lp82k4 lp82k5 lp82k6 lp82k7 lp82k8 lp82k9 lp82k10 lp82k11 lp82k12
      have sh87 : gSs rT 1027 ty88 [56000, 56001, 76999, 77999, 78999, 79999, 80999, 81999, 85999, 92004, 92008, 114999] h87 h87 := gSs.rf lp82G.1
      refine gz_s 2 (pc' := 51) (L' := [some (.ref x), some (.int (zi kd)), some (.ref c5), some (.int (zi i))]) (S' := [.int (zi 16), .int (zi i)]) rfl ?_
      by_cases hc89 : (16 : Int) < i
      · refine gy_icT (pc' := 73) rfl (by decide) (by decide) (by omega) (by omega) hc89 ?_
        have hk90 : ekA (ehN w0) (eeB (eeT (eeM sg 196) (19 + ekT (ehN w0) 256 16)) (16 * 1)) 16 = ekA (ehN w0) (eeB (eeT (eeM sg 196) (19 + ekT (ehN w0) 256 16)) (16 * 1)) (i - 1).toNat := by rw [(by omega : (i - 1).toNat = 16)]
        have hk90_1 : (ekA (ehN w0) (eeB (eeT (eeM sg 196) (19 + ekT (ehN w0) 256 16)) (16 * 1)) 16).1 = (ekA (ehN w0) (eeB (eeT (eeM sg 196) (19 + ekT (ehN w0) 256 16)) (16 * 1)) (i - 1).toNat).1 := by rw [hk90]
        have hk90_21 : (ekA (ehN w0) (eeB (eeT (eeM sg 196) (19 + ekT (ehN w0) 256 16)) (16 * 1)) 16).2.1 = (ekA (ehN w0) (eeB (eeT (eeM sg 196) (19 + ekT (ehN w0) 256 16)) (16 * 1)) (i - 1).toNat).2.1 := by rw [hk90]
        have hk90_221 : (ekA (ehN w0) (eeB (eeT (eeM sg 196) (19 + ekT (ehN w0) 256 16)) (16 * 1)) 16).2.2.1 = (ekA (ehN w0) (eeB (eeT (eeM sg 196) (19 + ekT (ehN w0) 256 16)) (16 * 1)) (i - 1).toNat).2.2.1 := by rw [hk90]
        have hsw91 : gSW ty88 bv (ekA (ehN w0) (eeB (eeT (eeM sg 196) (19 + ekT (ehN w0) 256 16)) (16 * 1)) 16) h87 := by rw [hk90]; exact lp82k11
        have hok92 : eeOk (ekA (ehN w0) (eeB (eeT (eeM sg 196) (19 + ekT (ehN w0) 256 16)) (16 * 1)) 16) := by rw [hk90]; exact lp82k12
        have hoc93 := hok92.cur
        have hkA := ekA_k (ehN w0) (eeB (eeT (eeM sg 196) (19 + ekT (ehN w0) 256 16)) (16 * 1)) 16
        refine gz_s 2 (pc' := 75) (L' := [some (.ref x), some (.int (zi kd)), some (.ref c5), some (.int (zi 0))]) (S' := []) rfl ?_
        have hk95 : ekW fo9 (ekA (ehN w0) (eeB (eeT (eeM sg 196) (19 + ekT (ehN w0) 256 16)) (16 * 1)) 16) (0 : Int).toNat = ekA (ehN w0) (eeB (eeT (eeM sg 196) (19 + ekT (ehN w0) 256 16)) (16 * 1)) 16 := rfl
        have hk95_1 : (ekW fo9 (ekA (ehN w0) (eeB (eeT (eeM sg 196) (19 + ekT (ehN w0) 256 16)) (16 * 1)) 16) (0 : Int).toNat).1 = (ekA (ehN w0) (eeB (eeT (eeM sg 196) (19 + ekT (ehN w0) 256 16)) (16 * 1)) 16).1 := by rw [hk95]
        have hk95_21 : (ekW fo9 (ekA (ehN w0) (eeB (eeT (eeM sg 196) (19 + ekT (ehN w0) 256 16)) (16 * 1)) 16) (0 : Int).toNat).2.1 = (ekA (ehN w0) (eeB (eeT (eeM sg 196) (19 + ekT (ehN w0) 256 16)) (16 * 1)) 16).2.1 := by rw [hk95]
        have hk95_221 : (ekW fo9 (ekA (ehN w0) (eeB (eeT (eeM sg 196) (19 + ekT (ehN w0) 256 16)) (16 * 1)) 16) (0 : Int).toNat).2.2.1 = (ekA (ehN w0) (eeB (eeT (eeM sg 196) (19 + ekT (ehN w0) 256 16)) (16 * 1)) 16).2.2.1 := by rw [hk95]
        have hsw96 : gSW ty88 bv (ekW fo9 (ekA (ehN w0) (eeB (eeT (eeM sg 196) (19 + ekT (ehN w0) 256 16)) (16 * 1)) 16) (0 : Int).toNat) h87 := by rw [hk95]; exact hsw91
        have hok97 : eeOk (ekW fo9 (ekA (ehN w0) (eeB (eeT (eeM sg 196) (19 + ekT (ehN w0) 256 16)) (16 * 1)) 16) (0 : Int).toNat) := by rw [hk95]; exact hok92
        have hoc98 := hok97.cur
        have lp94 : ∀ (fu : Nat) (ty100 : Nat → Nat) (h99 : gH) (bv2 : Nat) (k : Int) (cv2 : Int), (257 - k).toNat < fu → gSg [114] [] [56000, 56001, 76999, 77999, 78999, 79999, 80999, 81999, 85999, 92004, 92008, 114999] ty h ty100 h99 → gUq ty100 → ty100 x = 71 → ty100 c5 = 92 → ty100 sk = 56 → ty100 c1 = 75 → h99.2.2.2.2 sk 0 = .ref bv2 → ty100 bv2 = 114 → (0 ≤ k ∧ k ≤ 256) → (0 ≤ cv2 ∧ cv2 ≤ 499999) → (cv2 = c0 + 21 + k) → (cv2 = (ekW fo9 (ekA (ehN w0) (eeB (eeT (eeM sg 196) (19 + ekT (ehN w0) 256 16)) (16 * 1)) 16) (k).toNat).1) → ((ekW fo9 (ekA (ehN w0) (eeB (eeT (eeM sg 196) (19 + ekT (ehN w0) 256 16)) (16 * 1)) 16) (k).toNat).2.1 = sg.2.1) → ((ekW fo9 (ekA (ehN w0) (eeB (eeT (eeM sg 196) (19 + ekT (ehN w0) 256 16)) (16 * 1)) 16) (k).toNat).2.2.1 = sg.2.2.1) → (k ≤ ekT (ehN w0) 256 16) → (1024 * ((h99.1 : Int) - h.1) ≤ (h99.2.2.2.1 bv2 : Int) - h.2.2.2.1 bt) → (((h99.2.1 : Int) - h.2.1) ≤ 2 * ((h99.2.2.2.1 bv2 : Int) - h.2.2.2.1 bt)) → ((h.2.2.2.1 bt : Int) ≤ (h99.2.2.2.1 bv2 : Int)) → (cv2 ≤ (h99.2.2.2.1 bv2 : Int)) → h99.2.2.2.2 x 0 = .ref sk → h99.2.2.2.2 x 4 = .ref c1 → h99.2.2.2.2 c1 1 = .ref c5 → h99.2.2.2.2 c5 4 = .int (zi fq6_0) → h99.2.2.2.2 sk 1 = .int (zi cv2) → ewB w0 1999 → 0 < w0 256 → gRn 257 ty100 79 (ehN w0) h99 → gRn 17 ty100 76 fc9 h99 → gRn 256 ty100 77 fo9 h99 → gRn 257 ty100 78 fd9 h99 → gSW ty100 bv2 (ekW fo9 (ekA (ehN w0) (eeB (eeT (eeM sg 196) (19 + ekT (ehN w0) 256 16)) (16 * 1)) 16) (k).toNat) h99 → eeOk (ekW fo9 (ekA (ehN w0) (eeB (eeT (eeM sg 196) (19 + ekT (ehN w0) 256 16)) (16 * 1)) 16) (k).toNat) → gz gPP gGG gcn (d + 4) gt121 75 [some (.ref x), some (.int (zi kd)), some (.ref c5), some (.int (zi k))] [] h99 (fun q _ => ∃ ty9 : Nat → Nat, gSg [114] [] [56000, 56001, 76999, 77999, 78999, 79999, 80999, 81999, 85999, 92004, 92008, 114999] ty h ty9 q.2.2 ∧ ∃ bt2 : Nat, True ∧ ∃ c1 : Int, q.2.2.2.2.2.2 sk 0 = .ref bt2 ∧ ty9 bt2 = 114 ∧ gfin gt121 q.1 q.2.1 = some none ∧ q.2.2.2.2.2.2 sk 1 = .int (zi c1) ∧ 0 ≤ c1 ∧ c1 ≤ 500000 ∧ (c1 = (ekP 1 (ehN w0) sg).1) ∧ ((ekP 1 (ehN w0) sg).2.1 = sg.2.1) ∧ ((ekP 1 (ehN w0) sg).2.2.1 = sg.2.2.1) ∧ (c0 ≤ c1) ∧ (c1 ≤ c0 + 300) ∧ (1024 * ((q.2.2.1 : Int) - h.1) ≤ (q.2.2.2.2.2.1 bt2 : Int) - h.2.2.2.1 bt) ∧ (((q.2.2.2.1 : Int) - h.2.1) ≤ 2 * ((q.2.2.2.2.2.1 bt2 : Int) - h.2.2.2.1 bt)) ∧ ((h.2.2.2.1 bt : Int) ≤ (q.2.2.2.2.2.1 bt2 : Int)) ∧ (c1 ≤ (q.2.2.2.2.2.1 bt2 : Int)) ∧ (gSW ty9 bt2 (ekP 1 (ehN w0) sg) q.2.2) ∧ (eeOk (ekP 1 (ehN w0) sg)) ∧ (gTab (True) ty9 78 79 (ekc (ehN w0)) q.2.2)) := by
          intro fu
          induction fu with
          | zero => intro ty100 h99 bv2 k cv2 hm; exact absurd hm (Nat.not_lt_zero _)
          | succ fu ihlp94 =>
            intro ty100 h99 bv2 k cv2 lp94m lp94G lp94u lp94c0 lp94c1 lp94c2 lp94c3 lp94r0 lp94r1 lp94f0 lp94f1 lp94f2 lp94f3 lp94f4 lp94f5 lp94f6 lp94f7 lp94f8 lp94f9 lp94f10 lp94k0 lp94k1 lp94k2 lp94k3 lp94k4 lp94k5 lp94k6 lp94k7 lp94k8 lp94k9 lp94k10 lp94k11 lp94k12
            have sh99 : gSs rT 1027 ty100 [56000, 56001, 76999, 77999, 78999, 79999, 80999, 81999, 85999, 92004, 92008, 114999] h99 h99 := gSs.rf lp94G.1
            refine gz_s 2 (pc' := 77) (L' := [some (.ref x), some (.int (zi kd)), some (.ref c5), some (.int (zi k))]) (S' := [.ref c5, .int (zi k)]) rfl ?_
            refine gs_gtk rfl (by decide) rfl sh99.1 lp94c1 rfl rfl lp94k3 ?_
            by_cases hc101 : (fq6_0 : Int) ≤ k
            · refine gy_icT (pc' := 102) rfl (by decide) (by decide) (by omega) (by omega) hc101 ?_
              have hkW := ekW_k fo9 (ekA (ehN w0) (eeB (eeT (eeM sg 196) (19 + ekT (ehN w0) 256 16)) (16 * 1)) 16) (k).toNat
              have hk102 : ekP 1 (ehN w0) sg = ekW fo9 (ekA (ehN w0) (eeB (eeT (eeM sg 196) (19 + ekT (ehN w0) 256 16)) (16 * 1)) 16) (k).toNat := by rw [show (k).toNat = (fq6_0).toNat by omega]; exact (y5 (ekA (ehN w0) (eeB (eeT (eeM sg 196) (19 + ekT (ehN w0) 256 16)) (16 * 1)) 16)).symm
              have hk102_1 : (ekP 1 (ehN w0) sg).1 = (ekW fo9 (ekA (ehN w0) (eeB (eeT (eeM sg 196) (19 + ekT (ehN w0) 256 16)) (16 * 1)) 16) (k).toNat).1 := by rw [hk102]
              have hk102_21 : (ekP 1 (ehN w0) sg).2.1 = (ekW fo9 (ekA (ehN w0) (eeB (eeT (eeM sg 196) (19 + ekT (ehN w0) 256 16)) (16 * 1)) 16) (k).toNat).2.1 := by rw [hk102]
              have hk102_221 : (ekP 1 (ehN w0) sg).2.2.1 = (ekW fo9 (ekA (ehN w0) (eeB (eeT (eeM sg 196) (19 + ekT (ehN w0) 256 16)) (16 * 1)) 16) (k).toNat).2.2.1 := by rw [hk102]
              have hsw103 : gSW ty100 bv2 (ekP 1 (ehN w0) sg) h99 := by rw [hk102]; exact lp94k11
              have hok104 : eeOk (ekP 1 (ehN w0) sg) := by rw [hk102]; exact lp94k12
              have hoc105 := hok104.cur
              have hl106 : 1024 ≤ h99.2.2.2.1 bv2 ∧ h99.2.2.2.1 bv2 ≤ 1000000 := gJ.rowl (G := gGG) sh99.1 lp94r1 rfl
              have htb107 : gTab True ty100 78 79 (ekc (ehN w0)) h99 := fun _ => ⟨gOd_tb l169, fun c hc s hs => lp94k7.2 c hc s (by omega), fun c hc s hs h0 => (lp94k10.2 c hc s (by omega)).trans (y6 s hs h0)⟩
              have G108 : gSg [114] [] [56000, 56001, 76999, 77999, 78999, 79999, 80999, 81999, 85999, 92004, 92008, 114999] ty h ty100 h99 := gSg.ss lp94G sh99 (by decide)
              exact gz_end (I := .return_) (len := 1) rfl (Or.inl rfl) ⟨ty100, G108, bv2, trivial, cv2, lp94r0, lp94r1, rfl, lp94k4, (by omega), (by omega), (by omega), (by omega), (by omega), (by omega), (by omega), (by dsimp only; omega), (by dsimp only; omega), (by dsimp only; omega), (by dsimp only; omega), hsw103, hok104, htb107⟩
            · refine gy_icF rfl (by decide) (by decide) (by omega) (by omega) hc101 ?_
              refine gz_s 1 (pc' := 84) (L' := [some (.ref x), some (.int (zi kd)), some (.ref c5), some (.int (zi k))]) (S' := [.ref x]) rfl ?_
              refine gs_gtk rfl (by decide) rfl sh99.1 lp94c0 rfl rfl lp94k0 ?_
              refine gz_s 1 (pc' := 88) (L' := [some (.ref x), some (.int (zi kd)), some (.ref c5), some (.int (zi k))]) (S' := [.ref c5, .ref sk]) rfl ?_
              refine gs_gtr rfl (by decide) rfl sh99.1 lp94c1 rfl rfl rfl (fun c109 ec109 tc109 => ?_)
              refine gz_s 1 (pc' := 92) (L' := [some (.ref x), some (.int (zi kd)), some (.ref c5), some (.int (zi k))]) (S' := [.int (zi k), .ref c109, .ref sk]) rfl ?_
              have hl110 : 256 ≤ h99.2.2.2.1 c109 ∧ h99.2.2.2.1 c109 ≤ 256 := gJ.rowl (G := gGG) sh99.1 tc109 rfl
              refine gs_ald rfl (by decide) sh99.1 tc109 rfl rfl rfl (by decide) (fun _ => rfl) (by omega) (by omega) (fun z111 ez111 az111 bz111 => ?_)
              have hf112 := gRn.at (i := k) (z := z111) lp94k9 tc109 ez111 (by omega) (by omega) (by omega)
              have hl113 : h99.2.2.2.1 bv2 = h99.2.2.2.1 bv2 := congrFun sh99.2.2.2.2.1 bv2
              refine gz_call rfl (by decide) rfl (by decide) (by decide) (gcal_of rfl rfl rfl (Nat.le_of_ble_eq_true rfl) (gJ.recv (G := gGG) sh99.1 lp94c2 rfl rfl)) (cw_putByte _ sh99.1 sk lp94c2 z111 ⟨by omega, by omega⟩ bv2 lp94r0 lp94r1 cv2 lp94k4 ⟨by omega, by omega⟩ (ekW fo9 (ekA (ehN w0) (eeB (eeT (eeM sg 196) (19 + ekT (ehN w0) 256 16)) (16 * 1)) 16) (k).toNat) (by omega) (by omega) lp94u lp94k11 lp94k12) (fun q114 _ wq114 => ?_)
              obtain ⟨pq114, oq114, hq114⟩ := q114
              obtain ⟨tyq114, xq114, cq114_0, ttq114, fq114_0, ecq114_0, tcq114_0, gq114, efq114_0, afq114_0, bfq114_0, uq114_0, uq114_1, uq114_2, uq114_3, uq114_4, uq114_5, uq114_6, uq114_7, yq114_0, yq114_1⟩ := wq114
              dsimp only at uq114_4 uq114_5 uq114_6 uq114_7
              refine ⟨_, gq114, ?_⟩
              show gz gPP gGG gcn _ _ 96 [some (.ref x), some (.int (zi kd)), some (.ref c5), some (.int (zi k))] [] hq114 _
              have G115 : gSg [114] [] [56000, 56001, 76999, 77999, 78999, 79999, 80999, 81999, 85999, 92004, 92008, 114999] ty h tyq114 hq114 := gSg.tr (gSg.ss lp94G sh99 (by decide)) xq114 (by decide) (by decide) (fun x hx => by cases hx)
              have t116 : tyq114 x = 71 := gSg.typ xq114 sh99.1 lp94c0 rfl
              have t117 : tyq114 c5 = 92 := gSg.typ xq114 sh99.1 lp94c1 rfl
              have t118 : tyq114 sk = 56 := gSg.typ xq114 sh99.1 lp94c2 rfl
              have t119 : tyq114 c1 = 75 := gSg.typ xq114 sh99.1 lp94c3 rfl
              have t120 : tyq114 bv2 = 114 := gSg.typ xq114 sh99.1 lp94r1 rfl
              have hl121 : hq114.2.2.2.1 bv2 = h99.2.2.2.1 bv2 := gSg.len xq114 sh99.1 lp94r1 rfl
              have t122 : tyq114 c109 = 77 := gSg.typ xq114 sh99.1 tc109 rfl
              have s123 := gSg.at xq114 sh99.1 lp94c0 rfl (by decide) lp94k0
              have s124 := gSg.at xq114 sh99.1 lp94c0 rfl (by decide) lp94k1
              have s125 := gSg.at xq114 sh99.1 lp94c3 rfl (by decide) lp94k2
              have s126 := gSg.at xq114 sh99.1 lp94c1 rfl (by decide) lp94k3
              have s127 := gSg.at xq114 sh99.1 lp94c1 rfl (by decide) ec109
              have pr128 := gRn.gr xq114 sh99.1 rfl (by decide) (by decide) lp94k7
              have pr129 := gRn.gr xq114 sh99.1 rfl (by decide) (by decide) lp94k8
              have pr130 := gRn.gr xq114 sh99.1 rfl (by decide) (by decide) lp94k9
              have pr131 := gRn.gr xq114 sh99.1 rfl (by decide) (by decide) lp94k10
              have uq132 := gSg.uq xq114 lp94u (by decide)
              have sS133 : gSs rT 1027 tyq114 [56000, 56001, 76999, 77999, 78999, 79999, 80999, 81999, 85999, 92004, 92008, 114999] hq114 hq114 := gSs.rf xq114.1
              have hk134 : ekW fo9 (ekA (ehN w0) (eeB (eeT (eeM sg 196) (19 + ekT (ehN w0) 256 16)) (16 * 1)) 16) (k + 1).toNat = eeB (ekW fo9 (ekA (ehN w0) (eeB (eeT (eeM sg 196) (19 + ekT (ehN w0) 256 16)) (16 * 1)) 16) (k).toNat) z111 := by rw [(by omega : (k + 1).toNat = (k).toNat + 1)]; show eeB _ (fo9 (k).toNat) = _; rw [hf112]
              have hk134_1 : (ekW fo9 (ekA (ehN w0) (eeB (eeT (eeM sg 196) (19 + ekT (ehN w0) 256 16)) (16 * 1)) 16) (k + 1).toNat).1 = (eeB (ekW fo9 (ekA (ehN w0) (eeB (eeT (eeM sg 196) (19 + ekT (ehN w0) 256 16)) (16 * 1)) 16) (k).toNat) z111).1 := by rw [hk134]
              have hk134_21 : (ekW fo9 (ekA (ehN w0) (eeB (eeT (eeM sg 196) (19 + ekT (ehN w0) 256 16)) (16 * 1)) 16) (k + 1).toNat).2.1 = (eeB (ekW fo9 (ekA (ehN w0) (eeB (eeT (eeM sg 196) (19 + ekT (ehN w0) 256 16)) (16 * 1)) 16) (k).toNat) z111).2.1 := by rw [hk134]
              have hk134_221 : (ekW fo9 (ekA (ehN w0) (eeB (eeT (eeM sg 196) (19 + ekT (ehN w0) 256 16)) (16 * 1)) 16) (k + 1).toNat).2.2.1 = (eeB (ekW fo9 (ekA (ehN w0) (eeB (eeT (eeM sg 196) (19 + ekT (ehN w0) 256 16)) (16 * 1)) 16) (k).toNat) z111).2.2.1 := by rw [hk134]
              have hsw135 : gSW tyq114 cq114_0 (ekW fo9 (ekA (ehN w0) (eeB (eeT (eeM sg 196) (19 + ekT (ehN w0) 256 16)) (16 * 1)) 16) (k + 1).toNat) hq114 := by rw [hk134]; exact yq114_0
              have hok136 : eeOk (ekW fo9 (ekA (ehN w0) (eeB (eeT (eeM sg 196) (19 + ekT (ehN w0) 256 16)) (16 * 1)) 16) (k + 1).toNat) := by rw [hk134]; exact yq114_1
              have hoc137 := hok136.cur
              refine gy_s 2 (pc' := 75) (L' := [some (.ref x), some (.int (zi kd)), some (.ref c5), some (.int ((zi k) + zi 1))]) (S' := []) (L2 := [some (.ref x), some (.int (zi kd)), some (.ref c5), some (.int (zi (k + 1)))]) (S2 := []) rfl (by simp only [zi_add, zi_sub, zi_mul, zi_neg, zi_and1, zi_and7, zi_and15, zi_and31, zi_and255]) (by simp only [zi_add, zi_sub, zi_mul, zi_neg, zi_and1, zi_and7, zi_and15, zi_and31, zi_and255]) ?_
              have hl138 : 1024 ≤ hq114.2.2.2.1 bv2 ∧ hq114.2.2.2.1 bv2 ≤ 1000000 := gJ.rowl (G := gGG) sS133.1 t120 rfl
              have hl139 : 1024 ≤ hq114.2.2.2.1 cq114_0 ∧ hq114.2.2.2.1 cq114_0 ≤ 1000000 := gJ.rowl (G := gGG) sS133.1 tcq114_0 rfl
              have G140 : gSg [114] [] [56000, 56001, 76999, 77999, 78999, 79999, 80999, 81999, 85999, 92004, 92008, 114999] ty h tyq114 hq114 := gSg.ss G115 sS133 (by decide)
              exact gz_wk (ihlp94 tyq114 hq114 cq114_0 (k + 1) fq114_0 (gms lp94m (by omega) (by omega)) G140 uq132 t116 t117 t118 t119 ecq114_0 tcq114_0 ⟨by omega, by omega⟩ ⟨by omega, by omega⟩ (by omega) (by omega) (by omega) (by omega) (by omega) (by omega) (by omega) (by omega) (by omega) s123 s124 s125 s126 efq114_0 lp94k5 lp94k6 pr128 pr129 pr130 pr131 hsw135 hok136) (gLw.s (gLw.s (gLw.s (gLw.s gLw.z))))
        have hl141 : 1024 ≤ h87.2.2.2.1 bv ∧ h87.2.2.2.1 bv ≤ 1000000 := gJ.rowl (G := gGG) sh87.1 lp82r1 rfl
        have G142 : gSg [114] [] [56000, 56001, 76999, 77999, 78999, 79999, 80999, 81999, 85999, 92004, 92008, 114999] ty h ty88 h87 := gSg.ss lp82G sh87 (by decide)
        exact gz_wk (lp94 _ ty88 h87 bv 0 cv (Nat.lt_succ_self _) G142 lp82u lp82c0 lp82c1 lp82c2 lp82c3 lp82r0 lp82r1 ⟨by omega, by omega⟩ ⟨by omega, by omega⟩ (by omega) (by omega) (by omega) (by omega) (by omega) (by omega) (by omega) (by omega) (by omega) lp82k0 lp82k1 lp82k2 lp82k3 lp82k4 lp82k5 lp82k6 lp82k7 lp82k8 lp82k9 lp82k10 hsw96 hok97) (gLw.s (gLw.s (gLw.s (gLw.s gLw.z))))
      · refine gy_icF rfl (by decide) (by decide) (by omega) (by omega) hc89 ?_
        refine gz_s 1 (pc' := 55) (L' := [some (.ref x), some (.int (zi kd)), some (.ref c5), some (.int (zi i))]) (S' := [.ref x]) rfl ?_
        refine gs_gtk rfl (by decide) rfl sh87.1 lp82c0 rfl rfl lp82k0 ?_
        refine gz_s 1 (pc' := 59) (L' := [some (.ref x), some (.int (zi kd)), some (.ref c5), some (.int (zi i))]) (S' := [.ref c5, .ref sk]) rfl ?_
        refine gs_gtr rfl (by decide) rfl sh87.1 lp82c1 rfl rfl rfl (fun c143 ec143 tc143 => ?_)
        refine gz_s 1 (pc' := 63) (L' := [some (.ref x), some (.int (zi kd)), some (.ref c5), some (.int (zi i))]) (S' := [.int (zi i), .ref c143, .ref sk]) rfl ?_
        have hl144 : 17 ≤ h87.2.2.2.1 c143 ∧ h87.2.2.2.1 c143 ≤ 17 := gJ.rowl (G := gGG) sh87.1 tc143 rfl
        refine gs_ald rfl (by decide) sh87.1 tc143 rfl rfl rfl (by decide) (fun _ => rfl) (by omega) (by omega) (fun z145 ez145 az145 bz145 => ?_)
        have hf146 := gRn.at (i := i) (z := z145) lp82k8 tc143 ez145 (by omega) (by omega) (by omega)
        have hz9 : z145 = ekN (ehN w0) i 256 := by
          have e9 := y4 (i).toNat (by omega) (by omega)
          rw [hf146, (by omega : (((i).toNat : Nat) : Int) = i)] at e9
          exact e9
        have hl147 : h87.2.2.2.1 bv = h87.2.2.2.1 bv := congrFun sh87.2.2.2.2.1 bv
        refine gz_call rfl (by decide) rfl (by decide) (by decide) (gcal_of rfl rfl rfl (Nat.le_of_ble_eq_true rfl) (gJ.recv (G := gGG) sh87.1 lp82c2 rfl rfl)) (cw_putByte _ sh87.1 sk lp82c2 z145 ⟨by omega, by omega⟩ bv lp82r0 lp82r1 cv lp82k4 ⟨by omega, by omega⟩ (ekA (ehN w0) (eeB (eeT (eeM sg 196) (19 + ekT (ehN w0) 256 16)) (16 * 1)) (i - 1).toNat) (by omega) (by omega) lp82u lp82k11 lp82k12) (fun q148 _ wq148 => ?_)
        obtain ⟨pq148, oq148, hq148⟩ := q148
        obtain ⟨tyq148, xq148, cq148_0, ttq148, fq148_0, ecq148_0, tcq148_0, gq148, efq148_0, afq148_0, bfq148_0, uq148_0, uq148_1, uq148_2, uq148_3, uq148_4, uq148_5, uq148_6, uq148_7, yq148_0, yq148_1⟩ := wq148
        dsimp only at uq148_4 uq148_5 uq148_6 uq148_7
        refine ⟨_, gq148, ?_⟩
        show gz gPP gGG gcn _ _ 67 [some (.ref x), some (.int (zi kd)), some (.ref c5), some (.int (zi i))] [] hq148 _
        have G149 : gSg [114] [] [56000, 56001, 76999, 77999, 78999, 79999, 80999, 81999, 85999, 92004, 92008, 114999] ty h tyq148 hq148 := gSg.tr (gSg.ss lp82G sh87 (by decide)) xq148 (by decide) (by decide) (fun x hx => by cases hx)
        have t150 : tyq148 x = 71 := gSg.typ xq148 sh87.1 lp82c0 rfl
        have t151 : tyq148 c5 = 92 := gSg.typ xq148 sh87.1 lp82c1 rfl
        have t152 : tyq148 sk = 56 := gSg.typ xq148 sh87.1 lp82c2 rfl
        have t153 : tyq148 c1 = 75 := gSg.typ xq148 sh87.1 lp82c3 rfl
        have t154 : tyq148 bv = 114 := gSg.typ xq148 sh87.1 lp82r1 rfl
        have hl155 : hq148.2.2.2.1 bv = h87.2.2.2.1 bv := gSg.len xq148 sh87.1 lp82r1 rfl
        have t156 : tyq148 c143 = 76 := gSg.typ xq148 sh87.1 tc143 rfl
        have s157 := gSg.at xq148 sh87.1 lp82c0 rfl (by decide) lp82k0
        have s158 := gSg.at xq148 sh87.1 lp82c0 rfl (by decide) lp82k1
        have s159 := gSg.at xq148 sh87.1 lp82c3 rfl (by decide) lp82k2
        have s160 := gSg.at xq148 sh87.1 lp82c1 rfl (by decide) lp82k3
        have s161 := gSg.at xq148 sh87.1 lp82c1 rfl (by decide) ec143
        have pr162 := gRn.gr xq148 sh87.1 rfl (by decide) (by decide) lp82k7
        have pr163 := gRn.gr xq148 sh87.1 rfl (by decide) (by decide) lp82k8
        have pr164 := gRn.gr xq148 sh87.1 rfl (by decide) (by decide) lp82k9
        have pr165 := gRn.gr xq148 sh87.1 rfl (by decide) (by decide) lp82k10
        have uq166 := gSg.uq xq148 lp82u (by decide)
        have sS167 : gSs rT 1027 tyq148 [56000, 56001, 76999, 77999, 78999, 79999, 80999, 81999, 85999, 92004, 92008, 114999] hq148 hq148 := gSs.rf xq148.1
        have hk168 : ekA (ehN w0) (eeB (eeT (eeM sg 196) (19 + ekT (ehN w0) 256 16)) (16 * 1)) ((i + 1) - 1).toNat = eeB (ekA (ehN w0) (eeB (eeT (eeM sg 196) (19 + ekT (ehN w0) 256 16)) (16 * 1)) (i - 1).toNat) z145 := by rw [(by omega : (i + 1 - 1).toNat = (i - 1).toNat + 1)]; show eeB _ (ekN (ehN w0) (((i - 1).toNat + 1 : Nat) : Int) 256) = _; rw [(by omega : (((i - 1).toNat + 1 : Nat) : Int) = i), ← hz9]
        have hk168_1 : (ekA (ehN w0) (eeB (eeT (eeM sg 196) (19 + ekT (ehN w0) 256 16)) (16 * 1)) ((i + 1) - 1).toNat).1 = (eeB (ekA (ehN w0) (eeB (eeT (eeM sg 196) (19 + ekT (ehN w0) 256 16)) (16 * 1)) (i - 1).toNat) z145).1 := by rw [hk168]
        have hk168_21 : (ekA (ehN w0) (eeB (eeT (eeM sg 196) (19 + ekT (ehN w0) 256 16)) (16 * 1)) ((i + 1) - 1).toNat).2.1 = (eeB (ekA (ehN w0) (eeB (eeT (eeM sg 196) (19 + ekT (ehN w0) 256 16)) (16 * 1)) (i - 1).toNat) z145).2.1 := by rw [hk168]
        have hk168_221 : (ekA (ehN w0) (eeB (eeT (eeM sg 196) (19 + ekT (ehN w0) 256 16)) (16 * 1)) ((i + 1) - 1).toNat).2.2.1 = (eeB (ekA (ehN w0) (eeB (eeT (eeM sg 196) (19 + ekT (ehN w0) 256 16)) (16 * 1)) (i - 1).toNat) z145).2.2.1 := by rw [hk168]
        have hsw169 : gSW tyq148 cq148_0 (ekA (ehN w0) (eeB (eeT (eeM sg 196) (19 + ekT (ehN w0) 256 16)) (16 * 1)) ((i + 1) - 1).toNat) hq148 := by rw [hk168]; exact yq148_0
        have hok170 : eeOk (ekA (ehN w0) (eeB (eeT (eeM sg 196) (19 + ekT (ehN w0) 256 16)) (16 * 1)) ((i + 1) - 1).toNat) := by rw [hk168]; exact yq148_1
        have hoc171 := hok170.cur
        refine gy_s 2 (pc' := 48) (L' := [some (.ref x), some (.int (zi kd)), some (.ref c5), some (.int ((zi i) + zi 1))]) (S' := []) (L2 := [some (.ref x), some (.int (zi kd)), some (.ref c5), some (.int (zi (i + 1)))]) (S2 := []) rfl (by simp only [zi_add, zi_sub, zi_mul, zi_neg, zi_and1, zi_and7, zi_and15, zi_and31, zi_and255]) (by simp only [zi_add, zi_sub, zi_mul, zi_neg, zi_and1, zi_and7, zi_and15, zi_and31, zi_and255]) ?_
        have hl172 : 1024 ≤ hq148.2.2.2.1 bv ∧ hq148.2.2.2.1 bv ≤ 1000000 := gJ.rowl (G := gGG) sS167.1 t154 rfl
        have hl173 : 1024 ≤ hq148.2.2.2.1 cq148_0 ∧ hq148.2.2.2.1 cq148_0 ≤ 1000000 := gJ.rowl (G := gGG) sS167.1 tcq148_0 rfl
        have G174 : gSg [114] [] [56000, 56001, 76999, 77999, 78999, 79999, 80999, 81999, 85999, 92004, 92008, 114999] ty h tyq148 hq148 := gSg.ss G149 sS167 (by decide)
        exact gz_wk (ihlp82 tyq148 hq148 cq148_0 (i + 1) fq148_0 (gms lp82m (by omega) (by omega)) G174 uq166 t150 t151 t152 t153 ecq148_0 tcq148_0 ⟨by omega, by omega⟩ ⟨by omega, by omega⟩ (by omega) (by omega) (by omega) (by omega) (by omega) (by omega) (by omega) (by omega) s157 s158 s159 s160 efq148_0 lp82k5 lp82k6 pr162 pr163 pr164 pr165 hsw169 hok170) (gLw.s (gLw.s (gLw.s (gLw.s gLw.z))))
  have hl175 : 1024 ≤ hq56.2.2.2.1 bt ∧ hq56.2.2.2.1 bt ≤ 1000000 := gJ.rowl (G := gGG) sS77.1 t60 rfl
  have hl176 : 1024 ≤ hq56.2.2.2.1 cq16_0 ∧ hq56.2.2.2.1 cq16_0 ≤ 1000000 := gJ.rowl (G := gGG) sS77.1 t64 rfl
  have hl177 : 1024 ≤ hq56.2.2.2.1 cq35_0 ∧ hq56.2.2.2.1 cq35_0 ≤ 1000000 := gJ.rowl (G := gGG) sS77.1 t66 rfl
  have hl178 : 1024 ≤ hq56.2.2.2.1 cq56_0 ∧ hq56.2.2.2.1 cq56_0 ≤ 1000000 := gJ.rowl (G := gGG) sS77.1 tcq56_0 rfl
  have G179 : gSg [114] [] [56000, 56001, 76999, 77999, 78999, 79999, 80999, 81999, 85999, 92004, 92008, 114999] ty h tyq56 hq56 := gSg.ss G57 sS77 (by decide)
  exact gz_wk (lp82 _ tyq56 hq56 cq56_0 1 fq56_0 (Nat.lt_succ_self _) G179 uq76 t58 t63 t59 t62 ecq56_0 tcq56_0 ⟨by omega, by omega⟩ ⟨by omega, by omega⟩ (by omega) (by omega) (by omega) (by omega) (by omega) (by omega) (by omega) (by omega) s68 s69 s70 s71 efq56_0 hywb hyw6 pr72 pr73 pr74 pr75 hsw84 hok85) (gLw.s (gLw.s (gLw.s (gLw.s gLw.z))))
set_option maxRecDepth 20000 in
set_option maxHeartbeats 4000000 in
theorem cw_putScanHead (d : Nat) {ty : Nat → Nat} {h : gH} (hJ : gJ rT 1027 ty h) (x : Nat) (tx : ty x = 71) (sk : Nat) (esk : h.2.2.2.2 x 0 = .ref sk) (tsk : ty sk = 56) (bt : Nat) (ebt : h.2.2.2.2 sk 0 = .ref bt) (tbt : ty bt = 114) (c0 : Int) (ec0 : h.2.2.2.2 sk 1 = .int (zi c0)) (rc0 : 0 ≤ c0 ∧ c0 ≤ 499000) (fr : Int) (efr : h.2.2.2.2 x 7 = .int (zi fr)) (rfr : 0 ≤ fr ∧ fr ≤ 63) (tt : Int) (ett : h.2.2.2.2 x 8 = .int (zi tt)) (rtt : 0 ≤ tt ∧ tt ≤ 63) (hg : Int) (ehg : h.2.2.2.2 x 9 = .int (zi hg)) (rhg : 0 ≤ hg ∧ hg ≤ 4) (lw : Int) (elw : h.2.2.2.2 x 10 = .int (zi lw)) (rlw : 0 ≤ lw ∧ lw ≤ 3) (sg : gWt) (pp0 : c0 = sg.1) (pp1 : c0 ≤ (h.2.2.2.1 bt : Int)) (uq : gUq ty) (hysw : gSW ty bt sg h) (hyok : eeOk sg) : gz gPP gGG gcn (d + 4) gt126 0 (gent [.ref x] 1) [] h (fun q _ => ∃ ty9 : Nat → Nat, gSg [114] [] [56000, 56001, 114999] ty h ty9 q.2.2 ∧ ∃ bt2 : Nat, True ∧ ∃ c1 : Int, q.2.2.2.2.2.2 sk 0 = .ref bt2 ∧ ty9 bt2 = 114 ∧ gfin gt126 q.1 q.2.1 = some none ∧ q.2.2.2.2.2.2 sk 1 = .int (zi c1) ∧ 0 ≤ c1 ∧ c1 ≤ 500000 ∧ (c1 = (eSh fr tt hg lw sg).1) ∧ ((eSh fr tt hg lw sg).2.1 = sg.2.1) ∧ ((eSh fr tt hg lw sg).2.2.1 = sg.2.2.1) ∧ (c1 = c0 + 10) ∧ (1024 * ((q.2.2.1 : Int) - h.1) ≤ (q.2.2.2.2.2.1 bt2 : Int) - h.2.2.2.1 bt) ∧ (((q.2.2.2.1 : Int) - h.2.1) ≤ 2 * ((q.2.2.2.2.2.1 bt2 : Int) - h.2.2.2.1 bt)) ∧ ((h.2.2.2.1 bt : Int) ≤ (q.2.2.2.2.2.1 bt2 : Int)) ∧ (c1 ≤ (q.2.2.2.2.2.1 bt2 : Int)) ∧ (gSW ty9 bt2 (eSh fr tt hg lw sg) q.2.2) ∧ (eeOk (eSh fr tt hg lw sg))) := by
  have hS : gSs rT 1027 ty [56000, 56001, 114999] h h := gSs.rf hJ
  have G0 : gSg [114] [] [56000, 56001, 114999] ty h ty h := gSg.rf hJ (fun x hx => by cases hx)
  refine gz_s 1 (pc' := 1) (L' := [some (.ref x)]) (S' := [.ref x]) rfl ?_
  refine gs_gtk rfl (by decide) rfl hS.1 tx rfl rfl esk ?_
  refine gz_s 1 (pc' := 7) (L' := [some (.ref x)]) (S' := [.int (zi 218), .ref sk]) rfl ?_
  have hl1 : h.2.2.2.1 bt = h.2.2.2.1 bt := congrFun hS.2.2.2.2.1 bt
  refine gz_call rfl (by decide) rfl (by decide) (by decide) (gcal_of rfl rfl rfl (Nat.le_of_ble_eq_true rfl) (gJ.recv (G := gGG) hS.1 tsk rfl rfl)) (cw_putMarker _ hS.1 sk tsk 218 ⟨by omega, by omega⟩ bt ebt tbt c0 ec0 ⟨by omega, by omega⟩ sg (by omega) (by omega) uq hysw hyok) (fun q2 _ wq2 => ?_)
  obtain ⟨pq2, oq2, hq2⟩ := q2
  obtain ⟨tyq2, xq2, cq2_0, ttq2, fq2_0, ecq2_0, tcq2_0, gq2, efq2_0, afq2_0, bfq2_0, uq2_0, uq2_1, uq2_2, uq2_3, uq2_4, uq2_5, uq2_6, uq2_7, yq2_0, yq2_1⟩ := wq2
  dsimp only at uq2_4 uq2_5 uq2_6 uq2_7
  refine ⟨_, gq2, ?_⟩
  show gz gPP gGG gcn _ _ 10 [some (.ref x)] [] hq2 _
  have G3 : gSg [114] [] [56000, 56001, 114999] ty h tyq2 hq2 := gSg.tr (gSg.ss G0 hS (by decide)) xq2 (by decide) (by decide) (fun x hx => by cases hx)
  have t4 : tyq2 x = 71 := gSg.typ xq2 hS.1 tx rfl
  have t5 : tyq2 sk = 56 := gSg.typ xq2 hS.1 tsk rfl
  have t6 : tyq2 bt = 114 := gSg.typ xq2 hS.1 tbt rfl
  have hl7 : hq2.2.2.2.1 bt = h.2.2.2.1 bt := gSg.len xq2 hS.1 tbt rfl
  have s8 := gSg.at xq2 hS.1 tx rfl (by decide) esk
  have s9 := gSg.at xq2 hS.1 tx rfl (by decide) efr
  have s10 := gSg.at xq2 hS.1 tx rfl (by decide) ett
  have s11 := gSg.at xq2 hS.1 tx rfl (by decide) ehg
  have s12 := gSg.at xq2 hS.1 tx rfl (by decide) elw
  have uq13 := gSg.uq xq2 uq (by decide)
  have sS14 : gSs rT 1027 tyq2 [56000, 56001, 114999] hq2 hq2 := gSs.rf xq2.1
  refine gz_s 1 (pc' := 11) (L' := [some (.ref x)]) (S' := [.ref x]) rfl ?_
  refine gs_gtk rfl (by decide) rfl sS14.1 t4 rfl rfl s8 ?_
  refine gz_s 1 (pc' := 16) (L' := [some (.ref x)]) (S' := [.int (zi 8), .ref sk]) rfl ?_
  have hl15 : hq2.2.2.2.1 cq2_0 = hq2.2.2.2.1 cq2_0 := congrFun sS14.2.2.2.2.1 cq2_0
  refine gz_call rfl (by decide) rfl (by decide) (by decide) (gcal_of rfl rfl rfl (Nat.le_of_ble_eq_true rfl) (gJ.recv (G := gGG) sS14.1 t5 rfl rfl)) (cw_putTwo _ sS14.1 sk t5 8 ⟨by omega, by omega⟩ cq2_0 ecq2_0 tcq2_0 fq2_0 efq2_0 ⟨by omega, by omega⟩ (eeM sg 218) (by omega) (by omega) uq13 yq2_0 yq2_1) (fun q16 _ wq16 => ?_)
  obtain ⟨pq16, oq16, hq16⟩ := q16
  obtain ⟨tyq16, xq16, cq16_0, ttq16, fq16_0, ecq16_0, tcq16_0, gq16, efq16_0, afq16_0, bfq16_0, uq16_0, uq16_1, uq16_2, uq16_3, uq16_4, uq16_5, uq16_6, uq16_7, yq16_0, yq16_1⟩ := wq16
  dsimp only at uq16_4 uq16_5 uq16_6 uq16_7
  refine ⟨_, gq16, ?_⟩
  show gz gPP gGG gcn _ _ 19 [some (.ref x)] [] hq16 _
  have G17 : gSg [114] [] [56000, 56001, 114999] ty h tyq16 hq16 := gSg.tr (gSg.ss G3 sS14 (by decide)) xq16 (by decide) (by decide) (fun x hx => by cases hx)
  have t18 : tyq16 x = 71 := gSg.typ xq16 sS14.1 t4 rfl
  have t19 : tyq16 sk = 56 := gSg.typ xq16 sS14.1 t5 rfl
  have t20 : tyq16 bt = 114 := gSg.typ xq16 sS14.1 t6 rfl
  have hl21 : hq16.2.2.2.1 bt = hq2.2.2.2.1 bt := gSg.len xq16 sS14.1 t6 rfl
  have t22 : tyq16 cq2_0 = 114 := gSg.typ xq16 sS14.1 tcq2_0 rfl
  have hl23 : hq16.2.2.2.1 cq2_0 = hq2.2.2.2.1 cq2_0 := gSg.len xq16 sS14.1 tcq2_0 rfl
  have s24 := gSg.at xq16 sS14.1 t4 rfl (by decide) s8
  have s25 := gSg.at xq16 sS14.1 t4 rfl (by decide) s9
  have s26 := gSg.at xq16 sS14.1 t4 rfl (by decide) s10
  have s27 := gSg.at xq16 sS14.1 t4 rfl (by decide) s11
  have s28 := gSg.at xq16 sS14.1 t4 rfl (by decide) s12
  have uq29 := gSg.uq xq16 uq13 (by decide)
  have sS30 : gSs rT 1027 tyq16 [56000, 56001, 114999] hq16 hq16 := gSs.rf xq16.1
  refine gz_s 1 (pc' := 20) (L' := [some (.ref x)]) (S' := [.ref x]) rfl ?_
  refine gs_gtk rfl (by decide) rfl sS30.1 t18 rfl rfl s24 ?_
  refine gz_s 1 (pc' := 24) (L' := [some (.ref x)]) (S' := [.int (zi 1), .ref sk]) rfl ?_
  have hl31 : hq16.2.2.2.1 cq16_0 = hq16.2.2.2.1 cq16_0 := congrFun sS30.2.2.2.2.1 cq16_0
  refine gz_call rfl (by decide) rfl (by decide) (by decide) (gcal_of rfl rfl rfl (Nat.le_of_ble_eq_true rfl) (gJ.recv (G := gGG) sS30.1 t19 rfl rfl)) (cw_putByte _ sS30.1 sk t19 1 ⟨by omega, by omega⟩ cq16_0 ecq16_0 tcq16_0 fq16_0 efq16_0 ⟨by omega, by omega⟩ (eeT (eeM sg 218) 8) (by omega) (by omega) uq29 yq16_0 yq16_1) (fun q32 _ wq32 => ?_)
  obtain ⟨pq32, oq32, hq32⟩ := q32
  obtain ⟨tyq32, xq32, cq32_0, ttq32, fq32_0, ecq32_0, tcq32_0, gq32, efq32_0, afq32_0, bfq32_0, uq32_0, uq32_1, uq32_2, uq32_3, uq32_4, uq32_5, uq32_6, uq32_7, yq32_0, yq32_1⟩ := wq32
  dsimp only at uq32_4 uq32_5 uq32_6 uq32_7
  refine ⟨_, gq32, ?_⟩
  show gz gPP gGG gcn _ _ 27 [some (.ref x)] [] hq32 _
  have G33 : gSg [114] [] [56000, 56001, 114999] ty h tyq32 hq32 := gSg.tr (gSg.ss G17 sS30 (by decide)) xq32 (by decide) (by decide) (fun x hx => by cases hx)
  have t34 : tyq32 x = 71 := gSg.typ xq32 sS30.1 t18 rfl
  have t35 : tyq32 sk = 56 := gSg.typ xq32 sS30.1 t19 rfl
  have t36 : tyq32 bt = 114 := gSg.typ xq32 sS30.1 t20 rfl
  have hl37 : hq32.2.2.2.1 bt = hq16.2.2.2.1 bt := gSg.len xq32 sS30.1 t20 rfl
  have t38 : tyq32 cq2_0 = 114 := gSg.typ xq32 sS30.1 t22 rfl
  have hl39 : hq32.2.2.2.1 cq2_0 = hq16.2.2.2.1 cq2_0 := gSg.len xq32 sS30.1 t22 rfl
  have t40 : tyq32 cq16_0 = 114 := gSg.typ xq32 sS30.1 tcq16_0 rfl
  have hl41 : hq32.2.2.2.1 cq16_0 = hq16.2.2.2.1 cq16_0 := gSg.len xq32 sS30.1 tcq16_0 rfl
  have s42 := gSg.at xq32 sS30.1 t18 rfl (by decide) s24
  have s43 := gSg.at xq32 sS30.1 t18 rfl (by decide) s25
  have s44 := gSg.at xq32 sS30.1 t18 rfl (by decide) s26
  have s45 := gSg.at xq32 sS30.1 t18 rfl (by decide) s27
  have s46 := gSg.at xq32 sS30.1 t18 rfl (by decide) s28
  have uq47 := gSg.uq xq32 uq29 (by decide)
  have sS48 : gSs rT 1027 tyq32 [56000, 56001, 114999] hq32 hq32 := gSs.rf xq32.1
  refine gz_s 1 (pc' := 28) (L' := [some (.ref x)]) (S' := [.ref x]) rfl ?_
  refine gs_gtk rfl (by decide) rfl sS48.1 t34 rfl rfl s42 ?_
  refine gz_s 1 (pc' := 32) (L' := [some (.ref x)]) (S' := [.int (zi 1), .ref sk]) rfl ?_
  have hl49 : hq32.2.2.2.1 cq32_0 = hq32.2.2.2.1 cq32_0 := congrFun sS48.2.2.2.2.1 cq32_0
  refine gz_call rfl (by decide) rfl (by decide) (by decide) (gcal_of rfl rfl rfl (Nat.le_of_ble_eq_true rfl) (gJ.recv (G := gGG) sS48.1 t35 rfl rfl)) (cw_putByte _ sS48.1 sk t35 1 ⟨by omega, by omega⟩ cq32_0 ecq32_0 tcq32_0 fq32_0 efq32_0 ⟨by omega, by omega⟩ (eeB (eeT (eeM sg 218) 8) 1) (by omega) (by omega) uq47 yq32_0 yq32_1) (fun q50 _ wq50 => ?_)
  obtain ⟨pq50, oq50, hq50⟩ := q50
  obtain ⟨tyq50, xq50, cq50_0, ttq50, fq50_0, ecq50_0, tcq50_0, gq50, efq50_0, afq50_0, bfq50_0, uq50_0, uq50_1, uq50_2, uq50_3, uq50_4, uq50_5, uq50_6, uq50_7, yq50_0, yq50_1⟩ := wq50
  dsimp only at uq50_4 uq50_5 uq50_6 uq50_7
  refine ⟨_, gq50, ?_⟩
  show gz gPP gGG gcn _ _ 35 [some (.ref x)] [] hq50 _
  have G51 : gSg [114] [] [56000, 56001, 114999] ty h tyq50 hq50 := gSg.tr (gSg.ss G33 sS48 (by decide)) xq50 (by decide) (by decide) (fun x hx => by cases hx)
  have t52 : tyq50 x = 71 := gSg.typ xq50 sS48.1 t34 rfl
  have t53 : tyq50 sk = 56 := gSg.typ xq50 sS48.1 t35 rfl
  have t54 : tyq50 bt = 114 := gSg.typ xq50 sS48.1 t36 rfl
  have hl55 : hq50.2.2.2.1 bt = hq32.2.2.2.1 bt := gSg.len xq50 sS48.1 t36 rfl
  have t56 : tyq50 cq2_0 = 114 := gSg.typ xq50 sS48.1 t38 rfl
  have hl57 : hq50.2.2.2.1 cq2_0 = hq32.2.2.2.1 cq2_0 := gSg.len xq50 sS48.1 t38 rfl
  have t58 : tyq50 cq16_0 = 114 := gSg.typ xq50 sS48.1 t40 rfl
  have hl59 : hq50.2.2.2.1 cq16_0 = hq32.2.2.2.1 cq16_0 := gSg.len xq50 sS48.1 t40 rfl
  have t60 : tyq50 cq32_0 = 114 := gSg.typ xq50 sS48.1 tcq32_0 rfl
  have hl61 : hq50.2.2.2.1 cq32_0 = hq32.2.2.2.1 cq32_0 := gSg.len xq50 sS48.1 tcq32_0 rfl
  have s62 := gSg.at xq50 sS48.1 t34 rfl (by decide) s42
  have s63 := gSg.at xq50 sS48.1 t34 rfl (by decide) s43
  have s64 := gSg.at xq50 sS48.1 t34 rfl (by decide) s44
  have s65 := gSg.at xq50 sS48.1 t34 rfl (by decide) s45
  have s66 := gSg.at xq50 sS48.1 t34 rfl (by decide) s46
  have uq67 := gSg.uq xq50 uq47 (by decide)
  have sS68 : gSs rT 1027 tyq50 [56000, 56001, 114999] hq50 hq50 := gSs.rf xq50.1
  refine gz_s 1 (pc' := 36) (L' := [some (.ref x)]) (S' := [.ref x]) rfl ?_
  refine gs_gtk rfl (by decide) rfl sS68.1 t52 rfl rfl s62 ?_
  refine gz_s 1 (pc' := 40) (L' := [some (.ref x)]) (S' := [.int (zi 0), .ref sk]) rfl ?_
  have hl69 : hq50.2.2.2.1 cq50_0 = hq50.2.2.2.1 cq50_0 := congrFun sS68.2.2.2.2.1 cq50_0
  refine gz_call rfl (by decide) rfl (by decide) (by decide) (gcal_of rfl rfl rfl (Nat.le_of_ble_eq_true rfl) (gJ.recv (G := gGG) sS68.1 t53 rfl rfl)) (cw_putByte _ sS68.1 sk t53 0 ⟨by omega, by omega⟩ cq50_0 ecq50_0 tcq50_0 fq50_0 efq50_0 ⟨by omega, by omega⟩ (eeB (eeB (eeT (eeM sg 218) 8) 1) 1) (by omega) (by omega) uq67 yq50_0 yq50_1) (fun q70 _ wq70 => ?_)
  obtain ⟨pq70, oq70, hq70⟩ := q70
  obtain ⟨tyq70, xq70, cq70_0, ttq70, fq70_0, ecq70_0, tcq70_0, gq70, efq70_0, afq70_0, bfq70_0, uq70_0, uq70_1, uq70_2, uq70_3, uq70_4, uq70_5, uq70_6, uq70_7, yq70_0, yq70_1⟩ := wq70
  dsimp only at uq70_4 uq70_5 uq70_6 uq70_7
  refine ⟨_, gq70, ?_⟩
  show gz gPP gGG gcn _ _ 43 [some (.ref x)] [] hq70 _
  have G71 : gSg [114] [] [56000, 56001, 114999] ty h tyq70 hq70 := gSg.tr (gSg.ss G51 sS68 (by decide)) xq70 (by decide) (by decide) (fun x hx => by cases hx)
  have t72 : tyq70 x = 71 := gSg.typ xq70 sS68.1 t52 rfl
  have t73 : tyq70 sk = 56 := gSg.typ xq70 sS68.1 t53 rfl
  have t74 : tyq70 bt = 114 := gSg.typ xq70 sS68.1 t54 rfl
  have hl75 : hq70.2.2.2.1 bt = hq50.2.2.2.1 bt := gSg.len xq70 sS68.1 t54 rfl
  have t76 : tyq70 cq2_0 = 114 := gSg.typ xq70 sS68.1 t56 rfl
  have hl77 : hq70.2.2.2.1 cq2_0 = hq50.2.2.2.1 cq2_0 := gSg.len xq70 sS68.1 t56 rfl
  have t78 : tyq70 cq16_0 = 114 := gSg.typ xq70 sS68.1 t58 rfl
  have hl79 : hq70.2.2.2.1 cq16_0 = hq50.2.2.2.1 cq16_0 := gSg.len xq70 sS68.1 t58 rfl
  have t80 : tyq70 cq32_0 = 114 := gSg.typ xq70 sS68.1 t60 rfl
  have hl81 : hq70.2.2.2.1 cq32_0 = hq50.2.2.2.1 cq32_0 := gSg.len xq70 sS68.1 t60 rfl
  have t82 : tyq70 cq50_0 = 114 := gSg.typ xq70 sS68.1 tcq50_0 rfl
  have hl83 : hq70.2.2.2.1 cq50_0 = hq50.2.2.2.1 cq50_0 := gSg.len xq70 sS68.1 tcq50_0 rfl
  have s84 := gSg.at xq70 sS68.1 t52 rfl (by decide) s62
  have s85 := gSg.at xq70 sS68.1 t52 rfl (by decide) s63
  have s86 := gSg.at xq70 sS68.1 t52 rfl (by decide) s64
  have s87 := gSg.at xq70 sS68.1 t52 rfl (by decide) s65
  have s88 := gSg.at xq70 sS68.1 t52 rfl (by decide) s66
  have uq89 := gSg.uq xq70 uq67 (by decide)
  have sS90 : gSs rT 1027 tyq70 [56000, 56001, 114999] hq70 hq70 := gSs.rf xq70.1
  refine gz_s 1 (pc' := 44) (L' := [some (.ref x)]) (S' := [.ref x]) rfl ?_
  refine gs_gtk rfl (by decide) rfl sS90.1 t72 rfl rfl s84 ?_
  refine gz_s 1 (pc' := 48) (L' := [some (.ref x)]) (S' := [.ref x, .ref sk]) rfl ?_
  refine gs_gtk rfl (by decide) rfl sS90.1 t72 rfl rfl s85 ?_
  have hl91 : hq70.2.2.2.1 cq70_0 = hq70.2.2.2.1 cq70_0 := congrFun sS90.2.2.2.2.1 cq70_0
  refine gz_call rfl (by decide) rfl (by decide) (by decide) (gcal_of rfl rfl rfl (Nat.le_of_ble_eq_true rfl) (gJ.recv (G := gGG) sS90.1 t73 rfl rfl)) (cw_putByte _ sS90.1 sk t73 fr ⟨by omega, by omega⟩ cq70_0 ecq70_0 tcq70_0 fq70_0 efq70_0 ⟨by omega, by omega⟩ (eeB (eeB (eeB (eeT (eeM sg 218) 8) 1) 1) 0) (by omega) (by omega) uq89 yq70_0 yq70_1) (fun q92 _ wq92 => ?_)
  obtain ⟨pq92, oq92, hq92⟩ := q92
  obtain ⟨tyq92, xq92, cq92_0, ttq92, fq92_0, ecq92_0, tcq92_0, gq92, efq92_0, afq92_0, bfq92_0, uq92_0, uq92_1, uq92_2, uq92_3, uq92_4, uq92_5, uq92_6, uq92_7, yq92_0, yq92_1⟩ := wq92
  dsimp only at uq92_4 uq92_5 uq92_6 uq92_7
  refine ⟨_, gq92, ?_⟩
  show gz gPP gGG gcn _ _ 54 [some (.ref x)] [] hq92 _
  have G93 : gSg [114] [] [56000, 56001, 114999] ty h tyq92 hq92 := gSg.tr (gSg.ss G71 sS90 (by decide)) xq92 (by decide) (by decide) (fun x hx => by cases hx)
  have t94 : tyq92 x = 71 := gSg.typ xq92 sS90.1 t72 rfl
  have t95 : tyq92 sk = 56 := gSg.typ xq92 sS90.1 t73 rfl
  have t96 : tyq92 bt = 114 := gSg.typ xq92 sS90.1 t74 rfl
  have hl97 : hq92.2.2.2.1 bt = hq70.2.2.2.1 bt := gSg.len xq92 sS90.1 t74 rfl
  have t98 : tyq92 cq2_0 = 114 := gSg.typ xq92 sS90.1 t76 rfl
  have hl99 : hq92.2.2.2.1 cq2_0 = hq70.2.2.2.1 cq2_0 := gSg.len xq92 sS90.1 t76 rfl
  have t100 : tyq92 cq16_0 = 114 := gSg.typ xq92 sS90.1 t78 rfl
  have hl101 : hq92.2.2.2.1 cq16_0 = hq70.2.2.2.1 cq16_0 := gSg.len xq92 sS90.1 t78 rfl
  have t102 : tyq92 cq32_0 = 114 := gSg.typ xq92 sS90.1 t80 rfl
  have hl103 : hq92.2.2.2.1 cq32_0 = hq70.2.2.2.1 cq32_0 := gSg.len xq92 sS90.1 t80 rfl
  have t104 : tyq92 cq50_0 = 114 := gSg.typ xq92 sS90.1 t82 rfl
  have hl105 : hq92.2.2.2.1 cq50_0 = hq70.2.2.2.1 cq50_0 := gSg.len xq92 sS90.1 t82 rfl
  have t106 : tyq92 cq70_0 = 114 := gSg.typ xq92 sS90.1 tcq70_0 rfl
  have hl107 : hq92.2.2.2.1 cq70_0 = hq70.2.2.2.1 cq70_0 := gSg.len xq92 sS90.1 tcq70_0 rfl
  have s108 := gSg.at xq92 sS90.1 t72 rfl (by decide) s84
  have s109 := gSg.at xq92 sS90.1 t72 rfl (by decide) s85
  have s110 := gSg.at xq92 sS90.1 t72 rfl (by decide) s86
  have s111 := gSg.at xq92 sS90.1 t72 rfl (by decide) s87
  have s112 := gSg.at xq92 sS90.1 t72 rfl (by decide) s88
  have uq113 := gSg.uq xq92 uq89 (by decide)
  have sS114 : gSs rT 1027 tyq92 [56000, 56001, 114999] hq92 hq92 := gSs.rf xq92.1
  refine gz_s 1 (pc' := 55) (L' := [some (.ref x)]) (S' := [.ref x]) rfl ?_
  refine gs_gtk rfl (by decide) rfl sS114.1 t94 rfl rfl s108 ?_
  refine gz_s 1 (pc' := 59) (L' := [some (.ref x)]) (S' := [.ref x, .ref sk]) rfl ?_
  refine gs_gtk rfl (by decide) rfl sS114.1 t94 rfl rfl s110 ?_
  have hl115 : hq92.2.2.2.1 cq92_0 = hq92.2.2.2.1 cq92_0 := congrFun sS114.2.2.2.2.1 cq92_0
  refine gz_call rfl (by decide) rfl (by decide) (by decide) (gcal_of rfl rfl rfl (Nat.le_of_ble_eq_true rfl) (gJ.recv (G := gGG) sS114.1 t95 rfl rfl)) (cw_putByte _ sS114.1 sk t95 tt ⟨by omega, by omega⟩ cq92_0 ecq92_0 tcq92_0 fq92_0 efq92_0 ⟨by omega, by omega⟩ (eeB (eeB (eeB (eeB (eeT (eeM sg 218) 8) 1) 1) 0) fr) (by omega) (by omega) uq113 yq92_0 yq92_1) (fun q116 _ wq116 => ?_)
  obtain ⟨pq116, oq116, hq116⟩ := q116
  obtain ⟨tyq116, xq116, cq116_0, ttq116, fq116_0, ecq116_0, tcq116_0, gq116, efq116_0, afq116_0, bfq116_0, uq116_0, uq116_1, uq116_2, uq116_3, uq116_4, uq116_5, uq116_6, uq116_7, yq116_0, yq116_1⟩ := wq116
  dsimp only at uq116_4 uq116_5 uq116_6 uq116_7
  refine ⟨_, gq116, ?_⟩
  show gz gPP gGG gcn _ _ 65 [some (.ref x)] [] hq116 _
  have G117 : gSg [114] [] [56000, 56001, 114999] ty h tyq116 hq116 := gSg.tr (gSg.ss G93 sS114 (by decide)) xq116 (by decide) (by decide) (fun x hx => by cases hx)
  have t118 : tyq116 x = 71 := gSg.typ xq116 sS114.1 t94 rfl
  have t119 : tyq116 sk = 56 := gSg.typ xq116 sS114.1 t95 rfl
  have t120 : tyq116 bt = 114 := gSg.typ xq116 sS114.1 t96 rfl
  have hl121 : hq116.2.2.2.1 bt = hq92.2.2.2.1 bt := gSg.len xq116 sS114.1 t96 rfl
  have t122 : tyq116 cq2_0 = 114 := gSg.typ xq116 sS114.1 t98 rfl
  have hl123 : hq116.2.2.2.1 cq2_0 = hq92.2.2.2.1 cq2_0 := gSg.len xq116 sS114.1 t98 rfl
  have t124 : tyq116 cq16_0 = 114 := gSg.typ xq116 sS114.1 t100 rfl
  have hl125 : hq116.2.2.2.1 cq16_0 = hq92.2.2.2.1 cq16_0 := gSg.len xq116 sS114.1 t100 rfl
  have t126 : tyq116 cq32_0 = 114 := gSg.typ xq116 sS114.1 t102 rfl
  have hl127 : hq116.2.2.2.1 cq32_0 = hq92.2.2.2.1 cq32_0 := gSg.len xq116 sS114.1 t102 rfl
  have t128 : tyq116 cq50_0 = 114 := gSg.typ xq116 sS114.1 t104 rfl
  have hl129 : hq116.2.2.2.1 cq50_0 = hq92.2.2.2.1 cq50_0 := gSg.len xq116 sS114.1 t104 rfl
  have t130 : tyq116 cq70_0 = 114 := gSg.typ xq116 sS114.1 t106 rfl
  have hl131 : hq116.2.2.2.1 cq70_0 = hq92.2.2.2.1 cq70_0 := gSg.len xq116 sS114.1 t106 rfl
  have t132 : tyq116 cq92_0 = 114 := gSg.typ xq116 sS114.1 tcq92_0 rfl
  have hl133 : hq116.2.2.2.1 cq92_0 = hq92.2.2.2.1 cq92_0 := gSg.len xq116 sS114.1 tcq92_0 rfl
  have s134 := gSg.at xq116 sS114.1 t94 rfl (by decide) s108
  have s135 := gSg.at xq116 sS114.1 t94 rfl (by decide) s109
  have s136 := gSg.at xq116 sS114.1 t94 rfl (by decide) s110
  have s137 := gSg.at xq116 sS114.1 t94 rfl (by decide) s111
  have s138 := gSg.at xq116 sS114.1 t94 rfl (by decide) s112
  have uq139 := gSg.uq xq116 uq113 (by decide)
  have sS140 : gSs rT 1027 tyq116 [56000, 56001, 114999] hq116 hq116 := gSs.rf xq116.1
  refine gz_s 1 (pc' := 66) (L' := [some (.ref x)]) (S' := [.ref x]) rfl ?_
  refine gs_gtk rfl (by decide) rfl sS140.1 t118 rfl rfl s134 ?_
  refine gz_s 2 (pc' := 72) (L' := [some (.ref x)]) (S' := [.ref x, .int (zi 16), .ref sk]) rfl ?_
  refine gs_gtk rfl (by decide) rfl sS140.1 t118 rfl rfl s137 ?_
  refine gy_s 2 (pc' := 77) (L' := [some (.ref x)]) (S' := [.ref x, .int ((zi 16) * (zi hg)), .ref sk]) (L2 := [some (.ref x)]) (S2 := [.ref x, .int (zi (16 * hg)), .ref sk]) rfl (by simp only [zi_add, zi_sub, zi_mul, zi_neg, zi_and1, zi_and7, zi_and15, zi_and31, zi_and255]) (by simp only [zi_add, zi_sub, zi_mul, zi_neg, zi_and1, zi_and7, zi_and15, zi_and31, zi_and255]) ?_
  refine gs_gtk rfl (by decide) rfl sS140.1 t118 rfl rfl s138 ?_
  refine gy_s 1 (pc' := 81) (L' := [some (.ref x)]) (S' := [.int ((zi (16 * hg)) + (zi lw)), .ref sk]) (L2 := [some (.ref x)]) (S2 := [.int (zi ((16 * hg) + lw)), .ref sk]) rfl (by simp only [zi_add, zi_sub, zi_mul, zi_neg, zi_and1, zi_and7, zi_and15, zi_and31, zi_and255]) (by simp only [zi_add, zi_sub, zi_mul, zi_neg, zi_and1, zi_and7, zi_and15, zi_and31, zi_and255]) ?_
  have hl141 : hq116.2.2.2.1 cq116_0 = hq116.2.2.2.1 cq116_0 := congrFun sS140.2.2.2.2.1 cq116_0
  refine gz_call rfl (by decide) rfl (by decide) (by decide) (gcal_of rfl rfl rfl (Nat.le_of_ble_eq_true rfl) (gJ.recv (G := gGG) sS140.1 t119 rfl rfl)) (cw_putByte _ sS140.1 sk t119 ((16 * hg) + lw) ⟨by omega, by omega⟩ cq116_0 ecq116_0 tcq116_0 fq116_0 efq116_0 ⟨by omega, by omega⟩ (eeB (eeB (eeB (eeB (eeB (eeT (eeM sg 218) 8) 1) 1) 0) fr) tt) (by omega) (by omega) uq139 yq116_0 yq116_1) (fun q142 _ wq142 => ?_)
  obtain ⟨pq142, oq142, hq142⟩ := q142
  obtain ⟨tyq142, xq142, cq142_0, ttq142, fq142_0, ecq142_0, tcq142_0, gq142, efq142_0, afq142_0, bfq142_0, uq142_0, uq142_1, uq142_2, uq142_3, uq142_4, uq142_5, uq142_6, uq142_7, yq142_0, yq142_1⟩ := wq142
  dsimp only at uq142_4 uq142_5 uq142_6 uq142_7
  refine ⟨_, gq142, ?_⟩
  show gz gPP gGG gcn _ _ 84 [some (.ref x)] [] hq142 _
  have G143 : gSg [114] [] [56000, 56001, 114999] ty h tyq142 hq142 := gSg.tr (gSg.ss G117 sS140 (by decide)) xq142 (by decide) (by decide) (fun x hx => by cases hx)
  have t144 : tyq142 x = 71 := gSg.typ xq142 sS140.1 t118 rfl
  have t145 : tyq142 sk = 56 := gSg.typ xq142 sS140.1 t119 rfl
  have t146 : tyq142 bt = 114 := gSg.typ xq142 sS140.1 t120 rfl
  have hl147 : hq142.2.2.2.1 bt = hq116.2.2.2.1 bt := gSg.len xq142 sS140.1 t120 rfl
  have t148 : tyq142 cq2_0 = 114 := gSg.typ xq142 sS140.1 t122 rfl
  have hl149 : hq142.2.2.2.1 cq2_0 = hq116.2.2.2.1 cq2_0 := gSg.len xq142 sS140.1 t122 rfl
  have t150 : tyq142 cq16_0 = 114 := gSg.typ xq142 sS140.1 t124 rfl
  have hl151 : hq142.2.2.2.1 cq16_0 = hq116.2.2.2.1 cq16_0 := gSg.len xq142 sS140.1 t124 rfl
  have t152 : tyq142 cq32_0 = 114 := gSg.typ xq142 sS140.1 t126 rfl
  have hl153 : hq142.2.2.2.1 cq32_0 = hq116.2.2.2.1 cq32_0 := gSg.len xq142 sS140.1 t126 rfl
  have t154 : tyq142 cq50_0 = 114 := gSg.typ xq142 sS140.1 t128 rfl
  have hl155 : hq142.2.2.2.1 cq50_0 = hq116.2.2.2.1 cq50_0 := gSg.len xq142 sS140.1 t128 rfl
  have t156 : tyq142 cq70_0 = 114 := gSg.typ xq142 sS140.1 t130 rfl
  have hl157 : hq142.2.2.2.1 cq70_0 = hq116.2.2.2.1 cq70_0 := gSg.len xq142 sS140.1 t130 rfl
  have t158 : tyq142 cq92_0 = 114 := gSg.typ xq142 sS140.1 t132 rfl
  have hl159 : hq142.2.2.2.1 cq92_0 = hq116.2.2.2.1 cq92_0 := gSg.len xq142 sS140.1 t132 rfl
  have t160 : tyq142 cq116_0 = 114 := gSg.typ xq142 sS140.1 tcq116_0 rfl
  have hl161 : hq142.2.2.2.1 cq116_0 = hq116.2.2.2.1 cq116_0 := gSg.len xq142 sS140.1 tcq116_0 rfl
  have s162 := gSg.at xq142 sS140.1 t118 rfl (by decide) s134
  have s163 := gSg.at xq142 sS140.1 t118 rfl (by decide) s135
  have s164 := gSg.at xq142 sS140.1 t118 rfl (by decide) s136
  have s165 := gSg.at xq142 sS140.1 t118 rfl (by decide) s137
  have s166 := gSg.at xq142 sS140.1 t118 rfl (by decide) s138
  have uq167 := gSg.uq xq142 uq139 (by decide)
  have sS168 : gSs rT 1027 tyq142 [56000, 56001, 114999] hq142 hq142 := gSs.rf xq142.1
  have hk169 : eSh fr tt hg lw sg = eeB (eeB (eeB (eeB (eeB (eeB (eeT (eeM sg 218) 8) 1) 1) 0) fr) tt) ((16 * hg) + lw) := rfl
  have hk169_1 : (eSh fr tt hg lw sg).1 = (eeB (eeB (eeB (eeB (eeB (eeB (eeT (eeM sg 218) 8) 1) 1) 0) fr) tt) ((16 * hg) + lw)).1 := by rw [hk169]
  have hk169_21 : (eSh fr tt hg lw sg).2.1 = (eeB (eeB (eeB (eeB (eeB (eeB (eeT (eeM sg 218) 8) 1) 1) 0) fr) tt) ((16 * hg) + lw)).2.1 := by rw [hk169]
  have hk169_221 : (eSh fr tt hg lw sg).2.2.1 = (eeB (eeB (eeB (eeB (eeB (eeB (eeT (eeM sg 218) 8) 1) 1) 0) fr) tt) ((16 * hg) + lw)).2.2.1 := by rw [hk169]
  have hsw170 : gSW tyq142 cq142_0 (eSh fr tt hg lw sg) hq142 := by rw [hk169]; exact yq142_0
  have hok171 : eeOk (eSh fr tt hg lw sg) := by rw [hk169]; exact yq142_1
  have hoc172 := hok171.cur
  have hl173 : 1024 ≤ hq142.2.2.2.1 bt ∧ hq142.2.2.2.1 bt ≤ 1000000 := gJ.rowl (G := gGG) sS168.1 t146 rfl
  have hl174 : 1024 ≤ hq142.2.2.2.1 cq2_0 ∧ hq142.2.2.2.1 cq2_0 ≤ 1000000 := gJ.rowl (G := gGG) sS168.1 t148 rfl
  have hl175 : 1024 ≤ hq142.2.2.2.1 cq16_0 ∧ hq142.2.2.2.1 cq16_0 ≤ 1000000 := gJ.rowl (G := gGG) sS168.1 t150 rfl
  have hl176 : 1024 ≤ hq142.2.2.2.1 cq32_0 ∧ hq142.2.2.2.1 cq32_0 ≤ 1000000 := gJ.rowl (G := gGG) sS168.1 t152 rfl
  have hl177 : 1024 ≤ hq142.2.2.2.1 cq50_0 ∧ hq142.2.2.2.1 cq50_0 ≤ 1000000 := gJ.rowl (G := gGG) sS168.1 t154 rfl
  have hl178 : 1024 ≤ hq142.2.2.2.1 cq70_0 ∧ hq142.2.2.2.1 cq70_0 ≤ 1000000 := gJ.rowl (G := gGG) sS168.1 t156 rfl
  have hl179 : 1024 ≤ hq142.2.2.2.1 cq92_0 ∧ hq142.2.2.2.1 cq92_0 ≤ 1000000 := gJ.rowl (G := gGG) sS168.1 t158 rfl
  have hl180 : 1024 ≤ hq142.2.2.2.1 cq116_0 ∧ hq142.2.2.2.1 cq116_0 ≤ 1000000 := gJ.rowl (G := gGG) sS168.1 t160 rfl
  have hl181 : 1024 ≤ hq142.2.2.2.1 cq142_0 ∧ hq142.2.2.2.1 cq142_0 ≤ 1000000 := gJ.rowl (G := gGG) sS168.1 tcq142_0 rfl
  have G182 : gSg [114] [] [56000, 56001, 114999] ty h tyq142 hq142 := gSg.ss G143 sS168 (by decide)
  exact gz_end (I := .return_) (len := 1) rfl (Or.inl rfl) ⟨tyq142, G182, cq142_0, trivial, fq142_0, ecq142_0, tcq142_0, rfl, efq142_0, (by omega), (by omega), (by omega), (by omega), (by omega), (by omega), (by dsimp only; omega), (by dsimp only; omega), (by dsimp only; omega), (by dsimp only; omega), hsw170, hok171⟩
set_option maxRecDepth 20000 in
set_option maxHeartbeats 4000000 in
theorem cw_putEnd (d : Nat) {ty : Nat → Nat} {h : gH} (hJ : gJ rT 1027 ty h) (x : Nat) (tx : ty x = 71) (sk : Nat) (esk : h.2.2.2.2 x 0 = .ref sk) (tsk : ty sk = 56) (bt : Nat) (ebt : h.2.2.2.2 sk 0 = .ref bt) (tbt : ty bt = 114) (c0 : Int) (ec0 : h.2.2.2.2 sk 1 = .int (zi c0)) (rc0 : 0 ≤ c0 ∧ c0 ≤ 499000) (sg : gWt) (pp0 : c0 = sg.1) (pp1 : c0 ≤ (h.2.2.2.1 bt : Int)) (uq : gUq ty) (hysw : gSW ty bt sg h) (hyok : eeOk sg) : gz gPP gGG gcn (d + 4) gt127 0 (gent [.ref x] 1) [] h (fun q _ => ∃ ty9 : Nat → Nat, gSg [114] [] [56000, 56001, 114999] ty h ty9 q.2.2 ∧ ∃ bt2 : Nat, True ∧ ∃ c1 : Int, q.2.2.2.2.2.2 sk 0 = .ref bt2 ∧ ty9 bt2 = 114 ∧ gfin gt127 q.1 q.2.1 = some none ∧ q.2.2.2.2.2.2 sk 1 = .int (zi c1) ∧ 0 ≤ c1 ∧ c1 ≤ 500000 ∧ (c1 = (eeM sg 217).1) ∧ ((eeM sg 217).2.1 = sg.2.1) ∧ ((eeM sg 217).2.2.1 = sg.2.2.1) ∧ (c1 = c0 + 2) ∧ (1024 * ((q.2.2.1 : Int) - h.1) ≤ (q.2.2.2.2.2.1 bt2 : Int) - h.2.2.2.1 bt) ∧ (((q.2.2.2.1 : Int) - h.2.1) ≤ 2 * ((q.2.2.2.2.2.1 bt2 : Int) - h.2.2.2.1 bt)) ∧ ((h.2.2.2.1 bt : Int) ≤ (q.2.2.2.2.2.1 bt2 : Int)) ∧ (c1 ≤ (q.2.2.2.2.2.1 bt2 : Int)) ∧ (gSW ty9 bt2 (eeM sg 217) q.2.2) ∧ (eeOk (eeM sg 217))) := by
  have hS : gSs rT 1027 ty [56000, 56001, 114999] h h := gSs.rf hJ
  have G0 : gSg [114] [] [56000, 56001, 114999] ty h ty h := gSg.rf hJ (fun x hx => by cases hx)
  refine gz_s 1 (pc' := 1) (L' := [some (.ref x)]) (S' := [.ref x]) rfl ?_
  refine gs_gtk rfl (by decide) rfl hS.1 tx rfl rfl esk ?_
  refine gz_s 1 (pc' := 7) (L' := [some (.ref x)]) (S' := [.int (zi 217), .ref sk]) rfl ?_
  have hl1 : h.2.2.2.1 bt = h.2.2.2.1 bt := congrFun hS.2.2.2.2.1 bt
  refine gz_call rfl (by decide) rfl (by decide) (by decide) (gcal_of rfl rfl rfl (Nat.le_of_ble_eq_true rfl) (gJ.recv (G := gGG) hS.1 tsk rfl rfl)) (cw_putMarker _ hS.1 sk tsk 217 ⟨by omega, by omega⟩ bt ebt tbt c0 ec0 ⟨by omega, by omega⟩ sg (by omega) (by omega) uq hysw hyok) (fun q2 _ wq2 => ?_)
  obtain ⟨pq2, oq2, hq2⟩ := q2
  obtain ⟨tyq2, xq2, cq2_0, ttq2, fq2_0, ecq2_0, tcq2_0, gq2, efq2_0, afq2_0, bfq2_0, uq2_0, uq2_1, uq2_2, uq2_3, uq2_4, uq2_5, uq2_6, uq2_7, yq2_0, yq2_1⟩ := wq2
  dsimp only at uq2_4 uq2_5 uq2_6 uq2_7
  refine ⟨_, gq2, ?_⟩
  show gz gPP gGG gcn _ _ 10 [some (.ref x)] [] hq2 _
  have G3 : gSg [114] [] [56000, 56001, 114999] ty h tyq2 hq2 := gSg.tr (gSg.ss G0 hS (by decide)) xq2 (by decide) (by decide) (fun x hx => by cases hx)
  have t4 : tyq2 x = 71 := gSg.typ xq2 hS.1 tx rfl
  have t5 : tyq2 sk = 56 := gSg.typ xq2 hS.1 tsk rfl
  have t6 : tyq2 bt = 114 := gSg.typ xq2 hS.1 tbt rfl
  have hl7 : hq2.2.2.2.1 bt = h.2.2.2.1 bt := gSg.len xq2 hS.1 tbt rfl
  have s8 := gSg.at xq2 hS.1 tx rfl (by decide) esk
  have uq9 := gSg.uq xq2 uq (by decide)
  have sS10 : gSs rT 1027 tyq2 [56000, 56001, 114999] hq2 hq2 := gSs.rf xq2.1
  have hl11 : 1024 ≤ hq2.2.2.2.1 bt ∧ hq2.2.2.2.1 bt ≤ 1000000 := gJ.rowl (G := gGG) sS10.1 t6 rfl
  have hl12 : 1024 ≤ hq2.2.2.2.1 cq2_0 ∧ hq2.2.2.2.1 cq2_0 ≤ 1000000 := gJ.rowl (G := gGG) sS10.1 tcq2_0 rfl
  have G13 : gSg [114] [] [56000, 56001, 114999] ty h tyq2 hq2 := gSg.ss G3 sS10 (by decide)
  exact gz_end (I := .return_) (len := 1) rfl (Or.inl rfl) ⟨tyq2, G13, cq2_0, trivial, fq2_0, ecq2_0, tcq2_0, rfl, efq2_0, (by omega), (by omega), (by omega), (by omega), (by omega), (by omega), (by dsimp only; omega), (by dsimp only; omega), (by dsimp only; omega), (by dsimp only; omega), yq2_0, yq2_1⟩
