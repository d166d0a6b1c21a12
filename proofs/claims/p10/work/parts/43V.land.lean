/-! ===== methods of the landed text (by program) ===== -/
set_option maxRecDepth 20000 in
set_option maxHeartbeats 4000000 in
theorem cl_DctFilter_encode (d : Nat) {ty : Nat → Nat} {h : gH} (hJ : gJ rT 1027 ty h) (x : Nat) (tx : ty x = 50) (qu : Int) (rqu : (-2147483648) ≤ qu ∧ qu ≤ 2147483647) (hyst : gSta ty h) (f : Nat → Int) (ld : Int) (rld : 0 ≤ ld ∧ ld ≤ 192) (lb : Int) (rlb : 1024 ≤ lb ∧ lb ≤ 1000000) (iv : Int) (riv : 0 ≤ iv ∧ iv ≤ 2058) (uq : gUq ty) (hyix : gIx ty x ld lb iv h) (hyf64 : gRow ty 64 f h) : gz gPP gGG gcn (d + 8) gt89 0 (gent [.ref x, .int (zi qu)] 3) [] h (fun q _ => ∃ ty9 : Nat → Nat, gSg [71, 72, 73, 74, 75, 76, 77, 78, 79, 80, 81, 85, 91, 92, 93, 94, 95, 96, 97, 98, 99, 114, 200] [] [50006, 55008, 56000, 56001, 56002, 56003, 64999, 71005, 71006, 71007, 71008, 71009, 71010, 71011, 71012, 71013, 71014, 72999, 73999, 74999, 76999, 77999, 78999, 79999, 80999, 81999, 85999, 91004, 91008, 92004, 92008, 93999, 94999, 95999, 96999, 97999, 98999, 99999, 114999] ty h ty9 q.2.2 ∧ ∃ ld1 lb1 iv1 : Int, 0 ≤ ld1 ∧ ld1 ≤ 192 ∧ 1024 ≤ lb1 ∧ lb1 ≤ 1000000 ∧ 0 ≤ iv1 ∧ iv1 ≤ 2058 ∧ (gIx ty9 x ld1 lb1 iv1 q.2.2) ∧ (gEy ty9 64 f qu (iv / 64) q.2.2) ∧ gUq ty9 ∧ ((∃ z : Int, gfin gt89 q.1 q.2.1 = some (some (.int (zi z))) ∧ (-2147483648) ≤ z ∧ z ≤ 2147483647 ∧ (1 ≤ qu) ∧ (qu ≤ 100) ∧ (64 ≤ iv) ∧ (iv1 = iv - iv % 64) ∧ (1024 * (((q.2.2.1 : Int) - h.1) - 31 - 2 * (ld1 - ld)) ≤ lb1 - lb) ∧ (((q.2.2.2.1 : Int) - h.2.1) ≤ 4303 + 12480 * (ld1 - ld) + 2 * (lb1 - lb)) ∧ (ld ≤ ld1) ∧ (lb ≤ lb1)) ∨ (q.2.1 = [] ∧ ((q.1 = 11 ∧ (¬ (1 ≤ qu ∧ qu ≤ 100))) ∨ (q.1 = 32 ∧ (iv < 64))) ∧ (iv1 = iv) ∧ (1024 * (((q.2.2.1 : Int) - h.1) - 31 - 2 * (ld1 - ld)) ≤ lb1 - lb) ∧ (((q.2.2.2.1 : Int) - h.2.1) ≤ 4303 + 12480 * (ld1 - ld) + 2 * (lb1 - lb)) ∧ (ld ≤ ld1) ∧ (lb ≤ lb1)))) := by
  have hS : gSs rT 1027 ty [50006, 55008, 56000, 56001, 56002, 56003, 64999, 71005, 71006, 71007, 71008, 71009, 71010, 71011, 71012, 71013, 71014, 72999, 73999, 74999, 76999, 77999, 78999, 79999, 80999, 81999, 85999, 91004, 91008, 92004, 92008, 93999, 94999, 95999, 96999, 97999, 98999, 99999, 114999] h h := gSs.rf hJ
  have G0 : gSg [71, 72, 73, 74, 75, 76, 77, 78, 79, 80, 81, 85, 91, 92, 93, 94, 95, 96, 97, 98, 99, 114, 200] [] [50006, 55008, 56000, 56001, 56002, 56003, 64999, 71005, 71006, 71007, 71008, 71009, 71010, 71011, 71012, 71013, 71014, 72999, 73999, 74999, 76999, 77999, 78999, 79999, 80999, 81999, 85999, 91004, 91008, 92004, 92008, 93999, 94999, 95999, 96999, 97999, 98999, 99999, 114999] ty h ty h := gSg.rf hJ (fun x hx => by cases hx)
  obtain ⟨pic, b0, b1, b2, dr, sk, bt, n0, c0, i0, dw, ⟨_, tdr, tsk, tbt⟩, ⟨ex2, ex3, ex4, ex0⟩, hpc, htc, ⟨en0, rn0⟩, ⟨eiv, ri0⟩, ⟨ec0, rc0⟩, ⟨lc0, llb⟩, hrr, hrw, ⟨edw, rdw⟩, hcd⟩ := hyix
  have tpic := hpc.1.1
  have tb0 := hpc.1.2.1
  have tb1 := hpc.1.2.2.1
  have tb2 := hpc.1.2.2.2
  refine gz_s 2 (pc' := 2) (L' := [some (.ref x), some (.int (zi qu)), none]) (S' := [.int (zi 1), .int (zi qu)]) rfl ?_
  by_cases hc1 : (qu : Int) < 1
  · refine gy_icT (pc' := 11) rfl (by decide) (by decide) (by omega) (by omega) hc1 ?_
    have hl2 : 1024 ≤ h.2.2.2.1 bt ∧ h.2.2.2.1 bt ≤ 1000000 := gJ.rowl (G := gGG) hS.1 tbt rfl
    have hix3 : gIx ty x ld (h.2.2.2.1 bt : Int) (64 * dw + n0) h := ⟨pic, b0, b1, b2, dr, sk, bt, n0, c0, i0, dw, ⟨tx, tdr, tsk, tbt⟩, ⟨ex2, ex3, ex4, ex0⟩, hpc, htc, ⟨en0, by omega, by omega⟩, ⟨eiv, by omega, by omega⟩, ⟨ec0, by omega, by omega⟩, ⟨by omega, by omega⟩, hrr, hrw, ⟨edw, by omega, by omega⟩, rfl⟩
    have hey4 : gEy ty 64 f qu (iv / 64) h := gEy.no hyf64 (by omega)
    have G5 : gSg [71, 72, 73, 74, 75, 76, 77, 78, 79, 80, 81, 85, 91, 92, 93, 94, 95, 96, 97, 98, 99, 114, 200] [] [50006, 55008, 56000, 56001, 56002, 56003, 64999, 71005, 71006, 71007, 71008, 71009, 71010, 71011, 71012, 71013, 71014, 72999, 73999, 74999, 76999, 77999, 78999, 79999, 80999, 81999, 85999, 91004, 91008, 92004, 92008, 93999, 94999, 95999, 96999, 97999, 98999, 99999, 114999] ty h ty h := gSg.ss G0 hS (by decide)
    exact gz_end (I := .new 134) (len := 3) rfl (Or.inr (by decide)) ⟨ty, G5, ld, (h.2.2.2.1 bt : Int), (64 * dw + n0), (by omega), (by omega), (by omega), (by omega), (by omega), (by omega), hix3, hey4, uq, Or.inr ⟨rfl, Or.inl ⟨rfl, (by omega)⟩, (by omega), (by dsimp only; omega), (by dsimp only; omega), (by omega), (by omega)⟩⟩
  · refine gy_icF rfl (by decide) (by decide) (by omega) (by omega) hc1 ?_
    refine gz_s 2 (pc' := 8) (L' := [some (.ref x), some (.int (zi qu)), none]) (S' := [.int (zi 100), .int (zi qu)]) rfl ?_
    by_cases hc6 : (qu : Int) ≤ 100
    · refine gy_icT (pc' := 21) rfl (by decide) (by decide) (by omega) (by omega) hc6 ?_
      refine gz_s 1 (pc' := 22) (L' := [some (.ref x), some (.int (zi qu)), none]) (S' := [.ref x]) rfl ?_
      refine gs_gtk rfl (by decide) rfl hS.1 tx rfl rfl ex3 ?_
      refine gs_gtk rfl (by decide) rfl hS.1 tdr rfl rfl edw ?_
      refine gz_s 1 (pc' := 29) (L' := [some (.ref x), some (.int (zi qu)), none]) (S' := [.int (zi 1), .int (zi dw)]) rfl ?_
      by_cases hc7 : (1 : Int) ≤ dw
      · refine gy_icT (pc' := 42) rfl (by decide) (by decide) (by omega) (by omega) hc7 ?_
        refine gz_s 1 (pc' := 43) (L' := [some (.ref x), some (.int (zi qu)), none]) (S' := [.ref x]) rfl ?_
        refine gs_nul rfl (by decide) rfl hS.1 tx rfl rfl rfl (fun ec8 => ?_) (fun c8 ec8 tc8 => ?_)
        · skip
          have no9 := gRw.no hrw ec8
          refine gz_s 2 (pc' := 50) (L' := [some (.ref x), some (.int (zi qu)), none]) (S' := [.ref x]) rfl ?_
          refine gs_newo rfl (by decide) rfl hS.1 (Nat.le_of_lt (Nat.lt_of_le_of_lt (gJ.cell hS.1 tx rfl).1 (gJ.cell hS.1 tx rfl).2.1)) (fun ty9 h10 c11 g12 tc11 kc11 zc11 nc11 mc11 ec11 dc11 => ?_)
          have mfc11 : h10.2.1 = h.2.1 + 15 := mc11
          have gac11 : h.1 ≤ c11 := by have h8 := G0.2.1; have h9 := hS.2.1; omega
          have nnc11 : 1027 ≤ c11 := by have h8 := (Nat.le_of_lt (Nat.lt_of_le_of_lt (gJ.cell hS.1 tx rfl).1 (gJ.cell hS.1 tx rfl).2.1)); omega
          have llc11 := Nat.lt_of_lt_of_eq (Nat.lt_succ_of_le (Nat.le_of_eq ec11)) nc11.symm
          have G13 : gSg [71, 72, 73, 74, 75, 76, 77, 78, 79, 80, 81, 85, 91, 92, 93, 94, 95, 96, 97, 98, 99, 114, 200] [] [50006, 55008, 56000, 56001, 56002, 56003, 64999, 71005, 71006, 71007, 71008, 71009, 71010, 71011, 71012, 71013, 71014, 72999, 73999, 74999, 76999, 77999, 78999, 79999, 80999, 81999, 85999, 91004, 91008, 92004, 92008, 93999, 94999, 95999, 96999, 97999, 98999, 99999, 114999] ty h ty9 h10 := gSg.tr (gSg.ss G0 hS (by decide)) g12 (by decide) (by decide) (fun x hx => by cases hx)
          have t14 : ty9 x = 50 := gSg.typ g12 hS.1 tx rfl
          have t15 : ty9 pic = 54 := gSg.typ g12 hS.1 tpic rfl
          have t16 : ty9 b0 = 82 := gSg.typ g12 hS.1 tb0 rfl
          have t17 : ty9 b1 = 83 := gSg.typ g12 hS.1 tb1 rfl
          have t18 : ty9 b2 = 84 := gSg.typ g12 hS.1 tb2 rfl
          have t19 : ty9 dr = 55 := gSg.typ g12 hS.1 tdr rfl
          have t20 : ty9 sk = 56 := gSg.typ g12 hS.1 tsk rfl
          have t21 : ty9 bt = 114 := gSg.typ g12 hS.1 tbt rfl
          have hl22 : h10.2.2.2.1 bt = h.2.2.2.1 bt := gSg.len g12 hS.1 tbt rfl
          have s23 := gSg.at g12 hS.1 tx rfl (by decide) ex2
          have s24 := gSg.at g12 hS.1 tx rfl (by decide) ex3
          have s25 := gSg.at g12 hS.1 tx rfl (by decide) ex4
          have s26 := gSg.at g12 hS.1 tsk rfl (by decide) ex0
          have s27 := gSg.at g12 hS.1 tdr rfl (by decide) en0
          have s28 := gSg.at g12 hS.1 tdr rfl (by decide) eiv
          have s29 := gSg.at g12 hS.1 tdr rfl (by decide) edw
          have s30 := gSg.at g12 hS.1 tsk rfl (by decide) ec0
          have s31 := gSg.at g12 hS.1 tx rfl (by decide) ec8
          have pr32 := gRow.gr g12 hS.1 rfl (by decide) (by decide) hyf64
          have pr33 := gPC.gr g12 hS.1 (by decide) hpc
          have pr34 := gTc.gr g12 hS.1 (by decide) (by decide) htc
          have pr35 := gRr.gr g12 hS.1 (by decide) (by decide) hrr
          have pr36 := gRw.gr g12 hS.1 (by decide) (by decide) hrw
          have pr37 : gNo [71, 72, 73, 74, 75, 76, 77, 78, 79, 80, 81, 85, 91, 92, 93, 94, 95, 96, 97, 98, 99] ty9 := gNo.gr g12 (by decide) (gNo.sub (by decide) no9)
          have uq38 := gSg.uq g12 uq (by decide)
          have hyst39 := gSta.gr g12 (by decide) (fun x hx => by cases hx) (gSta.fr hS.2 (by decide) hyst)
          have sS40 : gSs rT 1027 ty9 [50006, 55008, 56000, 56001, 56002, 56003, 64999, 71005, 71006, 71007, 71008, 71009, 71010, 71011, 71012, 71013, 71014, 72999, 73999, 74999, 76999, 77999, 78999, 79999, 80999, 81999, 85999, 91004, 91008, 92004, 92008, 93999, 94999, 95999, 96999, 97999, 98999, 99999, 114999] h10 h10 := gSs.rf g12.1
          refine gz_s 2 (pc' := 55) (L' := [some (.ref x), some (.int (zi qu)), none]) (S' := [.ref x, .ref c11, .ref c11, .ref x]) rfl ?_
          refine gs_gtk rfl (by decide) rfl sS40.1 t14 rfl rfl s25 ?_
          refine gz_call rfl (by decide) rfl (by decide) (by decide) (gcal_of rfl rfl rfl (Nat.le_of_ble_eq_true rfl) rfl) (ct_Writer _ sS40.1 c11 tc11 nnc11 llc11 kc11 zc11 dc11 sk t20 pr37 uq38) (fun q41 _ wq41 => ?_)
          obtain ⟨pq41, oq41, hq41⟩ := q41
          obtain ⟨tyq41, xq41, trq41_0, gq41, uq41_0, uq41_1, uqq41⟩ := wq41
          dsimp only at uq41_0 uq41_1
          refine ⟨_, gq41, ?_⟩
          show gz gPP gGG gcn _ _ 61 [some (.ref x), some (.int (zi qu)), none] [.ref c11, .ref x] hq41 _
          have G42 : gSg [71, 72, 73, 74, 75, 76, 77, 78, 79, 80, 81, 85, 91, 92, 93, 94, 95, 96, 97, 98, 99, 114, 200] [] [50006, 55008, 56000, 56001, 56002, 56003, 64999, 71005, 71006, 71007, 71008, 71009, 71010, 71011, 71012, 71013, 71014, 72999, 73999, 74999, 76999, 77999, 78999, 79999, 80999, 81999, 85999, 91004, 91008, 92004, 92008, 93999, 94999, 95999, 96999, 97999, 98999, 99999, 114999] ty h tyq41 hq41 := gSg.tr (gSg.ss G13 sS40 (by decide)) xq41 (by decide) (by decide) (fun x hx => Or.inl (by rw [List.mem_singleton.mp hx]; exact gac11))
          have t43 : tyq41 x = 50 := gSg.typ xq41 sS40.1 t14 rfl
          have t44 : tyq41 pic = 54 := gSg.typ xq41 sS40.1 t15 rfl
          have t45 : tyq41 b0 = 82 := gSg.typ xq41 sS40.1 t16 rfl
          have t46 : tyq41 b1 = 83 := gSg.typ xq41 sS40.1 t17 rfl
          have t47 : tyq41 b2 = 84 := gSg.typ xq41 sS40.1 t18 rfl
          have t48 : tyq41 dr = 55 := gSg.typ xq41 sS40.1 t19 rfl
          have t49 : tyq41 sk = 56 := gSg.typ xq41 sS40.1 t20 rfl
          have t50 : tyq41 bt = 114 := gSg.typ xq41 sS40.1 t21 rfl
          have hl51 : hq41.2.2.2.1 bt = h10.2.2.2.1 bt := gSg.len xq41 sS40.1 t21 rfl
          have s52 := gSg.at xq41 sS40.1 t14 rfl (by decide) s23
          have s53 := gSg.at xq41 sS40.1 t14 rfl (by decide) s24
          have s54 := gSg.at xq41 sS40.1 t14 rfl (by decide) s25
          have s55 := gSg.at xq41 sS40.1 t20 rfl (by decide) s26
          have s56 := gSg.at xq41 sS40.1 t19 rfl (by decide) s27
          have s57 := gSg.at xq41 sS40.1 t19 rfl (by decide) s28
          have s58 := gSg.at xq41 sS40.1 t19 rfl (by decide) s29
          have s59 := gSg.at xq41 sS40.1 t20 rfl (by decide) s30
          have s60 := gSg.at xq41 sS40.1 t14 rfl (by decide) s31
          have pr61 := gRow.gr xq41 sS40.1 rfl (by decide) (by decide) pr32
          have pr62 := gPC.gr xq41 sS40.1 (by decide) pr33
          have pr63 := gTc.gr xq41 sS40.1 (by decide) (by decide) pr34
          have pr64 := gRr.gr xq41 sS40.1 (by decide) (by decide) pr35
          have hyst65 := gSta.gr xq41 (by decide) (fun x hx => by rw [List.mem_singleton.mp hx]; have h9 := nnc11; omega) (gSta.fr sS40.2 (by decide) hyst39)
          have sS66 : gSs rT 1027 tyq41 [50006, 55008, 56000, 56001, 56002, 56003, 64999, 71005, 71006, 71007, 71008, 71009, 71010, 71011, 71012, 71013, 71014, 72999, 73999, 74999, 76999, 77999, 78999, 79999, 80999, 81999, 85999, 91004, 91008, 92004, 92008, 93999, 94999, 95999, 96999, 97999, 98999, 99999, 114999] hq41 hq41 := gSs.rf xq41.1
          refine gs_ptr (s9 := 0) rfl (by decide) rfl sS66 t43 rfl rfl (Or.inr rfl) rfl (Or.inl rfl) (by decide) trq41_0 (fun h67 sh67 eh67 fh67 => ?_)
          have pr68 := gRow.pt fh67 t43 (by decide) pr61
          have pr69 := gPC.pk fh67 (sh67.2.2.2.2.1.trans sS66.2.2.2.2.1.symm) t43 (by decide) pr62
          have pr70 := gTc.pt fh67 t43 (by decide) pr63
          have pr71 := gRr.pk fh67 (sh67.2.2.2.2.1.trans sS66.2.2.2.2.1.symm) t43 (by decide) pr64
          have s72 := (fh67 x 2 (fun q => absurd q.2 (by decide))).trans s52
          have s73 := (fh67 x 3 (fun q => absurd q.2 (by decide))).trans s53
          have s74 := (fh67 x 4 (fun q => absurd q.2 (by decide))).trans s54
          have s75 := (fh67 sk 0 (fun q => absurd q.2 (by decide))).trans s55
          have s76 := (fh67 dr 8 (fun q => absurd q.2 (by decide))).trans s56
          have s77 := (fh67 dr 3 (fun q => absurd q.2 (by decide))).trans s57
          have s78 := (fh67 dr 1 (fun q => absurd q.2 (by decide))).trans s58
          have s79 := (fh67 sk 1 (fun q => absurd q.2 (by decide))).trans s59
          refine gz_s 1 (pc' := 65) (L' := [some (.ref x), some (.int (zi qu)), none]) (S' := [.ref x]) rfl ?_
          refine gs_gtk rfl (by decide) rfl sh67.1 t43 rfl rfl eh67 ?_
          refine gz_s 1 (pc' := 69) (L' := [some (.ref x), some (.int (zi qu)), none]) (S' := [.ref x, .ref c11]) rfl ?_
          refine gs_gtr rfl (by decide) rfl sh67.1 t43 rfl rfl rfl (fun c80 ec80 tc80 => ?_)
          refine gz_s 1 (pc' := 73) (L' := [some (.ref x), some (.int (zi qu)), none]) (S' := [.int (zi qu), .ref c80, .ref c11]) rfl ?_
          refine gz_call rfl (by decide) rfl (by decide) (by decide) (gcal_of rfl rfl rfl (Nat.le_of_ble_eq_true rfl) (gJ.recv (G := gGG) sh67.1 trq41_0 rfl rfl)) (cl_Writer_makeTable _ sh67.1 c11 trq41_0 c80 tc80 qu ⟨by omega, by omega⟩ uqq41) (fun q81 _ wq81 => ?_)
          obtain ⟨pq81, oq81, hq81⟩ := q81
          obtain ⟨xq81, gq81⟩ := wq81
          refine ⟨_, gq81, ?_⟩
          show gz gPP gGG gcn _ _ 76 [some (.ref x), some (.int (zi qu)), none] [] hq81 _
          have sq81 : gSs rT 1027 tyq41 [50006, 55008, 56000, 56001, 56002, 56003, 64999, 71005, 71006, 71007, 71008, 71009, 71010, 71011, 71012, 71013, 71014, 72999, 73999, 74999, 76999, 77999, 78999, 79999, 80999, 81999, 85999, 91004, 91008, 92004, 92008, 93999, 94999, 95999, 96999, 97999, 98999, 99999, 114999] hq41 hq81 := gSs.tr sh67 xq81 (by decide)
          have s82 := (xq81.2.2.2.2.2 x 2 (by rw [t43]; decide)).trans s72
          have s83 := (xq81.2.2.2.2.2 x 3 (by rw [t43]; decide)).trans s73
          have s84 := (xq81.2.2.2.2.2 x 4 (by rw [t43]; decide)).trans s74
          have s85 := (xq81.2.2.2.2.2 sk 0 (by rw [t49]; decide)).trans s75
          have s86 := (xq81.2.2.2.2.2 dr 8 (by rw [t48]; decide)).trans s76
          have s87 := (xq81.2.2.2.2.2 dr 3 (by rw [t48]; decide)).trans s77
          have s88 := (xq81.2.2.2.2.2 dr 1 (by rw [t48]; decide)).trans s78
          have s89 := (xq81.2.2.2.2.2 sk 1 (by rw [t49]; decide)).trans s79
          have s90 := (xq81.2.2.2.2.2 x 6 (by rw [t43]; decide)).trans eh67
          have s91 := (xq81.2.2.2.2.2 x 1 (by rw [t43]; decide)).trans ec80
          have pr92 := gRow.fr xq81.2 (by decide) pr68
          have pr93 := gPC.fr xq81.2 (by decide) pr69
          have pr94 := gTc.fr xq81.2 (by decide) pr70
          have pr95 := gRr.fr xq81.2 (by decide) pr71
          refine gz_s 1 (pc' := 77) (L' := [some (.ref x), some (.int (zi qu)), none]) (S' := [.ref x]) rfl ?_
          refine gs_gtk rfl (by decide) rfl sq81.1 t43 rfl rfl s90 ?_
          refine gz_s 1 (pc' := 81) (L' := [some (.ref x), some (.int (zi qu)), none]) (S' := [.ref x, .ref c11]) rfl ?_
          refine gs_gtk rfl (by decide) rfl sq81.1 t43 rfl rfl s83 ?_
          refine gz_call rfl (by decide) rfl (by decide) (by decide) (gcal_of rfl rfl rfl (Nat.le_of_ble_eq_true rfl) (gJ.recv (G := gGG) sq81.1 trq41_0 rfl rfl)) (cl_Writer_transformCanvas _ sq81.1 c11 trq41_0 dr t48 (gSta.fr sq81.2 (by decide) hyst65) uqq41) (fun q96 _ wq96 => ?_)
          obtain ⟨pq96, oq96, hq96⟩ := q96
          obtain ⟨xq96, gq96⟩ := wq96
          refine ⟨_, gq96, ?_⟩
          show gz gPP gGG gcn _ _ 87 [some (.ref x), some (.int (zi qu)), none] [] hq96 _
          have sq96 : gSs rT 1027 tyq41 [50006, 55008, 56000, 56001, 56002, 56003, 64999, 71005, 71006, 71007, 71008, 71009, 71010, 71011, 71012, 71013, 71014, 72999, 73999, 74999, 76999, 77999, 78999, 79999, 80999, 81999, 85999, 91004, 91008, 92004, 92008, 93999, 94999, 95999, 96999, 97999, 98999, 99999, 114999] hq41 hq96 := gSs.tr sq81 xq96 (by decide)
          have s97 := (xq96.2.2.2.2.2 x 2 (by rw [t43]; decide)).trans s82
          have s98 := (xq96.2.2.2.2.2 x 3 (by rw [t43]; decide)).trans s83
          have s99 := (xq96.2.2.2.2.2 x 4 (by rw [t43]; decide)).trans s84
          have s100 := (xq96.2.2.2.2.2 sk 0 (by rw [t49]; decide)).trans s85
          have s101 := (xq96.2.2.2.2.2 dr 8 (by rw [t48]; decide)).trans s86
          have s102 := (xq96.2.2.2.2.2 dr 3 (by rw [t48]; decide)).trans s87
          have s103 := (xq96.2.2.2.2.2 dr 1 (by rw [t48]; decide)).trans s88
          have s104 := (xq96.2.2.2.2.2 sk 1 (by rw [t49]; decide)).trans s89
          have s105 := (xq96.2.2.2.2.2 x 6 (by rw [t43]; decide)).trans s90
          have s106 := (xq96.2.2.2.2.2 x 1 (by rw [t43]; decide)).trans s91
          have pr107 := gRow.fr xq96.2 (by decide) pr92
          have pr108 := gPC.fr xq96.2 (by decide) pr93
          have pr109 := gTc.fr xq96.2 (by decide) pr94
          have pr110 := gRr.fr xq96.2 (by decide) pr95
          refine gz_s 1 (pc' := 88) (L' := [some (.ref x), some (.int (zi qu)), none]) (S' := [.ref x]) rfl ?_
          refine gs_gtk rfl (by decide) rfl sq96.1 t43 rfl rfl s105 ?_
          refine gz_s 1 (pc' := 92) (L' := [some (.ref x), some (.int (zi qu)), none]) (S' := [.ref x, .ref c11]) rfl ?_
          refine gs_gtk rfl (by decide) rfl sq96.1 t43 rfl rfl s98 ?_
          have k111 := sq96.2.1
          have k111b := sq96.2.2.1
          have hl112 : hq96.2.2.2.1 bt = hq41.2.2.2.1 bt := congrFun sq96.2.2.2.2.1 bt
          obtain ⟨c113, ec113, tc113⟩ := gJ.ref (k := 0) (G := gGG) sq96.1 trq41_0 rfl rfl rfl
          have ee114 : sk = c113 := uqq41 sk c113 (t49.trans tc113.symm) (by rw [t49]; decide) (by rw [t49]; decide)
          subst ee114
          refine gz_call rfl (by decide) rfl (by decide) (by decide) (gcal_of rfl rfl rfl (Nat.le_of_ble_eq_true rfl) (gJ.recv (G := gGG) sq96.1 trq41_0 rfl rfl)) (cl_Writer_putHead _ sq96.1 c11 trq41_0 dr t48 sk ec113 t49 bt s100 t50 uqq41) (fun q115 _ wq115 => ?_)
          obtain ⟨pq115, oq115, hq115⟩ := q115
          obtain ⟨tyq115, xq115, cq115_0, ttq115, fq115_0, fq115_1, ecq115_0, tcq115_0, gq115, efq115_0, afq115_0, bfq115_0, efq115_1, afq115_1, bfq115_1, uq115_0, uq115_1, uq115_2, uq115_3, uq115_4, uq115_5⟩ := wq115
          dsimp only at uq115_2 uq115_3 uq115_4 uq115_5
          refine ⟨_, gq115, ?_⟩
          show gz gPP gGG gcn _ _ 98 [some (.ref x), some (.int (zi qu)), none] [] hq115 _
          have G116 : gSg [71, 72, 73, 74, 75, 76, 77, 78, 79, 80, 81, 85, 91, 92, 93, 94, 95, 96, 97, 98, 99, 114, 200] [] [50006, 55008, 56000, 56001, 56002, 56003, 64999, 71005, 71006, 71007, 71008, 71009, 71010, 71011, 71012, 71013, 71014, 72999, 73999, 74999, 76999, 77999, 78999, 79999, 80999, 81999, 85999, 91004, 91008, 92004, 92008, 93999, 94999, 95999, 96999, 97999, 98999, 99999, 114999] ty h tyq115 hq115 := gSg.tr (gSg.ss G42 sq96 (by decide)) xq115 (by decide) (by decide) (fun x hx => by cases hx)
          have t117 : tyq115 x = 50 := gSg.typ xq115 sq96.1 t43 rfl
          have t118 : tyq115 pic = 54 := gSg.typ xq115 sq96.1 t44 rfl
          have t119 : tyq115 b0 = 82 := gSg.typ xq115 sq96.1 t45 rfl
          have t120 : tyq115 b1 = 83 := gSg.typ xq115 sq96.1 t46 rfl
          have t121 : tyq115 b2 = 84 := gSg.typ xq115 sq96.1 t47 rfl
          have t122 : tyq115 dr = 55 := gSg.typ xq115 sq96.1 t48 rfl
          have t123 : tyq115 sk = 56 := gSg.typ xq115 sq96.1 t49 rfl
          have t124 : tyq115 bt = 114 := gSg.typ xq115 sq96.1 t50 rfl
          have hl125 : hq115.2.2.2.1 bt = hq96.2.2.2.1 bt := gSg.len xq115 sq96.1 t50 rfl
          have t126 : tyq115 c11 = 71 := gSg.typ xq115 sq96.1 trq41_0 rfl
          have t127 : tyq115 c80 = 53 := gSg.typ xq115 sq96.1 tc80 rfl
          have s128 := gSg.at xq115 sq96.1 t43 rfl (by decide) s97
          have s129 := gSg.at xq115 sq96.1 t43 rfl (by decide) s98
          have s130 := gSg.at xq115 sq96.1 t43 rfl (by decide) s99
          have s131 := gSg.at xq115 sq96.1 t48 rfl (by decide) s101
          have s132 := gSg.at xq115 sq96.1 t48 rfl (by decide) s102
          have s133 := gSg.at xq115 sq96.1 t48 rfl (by decide) s103
          have s134 := gSg.at xq115 sq96.1 t43 rfl (by decide) s105
          have s135 := gSg.at xq115 sq96.1 t43 rfl (by decide) s106
          have s136 := gSg.at xq115 sq96.1 trq41_0 rfl (by decide) ec113
          have pr137 := gRow.gr xq115 sq96.1 rfl (by decide) (by decide) pr107
          have pr138 := gPC.gr xq115 sq96.1 (by decide) pr108
          have pr139 := gTc.gr xq115 sq96.1 (by decide) (by decide) pr109
          have pr140 := gRr.gr xq115 sq96.1 (by decide) (by decide) pr110
          have uq141 := gSg.uq xq115 uqq41 (by decide)
          have hyst142 := gSta.gr xq115 (by decide) (fun x hx => by cases hx) (gSta.fr sq96.2 (by decide) hyst65)
          have sS143 : gSs rT 1027 tyq115 [50006, 55008, 56000, 56001, 56002, 56003, 64999, 71005, 71006, 71007, 71008, 71009, 71010, 71011, 71012, 71013, 71014, 72999, 73999, 74999, 76999, 77999, 78999, 79999, 80999, 81999, 85999, 91004, 91008, 92004, 92008, 93999, 94999, 95999, 96999, 97999, 98999, 99999, 114999] hq115 hq115 := gSs.rf xq115.1
          refine gz_s 1 (pc' := 99) (L' := [some (.ref x), some (.int (zi qu)), none]) (S' := [.ref x]) rfl ?_
          refine gs_gtk rfl (by decide) rfl sS143.1 t117 rfl rfl s129 ?_
          refine gs_gtk rfl (by decide) rfl sS143.1 t122 rfl rfl s131 ?_
          by_cases hc144 : ¬ (n0 : Int) = 0
          · refine gy_ifT (pc' := 120) rfl (by decide) (by decide) (by omega) hc144 ?_
            obtain ⟨tf, tt, cf, rf, rt, rc, tle, tsm⟩ := pr139
            have hg0 := gsf_nn (f := fun j => gcr (cf j)) (fun j => by unfold gcr; split <;> omega) 64
            have hgl0 : gTl tf tt 0 = 0 := rfl
            refine gz_s 2 (pc' := 122) (L' := [some (.ref x), some (.int (zi qu)), some (.int (zi 0))]) (S' := []) rfl ?_
            have lp145 : ∀ (fu : Nat) (ty147 : Nat → Nat) (h146 : gH) (bv : Nat) (i : Int) (cv : Int) (hv : Int), (11 - i).toNat < fu → gSg [71, 72, 73, 74, 75, 76, 77, 78, 79, 80, 81, 85, 91, 92, 93, 94, 95, 96, 97, 98, 99, 114, 200] [] [50006, 55008, 56000, 56001, 56002, 56003, 64999, 71005, 71006, 71007, 71008, 71009, 71010, 71011, 71012, 71013, 71014, 72999, 73999, 74999, 76999, 77999, 78999, 79999, 80999, 81999, 85999, 91004, 91008, 92004, 92008, 93999, 94999, 95999, 96999, 97999, 98999, 99999, 114999] ty h ty147 h146 → gUq ty147 → gSta ty147 h146 → ty147 x = 50 → ty147 pic = 54 → ty147 dr = 55 → ty147 sk = 56 → ty147 c11 = 71 → ty147 c80 = 53 → h146.2.2.2.2 sk 0 = .ref bv → ty147 bv = 114 → (0 ≤ i ∧ i ≤ 10) → (0 ≤ cv ∧ cv ≤ 499999) → (0 ≤ hv ∧ hv ≤ 7) → ((n0 = 0 ∧ 4 * cv + hv ≤ 336000) ∨ 4 * cv + hv ≤ 400 + 7876 * i + 5120 * gTl tf tt i) → (i ≤ n0) → (cv ≤ (h146.2.2.2.1 bv : Int)) → (1024 * (((h146.1 : Int) - h.1) - 21) ≤ (h146.2.2.2.1 bv : Int) - lb) → (((h146.2.1 : Int) - h.2.1) ≤ 4303 + 2 * ((h146.2.2.2.1 bv : Int) - lb)) → (lb ≤ (h146.2.2.2.1 bv : Int)) → h146.2.2.2.2 x 2 = .ref pic → h146.2.2.2.2 x 3 = .ref dr → h146.2.2.2.2 x 4 = .ref sk → h146.2.2.2.2 dr 8 = .int (zi n0) → h146.2.2.2.2 dr 3 = .int (zi i0) → h146.2.2.2.2 dr 1 = .int (zi dw) → h146.2.2.2.2 x 6 = .ref c11 → h146.2.2.2.2 x 1 = .ref c80 → h146.2.2.2.2 c11 0 = .ref sk → h146.2.2.2.2 sk 1 = .int (zi cv) → h146.2.2.2.2 sk 3 = .int (zi hv) → gRow ty147 64 f h146 → gPC ty147 pic b0 b1 b2 ld h146 → gRr ty147 x h146 → gRow ty147 60 tf h146 → gRow ty147 61 tt h146 → gz gPP gGG gcn (d + 8) gt89 122 [some (.ref x), some (.int (zi qu)), some (.int (zi i))] [] h146 (fun q _ => ∃ ty9 : Nat → Nat, gSg [71, 72, 73, 74, 75, 76, 77, 78, 79, 80, 81, 85, 91, 92, 93, 94, 95, 96, 97, 98, 99, 114, 200] [] [50006, 55008, 56000, 56001, 56002, 56003, 64999, 71005, 71006, 71007, 71008, 71009, 71010, 71011, 71012, 71013, 71014, 72999, 73999, 74999, 76999, 77999, 78999, 79999, 80999, 81999, 85999, 91004, 91008, 92004, 92008, 93999, 94999, 95999, 96999, 97999, 98999, 99999, 114999] ty h ty9 q.2.2 ∧ ∃ ld1 lb1 iv1 : Int, 0 ≤ ld1 ∧ ld1 ≤ 192 ∧ 1024 ≤ lb1 ∧ lb1 ≤ 1000000 ∧ 0 ≤ iv1 ∧ iv1 ≤ 2058 ∧ (gIx ty9 x ld1 lb1 iv1 q.2.2) ∧ (gEy ty9 64 f qu (iv / 64) q.2.2) ∧ gUq ty9 ∧ ((∃ z : Int, gfin gt89 q.1 q.2.1 = some (some (.int (zi z))) ∧ (-2147483648) ≤ z ∧ z ≤ 2147483647 ∧ (1 ≤ qu) ∧ (qu ≤ 100) ∧ (64 ≤ iv) ∧ (iv1 = iv - iv % 64) ∧ (1024 * (((q.2.2.1 : Int) - h.1) - 31 - 2 * (ld1 - ld)) ≤ lb1 - lb) ∧ (((q.2.2.2.1 : Int) - h.2.1) ≤ 4303 + 12480 * (ld1 - ld) + 2 * (lb1 - lb)) ∧ (ld ≤ ld1) ∧ (lb ≤ lb1)) ∨ (q.2.1 = [] ∧ ((q.1 = 11 ∧ (¬ (1 ≤ qu ∧ qu ≤ 100))) ∨ (q.1 = 32 ∧ (iv < 64))) ∧ (iv1 = iv) ∧ (1024 * (((q.2.2.1 : Int) - h.1) - 31 - 2 * (ld1 - ld)) ≤ lb1 - lb) ∧ (((q.2.2.2.1 : Int) - h.2.1) ≤ 4303 + 12480 * (ld1 - ld) + 2 * (lb1 - lb)) ∧ (ld ≤ ld1) ∧ (lb ≤ lb1)))) := by
              intro fu
              induction fu with
              | zero => intro ty147 h146 bv i cv hv hm; exact absurd hm (Nat.not_lt_zero _)
              | succ fu ihlp145 =>
                intro ty147 h146 bv i cv hv lp145m lp145G lp145u lp145t lp145c0 lp145c1 lp145c2 lp145c3 lp145c4 lp145c5 lp145r0 lp145r1 lp145f0 lp145f1 lp145f2 lp145f3 lp145f4 lp145f5 lp145f6 lp145f7 lp145f8 lp145k0 lp145k1 lp145k2 lp145k3 lp145k4 lp145k5 lp145k6 lp145k7 lp145k8 lp145k9 lp145k10 lp145k11 lp145k12 lp145k13 lp145k14 lp145k15
                have sh146 : gSs rT 1027 ty147 [50006, 55008, 56000, 56001, 56002, 56003, 64999, 71005, 71006, 71007, 71008, 71009, 71010, 71011, 71012, 71013, 71014, 72999, 73999, 74999, 76999, 77999, 78999, 79999, 80999, 81999, 85999, 91004, 91008, 92004, 92008, 93999, 94999, 95999, 96999, 97999, 98999, 99999, 114999] h146 h146 := gSs.rf lp145G.1
                refine gz_s 2 (pc' := 124) (L' := [some (.ref x), some (.int (zi qu)), some (.int (zi i))]) (S' := [.ref x, .int (zi i)]) rfl ?_
                refine gs_gtk rfl (by decide) rfl sh146.1 lp145c0 rfl rfl lp145k1 ?_
                refine gs_gtk rfl (by decide) rfl sh146.1 lp145c2 rfl rfl lp145k3 ?_
                by_cases hc148 : (n0 : Int) ≤ i
                · refine gy_icT (pc' := 182) rfl (by decide) (by decide) (by omega) (by omega) hc148 ?_
                  have hgl9 : gTl tf tt i = gTl tf tt n0 := by rw [show i = n0 from Int.le_antisymm (by omega) (by omega)]
                  refine gz_s 1 (pc' := 183) (L' := [some (.ref x), some (.int (zi qu)), some (.int (zi i))]) (S' := [.ref x]) rfl ?_
                  refine gs_gtk rfl (by decide) rfl sh146.1 lp145c0 rfl rfl lp145k6 ?_
                  have hl149 : h146.2.2.2.1 bv = h146.2.2.2.1 bv := congrFun sh146.2.2.2.2.1 bv
                  refine gz_call rfl (by decide) rfl (by decide) (by decide) (gcal_of rfl rfl rfl (Nat.le_of_ble_eq_true rfl) (gJ.recv (G := gGG) sh146.1 lp145c4 rfl rfl)) (cl_Writer_putEnd _ sh146.1 c11 lp145c4 sk lp145k8 lp145c3 bv lp145r0 lp145r1 cv lp145k9 ⟨by omega, by omega⟩ (by omega) lp145u) (fun q150 _ wq150 => ?_)
                  obtain ⟨pq150, oq150, hq150⟩ := q150
                  obtain ⟨tyq150, xq150, cq150_0, ttq150, fq150_0, ecq150_0, tcq150_0, gq150, efq150_0, afq150_0, bfq150_0, uq150_0, uq150_1, uq150_2, uq150_3, uq150_4⟩ := wq150
                  dsimp only at uq150_1 uq150_2 uq150_3 uq150_4
                  refine ⟨_, gq150, ?_⟩
                  show gz gPP gGG gcn _ _ 189 [some (.ref x), some (.int (zi qu)), some (.int (zi i))] [] hq150 _
                  have G151 : gSg [71, 72, 73, 74, 75, 76, 77, 78, 79, 80, 81, 85, 91, 92, 93, 94, 95, 96, 97, 98, 99, 114, 200] [] [50006, 55008, 56000, 56001, 56002, 56003, 64999, 71005, 71006, 71007, 71008, 71009, 71010, 71011, 71012, 71013, 71014, 72999, 73999, 74999, 76999, 77999, 78999, 79999, 80999, 81999, 85999, 91004, 91008, 92004, 92008, 93999, 94999, 95999, 96999, 97999, 98999, 99999, 114999] ty h tyq150 hq150 := gSg.tr (gSg.ss lp145G sh146 (by decide)) xq150 (by decide) (by decide) (fun x hx => by cases hx)
                  have t152 : tyq150 x = 50 := gSg.typ xq150 sh146.1 lp145c0 rfl
                  have t153 : tyq150 pic = 54 := gSg.typ xq150 sh146.1 lp145c1 rfl
                  have t154 : tyq150 dr = 55 := gSg.typ xq150 sh146.1 lp145c2 rfl
                  have t155 : tyq150 sk = 56 := gSg.typ xq150 sh146.1 lp145c3 rfl
                  have t156 : tyq150 c11 = 71 := gSg.typ xq150 sh146.1 lp145c4 rfl
                  have t157 : tyq150 c80 = 53 := gSg.typ xq150 sh146.1 lp145c5 rfl
                  have t158 : tyq150 bv = 114 := gSg.typ xq150 sh146.1 lp145r1 rfl
                  have hl159 : hq150.2.2.2.1 bv = h146.2.2.2.1 bv := gSg.len xq150 sh146.1 lp145r1 rfl
                  have s160 := gSg.at xq150 sh146.1 lp145c0 rfl (by decide) lp145k0
                  have s161 := gSg.at xq150 sh146.1 lp145c0 rfl (by decide) lp145k1
                  have s162 := gSg.at xq150 sh146.1 lp145c0 rfl (by decide) lp145k2
                  have s163 := gSg.at xq150 sh146.1 lp145c2 rfl (by decide) lp145k3
                  have s164 := gSg.at xq150 sh146.1 lp145c2 rfl (by decide) lp145k4
                  have s165 := gSg.at xq150 sh146.1 lp145c2 rfl (by decide) lp145k5
                  have s166 := gSg.at xq150 sh146.1 lp145c0 rfl (by decide) lp145k6
                  have s167 := gSg.at xq150 sh146.1 lp145c0 rfl (by decide) lp145k7
                  have s168 := gSg.at xq150 sh146.1 lp145c4 rfl (by decide) lp145k8
                  have s169 := gSg.at xq150 sh146.1 lp145c3 rfl (by decide) lp145k10
                  have pr170 := gRow.gr xq150 sh146.1 rfl (by decide) (by decide) lp145k11
                  have pr171 := gPC.gr xq150 sh146.1 (by decide) lp145k12
                  have pr172 := gRr.gr xq150 sh146.1 (by decide) (by decide) lp145k13
                  have pr173 := gRow.gr xq150 sh146.1 rfl (by decide) (by decide) lp145k14
                  have pr174 := gRow.gr xq150 sh146.1 rfl (by decide) (by decide) lp145k15
                  have uq175 := gSg.uq xq150 lp145u (by decide)
                  have hyst176 := gSta.gr xq150 (by decide) (fun x hx => by cases hx) (gSta.fr sh146.2 (by decide) lp145t)
                  have sS177 : gSs rT 1027 tyq150 [50006, 55008, 56000, 56001, 56002, 56003, 64999, 71005, 71006, 71007, 71008, 71009, 71010, 71011, 71012, 71013, 71014, 72999, 73999, 74999, 76999, 77999, 78999, 79999, 80999, 81999, 85999, 91004, 91008, 92004, 92008, 93999, 94999, 95999, 96999, 97999, 98999, 99999, 114999] hq150 hq150 := gSs.rf xq150.1
                  refine gz_s 1 (pc' := 190) (L' := [some (.ref x), some (.int (zi qu)), some (.int (zi i))]) (S' := [.ref x]) rfl ?_
                  refine gs_gtk rfl (by decide) rfl sS177.1 t152 rfl rfl s161 ?_
                  refine gz_call rfl (by decide) rfl (by decide) (by decide) (gcal_of rfl rfl rfl (Nat.le_of_ble_eq_true rfl) (gJ.recv (G := gGG) sS177.1 t154 rfl rfl)) (cl_Draft_forgetScans _ sS177.1 dr t154 uq175) (fun q178 _ wq178 => ?_)
                  obtain ⟨pq178, oq178, hq178⟩ := q178
                  obtain ⟨xq178, fq178_0, gq178, efq178_0, afq178_0, bfq178_0, uq178_0, yq178_0, yq178_1⟩ := wq178
                  refine ⟨_, gq178, ?_⟩
                  show gz gPP gGG gcn _ _ 196 [some (.ref x), some (.int (zi qu)), some (.int (zi i))] [] hq178 _
                  have sq178 : gSs rT 1027 tyq150 [50006, 55008, 56000, 56001, 56002, 56003, 64999, 71005, 71006, 71007, 71008, 71009, 71010, 71011, 71012, 71013, 71014, 72999, 73999, 74999, 76999, 77999, 78999, 79999, 80999, 81999, 85999, 91004, 91008, 92004, 92008, 93999, 94999, 95999, 96999, 97999, 98999, 99999, 114999] hq150 hq178 := gSs.tr sS177 xq178 (by decide)
                  have s179 := (xq178.2.2.2.2.2 x 2 (by rw [t152]; decide)).trans s160
                  have s180 := (xq178.2.2.2.2.2 x 3 (by rw [t152]; decide)).trans s161
                  have s181 := (xq178.2.2.2.2.2 x 4 (by rw [t152]; decide)).trans s162
                  have s182 := (xq178.2.2.2.2.2 dr 3 (by rw [t154]; decide)).trans s164
                  have s183 := (xq178.2.2.2.2.2 dr 1 (by rw [t154]; decide)).trans s165
                  have s184 := (xq178.2.2.2.2.2 x 6 (by rw [t152]; decide)).trans s166
                  have s185 := (xq178.2.2.2.2.2 x 1 (by rw [t152]; decide)).trans s167
                  have s186 := (xq178.2.2.2.2.2 c11 0 (by rw [t156]; decide)).trans s168
                  have s187 := (xq178.2.2.2.2.2 sk 3 (by rw [t155]; decide)).trans s169
                  have s188 := (xq178.2.2.2.2.2 sk 0 (by rw [t155]; decide)).trans ecq150_0
                  have s189 := (xq178.2.2.2.2.2 sk 1 (by rw [t155]; decide)).trans efq150_0
                  have pr190 := gPC.fr xq178.2 (by decide) pr171
                  have pr191 := gRr.fr xq178.2 (by decide) pr172
                  have pr192 := gRow.fr xq178.2 (by decide) pr173
                  have pr193 := gRow.fr xq178.2 (by decide) pr174
                  refine gz_s 1 (pc' := 197) (L' := [some (.ref x), some (.int (zi qu)), some (.int (zi i))]) (S' := [.ref x]) rfl ?_
                  refine gs_gtk rfl (by decide) rfl sq178.1 t152 rfl rfl s181 ?_
                  refine gs_gtk rfl (by decide) rfl sq178.1 t155 rfl rfl s189 ?_
                  have k194 := sq178.2.1
                  have k194b := sq178.2.2.1
                  have hl195 : hq178.2.2.2.1 bv = hq150.2.2.2.1 bv := congrFun sq178.2.2.2.2.1 bv
                  have hl196 : hq178.2.2.2.1 cq150_0 = hq150.2.2.2.1 cq150_0 := congrFun sq178.2.2.2.2.1 cq150_0
                  have hl197 : 1024 ≤ hq178.2.2.2.1 bv ∧ hq178.2.2.2.1 bv ≤ 1000000 := gJ.rowl (G := gGG) sq178.1 t158 rfl
                  have hl198 : 1024 ≤ hq178.2.2.2.1 cq150_0 ∧ hq178.2.2.2.1 cq150_0 ≤ 1000000 := gJ.rowl (G := gGG) sq178.1 tcq150_0 rfl
                  have k199 := sq178.2.1
                  have k199b := sq178.2.2.1
                  have hl200 : hq178.2.2.2.1 bv = hq150.2.2.2.1 bv := congrFun sq178.2.2.2.2.1 bv
                  have hl201 : hq178.2.2.2.1 cq150_0 = hq150.2.2.2.1 cq150_0 := congrFun sq178.2.2.2.2.1 cq150_0
                  have hix202 : gIx tyq150 x ld (hq178.2.2.2.1 cq150_0 : Int) (64 * dw + fq178_0) hq178 := ⟨pic, b0, b1, b2, dr, sk, cq150_0, fq178_0, fq150_0, i0, dw, ⟨t152, t154, t155, tcq150_0⟩, ⟨s179, s180, s181, s188⟩, pr190, (by rw [(by omega : fq178_0 = 0)]; exact yq178_0), ⟨efq178_0, by omega, by omega⟩, ⟨s182, by omega, by omega⟩, ⟨s189, by omega, by omega⟩, ⟨by omega, by omega⟩, pr191, ⟨t152, Or.inr ⟨c11, s184, t156⟩⟩, ⟨s183, by omega, by omega⟩, rfl⟩
                  have hey203 : gEy tyq150 64 f qu (iv / 64) hq178 := gEy.oy yq178_1 ⟨by omega, by omega, by omega⟩
                  have G204 : gSg [71, 72, 73, 74, 75, 76, 77, 78, 79, 80, 81, 85, 91, 92, 93, 94, 95, 96, 97, 98, 99, 114, 200] [] [50006, 55008, 56000, 56001, 56002, 56003, 64999, 71005, 71006, 71007, 71008, 71009, 71010, 71011, 71012, 71013, 71014, 72999, 73999, 74999, 76999, 77999, 78999, 79999, 80999, 81999, 85999, 91004, 91008, 92004, 92008, 93999, 94999, 95999, 96999, 97999, 98999, 99999, 114999] ty h tyq150 hq178 := gSg.ss G151 sq178 (by decide)
                  exact gz_end (I := .ireturn) (len := 1) rfl (Or.inl rfl) ⟨tyq150, G204, ld, (hq178.2.2.2.1 cq150_0 : Int), (64 * dw + fq178_0), (by omega), (by omega), (by omega), (by omega), (by omega), (by omega), hix202, hey203, uq175, Or.inl ⟨fq150_0, rfl, (by omega), (by omega), (by omega), (by omega), (by omega), (by omega), (by dsimp only; omega), (by dsimp only; omega), (by omega), (by omega)⟩⟩
                · refine gy_icF rfl (by decide) (by decide) (by omega) (by omega) hc148 ?_
                  refine gz_s 1 (pc' := 134) (L' := [some (.ref x), some (.int (zi qu)), some (.int (zi i))]) (S' := [.ref x]) rfl ?_
                  refine gs_gtk rfl (by decide) rfl sh146.1 lp145c0 rfl rfl lp145k6 ?_
                  refine gz_s 1 (pc' := 138) (L' := [some (.ref x), some (.int (zi qu)), some (.int (zi i))]) (S' := [.ref x, .ref c11]) rfl ?_
                  refine gs_gtk rfl (by decide) rfl sh146.1 lp145c0 rfl rfl lp145k1 ?_
                  refine gs_gtr rfl (by decide) rfl sh146.1 lp145c2 rfl rfl rfl (fun c205 ec205 tc205 => ?_)
                  refine gz_s 1 (pc' := 145) (L' := [some (.ref x), some (.int (zi qu)), some (.int (zi i))]) (S' := [.int (zi i), .ref c205, .ref c11]) rfl ?_
                  have hl206 : 10 ≤ h146.2.2.2.1 c205 ∧ h146.2.2.2.1 c205 ≤ 10 := gJ.rowl (G := gGG) sh146.1 tc205 rfl
                  refine gs_ald rfl (by decide) sh146.1 tc205 rfl rfl rfl (by decide) (fun _ => rfl) (by omega) (by omega) (fun z207 ez207 az207 bz207 => ?_)
                  have hf208 := gRow.at (i := i) (z := z207) lp145k14 tc205 ez207 (by omega) (by omega) (by omega)
                  refine gz_s 1 (pc' := 147) (L' := [some (.ref x), some (.int (zi qu)), some (.int (zi i))]) (S' := [.ref x, .int (zi z207), .ref c11]) rfl ?_
                  refine gs_gtk rfl (by decide) rfl sh146.1 lp145c0 rfl rfl lp145k1 ?_
                  refine gs_gtr rfl (by decide) rfl sh146.1 lp145c2 rfl rfl rfl (fun c209 ec209 tc209 => ?_)
                  refine gz_s 1 (pc' := 154) (L' := [some (.ref x), some (.int (zi qu)), some (.int (zi i))]) (S' := [.int (zi i), .ref c209, .int (zi z207), .ref c11]) rfl ?_
                  have hl210 : 10 ≤ h146.2.2.2.1 c209 ∧ h146.2.2.2.1 c209 ≤ 10 := gJ.rowl (G := gGG) sh146.1 tc209 rfl
                  refine gs_ald rfl (by decide) sh146.1 tc209 rfl rfl rfl (by decide) (fun _ => rfl) (by omega) (by omega) (fun z211 ez211 az211 bz211 => ?_)
                  have hf212 := gRow.at (i := i) (z := z211) lp145k15 tc209 ez211 (by omega) (by omega) (by omega)
                  refine gz_s 1 (pc' := 156) (L' := [some (.ref x), some (.int (zi qu)), some (.int (zi i))]) (S' := [.ref x, .int (zi z211), .int (zi z207), .ref c11]) rfl ?_
                  refine gs_gtk rfl (by decide) rfl sh146.1 lp145c0 rfl rfl lp145k1 ?_
                  refine gs_gtr rfl (by decide) rfl sh146.1 lp145c2 rfl rfl rfl (fun c213 ec213 tc213 => ?_)
                  refine gz_s 1 (pc' := 163) (L' := [some (.ref x), some (.int (zi qu)), some (.int (zi i))]) (S' := [.int (zi i), .ref c213, .int (zi z211), .int (zi z207), .ref c11]) rfl ?_
                  have hl214 : 10 ≤ h146.2.2.2.1 c213 ∧ h146.2.2.2.1 c213 ≤ 10 := gJ.rowl (G := gGG) sh146.1 tc213 rfl
                  refine gs_ald rfl (by decide) sh146.1 tc213 rfl rfl rfl (by decide) (fun _ => rfl) (by omega) (by omega) (fun z215 ez215 az215 bz215 => ?_)
                  refine gz_s 1 (pc' := 165) (L' := [some (.ref x), some (.int (zi qu)), some (.int (zi i))]) (S' := [.ref x, .int (zi z215), .int (zi z211), .int (zi z207), .ref c11]) rfl ?_
                  refine gs_gtk rfl (by decide) rfl sh146.1 lp145c0 rfl rfl lp145k1 ?_
                  refine gs_gtr rfl (by decide) rfl sh146.1 lp145c2 rfl rfl rfl (fun c216 ec216 tc216 => ?_)
                  refine gz_s 1 (pc' := 172) (L' := [some (.ref x), some (.int (zi qu)), some (.int (zi i))]) (S' := [.int (zi i), .ref c216, .int (zi z215), .int (zi z211), .int (zi z207), .ref c11]) rfl ?_
                  have hl217 : 10 ≤ h146.2.2.2.1 c216 ∧ h146.2.2.2.1 c216 ≤ 10 := gJ.rowl (G := gGG) sh146.1 tc216 rfl
                  refine gs_ald rfl (by decide) sh146.1 tc216 rfl rfl rfl (by decide) (fun _ => rfl) (by omega) (by omega) (fun z218 ez218 az218 bz218 => ?_)
                  have htl := tle (i).toNat (by omega)
                  have hst := gTl_st (f := tf) (t := tt) (k := i) (a := z207) (b := z211) (by omega) hf208 hf212
                  have hle := gTl_le (f := tf) (t := tt) (k := i + 1) (n := n0) tle (by omega)
                  have hl219 : h146.2.2.2.1 bv = h146.2.2.2.1 bv := congrFun sh146.2.2.2.2.1 bv
                  refine gz_call rfl (by decide) rfl (by decide) (by decide) (gcal_of rfl rfl rfl (Nat.le_of_ble_eq_true rfl) (gJ.recv (G := gGG) sh146.1 lp145c4 rfl rfl)) (cl_Writer_putScan _ sh146.1 c11 lp145c4 z207 ⟨by omega, by omega⟩ z211 ⟨by omega, by omega⟩ z215 ⟨by omega, by omega⟩ z218 ⟨by omega, by omega⟩ sk lp145k8 lp145c3 bv lp145r0 lp145r1 cv lp145k9 ⟨by omega, by omega⟩ hv lp145k10 ⟨by omega, by omega⟩ (by omega) (by omega) (by omega) lp145u) (fun q220 _ wq220 => ?_)
                  obtain ⟨pq220, oq220, hq220⟩ := q220
                  obtain ⟨tyq220, xq220, cq220_0, ttq220, fq220_0, fq220_1, ecq220_0, tcq220_0, gq220, efq220_0, afq220_0, bfq220_0, efq220_1, afq220_1, bfq220_1, uq220_0, uq220_1, uq220_2, uq220_3, uq220_4, uq220_5⟩ := wq220
                  dsimp only at uq220_2 uq220_3 uq220_4 uq220_5
                  refine ⟨_, gq220, ?_⟩
                  show gz gPP gGG gcn _ _ 176 [some (.ref x), some (.int (zi qu)), some (.int (zi i))] [] hq220 _
                  have G221 : gSg [71, 72, 73, 74, 75, 76, 77, 78, 79, 80, 81, 85, 91, 92, 93, 94, 95, 96, 97, 98, 99, 114, 200] [] [50006, 55008, 56000, 56001, 56002, 56003, 64999, 71005, 71006, 71007, 71008, 71009, 71010, 71011, 71012, 71013, 71014, 72999, 73999, 74999, 76999, 77999, 78999, 79999, 80999, 81999, 85999, 91004, 91008, 92004, 92008, 93999, 94999, 95999, 96999, 97999, 98999, 99999, 114999] ty h tyq220 hq220 := gSg.tr (gSg.ss lp145G sh146 (by decide)) xq220 (by decide) (by decide) (fun x hx => by cases hx)
                  have t222 : tyq220 x = 50 := gSg.typ xq220 sh146.1 lp145c0 rfl
                  have t223 : tyq220 pic = 54 := gSg.typ xq220 sh146.1 lp145c1 rfl
                  have t224 : tyq220 dr = 55 := gSg.typ xq220 sh146.1 lp145c2 rfl
                  have t225 : tyq220 sk = 56 := gSg.typ xq220 sh146.1 lp145c3 rfl
                  have t226 : tyq220 c11 = 71 := gSg.typ xq220 sh146.1 lp145c4 rfl
                  have t227 : tyq220 c80 = 53 := gSg.typ xq220 sh146.1 lp145c5 rfl
                  have t228 : tyq220 bv = 114 := gSg.typ xq220 sh146.1 lp145r1 rfl
                  have hl229 : hq220.2.2.2.1 bv = h146.2.2.2.1 bv := gSg.len xq220 sh146.1 lp145r1 rfl
                  have t230 : tyq220 c205 = 60 := gSg.typ xq220 sh146.1 tc205 rfl
                  have t231 : tyq220 c209 = 61 := gSg.typ xq220 sh146.1 tc209 rfl
                  have t232 : tyq220 c213 = 62 := gSg.typ xq220 sh146.1 tc213 rfl
                  have t233 : tyq220 c216 = 63 := gSg.typ xq220 sh146.1 tc216 rfl
                  have s234 := gSg.at xq220 sh146.1 lp145c0 rfl (by decide) lp145k0
                  have s235 := gSg.at xq220 sh146.1 lp145c0 rfl (by decide) lp145k1
                  have s236 := gSg.at xq220 sh146.1 lp145c0 rfl (by decide) lp145k2
                  have s237 := gSg.at xq220 sh146.1 lp145c2 rfl (by decide) lp145k3
                  have s238 := gSg.at xq220 sh146.1 lp145c2 rfl (by decide) lp145k4
                  have s239 := gSg.at xq220 sh146.1 lp145c2 rfl (by decide) lp145k5
                  have s240 := gSg.at xq220 sh146.1 lp145c0 rfl (by decide) lp145k6
                  have s241 := gSg.at xq220 sh146.1 lp145c0 rfl (by decide) lp145k7
                  have s242 := gSg.at xq220 sh146.1 lp145c4 rfl (by decide) lp145k8
                  have s243 := gSg.at xq220 sh146.1 lp145c2 rfl (by decide) ec205
                  have s244 := gSg.at xq220 sh146.1 lp145c2 rfl (by decide) ec209
                  have s245 := gSg.at xq220 sh146.1 lp145c2 rfl (by decide) ec213
                  have s246 := gSg.at xq220 sh146.1 lp145c2 rfl (by decide) ec216
                  have pr247 := gRow.gr xq220 sh146.1 rfl (by decide) (by decide) lp145k11
                  have pr248 := gPC.gr xq220 sh146.1 (by decide) lp145k12
                  have pr249 := gRr.gr xq220 sh146.1 (by decide) (by decide) lp145k13
                  have pr250 := gRow.gr xq220 sh146.1 rfl (by decide) (by decide) lp145k14
                  have pr251 := gRow.gr xq220 sh146.1 rfl (by decide) (by decide) lp145k15
                  have uq252 := gSg.uq xq220 lp145u (by decide)
                  have hyst253 := gSta.gr xq220 (by decide) (fun x hx => by cases hx) (gSta.fr sh146.2 (by decide) lp145t)
                  have sS254 : gSs rT 1027 tyq220 [50006, 55008, 56000, 56001, 56002, 56003, 64999, 71005, 71006, 71007, 71008, 71009, 71010, 71011, 71012, 71013, 71014, 72999, 73999, 74999, 76999, 77999, 78999, 79999, 80999, 81999, 85999, 91004, 91008, 92004, 92008, 93999, 94999, 95999, 96999, 97999, 98999, 99999, 114999] hq220 hq220 := gSs.rf xq220.1
                  refine gy_s 2 (pc' := 122) (L' := [some (.ref x), some (.int (zi qu)), some (.int ((zi i) + zi 1))]) (S' := []) (L2 := [some (.ref x), some (.int (zi qu)), some (.int (zi (i + 1)))]) (S2 := []) rfl (by simp only [zi_add, zi_sub, zi_mul, zi_neg, zi_and1, zi_and7, zi_and15, zi_and31, zi_and255]) (by simp only [zi_add, zi_sub, zi_mul, zi_neg, zi_and1, zi_and7, zi_and15, zi_and31, zi_and255]) ?_
                  have hl255 : 1024 ≤ hq220.2.2.2.1 bv ∧ hq220.2.2.2.1 bv ≤ 1000000 := gJ.rowl (G := gGG) sS254.1 t228 rfl
                  have hl256 : 1024 ≤ hq220.2.2.2.1 cq220_0 ∧ hq220.2.2.2.1 cq220_0 ≤ 1000000 := gJ.rowl (G := gGG) sS254.1 tcq220_0 rfl
                  have G257 : gSg [71, 72, 73, 74, 75, 76, 77, 78, 79, 80, 81, 85, 91, 92, 93, 94, 95, 96, 97, 98, 99, 114, 200] [] [50006, 55008, 56000, 56001, 56002, 56003, 64999, 71005, 71006, 71007, 71008, 71009, 71010, 71011, 71012, 71013, 71014, 72999, 73999, 74999, 76999, 77999, 78999, 79999, 80999, 81999, 85999, 91004, 91008, 92004, 92008, 93999, 94999, 95999, 96999, 97999, 98999, 99999, 114999] ty h tyq220 hq220 := gSg.ss G221 sS254 (by decide)
                  exact gz_wk (ihlp145 tyq220 hq220 cq220_0 (i + 1) fq220_0 fq220_1 (gms lp145m (by omega) (by omega)) G257 uq252 (gSta.fr sS254.2 (by decide) hyst253) t222 t223 t224 t225 t226 t227 ecq220_0 tcq220_0 ⟨by omega, by omega⟩ ⟨by omega, by omega⟩ ⟨by omega, by omega⟩ (by omega) (by omega) (by omega) (by omega) (by omega) (by omega) s234 s235 s236 s237 s238 s239 s240 s241 s242 efq220_0 efq220_1 pr247 pr248 pr249 pr250 pr251) (gLw.s (gLw.s (gLw.s gLw.z)))
            have hl258 : 1024 ≤ hq115.2.2.2.1 bt ∧ hq115.2.2.2.1 bt ≤ 1000000 := gJ.rowl (G := gGG) sS143.1 t124 rfl
            have hl259 : 1024 ≤ hq115.2.2.2.1 cq115_0 ∧ hq115.2.2.2.1 cq115_0 ≤ 1000000 := gJ.rowl (G := gGG) sS143.1 tcq115_0 rfl
            have G260 : gSg [71, 72, 73, 74, 75, 76, 77, 78, 79, 80, 81, 85, 91, 92, 93, 94, 95, 96, 97, 98, 99, 114, 200] [] [50006, 55008, 56000, 56001, 56002, 56003, 64999, 71005, 71006, 71007, 71008, 71009, 71010, 71011, 71012, 71013, 71014, 72999, 73999, 74999, 76999, 77999, 78999, 79999, 80999, 81999, 85999, 91004, 91008, 92004, 92008, 93999, 94999, 95999, 96999, 97999, 98999, 99999, 114999] ty h tyq115 hq115 := gSg.ss G116 sS143 (by decide)
            exact gz_wk (lp145 _ tyq115 hq115 cq115_0 0 fq115_0 fq115_1 (Nat.lt_succ_self _) G260 uq141 (gSta.fr sS143.2 (by decide) hyst142) t117 t118 t122 t123 t126 t127 ecq115_0 tcq115_0 ⟨by omega, by omega⟩ ⟨by omega, by omega⟩ ⟨by omega, by omega⟩ (by omega) (by omega) (by omega) (by omega) (by omega) (by omega) s128 s129 s130 s131 s132 s133 s134 s135 s136 efq115_0 efq115_1 pr137 pr138 pr140 rf rt) (gLw.s (gLw.s (gLw.s gLw.z)))
          · refine gy_ifF rfl (by decide) (by decide) (by omega) hc144 ?_
            refine gz_s 1 (pc' := 109) (L' := [some (.ref x), some (.int (zi qu)), none]) (S' := [.ref x]) rfl ?_
            refine gs_gtk rfl (by decide) rfl sS143.1 t117 rfl rfl s134 ?_
            refine gz_s 4 (pc' := 117) (L' := [some (.ref x), some (.int (zi qu)), none]) (S' := [.int (zi 0), .int (zi 0), .int (zi 63), .int (zi 0), .ref c11]) rfl ?_
            have hl261 : hq115.2.2.2.1 cq115_0 = hq115.2.2.2.1 cq115_0 := congrFun sS143.2.2.2.2.1 cq115_0
            refine gz_call rfl (by decide) rfl (by decide) (by decide) (gcal_of rfl rfl rfl (Nat.le_of_ble_eq_true rfl) (gJ.recv (G := gGG) sS143.1 t126 rfl rfl)) (cl_Writer_putScan _ sS143.1 c11 t126 0 ⟨by omega, by omega⟩ 63 ⟨by omega, by omega⟩ 0 ⟨by omega, by omega⟩ 0 ⟨by omega, by omega⟩ sk s136 t123 cq115_0 ecq115_0 tcq115_0 fq115_0 efq115_0 ⟨by omega, by omega⟩ fq115_1 efq115_1 ⟨by omega, by omega⟩ (by omega) (by omega) (by omega) uq141) (fun q262 _ wq262 => ?_)
            obtain ⟨pq262, oq262, hq262⟩ := q262
            obtain ⟨tyq262, xq262, cq262_0, ttq262, fq262_0, fq262_1, ecq262_0, tcq262_0, gq262, efq262_0, afq262_0, bfq262_0, efq262_1, afq262_1, bfq262_1, uq262_0, uq262_1, uq262_2, uq262_3, uq262_4, uq262_5⟩ := wq262
            dsimp only at uq262_2 uq262_3 uq262_4 uq262_5
            refine ⟨_, gq262, ?_⟩
            show gz gPP gGG gcn _ _ 120 [some (.ref x), some (.int (zi qu)), none] [] hq262 _
            have G263 : gSg [71, 72, 73, 74, 75, 76, 77, 78, 79, 80, 81, 85, 91, 92, 93, 94, 95, 96, 97, 98, 99, 114, 200] [] [50006, 55008, 56000, 56001, 56002, 56003, 64999, 71005, 71006, 71007, 71008, 71009, 71010, 71011, 71012, 71013, 71014, 72999, 73999, 74999, 76999, 77999, 78999, 79999, 80999, 81999, 85999, 91004, 91008, 92004, 92008, 93999, 94999, 95999, 96999, 97999, 98999, 99999, 114999] ty h tyq262 hq262 := gSg.tr (gSg.ss G116 sS143 (by decide)) xq262 (by decide) (by decide) (fun x hx => by cases hx)
            have t264 : tyq262 x = 50 := gSg.typ xq262 sS143.1 t117 rfl
            have t265 : tyq262 pic = 54 := gSg.typ xq262 sS143.1 t118 rfl
            have t266 : tyq262 b0 = 82 := gSg.typ xq262 sS143.1 t119 rfl
            have t267 : tyq262 b1 = 83 := gSg.typ xq262 sS143.1 t120 rfl
            have t268 : tyq262 b2 = 84 := gSg.typ xq262 sS143.1 t121 rfl
            have t269 : tyq262 dr = 55 := gSg.typ xq262 sS143.1 t122 rfl
            have t270 : tyq262 sk = 56 := gSg.typ xq262 sS143.1 t123 rfl
            have t271 : tyq262 bt = 114 := gSg.typ xq262 sS143.1 t124 rfl
            have hl272 : hq262.2.2.2.1 bt = hq115.2.2.2.1 bt := gSg.len xq262 sS143.1 t124 rfl
            have t273 : tyq262 c11 = 71 := gSg.typ xq262 sS143.1 t126 rfl
            have t274 : tyq262 c80 = 53 := gSg.typ xq262 sS143.1 t127 rfl
            have t275 : tyq262 cq115_0 = 114 := gSg.typ xq262 sS143.1 tcq115_0 rfl
            have hl276 : hq262.2.2.2.1 cq115_0 = hq115.2.2.2.1 cq115_0 := gSg.len xq262 sS143.1 tcq115_0 rfl
            have s277 := gSg.at xq262 sS143.1 t117 rfl (by decide) s128
            have s278 := gSg.at xq262 sS143.1 t117 rfl (by decide) s129
            have s279 := gSg.at xq262 sS143.1 t117 rfl (by decide) s130
            have s280 := gSg.at xq262 sS143.1 t122 rfl (by decide) s131
            have s281 := gSg.at xq262 sS143.1 t122 rfl (by decide) s132
            have s282 := gSg.at xq262 sS143.1 t122 rfl (by decide) s133
            have s283 := gSg.at xq262 sS143.1 t117 rfl (by decide) s134
            have s284 := gSg.at xq262 sS143.1 t117 rfl (by decide) s135
            have s285 := gSg.at xq262 sS143.1 t126 rfl (by decide) s136
            have pr286 := gRow.gr xq262 sS143.1 rfl (by decide) (by decide) pr137
            have pr287 := gPC.gr xq262 sS143.1 (by decide) pr138
            have pr288 := gTc.gr xq262 sS143.1 (by decide) (by decide) pr139
            have pr289 := gRr.gr xq262 sS143.1 (by decide) (by decide) pr140
            have uq290 := gSg.uq xq262 uq141 (by decide)
            have hyst291 := gSta.gr xq262 (by decide) (fun x hx => by cases hx) (gSta.fr sS143.2 (by decide) hyst142)
            have sS292 : gSs rT 1027 tyq262 [50006, 55008, 56000, 56001, 56002, 56003, 64999, 71005, 71006, 71007, 71008, 71009, 71010, 71011, 71012, 71013, 71014, 72999, 73999, 74999, 76999, 77999, 78999, 79999, 80999, 81999, 85999, 91004, 91008, 92004, 92008, 93999, 94999, 95999, 96999, 97999, 98999, 99999, 114999] hq262 hq262 := gSs.rf xq262.1
            obtain ⟨tf, tt, cf, rf, rt, rc, tle, tsm⟩ := pr288
            have hg0 := gsf_nn (f := fun j => gcr (cf j)) (fun j => by unfold gcr; split <;> omega) 64
            have hgl0 : gTl tf tt 0 = 0 := rfl
            refine gz_s 2 (pc' := 122) (L' := [some (.ref x), some (.int (zi qu)), some (.int (zi 0))]) (S' := []) rfl ?_
            have lp293 : ∀ (fu : Nat) (ty295 : Nat → Nat) (h294 : gH) (bv : Nat) (i : Int) (cv : Int) (hv : Int), (11 - i).toNat < fu → gSg [71, 72, 73, 74, 75, 76, 77, 78, 79, 80, 81, 85, 91, 92, 93, 94, 95, 96, 97, 98, 99, 114, 200] [] [50006, 55008, 56000, 56001, 56002, 56003, 64999, 71005, 71006, 71007, 71008, 71009, 71010, 71011, 71012, 71013, 71014, 72999, 73999, 74999, 76999, 77999, 78999, 79999, 80999, 81999, 85999, 91004, 91008, 92004, 92008, 93999, 94999, 95999, 96999, 97999, 98999, 99999, 114999] ty h ty295 h294 → gUq ty295 → gSta ty295 h294 → ty295 x = 50 → ty295 pic = 54 → ty295 dr = 55 → ty295 sk = 56 → ty295 c11 = 71 → ty295 c80 = 53 → h294.2.2.2.2 sk 0 = .ref bv → ty295 bv = 114 → (0 ≤ i ∧ i ≤ 10) → (0 ≤ cv ∧ cv ≤ 499999) → (0 ≤ hv ∧ hv ≤ 7) → ((n0 = 0 ∧ 4 * cv + hv ≤ 336000) ∨ 4 * cv + hv ≤ 400 + 7876 * i + 5120 * gTl tf tt i) → (i ≤ n0) → (cv ≤ (h294.2.2.2.1 bv : Int)) → (1024 * (((h294.1 : Int) - h.1) - 21) ≤ (h294.2.2.2.1 bv : Int) - lb) → (((h294.2.1 : Int) - h.2.1) ≤ 4303 + 2 * ((h294.2.2.2.1 bv : Int) - lb)) → (lb ≤ (h294.2.2.2.1 bv : Int)) → h294.2.2.2.2 x 2 = .ref pic → h294.2.2.2.2 x 3 = .ref dr → h294.2.2.2.2 x 4 = .ref sk → h294.2.2.2.2 dr 8 = .int (zi n0) → h294.2.2.2.2 dr 3 = .int (zi i0) → h294.2.2.2.2 dr 1 = .int (zi dw) → h294.2.2.2.2 x 6 = .ref c11 → h294.2.2.2.2 x 1 = .ref c80 → h294.2.2.2.2 c11 0 = .ref sk → h294.2.2.2.2 sk 1 = .int (zi cv) → h294.2.2.2.2 sk 3 = .int (zi hv) → gRow ty295 64 f h294 → gPC ty295 pic b0 b1 b2 ld h294 → gRr ty295 x h294 → gRow ty295 60 tf h294 → gRow ty295 61 tt h294 → gz gPP gGG gcn (d + 8) gt89 122 [some (.ref x), some (.int (zi qu)), some (.int (zi i))] [] h294 (fun q _ => ∃ ty9 : Nat → Nat, gSg [71, 72, 73, 74, 75, 76, 77, 78, 79, 80, 81, 85, 91, 92, 93, 94, 95, 96, 97, 98, 99, 114, 200] [] [50006, 55008, 56000, 56001, 56002, 56003, 64999, 71005, 71006, 71007, 71008, 71009, 71010, 71011, 71012, 71013, 71014, 72999, 73999, 74999, 76999, 77999, 78999, 79999, 80999, 81999, 85999, 91004, 91008, 92004, 92008, 93999, 94999, 95999, 96999, 97999, 98999, 99999, 114999] ty h ty9 q.2.2 ∧ ∃ ld1 lb1 iv1 : Int, 0 ≤ ld1 ∧ ld1 ≤ 192 ∧ 1024 ≤ lb1 ∧ lb1 ≤ 1000000 ∧ 0 ≤ iv1 ∧ iv1 ≤ 2058 ∧ (gIx ty9 x ld1 lb1 iv1 q.2.2) ∧ (gEy ty9 64 f qu (iv / 64) q.2.2) ∧ gUq ty9 ∧ ((∃ z : Int, gfin gt89 q.1 q.2.1 = some (some (.int (zi z))) ∧ (-2147483648) ≤ z ∧ z ≤ 2147483647 ∧ (1 ≤ qu) ∧ (qu ≤ 100) ∧ (64 ≤ iv) ∧ (iv1 = iv - iv % 64) ∧ (1024 * (((q.2.2.1 : Int) - h.1) - 31 - 2 * (ld1 - ld)) ≤ lb1 - lb) ∧ (((q.2.2.2.1 : Int) - h.2.1) ≤ 4303 + 12480 * (ld1 - ld) + 2 * (lb1 - lb)) ∧ (ld ≤ ld1) ∧ (lb ≤ lb1)) ∨ (q.2.1 = [] ∧ ((q.1 = 11 ∧ (¬ (1 ≤ qu ∧ qu ≤ 100))) ∨ (q.1 = 32 ∧ (iv < 64))) ∧ (iv1 = iv) ∧ (1024 * (((q.2.2.1 : Int) - h.1) - 31 - 2 * (ld1 - ld)) ≤ lb1 - lb) ∧ (((q.2.2.2.1 : Int) - h.2.1) ≤ 4303 + 12480 * (ld1 - ld) + 2 * (lb1 - lb)) ∧ (ld ≤ ld1) ∧ (lb ≤ lb1)))) := by
              intro fu
              induction fu with
              | zero => intro ty295 h294 bv i cv hv hm; exact absurd hm (Nat.not_lt_zero _)
              | succ fu ihlp293 =>
                intro ty295 h294 bv i cv hv lp293m lp293G lp293u lp293t lp293c0 lp293c1 lp293c2 lp293c3 lp293c4 lp293c5 lp293r0 lp293r1 lp293f0 lp293f1 lp293f2 lp293f3 lp293f4 lp293f5 lp293f6 lp293f7 lp293f8 lp293k0 lp293k1 lp293k2 lp293k3 lp293k4 lp293k5 lp293k6 lp293k7 lp293k8 lp293k9 lp293k10 lp293k11 lp293k12 lp293k13 lp293k14 lp293k15
                have sh294 : gSs rT 1027 ty295 [50006, 55008, 56000, 56001, 56002, 56003, 64999, 71005, 71006, 71007, 71008, 71009, 71010, 71011, 71012, 71013, 71014, 72999, 73999, 74999, 76999, 77999, 78999, 79999, 80999, 81999, 85999, 91004, 91008, 92004, 92008, 93999, 94999, 95999, 96999, 97999, 98999, 99999, 114999] h294 h294 := gSs.rf lp293G.1
                refine gz_s 2 (pc' := 124) (L' := [some (.ref x), some (.int (zi qu)), some (.int (zi i))]) (S' := [.ref x, .int (zi i)]) rfl ?_
                refine gs_gtk rfl (by decide) rfl sh294.1 lp293c0 rfl rfl lp293k1 ?_
                refine gs_gtk rfl (by decide) rfl sh294.1 lp293c2 rfl rfl lp293k3 ?_
                refine gy_icT (pc' := 182) rfl (by decide) (by decide) ⟨by omega, by omega⟩ ⟨by omega, by omega⟩ (by first | (simp [zc]; done) | (simp only [zc]; omega)) ?_
                have hgl9 : gTl tf tt i = gTl tf tt n0 := by rw [show i = n0 from Int.le_antisymm (by omega) (by omega)]
                refine gz_s 1 (pc' := 183) (L' := [some (.ref x), some (.int (zi qu)), some (.int (zi i))]) (S' := [.ref x]) rfl ?_
                refine gs_gtk rfl (by decide) rfl sh294.1 lp293c0 rfl rfl lp293k6 ?_
                have hl296 : h294.2.2.2.1 bv = h294.2.2.2.1 bv := congrFun sh294.2.2.2.2.1 bv
                refine gz_call rfl (by decide) rfl (by decide) (by decide) (gcal_of rfl rfl rfl (Nat.le_of_ble_eq_true rfl) (gJ.recv (G := gGG) sh294.1 lp293c4 rfl rfl)) (cl_Writer_putEnd _ sh294.1 c11 lp293c4 sk lp293k8 lp293c3 bv lp293r0 lp293r1 cv lp293k9 ⟨by omega, by omega⟩ (by omega) lp293u) (fun q297 _ wq297 => ?_)
                obtain ⟨pq297, oq297, hq297⟩ := q297
                obtain ⟨tyq297, xq297, cq297_0, ttq297, fq297_0, ecq297_0, tcq297_0, gq297, efq297_0, afq297_0, bfq297_0, uq297_0, uq297_1, uq297_2, uq297_3, uq297_4⟩ := wq297
                dsimp only at uq297_1 uq297_2 uq297_3 uq297_4
                refine ⟨_, gq297, ?_⟩
                show gz gPP gGG gcn _ _ 189 [some (.ref x), some (.int (zi qu)), some (.int (zi i))] [] hq297 _
                have G298 : gSg [71, 72, 73, 74, 75, 76, 77, 78, 79, 80, 81, 85, 91, 92, 93, 94, 95, 96, 97, 98, 99, 114, 200] [] [50006, 55008, 56000, 56001, 56002, 56003, 64999, 71005, 71006, 71007, 71008, 71009, 71010, 71011, 71012, 71013, 71014, 72999, 73999, 74999, 76999, 77999, 78999, 79999, 80999, 81999, 85999, 91004, 91008, 92004, 92008, 93999, 94999, 95999, 96999, 97999, 98999, 99999, 114999] ty h tyq297 hq297 := gSg.tr (gSg.ss lp293G sh294 (by decide)) xq297 (by decide) (by decide) (fun x hx => by cases hx)
                have t299 : tyq297 x = 50 := gSg.typ xq297 sh294.1 lp293c0 rfl
                have t300 : tyq297 pic = 54 := gSg.typ xq297 sh294.1 lp293c1 rfl
                have t301 : tyq297 dr = 55 := gSg.typ xq297 sh294.1 lp293c2 rfl
                have t302 : tyq297 sk = 56 := gSg.typ xq297 sh294.1 lp293c3 rfl
                have t303 : tyq297 c11 = 71 := gSg.typ xq297 sh294.1 lp293c4 rfl
                have t304 : tyq297 c80 = 53 := gSg.typ xq297 sh294.1 lp293c5 rfl
                have t305 : tyq297 bv = 114 := gSg.typ xq297 sh294.1 lp293r1 rfl
                have hl306 : hq297.2.2.2.1 bv = h294.2.2.2.1 bv := gSg.len xq297 sh294.1 lp293r1 rfl
                have s307 := gSg.at xq297 sh294.1 lp293c0 rfl (by decide) lp293k0
                have s308 := gSg.at xq297 sh294.1 lp293c0 rfl (by decide) lp293k1
                have s309 := gSg.at xq297 sh294.1 lp293c0 rfl (by decide) lp293k2
                have s310 := gSg.at xq297 sh294.1 lp293c2 rfl (by decide) lp293k3
                have s311 := gSg.at xq297 sh294.1 lp293c2 rfl (by decide) lp293k4
                have s312 := gSg.at xq297 sh294.1 lp293c2 rfl (by decide) lp293k5
                have s313 := gSg.at xq297 sh294.1 lp293c0 rfl (by decide) lp293k6
                have s314 := gSg.at xq297 sh294.1 lp293c0 rfl (by decide) lp293k7
                have s315 := gSg.at xq297 sh294.1 lp293c4 rfl (by decide) lp293k8
                have s316 := gSg.at xq297 sh294.1 lp293c3 rfl (by decide) lp293k10
                have pr317 := gRow.gr xq297 sh294.1 rfl (by decide) (by decide) lp293k11
                have pr318 := gPC.gr xq297 sh294.1 (by decide) lp293k12
                have pr319 := gRr.gr xq297 sh294.1 (by decide) (by decide) lp293k13
                have pr320 := gRow.gr xq297 sh294.1 rfl (by decide) (by decide) lp293k14
                have pr321 := gRow.gr xq297 sh294.1 rfl (by decide) (by decide) lp293k15
                have uq322 := gSg.uq xq297 lp293u (by decide)
                have hyst323 := gSta.gr xq297 (by decide) (fun x hx => by cases hx) (gSta.fr sh294.2 (by decide) lp293t)
                have sS324 : gSs rT 1027 tyq297 [50006, 55008, 56000, 56001, 56002, 56003, 64999, 71005, 71006, 71007, 71008, 71009, 71010, 71011, 71012, 71013, 71014, 72999, 73999, 74999, 76999, 77999, 78999, 79999, 80999, 81999, 85999, 91004, 91008, 92004, 92008, 93999, 94999, 95999, 96999, 97999, 98999, 99999, 114999] hq297 hq297 := gSs.rf xq297.1
                refine gz_s 1 (pc' := 190) (L' := [some (.ref x), some (.int (zi qu)), some (.int (zi i))]) (S' := [.ref x]) rfl ?_
                refine gs_gtk rfl (by decide) rfl sS324.1 t299 rfl rfl s308 ?_
                refine gz_call rfl (by decide) rfl (by decide) (by decide) (gcal_of rfl rfl rfl (Nat.le_of_ble_eq_true rfl) (gJ.recv (G := gGG) sS324.1 t301 rfl rfl)) (cl_Draft_forgetScans _ sS324.1 dr t301 uq322) (fun q325 _ wq325 => ?_)
                obtain ⟨pq325, oq325, hq325⟩ := q325
                obtain ⟨xq325, fq325_0, gq325, efq325_0, afq325_0, bfq325_0, uq325_0, yq325_0, yq325_1⟩ := wq325
                refine ⟨_, gq325, ?_⟩
                show gz gPP gGG gcn _ _ 196 [some (.ref x), some (.int (zi qu)), some (.int (zi i))] [] hq325 _
                have sq325 : gSs rT 1027 tyq297 [50006, 55008, 56000, 56001, 56002, 56003, 64999, 71005, 71006, 71007, 71008, 71009, 71010, 71011, 71012, 71013, 71014, 72999, 73999, 74999, 76999, 77999, 78999, 79999, 80999, 81999, 85999, 91004, 91008, 92004, 92008, 93999, 94999, 95999, 96999, 97999, 98999, 99999, 114999] hq297 hq325 := gSs.tr sS324 xq325 (by decide)
                have s326 := (xq325.2.2.2.2.2 x 2 (by rw [t299]; decide)).trans s307
                have s327 := (xq325.2.2.2.2.2 x 3 (by rw [t299]; decide)).trans s308
                have s328 := (xq325.2.2.2.2.2 x 4 (by rw [t299]; decide)).trans s309
                have s329 := (xq325.2.2.2.2.2 dr 3 (by rw [t301]; decide)).trans s311
                have s330 := (xq325.2.2.2.2.2 dr 1 (by rw [t301]; decide)).trans s312
                have s331 := (xq325.2.2.2.2.2 x 6 (by rw [t299]; decide)).trans s313
                have s332 := (xq325.2.2.2.2.2 x 1 (by rw [t299]; decide)).trans s314
                have s333 := (xq325.2.2.2.2.2 c11 0 (by rw [t303]; decide)).trans s315
                have s334 := (xq325.2.2.2.2.2 sk 3 (by rw [t302]; decide)).trans s316
                have s335 := (xq325.2.2.2.2.2 sk 0 (by rw [t302]; decide)).trans ecq297_0
                have s336 := (xq325.2.2.2.2.2 sk 1 (by rw [t302]; decide)).trans efq297_0
                have pr337 := gPC.fr xq325.2 (by decide) pr318
                have pr338 := gRr.fr xq325.2 (by decide) pr319
                have pr339 := gRow.fr xq325.2 (by decide) pr320
                have pr340 := gRow.fr xq325.2 (by decide) pr321
                refine gz_s 1 (pc' := 197) (L' := [some (.ref x), some (.int (zi qu)), some (.int (zi i))]) (S' := [.ref x]) rfl ?_
                refine gs_gtk rfl (by decide) rfl sq325.1 t299 rfl rfl s328 ?_
                refine gs_gtk rfl (by decide) rfl sq325.1 t302 rfl rfl s336 ?_
                have k341 := sq325.2.1
                have k341b := sq325.2.2.1
                have hl342 : hq325.2.2.2.1 bv = hq297.2.2.2.1 bv := congrFun sq325.2.2.2.2.1 bv
                have hl343 : hq325.2.2.2.1 cq297_0 = hq297.2.2.2.1 cq297_0 := congrFun sq325.2.2.2.2.1 cq297_0
                have hl344 : 1024 ≤ hq325.2.2.2.1 bv ∧ hq325.2.2.2.1 bv ≤ 1000000 := gJ.rowl (G := gGG) sq325.1 t305 rfl
                have hl345 : 1024 ≤ hq325.2.2.2.1 cq297_0 ∧ hq325.2.2.2.1 cq297_0 ≤ 1000000 := gJ.rowl (G := gGG) sq325.1 tcq297_0 rfl
                have k346 := sq325.2.1
                have k346b := sq325.2.2.1
                have hl347 : hq325.2.2.2.1 bv = hq297.2.2.2.1 bv := congrFun sq325.2.2.2.2.1 bv
                have hl348 : hq325.2.2.2.1 cq297_0 = hq297.2.2.2.1 cq297_0 := congrFun sq325.2.2.2.2.1 cq297_0
                have hix349 : gIx tyq297 x ld (hq325.2.2.2.1 cq297_0 : Int) (64 * dw + fq325_0) hq325 := ⟨pic, b0, b1, b2, dr, sk, cq297_0, fq325_0, fq297_0, i0, dw, ⟨t299, t301, t302, tcq297_0⟩, ⟨s326, s327, s328, s335⟩, pr337, (by rw [(by omega : fq325_0 = 0)]; exact yq325_0), ⟨efq325_0, by omega, by omega⟩, ⟨s329, by omega, by omega⟩, ⟨s336, by omega, by omega⟩, ⟨by omega, by omega⟩, pr338, ⟨t299, Or.inr ⟨c11, s331, t303⟩⟩, ⟨s330, by omega, by omega⟩, rfl⟩
                have hey350 : gEy tyq297 64 f qu (iv / 64) hq325 := gEy.oy yq325_1 ⟨by omega, by omega, by omega⟩
                have G351 : gSg [71, 72, 73, 74, 75, 76, 77, 78, 79, 80, 81, 85, 91, 92, 93, 94, 95, 96, 97, 98, 99, 114, 200] [] [50006, 55008, 56000, 56001, 56002, 56003, 64999, 71005, 71006, 71007, 71008, 71009, 71010, 71011, 71012, 71013, 71014, 72999, 73999, 74999, 76999, 77999, 78999, 79999, 80999, 81999, 85999, 91004, 91008, 92004, 92008, 93999, 94999, 95999, 96999, 97999, 98999, 99999, 114999] ty h tyq297 hq325 := gSg.ss G298 sq325 (by decide)
                exact gz_end (I := .ireturn) (len := 1) rfl (Or.inl rfl) ⟨tyq297, G351, ld, (hq325.2.2.2.1 cq297_0 : Int), (64 * dw + fq325_0), (by omega), (by omega), (by omega), (by omega), (by omega), (by omega), hix349, hey350, uq322, Or.inl ⟨fq297_0, rfl, (by omega), (by omega), (by omega), (by omega), (by omega), (by omega), (by dsimp only; omega), (by dsimp only; omega), (by omega), (by omega)⟩⟩
            have hl352 : 1024 ≤ hq262.2.2.2.1 bt ∧ hq262.2.2.2.1 bt ≤ 1000000 := gJ.rowl (G := gGG) sS292.1 t271 rfl
            have hl353 : 1024 ≤ hq262.2.2.2.1 cq115_0 ∧ hq262.2.2.2.1 cq115_0 ≤ 1000000 := gJ.rowl (G := gGG) sS292.1 t275 rfl
            have hl354 : 1024 ≤ hq262.2.2.2.1 cq262_0 ∧ hq262.2.2.2.1 cq262_0 ≤ 1000000 := gJ.rowl (G := gGG) sS292.1 tcq262_0 rfl
            have G355 : gSg [71, 72, 73, 74, 75, 76, 77, 78, 79, 80, 81, 85, 91, 92, 93, 94, 95, 96, 97, 98, 99, 114, 200] [] [50006, 55008, 56000, 56001, 56002, 56003, 64999, 71005, 71006, 71007, 71008, 71009, 71010, 71011, 71012, 71013, 71014, 72999, 73999, 74999, 76999, 77999, 78999, 79999, 80999, 81999, 85999, 91004, 91008, 92004, 92008, 93999, 94999, 95999, 96999, 97999, 98999, 99999, 114999] ty h tyq262 hq262 := gSg.ss G263 sS292 (by decide)
            exact gz_wk (lp293 _ tyq262 hq262 cq262_0 0 fq262_0 fq262_1 (Nat.lt_succ_self _) G355 uq290 (gSta.fr sS292.2 (by decide) hyst291) t264 t265 t269 t270 t273 t274 ecq262_0 tcq262_0 ⟨by omega, by omega⟩ ⟨by omega, by omega⟩ ⟨by omega, by omega⟩ (by omega) (by omega) (by omega) (by omega) (by omega) (by omega) s277 s278 s279 s280 s281 s282 s283 s284 s285 efq262_0 efq262_1 pr286 pr287 pr289 rf rt) (gLw.s (gLw.s (gLw.s gLw.z)))
        · skip
          refine gz_s 2 (pc' := 65) (L' := [some (.ref x), some (.int (zi qu)), none]) (S' := [.ref x]) rfl ?_
          refine gs_gtk rfl (by decide) rfl hS.1 tx rfl rfl ec8 ?_
          refine gz_s 1 (pc' := 69) (L' := [some (.ref x), some (.int (zi qu)), none]) (S' := [.ref x, .ref c8]) rfl ?_
          refine gs_gtr rfl (by decide) rfl hS.1 tx rfl rfl rfl (fun c356 ec356 tc356 => ?_)
          refine gz_s 1 (pc' := 73) (L' := [some (.ref x), some (.int (zi qu)), none]) (S' := [.int (zi qu), .ref c356, .ref c8]) rfl ?_
          refine gz_call rfl (by decide) rfl (by decide) (by decide) (gcal_of rfl rfl rfl (Nat.le_of_ble_eq_true rfl) (gJ.recv (G := gGG) hS.1 tc8 rfl rfl)) (cl_Writer_makeTable _ hS.1 c8 tc8 c356 tc356 qu ⟨by omega, by omega⟩ uq) (fun q357 _ wq357 => ?_)
          obtain ⟨pq357, oq357, hq357⟩ := q357
          obtain ⟨xq357, gq357⟩ := wq357
          refine ⟨_, gq357, ?_⟩
          show gz gPP gGG gcn _ _ 76 [some (.ref x), some (.int (zi qu)), none] [] hq357 _
          have sq357 : gSs rT 1027 ty [50006, 55008, 56000, 56001, 56002, 56003, 64999, 71005, 71006, 71007, 71008, 71009, 71010, 71011, 71012, 71013, 71014, 72999, 73999, 74999, 76999, 77999, 78999, 79999, 80999, 81999, 85999, 91004, 91008, 92004, 92008, 93999, 94999, 95999, 96999, 97999, 98999, 99999, 114999] h hq357 := gSs.tr hS xq357 (by decide)
          have s358 := (xq357.2.2.2.2.2 x 2 (by rw [tx]; decide)).trans ex2
          have s359 := (xq357.2.2.2.2.2 x 3 (by rw [tx]; decide)).trans ex3
          have s360 := (xq357.2.2.2.2.2 x 4 (by rw [tx]; decide)).trans ex4
          have s361 := (xq357.2.2.2.2.2 sk 0 (by rw [tsk]; decide)).trans ex0
          have s362 := (xq357.2.2.2.2.2 dr 8 (by rw [tdr]; decide)).trans en0
          have s363 := (xq357.2.2.2.2.2 dr 3 (by rw [tdr]; decide)).trans eiv
          have s364 := (xq357.2.2.2.2.2 dr 1 (by rw [tdr]; decide)).trans edw
          have s365 := (xq357.2.2.2.2.2 sk 1 (by rw [tsk]; decide)).trans ec0
          have s366 := (xq357.2.2.2.2.2 x 6 (by rw [tx]; decide)).trans ec8
          have s367 := (xq357.2.2.2.2.2 x 1 (by rw [tx]; decide)).trans ec356
          have pr368 := gRow.fr xq357.2 (by decide) hyf64
          have pr369 := gPC.fr xq357.2 (by decide) hpc
          have pr370 := gTc.fr xq357.2 (by decide) htc
          have pr371 := gRr.fr xq357.2 (by decide) hrr
          have pr372 := gRw.fr xq357.2 (by decide) hrw
          refine gz_s 1 (pc' := 77) (L' := [some (.ref x), some (.int (zi qu)), none]) (S' := [.ref x]) rfl ?_
          refine gs_gtk rfl (by decide) rfl sq357.1 tx rfl rfl s366 ?_
          refine gz_s 1 (pc' := 81) (L' := [some (.ref x), some (.int (zi qu)), none]) (S' := [.ref x, .ref c8]) rfl ?_
          refine gs_gtk rfl (by decide) rfl sq357.1 tx rfl rfl s359 ?_
          refine gz_call rfl (by decide) rfl (by decide) (by decide) (gcal_of rfl rfl rfl (Nat.le_of_ble_eq_true rfl) (gJ.recv (G := gGG) sq357.1 tc8 rfl rfl)) (cl_Writer_transformCanvas _ sq357.1 c8 tc8 dr tdr (gSta.fr sq357.2 (by decide) hyst) uq) (fun q373 _ wq373 => ?_)
          obtain ⟨pq373, oq373, hq373⟩ := q373
          obtain ⟨xq373, gq373⟩ := wq373
          refine ⟨_, gq373, ?_⟩
          show gz gPP gGG gcn _ _ 87 [some (.ref x), some (.int (zi qu)), none] [] hq373 _
          have sq373 : gSs rT 1027 ty [50006, 55008, 56000, 56001, 56002, 56003, 64999, 71005, 71006, 71007, 71008, 71009, 71010, 71011, 71012, 71013, 71014, 72999, 73999, 74999, 76999, 77999, 78999, 79999, 80999, 81999, 85999, 91004, 91008, 92004, 92008, 93999, 94999, 95999, 96999, 97999, 98999, 99999, 114999] h hq373 := gSs.tr sq357 xq373 (by decide)
          have s374 := (xq373.2.2.2.2.2 x 2 (by rw [tx]; decide)).trans s358
          have s375 := (xq373.2.2.2.2.2 x 3 (by rw [tx]; decide)).trans s359
          have s376 := (xq373.2.2.2.2.2 x 4 (by rw [tx]; decide)).trans s360
          have s377 := (xq373.2.2.2.2.2 sk 0 (by rw [tsk]; decide)).trans s361
          have s378 := (xq373.2.2.2.2.2 dr 8 (by rw [tdr]; decide)).trans s362
          have s379 := (xq373.2.2.2.2.2 dr 3 (by rw [tdr]; decide)).trans s363
          have s380 := (xq373.2.2.2.2.2 dr 1 (by rw [tdr]; decide)).trans s364
          have s381 := (xq373.2.2.2.2.2 sk 1 (by rw [tsk]; decide)).trans s365
          have s382 := (xq373.2.2.2.2.2 x 6 (by rw [tx]; decide)).trans s366
          have s383 := (xq373.2.2.2.2.2 x 1 (by rw [tx]; decide)).trans s367
          have pr384 := gRow.fr xq373.2 (by decide) pr368
          have pr385 := gPC.fr xq373.2 (by decide) pr369
          have pr386 := gTc.fr xq373.2 (by decide) pr370
          have pr387 := gRr.fr xq373.2 (by decide) pr371
          have pr388 := gRw.fr xq373.2 (by decide) pr372
          refine gz_s 1 (pc' := 88) (L' := [some (.ref x), some (.int (zi qu)), none]) (S' := [.ref x]) rfl ?_
          refine gs_gtk rfl (by decide) rfl sq373.1 tx rfl rfl s382 ?_
          refine gz_s 1 (pc' := 92) (L' := [some (.ref x), some (.int (zi qu)), none]) (S' := [.ref x, .ref c8]) rfl ?_
          refine gs_gtk rfl (by decide) rfl sq373.1 tx rfl rfl s375 ?_
          have k389 := sq373.2.1
          have k389b := sq373.2.2.1
          have hl390 : hq373.2.2.2.1 bt = h.2.2.2.1 bt := congrFun sq373.2.2.2.2.1 bt
          obtain ⟨c391, ec391, tc391⟩ := gJ.ref (k := 0) (G := gGG) sq373.1 tc8 rfl rfl rfl
          have ee392 : sk = c391 := uq sk c391 (tsk.trans tc391.symm) (by rw [tsk]; decide) (by rw [tsk]; decide)
          subst ee392
          refine gz_call rfl (by decide) rfl (by decide) (by decide) (gcal_of rfl rfl rfl (Nat.le_of_ble_eq_true rfl) (gJ.recv (G := gGG) sq373.1 tc8 rfl rfl)) (cl_Writer_putHead _ sq373.1 c8 tc8 dr tdr sk ec391 tsk bt s377 tbt uq) (fun q393 _ wq393 => ?_)
          obtain ⟨pq393, oq393, hq393⟩ := q393
          obtain ⟨tyq393, xq393, cq393_0, ttq393, fq393_0, fq393_1, ecq393_0, tcq393_0, gq393, efq393_0, afq393_0, bfq393_0, efq393_1, afq393_1, bfq393_1, uq393_0, uq393_1, uq393_2, uq393_3, uq393_4, uq393_5⟩ := wq393
          dsimp only at uq393_2 uq393_3 uq393_4 uq393_5
          refine ⟨_, gq393, ?_⟩
          show gz gPP gGG gcn _ _ 98 [some (.ref x), some (.int (zi qu)), none] [] hq393 _
          have G394 : gSg [71, 72, 73, 74, 75, 76, 77, 78, 79, 80, 81, 85, 91, 92, 93, 94, 95, 96, 97, 98, 99, 114, 200] [] [50006, 55008, 56000, 56001, 56002, 56003, 64999, 71005, 71006, 71007, 71008, 71009, 71010, 71011, 71012, 71013, 71014, 72999, 73999, 74999, 76999, 77999, 78999, 79999, 80999, 81999, 85999, 91004, 91008, 92004, 92008, 93999, 94999, 95999, 96999, 97999, 98999, 99999, 114999] ty h tyq393 hq393 := gSg.tr (gSg.ss G0 sq373 (by decide)) xq393 (by decide) (by decide) (fun x hx => by cases hx)
          have t395 : tyq393 x = 50 := gSg.typ xq393 sq373.1 tx rfl
          have t396 : tyq393 pic = 54 := gSg.typ xq393 sq373.1 tpic rfl
          have t397 : tyq393 b0 = 82 := gSg.typ xq393 sq373.1 tb0 rfl
          have t398 : tyq393 b1 = 83 := gSg.typ xq393 sq373.1 tb1 rfl
          have t399 : tyq393 b2 = 84 := gSg.typ xq393 sq373.1 tb2 rfl
          have t400 : tyq393 dr = 55 := gSg.typ xq393 sq373.1 tdr rfl
          have t401 : tyq393 sk = 56 := gSg.typ xq393 sq373.1 tsk rfl
          have t402 : tyq393 bt = 114 := gSg.typ xq393 sq373.1 tbt rfl
          have hl403 : hq393.2.2.2.1 bt = hq373.2.2.2.1 bt := gSg.len xq393 sq373.1 tbt rfl
          have t404 : tyq393 c8 = 71 := gSg.typ xq393 sq373.1 tc8 rfl
          have t405 : tyq393 c356 = 53 := gSg.typ xq393 sq373.1 tc356 rfl
          have s406 := gSg.at xq393 sq373.1 tx rfl (by decide) s374
          have s407 := gSg.at xq393 sq373.1 tx rfl (by decide) s375
          have s408 := gSg.at xq393 sq373.1 tx rfl (by decide) s376
          have s409 := gSg.at xq393 sq373.1 tdr rfl (by decide) s378
          have s410 := gSg.at xq393 sq373.1 tdr rfl (by decide) s379
          have s411 := gSg.at xq393 sq373.1 tdr rfl (by decide) s380
          have s412 := gSg.at xq393 sq373.1 tx rfl (by decide) s382
          have s413 := gSg.at xq393 sq373.1 tx rfl (by decide) s383
          have s414 := gSg.at xq393 sq373.1 tc8 rfl (by decide) ec391
          have pr415 := gRow.gr xq393 sq373.1 rfl (by decide) (by decide) pr384
          have pr416 := gPC.gr xq393 sq373.1 (by decide) pr385
          have pr417 := gTc.gr xq393 sq373.1 (by decide) (by decide) pr386
          have pr418 := gRr.gr xq393 sq373.1 (by decide) (by decide) pr387
          have pr419 := gRw.gr xq393 sq373.1 (by decide) (by decide) pr388
          have uq420 := gSg.uq xq393 uq (by decide)
          have hyst421 := gSta.gr xq393 (by decide) (fun x hx => by cases hx) (gSta.fr sq373.2 (by decide) hyst)
          have sS422 : gSs rT 1027 tyq393 [50006, 55008, 56000, 56001, 56002, 56003, 64999, 71005, 71006, 71007, 71008, 71009, 71010, 71011, 71012, 71013, 71014, 72999, 73999, 74999, 76999, 77999, 78999, 79999, 80999, 81999, 85999, 91004, 91008, 92004, 92008, 93999, 94999, 95999, 96999, 97999, 98999, 99999, 114999] hq393 hq393 := gSs.rf xq393.1
          refine gz_s 1 (pc' := 99) (L' := [some (.ref x), some (.int (zi qu)), none]) (S' := [.ref x]) rfl ?_
          refine gs_gtk rfl (by decide) rfl sS422.1 t395 rfl rfl s407 ?_
          refine gs_gtk rfl (by decide) rfl sS422.1 t400 rfl rfl s409 ?_
          by_cases hc423 : ¬ (n0 : Int) = 0
          · refine gy_ifT (pc' := 120) rfl (by decide) (by decide) (by omega) hc423 ?_
            obtain ⟨tf, tt, cf, rf, rt, rc, tle, tsm⟩ := pr417
            have hg0 := gsf_nn (f := fun j => gcr (cf j)) (fun j => by unfold gcr; split <;> omega) 64
            have hgl0 : gTl tf tt 0 = 0 := rfl
            refine gz_s 2 (pc' := 122) (L' := [some (.ref x), some (.int (zi qu)), some (.int (zi 0))]) (S' := []) rfl ?_
            have lp424 : ∀ (fu : Nat) (ty426 : Nat → Nat) (h425 : gH) (bv : Nat) (i : Int) (cv : Int) (hv : Int), (11 - i).toNat < fu → gSg [71, 72, 73, 74, 75, 76, 77, 78, 79, 80, 81, 85, 91, 92, 93, 94, 95, 96, 97, 98, 99, 114, 200] [] [50006, 55008, 56000, 56001, 56002, 56003, 64999, 71005, 71006, 71007, 71008, 71009, 71010, 71011, 71012, 71013, 71014, 72999, 73999, 74999, 76999, 77999, 78999, 79999, 80999, 81999, 85999, 91004, 91008, 92004, 92008, 93999, 94999, 95999, 96999, 97999, 98999, 99999, 114999] ty h ty426 h425 → gUq ty426 → gSta ty426 h425 → ty426 x = 50 → ty426 pic = 54 → ty426 dr = 55 → ty426 sk = 56 → ty426 c8 = 71 → ty426 c356 = 53 → h425.2.2.2.2 sk 0 = .ref bv → ty426 bv = 114 → (0 ≤ i ∧ i ≤ 10) → (0 ≤ cv ∧ cv ≤ 499999) → (0 ≤ hv ∧ hv ≤ 7) → ((n0 = 0 ∧ 4 * cv + hv ≤ 336000) ∨ 4 * cv + hv ≤ 400 + 7876 * i + 5120 * gTl tf tt i) → (i ≤ n0) → (cv ≤ (h425.2.2.2.1 bv : Int)) → (1024 * (((h425.1 : Int) - h.1) - 21) ≤ (h425.2.2.2.1 bv : Int) - lb) → (((h425.2.1 : Int) - h.2.1) ≤ 4303 + 2 * ((h425.2.2.2.1 bv : Int) - lb)) → (lb ≤ (h425.2.2.2.1 bv : Int)) → h425.2.2.2.2 x 2 = .ref pic → h425.2.2.2.2 x 3 = .ref dr → h425.2.2.2.2 x 4 = .ref sk → h425.2.2.2.2 dr 8 = .int (zi n0) → h425.2.2.2.2 dr 3 = .int (zi i0) → h425.2.2.2.2 dr 1 = .int (zi dw) → h425.2.2.2.2 x 6 = .ref c8 → h425.2.2.2.2 x 1 = .ref c356 → h425.2.2.2.2 c8 0 = .ref sk → h425.2.2.2.2 sk 1 = .int (zi cv) → h425.2.2.2.2 sk 3 = .int (zi hv) → gRow ty426 64 f h425 → gPC ty426 pic b0 b1 b2 ld h425 → gRr ty426 x h425 → gRow ty426 60 tf h425 → gRow ty426 61 tt h425 → gz gPP gGG gcn (d + 8) gt89 122 [some (.ref x), some (.int (zi qu)), some (.int (zi i))] [] h425 (fun q _ => ∃ ty9 : Nat → Nat, gSg [71, 72, 73, 74, 75, 76, 77, 78, 79, 80, 81, 85, 91, 92, 93, 94, 95, 96, 97, 98, 99, 114, 200] [] [50006, 55008, 56000, 56001, 56002, 56003, 64999, 71005, 71006, 71007, 71008, 71009, 71010, 71011, 71012, 71013, 71014, 72999, 73999, 74999, 76999, 77999, 78999, 79999, 80999, 81999, 85999, 91004, 91008, 92004, 92008, 93999, 94999, 95999, 96999, 97999, 98999, 99999, 114999] ty h ty9 q.2.2 ∧ ∃ ld1 lb1 iv1 : Int, 0 ≤ ld1 ∧ ld1 ≤ 192 ∧ 1024 ≤ lb1 ∧ lb1 ≤ 1000000 ∧ 0 ≤ iv1 ∧ iv1 ≤ 2058 ∧ (gIx ty9 x ld1 lb1 iv1 q.2.2) ∧ (gEy ty9 64 f qu (iv / 64) q.2.2) ∧ gUq ty9 ∧ ((∃ z : Int, gfin gt89 q.1 q.2.1 = some (some (.int (zi z))) ∧ (-2147483648) ≤ z ∧ z ≤ 2147483647 ∧ (1 ≤ qu) ∧ (qu ≤ 100) ∧ (64 ≤ iv) ∧ (iv1 = iv - iv % 64) ∧ (1024 * (((q.2.2.1 : Int) - h.1) - 31 - 2 * (ld1 - ld)) ≤ lb1 - lb) ∧ (((q.2.2.2.1 : Int) - h.2.1) ≤ 4303 + 12480 * (ld1 - ld) + 2 * (lb1 - lb)) ∧ (ld ≤ ld1) ∧ (lb ≤ lb1)) ∨ (q.2.1 = [] ∧ ((q.1 = 11 ∧ (¬ (1 ≤ qu ∧ qu ≤ 100))) ∨ (q.1 = 32 ∧ (iv < 64))) ∧ (iv1 = iv) ∧ (1024 * (((q.2.2.1 : Int) - h.1) - 31 - 2 * (ld1 - ld)) ≤ lb1 - lb) ∧ (((q.2.2.2.1 : Int) - h.2.1) ≤ 4303 + 12480 * (ld1 - ld) + 2 * (lb1 - lb)) ∧ (ld ≤ ld1) ∧ (lb ≤ lb1)))) := by
              intro fu
              induction fu with
              | zero => intro ty426 h425 bv i cv hv hm; exact absurd hm (Nat.not_lt_zero _)
              | succ fu ihlp424 =>
                intro ty426 h425 bv i cv hv lp424m lp424G lp424u lp424t lp424c0 lp424c1 lp424c2 lp424c3 lp424c4 lp424c5 lp424r0 lp424r1 lp424f0 lp424f1 lp424f2 lp424f3 lp424f4 lp424f5 lp424f6 lp424f7 lp424f8 lp424k0 lp424k1 lp424k2 lp424k3 lp424k4 lp424k5 lp424k6 lp424k7 lp424k8 lp424k9 lp424k10 lp424k11 lp424k12 lp424k13 lp424k14 lp424k15
                have sh425 : gSs rT 1027 ty426 [50006, 55008, 56000, 56001, 56002, 56003, 64999, 71005, 71006, 71007, 71008, 71009, 71010, 71011, 71012, 71013, 71014, 72999, 73999, 74999, 76999, 77999, 78999, 79999, 80999, 81999, 85999, 91004, 91008, 92004, 92008, 93999, 94999, 95999, 96999, 97999, 98999, 99999, 114999] h425 h425 := gSs.rf lp424G.1
                refine gz_s 2 (pc' := 124) (L' := [some (.ref x), some (.int (zi qu)), some (.int (zi i))]) (S' := [.ref x, .int (zi i)]) rfl ?_
                refine gs_gtk rfl (by decide) rfl sh425.1 lp424c0 rfl rfl lp424k1 ?_
                refine gs_gtk rfl (by decide) rfl sh425.1 lp424c2 rfl rfl lp424k3 ?_
                by_cases hc427 : (n0 : Int) ≤ i
                · refine gy_icT (pc' := 182) rfl (by decide) (by decide) (by omega) (by omega) hc427 ?_
                  have hgl9 : gTl tf tt i = gTl tf tt n0 := by rw [show i = n0 from Int.le_antisymm (by omega) (by omega)]
                  refine gz_s 1 (pc' := 183) (L' := [some (.ref x), some (.int (zi qu)), some (.int (zi i))]) (S' := [.ref x]) rfl ?_
                  refine gs_gtk rfl (by decide) rfl sh425.1 lp424c0 rfl rfl lp424k6 ?_
                  have hl428 : h425.2.2.2.1 bv = h425.2.2.2.1 bv := congrFun sh425.2.2.2.2.1 bv
                  refine gz_call rfl (by decide) rfl (by decide) (by decide) (gcal_of rfl rfl rfl (Nat.le_of_ble_eq_true rfl) (gJ.recv (G := gGG) sh425.1 lp424c4 rfl rfl)) (cl_Writer_putEnd _ sh425.1 c8 lp424c4 sk lp424k8 lp424c3 bv lp424r0 lp424r1 cv lp424k9 ⟨by omega, by omega⟩ (by omega) lp424u) (fun q429 _ wq429 => ?_)
                  obtain ⟨pq429, oq429, hq429⟩ := q429
                  obtain ⟨tyq429, xq429, cq429_0, ttq429, fq429_0, ecq429_0, tcq429_0, gq429, efq429_0, afq429_0, bfq429_0, uq429_0, uq429_1, uq429_2, uq429_3, uq429_4⟩ := wq429
                  dsimp only at uq429_1 uq429_2 uq429_3 uq429_4
                  refine ⟨_, gq429, ?_⟩
                  show gz gPP gGG gcn _ _ 189 [some (.ref x), some (.int (zi qu)), some (.int (zi i))] [] hq429 _
                  have G430 : gSg [71, 72, 73, 74, 75, 76, 77, 78, 79, 80, 81, 85, 91, 92, 93, 94, 95, 96, 97, 98, 99, 114, 200] [] [50006, 55008, 56000, 56001, 56002, 56003, 64999, 71005, 71006, 71007, 71008, 71009, 71010, 71011, 71012, 71013, 71014, 72999, 73999, 74999, 76999, 77999, 78999, 79999, 80999, 81999, 85999, 91004, 91008, 92004, 92008, 93999, 94999, 95999, 96999, 97999, 98999, 99999, 114999] ty h tyq429 hq429 := gSg.tr (gSg.ss lp424G sh425 (by decide)) xq429 (by decide) (by decide) (fun x hx => by cases hx)
                  have t431 : tyq429 x = 50 := gSg.typ xq429 sh425.1 lp424c0 rfl
                  have t432 : tyq429 pic = 54 := gSg.typ xq429 sh425.1 lp424c1 rfl
                  have t433 : tyq429 dr = 55 := gSg.typ xq429 sh425.1 lp424c2 rfl
                  have t434 : tyq429 sk = 56 := gSg.typ xq429 sh425.1 lp424c3 rfl
                  have t435 : tyq429 c8 = 71 := gSg.typ xq429 sh425.1 lp424c4 rfl
                  have t436 : tyq429 c356 = 53 := gSg.typ xq429 sh425.1 lp424c5 rfl
                  have t437 : tyq429 bv = 114 := gSg.typ xq429 sh425.1 lp424r1 rfl
                  have hl438 : hq429.2.2.2.1 bv = h425.2.2.2.1 bv := gSg.len xq429 sh425.1 lp424r1 rfl
                  have s439 := gSg.at xq429 sh425.1 lp424c0 rfl (by decide) lp424k0
                  have s440 := gSg.at xq429 sh425.1 lp424c0 rfl (by decide) lp424k1
                  have s441 := gSg.at xq429 sh425.1 lp424c0 rfl (by decide) lp424k2
                  have s442 := gSg.at xq429 sh425.1 lp424c2 rfl (by decide) lp424k3
                  have s443 := gSg.at xq429 sh425.1 lp424c2 rfl (by decide) lp424k4
                  have s444 := gSg.at xq429 sh425.1 lp424c2 rfl (by decide) lp424k5
                  have s445 := gSg.at xq429 sh425.1 lp424c0 rfl (by decide) lp424k6
                  have s446 := gSg.at xq429 sh425.1 lp424c0 rfl (by decide) lp424k7
                  have s447 := gSg.at xq429 sh425.1 lp424c4 rfl (by decide) lp424k8
                  have s448 := gSg.at xq429 sh425.1 lp424c3 rfl (by decide) lp424k10
                  have pr449 := gRow.gr xq429 sh425.1 rfl (by decide) (by decide) lp424k11
                  have pr450 := gPC.gr xq429 sh425.1 (by decide) lp424k12
                  have pr451 := gRr.gr xq429 sh425.1 (by decide) (by decide) lp424k13
                  have pr452 := gRow.gr xq429 sh425.1 rfl (by decide) (by decide) lp424k14
                  have pr453 := gRow.gr xq429 sh425.1 rfl (by decide) (by decide) lp424k15
                  have uq454 := gSg.uq xq429 lp424u (by decide)
                  have hyst455 := gSta.gr xq429 (by decide) (fun x hx => by cases hx) (gSta.fr sh425.2 (by decide) lp424t)
                  have sS456 : gSs rT 1027 tyq429 [50006, 55008, 56000, 56001, 56002, 56003, 64999, 71005, 71006, 71007, 71008, 71009, 71010, 71011, 71012, 71013, 71014, 72999, 73999, 74999, 76999, 77999, 78999, 79999, 80999, 81999, 85999, 91004, 91008, 92004, 92008, 93999, 94999, 95999, 96999, 97999, 98999, 99999, 114999] hq429 hq429 := gSs.rf xq429.1
                  refine gz_s 1 (pc' := 190) (L' := [some (.ref x), some (.int (zi qu)), some (.int (zi i))]) (S' := [.ref x]) rfl ?_
                  refine gs_gtk rfl (by decide) rfl sS456.1 t431 rfl rfl s440 ?_
                  refine gz_call rfl (by decide) rfl (by decide) (by decide) (gcal_of rfl rfl rfl (Nat.le_of_ble_eq_true rfl) (gJ.recv (G := gGG) sS456.1 t433 rfl rfl)) (cl_Draft_forgetScans _ sS456.1 dr t433 uq454) (fun q457 _ wq457 => ?_)
                  obtain ⟨pq457, oq457, hq457⟩ := q457
                  obtain ⟨xq457, fq457_0, gq457, efq457_0, afq457_0, bfq457_0, uq457_0, yq457_0, yq457_1⟩ := wq457
                  refine ⟨_, gq457, ?_⟩
                  show gz gPP gGG gcn _ _ 196 [some (.ref x), some (.int (zi qu)), some (.int (zi i))] [] hq457 _
                  have sq457 : gSs rT 1027 tyq429 [50006, 55008, 56000, 56001, 56002, 56003, 64999, 71005, 71006, 71007, 71008, 71009, 71010, 71011, 71012, 71013, 71014, 72999, 73999, 74999, 76999, 77999, 78999, 79999, 80999, 81999, 85999, 91004, 91008, 92004, 92008, 93999, 94999, 95999, 96999, 97999, 98999, 99999, 114999] hq429 hq457 := gSs.tr sS456 xq457 (by decide)
                  have s458 := (xq457.2.2.2.2.2 x 2 (by rw [t431]; decide)).trans s439
                  have s459 := (xq457.2.2.2.2.2 x 3 (by rw [t431]; decide)).trans s440
                  have s460 := (xq457.2.2.2.2.2 x 4 (by rw [t431]; decide)).trans s441
                  have s461 := (xq457.2.2.2.2.2 dr 3 (by rw [t433]; decide)).trans s443
                  have s462 := (xq457.2.2.2.2.2 dr 1 (by rw [t433]; decide)).trans s444
                  have s463 := (xq457.2.2.2.2.2 x 6 (by rw [t431]; decide)).trans s445
                  have s464 := (xq457.2.2.2.2.2 x 1 (by rw [t431]; decide)).trans s446
                  have s465 := (xq457.2.2.2.2.2 c8 0 (by rw [t435]; decide)).trans s447
                  have s466 := (xq457.2.2.2.2.2 sk 3 (by rw [t434]; decide)).trans s448
                  have s467 := (xq457.2.2.2.2.2 sk 0 (by rw [t434]; decide)).trans ecq429_0
                  have s468 := (xq457.2.2.2.2.2 sk 1 (by rw [t434]; decide)).trans efq429_0
                  have pr469 := gPC.fr xq457.2 (by decide) pr450
                  have pr470 := gRr.fr xq457.2 (by decide) pr451
                  have pr471 := gRow.fr xq457.2 (by decide) pr452
                  have pr472 := gRow.fr xq457.2 (by decide) pr453
                  refine gz_s 1 (pc' := 197) (L' := [some (.ref x), some (.int (zi qu)), some (.int (zi i))]) (S' := [.ref x]) rfl ?_
                  refine gs_gtk rfl (by decide) rfl sq457.1 t431 rfl rfl s460 ?_
                  refine gs_gtk rfl (by decide) rfl sq457.1 t434 rfl rfl s468 ?_
                  have k473 := sq457.2.1
                  have k473b := sq457.2.2.1
                  have hl474 : hq457.2.2.2.1 bv = hq429.2.2.2.1 bv := congrFun sq457.2.2.2.2.1 bv
                  have hl475 : hq457.2.2.2.1 cq429_0 = hq429.2.2.2.1 cq429_0 := congrFun sq457.2.2.2.2.1 cq429_0
                  have hl476 : 1024 ≤ hq457.2.2.2.1 bv ∧ hq457.2.2.2.1 bv ≤ 1000000 := gJ.rowl (G := gGG) sq457.1 t437 rfl
                  have hl477 : 1024 ≤ hq457.2.2.2.1 cq429_0 ∧ hq457.2.2.2.1 cq429_0 ≤ 1000000 := gJ.rowl (G := gGG) sq457.1 tcq429_0 rfl
                  have k478 := sq457.2.1
                  have k478b := sq457.2.2.1
                  have hl479 : hq457.2.2.2.1 bv = hq429.2.2.2.1 bv := congrFun sq457.2.2.2.2.1 bv
                  have hl480 : hq457.2.2.2.1 cq429_0 = hq429.2.2.2.1 cq429_0 := congrFun sq457.2.2.2.2.1 cq429_0
                  have hix481 : gIx tyq429 x ld (hq457.2.2.2.1 cq429_0 : Int) (64 * dw + fq457_0) hq457 := ⟨pic, b0, b1, b2, dr, sk, cq429_0, fq457_0, fq429_0, i0, dw, ⟨t431, t433, t434, tcq429_0⟩, ⟨s458, s459, s460, s467⟩, pr469, (by rw [(by omega : fq457_0 = 0)]; exact yq457_0), ⟨efq457_0, by omega, by omega⟩, ⟨s461, by omega, by omega⟩, ⟨s468, by omega, by omega⟩, ⟨by omega, by omega⟩, pr470, ⟨t431, Or.inr ⟨c8, s463, t435⟩⟩, ⟨s462, by omega, by omega⟩, rfl⟩
                  have hey482 : gEy tyq429 64 f qu (iv / 64) hq457 := gEy.oy yq457_1 ⟨by omega, by omega, by omega⟩
                  have G483 : gSg [71, 72, 73, 74, 75, 76, 77, 78, 79, 80, 81, 85, 91, 92, 93, 94, 95, 96, 97, 98, 99, 114, 200] [] [50006, 55008, 56000, 56001, 56002, 56003, 64999, 71005, 71006, 71007, 71008, 71009, 71010, 71011, 71012, 71013, 71014, 72999, 73999, 74999, 76999, 77999, 78999, 79999, 80999, 81999, 85999, 91004, 91008, 92004, 92008, 93999, 94999, 95999, 96999, 97999, 98999, 99999, 114999] ty h tyq429 hq457 := gSg.ss G430 sq457 (by decide)
                  exact gz_end (I := .ireturn) (len := 1) rfl (Or.inl rfl) ⟨tyq429, G483, ld, (hq457.2.2.2.1 cq429_0 : Int), (64 * dw + fq457_0), (by omega), (by omega), (by omega), (by omega), (by omega), (by omega), hix481, hey482, uq454, Or.inl ⟨fq429_0, rfl, (by omega), (by omega), (by omega), (by omega), (by omega), (by omega), (by dsimp only; omega), (by dsimp only; omega), (by omega), (by omega)⟩⟩
                · refine gy_icF rfl (by decide) (by decide) (by omega) (by omega) hc427 ?_
                  refine gz_s 1 (pc' := 134) (L' := [some (.ref x), some (.int (zi qu)), some (.int (zi i))]) (S' := [.ref x]) rfl ?_
                  refine gs_gtk rfl (by decide) rfl sh425.1 lp424c0 rfl rfl lp424k6 ?_
                  refine gz_s 1 (pc' := 138) (L' := [some (.ref x), some (.int (zi qu)), some (.int (zi i))]) (S' := [.ref x, .ref c8]) rfl ?_
                  refine gs_gtk rfl (by decide) rfl sh425.1 lp424c0 rfl rfl lp424k1 ?_
                  refine gs_gtr rfl (by decide) rfl sh425.1 lp424c2 rfl rfl rfl (fun c484 ec484 tc484 => ?_)
                  refine gz_s 1 (pc' := 145) (L' := [some (.ref x), some (.int (zi qu)), some (.int (zi i))]) (S' := [.int (zi i), .ref c484, .ref c8]) rfl ?_
                  have hl485 : 10 ≤ h425.2.2.2.1 c484 ∧ h425.2.2.2.1 c484 ≤ 10 := gJ.rowl (G := gGG) sh425.1 tc484 rfl
                  refine gs_ald rfl (by decide) sh425.1 tc484 rfl rfl rfl (by decide) (fun _ => rfl) (by omega) (by omega) (fun z486 ez486 az486 bz486 => ?_)
                  have hf487 := gRow.at (i := i) (z := z486) lp424k14 tc484 ez486 (by omega) (by omega) (by omega)
                  refine gz_s 1 (pc' := 147) (L' := [some (.ref x), some (.int (zi qu)), some (.int (zi i))]) (S' := [.ref x, .int (zi z486), .ref c8]) rfl ?_
                  refine gs_gtk rfl (by decide) rfl sh425.1 lp424c0 rfl rfl lp424k1 ?_
                  refine gs_gtr rfl (by decide) rfl sh425.1 lp424c2 rfl rfl rfl (fun c488 ec488 tc488 => ?_)
                  refine gz_s 1 (pc' := 154) (L' := [some (.ref x), some (.int (zi qu)), some (.int (zi i))]) (S' := [.int (zi i), .ref c488, .int (zi z486), .ref c8]) rfl ?_
                  have hl489 : 10 ≤ h425.2.2.2.1 c488 ∧ h425.2.2.2.1 c488 ≤ 10 := gJ.rowl (G := gGG) sh425.1 tc488 rfl
                  refine gs_ald rfl (by decide) sh425.1 tc488 rfl rfl rfl (by decide) (fun _ => rfl) (by omega) (by omega) (fun z490 ez490 az490 bz490 => ?_)
                  have hf491 := gRow.at (i := i) (z := z490) lp424k15 tc488 ez490 (by omega) (by omega) (by omega)
                  refine gz_s 1 (pc' := 156) (L' := [some (.ref x), some (.int (zi qu)), some (.int (zi i))]) (S' := [.ref x, .int (zi z490), .int (zi z486), .ref c8]) rfl ?_
                  refine gs_gtk rfl (by decide) rfl sh425.1 lp424c0 rfl rfl lp424k1 ?_
                  refine gs_gtr rfl (by decide) rfl sh425.1 lp424c2 rfl rfl rfl (fun c492 ec492 tc492 => ?_)
                  refine gz_s 1 (pc' := 163) (L' := [some (.ref x), some (.int (zi qu)), some (.int (zi i))]) (S' := [.int (zi i), .ref c492, .int (zi z490), .int (zi z486), .ref c8]) rfl ?_
                  have hl493 : 10 ≤ h425.2.2.2.1 c492 ∧ h425.2.2.2.1 c492 ≤ 10 := gJ.rowl (G := gGG) sh425.1 tc492 rfl
                  refine gs_ald rfl (by decide) sh425.1 tc492 rfl rfl rfl (by decide) (fun _ => rfl) (by omega) (by omega) (fun z494 ez494 az494 bz494 => ?_)
                  refine gz_s 1 (pc' := 165) (L' := [some (.ref x), some (.int (zi qu)), some (.int (zi i))]) (S' := [.ref x, .int (zi z494), .int (zi z490), .int (zi z486), .ref c8]) rfl ?_
                  refine gs_gtk rfl (by decide) rfl sh425.1 lp424c0 rfl rfl lp424k1 ?_
                  refine gs_gtr rfl (by decide) rfl sh425.1 lp424c2 rfl rfl rfl (fun c495 ec495 tc495 => ?_)
                  refine gz_s 1 (pc' := 172) (L' := [some (.ref x), some (.int (zi qu)), some (.int (zi i))]) (S' := [.int (zi i), .ref c495, .int (zi z494), .int (zi z490), .int (zi z486), .ref c8]) rfl ?_
                  have hl496 : 10 ≤ h425.2.2.2.1 c495 ∧ h425.2.2.2.1 c495 ≤ 10 := gJ.rowl (G := gGG) sh425.1 tc495 rfl
                  refine gs_ald rfl (by decide) sh425.1 tc495 rfl rfl rfl (by decide) (fun _ => rfl) (by omega) (by omega) (fun z497 ez497 az497 bz497 => ?_)
                  have htl := tle (i).toNat (by omega)
                  have hst := gTl_st (f := tf) (t := tt) (k := i) (a := z486) (b := z490) (by omega) hf487 hf491
                  have hle := gTl_le (f := tf) (t := tt) (k := i + 1) (n := n0) tle (by omega)
                  have hl498 : h425.2.2.2.1 bv = h425.2.2.2.1 bv := congrFun sh425.2.2.2.2.1 bv
                  refine gz_call rfl (by decide) rfl (by decide) (by decide) (gcal_of rfl rfl rfl (Nat.le_of_ble_eq_true rfl) (gJ.recv (G := gGG) sh425.1 lp424c4 rfl rfl)) (cl_Writer_putScan _ sh425.1 c8 lp424c4 z486 ⟨by omega, by omega⟩ z490 ⟨by omega, by omega⟩ z494 ⟨by omega, by omega⟩ z497 ⟨by omega, by omega⟩ sk lp424k8 lp424c3 bv lp424r0 lp424r1 cv lp424k9 ⟨by omega, by omega⟩ hv lp424k10 ⟨by omega, by omega⟩ (by omega) (by omega) (by omega) lp424u) (fun q499 _ wq499 => ?_)
                  obtain ⟨pq499, oq499, hq499⟩ := q499
                  obtain ⟨tyq499, xq499, cq499_0, ttq499, fq499_0, fq499_1, ecq499_0, tcq499_0, gq499, efq499_0, afq499_0, bfq499_0, efq499_1, afq499_1, bfq499_1, uq499_0, uq499_1, uq499_2, uq499_3, uq499_4, uq499_5⟩ := wq499
                  dsimp only at uq499_2 uq499_3 uq499_4 uq499_5
                  refine ⟨_, gq499, ?_⟩
                  show gz gPP gGG gcn _ _ 176 [some (.ref x), some (.int (zi qu)), some (.int (zi i))] [] hq499 _
                  have G500 : gSg [71, 72, 73, 74, 75, 76, 77, 78, 79, 80, 81, 85, 91, 92, 93, 94, 95, 96, 97, 98, 99, 114, 200] [] [50006, 55008, 56000, 56001, 56002, 56003, 64999, 71005, 71006, 71007, 71008, 71009, 71010, 71011, 71012, 71013, 71014, 72999, 73999, 74999, 76999, 77999, 78999, 79999, 80999, 81999, 85999, 91004, 91008, 92004, 92008, 93999, 94999, 95999, 96999, 97999, 98999, 99999, 114999] ty h tyq499 hq499 := gSg.tr (gSg.ss lp424G sh425 (by decide)) xq499 (by decide) (by decide) (fun x hx => by cases hx)
                  have t501 : tyq499 x = 50 := gSg.typ xq499 sh425.1 lp424c0 rfl
                  have t502 : tyq499 pic = 54 := gSg.typ xq499 sh425.1 lp424c1 rfl
                  have t503 : tyq499 dr = 55 := gSg.typ xq499 sh425.1 lp424c2 rfl
                  have t504 : tyq499 sk = 56 := gSg.typ xq499 sh425.1 lp424c3 rfl
                  have t505 : tyq499 c8 = 71 := gSg.typ xq499 sh425.1 lp424c4 rfl
                  have t506 : tyq499 c356 = 53 := gSg.typ xq499 sh425.1 lp424c5 rfl
                  have t507 : tyq499 bv = 114 := gSg.typ xq499 sh425.1 lp424r1 rfl
                  have hl508 : hq499.2.2.2.1 bv = h425.2.2.2.1 bv := gSg.len xq499 sh425.1 lp424r1 rfl
                  have t509 : tyq499 c484 = 60 := gSg.typ xq499 sh425.1 tc484 rfl
                  have t510 : tyq499 c488 = 61 := gSg.typ xq499 sh425.1 tc488 rfl
                  have t511 : tyq499 c492 = 62 := gSg.typ xq499 sh425.1 tc492 rfl
                  have t512 : tyq499 c495 = 63 := gSg.typ xq499 sh425.1 tc495 rfl
                  have s513 := gSg.at xq499 sh425.1 lp424c0 rfl (by decide) lp424k0
                  have s514 := gSg.at xq499 sh425.1 lp424c0 rfl (by decide) lp424k1
                  have s515 := gSg.at xq499 sh425.1 lp424c0 rfl (by decide) lp424k2
                  have s516 := gSg.at xq499 sh425.1 lp424c2 rfl (by decide) lp424k3
                  have s517 := gSg.at xq499 sh425.1 lp424c2 rfl (by decide) lp424k4
                  have s518 := gSg.at xq499 sh425.1 lp424c2 rfl (by decide) lp424k5
                  have s519 := gSg.at xq499 sh425.1 lp424c0 rfl (by decide) lp424k6
                  have s520 := gSg.at xq499 sh425.1 lp424c0 rfl (by decide) lp424k7
                  have s521 := gSg.at xq499 sh425.1 lp424c4 rfl (by decide) lp424k8
                  have s522 := gSg.at xq499 sh425.1 lp424c2 rfl (by decide) ec484
                  have s523 := gSg.at xq499 sh425.1 lp424c2 rfl (by decide) ec488
                  have s524 := gSg.at xq499 sh425.1 lp424c2 rfl (by decide) ec492
                  have s525 := gSg.at xq499 sh425.1 lp424c2 rfl (by decide) ec495
                  have pr526 := gRow.gr xq499 sh425.1 rfl (by decide) (by decide) lp424k11
                  have pr527 := gPC.gr xq499 sh425.1 (by decide) lp424k12
                  have pr528 := gRr.gr xq499 sh425.1 (by decide) (by decide) lp424k13
                  have pr529 := gRow.gr xq499 sh425.1 rfl (by decide) (by decide) lp424k14
                  have pr530 := gRow.gr xq499 sh425.1 rfl (by decide) (by decide) lp424k15
                  have uq531 := gSg.uq xq499 lp424u (by decide)
                  have hyst532 := gSta.gr xq499 (by decide) (fun x hx => by cases hx) (gSta.fr sh425.2 (by decide) lp424t)
                  have sS533 : gSs rT 1027 tyq499 [50006, 55008, 56000, 56001, 56002, 56003, 64999, 71005, 71006, 71007, 71008, 71009, 71010, 71011, 71012, 71013, 71014, 72999, 73999, 74999, 76999, 77999, 78999, 79999, 80999, 81999, 85999, 91004, 91008, 92004, 92008, 93999, 94999, 95999, 96999, 97999, 98999, 99999, 114999] hq499 hq499 := gSs.rf xq499.1
                  refine gy_s 2 (pc' := 122) (L' := [some (.ref x), some (.int (zi qu)), some (.int ((zi i) + zi 1))]) (S' := []) (L2 := [some (.ref x), some (.int (zi qu)), some (.int (zi (i + 1)))]) (S2 := []) rfl (by simp only [zi_add, zi_sub, zi_mul, zi_neg, zi_and1, zi_and7, zi_and15, zi_and31, zi_and255]) (by simp only [zi_add, zi_sub, zi_mul, zi_neg, zi_and1, zi_and7, zi_and15, zi_and31, zi_and255]) ?_
                  have hl534 : 1024 ≤ hq499.2.2.2.1 bv ∧ hq499.2.2.2.1 bv ≤ 1000000 := gJ.rowl (G := gGG) sS533.1 t507 rfl
                  have hl535 : 1024 ≤ hq499.2.2.2.1 cq499_0 ∧ hq499.2.2.2.1 cq499_0 ≤ 1000000 := gJ.rowl (G := gGG) sS533.1 tcq499_0 rfl
                  have G536 : gSg [71, 72, 73, 74, 75, 76, 77, 78, 79, 80, 81, 85, 91, 92, 93, 94, 95, 96, 97, 98, 99, 114, 200] [] [50006, 55008, 56000, 56001, 56002, 56003, 64999, 71005, 71006, 71007, 71008, 71009, 71010, 71011, 71012, 71013, 71014, 72999, 73999, 74999, 76999, 77999, 78999, 79999, 80999, 81999, 85999, 91004, 91008, 92004, 92008, 93999, 94999, 95999, 96999, 97999, 98999, 99999, 114999] ty h tyq499 hq499 := gSg.ss G500 sS533 (by decide)
                  exact gz_wk (ihlp424 tyq499 hq499 cq499_0 (i + 1) fq499_0 fq499_1 (gms lp424m (by omega) (by omega)) G536 uq531 (gSta.fr sS533.2 (by decide) hyst532) t501 t502 t503 t504 t505 t506 ecq499_0 tcq499_0 ⟨by omega, by omega⟩ ⟨by omega, by omega⟩ ⟨by omega, by omega⟩ (by omega) (by omega) (by omega) (by omega) (by omega) (by omega) s513 s514 s515 s516 s517 s518 s519 s520 s521 efq499_0 efq499_1 pr526 pr527 pr528 pr529 pr530) (gLw.s (gLw.s (gLw.s gLw.z)))
            have hl537 : 1024 ≤ hq393.2.2.2.1 bt ∧ hq393.2.2.2.1 bt ≤ 1000000 := gJ.rowl (G := gGG) sS422.1 t402 rfl
            have hl538 : 1024 ≤ hq393.2.2.2.1 cq393_0 ∧ hq393.2.2.2.1 cq393_0 ≤ 1000000 := gJ.rowl (G := gGG) sS422.1 tcq393_0 rfl
            have G539 : gSg [71, 72, 73, 74, 75, 76, 77, 78, 79, 80, 81, 85, 91, 92, 93, 94, 95, 96, 97, 98, 99, 114, 200] [] [50006, 55008, 56000, 56001, 56002, 56003, 64999, 71005, 71006, 71007, 71008, 71009, 71010, 71011, 71012, 71013, 71014, 72999, 73999, 74999, 76999, 77999, 78999, 79999, 80999, 81999, 85999, 91004, 91008, 92004, 92008, 93999, 94999, 95999, 96999, 97999, 98999, 99999, 114999] ty h tyq393 hq393 := gSg.ss G394 sS422 (by decide)
            exact gz_wk (lp424 _ tyq393 hq393 cq393_0 0 fq393_0 fq393_1 (Nat.lt_succ_self _) G539 uq420 (gSta.fr sS422.2 (by decide) hyst421) t395 t396 t400 t401 t404 t405 ecq393_0 tcq393_0 ⟨by omega, by omega⟩ ⟨by omega, by omega⟩ ⟨by omega, by omega⟩ (by omega) (by omega) (by omega) (by omega) (by omega) (by omega) s406 s407 s408 s409 s410 s411 s412 s413 s414 efq393_0 efq393_1 pr415 pr416 pr418 rf rt) (gLw.s (gLw.s (gLw.s gLw.z)))
          · refine gy_ifF rfl (by decide) (by decide) (by omega) hc423 ?_
            refine gz_s 1 (pc' := 109) (L' := [some (.ref x), some (.int (zi qu)), none]) (S' := [.ref x]) rfl ?_
            refine gs_gtk rfl (by decide) rfl sS422.1 t395 rfl rfl s412 ?_
            refine gz_s 4 (pc' := 117) (L' := [some (.ref x), some (.int (zi qu)), none]) (S' := [.int (zi 0), .int (zi 0), .int (zi 63), .int (zi 0), .ref c8]) rfl ?_
            have hl540 : hq393.2.2.2.1 cq393_0 = hq393.2.2.2.1 cq393_0 := congrFun sS422.2.2.2.2.1 cq393_0
            refine gz_call rfl (by decide) rfl (by decide) (by decide) (gcal_of rfl rfl rfl (Nat.le_of_ble_eq_true rfl) (gJ.recv (G := gGG) sS422.1 t404 rfl rfl)) (cl_Writer_putScan _ sS422.1 c8 t404 0 ⟨by omega, by omega⟩ 63 ⟨by omega, by omega⟩ 0 ⟨by omega, by omega⟩ 0 ⟨by omega, by omega⟩ sk s414 t401 cq393_0 ecq393_0 tcq393_0 fq393_0 efq393_0 ⟨by omega, by omega⟩ fq393_1 efq393_1 ⟨by omega, by omega⟩ (by omega) (by omega) (by omega) uq420) (fun q541 _ wq541 => ?_)
            obtain ⟨pq541, oq541, hq541⟩ := q541
            obtain ⟨tyq541, xq541, cq541_0, ttq541, fq541_0, fq541_1, ecq541_0, tcq541_0, gq541, efq541_0, afq541_0, bfq541_0, efq541_1, afq541_1, bfq541_1, uq541_0, uq541_1, uq541_2, uq541_3, uq541_4, uq541_5⟩ := wq541
            dsimp only at uq541_2 uq541_3 uq541_4 uq541_5
            refine ⟨_, gq541, ?_⟩
            show gz gPP gGG gcn _ _ 120 [some (.ref x), some (.int (zi qu)), none] [] hq541 _
            have G542 : gSg [71, 72, 73, 74, 75, 76, 77, 78, 79, 80, 81, 85, 91, 92, 93, 94, 95, 96, 97, 98, 99, 114, 200] [] [50006, 55008, 56000, 56001, 56002, 56003, 64999, 71005, 71006, 71007, 71008, 71009, 71010, 71011, 71012, 71013, 71014, 72999, 73999, 74999, 76999, 77999, 78999, 79999, 80999, 81999, 85999, 91004, 91008, 92004, 92008, 93999, 94999, 95999, 96999, 97999, 98999, 99999, 114999] ty h tyq541 hq541 := gSg.tr (gSg.ss G394 sS422 (by decide)) xq541 (by decide) (by decide) (fun x hx => by cases hx)
            have t543 : tyq541 x = 50 := gSg.typ xq541 sS422.1 t395 rfl
            have t544 : tyq541 pic = 54 := gSg.typ xq541 sS422.1 t396 rfl
            have t545 : tyq541 b0 = 82 := gSg.typ xq541 sS422.1 t397 rfl
            have t546 : tyq541 b1 = 83 := gSg.typ xq541 sS422.1 t398 rfl
            have t547 : tyq541 b2 = 84 := gSg.typ xq541 sS422.1 t399 rfl
            have t548 : tyq541 dr = 55 := gSg.typ xq541 sS422.1 t400 rfl
            have t549 : tyq541 sk = 56 := gSg.typ xq541 sS422.1 t401 rfl
            have t550 : tyq541 bt = 114 := gSg.typ xq541 sS422.1 t402 rfl
            have hl551 : hq541.2.2.2.1 bt = hq393.2.2.2.1 bt := gSg.len xq541 sS422.1 t402 rfl
            have t552 : tyq541 c8 = 71 := gSg.typ xq541 sS422.1 t404 rfl
            have t553 : tyq541 c356 = 53 := gSg.typ xq541 sS422.1 t405 rfl
            have t554 : tyq541 cq393_0 = 114 := gSg.typ xq541 sS422.1 tcq393_0 rfl
            have hl555 : hq541.2.2.2.1 cq393_0 = hq393.2.2.2.1 cq393_0 := gSg.len xq541 sS422.1 tcq393_0 rfl
            have s556 := gSg.at xq541 sS422.1 t395 rfl (by decide) s406
            have s557 := gSg.at xq541 sS422.1 t395 rfl (by decide) s407
            have s558 := gSg.at xq541 sS422.1 t395 rfl (by decide) s408
            have s559 := gSg.at xq541 sS422.1 t400 rfl (by decide) s409
            have s560 := gSg.at xq541 sS422.1 t400 rfl (by decide) s410
            have s561 := gSg.at xq541 sS422.1 t400 rfl (by decide) s411
            have s562 := gSg.at xq541 sS422.1 t395 rfl (by decide) s412
            have s563 := gSg.at xq541 sS422.1 t395 rfl (by decide) s413
            have s564 := gSg.at xq541 sS422.1 t404 rfl (by decide) s414
            have pr565 := gRow.gr xq541 sS422.1 rfl (by decide) (by decide) pr415
            have pr566 := gPC.gr xq541 sS422.1 (by decide) pr416
            have pr567 := gTc.gr xq541 sS422.1 (by decide) (by decide) pr417
            have pr568 := gRr.gr xq541 sS422.1 (by decide) (by decide) pr418
            have pr569 := gRw.gr xq541 sS422.1 (by decide) (by decide) pr419
            have uq570 := gSg.uq xq541 uq420 (by decide)
            have hyst571 := gSta.gr xq541 (by decide) (fun x hx => by cases hx) (gSta.fr sS422.2 (by decide) hyst421)
            have sS572 : gSs rT 1027 tyq541 [50006, 55008, 56000, 56001, 56002, 56003, 64999, 71005, 71006, 71007, 71008, 71009, 71010, 71011, 71012, 71013, 71014, 72999, 73999, 74999, 76999, 77999, 78999, 79999, 80999, 81999, 85999, 91004, 91008, 92004, 92008, 93999, 94999, 95999, 96999, 97999, 98999, 99999, 114999] hq541 hq541 := gSs.rf xq541.1
            obtain ⟨tf, tt, cf, rf, rt, rc, tle, tsm⟩ := pr567
            have hg0 := gsf_nn (f := fun j => gcr (cf j)) (fun j => by unfold gcr; split <;> omega) 64
            have hgl0 : gTl tf tt 0 = 0 := rfl
            refine gz_s 2 (pc' := 122) (L' := [some (.ref x), some (.int (zi qu)), some (.int (zi 0))]) (S' := []) rfl ?_
            have lp573 : ∀ (fu : Nat) (ty575 : Nat → Nat) (h574 : gH) (bv : Nat) (i : Int) (cv : Int) (hv : Int), (11 - i).toNat < fu → gSg [71, 72, 73, 74, 75, 76, 77, 78, 79, 80, 81, 85, 91, 92, 93, 94, 95, 96, 97, 98, 99, 114, 200] [] [50006, 55008, 56000, 56001, 56002, 56003, 64999, 71005, 71006, 71007, 71008, 71009, 71010, 71011, 71012, 71013, 71014, 72999, 73999, 74999, 76999, 77999, 78999, 79999, 80999, 81999, 85999, 91004, 91008, 92004, 92008, 93999, 94999, 95999, 96999, 97999, 98999, 99999, 114999] ty h ty575 h574 → gUq ty575 → gSta ty575 h574 → ty575 x = 50 → ty575 pic = 54 → ty575 dr = 55 → ty575 sk = 56 → ty575 c8 = 71 → ty575 c356 = 53 → h574.2.2.2.2 sk 0 = .ref bv → ty575 bv = 114 → (0 ≤ i ∧ i ≤ 10) → (0 ≤ cv ∧ cv ≤ 499999) → (0 ≤ hv ∧ hv ≤ 7) → ((n0 = 0 ∧ 4 * cv + hv ≤ 336000) ∨ 4 * cv + hv ≤ 400 + 7876 * i + 5120 * gTl tf tt i) → (i ≤ n0) → (cv ≤ (h574.2.2.2.1 bv : Int)) → (1024 * (((h574.1 : Int) - h.1) - 21) ≤ (h574.2.2.2.1 bv : Int) - lb) → (((h574.2.1 : Int) - h.2.1) ≤ 4303 + 2 * ((h574.2.2.2.1 bv : Int) - lb)) → (lb ≤ (h574.2.2.2.1 bv : Int)) → h574.2.2.2.2 x 2 = .ref pic → h574.2.2.2.2 x 3 = .ref dr → h574.2.2.2.2 x 4 = .ref sk → h574.2.2.2.2 dr 8 = .int (zi n0) → h574.2.2.2.2 dr 3 = .int (zi i0) → h574.2.2.2.2 dr 1 = .int (zi dw) → h574.2.2.2.2 x 6 = .ref c8 → h574.2.2.2.2 x 1 = .ref c356 → h574.2.2.2.2 c8 0 = .ref sk → h574.2.2.2.2 sk 1 = .int (zi cv) → h574.2.2.2.2 sk 3 = .int (zi hv) → gRow ty575 64 f h574 → gPC ty575 pic b0 b1 b2 ld h574 → gRr ty575 x h574 → gRow ty575 60 tf h574 → gRow ty575 61 tt h574 → gz gPP gGG gcn (d + 8) gt89 122 [some (.ref x), some (.int (zi qu)), some (.int (zi i))] [] h574 (fun q _ => ∃ ty9 : Nat → Nat, gSg [71, 72, 73, 74, 75, 76, 77, 78, 79, 80, 81, 85, 91, 92, 93, 94, 95, 96, 97, 98, 99, 114, 200] [] [50006, 55008, 56000, 56001, 56002, 56003, 64999, 71005, 71006, 71007, 71008, 71009, 71010, 71011, 71012, 71013, 71014, 72999, 73999, 74999, 76999, 77999, 78999, 79999, 80999, 81999, 85999, 91004, 91008, 92004, 92008, 93999, 94999, 95999, 96999, 97999, 98999, 99999, 114999] ty h ty9 q.2.2 ∧ ∃ ld1 lb1 iv1 : Int, 0 ≤ ld1 ∧ ld1 ≤ 192 ∧ 1024 ≤ lb1 ∧ lb1 ≤ 1000000 ∧ 0 ≤ iv1 ∧ iv1 ≤ 2058 ∧ (gIx ty9 x ld1 lb1 iv1 q.2.2) ∧ (gEy ty9 64 f qu (iv / 64) q.2.2) ∧ gUq ty9 ∧ ((∃ z : Int, gfin gt89 q.1 q.2.1 = some (some (.int (zi z))) ∧ (-2147483648) ≤ z ∧ z ≤ 2147483647 ∧ (1 ≤ qu) ∧ (qu ≤ 100) ∧ (64 ≤ iv) ∧ (iv1 = iv - iv % 64) ∧ (1024 * (((q.2.2.1 : Int) - h.1) - 31 - 2 * (ld1 - ld)) ≤ lb1 - lb) ∧ (((q.2.2.2.1 : Int) - h.2.1) ≤ 4303 + 12480 * (ld1 - ld) + 2 * (lb1 - lb)) ∧ (ld ≤ ld1) ∧ (lb ≤ lb1)) ∨ (q.2.1 = [] ∧ ((q.1 = 11 ∧ (¬ (1 ≤ qu ∧ qu ≤ 100))) ∨ (q.1 = 32 ∧ (iv < 64))) ∧ (iv1 = iv) ∧ (1024 * (((q.2.2.1 : Int) - h.1) - 31 - 2 * (ld1 - ld)) ≤ lb1 - lb) ∧ (((q.2.2.2.1 : Int) - h.2.1) ≤ 4303 + 12480 * (ld1 - ld) + 2 * (lb1 - lb)) ∧ (ld ≤ ld1) ∧ (lb ≤ lb1)))) := by
              intro fu
              induction fu with
              | zero => intro ty575 h574 bv i cv hv hm; exact absurd hm (Nat.not_lt_zero _)
              | succ fu ihlp573 =>
                intro ty575 h574 bv i cv hv lp573m lp573G lp573u lp573t lp573c0 lp573c1 lp573c2 lp573c3 lp573c4 lp573c5 lp573r0 lp573r1 lp573f0 lp573f1 lp573f2 lp573f3 lp573f4 lp573f5 lp573f6 lp573f7 lp573f8 lp573k0 lp573k1 lp573k2 lp573k3 lp573k4 lp573k5 lp573k6 lp573k7 lp573k8 lp573k9 lp573k10 lp573k11 lp573k12 lp573k13 lp573k14 lp573k15
                have sh574 : gSs rT 1027 ty575 [50006, 55008, 56000, 56001, 56002, 56003, 64999, 71005, 71006, 71007, 71008, 71009, 71010, 71011, 71012, 71013, 71014, 72999, 73999, 74999, 76999, 77999, 78999, 79999, 80999, 81999, 85999, 91004, 91008, 92004, 92008, 93999, 94999, 95999, 96999, 97999, 98999, 99999, 114999] h574 h574 := gSs.rf lp573G.1
                refine gz_s 2 (pc' := 124) (L' := [some (.ref x), some (.int (zi qu)), some (.int (zi i))]) (S' := [.ref x, .int (zi i)]) rfl ?_
                refine gs_gtk rfl (by decide) rfl sh574.1 lp573c0 rfl rfl lp573k1 ?_
                refine gs_gtk rfl (by decide) rfl sh574.1 lp573c2 rfl rfl lp573k3 ?_
                refine gy_icT (pc' := 182) rfl (by decide) (by decide) ⟨by omega, by omega⟩ ⟨by omega, by omega⟩ (by first | (simp [zc]; done) | (simp only [zc]; omega)) ?_
                have hgl9 : gTl tf tt i = gTl tf tt n0 := by rw [show i = n0 from Int.le_antisymm (by omega) (by omega)]
                refine gz_s 1 (pc' := 183) (L' := [some (.ref x), some (.int (zi qu)), some (.int (zi i))]) (S' := [.ref x]) rfl ?_
                refine gs_gtk rfl (by decide) rfl sh574.1 lp573c0 rfl rfl lp573k6 ?_
                have hl576 : h574.2.2.2.1 bv = h574.2.2.2.1 bv := congrFun sh574.2.2.2.2.1 bv
                refine gz_call rfl (by decide) rfl (by decide) (by decide) (gcal_of rfl rfl rfl (Nat.le_of_ble_eq_true rfl) (gJ.recv (G := gGG) sh574.1 lp573c4 rfl rfl)) (cl_Writer_putEnd _ sh574.1 c8 lp573c4 sk lp573k8 lp573c3 bv lp573r0 lp573r1 cv lp573k9 ⟨by omega, by omega⟩ (by omega) lp573u) (fun q577 _ wq577 => ?_)
                obtain ⟨pq577, oq577, hq577⟩ := q577
                obtain ⟨tyq577, xq577, cq577_0, ttq577, fq577_0, ecq577_0, tcq577_0, gq577, efq577_0, afq577_0, bfq577_0, uq577_0, uq577_1, uq577_2, uq577_3, uq577_4⟩ := wq577
                dsimp only at uq577_1 uq577_2 uq577_3 uq577_4
                refine ⟨_, gq577, ?_⟩
                show gz gPP gGG gcn _ _ 189 [some (.ref x), some (.int (zi qu)), some (.int (zi i))] [] hq577 _
                have G578 : gSg [71, 72, 73, 74, 75, 76, 77, 78, 79, 80, 81, 85, 91, 92, 93, 94, 95, 96, 97, 98, 99, 114, 200] [] [50006, 55008, 56000, 56001, 56002, 56003, 64999, 71005, 71006, 71007, 71008, 71009, 71010, 71011, 71012, 71013, 71014, 72999, 73999, 74999, 76999, 77999, 78999, 79999, 80999, 81999, 85999, 91004, 91008, 92004, 92008, 93999, 94999, 95999, 96999, 97999, 98999, 99999, 114999] ty h tyq577 hq577 := gSg.tr (gSg.ss lp573G sh574 (by decide)) xq577 (by decide) (by decide) (fun x hx => by cases hx)
                have t579 : tyq577 x = 50 := gSg.typ xq577 sh574.1 lp573c0 rfl
                have t580 : tyq577 pic = 54 := gSg.typ xq577 sh574.1 lp573c1 rfl
                have t581 : tyq577 dr = 55 := gSg.typ xq577 sh574.1 lp573c2 rfl
                have t582 : tyq577 sk = 56 := gSg.typ xq577 sh574.1 lp573c3 rfl
                have t583 : tyq577 c8 = 71 := gSg.typ xq577 sh574.1 lp573c4 rfl
                have t584 : tyq577 c356 = 53 := gSg.typ xq577 sh574.1 lp573c5 rfl
                have t585 : tyq577 bv = 114 := gSg.typ xq577 sh574.1 lp573r1 rfl
                have hl586 : hq577.2.2.2.1 bv = h574.2.2.2.1 bv := gSg.len xq577 sh574.1 lp573r1 rfl
                have s587 := gSg.at xq577 sh574.1 lp573c0 rfl (by decide) lp573k0
                have s588 := gSg.at xq577 sh574.1 lp573c0 rfl (by decide) lp573k1
                have s589 := gSg.at xq577 sh574.1 lp573c0 rfl (by decide) lp573k2
                have s590 := gSg.at xq577 sh574.1 lp573c2 rfl (by decide) lp573k3
                have s591 := gSg.at xq577 sh574.1 lp573c2 rfl (by decide) lp573k4
                have s592 := gSg.at xq577 sh574.1 lp573c2 rfl (by decide) lp573k5
                have s593 := gSg.at xq577 sh574.1 lp573c0 rfl (by decide) lp573k6
                have s594 := gSg.at xq577 sh574.1 lp573c0 rfl (by decide) lp573k7
                have s595 := gSg.at xq577 sh574.1 lp573c4 rfl (by decide) lp573k8
                have s596 := gSg.at xq577 sh574.1 lp573c3 rfl (by decide) lp573k10
                have pr597 := gRow.gr xq577 sh574.1 rfl (by decide) (by decide) lp573k11
                have pr598 := gPC.gr xq577 sh574.1 (by decide) lp573k12
                have pr599 := gRr.gr xq577 sh574.1 (by decide) (by decide) lp573k13
                have pr600 := gRow.gr xq577 sh574.1 rfl (by decide) (by decide) lp573k14
                have pr601 := gRow.gr xq577 sh574.1 rfl (by decide) (by decide) lp573k15
                have uq602 := gSg.uq xq577 lp573u (by decide)
                have hyst603 := gSta.gr xq577 (by decide) (fun x hx => by cases hx) (gSta.fr sh574.2 (by decide) lp573t)
                have sS604 : gSs rT 1027 tyq577 [50006, 55008, 56000, 56001, 56002, 56003, 64999, 71005, 71006, 71007, 71008, 71009, 71010, 71011, 71012, 71013, 71014, 72999, 73999, 74999, 76999, 77999, 78999, 79999, 80999, 81999, 85999, 91004, 91008, 92004, 92008, 93999, 94999, 95999, 96999, 97999, 98999, 99999, 114999] hq577 hq577 := gSs.rf xq577.1
                refine gz_s 1 (pc' := 190) (L' := [some (.ref x), some (.int (zi qu)), some (.int (zi i))]) (S' := [.ref x]) rfl ?_
                refine gs_gtk rfl (by decide) rfl sS604.1 t579 rfl rfl s588 ?_
                refine gz_call rfl (by decide) rfl (by decide) (by decide) (gcal_of rfl rfl rfl (Nat.le_of_ble_eq_true rfl) (gJ.recv (G := gGG) sS604.1 t581 rfl rfl)) (cl_Draft_forgetScans _ sS604.1 dr t581 uq602) (fun q605 _ wq605 => ?_)
                obtain ⟨pq605, oq605, hq605⟩ := q605
                obtain ⟨xq605, fq605_0, gq605, efq605_0, afq605_0, bfq605_0, uq605_0, yq605_0, yq605_1⟩ := wq605
                refine ⟨_, gq605, ?_⟩
                show gz gPP gGG gcn _ _ 196 [some (.ref x), some (.int (zi qu)), some (.int (zi i))] [] hq605 _
                have sq605 : gSs rT 1027 tyq577 [50006, 55008, 56000, 56001, 56002, 56003, 64999, 71005, 71006, 71007, 71008, 71009, 71010, 71011, 71012, 71013, 71014, 72999, 73999, 74999, 76999, 77999, 78999, 79999, 80999, 81999, 85999, 91004, 91008, 92004, 92008, 93999, 94999, 95999, 96999, 97999, 98999, 99999, 114999] hq577 hq605 := gSs.tr sS604 xq605 (by decide)
                have s606 := (xq605.2.2.2.2.2 x 2 (by rw [t579]; decide)).trans s587
                have s607 := (xq605.2.2.2.2.2 x 3 (by rw [t579]; decide)).trans s588
                have s608 := (xq605.2.2.2.2.2 x 4 (by rw [t579]; decide)).trans s589
                have s609 := (xq605.2.2.2.2.2 dr 3 (by rw [t581]; decide)).trans s591
                have s610 := (xq605.2.2.2.2.2 dr 1 (by rw [t581]; decide)).trans s592
                have s611 := (xq605.2.2.2.2.2 x 6 (by rw [t579]; decide)).trans s593
                have s612 := (xq605.2.2.2.2.2 x 1 (by rw [t579]; decide)).trans s594
                have s613 := (xq605.2.2.2.2.2 c8 0 (by rw [t583]; decide)).trans s595
                have s614 := (xq605.2.2.2.2.2 sk 3 (by rw [t582]; decide)).trans s596
                have s615 := (xq605.2.2.2.2.2 sk 0 (by rw [t582]; decide)).trans ecq577_0
                have s616 := (xq605.2.2.2.2.2 sk 1 (by rw [t582]; decide)).trans efq577_0
                have pr617 := gPC.fr xq605.2 (by decide) pr598
                have pr618 := gRr.fr xq605.2 (by decide) pr599
                have pr619 := gRow.fr xq605.2 (by decide) pr600
                have pr620 := gRow.fr xq605.2 (by decide) pr601
                refine gz_s 1 (pc' := 197) (L' := [some (.ref x), some (.int (zi qu)), some (.int (zi i))]) (S' := [.ref x]) rfl ?_
                refine gs_gtk rfl (by decide) rfl sq605.1 t579 rfl rfl s608 ?_
                refine gs_gtk rfl (by decide) rfl sq605.1 t582 rfl rfl s616 ?_
                have k621 := sq605.2.1
                have k621b := sq605.2.2.1
                have hl622 : hq605.2.2.2.1 bv = hq577.2.2.2.1 bv := congrFun sq605.2.2.2.2.1 bv
                have hl623 : hq605.2.2.2.1 cq577_0 = hq577.2.2.2.1 cq577_0 := congrFun sq605.2.2.2.2.1 cq577_0
                have hl624 : 1024 ≤ hq605.2.2.2.1 bv ∧ hq605.2.2.2.1 bv ≤ 1000000 := gJ.rowl (G := gGG) sq605.1 t585 rfl
                have hl625 : 1024 ≤ hq605.2.2.2.1 cq577_0 ∧ hq605.2.2.2.1 cq577_0 ≤ 1000000 := gJ.rowl (G := gGG) sq605.1 tcq577_0 rfl
                have k626 := sq605.2.1
                have k626b := sq605.2.2.1
                have hl627 : hq605.2.2.2.1 bv = hq577.2.2.2.1 bv := congrFun sq605.2.2.2.2.1 bv
                have hl628 : hq605.2.2.2.1 cq577_0 = hq577.2.2.2.1 cq577_0 := congrFun sq605.2.2.2.2.1 cq577_0
                have hix629 : gIx tyq577 x ld (hq605.2.2.2.1 cq577_0 : Int) (64 * dw + fq605_0) hq605 := ⟨pic, b0, b1, b2, dr, sk, cq577_0, fq605_0, fq577_0, i0, dw, ⟨t579, t581, t582, tcq577_0⟩, ⟨s606, s607, s608, s615⟩, pr617, (by rw [(by omega : fq605_0 = 0)]; exact yq605_0), ⟨efq605_0, by omega, by omega⟩, ⟨s609, by omega, by omega⟩, ⟨s616, by omega, by omega⟩, ⟨by omega, by omega⟩, pr618, ⟨t579, Or.inr ⟨c8, s611, t583⟩⟩, ⟨s610, by omega, by omega⟩, rfl⟩
                have hey630 : gEy tyq577 64 f qu (iv / 64) hq605 := gEy.oy yq605_1 ⟨by omega, by omega, by omega⟩
                have G631 : gSg [71, 72, 73, 74, 75, 76, 77, 78, 79, 80, 81, 85, 91, 92, 93, 94, 95, 96, 97, 98, 99, 114, 200] [] [50006, 55008, 56000, 56001, 56002, 56003, 64999, 71005, 71006, 71007, 71008, 71009, 71010, 71011, 71012, 71013, 71014, 72999, 73999, 74999, 76999, 77999, 78999, 79999, 80999, 81999, 85999, 91004, 91008, 92004, 92008, 93999, 94999, 95999, 96999, 97999, 98999, 99999, 114999] ty h tyq577 hq605 := gSg.ss G578 sq605 (by decide)
                exact gz_end (I := .ireturn) (len := 1) rfl (Or.inl rfl) ⟨tyq577, G631, ld, (hq605.2.2.2.1 cq577_0 : Int), (64 * dw + fq605_0), (by omega), (by omega), (by omega), (by omega), (by omega), (by omega), hix629, hey630, uq602, Or.inl ⟨fq577_0, rfl, (by omega), (by omega), (by omega), (by omega), (by omega), (by omega), (by dsimp only; omega), (by dsimp only; omega), (by omega), (by omega)⟩⟩
            have hl632 : 1024 ≤ hq541.2.2.2.1 bt ∧ hq541.2.2.2.1 bt ≤ 1000000 := gJ.rowl (G := gGG) sS572.1 t550 rfl
            have hl633 : 1024 ≤ hq541.2.2.2.1 cq393_0 ∧ hq541.2.2.2.1 cq393_0 ≤ 1000000 := gJ.rowl (G := gGG) sS572.1 t554 rfl
            have hl634 : 1024 ≤ hq541.2.2.2.1 cq541_0 ∧ hq541.2.2.2.1 cq541_0 ≤ 1000000 := gJ.rowl (G := gGG) sS572.1 tcq541_0 rfl
            have G635 : gSg [71, 72, 73, 74, 75, 76, 77, 78, 79, 80, 81, 85, 91, 92, 93, 94, 95, 96, 97, 98, 99, 114, 200] [] [50006, 55008, 56000, 56001, 56002, 56003, 64999, 71005, 71006, 71007, 71008, 71009, 71010, 71011, 71012, 71013, 71014, 72999, 73999, 74999, 76999, 77999, 78999, 79999, 80999, 81999, 85999, 91004, 91008, 92004, 92008, 93999, 94999, 95999, 96999, 97999, 98999, 99999, 114999] ty h tyq541 hq541 := gSg.ss G542 sS572 (by decide)
            exact gz_wk (lp573 _ tyq541 hq541 cq541_0 0 fq541_0 fq541_1 (Nat.lt_succ_self _) G635 uq570 (gSta.fr sS572.2 (by decide) hyst571) t543 t544 t548 t549 t552 t553 ecq541_0 tcq541_0 ⟨by omega, by omega⟩ ⟨by omega, by omega⟩ ⟨by omega, by omega⟩ (by omega) (by omega) (by omega) (by omega) (by omega) (by omega) s556 s557 s558 s559 s560 s561 s562 s563 s564 efq541_0 efq541_1 pr565 pr566 pr568 rf rt) (gLw.s (gLw.s (gLw.s gLw.z)))
      · refine gy_icF rfl (by decide) (by decide) (by omega) (by omega) hc7 ?_
        have hl636 : 1024 ≤ h.2.2.2.1 bt ∧ h.2.2.2.1 bt ≤ 1000000 := gJ.rowl (G := gGG) hS.1 tbt rfl
        have hix637 : gIx ty x ld (h.2.2.2.1 bt : Int) (64 * dw + n0) h := ⟨pic, b0, b1, b2, dr, sk, bt, n0, c0, i0, dw, ⟨tx, tdr, tsk, tbt⟩, ⟨ex2, ex3, ex4, ex0⟩, hpc, htc, ⟨en0, by omega, by omega⟩, ⟨eiv, by omega, by omega⟩, ⟨ec0, by omega, by omega⟩, ⟨by omega, by omega⟩, hrr, hrw, ⟨edw, by omega, by omega⟩, rfl⟩
        have hey638 : gEy ty 64 f qu (iv / 64) h := gEy.no hyf64 (by omega)
        have G639 : gSg [71, 72, 73, 74, 75, 76, 77, 78, 79, 80, 81, 85, 91, 92, 93, 94, 95, 96, 97, 98, 99, 114, 200] [] [50006, 55008, 56000, 56001, 56002, 56003, 64999, 71005, 71006, 71007, 71008, 71009, 71010, 71011, 71012, 71013, 71014, 72999, 73999, 74999, 76999, 77999, 78999, 79999, 80999, 81999, 85999, 91004, 91008, 92004, 92008, 93999, 94999, 95999, 96999, 97999, 98999, 99999, 114999] ty h ty h := gSg.ss G0 hS (by decide)
        exact gz_end (I := .new 157) (len := 3) rfl (Or.inr (by decide)) ⟨ty, G639, ld, (h.2.2.2.1 bt : Int), (64 * dw + n0), (by omega), (by omega), (by omega), (by omega), (by omega), (by omega), hix637, hey638, uq, Or.inr ⟨rfl, Or.inr (⟨rfl, (by omega)⟩), (by omega), (by dsimp only; omega), (by dsimp only; omega), (by omega), (by omega)⟩⟩
    · refine gy_icF rfl (by decide) (by decide) (by omega) (by omega) hc6 ?_
      have hl640 : 1024 ≤ h.2.2.2.1 bt ∧ h.2.2.2.1 bt ≤ 1000000 := gJ.rowl (G := gGG) hS.1 tbt rfl
      have hix641 : gIx ty x ld (h.2.2.2.1 bt : Int) (64 * dw + n0) h := ⟨pic, b0, b1, b2, dr, sk, bt, n0, c0, i0, dw, ⟨tx, tdr, tsk, tbt⟩, ⟨ex2, ex3, ex4, ex0⟩, hpc, htc, ⟨en0, by omega, by omega⟩, ⟨eiv, by omega, by omega⟩, ⟨ec0, by omega, by omega⟩, ⟨by omega, by omega⟩, hrr, hrw, ⟨edw, by omega, by omega⟩, rfl⟩
      have hey642 : gEy ty 64 f qu (iv / 64) h := gEy.no hyf64 (by omega)
      have G643 : gSg [71, 72, 73, 74, 75, 76, 77, 78, 79, 80, 81, 85, 91, 92, 93, 94, 95, 96, 97, 98, 99, 114, 200] [] [50006, 55008, 56000, 56001, 56002, 56003, 64999, 71005, 71006, 71007, 71008, 71009, 71010, 71011, 71012, 71013, 71014, 72999, 73999, 74999, 76999, 77999, 78999, 79999, 80999, 81999, 85999, 91004, 91008, 92004, 92008, 93999, 94999, 95999, 96999, 97999, 98999, 99999, 114999] ty h ty h := gSg.ss G0 hS (by decide)
      exact gz_end (I := .new 134) (len := 3) rfl (Or.inr (by decide)) ⟨ty, G643, ld, (h.2.2.2.1 bt : Int), (64 * dw + n0), (by omega), (by omega), (by omega), (by omega), (by omega), (by omega), hix641, hey642, uq, Or.inr ⟨rfl, Or.inl ⟨rfl, (by omega)⟩, (by omega), (by dsimp only; omega), (by dsimp only; omega), (by omega), (by omega)⟩⟩
