/-! ===== methods of the landed text (by program) ===== -/
set_option maxRecDepth 20000 in
set_option maxHeartbeats 4000000 in
theorem cl_DctFilter_encode (d : Nat) {ty : Nat → Nat} {h : gH} (hJ : gJ rT 1027 ty h) (x : Nat) (tx : ty x = 50) (q : Int) (rq : (-2147483648) ≤ q ∧ q ≤ 2147483647) (hyst : gSta ty h) (ld : Int) (rld : 0 ≤ ld ∧ ld ≤ 192) (lb : Int) (rlb : 1024 ≤ lb ∧ lb ≤ 1000000) (iv : Int) (riv : 0 ≤ iv ∧ iv ≤ 100) (uq : gUq ty) (hyix : gIx ty x ld lb iv h) : gz gPP gGG gcn (d + 8) gt89 0 (gent [.ref x, .int (zi q)] 3) [] h (fun q _ => ∃ ty9 : Nat → Nat, gSg [71, 72, 73, 74, 75, 76, 77, 78, 79, 80, 81, 85, 91, 92, 93, 94, 95, 96, 97, 98, 99, 114, 200] [] [50006, 55008, 56000, 56001, 56002, 56003, 64999, 71005, 71006, 71007, 71008, 71009, 71010, 71011, 71012, 71013, 71014, 72999, 73999, 74999, 76999, 77999, 78999, 79999, 80999, 81999, 85999, 91004, 91008, 92004, 92008, 93999, 94999, 95999, 96999, 97999, 98999, 99999, 114999] ty h ty9 q.2.2 ∧ ∃ ld1 lb1 iv1 : Int, 0 ≤ ld1 ∧ ld1 ≤ 192 ∧ 1024 ≤ lb1 ∧ lb1 ≤ 1000000 ∧ 0 ≤ iv1 ∧ iv1 ≤ 100 ∧ (gIx ty9 x ld1 lb1 iv1 q.2.2) ∧ gUq ty9 ∧ ((∃ z : Int, gfin gt89 q.1 q.2.1 = some (some (.int (zi z))) ∧ (-2147483648) ≤ z ∧ z ≤ 2147483647 ∧ (iv1 = iv) ∧ (1024 * (((q.2.2.1 : Int) - h.1) - 31 - 2 * (ld1 - ld)) ≤ lb1 - lb) ∧ (((q.2.2.2.1 : Int) - h.2.1) ≤ 4303 + 12480 * (ld1 - ld) + 2 * (lb1 - lb)) ∧ (ld ≤ ld1) ∧ (lb ≤ lb1)) ∨ (q.2.1 = [] ∧ ((q.1 = 11) ∨ (q.1 = 32)) ∧ (iv1 = iv) ∧ (1024 * (((q.2.2.1 : Int) - h.1) - 31 - 2 * (ld1 - ld)) ≤ lb1 - lb) ∧ (((q.2.2.2.1 : Int) - h.2.1) ≤ 4303 + 12480 * (ld1 - ld) + 2 * (lb1 - lb)) ∧ (ld ≤ ld1) ∧ (lb ≤ lb1)))) := by
  have hS : gSs rT 1027 ty [50006, 55008, 56000, 56001, 56002, 56003, 64999, 71005, 71006, 71007, 71008, 71009, 71010, 71011, 71012, 71013, 71014, 72999, 73999, 74999, 76999, 77999, 78999, 79999, 80999, 81999, 85999, 91004, 91008, 92004, 92008, 93999, 94999, 95999, 96999, 97999, 98999, 99999, 114999] h h := gSs.rf hJ
  have G0 : gSg [71, 72, 73, 74, 75, 76, 77, 78, 79, 80, 81, 85, 91, 92, 93, 94, 95, 96, 97, 98, 99, 114, 200] [] [50006, 55008, 56000, 56001, 56002, 56003, 64999, 71005, 71006, 71007, 71008, 71009, 71010, 71011, 71012, 71013, 71014, 72999, 73999, 74999, 76999, 77999, 78999, 79999, 80999, 81999, 85999, 91004, 91008, 92004, 92008, 93999, 94999, 95999, 96999, 97999, 98999, 99999, 114999] ty h ty h := gSg.rf hJ (fun x hx => by cases hx)
  obtain ⟨pic, b0, b1, b2, dr, sk, bt, n0, c0, ⟨_, tdr, tsk, tbt⟩, ⟨ex2, ex3, ex4, ex0⟩, hpc, htc, ⟨en0, rn0⟩, ⟨eiv, riv⟩, ⟨ec0, rc0⟩, ⟨lc0, llb⟩, hrr, hrw⟩ := hyix
  have tpic := hpc.1.1
  have tb0 := hpc.1.2.1
  have tb1 := hpc.1.2.2.1
  have tb2 := hpc.1.2.2.2
  refine gz_s 2 (pc' := 2) (L' := [some (.ref x), some (.int (zi q)), none]) (S' := [.int (zi 1), .int (zi q)]) rfl ?_
  by_cases hc1 : (q : Int) < 1
  · refine gy_icT (pc' := 11) rfl (by decide) (by decide) (by omega) (by omega) hc1 ?_
    have hl2 : 1024 ≤ h.2.2.2.1 bt ∧ h.2.2.2.1 bt ≤ 1000000 := gJ.rowl (G := gGG) hS.1 tbt rfl
    have hix3 : gIx ty x ld (h.2.2.2.1 bt : Int) iv h := ⟨pic, b0, b1, b2, dr, sk, bt, n0, c0, ⟨tx, tdr, tsk, tbt⟩, ⟨ex2, ex3, ex4, ex0⟩, hpc, htc, ⟨en0, by omega, by omega⟩, ⟨eiv, by omega, by omega⟩, ⟨ec0, by omega, by omega⟩, ⟨by omega, by omega⟩, hrr, hrw⟩
    have G4 : gSg [71, 72, 73, 74, 75, 76, 77, 78, 79, 80, 81, 85, 91, 92, 93, 94, 95, 96, 97, 98, 99, 114, 200] [] [50006, 55008, 56000, 56001, 56002, 56003, 64999, 71005, 71006, 71007, 71008, 71009, 71010, 71011, 71012, 71013, 71014, 72999, 73999, 74999, 76999, 77999, 78999, 79999, 80999, 81999, 85999, 91004, 91008, 92004, 92008, 93999, 94999, 95999, 96999, 97999, 98999, 99999, 114999] ty h ty h := gSg.ss G0 hS (by decide)
    exact gz_end (I := .new 134) (len := 3) rfl (Or.inr (by decide)) ⟨ty, G4, ld, (h.2.2.2.1 bt : Int), iv, (by omega), (by omega), (by omega), (by omega), (by omega), (by omega), hix3, uq, Or.inr ⟨rfl, Or.inl rfl, (by omega), (by dsimp only; omega), (by dsimp only; omega), (by omega), (by omega)⟩⟩
  · refine gy_icF rfl (by decide) (by decide) (by omega) (by omega) hc1 ?_
    refine gz_s 2 (pc' := 8) (L' := [some (.ref x), some (.int (zi q)), none]) (S' := [.int (zi 100), .int (zi q)]) rfl ?_
    by_cases hc5 : (q : Int) ≤ 100
    · refine gy_icT (pc' := 21) rfl (by decide) (by decide) (by omega) (by omega) hc5 ?_
      refine gz_s 1 (pc' := 22) (L' := [some (.ref x), some (.int (zi q)), none]) (S' := [.ref x]) rfl ?_
      refine gs_gtk rfl (by decide) rfl hS.1 tx rfl rfl ex3 ?_
      refine gs_get rfl (by decide) rfl hS.1 tdr rfl rfl rfl (fun z6 ez6 az6 bz6 => ?_)
      refine gz_s 1 (pc' := 29) (L' := [some (.ref x), some (.int (zi q)), none]) (S' := [.int (zi 1), .int (zi z6)]) rfl ?_
      by_cases hc7 : (1 : Int) ≤ z6
      · refine gy_icT (pc' := 42) rfl (by decide) (by decide) (by omega) (by omega) hc7 ?_
        refine gz_s 1 (pc' := 43) (L' := [some (.ref x), some (.int (zi q)), none]) (S' := [.ref x]) rfl ?_
        refine gs_nul rfl (by decide) rfl hS.1 tx rfl rfl rfl (fun ec8 => ?_) (fun c8 ec8 tc8 => ?_)
        · skip
          have no9 := gRw.no hrw ec8
          refine gz_s 2 (pc' := 50) (L' := [some (.ref x), some (.int (zi q)), none]) (S' := [.ref x]) rfl ?_
          refine gs_newo rfl (by decide) rfl hS.1 (Nat.le_of_lt (Nat.lt_of_le_of_lt (gJ.cell hS.1 tx rfl).1 (gJ.cell hS.1 tx rfl).2.1)) (fun ty9 h10 c11 g12 tc11 kc11 zc11 nc11 mc11 ec11 dc11 => ?_)
          have mfc11 : h10.2.1 = h.2.1 + 15 := mc11
          have gac11 : h.1 ≤ c11 := by have h8 := G0.2.1; have h9 := hS.2.1; omega
          have nnc11 : 1027 ≤ c11 := by have h8 := (Nat.le_of_lt (Nat.lt_of_le_of_lt (gJ.cell hS.1 tx rfl).1 (gJ.cell hS.1 tx rfl).2.1)); omega
          have llc11 := Nat.lt_of_lt_of_eq (Nat.lt_succ_of_le (Nat.le_of_eq ec11)) nc11.symm
          have G13 : gSg [71, 72, 73, 74, 75, 76, 77, 78, 79, 80, 81, 85, 91, 92, 93, 94, 95, 96, 97, 98, 99, 114, 200] [] [50006, 55008, 56000, 56001, 56002, 56003, 64999, 71005, 71006, 71007, 71008, 71009, 71010, 71011, 71012, 71013, 71014, 72999, 73999, 74999, 76999, 77999, 78999, 79999, 80999, 81999, 85999, 91004, 91008, 92004, 92008, 93999, 94999, 95999, 96999, 97999, 98999, 99999, 114999] ty h ty9 h10 := gSg.tr (gSg.ss G0 hS (by decide)) g12 (by decide) (by decide) (fun x hx => by cases hx)
          have t14 : ty9 x = 50 := gSg.typ g12 hS.1 tx rfl
          have t15 : ty9 pic = 54 := gSg.typ g12 hS.1 tpic rfl
          have t16 : ty9 b0 = 82 := gSg.typ g12 hS.1 tb0 rfl
          have t17 : ty9 b1 = 83 := gSg.typ g12 hS.1 tb1 rfl
          have t18 : ty9 b2 = 84 := gSg.typ g12 hS.1 tb2 rfl
          have t19 : ty9 dr = 55 := gSg.typ g12 hS.1 tdr rfl
          have t20 : ty9 sk = 56 := gSg.typ g12 hS.1 tsk rfl
          have t21 : ty9 bt = 114 := gSg.typ g12 hS.1 tbt rfl
          have hl22 : h10.2.2.2.1 bt = h.2.2.2.1 bt := gSg.len g12 hS.1 tbt rfl
          have s23 := gSg.at g12 hS.1 tx rfl (by decide) ex2
          have s24 := gSg.at g12 hS.1 tx rfl (by decide) ex3
          have s25 := gSg.at g12 hS.1 tx rfl (by decide) ex4
          have s26 := gSg.at g12 hS.1 tsk rfl (by decide) ex0
          have s27 := gSg.at g12 hS.1 tdr rfl (by decide) en0
          have s28 := gSg.at g12 hS.1 tdr rfl (by decide) eiv
          have s29 := gSg.at g12 hS.1 tsk rfl (by decide) ec0
          have s30 := gSg.at g12 hS.1 tdr rfl (by decide) ez6
          have s31 := gSg.at g12 hS.1 tx rfl (by decide) ec8
          have pr32 := gPC.gr g12 hS.1 (by decide) hpc
          have pr33 := gTc.gr g12 hS.1 (by decide) (by decide) htc
          have pr34 := gRr.gr g12 hS.1 (by decide) (by decide) hrr
          have pr35 := gRw.gr g12 hS.1 (by decide) (by decide) hrw
          have pr36 : gNo [71, 72, 73, 74, 75, 76, 77, 78, 79, 80, 81, 85, 91, 92, 93, 94, 95, 96, 97, 98, 99] ty9 := gNo.gr g12 (by decide) (gNo.sub (by decide) no9)
          have uq37 := gSg.uq g12 uq (by decide)
          have hyst38 := gSta.gr g12 (by decide) (fun x hx => by cases hx) (gSta.fr hS.2 (by decide) hyst)
          have sS39 : gSs rT 1027 ty9 [50006, 55008, 56000, 56001, 56002, 56003, 64999, 71005, 71006, 71007, 71008, 71009, 71010, 71011, 71012, 71013, 71014, 72999, 73999, 74999, 76999, 77999, 78999, 79999, 80999, 81999, 85999, 91004, 91008, 92004, 92008, 93999, 94999, 95999, 96999, 97999, 98999, 99999, 114999] h10 h10 := gSs.rf g12.1
          refine gz_s 2 (pc' := 55) (L' := [some (.ref x), some (.int (zi q)), none]) (S' := [.ref x, .ref c11, .ref c11, .ref x]) rfl ?_
          refine gs_gtk rfl (by decide) rfl sS39.1 t14 rfl rfl s25 ?_
          refine gz_call rfl (by decide) rfl (by decide) (by decide) (gcal_of rfl rfl rfl (Nat.le_of_ble_eq_true rfl) rfl) (ct_Writer _ sS39.1 c11 tc11 nnc11 llc11 kc11 zc11 dc11 sk t20 pr36 uq37) (fun q40 _ wq40 => ?_)
          obtain ⟨pq40, oq40, hq40⟩ := q40
          obtain ⟨tyq40, xq40, trq40_0, gq40, uq40_0, uq40_1, uqq40⟩ := wq40
          dsimp only at uq40_0 uq40_1
          refine ⟨_, gq40, ?_⟩
          show gz gPP gGG gcn _ _ 61 [some (.ref x), some (.int (zi q)), none] [.ref c11, .ref x] hq40 _
          have G41 : gSg [71, 72, 73, 74, 75, 76, 77, 78, 79, 80, 81, 85, 91, 92, 93, 94, 95, 96, 97, 98, 99, 114, 200] [] [50006, 55008, 56000, 56001, 56002, 56003, 64999, 71005, 71006, 71007, 71008, 71009, 71010, 71011, 71012, 71013, 71014, 72999, 73999, 74999, 76999, 77999, 78999, 79999, 80999, 81999, 85999, 91004, 91008, 92004, 92008, 93999, 94999, 95999, 96999, 97999, 98999, 99999, 114999] ty h tyq40 hq40 := gSg.tr (gSg.ss G13 sS39 (by decide)) xq40 (by decide) (by decide) (fun x hx => Or.inl (by rw [List.mem_singleton.mp hx]; exact gac11))
          have t42 : tyq40 x = 50 := gSg.typ xq40 sS39.1 t14 rfl
          have t43 : tyq40 pic = 54 := gSg.typ xq40 sS39.1 t15 rfl
          have t44 : tyq40 b0 = 82 := gSg.typ xq40 sS39.1 t16 rfl
          have t45 : tyq40 b1 = 83 := gSg.typ xq40 sS39.1 t17 rfl
          have t46 : tyq40 b2 = 84 := gSg.typ xq40 sS39.1 t18 rfl
          have t47 : tyq40 dr = 55 := gSg.typ xq40 sS39.1 t19 rfl
          have t48 : tyq40 sk = 56 := gSg.typ xq40 sS39.1 t20 rfl
          have t49 : tyq40 bt = 114 := gSg.typ xq40 sS39.1 t21 rfl
          have hl50 : hq40.2.2.2.1 bt = h10.2.2.2.1 bt := gSg.len xq40 sS39.1 t21 rfl
          have s51 := gSg.at xq40 sS39.1 t14 rfl (by decide) s23
          have s52 := gSg.at xq40 sS39.1 t14 rfl (by decide) s24
          have s53 := gSg.at xq40 sS39.1 t14 rfl (by decide) s25
          have s54 := gSg.at xq40 sS39.1 t20 rfl (by decide) s26
          have s55 := gSg.at xq40 sS39.1 t19 rfl (by decide) s27
          have s56 := gSg.at xq40 sS39.1 t19 rfl (by decide) s28
          have s57 := gSg.at xq40 sS39.1 t20 rfl (by decide) s29
          have s58 := gSg.at xq40 sS39.1 t19 rfl (by decide) s30
          have s59 := gSg.at xq40 sS39.1 t14 rfl (by decide) s31
          have pr60 := gPC.gr xq40 sS39.1 (by decide) pr32
          have pr61 := gTc.gr xq40 sS39.1 (by decide) (by decide) pr33
          have pr62 := gRr.gr xq40 sS39.1 (by decide) (by decide) pr34
          have hyst63 := gSta.gr xq40 (by decide) (fun x hx => by rw [List.mem_singleton.mp hx]; have h9 := nnc11; omega) (gSta.fr sS39.2 (by decide) hyst38)
          have sS64 : gSs rT 1027 tyq40 [50006, 55008, 56000, 56001, 56002, 56003, 64999, 71005, 71006, 71007, 71008, 71009, 71010, 71011, 71012, 71013, 71014, 72999, 73999, 74999, 76999, 77999, 78999, 79999, 80999, 81999, 85999, 91004, 91008, 92004, 92008, 93999, 94999, 95999, 96999, 97999, 98999, 99999, 114999] hq40 hq40 := gSs.rf xq40.1
          refine gs_ptr (s9 := 0) rfl (by decide) rfl sS64 t42 rfl rfl (Or.inr rfl) rfl (Or.inl rfl) (by decide) trq40_0 (fun h65 sh65 eh65 fh65 => ?_)
          have pr66 := gPC.pk fh65 (sh65.2.2.2.2.1.trans sS64.2.2.2.2.1.symm) t42 (by decide) pr60
          have pr67 := gTc.pt fh65 t42 (by decide) pr61
          have pr68 := gRr.pk fh65 (sh65.2.2.2.2.1.trans sS64.2.2.2.2.1.symm) t42 (by decide) pr62
          have s69 := (fh65 x 2 (fun q => absurd q.2 (by decide))).trans s51
          have s70 := (fh65 x 3 (fun q => absurd q.2 (by decide))).trans s52
          have s71 := (fh65 x 4 (fun q => absurd q.2 (by decide))).trans s53
          have s72 := (fh65 sk 0 (fun q => absurd q.2 (by decide))).trans s54
          have s73 := (fh65 dr 8 (fun q => absurd q.2 (by decide))).trans s55
          have s74 := (fh65 dr 3 (fun q => absurd q.2 (by decide))).trans s56
          have s75 := (fh65 sk 1 (fun q => absurd q.2 (by decide))).trans s57
          have s76 := (fh65 dr 1 (fun q => absurd q.2 (by decide))).trans s58
          refine gz_s 1 (pc' := 65) (L' := [some (.ref x), some (.int (zi q)), none]) (S' := [.ref x]) rfl ?_
          refine gs_gtk rfl (by decide) rfl sh65.1 t42 rfl rfl eh65 ?_
          refine gz_s 1 (pc' := 69) (L' := [some (.ref x), some (.int (zi q)), none]) (S' := [.ref x, .ref c11]) rfl ?_
          refine gs_gtr rfl (by decide) rfl sh65.1 t42 rfl rfl rfl (fun c77 ec77 tc77 => ?_)
          refine gz_s 1 (pc' := 73) (L' := [some (.ref x), some (.int (zi q)), none]) (S' := [.int (zi q), .ref c77, .ref c11]) rfl ?_
          refine gz_call rfl (by decide) rfl (by decide) (by decide) (gcal_of rfl rfl rfl (Nat.le_of_ble_eq_true rfl) (gJ.recv (G := gGG) sh65.1 trq40_0 rfl rfl)) (cl_Writer_makeTable _ sh65.1 c11 trq40_0 c77 tc77 q ⟨by omega, by omega⟩ uqq40) (fun q78 _ wq78 => ?_)
          obtain ⟨pq78, oq78, hq78⟩ := q78
          obtain ⟨xq78, gq78⟩ := wq78
          refine ⟨_, gq78, ?_⟩
          show gz gPP gGG gcn _ _ 76 [some (.ref x), some (.int (zi q)), none] [] hq78 _
          have sq78 : gSs rT 1027 tyq40 [50006, 55008, 56000, 56001, 56002, 56003, 64999, 71005, 71006, 71007, 71008, 71009, 71010, 71011, 71012, 71013, 71014, 72999, 73999, 74999, 76999, 77999, 78999, 79999, 80999, 81999, 85999, 91004, 91008, 92004, 92008, 93999, 94999, 95999, 96999, 97999, 98999, 99999, 114999] hq40 hq78 := gSs.tr sh65 xq78 (by decide)
          have s79 := (xq78.2.2.2.2.2 x 2 (by rw [t42]; decide)).trans s69
          have s80 := (xq78.2.2.2.2.2 x 3 (by rw [t42]; decide)).trans s70
          have s81 := (xq78.2.2.2.2.2 x 4 (by rw [t42]; decide)).trans s71
          have s82 := (xq78.2.2.2.2.2 sk 0 (by rw [t48]; decide)).trans s72
          have s83 := (xq78.2.2.2.2.2 dr 8 (by rw [t47]; decide)).trans s73
          have s84 := (xq78.2.2.2.2.2 dr 3 (by rw [t47]; decide)).trans s74
          have s85 := (xq78.2.2.2.2.2 sk 1 (by rw [t48]; decide)).trans s75
          have s86 := (xq78.2.2.2.2.2 dr 1 (by rw [t47]; decide)).trans s76
          have s87 := (xq78.2.2.2.2.2 x 6 (by rw [t42]; decide)).trans eh65
          have s88 := (xq78.2.2.2.2.2 x 1 (by rw [t42]; decide)).trans ec77
          have pr89 := gPC.fr xq78.2 (by decide) pr66
          have pr90 := gTc.fr xq78.2 (by decide) pr67
          have pr91 := gRr.fr xq78.2 (by decide) pr68
          refine gz_s 1 (pc' := 77) (L' := [some (.ref x), some (.int (zi q)), none]) (S' := [.ref x]) rfl ?_
          refine gs_gtk rfl (by decide) rfl sq78.1 t42 rfl rfl s87 ?_
          refine gz_s 1 (pc' := 81) (L' := [some (.ref x), some (.int (zi q)), none]) (S' := [.ref x, .ref c11]) rfl ?_
          refine gs_gtk rfl (by decide) rfl sq78.1 t42 rfl rfl s80 ?_
          refine gz_call rfl (by decide) rfl (by decide) (by decide) (gcal_of rfl rfl rfl (Nat.le_of_ble_eq_true rfl) (gJ.recv (G := gGG) sq78.1 trq40_0 rfl rfl)) (cl_Writer_transformCanvas _ sq78.1 c11 trq40_0 dr t47 (gSta.fr sq78.2 (by decide) hyst63) uqq40) (fun q92 _ wq92 => ?_)
          obtain ⟨pq92, oq92, hq92⟩ := q92
          obtain ⟨xq92, gq92⟩ := wq92
          refine ⟨_, gq92, ?_⟩
          show gz gPP gGG gcn _ _ 87 [some (.ref x), some (.int (zi q)), none] [] hq92 _
          have sq92 : gSs rT 1027 tyq40 [50006, 55008, 56000, 56001, 56002, 56003, 64999, 71005, 71006, 71007, 71008, 71009, 71010, 71011, 71012, 71013, 71014, 72999, 73999, 74999, 76999, 77999, 78999, 79999, 80999, 81999, 85999, 91004, 91008, 92004, 92008, 93999, 94999, 95999, 96999, 97999, 98999, 99999, 114999] hq40 hq92 := gSs.tr sq78 xq92 (by decide)
          have s93 := (xq92.2.2.2.2.2 x 2 (by rw [t42]; decide)).trans s79
          have s94 := (xq92.2.2.2.2.2 x 3 (by rw [t42]; decide)).trans s80
          have s95 := (xq92.2.2.2.2.2 x 4 (by rw [t42]; decide)).trans s81
          have s96 := (xq92.2.2.2.2.2 sk 0 (by rw [t48]; decide)).trans s82
          have s97 := (xq92.2.2.2.2.2 dr 8 (by rw [t47]; decide)).trans s83
          have s98 := (xq92.2.2.2.2.2 dr 3 (by rw [t47]; decide)).trans s84
          have s99 := (xq92.2.2.2.2.2 sk 1 (by rw [t48]; decide)).trans s85
          have s100 := (xq92.2.2.2.2.2 dr 1 (by rw [t47]; decide)).trans s86
          have s101 := (xq92.2.2.2.2.2 x 6 (by rw [t42]; decide)).trans s87
          have s102 := (xq92.2.2.2.2.2 x 1 (by rw [t42]; decide)).trans s88
          have pr103 := gPC.fr xq92.2 (by decide) pr89
          have pr104 := gTc.fr xq92.2 (by decide) pr90
          have pr105 := gRr.fr xq92.2 (by decide) pr91
          refine gz_s 1 (pc' := 88) (L' := [some (.ref x), some (.int (zi q)), none]) (S' := [.ref x]) rfl ?_
          refine gs_gtk rfl (by decide) rfl sq92.1 t42 rfl rfl s101 ?_
          refine gz_s 1 (pc' := 92) (L' := [some (.ref x), some (.int (zi q)), none]) (S' := [.ref x, .ref c11]) rfl ?_
          refine gs_gtk rfl (by decide) rfl sq92.1 t42 rfl rfl s94 ?_
          have k106 := sq92.2.1
          have k106b := sq92.2.2.1
          have hl107 : hq92.2.2.2.1 bt = hq40.2.2.2.1 bt := congrFun sq92.2.2.2.2.1 bt
          obtain ⟨c108, ec108, tc108⟩ := gJ.ref (k := 0) (G := gGG) sq92.1 trq40_0 rfl rfl rfl
          have ee109 : sk = c108 := uqq40 sk c108 (t48.trans tc108.symm) (by rw [t48]; decide) (by rw [t48]; decide)
          subst ee109
          refine gz_call rfl (by decide) rfl (by decide) (by decide) (gcal_of rfl rfl rfl (Nat.le_of_ble_eq_true rfl) (gJ.recv (G := gGG) sq92.1 trq40_0 rfl rfl)) (cl_Writer_putHead _ sq92.1 c11 trq40_0 dr t47 sk ec108 t48 bt s96 t49 uqq40) (fun q110 _ wq110 => ?_)
          obtain ⟨pq110, oq110, hq110⟩ := q110
          obtain ⟨tyq110, xq110, cq110_0, ttq110, fq110_0, fq110_1, ecq110_0, tcq110_0, gq110, efq110_0, afq110_0, bfq110_0, efq110_1, afq110_1, bfq110_1, uq110_0, uq110_1, uq110_2, uq110_3, uq110_4, uq110_5⟩ := wq110
          dsimp only at uq110_2 uq110_3 uq110_4 uq110_5
          refine ⟨_, gq110, ?_⟩
          show gz gPP gGG gcn _ _ 98 [some (.ref x), some (.int (zi q)), none] [] hq110 _
          have G111 : gSg [71, 72, 73, 74, 75, 76, 77, 78, 79, 80, 81, 85, 91, 92, 93, 94, 95, 96, 97, 98, 99, 114, 200] [] [50006, 55008, 56000, 56001, 56002, 56003, 64999, 71005, 71006, 71007, 71008, 71009, 71010, 71011, 71012, 71013, 71014, 72999, 73999, 74999, 76999, 77999, 78999, 79999, 80999, 81999, 85999, 91004, 91008, 92004, 92008, 93999, 94999, 95999, 96999, 97999, 98999, 99999, 114999] ty h tyq110 hq110 := gSg.tr (gSg.ss G41 sq92 (by decide)) xq110 (by decide) (by decide) (fun x hx => by cases hx)
          have t112 : tyq110 x = 50 := gSg.typ xq110 sq92.1 t42 rfl
          have t113 : tyq110 pic = 54 := gSg.typ xq110 sq92.1 t43 rfl
          have t114 : tyq110 b0 = 82 := gSg.typ xq110 sq92.1 t44 rfl
          have t115 : tyq110 b1 = 83 := gSg.typ xq110 sq92.1 t45 rfl
          have t116 : tyq110 b2 = 84 := gSg.typ xq110 sq92.1 t46 rfl
          have t117 : tyq110 dr = 55 := gSg.typ xq110 sq92.1 t47 rfl
          have t118 : tyq110 sk = 56 := gSg.typ xq110 sq92.1 t48 rfl
          have t119 : tyq110 bt = 114 := gSg.typ xq110 sq92.1 t49 rfl
          have hl120 : hq110.2.2.2.1 bt = hq92.2.2.2.1 bt := gSg.len xq110 sq92.1 t49 rfl
          have t121 : tyq110 c11 = 71 := gSg.typ xq110 sq92.1 trq40_0 rfl
          have t122 : tyq110 c77 = 53 := gSg.typ xq110 sq92.1 tc77 rfl
          have s123 := gSg.at xq110 sq92.1 t42 rfl (by decide) s93
          have s124 := gSg.at xq110 sq92.1 t42 rfl (by decide) s94
          have s125 := gSg.at xq110 sq92.1 t42 rfl (by decide) s95
          have s126 := gSg.at xq110 sq92.1 t47 rfl (by decide) s97
          have s127 := gSg.at xq110 sq92.1 t47 rfl (by decide) s98
          have s128 := gSg.at xq110 sq92.1 t47 rfl (by decide) s100
          have s129 := gSg.at xq110 sq92.1 t42 rfl (by decide) s101
          have s130 := gSg.at xq110 sq92.1 t42 rfl (by decide) s102
          have s131 := gSg.at xq110 sq92.1 trq40_0 rfl (by decide) ec108
          have pr132 := gPC.gr xq110 sq92.1 (by decide) pr103
          have pr133 := gTc.gr xq110 sq92.1 (by decide) (by decide) pr104
          have pr134 := gRr.gr xq110 sq92.1 (by decide) (by decide) pr105
          have uq135 := gSg.uq xq110 uqq40 (by decide)
          have hyst136 := gSta.gr xq110 (by decide) (fun x hx => by cases hx) (gSta.fr sq92.2 (by decide) hyst63)
          have sS137 : gSs rT 1027 tyq110 [50006, 55008, 56000, 56001, 56002, 56003, 64999, 71005, 71006, 71007, 71008, 71009, 71010, 71011, 71012, 71013, 71014, 72999, 73999, 74999, 76999, 77999, 78999, 79999, 80999, 81999, 85999, 91004, 91008, 92004, 92008, 93999, 94999, 95999, 96999, 97999, 98999, 99999, 114999] hq110 hq110 := gSs.rf xq110.1
          refine gz_s 1 (pc' := 99) (L' := [some (.ref x), some (.int (zi q)), none]) (S' := [.ref x]) rfl ?_
          refine gs_gtk rfl (by decide) rfl sS137.1 t112 rfl rfl s124 ?_
          refine gs_gtk rfl (by decide) rfl sS137.1 t117 rfl rfl s126 ?_
          by_cases hc138 : ¬ (n0 : Int) = 0
          · refine gy_ifT (pc' := 120) rfl (by decide) (by decide) (by omega) hc138 ?_
            obtain ⟨tf, tt, cf, rf, rt, rc, tle, tsm⟩ := pr133
            have hg0 := gsf_nn (f := fun j => gcr (cf j)) (fun j => by unfold gcr; split <;> omega) 64
            have hgl0 : gTl tf tt 0 = 0 := rfl
            refine gz_s 2 (pc' := 122) (L' := [some (.ref x), some (.int (zi q)), some (.int (zi 0))]) (S' := []) rfl ?_
            have lp139 : ∀ (fu : Nat) (ty141 : Nat → Nat) (h140 : gH) (bv : Nat) (i : Int) (cv : Int) (hv : Int), (11 - i).toNat < fu → gSg [71, 72, 73, 74, 75, 76, 77, 78, 79, 80, 81, 85, 91, 92, 93, 94, 95, 96, 97, 98, 99, 114, 200] [] [50006, 55008, 56000, 56001, 56002, 56003, 64999, 71005, 71006, 71007, 71008, 71009, 71010, 71011, 71012, 71013, 71014, 72999, 73999, 74999, 76999, 77999, 78999, 79999, 80999, 81999, 85999, 91004, 91008, 92004, 92008, 93999, 94999, 95999, 96999, 97999, 98999, 99999, 114999] ty h ty141 h140 → gUq ty141 → gSta ty141 h140 → ty141 x = 50 → ty141 pic = 54 → ty141 dr = 55 → ty141 sk = 56 → ty141 c11 = 71 → ty141 c77 = 53 → h140.2.2.2.2 sk 0 = .ref bv → ty141 bv = 114 → (0 ≤ i ∧ i ≤ 10) → (0 ≤ cv ∧ cv ≤ 499999) → (0 ≤ hv ∧ hv ≤ 7) → ((n0 = 0 ∧ 4 * cv + hv ≤ 336000) ∨ 4 * cv + hv ≤ 400 + 7876 * i + 5120 * gTl tf tt i) → (i ≤ n0) → (cv ≤ (h140.2.2.2.1 bv : Int)) → (1024 * (((h140.1 : Int) - h.1) - 21) ≤ (h140.2.2.2.1 bv : Int) - lb) → (((h140.2.1 : Int) - h.2.1) ≤ 4303 + 2 * ((h140.2.2.2.1 bv : Int) - lb)) → (lb ≤ (h140.2.2.2.1 bv : Int)) → h140.2.2.2.2 x 2 = .ref pic → h140.2.2.2.2 x 3 = .ref dr → h140.2.2.2.2 x 4 = .ref sk → h140.2.2.2.2 dr 8 = .int (zi n0) → h140.2.2.2.2 dr 3 = .int (zi iv) → h140.2.2.2.2 dr 1 = .int (zi z6) → h140.2.2.2.2 x 6 = .ref c11 → h140.2.2.2.2 x 1 = .ref c77 → h140.2.2.2.2 c11 0 = .ref sk → h140.2.2.2.2 sk 1 = .int (zi cv) → h140.2.2.2.2 sk 3 = .int (zi hv) → gPC ty141 pic b0 b1 b2 ld h140 → gRr ty141 x h140 → gRow ty141 60 tf h140 → gRow ty141 61 tt h140 → gz gPP gGG gcn (d + 8) gt89 122 [some (.ref x), some (.int (zi q)), some (.int (zi i))] [] h140 (fun q _ => ∃ ty9 : Nat → Nat, gSg [71, 72, 73, 74, 75, 76, 77, 78, 79, 80, 81, 85, 91, 92, 93, 94, 95, 96, 97, 98, 99, 114, 200] [] [50006, 55008, 56000, 56001, 56002, 56003, 64999, 71005, 71006, 71007, 71008, 71009, 71010, 71011, 71012, 71013, 71014, 72999, 73999, 74999, 76999, 77999, 78999, 79999, 80999, 81999, 85999, 91004, 91008, 92004, 92008, 93999, 94999, 95999, 96999, 97999, 98999, 99999, 114999] ty h ty9 q.2.2 ∧ ∃ ld1 lb1 iv1 : Int, 0 ≤ ld1 ∧ ld1 ≤ 192 ∧ 1024 ≤ lb1 ∧ lb1 ≤ 1000000 ∧ 0 ≤ iv1 ∧ iv1 ≤ 100 ∧ (gIx ty9 x ld1 lb1 iv1 q.2.2) ∧ gUq ty9 ∧ ((∃ z : Int, gfin gt89 q.1 q.2.1 = some (some (.int (zi z))) ∧ (-2147483648) ≤ z ∧ z ≤ 2147483647 ∧ (iv1 = iv) ∧ (1024 * (((q.2.2.1 : Int) - h.1) - 31 - 2 * (ld1 - ld)) ≤ lb1 - lb) ∧ (((q.2.2.2.1 : Int) - h.2.1) ≤ 4303 + 12480 * (ld1 - ld) + 2 * (lb1 - lb)) ∧ (ld ≤ ld1) ∧ (lb ≤ lb1)) ∨ (q.2.1 = [] ∧ ((q.1 = 11) ∨ (q.1 = 32)) ∧ (iv1 = iv) ∧ (1024 * (((q.2.2.1 : Int) - h.1) - 31 - 2 * (ld1 - ld)) ≤ lb1 - lb) ∧ (((q.2.2.2.1 : Int) - h.2.1) ≤ 4303 + 12480 * (ld1 - ld) + 2 * (lb1 - lb)) ∧ (ld ≤ ld1) ∧ (lb ≤ lb1)))) := by
              intro fu
              induction fu with
              | zero => intro ty141 h140 bv i cv hv hm; exact absurd hm (Nat.not_lt_zero _)
              | succ fu ihlp139 =>
                intro ty141 h140 bv i cv hv lp139m lp139G lp139u lp139t lp139c0 lp139c1 lp139c2 lp139c3 lp139c4 lp139c5 lp139r0 lp139r1 lp139f0 lp139f1 lp139f2 lp139f3 lp139f4 lp139f5 lp139f6 lp139f7 lp139f8 lp139k0 lp139k1 lp139k2 lp139k3 lp139k4 lp139k5 lp139k6 lp139k7 lp139k8 lp139k9 lp139k10 lp139k11 lp139k12 lp139k13 lp139k14
                have sh140 : gSs rT 1027 ty141 [50006, 55008, 56000, 56001, 56002, 56003, 64999, 71005, 71006, 71007, 71008, 71009, 71010, 71011, 71012, 71013, 71014, 72999, 73999, 74999, 76999, 77999, 78999, 79999, 80999, 81999, 85999, 91004, 91008, 92004, 92008, 93999, 94999, 95999, 96999, 97999, 98999, 99999, 114999] h140 h140 := gSs.rf lp139G.1
                refine gz_s 2 (pc' := 124) (L' := [some (.ref x), some (.int (zi q)), some (.int (zi i))]) (S' := [.ref x, .int (zi i)]) rfl ?_
                refine gs_gtk rfl (by decide) rfl sh140.1 lp139c0 rfl rfl lp139k1 ?_
                refine gs_gtk rfl (by decide) rfl sh140.1 lp139c2 rfl rfl lp139k3 ?_
                by_cases hc142 : (n0 : Int) ≤ i
                · refine gy_icT (pc' := 182) rfl (by decide) (by decide) (by omega) (by omega) hc142 ?_
                  have hgl9 : gTl tf tt i = gTl tf tt n0 := by rw [show i = n0 from Int.le_antisymm (by omega) (by omega)]
                  refine gz_s 1 (pc' := 183) (L' := [some (.ref x), some (.int (zi q)), some (.int (zi i))]) (S' := [.ref x]) rfl ?_
                  refine gs_gtk rfl (by decide) rfl sh140.1 lp139c0 rfl rfl lp139k6 ?_
                  have hl143 : h140.2.2.2.1 bv = h140.2.2.2.1 bv := congrFun sh140.2.2.2.2.1 bv
                  refine gz_call rfl (by decide) rfl (by decide) (by decide) (gcal_of rfl rfl rfl (Nat.le_of_ble_eq_true rfl) (gJ.recv (G := gGG) sh140.1 lp139c4 rfl rfl)) (cl_Writer_putEnd _ sh140.1 c11 lp139c4 sk lp139k8 lp139c3 bv lp139r0 lp139r1 cv lp139k9 ⟨by omega, by omega⟩ (by omega) lp139u) (fun q144 _ wq144 => ?_)
                  obtain ⟨pq144, oq144, hq144⟩ := q144
                  obtain ⟨tyq144, xq144, cq144_0, ttq144, fq144_0, ecq144_0, tcq144_0, gq144, efq144_0, afq144_0, bfq144_0, uq144_0, uq144_1, uq144_2, uq144_3, uq144_4⟩ := wq144
                  dsimp only at uq144_1 uq144_2 uq144_3 uq144_4
                  refine ⟨_, gq144, ?_⟩
                  show gz gPP gGG gcn _ _ 189 [some (.ref x), some (.int (zi q)), some (.int (zi i))] [] hq144 _
                  have G145 : gSg [71, 72, 73, 74, 75, 76, 77, 78, 79, 80, 81, 85, 91, 92, 93, 94, 95, 96, 97, 98, 99, 114, 200] [] [50006, 55008, 56000, 56001, 56002, 56003, 64999, 71005, 71006, 71007, 71008, 71009, 71010, 71011, 71012, 71013, 71014, 72999, 73999, 74999, 76999, 77999, 78999, 79999, 80999, 81999, 85999, 91004, 91008, 92004, 92008, 93999, 94999, 95999, 96999, 97999, 98999, 99999, 114999] ty h tyq144 hq144 := gSg.tr (gSg.ss lp139G sh140 (by decide)) xq144 (by decide) (by decide) (fun x hx => by cases hx)
                  have t146 : tyq144 x = 50 := gSg.typ xq144 sh140.1 lp139c0 rfl
                  have t147 : tyq144 pic = 54 := gSg.typ xq144 sh140.1 lp139c1 rfl
                  have t148 : tyq144 dr = 55 := gSg.typ xq144 sh140.1 lp139c2 rfl
                  have t149 : tyq144 sk = 56 := gSg.typ xq144 sh140.1 lp139c3 rfl
                  have t150 : tyq144 c11 = 71 := gSg.typ xq144 sh140.1 lp139c4 rfl
                  have t151 : tyq144 c77 = 53 := gSg.typ xq144 sh140.1 lp139c5 rfl
                  have t152 : tyq144 bv = 114 := gSg.typ xq144 sh140.1 lp139r1 rfl
                  have hl153 : hq144.2.2.2.1 bv = h140.2.2.2.1 bv := gSg.len xq144 sh140.1 lp139r1 rfl
                  have s154 := gSg.at xq144 sh140.1 lp139c0 rfl (by decide) lp139k0
                  have s155 := gSg.at xq144 sh140.1 lp139c0 rfl (by decide) lp139k1
                  have s156 := gSg.at xq144 sh140.1 lp139c0 rfl (by decide) lp139k2
                  have s157 := gSg.at xq144 sh140.1 lp139c2 rfl (by decide) lp139k3
                  have s158 := gSg.at xq144 sh140.1 lp139c2 rfl (by decide) lp139k4
                  have s159 := gSg.at xq144 sh140.1 lp139c2 rfl (by decide) lp139k5
                  have s160 := gSg.at xq144 sh140.1 lp139c0 rfl (by decide) lp139k6
                  have s161 := gSg.at xq144 sh140.1 lp139c0 rfl (by decide) lp139k7
                  have s162 := gSg.at xq144 sh140.1 lp139c4 rfl (by decide) lp139k8
                  have s163 := gSg.at xq144 sh140.1 lp139c3 rfl (by decide) lp139k10
                  have pr164 := gPC.gr xq144 sh140.1 (by decide) lp139k11
                  have pr165 := gRr.gr xq144 sh140.1 (by decide) (by decide) lp139k12
                  have pr166 := gRow.gr xq144 sh140.1 rfl (by decide) (by decide) lp139k13
                  have pr167 := gRow.gr xq144 sh140.1 rfl (by decide) (by decide) lp139k14
                  have uq168 := gSg.uq xq144 lp139u (by decide)
                  have hyst169 := gSta.gr xq144 (by decide) (fun x hx => by cases hx) (gSta.fr sh140.2 (by decide) lp139t)
                  have sS170 : gSs rT 1027 tyq144 [50006, 55008, 56000, 56001, 56002, 56003, 64999, 71005, 71006, 71007, 71008, 71009, 71010, 71011, 71012, 71013, 71014, 72999, 73999, 74999, 76999, 77999, 78999, 79999, 80999, 81999, 85999, 91004, 91008, 92004, 92008, 93999, 94999, 95999, 96999, 97999, 98999, 99999, 114999] hq144 hq144 := gSs.rf xq144.1
                  refine gz_s 1 (pc' := 190) (L' := [some (.ref x), some (.int (zi q)), some (.int (zi i))]) (S' := [.ref x]) rfl ?_
                  refine gs_gtk rfl (by decide) rfl sS170.1 t146 rfl rfl s155 ?_
                  refine gz_call rfl (by decide) rfl (by decide) (by decide) (gcal_of rfl rfl rfl (Nat.le_of_ble_eq_true rfl) (gJ.recv (G := gGG) sS170.1 t148 rfl rfl)) (cl_Draft_forgetScans _ sS170.1 dr t148 uq168) (fun q171 _ wq171 => ?_)
                  obtain ⟨pq171, oq171, hq171⟩ := q171
                  obtain ⟨xq171, fq171_0, gq171, efq171_0, afq171_0, bfq171_0, uq171_0, yq171_0⟩ := wq171
                  refine ⟨_, gq171, ?_⟩
                  show gz gPP gGG gcn _ _ 196 [some (.ref x), some (.int (zi q)), some (.int (zi i))] [] hq171 _
                  have sq171 : gSs rT 1027 tyq144 [50006, 55008, 56000, 56001, 56002, 56003, 64999, 71005, 71006, 71007, 71008, 71009, 71010, 71011, 71012, 71013, 71014, 72999, 73999, 74999, 76999, 77999, 78999, 79999, 80999, 81999, 85999, 91004, 91008, 92004, 92008, 93999, 94999, 95999, 96999, 97999, 98999, 99999, 114999] hq144 hq171 := gSs.tr sS170 xq171 (by decide)
                  have s172 := (xq171.2.2.2.2.2 x 2 (by rw [t146]; decide)).trans s154
                  have s173 := (xq171.2.2.2.2.2 x 3 (by rw [t146]; decide)).trans s155
                  have s174 := (xq171.2.2.2.2.2 x 4 (by rw [t146]; decide)).trans s156
                  have s175 := (xq171.2.2.2.2.2 dr 3 (by rw [t148]; decide)).trans s158
                  have s176 := (xq171.2.2.2.2.2 dr 1 (by rw [t148]; decide)).trans s159
                  have s177 := (xq171.2.2.2.2.2 x 6 (by rw [t146]; decide)).trans s160
                  have s178 := (xq171.2.2.2.2.2 x 1 (by rw [t146]; decide)).trans s161
                  have s179 := (xq171.2.2.2.2.2 c11 0 (by rw [t150]; decide)).trans s162
                  have s180 := (xq171.2.2.2.2.2 sk 3 (by rw [t149]; decide)).trans s163
                  have s181 := (xq171.2.2.2.2.2 sk 0 (by rw [t149]; decide)).trans ecq144_0
                  have s182 := (xq171.2.2.2.2.2 sk 1 (by rw [t149]; decide)).trans efq144_0
                  have pr183 := gPC.fr xq171.2 (by decide) pr164
                  have pr184 := gRr.fr xq171.2 (by decide) pr165
                  have pr185 := gRow.fr xq171.2 (by decide) pr166
                  have pr186 := gRow.fr xq171.2 (by decide) pr167
                  refine gz_s 1 (pc' := 197) (L' := [some (.ref x), some (.int (zi q)), some (.int (zi i))]) (S' := [.ref x]) rfl ?_
                  refine gs_gtk rfl (by decide) rfl sq171.1 t146 rfl rfl s174 ?_
                  refine gs_gtk rfl (by decide) rfl sq171.1 t149 rfl rfl s182 ?_
                  have k187 := sq171.2.1
                  have k187b := sq171.2.2.1
                  have hl188 : hq171.2.2.2.1 bv = hq144.2.2.2.1 bv := congrFun sq171.2.2.2.2.1 bv
                  have hl189 : hq171.2.2.2.1 cq144_0 = hq144.2.2.2.1 cq144_0 := congrFun sq171.2.2.2.2.1 cq144_0
                  have hl190 : 1024 ≤ hq171.2.2.2.1 bv ∧ hq171.2.2.2.1 bv ≤ 1000000 := gJ.rowl (G := gGG) sq171.1 t152 rfl
                  have hl191 : 1024 ≤ hq171.2.2.2.1 cq144_0 ∧ hq171.2.2.2.1 cq144_0 ≤ 1000000 := gJ.rowl (G := gGG) sq171.1 tcq144_0 rfl
                  have k192 := sq171.2.1
                  have k192b := sq171.2.2.1
                  have hl193 : hq171.2.2.2.1 bv = hq144.2.2.2.1 bv := congrFun sq171.2.2.2.2.1 bv
                  have hl194 : hq171.2.2.2.1 cq144_0 = hq144.2.2.2.1 cq144_0 := congrFun sq171.2.2.2.2.1 cq144_0
                  have hix195 : gIx tyq144 x ld (hq171.2.2.2.1 cq144_0 : Int) iv hq171 := ⟨pic, b0, b1, b2, dr, sk, cq144_0, fq171_0, fq144_0, ⟨t146, t148, t149, tcq144_0⟩, ⟨s172, s173, s174, s181⟩, pr183, (by rw [(by omega : fq171_0 = 0)]; exact yq171_0), ⟨efq171_0, by omega, by omega⟩, ⟨s175, by omega, by omega⟩, ⟨s182, by omega, by omega⟩, ⟨by omega, by omega⟩, pr184, ⟨t146, Or.inr ⟨c11, s177, t150⟩⟩⟩
                  have G196 : gSg [71, 72, 73, 74, 75, 76, 77, 78, 79, 80, 81, 85, 91, 92, 93, 94, 95, 96, 97, 98, 99, 114, 200] [] [50006, 55008, 56000, 56001, 56002, 56003, 64999, 71005, 71006, 71007, 71008, 71009, 71010, 71011, 71012, 71013, 71014, 72999, 73999, 74999, 76999, 77999, 78999, 79999, 80999, 81999, 85999, 91004, 91008, 92004, 92008, 93999, 94999, 95999, 96999, 97999, 98999, 99999, 114999] ty h tyq144 hq171 := gSg.ss G145 sq171 (by decide)
                  exact gz_end (I := .ireturn) (len := 1) rfl (Or.inl rfl) ⟨tyq144, G196, ld, (hq171.2.2.2.1 cq144_0 : Int), iv, (by omega), (by omega), (by omega), (by omega), (by omega), (by omega), hix195, uq168, Or.inl ⟨fq144_0, rfl, (by omega), (by omega), (by omega), (by dsimp only; omega), (by dsimp only; omega), (by omega), (by omega)⟩⟩
                · refine gy_icF rfl (by decide) (by decide) (by omega) (by omega) hc142 ?_
                  refine gz_s 1 (pc' := 134) (L' := [some (.ref x), some (.int (zi q)), some (.int (zi i))]) (S' := [.ref x]) rfl ?_
                  refine gs_gtk rfl (by decide) rfl sh140.1 lp139c0 rfl rfl lp139k6 ?_
                  refine gz_s 1 (pc' := 138) (L' := [some (.ref x), some (.int (zi q)), some (.int (zi i))]) (S' := [.ref x, .ref c11]) rfl ?_
                  refine gs_gtk rfl (by decide) rfl sh140.1 lp139c0 rfl rfl lp139k1 ?_
                  refine gs_gtr rfl (by decide) rfl sh140.1 lp139c2 rfl rfl rfl (fun c197 ec197 tc197 => ?_)
                  refine gz_s 1 (pc' := 145) (L' := [some (.ref x), some (.int (zi q)), some (.int (zi i))]) (S' := [.int (zi i), .ref c197, .ref c11]) rfl ?_
                  have hl198 : 10 ≤ h140.2.2.2.1 c197 ∧ h140.2.2.2.1 c197 ≤ 10 := gJ.rowl (G := gGG) sh140.1 tc197 rfl
                  refine gs_ald rfl (by decide) sh140.1 tc197 rfl rfl rfl (by decide) (fun _ => rfl) (by omega) (by omega) (fun z199 ez199 az199 bz199 => ?_)
                  have hf200 := gRow.at (i := i) (z := z199) lp139k13 tc197 ez199 (by omega) (by omega) (by omega)
                  refine gz_s 1 (pc' := 147) (L' := [some (.ref x), some (.int (zi q)), some (.int (zi i))]) (S' := [.ref x, .int (zi z199), .ref c11]) rfl ?_
                  refine gs_gtk rfl (by decide) rfl sh140.1 lp139c0 rfl rfl lp139k1 ?_
                  refine gs_gtr rfl (by decide) rfl sh140.1 lp139c2 rfl rfl rfl (fun c201 ec201 tc201 => ?_)
                  refine gz_s 1 (pc' := 154) (L' := [some (.ref x), some (.int (zi q)), some (.int (zi i))]) (S' := [.int (zi i), .ref c201, .int (zi z199), .ref c11]) rfl ?_
                  have hl202 : 10 ≤ h140.2.2.2.1 c201 ∧ h140.2.2.2.1 c201 ≤ 10 := gJ.rowl (G := gGG) sh140.1 tc201 rfl
                  refine gs_ald rfl (by decide) sh140.1 tc201 rfl rfl rfl (by decide) (fun _ => rfl) (by omega) (by omega) (fun z203 ez203 az203 bz203 => ?_)
                  have hf204 := gRow.at (i := i) (z := z203) lp139k14 tc201 ez203 (by omega) (by omega) (by omega)
                  refine gz_s 1 (pc' := 156) (L' := [some (.ref x), some (.int (zi q)), some (.int (zi i))]) (S' := [.ref x, .int (zi z203), .int (zi z199), .ref c11]) rfl ?_
                  refine gs_gtk rfl (by decide) rfl sh140.1 lp139c0 rfl rfl lp139k1 ?_
                  refine gs_gtr rfl (by decide) rfl sh140.1 lp139c2 rfl rfl rfl (fun c205 ec205 tc205 => ?_)
                  refine gz_s 1 (pc' := 163) (L' := [some (.ref x), some (.int (zi q)), some (.int (zi i))]) (S' := [.int (zi i), .ref c205, .int (zi z203), .int (zi z199), .ref c11]) rfl ?_
                  have hl206 : 10 ≤ h140.2.2.2.1 c205 ∧ h140.2.2.2.1 c205 ≤ 10 := gJ.rowl (G := gGG) sh140.1 tc205 rfl
                  refine gs_ald rfl (by decide) sh140.1 tc205 rfl rfl rfl (by decide) (fun _ => rfl) (by omega) (by omega) (fun z207 ez207 az207 bz207 => ?_)
                  refine gz_s 1 (pc' := 165) (L' := [some (.ref x), some (.int (zi q)), some (.int (zi i))]) (S' := [.ref x, .int (zi z207), .int (zi z203), .int (zi z199), .ref c11]) rfl ?_
                  refine gs_gtk rfl (by decide) rfl sh140.1 lp139c0 rfl rfl lp139k1 ?_
                  refine gs_gtr rfl (by decide) rfl sh140.1 lp139c2 rfl rfl rfl (fun c208 ec208 tc208 => ?_)
                  refine gz_s 1 (pc' := 172) (L' := [some (.ref x), some (.int (zi q)), some (.int (zi i))]) (S' := [.int (zi i), .ref c208, .int (zi z207), .int (zi z203), .int (zi z199), .ref c11]) rfl ?_
                  have hl209 : 10 ≤ h140.2.2.2.1 c208 ∧ h140.2.2.2.1 c208 ≤ 10 := gJ.rowl (G := gGG) sh140.1 tc208 rfl
                  refine gs_ald rfl (by decide) sh140.1 tc208 rfl rfl rfl (by decide) (fun _ => rfl) (by omega) (by omega) (fun z210 ez210 az210 bz210 => ?_)
                  have htl := tle (i).toNat (by omega)
                  have hst := gTl_st (f := tf) (t := tt) (k := i) (a := z199) (b := z203) (by omega) hf200 hf204
                  have hle := gTl_le (f := tf) (t := tt) (k := i + 1) (n := n0) tle (by omega)
                  have hl211 : h140.2.2.2.1 bv = h140.2.2.2.1 bv := congrFun sh140.2.2.2.2.1 bv
                  refine gz_call rfl (by decide) rfl (by decide) (by decide) (gcal_of rfl rfl rfl (Nat.le_of_ble_eq_true rfl) (gJ.recv (G := gGG) sh140.1 lp139c4 rfl rfl)) (cl_Writer_putScan _ sh140.1 c11 lp139c4 z199 ⟨by omega, by omega⟩ z203 ⟨by omega, by omega⟩ z207 ⟨by omega, by omega⟩ z210 ⟨by omega, by omega⟩ sk lp139k8 lp139c3 bv lp139r0 lp139r1 cv lp139k9 ⟨by omega, by omega⟩ hv lp139k10 ⟨by omega, by omega⟩ (by omega) (by omega) (by omega) lp139u) (fun q212 _ wq212 => ?_)
                  obtain ⟨pq212, oq212, hq212⟩ := q212
                  obtain ⟨tyq212, xq212, cq212_0, ttq212, fq212_0, fq212_1, ecq212_0, tcq212_0, gq212, efq212_0, afq212_0, bfq212_0, efq212_1, afq212_1, bfq212_1, uq212_0, uq212_1, uq212_2, uq212_3, uq212_4, uq212_5⟩ := wq212
                  dsimp only at uq212_2 uq212_3 uq212_4 uq212_5
                  refine ⟨_, gq212, ?_⟩
                  show gz gPP gGG gcn _ _ 176 [some (.ref x), some (.int (zi q)), some (.int (zi i))] [] hq212 _
                  have G213 : gSg [71, 72, 73, 74, 75, 76, 77, 78, 79, 80, 81, 85, 91, 92, 93, 94, 95, 96, 97, 98, 99, 114, 200] [] [50006, 55008, 56000, 56001, 56002, 56003, 64999, 71005, 71006, 71007, 71008, 71009, 71010, 71011, 71012, 71013, 71014, 72999, 73999, 74999, 76999, 77999, 78999, 79999, 80999, 81999, 85999, 91004, 91008, 92004, 92008, 93999, 94999, 95999, 96999, 97999, 98999, 99999, 114999] ty h tyq212 hq212 := gSg.tr (gSg.ss lp139G sh140 (by decide)) xq212 (by decide) (by decide) (fun x hx => by cases hx)
                  have t214 : tyq212 x = 50 := gSg.typ xq212 sh140.1 lp139c0 rfl
                  have t215 : tyq212 pic = 54 := gSg.typ xq212 sh140.1 lp139c1 rfl
                  have t216 : tyq212 dr = 55 := gSg.typ xq212 sh140.1 lp139c2 rfl
                  have t217 : tyq212 sk = 56 := gSg.typ xq212 sh140.1 lp139c3 rfl
                  have t218 : tyq212 c11 = 71 := gSg.typ xq212 sh140.1 lp139c4 rfl
                  have t219 : tyq212 c77 = 53 := gSg.typ xq212 sh140.1 lp139c5 rfl
                  have t220 : tyq212 bv = 114 := gSg.typ xq212 sh140.1 lp139r1 rfl
                  have hl221 : hq212.2.2.2.1 bv = h140.2.2.2.1 bv := gSg.len xq212 sh140.1 lp139r1 rfl
                  have t222 : tyq212 c197 = 60 := gSg.typ xq212 sh140.1 tc197 rfl
                  have t223 : tyq212 c201 = 61 := gSg.typ xq212 sh140.1 tc201 rfl
                  have t224 : tyq212 c205 = 62 := gSg.typ xq212 sh140.1 tc205 rfl
                  have t225 : tyq212 c208 = 63 := gSg.typ xq212 sh140.1 tc208 rfl
                  have s226 := gSg.at xq212 sh140.1 lp139c0 rfl (by decide) lp139k0
                  have s227 := gSg.at xq212 sh140.1 lp139c0 rfl (by decide) lp139k1
                  have s228 := gSg.at xq212 sh140.1 lp139c0 rfl (by decide) lp139k2
                  have s229 := gSg.at xq212 sh140.1 lp139c2 rfl (by decide) lp139k3
                  have s230 := gSg.at xq212 sh140.1 lp139c2 rfl (by decide) lp139k4
                  have s231 := gSg.at xq212 sh140.1 lp139c2 rfl (by decide) lp139k5
                  have s232 := gSg.at xq212 sh140.1 lp139c0 rfl (by decide) lp139k6
                  have s233 := gSg.at xq212 sh140.1 lp139c0 rfl (by decide) lp139k7
                  have s234 := gSg.at xq212 sh140.1 lp139c4 rfl (by decide) lp139k8
                  have s235 := gSg.at xq212 sh140.1 lp139c2 rfl (by decide) ec197
                  have s236 := gSg.at xq212 sh140.1 lp139c2 rfl (by decide) ec201
                  have s237 := gSg.at xq212 sh140.1 lp139c2 rfl (by decide) ec205
                  have s238 := gSg.at xq212 sh140.1 lp139c2 rfl (by decide) ec208
                  have pr239 := gPC.gr xq212 sh140.1 (by decide) lp139k11
                  have pr240 := gRr.gr xq212 sh140.1 (by decide) (by decide) lp139k12
                  have pr241 := gRow.gr xq212 sh140.1 rfl (by decide) (by decide) lp139k13
                  have pr242 := gRow.gr xq212 sh140.1 rfl (by decide) (by decide) lp139k14
                  have uq243 := gSg.uq xq212 lp139u (by decide)
                  have hyst244 := gSta.gr xq212 (by decide) (fun x hx => by cases hx) (gSta.fr sh140.2 (by decide) lp139t)
                  have sS245 : gSs rT 1027 tyq212 [50006, 55008, 56000, 56001, 56002, 56003, 64999, 71005, 71006, 71007, 71008, 71009, 71010, 71011, 71012, 71013, 71014, 72999, 73999, 74999, 76999, 77999, 78999, 79999, 80999, 81999, 85999, 91004, 91008, 92004, 92008, 93999, 94999, 95999, 96999, 97999, 98999, 99999, 114999] hq212 hq212 := gSs.rf xq212.1
                  refine gy_s 2 (pc' := 122) (L' := [some (.ref x), some (.int (zi q)), some (.int ((zi i) + zi 1))]) (S' := []) (L2 := [some (.ref x), some (.int (zi q)), some (.int (zi (i + 1)))]) (S2 := []) rfl (by simp only [zi_add, zi_sub, zi_mul, zi_neg, zi_and1, zi_and7, zi_and15, zi_and31, zi_and255]) (by simp only [zi_add, zi_sub, zi_mul, zi_neg, zi_and1, zi_and7, zi_and15, zi_and31, zi_and255]) ?_
                  have hl246 : 1024 ≤ hq212.2.2.2.1 bv ∧ hq212.2.2.2.1 bv ≤ 1000000 := gJ.rowl (G := gGG) sS245.1 t220 rfl
                  have hl247 : 1024 ≤ hq212.2.2.2.1 cq212_0 ∧ hq212.2.2.2.1 cq212_0 ≤ 1000000 := gJ.rowl (G := gGG) sS245.1 tcq212_0 rfl
                  have G248 : gSg [71, 72, 73, 74, 75, 76, 77, 78, 79, 80, 81, 85, 91, 92, 93, 94, 95, 96, 97, 98, 99, 114, 200] [] [50006, 55008, 56000, 56001, 56002, 56003, 64999, 71005, 71006, 71007, 71008, 71009, 71010, 71011, 71012, 71013, 71014, 72999, 73999, 74999, 76999, 77999, 78999, 79999, 80999, 81999, 85999, 91004, 91008, 92004, 92008, 93999, 94999, 95999, 96999, 97999, 98999, 99999, 114999] ty h tyq212 hq212 := gSg.ss G213 sS245 (by decide)
                  exact gz_wk (ihlp139 tyq212 hq212 cq212_0 (i + 1) fq212_0 fq212_1 (gms lp139m (by omega) (by omega)) G248 uq243 (gSta.fr sS245.2 (by decide) hyst244) t214 t215 t216 t217 t218 t219 ecq212_0 tcq212_0 ⟨by omega, by omega⟩ ⟨by omega, by omega⟩ ⟨by omega, by omega⟩ (by omega) (by omega) (by omega) (by omega) (by omega) (by omega) s226 s227 s228 s229 s230 s231 s232 s233 s234 efq212_0 efq212_1 pr239 pr240 pr241 pr242) (gLw.s (gLw.s (gLw.s gLw.z)))
            have hl249 : 1024 ≤ hq110.2.2.2.1 bt ∧ hq110.2.2.2.1 bt ≤ 1000000 := gJ.rowl (G := gGG) sS137.1 t119 rfl
            have hl250 : 1024 ≤ hq110.2.2.2.1 cq110_0 ∧ hq110.2.2.2.1 cq110_0 ≤ 1000000 := gJ.rowl (G := gGG) sS137.1 tcq110_0 rfl
            have G251 : gSg [71, 72, 73, 74, 75, 76, 77, 78, 79, 80, 81, 85, 91, 92, 93, 94, 95, 96, 97, 98, 99, 114, 200] [] [50006, 55008, 56000, 56001, 56002, 56003, 64999, 71005, 71006, 71007, 71008, 71009, 71010, 71011, 71012, 71013, 71014, 72999, 73999, 74999, 76999, 77999, 78999, 79999, 80999, 81999, 85999, 91004, 91008, 92004, 92008, 93999, 94999, 95999, 96999, 97999, 98999, 99999, 114999] ty h tyq110 hq110 := gSg.ss G111 sS137 (by decide)
            exact gz_wk (lp139 _ tyq110 hq110 cq110_0 0 fq110_0 fq110_1 (Nat.lt_succ_self _) G251 uq135 (gSta.fr sS137.2 (by decide) hyst136) t112 t113 t117 t118 t121 t122 ecq110_0 tcq110_0 ⟨by omega, by omega⟩ ⟨by omega, by omega⟩ ⟨by omega, by omega⟩ (by omega) (by omega) (by omega) (by omega) (by omega) (by omega) s123 s124 s125 s126 s127 s128 s129 s130 s131 efq110_0 efq110_1 pr132 pr134 rf rt) (gLw.s (gLw.s (gLw.s gLw.z)))
          · refine gy_ifF rfl (by decide) (by decide) (by omega) hc138 ?_
            refine gz_s 1 (pc' := 109) (L' := [some (.ref x), some (.int (zi q)), none]) (S' := [.ref x]) rfl ?_
            refine gs_gtk rfl (by decide) rfl sS137.1 t112 rfl rfl s129 ?_
            refine gz_s 4 (pc' := 117) (L' := [some (.ref x), some (.int (zi q)), none]) (S' := [.int (zi 0), .int (zi 0), .int (zi 63), .int (zi 0), .ref c11]) rfl ?_
            have hl252 : hq110.2.2.2.1 cq110_0 = hq110.2.2.2.1 cq110_0 := congrFun sS137.2.2.2.2.1 cq110_0
            refine gz_call rfl (by decide) rfl (by decide) (by decide) (gcal_of rfl rfl rfl (Nat.le_of_ble_eq_true rfl) (gJ.recv (G := gGG) sS137.1 t121 rfl rfl)) (cl_Writer_putScan _ sS137.1 c11 t121 0 ⟨by omega, by omega⟩ 63 ⟨by omega, by omega⟩ 0 ⟨by omega, by omega⟩ 0 ⟨by omega, by omega⟩ sk s131 t118 cq110_0 ecq110_0 tcq110_0 fq110_0 efq110_0 ⟨by omega, by omega⟩ fq110_1 efq110_1 ⟨by omega, by omega⟩ (by omega) (by omega) (by omega) uq135) (fun q253 _ wq253 => ?_)
            obtain ⟨pq253, oq253, hq253⟩ := q253
            obtain ⟨tyq253, xq253, cq253_0, ttq253, fq253_0, fq253_1, ecq253_0, tcq253_0, gq253, efq253_0, afq253_0, bfq253_0, efq253_1, afq253_1, bfq253_1, uq253_0, uq253_1, uq253_2, uq253_3, uq253_4, uq253_5⟩ := wq253
            dsimp only at uq253_2 uq253_3 uq253_4 uq253_5
            refine ⟨_, gq253, ?_⟩
            show gz gPP gGG gcn _ _ 120 [some (.ref x), some (.int (zi q)), none] [] hq253 _
            have G254 : gSg [71, 72, 73, 74, 75, 76, 77, 78, 79, 80, 81, 85, 91, 92, 93, 94, 95, 96, 97, 98, 99, 114, 200] [] [50006, 55008, 56000, 56001, 56002, 56003, 64999, 71005, 71006, 71007, 71008, 71009, 71010, 71011, 71012, 71013, 71014, 72999, 73999, 74999, 76999, 77999, 78999, 79999, 80999, 81999, 85999, 91004, 91008, 92004, 92008, 93999, 94999, 95999, 96999, 97999, 98999, 99999, 114999] ty h tyq253 hq253 := gSg.tr (gSg.ss G111 sS137 (by decide)) xq253 (by decide) (by decide) (fun x hx => by cases hx)
            have t255 : tyq253 x = 50 := gSg.typ xq253 sS137.1 t112 rfl
            have t256 : tyq253 pic = 54 := gSg.typ xq253 sS137.1 t113 rfl
            have t257 : tyq253 b0 = 82 := gSg.typ xq253 sS137.1 t114 rfl
            have t258 : tyq253 b1 = 83 := gSg.typ xq253 sS137.1 t115 rfl
            have t259 : tyq253 b2 = 84 := gSg.typ xq253 sS137.1 t116 rfl
            have t260 : tyq253 dr = 55 := gSg.typ xq253 sS137.1 t117 rfl
            have t261 : tyq253 sk = 56 := gSg.typ xq253 sS137.1 t118 rfl
            have t262 : tyq253 bt = 114 := gSg.typ xq253 sS137.1 t119 rfl
            have hl263 : hq253.2.2.2.1 bt = hq110.2.2.2.1 bt := gSg.len xq253 sS137.1 t119 rfl
            have t264 : tyq253 c11 = 71 := gSg.typ xq253 sS137.1 t121 rfl
            have t265 : tyq253 c77 = 53 := gSg.typ xq253 sS137.1 t122 rfl
            have t266 : tyq253 cq110_0 = 114 := gSg.typ xq253 sS137.1 tcq110_0 rfl
            have hl267 : hq253.2.2.2.1 cq110_0 = hq110.2.2.2.1 cq110_0 := gSg.len xq253 sS137.1 tcq110_0 rfl
            have s268 := gSg.at xq253 sS137.1 t112 rfl (by decide) s123
            have s269 := gSg.at xq253 sS137.1 t112 rfl (by decide) s124
            have s270 := gSg.at xq253 sS137.1 t112 rfl (by decide) s125
            have s271 := gSg.at xq253 sS137.1 t117 rfl (by decide) s126
            have s272 := gSg.at xq253 sS137.1 t117 rfl (by decide) s127
            have s273 := gSg.at xq253 sS137.1 t117 rfl (by decide) s128
            have s274 := gSg.at xq253 sS137.1 t112 rfl (by decide) s129
            have s275 := gSg.at xq253 sS137.1 t112 rfl (by decide) s130
            have s276 := gSg.at xq253 sS137.1 t121 rfl (by decide) s131
            have pr277 := gPC.gr xq253 sS137.1 (by decide) pr132
            have pr278 := gTc.gr xq253 sS137.1 (by decide) (by decide) pr133
            have pr279 := gRr.gr xq253 sS137.1 (by decide) (by decide) pr134
            have uq280 := gSg.uq xq253 uq135 (by decide)
            have hyst281 := gSta.gr xq253 (by decide) (fun x hx => by cases hx) (gSta.fr sS137.2 (by decide) hyst136)
            have sS282 : gSs rT 1027 tyq253 [50006, 55008, 56000, 56001, 56002, 56003, 64999, 71005, 71006, 71007, 71008, 71009, 71010, 71011, 71012, 71013, 71014, 72999, 73999, 74999, 76999, 77999, 78999, 79999, 80999, 81999, 85999, 91004, 91008, 92004, 92008, 93999, 94999, 95999, 96999, 97999, 98999, 99999, 114999] hq253 hq253 := gSs.rf xq253.1
            obtain ⟨tf, tt, cf, rf, rt, rc, tle, tsm⟩ := pr278
            have hg0 := gsf_nn (f := fun j => gcr (cf j)) (fun j => by unfold gcr; split <;> omega) 64
            have hgl0 : gTl tf tt 0 = 0 := rfl
            refine gz_s 2 (pc' := 122) (L' := [some (.ref x), some (.int (zi q)), some (.int (zi 0))]) (S' := []) rfl ?_
            have lp283 : ∀ (fu : Nat) (ty285 : Nat → Nat) (h284 : gH) (bv : Nat) (i : Int) (cv : Int) (hv : Int), (11 - i).toNat < fu → gSg [71, 72, 73, 74, 75, 76, 77, 78, 79, 80, 81, 85, 91, 92, 93, 94, 95, 96, 97, 98, 99, 114, 200] [] [50006, 55008, 56000, 56001, 56002, 56003, 64999, 71005, 71006, 71007, 71008, 71009, 71010, 71011, 71012, 71013, 71014, 72999, 73999, 74999, 76999, 77999, 78999, 79999, 80999, 81999, 85999, 91004, 91008, 92004, 92008, 93999, 94999, 95999, 96999, 97999, 98999, 99999, 114999] ty h ty285 h284 → gUq ty285 → gSta ty285 h284 → ty285 x = 50 → ty285 pic = 54 → ty285 dr = 55 → ty285 sk = 56 → ty285 c11 = 71 → ty285 c77 = 53 → h284.2.2.2.2 sk 0 = .ref bv → ty285 bv = 114 → (0 ≤ i ∧ i ≤ 10) → (0 ≤ cv ∧ cv ≤ 499999) → (0 ≤ hv ∧ hv ≤ 7) → ((n0 = 0 ∧ 4 * cv + hv ≤ 336000) ∨ 4 * cv + hv ≤ 400 + 7876 * i + 5120 * gTl tf tt i) → (i ≤ n0) → (cv ≤ (h284.2.2.2.1 bv : Int)) → (1024 * (((h284.1 : Int) - h.1) - 21) ≤ (h284.2.2.2.1 bv : Int) - lb) → (((h284.2.1 : Int) - h.2.1) ≤ 4303 + 2 * ((h284.2.2.2.1 bv : Int) - lb)) → (lb ≤ (h284.2.2.2.1 bv : Int)) → h284.2.2.2.2 x 2 = .ref pic → h284.2.2.2.2 x 3 = .ref dr → h284.2.2.2.2 x 4 = .ref sk → h284.2.2.2.2 dr 8 = .int (zi n0) → h284.2.2.2.2 dr 3 = .int (zi iv) → h284.2.2.2.2 dr 1 = .int (zi z6) → h284.2.2.2.2 x 6 = .ref c11 → h284.2.2.2.2 x 1 = .ref c77 → h284.2.2.2.2 c11 0 = .ref sk → h284.2.2.2.2 sk 1 = .int (zi cv) → h284.2.2.2.2 sk 3 = .int (zi hv) → gPC ty285 pic b0 b1 b2 ld h284 → gRr ty285 x h284 → gRow ty285 60 tf h284 → gRow ty285 61 tt h284 → gz gPP gGG gcn (d + 8) gt89 122 [some (.ref x), some (.int (zi q)), some (.int (zi i))] [] h284 (fun q _ => ∃ ty9 : Nat → Nat, gSg [71, 72, 73, 74, 75, 76, 77, 78, 79, 80, 81, 85, 91, 92, 93, 94, 95, 96, 97, 98, 99, 114, 200] [] [50006, 55008, 56000, 56001, 56002, 56003, 64999, 71005, 71006, 71007, 71008, 71009, 71010, 71011, 71012, 71013, 71014, 72999, 73999, 74999, 76999, 77999, 78999, 79999, 80999, 81999, 85999, 91004, 91008, 92004, 92008, 93999, 94999, 95999, 96999, 97999, 98999, 99999, 114999] ty h ty9 q.2.2 ∧ ∃ ld1 lb1 iv1 : Int, 0 ≤ ld1 ∧ ld1 ≤ 192 ∧ 1024 ≤ lb1 ∧ lb1 ≤ 1000000 ∧ 0 ≤ iv1 ∧ iv1 ≤ 100 ∧ (gIx ty9 x ld1 lb1 iv1 q.2.2) ∧ gUq ty9 ∧ ((∃ z : Int, gfin gt89 q.1 q.2.1 = some (some (.int (zi z))) ∧ (-2147483648) ≤ z ∧ z ≤ 2147483647 ∧ (iv1 = iv) ∧ (1024 * (((q.2.2.1 : Int) - h.1) - 31 - 2 * (ld1 - ld)) ≤ lb1 - lb) ∧ (((q.2.2.2.1 : Int) - h.2.1) ≤ 4303 + 12480 * (ld1 - ld) + 2 * (lb1 - lb)) ∧ (ld ≤ ld1) ∧ (lb ≤ lb1)) ∨ (q.2.1 = [] ∧ ((q.1 = 11) ∨ (q.1 = 32)) ∧ (iv1 = iv) ∧ (1024 * (((q.2.2.1 : Int) - h.1) - 31 - 2 * (ld1 - ld)) ≤ lb1 - lb) ∧ (((q.2.2.2.1 : Int) - h.2.1) ≤ 4303 + 12480 * (ld1 - ld) + 2 * (lb1 - lb)) ∧ (ld ≤ ld1) ∧ (lb ≤ lb1)))) := by
              intro fu
              induction fu with
              | zero => intro ty285 h284 bv i cv hv hm; exact absurd hm (Nat.not_lt_zero _)
              | succ fu ihlp283 =>
                intro ty285 h284 bv i cv hv lp283m lp283G lp283u lp283t lp283c0 lp283c1 lp283c2 lp283c3 lp283c4 lp283c5 lp283r0 lp283r1 lp283f0 lp283f1 lp283f2 lp283f3 lp283f4 lp283f5 lp283f6 lp283f7 lp283f8 lp283k0 lp283k1 lp283k2 lp283k3 lp283k4 lp283k5 lp283k6 lp283k7 lp283k8 lp283k9 lp283k10 lp283k11 lp283k12 lp283k13 lp283k14
                have sh284 : gSs rT 1027 ty285 [50006, 55008, 56000, 56001, 56002, 56003, 64999, 71005, 71006, 71007, 71008, 71009, 71010, 71011, 71012, 71013, 71014, 72999, 73999, 74999, 76999, 77999, 78999, 79999, 80999, 81999, 85999, 91004, 91008, 92004, 92008, 93999, 94999, 95999, 96999, 97999, 98999, 99999, 114999] h284 h284 := gSs.rf lp283G.1
                refine gz_s 2 (pc' := 124) (L' := [some (.ref x), some (.int (zi q)), some (.int (zi i))]) (S' := [.ref x, .int (zi i)]) rfl ?_
                refine gs_gtk rfl (by decide) rfl sh284.1 lp283c0 rfl rfl lp283k1 ?_
                refine gs_gtk rfl (by decide) rfl sh284.1 lp283c2 rfl rfl lp283k3 ?_
                refine gy_icT (pc' := 182) rfl (by decide) (by decide) ⟨by omega, by omega⟩ ⟨by omega, by omega⟩ (by first | (simp [zc]; done) | (simp only [zc]; omega)) ?_
                have hgl9 : gTl tf tt i = gTl tf tt n0 := by rw [show i = n0 from Int.le_antisymm (by omega) (by omega)]
                refine gz_s 1 (pc' := 183) (L' := [some (.ref x), some (.int (zi q)), some (.int (zi i))]) (S' := [.ref x]) rfl ?_
                refine gs_gtk rfl (by decide) rfl sh284.1 lp283c0 rfl rfl lp283k6 ?_
                have hl286 : h284.2.2.2.1 bv = h284.2.2.2.1 bv := congrFun sh284.2.2.2.2.1 bv
                refine gz_call rfl (by decide) rfl (by decide) (by decide) (gcal_of rfl rfl rfl (Nat.le_of_ble_eq_true rfl) (gJ.recv (G := gGG) sh284.1 lp283c4 rfl rfl)) (cl_Writer_putEnd _ sh284.1 c11 lp283c4 sk lp283k8 lp283c3 bv lp283r0 lp283r1 cv lp283k9 ⟨by omega, by omega⟩ (by omega) lp283u) (fun q287 _ wq287 => ?_)
                obtain ⟨pq287, oq287, hq287⟩ := q287
                obtain ⟨tyq287, xq287, cq287_0, ttq287, fq287_0, ecq287_0, tcq287_0, gq287, efq287_0, afq287_0, bfq287_0, uq287_0, uq287_1, uq287_2, uq287_3, uq287_4⟩ := wq287
                dsimp only at uq287_1 uq287_2 uq287_3 uq287_4
                refine ⟨_, gq287, ?_⟩
                show gz gPP gGG gcn _ _ 189 [some (.ref x), some (.int (zi q)), some (.int (zi i))] [] hq287 _
                have G288 : gSg [71, 72, 73, 74, 75, 76, 77, 78, 79, 80, 81, 85, 91, 92, 93, 94, 95, 96, 97, 98, 99, 114, 200] [] [50006, 55008, 56000, 56001, 56002, 56003, 64999, 71005, 71006, 71007, 71008, 71009, 71010, 71011, 71012, 71013, 71014, 72999, 73999, 74999, 76999, 77999, 78999, 79999, 80999, 81999, 85999, 91004, 91008, 92004, 92008, 93999, 94999, 95999, 96999, 97999, 98999, 99999, 114999] ty h tyq287 hq287 := gSg.tr (gSg.ss lp283G sh284 (by decide)) xq287 (by decide) (by decide) (fun x hx => by cases hx)
                have t289 : tyq287 x = 50 := gSg.typ xq287 sh284.1 lp283c0 rfl
                have t290 : tyq287 pic = 54 := gSg.typ xq287 sh284.1 lp283c1 rfl
                have t291 : tyq287 dr = 55 := gSg.typ xq287 sh284.1 lp283c2 rfl
                have t292 : tyq287 sk = 56 := gSg.typ xq287 sh284.1 lp283c3 rfl
                have t293 : tyq287 c11 = 71 := gSg.typ xq287 sh284.1 lp283c4 rfl
                have t294 : tyq287 c77 = 53 := gSg.typ xq287 sh284.1 lp283c5 rfl
                have t295 : tyq287 bv = 114 := gSg.typ xq287 sh284.1 lp283r1 rfl
                have hl296 : hq287.2.2.2.1 bv = h284.2.2.2.1 bv := gSg.len xq287 sh284.1 lp283r1 rfl
                have s297 := gSg.at xq287 sh284.1 lp283c0 rfl (by decide) lp283k0
                have s298 := gSg.at xq287 sh284.1 lp283c0 rfl (by decide) lp283k1
                have s299 := gSg.at xq287 sh284.1 lp283c0 rfl (by decide) lp283k2
                have s300 := gSg.at xq287 sh284.1 lp283c2 rfl (by decide) lp283k3
                have s301 := gSg.at xq287 sh284.1 lp283c2 rfl (by decide) lp283k4
                have s302 := gSg.at xq287 sh284.1 lp283c2 rfl (by decide) lp283k5
                have s303 := gSg.at xq287 sh284.1 lp283c0 rfl (by decide) lp283k6
                have s304 := gSg.at xq287 sh284.1 lp283c0 rfl (by decide) lp283k7
                have s305 := gSg.at xq287 sh284.1 lp283c4 rfl (by decide) lp283k8
                have s306 := gSg.at xq287 sh284.1 lp283c3 rfl (by decide) lp283k10
                have pr307 := gPC.gr xq287 sh284.1 (by decide) lp283k11
                have pr308 := gRr.gr xq287 sh284.1 (by decide) (by decide) lp283k12
                have pr309 := gRow.gr xq287 sh284.1 rfl (by decide) (by decide) lp283k13
                have pr310 := gRow.gr xq287 sh284.1 rfl (by decide) (by decide) lp283k14
                have uq311 := gSg.uq xq287 lp283u (by decide)
                have hyst312 := gSta.gr xq287 (by decide) (fun x hx => by cases hx) (gSta.fr sh284.2 (by decide) lp283t)
                have sS313 : gSs rT 1027 tyq287 [50006, 55008, 56000, 56001, 56002, 56003, 64999, 71005, 71006, 71007, 71008, 71009, 71010, 71011, 71012, 71013, 71014, 72999, 73999, 74999, 76999, 77999, 78999, 79999, 80999, 81999, 85999, 91004, 91008, 92004, 92008, 93999, 94999, 95999, 96999, 97999, 98999, 99999, 114999] hq287 hq287 := gSs.rf xq287.1
                refine gz_s 1 (pc' := 190) (L' := [some (.ref x), some (.int (zi q)), some (.int (zi i))]) (S' := [.ref x]) rfl ?_
                refine gs_gtk rfl (by decide) rfl sS313.1 t289 rfl rfl s298 ?_
                refine gz_call rfl (by decide) rfl (by decide) (by decide) (gcal_of rfl rfl rfl (Nat.le_of_ble_eq_true rfl) (gJ.recv (G := gGG) sS313.1 t291 rfl rfl)) (cl_Draft_forgetScans _ sS313.1 dr t291 uq311) (fun q314 _ wq314 => ?_)
                obtain ⟨pq314, oq314, hq314⟩ := q314
                obtain ⟨xq314, fq314_0, gq314, efq314_0, afq314_0, bfq314_0, uq314_0, yq314_0⟩ := wq314
                refine ⟨_, gq314, ?_⟩
                show gz gPP gGG gcn _ _ 196 [some (.ref x), some (.int (zi q)), some (.int (zi i))] [] hq314 _
                have sq314 : gSs rT 1027 tyq287 [50006, 55008, 56000, 56001, 56002, 56003, 64999, 71005, 71006, 71007, 71008, 71009, 71010, 71011, 71012, 71013, 71014, 72999, 73999, 74999, 76999, 77999, 78999, 79999, 80999, 81999, 85999, 91004, 91008, 92004, 92008, 93999, 94999, 95999, 96999, 97999, 98999, 99999, 114999] hq287 hq314 := gSs.tr sS313 xq314 (by decide)
                have s315 := (xq314.2.2.2.2.2 x 2 (by rw [t289]; decide)).trans s297
                have s316 := (xq314.2.2.2.2.2 x 3 (by rw [t289]; decide)).trans s298
                have s317 := (xq314.2.2.2.2.2 x 4 (by rw [t289]; decide)).trans s299
                have s318 := (xq314.2.2.2.2.2 dr 3 (by rw [t291]; decide)).trans s301
                have s319 := (xq314.2.2.2.2.2 dr 1 (by rw [t291]; decide)).trans s302
                have s320 := (xq314.2.2.2.2.2 x 6 (by rw [t289]; decide)).trans s303
                have s321 := (xq314.2.2.2.2.2 x 1 (by rw [t289]; decide)).trans s304
                have s322 := (xq314.2.2.2.2.2 c11 0 (by rw [t293]; decide)).trans s305
                have s323 := (xq314.2.2.2.2.2 sk 3 (by rw [t292]; decide)).trans s306
                have s324 := (xq314.2.2.2.2.2 sk 0 (by rw [t292]; decide)).trans ecq287_0
                have s325 := (xq314.2.2.2.2.2 sk 1 (by rw [t292]; decide)).trans efq287_0
                have pr326 := gPC.fr xq314.2 (by decide) pr307
                have pr327 := gRr.fr xq314.2 (by decide) pr308
                have pr328 := gRow.fr xq314.2 (by decide) pr309
                have pr329 := gRow.fr xq314.2 (by decide) pr310
                refine gz_s 1 (pc' := 197) (L' := [some (.ref x), some (.int (zi q)), some (.int (zi i))]) (S' := [.ref x]) rfl ?_
                refine gs_gtk rfl (by decide) rfl sq314.1 t289 rfl rfl s317 ?_
                refine gs_gtk rfl (by decide) rfl sq314.1 t292 rfl rfl s325 ?_
                have k330 := sq314.2.1
                have k330b := sq314.2.2.1
                have hl331 : hq314.2.2.2.1 bv = hq287.2.2.2.1 bv := congrFun sq314.2.2.2.2.1 bv
                have hl332 : hq314.2.2.2.1 cq287_0 = hq287.2.2.2.1 cq287_0 := congrFun sq314.2.2.2.2.1 cq287_0
                have hl333 : 1024 ≤ hq314.2.2.2.1 bv ∧ hq314.2.2.2.1 bv ≤ 1000000 := gJ.rowl (G := gGG) sq314.1 t295 rfl
                have hl334 : 1024 ≤ hq314.2.2.2.1 cq287_0 ∧ hq314.2.2.2.1 cq287_0 ≤ 1000000 := gJ.rowl (G := gGG) sq314.1 tcq287_0 rfl
                have k335 := sq314.2.1
                have k335b := sq314.2.2.1
                have hl336 : hq314.2.2.2.1 bv = hq287.2.2.2.1 bv := congrFun sq314.2.2.2.2.1 bv
                have hl337 : hq314.2.2.2.1 cq287_0 = hq287.2.2.2.1 cq287_0 := congrFun sq314.2.2.2.2.1 cq287_0
                have hix338 : gIx tyq287 x ld (hq314.2.2.2.1 cq287_0 : Int) iv hq314 := ⟨pic, b0, b1, b2, dr, sk, cq287_0, fq314_0, fq287_0, ⟨t289, t291, t292, tcq287_0⟩, ⟨s315, s316, s317, s324⟩, pr326, (by rw [(by omega : fq314_0 = 0)]; exact yq314_0), ⟨efq314_0, by omega, by omega⟩, ⟨s318, by omega, by omega⟩, ⟨s325, by omega, by omega⟩, ⟨by omega, by omega⟩, pr327, ⟨t289, Or.inr ⟨c11, s320, t293⟩⟩⟩
                have G339 : gSg [71, 72, 73, 74, 75, 76, 77, 78, 79, 80, 81, 85, 91, 92, 93, 94, 95, 96, 97, 98, 99, 114, 200] [] [50006, 55008, 56000, 56001, 56002, 56003, 64999, 71005, 71006, 71007, 71008, 71009, 71010, 71011, 71012, 71013, 71014, 72999, 73999, 74999, 76999, 77999, 78999, 79999, 80999, 81999, 85999, 91004, 91008, 92004, 92008, 93999, 94999, 95999, 96999, 97999, 98999, 99999, 114999] ty h tyq287 hq314 := gSg.ss G288 sq314 (by decide)
                exact gz_end (I := .ireturn) (len := 1) rfl (Or.inl rfl) ⟨tyq287, G339, ld, (hq314.2.2.2.1 cq287_0 : Int), iv, (by omega), (by omega), (by omega), (by omega), (by omega), (by omega), hix338, uq311, Or.inl ⟨fq287_0, rfl, (by omega), (by omega), (by omega), (by dsimp only; omega), (by dsimp only; omega), (by omega), (by omega)⟩⟩
            have hl340 : 1024 ≤ hq253.2.2.2.1 bt ∧ hq253.2.2.2.1 bt ≤ 1000000 := gJ.rowl (G := gGG) sS282.1 t262 rfl
            have hl341 : 1024 ≤ hq253.2.2.2.1 cq110_0 ∧ hq253.2.2.2.1 cq110_0 ≤ 1000000 := gJ.rowl (G := gGG) sS282.1 t266 rfl
            have hl342 : 1024 ≤ hq253.2.2.2.1 cq253_0 ∧ hq253.2.2.2.1 cq253_0 ≤ 1000000 := gJ.rowl (G := gGG) sS282.1 tcq253_0 rfl
            have G343 : gSg [71, 72, 73, 74, 75, 76, 77, 78, 79, 80, 81, 85, 91, 92, 93, 94, 95, 96, 97, 98, 99, 114, 200] [] [50006, 55008, 56000, 56001, 56002, 56003, 64999, 71005, 71006, 71007, 71008, 71009, 71010, 71011, 71012, 71013, 71014, 72999, 73999, 74999, 76999, 77999, 78999, 79999, 80999, 81999, 85999, 91004, 91008, 92004, 92008, 93999, 94999, 95999, 96999, 97999, 98999, 99999, 114999] ty h tyq253 hq253 := gSg.ss G254 sS282 (by decide)
            exact gz_wk (lp283 _ tyq253 hq253 cq253_0 0 fq253_0 fq253_1 (Nat.lt_succ_self _) G343 uq280 (gSta.fr sS282.2 (by decide) hyst281) t255 t256 t260 t261 t264 t265 ecq253_0 tcq253_0 ⟨by omega, by omega⟩ ⟨by omega, by omega⟩ ⟨by omega, by omega⟩ (by omega) (by omega) (by omega) (by omega) (by omega) (by omega) s268 s269 s270 s271 s272 s273 s274 s275 s276 efq253_0 efq253_1 pr277 pr279 rf rt) (gLw.s (gLw.s (gLw.s gLw.z)))
        · skip
          refine gz_s 2 (pc' := 65) (L' := [some (.ref x), some (.int (zi q)), none]) (S' := [.ref x]) rfl ?_
          refine gs_gtk rfl (by decide) rfl hS.1 tx rfl rfl ec8 ?_
          refine gz_s 1 (pc' := 69) (L' := [some (.ref x), some (.int (zi q)), none]) (S' := [.ref x, .ref c8]) rfl ?_
          refine gs_gtr rfl (by decide) rfl hS.1 tx rfl rfl rfl (fun c344 ec344 tc344 => ?_)
          refine gz_s 1 (pc' := 73) (L' := [some (.ref x), some (.int (zi q)), none]) (S' := [.int (zi q), .ref c344, .ref c8]) rfl ?_
          refine gz_call rfl (by decide) rfl (by decide) (by decide) (gcal_of rfl rfl rfl (Nat.le_of_ble_eq_true rfl) (gJ.recv (G := gGG) hS.1 tc8 rfl rfl)) (cl_Writer_makeTable _ hS.1 c8 tc8 c344 tc344 q ⟨by omega, by omega⟩ uq) (fun q345 _ wq345 => ?_)
          obtain ⟨pq345, oq345, hq345⟩ := q345
          obtain ⟨xq345, gq345⟩ := wq345
          refine ⟨_, gq345, ?_⟩
          show gz gPP gGG gcn _ _ 76 [some (.ref x), some (.int (zi q)), none] [] hq345 _
          have sq345 : gSs rT 1027 ty [50006, 55008, 56000, 56001, 56002, 56003, 64999, 71005, 71006, 71007, 71008, 71009, 71010, 71011, 71012, 71013, 71014, 72999, 73999, 74999, 76999, 77999, 78999, 79999, 80999, 81999, 85999, 91004, 91008, 92004, 92008, 93999, 94999, 95999, 96999, 97999, 98999, 99999, 114999] h hq345 := gSs.tr hS xq345 (by decide)
          have s346 := (xq345.2.2.2.2.2 x 2 (by rw [tx]; decide)).trans ex2
          have s347 := (xq345.2.2.2.2.2 x 3 (by rw [tx]; decide)).trans ex3
          have s348 := (xq345.2.2.2.2.2 x 4 (by rw [tx]; decide)).trans ex4
          have s349 := (xq345.2.2.2.2.2 sk 0 (by rw [tsk]; decide)).trans ex0
          have s350 := (xq345.2.2.2.2.2 dr 8 (by rw [tdr]; decide)).trans en0
          have s351 := (xq345.2.2.2.2.2 dr 3 (by rw [tdr]; decide)).trans eiv
          have s352 := (xq345.2.2.2.2.2 sk 1 (by rw [tsk]; decide)).trans ec0
          have s353 := (xq345.2.2.2.2.2 dr 1 (by rw [tdr]; decide)).trans ez6
          have s354 := (xq345.2.2.2.2.2 x 6 (by rw [tx]; decide)).trans ec8
          have s355 := (xq345.2.2.2.2.2 x 1 (by rw [tx]; decide)).trans ec344
          have pr356 := gPC.fr xq345.2 (by decide) hpc
          have pr357 := gTc.fr xq345.2 (by decide) htc
          have pr358 := gRr.fr xq345.2 (by decide) hrr
          have pr359 := gRw.fr xq345.2 (by decide) hrw
          refine gz_s 1 (pc' := 77) (L' := [some (.ref x), some (.int (zi q)), none]) (S' := [.ref x]) rfl ?_
          refine gs_gtk rfl (by decide) rfl sq345.1 tx rfl rfl s354 ?_
          refine gz_s 1 (pc' := 81) (L' := [some (.ref x), some (.int (zi q)), none]) (S' := [.ref x, .ref c8]) rfl ?_
          refine gs_gtk rfl (by decide) rfl sq345.1 tx rfl rfl s347 ?_
          refine gz_call rfl (by decide) rfl (by decide) (by decide) (gcal_of rfl rfl rfl (Nat.le_of_ble_eq_true rfl) (gJ.recv (G := gGG) sq345.1 tc8 rfl rfl)) (cl_Writer_transformCanvas _ sq345.1 c8 tc8 dr tdr (gSta.fr sq345.2 (by decide) hyst) uq) (fun q360 _ wq360 => ?_)
          obtain ⟨pq360, oq360, hq360⟩ := q360
          obtain ⟨xq360, gq360⟩ := wq360
          refine ⟨_, gq360, ?_⟩
          show gz gPP gGG gcn _ _ 87 [some (.ref x), some (.int (zi q)), none] [] hq360 _
          have sq360 : gSs rT 1027 ty [50006, 55008, 56000, 56001, 56002, 56003, 64999, 71005, 71006, 71007, 71008, 71009, 71010, 71011, 71012, 71013, 71014, 72999, 73999, 74999, 76999, 77999, 78999, 79999, 80999, 81999, 85999, 91004, 91008, 92004, 92008, 93999, 94999, 95999, 96999, 97999, 98999, 99999, 114999] h hq360 := gSs.tr sq345 xq360 (by decide)
          have s361 := (xq360.2.2.2.2.2 x 2 (by rw [tx]; decide)).trans s346
          have s362 := (xq360.2.2.2.2.2 x 3 (by rw [tx]; decide)).trans s347
          have s363 := (xq360.2.2.2.2.2 x 4 (by rw [tx]; decide)).trans s348
          have s364 := (xq360.2.2.2.2.2 sk 0 (by rw [tsk]; decide)).trans s349
          have s365 := (xq360.2.2.2.2.2 dr 8 (by rw [tdr]; decide)).trans s350
          have s366 := (xq360.2.2.2.2.2 dr 3 (by rw [tdr]; decide)).trans s351
          have s367 := (xq360.2.2.2.2.2 sk 1 (by rw [tsk]; decide)).trans s352
          have s368 := (xq360.2.2.2.2.2 dr 1 (by rw [tdr]; decide)).trans s353
          have s369 := (xq360.2.2.2.2.2 x 6 (by rw [tx]; decide)).trans s354
          have s370 := (xq360.2.2.2.2.2 x 1 (by rw [tx]; decide)).trans s355
          have pr371 := gPC.fr xq360.2 (by decide) pr356
          have pr372 := gTc.fr xq360.2 (by decide) pr357
          have pr373 := gRr.fr xq360.2 (by decide) pr358
          have pr374 := gRw.fr xq360.2 (by decide) pr359
          refine gz_s 1 (pc' := 88) (L' := [some (.ref x), some (.int (zi q)), none]) (S' := [.ref x]) rfl ?_
          refine gs_gtk rfl (by decide) rfl sq360.1 tx rfl rfl s369 ?_
          refine gz_s 1 (pc' := 92) (L' := [some (.ref x), some (.int (zi q)), none]) (S' := [.ref x, .ref c8]) rfl ?_
          refine gs_gtk rfl (by decide) rfl sq360.1 tx rfl rfl s362 ?_
          have k375 := sq360.2.1
          have k375b := sq360.2.2.1
          have hl376 : hq360.2.2.2.1 bt = h.2.2.2.1 bt := congrFun sq360.2.2.2.2.1 bt
          obtain ⟨c377, ec377, tc377⟩ := gJ.ref (k := 0) (G := gGG) sq360.1 tc8 rfl rfl rfl
          have ee378 : sk = c377 := uq sk c377 (tsk.trans tc377.symm) (by rw [tsk]; decide) (by rw [tsk]; decide)
          subst ee378
          refine gz_call rfl (by decide) rfl (by decide) (by decide) (gcal_of rfl rfl rfl (Nat.le_of_ble_eq_true rfl) (gJ.recv (G := gGG) sq360.1 tc8 rfl rfl)) (cl_Writer_putHead _ sq360.1 c8 tc8 dr tdr sk ec377 tsk bt s364 tbt uq) (fun q379 _ wq379 => ?_)
          obtain ⟨pq379, oq379, hq379⟩ := q379
          obtain ⟨tyq379, xq379, cq379_0, ttq379, fq379_0, fq379_1, ecq379_0, tcq379_0, gq379, efq379_0, afq379_0, bfq379_0, efq379_1, afq379_1, bfq379_1, uq379_0, uq379_1, uq379_2, uq379_3, uq379_4, uq379_5⟩ := wq379
          dsimp only at uq379_2 uq379_3 uq379_4 uq379_5
          refine ⟨_, gq379, ?_⟩
          show gz gPP gGG gcn _ _ 98 [some (.ref x), some (.int (zi q)), none] [] hq379 _
          have G380 : gSg [71, 72, 73, 74, 75, 76, 77, 78, 79, 80, 81, 85, 91, 92, 93, 94, 95, 96, 97, 98, 99, 114, 200] [] [50006, 55008, 56000, 56001, 56002, 56003, 64999, 71005, 71006, 71007, 71008, 71009, 71010, 71011, 71012, 71013, 71014, 72999, 73999, 74999, 76999, 77999, 78999, 79999, 80999, 81999, 85999, 91004, 91008, 92004, 92008, 93999, 94999, 95999, 96999, 97999, 98999, 99999, 114999] ty h tyq379 hq379 := gSg.tr (gSg.ss G0 sq360 (by decide)) xq379 (by decide) (by decide) (fun x hx => by cases hx)
          have t381 : tyq379 x = 50 := gSg.typ xq379 sq360.1 tx rfl
          have t382 : tyq379 pic = 54 := gSg.typ xq379 sq360.1 tpic rfl
          have t383 : tyq379 b0 = 82 := gSg.typ xq379 sq360.1 tb0 rfl
          have t384 : tyq379 b1 = 83 := gSg.typ xq379 sq360.1 tb1 rfl
          have t385 : tyq379 b2 = 84 := gSg.typ xq379 sq360.1 tb2 rfl
          have t386 : tyq379 dr = 55 := gSg.typ xq379 sq360.1 tdr rfl
          have t387 : tyq379 sk = 56 := gSg.typ xq379 sq360.1 tsk rfl
          have t388 : tyq379 bt = 114 := gSg.typ xq379 sq360.1 tbt rfl
          have hl389 : hq379.2.2.2.1 bt = hq360.2.2.2.1 bt := gSg.len xq379 sq360.1 tbt rfl
          have t390 : tyq379 c8 = 71 := gSg.typ xq379 sq360.1 tc8 rfl
          have t391 : tyq379 c344 = 53 := gSg.typ xq379 sq360.1 tc344 rfl
          have s392 := gSg.at xq379 sq360.1 tx rfl (by decide) s361
          have s393 := gSg.at xq379 sq360.1 tx rfl (by decide) s362
          have s394 := gSg.at xq379 sq360.1 tx rfl (by decide) s363
          have s395 := gSg.at xq379 sq360.1 tdr rfl (by decide) s365
          have s396 := gSg.at xq379 sq360.1 tdr rfl (by decide) s366
          have s397 := gSg.at xq379 sq360.1 tdr rfl (by decide) s368
          have s398 := gSg.at xq379 sq360.1 tx rfl (by decide) s369
          have s399 := gSg.at xq379 sq360.1 tx rfl (by decide) s370
          have s400 := gSg.at xq379 sq360.1 tc8 rfl (by decide) ec377
          have pr401 := gPC.gr xq379 sq360.1 (by decide) pr371
          have pr402 := gTc.gr xq379 sq360.1 (by decide) (by decide) pr372
          have pr403 := gRr.gr xq379 sq360.1 (by decide) (by decide) pr373
          have pr404 := gRw.gr xq379 sq360.1 (by decide) (by decide) pr374
          have uq405 := gSg.uq xq379 uq (by decide)
          have hyst406 := gSta.gr xq379 (by decide) (fun x hx => by cases hx) (gSta.fr sq360.2 (by decide) hyst)
          have sS407 : gSs rT 1027 tyq379 [50006, 55008, 56000, 56001, 56002, 56003, 64999, 71005, 71006, 71007, 71008, 71009, 71010, 71011, 71012, 71013, 71014, 72999, 73999, 74999, 76999, 77999, 78999, 79999, 80999, 81999, 85999, 91004, 91008, 92004, 92008, 93999, 94999, 95999, 96999, 97999, 98999, 99999, 114999] hq379 hq379 := gSs.rf xq379.1
          refine gz_s 1 (pc' := 99) (L' := [some (.ref x), some (.int (zi q)), none]) (S' := [.ref x]) rfl ?_
          refine gs_gtk rfl (by decide) rfl sS407.1 t381 rfl rfl s393 ?_
          refine gs_gtk rfl (by decide) rfl sS407.1 t386 rfl rfl s395 ?_
          by_cases hc408 : ¬ (n0 : Int) = 0
          · refine gy_ifT (pc' := 120) rfl (by decide) (by decide) (by omega) hc408 ?_
            obtain ⟨tf, tt, cf, rf, rt, rc, tle, tsm⟩ := pr402
            have hg0 := gsf_nn (f := fun j => gcr (cf j)) (fun j => by unfold gcr; split <;> omega) 64
            have hgl0 : gTl tf tt 0 = 0 := rfl
            refine gz_s 2 (pc' := 122) (L' := [some (.ref x), some (.int (zi q)), some (.int (zi 0))]) (S' := []) rfl ?_
            have lp409 : ∀ (fu : Nat) (ty411 : Nat → Nat) (h410 : gH) (bv : Nat) (i : Int) (cv : Int) (hv : Int), (11 - i).toNat < fu → gSg [71, 72, 73, 74, 75, 76, 77, 78, 79, 80, 81, 85, 91, 92, 93, 94, 95, 96, 97, 98, 99, 114, 200] [] [50006, 55008, 56000, 56001, 56002, 56003, 64999, 71005, 71006, 71007, 71008, 71009, 71010, 71011, 71012, 71013, 71014, 72999, 73999, 74999, 76999, 77999, 78999, 79999, 80999, 81999, 85999, 91004, 91008, 92004, 92008, 93999, 94999, 95999, 96999, 97999, 98999, 99999, 114999] ty h ty411 h410 → gUq ty411 → gSta ty411 h410 → ty411 x = 50 → ty411 pic = 54 → ty411 dr = 55 → ty411 sk = 56 → ty411 c8 = 71 → ty411 c344 = 53 → h410.2.2.2.2 sk 0 = .ref bv → ty411 bv = 114 → (0 ≤ i ∧ i ≤ 10) → (0 ≤ cv ∧ cv ≤ 499999) → (0 ≤ hv ∧ hv ≤ 7) → ((n0 = 0 ∧ 4 * cv + hv ≤ 336000) ∨ 4 * cv + hv ≤ 400 + 7876 * i + 5120 * gTl tf tt i) → (i ≤ n0) → (cv ≤ (h410.2.2.2.1 bv : Int)) → (1024 * (((h410.1 : Int) - h.1) - 21) ≤ (h410.2.2.2.1 bv : Int) - lb) → (((h410.2.1 : Int) - h.2.1) ≤ 4303 + 2 * ((h410.2.2.2.1 bv : Int) - lb)) → (lb ≤ (h410.2.2.2.1 bv : Int)) → h410.2.2.2.2 x 2 = .ref pic → h410.2.2.2.2 x 3 = .ref dr → h410.2.2.2.2 x 4 = .ref sk → h410.2.2.2.2 dr 8 = .int (zi n0) → h410.2.2.2.2 dr 3 = .int (zi iv) → h410.2.2.2.2 dr 1 = .int (zi z6) → h410.2.2.2.2 x 6 = .ref c8 → h410.2.2.2.2 x 1 = .ref c344 → h410.2.2.2.2 c8 0 = .ref sk → h410.2.2.2.2 sk 1 = .int (zi cv) → h410.2.2.2.2 sk 3 = .int (zi hv) → gPC ty411 pic b0 b1 b2 ld h410 → gRr ty411 x h410 → gRow ty411 60 tf h410 → gRow ty411 61 tt h410 → gz gPP gGG gcn (d + 8) gt89 122 [some (.ref x), some (.int (zi q)), some (.int (zi i))] [] h410 (fun q _ => ∃ ty9 : Nat → Nat, gSg [71, 72, 73, 74, 75, 76, 77, 78, 79, 80, 81, 85, 91, 92, 93, 94, 95, 96, 97, 98, 99, 114, 200] [] [50006, 55008, 56000, 56001, 56002, 56003, 64999, 71005, 71006, 71007, 71008, 71009, 71010, 71011, 71012, 71013, 71014, 72999, 73999, 74999, 76999, 77999, 78999, 79999, 80999, 81999, 85999, 91004, 91008, 92004, 92008, 93999, 94999, 95999, 96999, 97999, 98999, 99999, 114999] ty h ty9 q.2.2 ∧ ∃ ld1 lb1 iv1 : Int, 0 ≤ ld1 ∧ ld1 ≤ 192 ∧ 1024 ≤ lb1 ∧ lb1 ≤ 1000000 ∧ 0 ≤ iv1 ∧ iv1 ≤ 100 ∧ (gIx ty9 x ld1 lb1 iv1 q.2.2) ∧ gUq ty9 ∧ ((∃ z : Int, gfin gt89 q.1 q.2.1 = some (some (.int (zi z))) ∧ (-2147483648) ≤ z ∧ z ≤ 2147483647 ∧ (iv1 = iv) ∧ (1024 * (((q.2.2.1 : Int) - h.1) - 31 - 2 * (ld1 - ld)) ≤ lb1 - lb) ∧ (((q.2.2.2.1 : Int) - h.2.1) ≤ 4303 + 12480 * (ld1 - ld) + 2 * (lb1 - lb)) ∧ (ld ≤ ld1) ∧ (lb ≤ lb1)) ∨ (q.2.1 = [] ∧ ((q.1 = 11) ∨ (q.1 = 32)) ∧ (iv1 = iv) ∧ (1024 * (((q.2.2.1 : Int) - h.1) - 31 - 2 * (ld1 - ld)) ≤ lb1 - lb) ∧ (((q.2.2.2.1 : Int) - h.2.1) ≤ 4303 + 12480 * (ld1 - ld) + 2 * (lb1 - lb)) ∧ (ld ≤ ld1) ∧ (lb ≤ lb1)))) := by
              intro fu
              induction fu with
              | zero => intro ty411 h410 bv i cv hv hm; exact absurd hm (Nat.not_lt_zero _)
              | succ fu ihlp409 =>
                intro ty411 h410 bv i cv hv lp409m lp409G lp409u lp409t lp409c0 lp409c1 lp409c2 lp409c3 lp409c4 lp409c5 lp409r0 lp409r1 lp409f0 lp409f1 lp409f2 lp409f3 lp409f4 lp409f5 lp409f6 lp409f7 lp409f8 lp409k0 lp409k1 lp409k2 lp409k3 lp409k4 lp409k5 lp409k6 lp409k7 lp409k8 lp409k9 lp409k10 lp409k11 lp409k12 lp409k13 lp409k14
                have sh410 : gSs rT 1027 ty411 [50006, 55008, 56000, 56001, 56002, 56003, 64999, 71005, 71006, 71007, 71008, 71009, 71010, 71011, 71012, 71013, 71014, 72999, 73999, 74999, 76999, 77999, 78999, 79999, 80999, 81999, 85999, 91004, 91008, 92004, 92008, 93999, 94999, 95999, 96999, 97999, 98999, 99999, 114999] h410 h410 := gSs.rf lp409G.1
                refine gz_s 2 (pc' := 124) (L' := [some (.ref x), some (.int (zi q)), some (.int (zi i))]) (S' := [.ref x, .int (zi i)]) rfl ?_
                refine gs_gtk rfl (by decide) rfl sh410.1 lp409c0 rfl rfl lp409k1 ?_
                refine gs_gtk rfl (by decide) rfl sh410.1 lp409c2 rfl rfl lp409k3 ?_
                by_cases hc412 : (n0 : Int) ≤ i
                · refine gy_icT (pc' := 182) rfl (by decide) (by decide) (by omega) (by omega) hc412 ?_
                  have hgl9 : gTl tf tt i = gTl tf tt n0 := by rw [show i = n0 from Int.le_antisymm (by omega) (by omega)]
                  refine gz_s 1 (pc' := 183) (L' := [some (.ref x), some (.int (zi q)), some (.int (zi i))]) (S' := [.ref x]) rfl ?_
                  refine gs_gtk rfl (by decide) rfl sh410.1 lp409c0 rfl rfl lp409k6 ?_
                  have hl413 : h410.2.2.2.1 bv = h410.2.2.2.1 bv := congrFun sh410.2.2.2.2.1 bv
                  refine gz_call rfl (by decide) rfl (by decide) (by decide) (gcal_of rfl rfl rfl (Nat.le_of_ble_eq_true rfl) (gJ.recv (G := gGG) sh410.1 lp409c4 rfl rfl)) (cl_Writer_putEnd _ sh410.1 c8 lp409c4 sk lp409k8 lp409c3 bv lp409r0 lp409r1 cv lp409k9 ⟨by omega, by omega⟩ (by omega) lp409u) (fun q414 _ wq414 => ?_)
                  obtain ⟨pq414, oq414, hq414⟩ := q414
                  obtain ⟨tyq414, xq414, cq414_0, ttq414, fq414_0, ecq414_0, tcq414_0, gq414, efq414_0, afq414_0, bfq414_0, uq414_0, uq414_1, uq414_2, uq414_3, uq414_4⟩ := wq414
                  dsimp only at uq414_1 uq414_2 uq414_3 uq414_4
                  refine ⟨_, gq414, ?_⟩
                  show gz gPP gGG gcn _ _ 189 [some (.ref x), some (.int (zi q)), some (.int (zi i))] [] hq414 _
                  have G415 : gSg [71, 72, 73, 74, 75, 76, 77, 78, 79, 80, 81, 85, 91, 92, 93, 94, 95, 96, 97, 98, 99, 114, 200] [] [50006, 55008, 56000, 56001, 56002, 56003, 64999, 71005, 71006, 71007, 71008, 71009, 71010, 71011, 71012, 71013, 71014, 72999, 73999, 74999, 76999, 77999, 78999, 79999, 80999, 81999, 85999, 91004, 91008, 92004, 92008, 93999, 94999, 95999, 96999, 97999, 98999, 99999, 114999] ty h tyq414 hq414 := gSg.tr (gSg.ss lp409G sh410 (by decide)) xq414 (by decide) (by decide) (fun x hx => by cases hx)
                  have t416 : tyq414 x = 50 := gSg.typ xq414 sh410.1 lp409c0 rfl
                  have t417 : tyq414 pic = 54 := gSg.typ xq414 sh410.1 lp409c1 rfl
                  have t418 : tyq414 dr = 55 := gSg.typ xq414 sh410.1 lp409c2 rfl
                  have t419 : tyq414 sk = 56 := gSg.typ xq414 sh410.1 lp409c3 rfl
                  have t420 : tyq414 c8 = 71 := gSg.typ xq414 sh410.1 lp409c4 rfl
                  have t421 : tyq414 c344 = 53 := gSg.typ xq414 sh410.1 lp409c5 rfl
                  have t422 : tyq414 bv = 114 := gSg.typ xq414 sh410.1 lp409r1 rfl
                  have hl423 : hq414.2.2.2.1 bv = h410.2.2.2.1 bv := gSg.len xq414 sh410.1 lp409r1 rfl
                  have s424 := gSg.at xq414 sh410.1 lp409c0 rfl (by decide) lp409k0
                  have s425 := gSg.at xq414 sh410.1 lp409c0 rfl (by decide) lp409k1
                  have s426 := gSg.at xq414 sh410.1 lp409c0 rfl (by decide) lp409k2
                  have s427 := gSg.at xq414 sh410.1 lp409c2 rfl (by decide) lp409k3
                  have s428 := gSg.at xq414 sh410.1 lp409c2 rfl (by decide) lp409k4
                  have s429 := gSg.at xq414 sh410.1 lp409c2 rfl (by decide) lp409k5
                  have s430 := gSg.at xq414 sh410.1 lp409c0 rfl (by decide) lp409k6
                  have s431 := gSg.at xq414 sh410.1 lp409c0 rfl (by decide) lp409k7
                  have s432 := gSg.at xq414 sh410.1 lp409c4 rfl (by decide) lp409k8
                  have s433 := gSg.at xq414 sh410.1 lp409c3 rfl (by decide) lp409k10
                  have pr434 := gPC.gr xq414 sh410.1 (by decide) lp409k11
                  have pr435 := gRr.gr xq414 sh410.1 (by decide) (by decide) lp409k12
                  have pr436 := gRow.gr xq414 sh410.1 rfl (by decide) (by decide) lp409k13
                  have pr437 := gRow.gr xq414 sh410.1 rfl (by decide) (by decide) lp409k14
                  have uq438 := gSg.uq xq414 lp409u (by decide)
                  have hyst439 := gSta.gr xq414 (by decide) (fun x hx => by cases hx) (gSta.fr sh410.2 (by decide) lp409t)
                  have sS440 : gSs rT 1027 tyq414 [50006, 55008, 56000, 56001, 56002, 56003, 64999, 71005, 71006, 71007, 71008, 71009, 71010, 71011, 71012, 71013, 71014, 72999, 73999, 74999, 76999, 77999, 78999, 79999, 80999, 81999, 85999, 91004, 91008, 92004, 92008, 93999, 94999, 95999, 96999, 97999, 98999, 99999, 114999] hq414 hq414 := gSs.rf xq414.1
                  refine gz_s 1 (pc' := 190) (L' := [some (.ref x), some (.int (zi q)), some (.int (zi i))]) (S' := [.ref x]) rfl ?_
                  refine gs_gtk rfl (by decide) rfl sS440.1 t416 rfl rfl s425 ?_
                  refine gz_call rfl (by decide) rfl (by decide) (by decide) (gcal_of rfl rfl rfl (Nat.le_of_ble_eq_true rfl) (gJ.recv (G := gGG) sS440.1 t418 rfl rfl)) (cl_Draft_forgetScans _ sS440.1 dr t418 uq438) (fun q441 _ wq441 => ?_)
                  obtain ⟨pq441, oq441, hq441⟩ := q441
                  obtain ⟨xq441, fq441_0, gq441, efq441_0, afq441_0, bfq441_0, uq441_0, yq441_0⟩ := wq441
                  refine ⟨_, gq441, ?_⟩
                  show gz gPP gGG gcn _ _ 196 [some (.ref x), some (.int (zi q)), some (.int (zi i))] [] hq441 _
                  have sq441 : gSs rT 1027 tyq414 [50006, 55008, 56000, 56001, 56002, 56003, 64999, 71005, 71006, 71007, 71008, 71009, 71010, 71011, 71012, 71013, 71014, 72999, 73999, 74999, 76999, 77999, 78999, 79999, 80999, 81999, 85999, 91004, 91008, 92004, 92008, 93999, 94999, 95999, 96999, 97999, 98999, 99999, 114999] hq414 hq441 := gSs.tr sS440 xq441 (by decide)
                  have s442 := (xq441.2.2.2.2.2 x 2 (by rw [t416]; decide)).trans s424
                  have s443 := (xq441.2.2.2.2.2 x 3 (by rw [t416]; decide)).trans s425
                  have s444 := (xq441.2.2.2.2.2 x 4 (by rw [t416]; decide)).trans s426
                  have s445 := (xq441.2.2.2.2.2 dr 3 (by rw [t418]; decide)).trans s428
                  have s446 := (xq441.2.2.2.2.2 dr 1 (by rw [t418]; decide)).trans s429
                  have s447 := (xq441.2.2.2.2.2 x 6 (by rw [t416]; decide)).trans s430
                  have s448 := (xq441.2.2.2.2.2 x 1 (by rw [t416]; decide)).trans s431
                  have s449 := (xq441.2.2.2.2.2 c8 0 (by rw [t420]; decide)).trans s432
                  have s450 := (xq441.2.2.2.2.2 sk 3 (by rw [t419]; decide)).trans s433
                  have s451 := (xq441.2.2.2.2.2 sk 0 (by rw [t419]; decide)).trans ecq414_0
                  have s452 := (xq441.2.2.2.2.2 sk 1 (by rw [t419]; decide)).trans efq414_0
                  have pr453 := gPC.fr xq441.2 (by decide) pr434
                  have pr454 := gRr.fr xq441.2 (by decide) pr435
                  have pr455 := gRow.fr xq441.2 (by decide) pr436
                  have pr456 := gRow.fr xq441.2 (by decide) pr437
                  refine gz_s 1 (pc' := 197) (L' := [some (.ref x), some (.int (zi q)), some (.int (zi i))]) (S' := [.ref x]) rfl ?_
                  refine gs_gtk rfl (by decide) rfl sq441.1 t416 rfl rfl s444 ?_
                  refine gs_gtk rfl (by decide) rfl sq441.1 t419 rfl rfl s452 ?_
                  have k457 := sq441.2.1
                  have k457b := sq441.2.2.1
                  have hl458 : hq441.2.2.2.1 bv = hq414.2.2.2.1 bv := congrFun sq441.2.2.2.2.1 bv
                  have hl459 : hq441.2.2.2.1 cq414_0 = hq414.2.2.2.1 cq414_0 := congrFun sq441.2.2.2.2.1 cq414_0
                  have hl460 : 1024 ≤ hq441.2.2.2.1 bv ∧ hq441.2.2.2.1 bv ≤ 1000000 := gJ.rowl (G := gGG) sq441.1 t422 rfl
                  have hl461 : 1024 ≤ hq441.2.2.2.1 cq414_0 ∧ hq441.2.2.2.1 cq414_0 ≤ 1000000 := gJ.rowl (G := gGG) sq441.1 tcq414_0 rfl
                  have k462 := sq441.2.1
                  have k462b := sq441.2.2.1
                  have hl463 : hq441.2.2.2.1 bv = hq414.2.2.2.1 bv := congrFun sq441.2.2.2.2.1 bv
                  have hl464 : hq441.2.2.2.1 cq414_0 = hq414.2.2.2.1 cq414_0 := congrFun sq441.2.2.2.2.1 cq414_0
                  have hix465 : gIx tyq414 x ld (hq441.2.2.2.1 cq414_0 : Int) iv hq441 := ⟨pic, b0, b1, b2, dr, sk, cq414_0, fq441_0, fq414_0, ⟨t416, t418, t419, tcq414_0⟩, ⟨s442, s443, s444, s451⟩, pr453, (by rw [(by omega : fq441_0 = 0)]; exact yq441_0), ⟨efq441_0, by omega, by omega⟩, ⟨s445, by omega, by omega⟩, ⟨s452, by omega, by omega⟩, ⟨by omega, by omega⟩, pr454, ⟨t416, Or.inr ⟨c8, s447, t420⟩⟩⟩
                  have G466 : gSg [71, 72, 73, 74, 75, 76, 77, 78, 79, 80, 81, 85, 91, 92, 93, 94, 95, 96, 97, 98, 99, 114, 200] [] [50006, 55008, 56000, 56001, 56002, 56003, 64999, 71005, 71006, 71007, 71008, 71009, 71010, 71011, 71012, 71013, 71014, 72999, 73999, 74999, 76999, 77999, 78999, 79999, 80999, 81999, 85999, 91004, 91008, 92004, 92008, 93999, 94999, 95999, 96999, 97999, 98999, 99999, 114999] ty h tyq414 hq441 := gSg.ss G415 sq441 (by decide)
                  exact gz_end (I := .ireturn) (len := 1) rfl (Or.inl rfl) ⟨tyq414, G466, ld, (hq441.2.2.2.1 cq414_0 : Int), iv, (by omega), (by omega), (by omega), (by omega), (by omega), (by omega), hix465, uq438, Or.inl ⟨fq414_0, rfl, (by omega), (by omega), (by omega), (by dsimp only; omega), (by dsimp only; omega), (by omega), (by omega)⟩⟩
                · refine gy_icF rfl (by decide) (by decide) (by omega) (by omega) hc412 ?_
                  refine gz_s 1 (pc' := 134) (L' := [some (.ref x), some (.int (zi q)), some (.int (zi i))]) (S' := [.ref x]) rfl ?_
                  refine gs_gtk rfl (by decide) rfl sh410.1 lp409c0 rfl rfl lp409k6 ?_
                  refine gz_s 1 (pc' := 138) (L' := [some (.ref x), some (.int (zi q)), some (.int (zi i))]) (S' := [.ref x, .ref c8]) rfl ?_
                  refine gs_gtk rfl (by decide) rfl sh410.1 lp409c0 rfl rfl lp409k1 ?_
                  refine gs_gtr rfl (by decide) rfl sh410.1 lp409c2 rfl rfl rfl (fun c467 ec467 tc467 => ?_)
                  refine gz_s 1 (pc' := 145) (L' := [some (.ref x), some (.int (zi q)), some (.int (zi i))]) (S' := [.int (zi i), .ref c467, .ref c8]) rfl ?_
                  have hl468 : 10 ≤ h410.2.2.2.1 c467 ∧ h410.2.2.2.1 c467 ≤ 10 := gJ.rowl (G := gGG) sh410.1 tc467 rfl
                  refine gs_ald rfl (by decide) sh410.1 tc467 rfl rfl rfl (by decide) (fun _ => rfl) (by omega) (by omega) (fun z469 ez469 az469 bz469 => ?_)
                  have hf470 := gRow.at (i := i) (z := z469) lp409k13 tc467 ez469 (by omega) (by omega) (by omega)
                  refine gz_s 1 (pc' := 147) (L' := [some (.ref x), some (.int (zi q)), some (.int (zi i))]) (S' := [.ref x, .int (zi z469), .ref c8]) rfl ?_
                  refine gs_gtk rfl (by decide) rfl sh410.1 lp409c0 rfl rfl lp409k1 ?_
                  refine gs_gtr rfl (by decide) rfl sh410.1 lp409c2 rfl rfl rfl (fun c471 ec471 tc471 => ?_)
                  refine gz_s 1 (pc' := 154) (L' := [some (.ref x), some (.int (zi q)), some (.int (zi i))]) (S' := [.int (zi i), .ref c471, .int (zi z469), .ref c8]) rfl ?_
                  have hl472 : 10 ≤ h410.2.2.2.1 c471 ∧ h410.2.2.2.1 c471 ≤ 10 := gJ.rowl (G := gGG) sh410.1 tc471 rfl
                  refine gs_ald rfl (by decide) sh410.1 tc471 rfl rfl rfl (by decide) (fun _ => rfl) (by omega) (by omega) (fun z473 ez473 az473 bz473 => ?_)
                  have hf474 := gRow.at (i := i) (z := z473) lp409k14 tc471 ez473 (by omega) (by omega) (by omega)
                  refine gz_s 1 (pc' := 156) (L' := [some (.ref x), some (.int (zi q)), some (.int (zi i))]) (S' := [.ref x, .int (zi z473), .int (zi z469), .ref c8]) rfl ?_
                  refine gs_gtk rfl (by decide) rfl sh410.1 lp409c0 rfl rfl lp409k1 ?_
                  refine gs_gtr rfl (by decide) rfl sh410.1 lp409c2 rfl rfl rfl (fun c475 ec475 tc475 => ?_)
                  refine gz_s 1 (pc' := 163) (L' := [some (.ref x), some (.int (zi q)), some (.int (zi i))]) (S' := [.int (zi i), .ref c475, .int (zi z473), .int (zi z469), .ref c8]) rfl ?_
                  have hl476 : 10 ≤ h410.2.2.2.1 c475 ∧ h410.2.2.2.1 c475 ≤ 10 := gJ.rowl (G := gGG) sh410.1 tc475 rfl
                  refine gs_ald rfl (by decide) sh410.1 tc475 rfl rfl rfl (by decide) (fun _ => rfl) (by omega) (by omega) (fun z477 ez477 az477 bz477 => ?_)
                  refine gz_s 1 (pc' := 165) (L' := [some (.ref x), some (.int (zi q)), some (.int (zi i))]) (S' := [.ref x, .int (zi z477), .int (zi z473), .int (zi z469), .ref c8]) rfl ?_
                  refine gs_gtk rfl (by decide) rfl sh410.1 lp409c0 rfl rfl lp409k1 ?_
                  refine gs_gtr rfl (by decide) rfl sh410.1 lp409c2 rfl rfl rfl (fun c478 ec478 tc478 => ?_)
                  refine gz_s 1 (pc' := 172) (L' := [some (.ref x), some (.int (zi q)), some (.int (zi i))]) (S' := [.int (zi i), .ref c478, .int (zi z477), .int (zi z473), .int (zi z469), .ref c8]) rfl ?_
                  have hl479 : 10 ≤ h410.2.2.2.1 c478 ∧ h410.2.2.2.1 c478 ≤ 10 := gJ.rowl (G := gGG) sh410.1 tc478 rfl
                  refine gs_ald rfl (by decide) sh410.1 tc478 rfl rfl rfl (by decide) (fun _ => rfl) (by omega) (by omega) (fun z480 ez480 az480 bz480 => ?_)
                  have htl := tle (i).toNat (by omega)
                  have hst := gTl_st (f := tf) (t := tt) (k := i) (a := z469) (b := z473) (by omega) hf470 hf474
                  have hle := gTl_le (f := tf) (t := tt) (k := i + 1) (n := n0) tle (by omega)
                  have hl481 : h410.2.2.2.1 bv = h410.2.2.2.1 bv := congrFun sh410.2.2.2.2.1 bv
                  refine gz_call rfl (by decide) rfl (by decide) (by decide) (gcal_of rfl rfl rfl (Nat.le_of_ble_eq_true rfl) (gJ.recv (G := gGG) sh410.1 lp409c4 rfl rfl)) (cl_Writer_putScan _ sh410.1 c8 lp409c4 z469 ⟨by omega, by omega⟩ z473 ⟨by omega, by omega⟩ z477 ⟨by omega, by omega⟩ z480 ⟨by omega, by omega⟩ sk lp409k8 lp409c3 bv lp409r0 lp409r1 cv lp409k9 ⟨by omega, by omega⟩ hv lp409k10 ⟨by omega, by omega⟩ (by omega) (by omega) (by omega) lp409u) (fun q482 _ wq482 => ?_)
                  obtain ⟨pq482, oq482, hq482⟩ := q482
                  obtain ⟨tyq482, xq482, cq482_0, ttq482, fq482_0, fq482_1, ecq482_0, tcq482_0, gq482, efq482_0, afq482_0, bfq482_0, efq482_1, afq482_1, bfq482_1, uq482_0, uq482_1, uq482_2, uq482_3, uq482_4, uq482_5⟩ := wq482
                  dsimp only at uq482_2 uq482_3 uq482_4 uq482_5
                  refine ⟨_, gq482, ?_⟩
                  show gz gPP gGG gcn _ _ 176 [some (.ref x), some (.int (zi q)), some (.int (zi i))] [] hq482 _
                  have G483 : gSg [71, 72, 73, 74, 75, 76, 77, 78, 79, 80, 81, 85, 91, 92, 93, 94, 95, 96, 97, 98, 99, 114, 200] [] [50006, 55008, 56000, 56001, 56002, 56003, 64999, 71005, 71006, 71007, 71008, 71009, 71010, 71011, 71012, 71013, 71014, 72999, 73999, 74999, 76999, 77999, 78999, 79999, 80999, 81999, 85999, 91004, 91008, 92004, 92008, 93999, 94999, 95999, 96999, 97999, 98999, 99999, 114999] ty h tyq482 hq482 := gSg.tr (gSg.ss lp409G sh410 (by decide)) xq482 (by decide) (by decide) (fun x hx => by cases hx)
                  have t484 : tyq482 x = 50 := gSg.typ xq482 sh410.1 lp409c0 rfl
                  have t485 : tyq482 pic = 54 := gSg.typ xq482 sh410.1 lp409c1 rfl
                  have t486 : tyq482 dr = 55 := gSg.typ xq482 sh410.1 lp409c2 rfl
                  have t487 : tyq482 sk = 56 := gSg.typ xq482 sh410.1 lp409c3 rfl
                  have t488 : tyq482 c8 = 71 := gSg.typ xq482 sh410.1 lp409c4 rfl
                  have t489 : tyq482 c344 = 53 := gSg.typ xq482 sh410.1 lp409c5 rfl
                  have t490 : tyq482 bv = 114 := gSg.typ xq482 sh410.1 lp409r1 rfl
                  have hl491 : hq482.2.2.2.1 bv = h410.2.2.2.1 bv := gSg.len xq482 sh410.1 lp409r1 rfl
                  have t492 : tyq482 c467 = 60 := gSg.typ xq482 sh410.1 tc467 rfl
                  have t493 : tyq482 c471 = 61 := gSg.typ xq482 sh410.1 tc471 rfl
                  have t494 : tyq482 c475 = 62 := gSg.typ xq482 sh410.1 tc475 rfl
                  have t495 : tyq482 c478 = 63 := gSg.typ xq482 sh410.1 tc478 rfl
                  have s496 := gSg.at xq482 sh410.1 lp409c0 rfl (by decide) lp409k0
                  have s497 := gSg.at xq482 sh410.1 lp409c0 rfl (by decide) lp409k1
                  have s498 := gSg.at xq482 sh410.1 lp409c0 rfl (by decide) lp409k2
                  have s499 := gSg.at xq482 sh410.1 lp409c2 rfl (by decide) lp409k3
                  have s500 := gSg.at xq482 sh410.1 lp409c2 rfl (by decide) lp409k4
                  have s501 := gSg.at xq482 sh410.1 lp409c2 rfl (by decide) lp409k5
                  have s502 := gSg.at xq482 sh410.1 lp409c0 rfl (by decide) lp409k6
                  have s503 := gSg.at xq482 sh410.1 lp409c0 rfl (by decide) lp409k7
                  have s504 := gSg.at xq482 sh410.1 lp409c4 rfl (by decide) lp409k8
                  have s505 := gSg.at xq482 sh410.1 lp409c2 rfl (by decide) ec467
                  have s506 := gSg.at xq482 sh410.1 lp409c2 rfl (by decide) ec471
                  have s507 := gSg.at xq482 sh410.1 lp409c2 rfl (by decide) ec475
                  have s508 := gSg.at xq482 sh410.1 lp409c2 rfl (by decide) ec478
                  have pr509 := gPC.gr xq482 sh410.1 (by decide) lp409k11
                  have pr510 := gRr.gr xq482 sh410.1 (by decide) (by decide) lp409k12
                  have pr511 := gRow.gr xq482 sh410.1 rfl (by decide) (by decide) lp409k13
                  have pr512 := gRow.gr xq482 sh410.1 rfl (by decide) (by decide) lp409k14
                  have uq513 := gSg.uq xq482 lp409u (by decide)
                  have hyst514 := gSta.gr xq482 (by decide) (fun x hx => by cases hx) (gSta.fr sh410.2 (by decide) lp409t)
                  have sS515 : gSs rT 1027 tyq482 [50006, 55008, 56000, 56001, 56002, 56003, 64999, 71005, 71006, 71007, 71008, 71009, 71010, 71011, 71012, 71013, 71014, 72999, 73999, 74999, 76999, 77999, 78999, 79999, 80999, 81999, 85999, 91004, 91008, 92004, 92008, 93999, 94999, 95999, 96999, 97999, 98999, 99999, 114999] hq482 hq482 := gSs.rf xq482.1
                  refine gy_s 2 (pc' := 122) (L' := [some (.ref x), some (.int (zi q)), some (.int ((zi i) + zi 1))]) (S' := []) (L2 := [some (.ref x), some (.int (zi q)), some (.int (zi (i + 1)))]) (S2 := []) rfl (by simp only [zi_add, zi_sub, zi_mul, zi_neg, zi_and1, zi_and7, zi_and15, zi_and31, zi_and255]) (by simp only [zi_add, zi_sub, zi_mul, zi_neg, zi_and1, zi_and7, zi_and15, zi_and31, zi_and255]) ?_
                  have hl516 : 1024 ≤ hq482.2.2.2.1 bv ∧ hq482.2.2.2.1 bv ≤ 1000000 := gJ.rowl (G := gGG) sS515.1 t490 rfl
                  have hl517 : 1024 ≤ hq482.2.2.2.1 cq482_0 ∧ hq482.2.2.2.1 cq482_0 ≤ 1000000 := gJ.rowl (G := gGG) sS515.1 tcq482_0 rfl
                  have G518 : gSg [71, 72, 73, 74, 75, 76, 77, 78, 79, 80, 81, 85, 91, 92, 93, 94, 95, 96, 97, 98, 99, 114, 200] [] [50006, 55008, 56000, 56001, 56002, 56003, 64999, 71005, 71006, 71007, 71008, 71009, 71010, 71011, 71012, 71013, 71014, 72999, 73999, 74999, 76999, 77999, 78999, 79999, 80999, 81999, 85999, 91004, 91008, 92004, 92008, 93999, 94999, 95999, 96999, 97999, 98999, 99999, 114999] ty h tyq482 hq482 := gSg.ss G483 sS515 (by decide)
                  exact gz_wk (ihlp409 tyq482 hq482 cq482_0 (i + 1) fq482_0 fq482_1 (gms lp409m (by omega) (by omega)) G518 uq513 (gSta.fr sS515.2 (by decide) hyst514) t484 t485 t486 t487 t488 t489 ecq482_0 tcq482_0 ⟨by omega, by omega⟩ ⟨by omega, by omega⟩ ⟨by omega, by omega⟩ (by omega) (by omega) (by omega) (by omega) (by omega) (by omega) s496 s497 s498 s499 s500 s501 s502 s503 s504 efq482_0 efq482_1 pr509 pr510 pr511 pr512) (gLw.s (gLw.s (gLw.s gLw.z)))
            have hl519 : 1024 ≤ hq379.2.2.2.1 bt ∧ hq379.2.2.2.1 bt ≤ 1000000 := gJ.rowl (G := gGG) sS407.1 t388 rfl
            have hl520 : 1024 ≤ hq379.2.2.2.1 cq379_0 ∧ hq379.2.2.2.1 cq379_0 ≤ 1000000 := gJ.rowl (G := gGG) sS407.1 tcq379_0 rfl
            have G521 : gSg [71, 72, 73, 74, 75, 76, 77, 78, 79, 80, 81, 85, 91, 92, 93, 94, 95, 96, 97, 98, 99, 114, 200] [] [50006, 55008, 56000, 56001, 56002, 56003, 64999, 71005, 71006, 71007, 71008, 71009, 71010, 71011, 71012, 71013, 71014, 72999, 73999, 74999, 76999, 77999, 78999, 79999, 80999, 81999, 85999, 91004, 91008, 92004, 92008, 93999, 94999, 95999, 96999, 97999, 98999, 99999, 114999] ty h tyq379 hq379 := gSg.ss G380 sS407 (by decide)
            exact gz_wk (lp409 _ tyq379 hq379 cq379_0 0 fq379_0 fq379_1 (Nat.lt_succ_self _) G521 uq405 (gSta.fr sS407.2 (by decide) hyst406) t381 t382 t386 t387 t390 t391 ecq379_0 tcq379_0 ⟨by omega, by omega⟩ ⟨by omega, by omega⟩ ⟨by omega, by omega⟩ (by omega) (by omega) (by omega) (by omega) (by omega) (by omega) s392 s393 s394 s395 s396 s397 s398 s399 s400 efq379_0 efq379_1 pr401 pr403 rf rt) (gLw.s (gLw.s (gLw.s gLw.z)))
          · refine gy_ifF rfl (by decide) (by decide) (by omega) hc408 ?_
            refine gz_s 1 (pc' := 109) (L' := [some (.ref x), some (.int (zi q)), none]) (S' := [.ref x]) rfl ?_
            refine gs_gtk rfl (by decide) rfl sS407.1 t381 rfl rfl s398 ?_
            refine gz_s 4 (pc' := 117) (L' := [some (.ref x), some (.int (zi q)), none]) (S' := [.int (zi 0), .int (zi 0), .int (zi 63), .int (zi 0), .ref c8]) rfl ?_
            have hl522 : hq379.2.2.2.1 cq379_0 = hq379.2.2.2.1 cq379_0 := congrFun sS407.2.2.2.2.1 cq379_0
            refine gz_call rfl (by decide) rfl (by decide) (by decide) (gcal_of rfl rfl rfl (Nat.le_of_ble_eq_true rfl) (gJ.recv (G := gGG) sS407.1 t390 rfl rfl)) (cl_Writer_putScan _ sS407.1 c8 t390 0 ⟨by omega, by omega⟩ 63 ⟨by omega, by omega⟩ 0 ⟨by omega, by omega⟩ 0 ⟨by omega, by omega⟩ sk s400 t387 cq379_0 ecq379_0 tcq379_0 fq379_0 efq379_0 ⟨by omega, by omega⟩ fq379_1 efq379_1 ⟨by omega, by omega⟩ (by omega) (by omega) (by omega) uq405) (fun q523 _ wq523 => ?_)
            obtain ⟨pq523, oq523, hq523⟩ := q523
            obtain ⟨tyq523, xq523, cq523_0, ttq523, fq523_0, fq523_1, ecq523_0, tcq523_0, gq523, efq523_0, afq523_0, bfq523_0, efq523_1, afq523_1, bfq523_1, uq523_0, uq523_1, uq523_2, uq523_3, uq523_4, uq523_5⟩ := wq523
            dsimp only at uq523_2 uq523_3 uq523_4 uq523_5
            refine ⟨_, gq523, ?_⟩
            show gz gPP gGG gcn _ _ 120 [some (.ref x), some (.int (zi q)), none] [] hq523 _
            have G524 : gSg [71, 72, 73, 74, 75, 76, 77, 78, 79, 80, 81, 85, 91, 92, 93, 94, 95, 96, 97, 98, 99, 114, 200] [] [50006, 55008, 56000, 56001, 56002, 56003, 64999, 71005, 71006, 71007, 71008, 71009, 71010, 71011, 71012, 71013, 71014, 72999, 73999, 74999, 76999, 77999, 78999, 79999, 80999, 81999, 85999, 91004, 91008, 92004, 92008, 93999, 94999, 95999, 96999, 97999, 98999, 99999, 114999] ty h tyq523 hq523 := gSg.tr (gSg.ss G380 sS407 (by decide)) xq523 (by decide) (by decide) (fun x hx => by cases hx)
            have t525 : tyq523 x = 50 := gSg.typ xq523 sS407.1 t381 rfl
            have t526 : tyq523 pic = 54 := gSg.typ xq523 sS407.1 t382 rfl
            have t527 : tyq523 b0 = 82 := gSg.typ xq523 sS407.1 t383 rfl
            have t528 : tyq523 b1 = 83 := gSg.typ xq523 sS407.1 t384 rfl
            have t529 : tyq523 b2 = 84 := gSg.typ xq523 sS407.1 t385 rfl
            have t530 : tyq523 dr = 55 := gSg.typ xq523 sS407.1 t386 rfl
            have t531 : tyq523 sk = 56 := gSg.typ xq523 sS407.1 t387 rfl
            have t532 : tyq523 bt = 114 := gSg.typ xq523 sS407.1 t388 rfl
            have hl533 : hq523.2.2.2.1 bt = hq379.2.2.2.1 bt := gSg.len xq523 sS407.1 t388 rfl
            have t534 : tyq523 c8 = 71 := gSg.typ xq523 sS407.1 t390 rfl
            have t535 : tyq523 c344 = 53 := gSg.typ xq523 sS407.1 t391 rfl
            have t536 : tyq523 cq379_0 = 114 := gSg.typ xq523 sS407.1 tcq379_0 rfl
            have hl537 : hq523.2.2.2.1 cq379_0 = hq379.2.2.2.1 cq379_0 := gSg.len xq523 sS407.1 tcq379_0 rfl
            have s538 := gSg.at xq523 sS407.1 t381 rfl (by decide) s392
            have s539 := gSg.at xq523 sS407.1 t381 rfl (by decide) s393
            have s540 := gSg.at xq523 sS407.1 t381 rfl (by decide) s394
            have s541 := gSg.at xq523 sS407.1 t386 rfl (by decide) s395
            have s542 := gSg.at xq523 sS407.1 t386 rfl (by decide) s396
            have s543 := gSg.at xq523 sS407.1 t386 rfl (by decide) s397
            have s544 := gSg.at xq523 sS407.1 t381 rfl (by decide) s398
            have s545 := gSg.at xq523 sS407.1 t381 rfl (by decide) s399
            have s546 := gSg.at xq523 sS407.1 t390 rfl (by decide) s400
            have pr547 := gPC.gr xq523 sS407.1 (by decide) pr401
            have pr548 := gTc.gr xq523 sS407.1 (by decide) (by decide) pr402
            have pr549 := gRr.gr xq523 sS407.1 (by decide) (by decide) pr403
            have pr550 := gRw.gr xq523 sS407.1 (by decide) (by decide) pr404
            have uq551 := gSg.uq xq523 uq405 (by decide)
            have hyst552 := gSta.gr xq523 (by decide) (fun x hx => by cases hx) (gSta.fr sS407.2 (by decide) hyst406)
            have sS553 : gSs rT 1027 tyq523 [50006, 55008, 56000, 56001, 56002, 56003, 64999, 71005, 71006, 71007, 71008, 71009, 71010, 71011, 71012, 71013, 71014, 72999, 73999, 74999, 76999, 77999, 78999, 79999, 80999, 81999, 85999, 91004, 91008, 92004, 92008, 93999, 94999, 95999, 96999, 97999, 98999, 99999, 114999] hq523 hq523 := gSs.rf xq523.1
            obtain ⟨tf, tt, cf, rf, rt, rc, tle, tsm⟩ := pr548
            have hg0 := gsf_nn (f := fun j => gcr (cf j)) (fun j => by unfold gcr; split <;> omega) 64
            have hgl0 : gTl tf tt 0 = 0 := rfl
            refine gz_s 2 (pc' := 122) (L' := [some (.ref x), some (.int (zi q)), some (.int (zi 0))]) (S' := []) rfl ?_
            have lp554 : ∀ (fu : Nat) (ty556 : Nat → Nat) (h555 : gH) (bv : Nat) (i : Int) (cv : Int) (hv : Int), (11 - i).toNat < fu → gSg [71, 72, 73, 74, 75, 76, 77, 78, 79, 80, 81, 85, 91, 92, 93, 94, 95, 96, 97, 98, 99, 114, 200] [] [50006, 55008, 56000, 56001, 56002, 56003, 64999, 71005, 71006, 71007, 71008, 71009, 71010, 71011, 71012, 71013, 71014, 72999, 73999, 74999, 76999, 77999, 78999, 79999, 80999, 81999, 85999, 91004, 91008, 92004, 92008, 93999, 94999, 95999, 96999, 97999, 98999, 99999, 114999] ty h ty556 h555 → gUq ty556 → gSta ty556 h555 → ty556 x = 50 → ty556 pic = 54 → ty556 dr = 55 → ty556 sk = 56 → ty556 c8 = 71 → ty556 c344 = 53 → h555.2.2.2.2 sk 0 = .ref bv → ty556 bv = 114 → (0 ≤ i ∧ i ≤ 10) → (0 ≤ cv ∧ cv ≤ 499999) → (0 ≤ hv ∧ hv ≤ 7) → ((n0 = 0 ∧ 4 * cv + hv ≤ 336000) ∨ 4 * cv + hv ≤ 400 + 7876 * i + 5120 * gTl tf tt i) → (i ≤ n0) → (cv ≤ (h555.2.2.2.1 bv : Int)) → (1024 * (((h555.1 : Int) - h.1) - 21) ≤ (h555.2.2.2.1 bv : Int) - lb) → (((h555.2.1 : Int) - h.2.1) ≤ 4303 + 2 * ((h555.2.2.2.1 bv : Int) - lb)) → (lb ≤ (h555.2.2.2.1 bv : Int)) → h555.2.2.2.2 x 2 = .ref pic → h555.2.2.2.2 x 3 = .ref dr → h555.2.2.2.2 x 4 = .ref sk → h555.2.2.2.2 dr 8 = .int (zi n0) → h555.2.2.2.2 dr 3 = .int (zi iv) → h555.2.2.2.2 dr 1 = .int (zi z6) → h555.2.2.2.2 x 6 = .ref c8 → h555.2.2.2.2 x 1 = .ref c344 → h555.2.2.2.2 c8 0 = .ref sk → h555.2.2.2.2 sk 1 = .int (zi cv) → h555.2.2.2.2 sk 3 = .int (zi hv) → gPC ty556 pic b0 b1 b2 ld h555 → gRr ty556 x h555 → gRow ty556 60 tf h555 → gRow ty556 61 tt h555 → gz gPP gGG gcn (d + 8) gt89 122 [some (.ref x), some (.int (zi q)), some (.int (zi i))] [] h555 (fun q _ => ∃ ty9 : Nat → Nat, gSg [71, 72, 73, 74, 75, 76, 77, 78, 79, 80, 81, 85, 91, 92, 93, 94, 95, 96, 97, 98, 99, 114, 200] [] [50006, 55008, 56000, 56001, 56002, 56003, 64999, 71005, 71006, 71007, 71008, 71009, 71010, 71011, 71012, 71013, 71014, 72999, 73999, 74999, 76999, 77999, 78999, 79999, 80999, 81999, 85999, 91004, 91008, 92004, 92008, 93999, 94999, 95999, 96999, 97999, 98999, 99999, 114999] ty h ty9 q.2.2 ∧ ∃ ld1 lb1 iv1 : Int, 0 ≤ ld1 ∧ ld1 ≤ 192 ∧ 1024 ≤ lb1 ∧ lb1 ≤ 1000000 ∧ 0 ≤ iv1 ∧ iv1 ≤ 100 ∧ (gIx ty9 x ld1 lb1 iv1 q.2.2) ∧ gUq ty9 ∧ ((∃ z : Int, gfin gt89 q.1 q.2.1 = some (some (.int (zi z))) ∧ (-2147483648) ≤ z ∧ z ≤ 2147483647 ∧ (iv1 = iv) ∧ (1024 * (((q.2.2.1 : Int) - h.1) - 31 - 2 * (ld1 - ld)) ≤ lb1 - lb) ∧ (((q.2.2.2.1 : Int) - h.2.1) ≤ 4303 + 12480 * (ld1 - ld) + 2 * (lb1 - lb)) ∧ (ld ≤ ld1) ∧ (lb ≤ lb1)) ∨ (q.2.1 = [] ∧ ((q.1 = 11) ∨ (q.1 = 32)) ∧ (iv1 = iv) ∧ (1024 * (((q.2.2.1 : Int) - h.1) - 31 - 2 * (ld1 - ld)) ≤ lb1 - lb) ∧ (((q.2.2.2.1 : Int) - h.2.1) ≤ 4303 + 12480 * (ld1 - ld) + 2 * (lb1 - lb)) ∧ (ld ≤ ld1) ∧ (lb ≤ lb1)))) := by
              intro fu
              induction fu with
              | zero => intro ty556 h555 bv i cv hv hm; exact absurd hm (Nat.not_lt_zero _)
              | succ fu ihlp554 =>
                intro ty556 h555 bv i cv hv lp554m lp554G lp554u lp554t lp554c0 lp554c1 lp554c2 lp554c3 lp554c4 lp554c5 lp554r0 lp554r1 lp554f0 lp554f1 lp554f2 lp554f3 lp554f4 lp554f5 lp554f6 lp554f7 lp554f8 lp554k0 lp554k1 lp554k2 lp554k3 lp554k4 lp554k5 lp554k6 lp554k7 lp554k8 lp554k9 lp554k10 lp554k11 lp554k12 lp554k13 lp554k14
                have sh555 : gSs rT 1027 ty556 [50006, 55008, 56000, 56001, 56002, 56003, 64999, 71005, 71006, 71007, 71008, 71009, 71010, 71011, 71012, 71013, 71014, 72999, 73999, 74999, 76999, 77999, 78999, 79999, 80999, 81999, 85999, 91004, 91008, 92004, 92008, 93999, 94999, 95999, 96999, 97999, 98999, 99999, 114999] h555 h555 := gSs.rf lp554G.1
                refine gz_s 2 (pc' := 124) (L' := [some (.ref x), some (.int (zi q)), some (.int (zi i))]) (S' := [.ref x, .int (zi i)]) rfl ?_
                refine gs_gtk rfl (by decide) rfl sh555.1 lp554c0 rfl rfl lp554k1 ?_
                refine gs_gtk rfl (by decide) rfl sh555.1 lp554c2 rfl rfl lp554k3 ?_
                refine gy_icT (pc' := 182) rfl (by decide) (by decide) ⟨by omega, by omega⟩ ⟨by omega, by omega⟩ (by first | (simp [zc]; done) | (simp only [zc]; omega)) ?_
                have hgl9 : gTl tf tt i = gTl tf tt n0 := by rw [show i = n0 from Int.le_antisymm (by omega) (by omega)]
                refine gz_s 1 (pc' := 183) (L' := [some (.ref x), some (.int (zi q)), some (.int (zi i))]) (S' := [.ref x]) rfl ?_
                refine gs_gtk rfl (by decide) rfl sh555.1 lp554c0 rfl rfl lp554k6 ?_
                have hl557 : h555.2.2.2.1 bv = h555.2.2.2.1 bv := congrFun sh555.2.2.2.2.1 bv
                refine gz_call rfl (by decide) rfl (by decide) (by decide) (gcal_of rfl rfl rfl (Nat.le_of_ble_eq_true rfl) (gJ.recv (G := gGG) sh555.1 lp554c4 rfl rfl)) (cl_Writer_putEnd _ sh555.1 c8 lp554c4 sk lp554k8 lp554c3 bv lp554r0 lp554r1 cv lp554k9 ⟨by omega, by omega⟩ (by omega) lp554u) (fun q558 _ wq558 => ?_)
                obtain ⟨pq558, oq558, hq558⟩ := q558
                obtain ⟨tyq558, xq558, cq558_0, ttq558, fq558_0, ecq558_0, tcq558_0, gq558, efq558_0, afq558_0, bfq558_0, uq558_0, uq558_1, uq558_2, uq558_3, uq558_4⟩ := wq558
                dsimp only at uq558_1 uq558_2 uq558_3 uq558_4
                refine ⟨_, gq558, ?_⟩
                show gz gPP gGG gcn _ _ 189 [some (.ref x), some (.int (zi q)), some (.int (zi i))] [] hq558 _
                have G559 : gSg [71, 72, 73, 74, 75, 76, 77, 78, 79, 80, 81, 85, 91, 92, 93, 94, 95, 96, 97, 98, 99, 114, 200] [] [50006, 55008, 56000, 56001, 56002, 56003, 64999, 71005, 71006, 71007, 71008, 71009, 71010, 71011, 71012, 71013, 71014, 72999, 73999, 74999, 76999, 77999, 78999, 79999, 80999, 81999, 85999, 91004, 91008, 92004, 92008, 93999, 94999, 95999, 96999, 97999, 98999, 99999, 114999] ty h tyq558 hq558 := gSg.tr (gSg.ss lp554G sh555 (by decide)) xq558 (by decide) (by decide) (fun x hx => by cases hx)
                have t560 : tyq558 x = 50 := gSg.typ xq558 sh555.1 lp554c0 rfl
                have t561 : tyq558 pic = 54 := gSg.typ xq558 sh555.1 lp554c1 rfl
                have t562 : tyq558 dr = 55 := gSg.typ xq558 sh555.1 lp554c2 rfl
                have t563 : tyq558 sk = 56 := gSg.typ xq558 sh555.1 lp554c3 rfl
                have t564 : tyq558 c8 = 71 := gSg.typ xq558 sh555.1 lp554c4 rfl
                have t565 : tyq558 c344 = 53 := gSg.typ xq558 sh555.1 lp554c5 rfl
                have t566 : tyq558 bv = 114 := gSg.typ xq558 sh555.1 lp554r1 rfl
                have hl567 : hq558.2.2.2.1 bv = h555.2.2.2.1 bv := gSg.len xq558 sh555.1 lp554r1 rfl
                have s568 := gSg.at xq558 sh555.1 lp554c0 rfl (by decide) lp554k0
                have s569 := gSg.at xq558 sh555.1 lp554c0 rfl (by decide) lp554k1
                have s570 := gSg.at xq558 sh555.1 lp554c0 rfl (by decide) lp554k2
                have s571 := gSg.at xq558 sh555.1 lp554c2 rfl (by decide) lp554k3
                have s572 := gSg.at xq558 sh555.1 lp554c2 rfl (by decide) lp554k4
                have s573 := gSg.at xq558 sh555.1 lp554c2 rfl (by decide) lp554k5
                have s574 := gSg.at xq558 sh555.1 lp554c0 rfl (by decide) lp554k6
                have s575 := gSg.at xq558 sh555.1 lp554c0 rfl (by decide) lp554k7
                have s576 := gSg.at xq558 sh555.1 lp554c4 rfl (by decide) lp554k8
                have s577 := gSg.at xq558 sh555.1 lp554c3 rfl (by decide) lp554k10
                have pr578 := gPC.gr xq558 sh555.1 (by decide) lp554k11
                have pr579 := gRr.gr xq558 sh555.1 (by decide) (by decide) lp554k12
                have pr580 := gRow.gr xq558 sh555.1 rfl (by decide) (by decide) lp554k13
                have pr581 := gRow.gr xq558 sh555.1 rfl (by decide) (by decide) lp554k14
                have uq582 := gSg.uq xq558 lp554u (by decide)
                have hyst583 := gSta.gr xq558 (by decide) (fun x hx => by cases hx) (gSta.fr sh555.2 (by decide) lp554t)
                have sS584 : gSs rT 1027 tyq558 [50006, 55008, 56000, 56001, 56002, 56003, 64999, 71005, 71006, 71007, 71008, 71009, 71010, 71011, 71012, 71013, 71014, 72999, 73999, 74999, 76999, 77999, 78999, 79999, 80999, 81999, 85999, 91004, 91008, 92004, 92008, 93999, 94999, 95999, 96999, 97999, 98999, 99999, 114999] hq558 hq558 := gSs.rf xq558.1
                refine gz_s 1 (pc' := 190) (L' := [some (.ref x), some (.int (zi q)), some (.int (zi i))]) (S' := [.ref x]) rfl ?_
                refine gs_gtk rfl (by decide) rfl sS584.1 t560 rfl rfl s569 ?_
                refine gz_call rfl (by decide) rfl (by decide) (by decide) (gcal_of rfl rfl rfl (Nat.le_of_ble_eq_true rfl) (gJ.recv (G := gGG) sS584.1 t562 rfl rfl)) (cl_Draft_forgetScans _ sS584.1 dr t562 uq582) (fun q585 _ wq585 => ?_)
                obtain ⟨pq585, oq585, hq585⟩ := q585
                obtain ⟨xq585, fq585_0, gq585, efq585_0, afq585_0, bfq585_0, uq585_0, yq585_0⟩ := wq585
                refine ⟨_, gq585, ?_⟩
                show gz gPP gGG gcn _ _ 196 [some (.ref x), some (.int (zi q)), some (.int (zi i))] [] hq585 _
                have sq585 : gSs rT 1027 tyq558 [50006, 55008, 56000, 56001, 56002, 56003, 64999, 71005, 71006, 71007, 71008, 71009, 71010, 71011, 71012, 71013, 71014, 72999, 73999, 74999, 76999, 77999, 78999, 79999, 80999, 81999, 85999, 91004, 91008, 92004, 92008, 93999, 94999, 95999, 96999, 97999, 98999, 99999, 114999] hq558 hq585 := gSs.tr sS584 xq585 (by decide)
                have s586 := (xq585.2.2.2.2.2 x 2 (by rw [t560]; decide)).trans s568
                have s587 := (xq585.2.2.2.2.2 x 3 (by rw [t560]; decide)).trans s569
                have s588 := (xq585.2.2.2.2.2 x 4 (by rw [t560]; decide)).trans s570
                have s589 := (xq585.2.2.2.2.2 dr 3 (by rw [t562]; decide)).trans s572
                have s590 := (xq585.2.2.2.2.2 dr 1 (by rw [t562]; decide)).trans s573
                have s591 := (xq585.2.2.2.2.2 x 6 (by rw [t560]; decide)).trans s574
                have s592 := (xq585.2.2.2.2.2 x 1 (by rw [t560]; decide)).trans s575
                have s593 := (xq585.2.2.2.2.2 c8 0 (by rw [t564]; decide)).trans s576
                have s594 := (xq585.2.2.2.2.2 sk 3 (by rw [t563]; decide)).trans s577
                have s595 := (xq585.2.2.2.2.2 sk 0 (by rw [t563]; decide)).trans ecq558_0
                have s596 := (xq585.2.2.2.2.2 sk 1 (by rw [t563]; decide)).trans efq558_0
                have pr597 := gPC.fr xq585.2 (by decide) pr578
                have pr598 := gRr.fr xq585.2 (by decide) pr579
                have pr599 := gRow.fr xq585.2 (by decide) pr580
                have pr600 := gRow.fr xq585.2 (by decide) pr581
                refine gz_s 1 (pc' := 197) (L' := [some (.ref x), some (.int (zi q)), some (.int (zi i))]) (S' := [.ref x]) rfl ?_
                refine gs_gtk rfl (by decide) rfl sq585.1 t560 rfl rfl s588 ?_
                refine gs_gtk rfl (by decide) rfl sq585.1 t563 rfl rfl s596 ?_
                have k601 := sq585.2.1
                have k601b := sq585.2.2.1
                have hl602 : hq585.2.2.2.1 bv = hq558.2.2.2.1 bv := congrFun sq585.2.2.2.2.1 bv
                have hl603 : hq585.2.2.2.1 cq558_0 = hq558.2.2.2.1 cq558_0 := congrFun sq585.2.2.2.2.1 cq558_0
                have hl604 : 1024 ≤ hq585.2.2.2.1 bv ∧ hq585.2.2.2.1 bv ≤ 1000000 := gJ.rowl (G := gGG) sq585.1 t566 rfl
                have hl605 : 1024 ≤ hq585.2.2.2.1 cq558_0 ∧ hq585.2.2.2.1 cq558_0 ≤ 1000000 := gJ.rowl (G := gGG) sq585.1 tcq558_0 rfl
                have k606 := sq585.2.1
                have k606b := sq585.2.2.1
                have hl607 : hq585.2.2.2.1 bv = hq558.2.2.2.1 bv := congrFun sq585.2.2.2.2.1 bv
                have hl608 : hq585.2.2.2.1 cq558_0 = hq558.2.2.2.1 cq558_0 := congrFun sq585.2.2.2.2.1 cq558_0
                have hix609 : gIx tyq558 x ld (hq585.2.2.2.1 cq558_0 : Int) iv hq585 := ⟨pic, b0, b1, b2, dr, sk, cq558_0, fq585_0, fq558_0, ⟨t560, t562, t563, tcq558_0⟩, ⟨s586, s587, s588, s595⟩, pr597, (by rw [(by omega : fq585_0 = 0)]; exact yq585_0), ⟨efq585_0, by omega, by omega⟩, ⟨s589, by omega, by omega⟩, ⟨s596, by omega, by omega⟩, ⟨by omega, by omega⟩, pr598, ⟨t560, Or.inr ⟨c8, s591, t564⟩⟩⟩
                have G610 : gSg [71, 72, 73, 74, 75, 76, 77, 78, 79, 80, 81, 85, 91, 92, 93, 94, 95, 96, 97, 98, 99, 114, 200] [] [50006, 55008, 56000, 56001, 56002, 56003, 64999, 71005, 71006, 71007, 71008, 71009, 71010, 71011, 71012, 71013, 71014, 72999, 73999, 74999, 76999, 77999, 78999, 79999, 80999, 81999, 85999, 91004, 91008, 92004, 92008, 93999, 94999, 95999, 96999, 97999, 98999, 99999, 114999] ty h tyq558 hq585 := gSg.ss G559 sq585 (by decide)
                exact gz_end (I := .ireturn) (len := 1) rfl (Or.inl rfl) ⟨tyq558, G610, ld, (hq585.2.2.2.1 cq558_0 : Int), iv, (by omega), (by omega), (by omega), (by omega), (by omega), (by omega), hix609, uq582, Or.inl ⟨fq558_0, rfl, (by omega), (by omega), (by omega), (by dsimp only; omega), (by dsimp only; omega), (by omega), (by omega)⟩⟩
            have hl611 : 1024 ≤ hq523.2.2.2.1 bt ∧ hq523.2.2.2.1 bt ≤ 1000000 := gJ.rowl (G := gGG) sS553.1 t532 rfl
            have hl612 : 1024 ≤ hq523.2.2.2.1 cq379_0 ∧ hq523.2.2.2.1 cq379_0 ≤ 1000000 := gJ.rowl (G := gGG) sS553.1 t536 rfl
            have hl613 : 1024 ≤ hq523.2.2.2.1 cq523_0 ∧ hq523.2.2.2.1 cq523_0 ≤ 1000000 := gJ.rowl (G := gGG) sS553.1 tcq523_0 rfl
            have G614 : gSg [71, 72, 73, 74, 75, 76, 77, 78, 79, 80, 81, 85, 91, 92, 93, 94, 95, 96, 97, 98, 99, 114, 200] [] [50006, 55008, 56000, 56001, 56002, 56003, 64999, 71005, 71006, 71007, 71008, 71009, 71010, 71011, 71012, 71013, 71014, 72999, 73999, 74999, 76999, 77999, 78999, 79999, 80999, 81999, 85999, 91004, 91008, 92004, 92008, 93999, 94999, 95999, 96999, 97999, 98999, 99999, 114999] ty h tyq523 hq523 := gSg.ss G524 sS553 (by decide)
            exact gz_wk (lp554 _ tyq523 hq523 cq523_0 0 fq523_0 fq523_1 (Nat.lt_succ_self _) G614 uq551 (gSta.fr sS553.2 (by decide) hyst552) t525 t526 t530 t531 t534 t535 ecq523_0 tcq523_0 ⟨by omega, by omega⟩ ⟨by omega, by omega⟩ ⟨by omega, by omega⟩ (by omega) (by omega) (by omega) (by omega) (by omega) (by omega) s538 s539 s540 s541 s542 s543 s544 s545 s546 efq523_0 efq523_1 pr547 pr549 rf rt) (gLw.s (gLw.s (gLw.s gLw.z)))
      · refine gy_icF rfl (by decide) (by decide) (by omega) (by omega) hc7 ?_
        have hl615 : 1024 ≤ h.2.2.2.1 bt ∧ h.2.2.2.1 bt ≤ 1000000 := gJ.rowl (G := gGG) hS.1 tbt rfl
        have hix616 : gIx ty x ld (h.2.2.2.1 bt : Int) iv h := ⟨pic, b0, b1, b2, dr, sk, bt, n0, c0, ⟨tx, tdr, tsk, tbt⟩, ⟨ex2, ex3, ex4, ex0⟩, hpc, htc, ⟨en0, by omega, by omega⟩, ⟨eiv, by omega, by omega⟩, ⟨ec0, by omega, by omega⟩, ⟨by omega, by omega⟩, hrr, hrw⟩
        have G617 : gSg [71, 72, 73, 74, 75, 76, 77, 78, 79, 80, 81, 85, 91, 92, 93, 94, 95, 96, 97, 98, 99, 114, 200] [] [50006, 55008, 56000, 56001, 56002, 56003, 64999, 71005, 71006, 71007, 71008, 71009, 71010, 71011, 71012, 71013, 71014, 72999, 73999, 74999, 76999, 77999, 78999, 79999, 80999, 81999, 85999, 91004, 91008, 92004, 92008, 93999, 94999, 95999, 96999, 97999, 98999, 99999, 114999] ty h ty h := gSg.ss G0 hS (by decide)
        exact gz_end (I := .new 157) (len := 3) rfl (Or.inr (by decide)) ⟨ty, G617, ld, (h.2.2.2.1 bt : Int), iv, (by omega), (by omega), (by omega), (by omega), (by omega), (by omega), hix616, uq, Or.inr ⟨rfl, Or.inr (rfl), (by omega), (by dsimp only; omega), (by dsimp only; omega), (by omega), (by omega)⟩⟩
    · refine gy_icF rfl (by decide) (by decide) (by omega) (by omega) hc5 ?_
      have hl618 : 1024 ≤ h.2.2.2.1 bt ∧ h.2.2.2.1 bt ≤ 1000000 := gJ.rowl (G := gGG) hS.1 tbt rfl
      have hix619 : gIx ty x ld (h.2.2.2.1 bt : Int) iv h := ⟨pic, b0, b1, b2, dr, sk, bt, n0, c0, ⟨tx, tdr, tsk, tbt⟩, ⟨ex2, ex3, ex4, ex0⟩, hpc, htc, ⟨en0, by omega, by omega⟩, ⟨eiv, by omega, by omega⟩, ⟨ec0, by omega, by omega⟩, ⟨by omega, by omega⟩, hrr, hrw⟩
      have G620 : gSg [71, 72, 73, 74, 75, 76, 77, 78, 79, 80, 81, 85, 91, 92, 93, 94, 95, 96, 97, 98, 99, 114, 200] [] [50006, 55008, 56000, 56001, 56002, 56003, 64999, 71005, 71006, 71007, 71008, 71009, 71010, 71011, 71012, 71013, 71014, 72999, 73999, 74999, 76999, 77999, 78999, 79999, 80999, 81999, 85999, 91004, 91008, 92004, 92008, 93999, 94999, 95999, 96999, 97999, 98999, 99999, 114999] ty h ty h := gSg.ss G0 hS (by decide)
      exact gz_end (I := .new 134) (len := 3) rfl (Or.inr (by decide)) ⟨ty, G620, ld, (h.2.2.2.1 bt : Int), iv, (by omega), (by omega), (by omega), (by omega), (by omega), (by omega), hix619, uq, Or.inr ⟨rfl, Or.inl rfl, (by omega), (by dsimp only; omega), (by dsimp only; omega), (by omega), (by omega)⟩⟩
