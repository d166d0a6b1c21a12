/-! ===== methods of the landed text (by program) ===== -/
set_option maxRecDepth 20000 in
set_option maxHeartbeats 4000000 in
theorem cl_DctFilter_encode (d : Nat) {ty : Nat → Nat} {h : gH} (hJ : gJ rT 1027 ty h) (x : Nat) (tx : ty x = 50) (q : Int) (rq : (-2147483648) ≤ q ∧ q ≤ 2147483647) (hyst : gSta ty h) (ld : Int) (rld : 0 ≤ ld ∧ ld ≤ 192) (lb : Int) (rlb : 1024 ≤ lb ∧ lb ≤ 1000000) (iv : Int) (riv : 0 ≤ iv ∧ iv ≤ 100) (uq : gUq ty) (hyix : gIx ty x ld lb iv h) : gz gPP gGG gcn (d + 8) gt89 0 (gent [.ref x, .int (zi q)] 3) [] h (fun q _ => ∃ ty9 : Nat → Nat, gSg [71, 72, 73, 74, 75, 76, 77, 78, 79, 80, 81, 85, 91, 92, 93, 94, 95, 96, 97, 98, 99, 114, 200] [] [50006, 55008, 56000, 56001, 56002, 56003, 64999, 71005, 71006, 71007, 71008, 71009, 71010, 71011, 71012, 71013, 71014, 72999, 73999, 74999, 76999, 77999, 78999, 79999, 80999, 81999, 85999, 91004, 91008, 92004, 92008, 93999, 94999, 95999, 96999, 97999, 98999, 99999, 114999] ty h ty9 q.2.2 ∧ ∃ ld1 lb1 iv1 : Int, 0 ≤ ld1 ∧ ld1 ≤ 192 ∧ 1024 ≤ lb1 ∧ lb1 ≤ 1000000 ∧ 0 ≤ iv1 ∧ iv1 ≤ 100 ∧ (gIx ty9 x ld1 lb1 iv1 q.2.2) ∧ gUq ty9 ∧ ((∃ z : Int, gfin gt89 q.1 q.2.1 = some (some (.int (zi z))) ∧ (-2147483648) ≤ z ∧ z ≤ 2147483647 ∧ (iv1 = iv) ∧ (1024 * (((q.2.2.1 : Int) - h.1) - 31 - 2 * (ld1 - ld)) ≤ lb1 - lb) ∧ (((q.2.2.2.1 : Int) - h.2.1) ≤ 4303 + 12480 * (ld1 - ld) + 2 * (lb1 - lb)) ∧ (ld ≤ ld1) ∧ (lb ≤ lb1)) ∨ (q.2.1 = [] ∧ ((q.1 = 11) ∨ (q.1 = 32)) ∧ (iv1 = iv) ∧ (1024 * (((q.2.2.1 : Int) - h.1) - 31 - 2 * (ld1 - ld)) ≤ lb1 - lb) ∧ (((q.2.2.2.1 : Int) - h.2.1) ≤ 4303 + 12480 * (ld1 - ld) + 2 * (lb1 - lb)) ∧ (ld ≤ ld1) ∧ (lb ≤ lb1)))) := by
  have hS : gSs rT 1027 ty [50006, 55008, 56000, 56001, 56002, 56003, 64999, 71005, 71006, 71007, 71008, 71009, 71010, 71011, 71012, 71013, 71014, 72999, 73999, 74999, 76999, 77999, 78999, 79999, 80999, 81999, 85999, 91004, 91008, 92004, 92008, 93999, 94999, 95999, 96999, 97999, 98999, 99999, 114999] h h := gSs.rf hJ
  have G0 : gSg [71, 72, 73, 74, 75, 76, 77, 78, 79, 80, 81, 85, 91, 92, 93, 94, 95, 96, 97, 98, 99, 114, 200] [] [50006, 55008, 56000, 56001, 56002, 56003, 64999, 71005, 71006, 71007, 71008, 71009, 71010, 71011, 71012, 71013, 71014, 72999, 73999, 74999, 76999, 77999, 78999, 79999, 80999, 81999, 85999, 91004, 91008, 92004, 92008, 93999, 94999, 95999, 96999, 97999, 98999, 99999, 114999] ty h ty h := gSg.rf hJ (fun x hx => by cases hx)
  obtain ⟨pic, b0, b1, b2, dr, sk, bt, n0, c0, ⟨_, tdr, tsk, tbt⟩, ⟨ex2, ex3, ex4, ex0⟩, hpc, htc, ⟨en0, rn0⟩, ⟨eiv, riv⟩, ⟨ec0, rc0⟩, ⟨lc0, llb⟩, hrr, hrw⟩ := hyix
  have tpic := hpc.1.1
  have tb0 := hpc.1.2.1
  have tb1 := hpc.1.2.2.1
  have tb2 := hpc.1.2.2.2
  refine gz_s 2 (pc' := 2) (L' := [some (.ref x), some (.int (zi q)), none]) (S' := [.int (zi 1), .int (zi q)]) rfl ?_
  by_cases hc1 : (q : Int) < 1
  · refine gy_icT (pc' := 11) rfl (by decide) (by decide) (by omega) (by omega) hc1 ?_
    have hix2 : gIx ty x ld (h.2.2.2.1 bt : Int) iv h := ⟨pic, b0, b1, b2, dr, sk, bt, n0, c0, ⟨tx, tdr, tsk, tbt⟩, ⟨ex2, ex3, ex4, ex0⟩, hpc, htc, ⟨en0, by omega, by omega⟩, ⟨eiv, by omega, by omega⟩, ⟨ec0, by omega, by omega⟩, ⟨by omega, by omega⟩, hrr, hrw⟩
    have G3 : gSg [71, 72, 73, 74, 75, 76, 77, 78, 79, 80, 81, 85, 91, 92, 93, 94, 95, 96, 97, 98, 99, 114, 200] [] [50006, 55008, 56000, 56001, 56002, 56003, 64999, 71005, 71006, 71007, 71008, 71009, 71010, 71011, 71012, 71013, 71014, 72999, 73999, 74999, 76999, 77999, 78999, 79999, 80999, 81999, 85999, 91004, 91008, 92004, 92008, 93999, 94999, 95999, 96999, 97999, 98999, 99999, 114999] ty h ty h := gSg.ss G0 hS (by decide)
    exact gz_end (I := .new 134) (len := 3) rfl (Or.inr (by decide)) ⟨ty, G3, ld, (h.2.2.2.1 bt : Int), iv, (by omega), (by omega), (by omega), (by omega), (by omega), (by omega), hix2, uq, Or.inr ⟨rfl, Or.inl rfl, (by omega), (by dsimp only; omega), (by dsimp only; omega), (by omega), (by omega)⟩⟩
  · refine gy_icF rfl (by decide) (by decide) (by omega) (by omega) hc1 ?_
    refine gz_s 2 (pc' := 8) (L' := [some (.ref x), some (.int (zi q)), none]) (S' := [.int (zi 100), .int (zi q)]) rfl ?_
    by_cases hc4 : (q : Int) ≤ 100
    · refine gy_icT (pc' := 21) rfl (by decide) (by decide) (by omega) (by omega) hc4 ?_
      refine gz_s 1 (pc' := 22) (L' := [some (.ref x), some (.int (zi q)), none]) (S' := [.ref x]) rfl ?_
      refine gs_gtk rfl (by decide) rfl hS.1 tx rfl rfl ex3 ?_
      refine gs_get rfl (by decide) rfl hS.1 tdr rfl rfl rfl (fun z5 ez5 az5 bz5 => ?_)
      refine gz_s 1 (pc' := 29) (L' := [some (.ref x), some (.int (zi q)), none]) (S' := [.int (zi 1), .int (zi z5)]) rfl ?_
      by_cases hc6 : (1 : Int) ≤ z5
      · refine gy_icT (pc' := 42) rfl (by decide) (by decide) (by omega) (by omega) hc6 ?_
        refine gz_s 1 (pc' := 43) (L' := [some (.ref x), some (.int (zi q)), none]) (S' := [.ref x]) rfl ?_
        refine gs_nul rfl (by decide) rfl hS.1 tx rfl rfl rfl (fun ec7 => ?_) (fun c7 ec7 tc7 => ?_)
        · skip
          have no9 := gRw.no hrw ec7
          refine gz_s 2 (pc' := 50) (L' := [some (.ref x), some (.int (zi q)), none]) (S' := [.ref x]) rfl ?_
          refine gs_newo rfl (by decide) rfl hS.1 (Nat.le_of_lt (Nat.lt_of_le_of_lt (gJ.cell hS.1 tx rfl).1 (gJ.cell hS.1 tx rfl).2.1)) (fun ty8 h9 c10 g11 tc10 kc10 zc10 nc10 mc10 ec10 dc10 => ?_)
          have mfc10 : h9.2.1 = h.2.1 + 15 := mc10
          have gac10 : h.1 ≤ c10 := by have h8 := G0.2.1; have h9 := hS.2.1; omega
          have nnc10 : 1027 ≤ c10 := by have h8 := (Nat.le_of_lt (Nat.lt_of_le_of_lt (gJ.cell hS.1 tx rfl).1 (gJ.cell hS.1 tx rfl).2.1)); omega
          have llc10 : c10 < _ := by rw [nc10, ec10]; exact Nat.lt_succ_self _
          have G12 : gSg [71, 72, 73, 74, 75, 76, 77, 78, 79, 80, 81, 85, 91, 92, 93, 94, 95, 96, 97, 98, 99, 114, 200] [] [50006, 55008, 56000, 56001, 56002, 56003, 64999, 71005, 71006, 71007, 71008, 71009, 71010, 71011, 71012, 71013, 71014, 72999, 73999, 74999, 76999, 77999, 78999, 79999, 80999, 81999, 85999, 91004, 91008, 92004, 92008, 93999, 94999, 95999, 96999, 97999, 98999, 99999, 114999] ty h ty8 h9 := gSg.tr (gSg.ss G0 hS (by decide)) g11 (by decide) (by decide) (fun x hx => by cases hx)
          have t13 : ty8 x = 50 := gSg.typ g11 hS.1 tx rfl
          have t14 : ty8 pic = 54 := gSg.typ g11 hS.1 tpic rfl
          have t15 : ty8 b0 = 82 := gSg.typ g11 hS.1 tb0 rfl
          have t16 : ty8 b1 = 83 := gSg.typ g11 hS.1 tb1 rfl
          have t17 : ty8 b2 = 84 := gSg.typ g11 hS.1 tb2 rfl
          have t18 : ty8 dr = 55 := gSg.typ g11 hS.1 tdr rfl
          have t19 : ty8 sk = 56 := gSg.typ g11 hS.1 tsk rfl
          have t20 : ty8 bt = 114 := gSg.typ g11 hS.1 tbt rfl
          have hl21 : h9.2.2.2.1 bt = h.2.2.2.1 bt := gSg.len g11 hS.1 tbt rfl
          have s22 := gSg.at g11 hS.1 tx rfl (by decide) ex2
          have s23 := gSg.at g11 hS.1 tx rfl (by decide) ex3
          have s24 := gSg.at g11 hS.1 tx rfl (by decide) ex4
          have s25 := gSg.at g11 hS.1 tsk rfl (by decide) ex0
          have s26 := gSg.at g11 hS.1 tdr rfl (by decide) en0
          have s27 := gSg.at g11 hS.1 tdr rfl (by decide) eiv
          have s28 := gSg.at g11 hS.1 tsk rfl (by decide) ec0
          have s29 := gSg.at g11 hS.1 tdr rfl (by decide) ez5
          have s30 := gSg.at g11 hS.1 tx rfl (by decide) ec7
          have pr31 := gPC.gr g11 hS.1 (by decide) hpc
          have pr32 := gTc.gr g11 hS.1 (by decide) (by decide) htc
          have pr33 := gRr.gr g11 hS.1 (by decide) (by decide) hrr
          have pr34 := gRw.gr g11 hS.1 (by decide) (by decide) hrw
          have pr35 : gNo [71, 72, 73, 74, 75, 76, 77, 78, 79, 80, 81, 85, 91, 92, 93, 94, 95, 96, 97, 98, 99] ty8 := gNo.gr g11 (by decide) (gNo.sub (by decide) no9)
          have uq36 := gSg.uq g11 uq (by decide)
          have hyst37 := gSta.gr g11 (by decide) (fun x hx => by cases hx) (gSta.fr hS.2 (by decide) hyst)
          have sS38 : gSs rT 1027 ty8 [50006, 55008, 56000, 56001, 56002, 56003, 64999, 71005, 71006, 71007, 71008, 71009, 71010, 71011, 71012, 71013, 71014, 72999, 73999, 74999, 76999, 77999, 78999, 79999, 80999, 81999, 85999, 91004, 91008, 92004, 92008, 93999, 94999, 95999, 96999, 97999, 98999, 99999, 114999] h9 h9 := gSs.rf g11.1
          refine gz_s 2 (pc' := 55) (L' := [some (.ref x), some (.int (zi q)), none]) (S' := [.ref x, .ref c10, .ref c10, .ref x]) rfl ?_
          refine gs_gtk rfl (by decide) rfl sS38.1 t13 rfl rfl s24 ?_
          refine gz_call rfl (by decide) rfl (by decide) (by decide) (gcal_of rfl rfl rfl (Nat.le_of_ble_eq_true rfl) rfl) (ct_Writer _ sS38.1 c10 tc10 nnc10 llc10 kc10 zc10 dc10 sk t19 pr35 uq36) (fun q39 _ wq39 => ?_)
          obtain ⟨pq39, oq39, hq39⟩ := q39
          obtain ⟨tyq39, xq39, trq39_0, gq39, uq39_0, uq39_1, uqq39⟩ := wq39
          dsimp only at uq39_0 uq39_1
          refine ⟨_, gq39, ?_⟩
          show gz gPP gGG gcn _ _ 61 [some (.ref x), some (.int (zi q)), none] [.ref c10, .ref x] hq39 _
          have G40 : gSg [71, 72, 73, 74, 75, 76, 77, 78, 79, 80, 81, 85, 91, 92, 93, 94, 95, 96, 97, 98, 99, 114, 200] [] [50006, 55008, 56000, 56001, 56002, 56003, 64999, 71005, 71006, 71007, 71008, 71009, 71010, 71011, 71012, 71013, 71014, 72999, 73999, 74999, 76999, 77999, 78999, 79999, 80999, 81999, 85999, 91004, 91008, 92004, 92008, 93999, 94999, 95999, 96999, 97999, 98999, 99999, 114999] ty h tyq39 hq39 := gSg.tr (gSg.ss G12 sS38 (by decide)) xq39 (by decide) (by decide) (fun x hx => Or.inl (by rw [List.mem_singleton.mp hx]; exact gac10))
          have t41 : tyq39 x = 50 := gSg.typ xq39 sS38.1 t13 rfl
          have t42 : tyq39 pic = 54 := gSg.typ xq39 sS38.1 t14 rfl
          have t43 : tyq39 b0 = 82 := gSg.typ xq39 sS38.1 t15 rfl
          have t44 : tyq39 b1 = 83 := gSg.typ xq39 sS38.1 t16 rfl
          have t45 : tyq39 b2 = 84 := gSg.typ xq39 sS38.1 t17 rfl
          have t46 : tyq39 dr = 55 := gSg.typ xq39 sS38.1 t18 rfl
          have t47 : tyq39 sk = 56 := gSg.typ xq39 sS38.1 t19 rfl
          have t48 : tyq39 bt = 114 := gSg.typ xq39 sS38.1 t20 rfl
          have hl49 : hq39.2.2.2.1 bt = h9.2.2.2.1 bt := gSg.len xq39 sS38.1 t20 rfl
          have s50 := gSg.at xq39 sS38.1 t13 rfl (by decide) s22
          have s51 := gSg.at xq39 sS38.1 t13 rfl (by decide) s23
          have s52 := gSg.at xq39 sS38.1 t13 rfl (by decide) s24
          have s53 := gSg.at xq39 sS38.1 t19 rfl (by decide) s25
          have s54 := gSg.at xq39 sS38.1 t18 rfl (by decide) s26
          have s55 := gSg.at xq39 sS38.1 t18 rfl (by decide) s27
          have s56 := gSg.at xq39 sS38.1 t19 rfl (by decide) s28
          have s57 := gSg.at xq39 sS38.1 t18 rfl (by decide) s29
          have s58 := gSg.at xq39 sS38.1 t13 rfl (by decide) s30
          have pr59 := gPC.gr xq39 sS38.1 (by decide) pr31
          have pr60 := gTc.gr xq39 sS38.1 (by decide) (by decide) pr32
          have pr61 := gRr.gr xq39 sS38.1 (by decide) (by decide) pr33
          have hyst62 := gSta.gr xq39 (by decide) (fun x hx => by rw [List.mem_singleton.mp hx]; have h9 := nnc10; omega) (gSta.fr sS38.2 (by decide) hyst37)
          have sS63 : gSs rT 1027 tyq39 [50006, 55008, 56000, 56001, 56002, 56003, 64999, 71005, 71006, 71007, 71008, 71009, 71010, 71011, 71012, 71013, 71014, 72999, 73999, 74999, 76999, 77999, 78999, 79999, 80999, 81999, 85999, 91004, 91008, 92004, 92008, 93999, 94999, 95999, 96999, 97999, 98999, 99999, 114999] hq39 hq39 := gSs.rf xq39.1
          refine gs_ptr rfl (by decide) rfl sS63 t41 rfl rfl (Or.inr rfl) rfl (Or.inl rfl) (by decide) trq39_0 (fun h64 sh64 eh64 fh64 => ?_)
          have pr65 := gPC.pk fh64 (sh64.2.2.2.2.1.trans sS63.2.2.2.2.1.symm) t41 (by decide) pr59
          have pr66 := gTc.pt fh64 t41 (by decide) pr60
          have pr67 := gRr.pk fh64 (sh64.2.2.2.2.1.trans sS63.2.2.2.2.1.symm) t41 (by decide) pr61
          have s68 := (fh64 x 2 (fun q => absurd q.2 (by decide))).trans s50
          have s69 := (fh64 x 3 (fun q => absurd q.2 (by decide))).trans s51
          have s70 := (fh64 x 4 (fun q => absurd q.2 (by decide))).trans s52
          have s71 := (fh64 sk 0 (fun q => absurd q.2 (by decide))).trans s53
          have s72 := (fh64 dr 8 (fun q => absurd q.2 (by decide))).trans s54
          have s73 := (fh64 dr 3 (fun q => absurd q.2 (by decide))).trans s55
          have s74 := (fh64 sk 1 (fun q => absurd q.2 (by decide))).trans s56
          have s75 := (fh64 dr 1 (fun q => absurd q.2 (by decide))).trans s57
          refine gz_s 1 (pc' := 65) (L' := [some (.ref x), some (.int (zi q)), none]) (S' := [.ref x]) rfl ?_
          refine gs_gtk rfl (by decide) rfl sh64.1 t41 rfl rfl eh64 ?_
          refine gz_s 1 (pc' := 69) (L' := [some (.ref x), some (.int (zi q)), none]) (S' := [.ref x, .ref c10]) rfl ?_
          refine gs_gtr rfl (by decide) rfl sh64.1 t41 rfl rfl rfl (fun c76 ec76 tc76 => ?_)
          refine gz_s 1 (pc' := 73) (L' := [some (.ref x), some (.int (zi q)), none]) (S' := [.int (zi q), .ref c76, .ref c10]) rfl ?_
          refine gz_call rfl (by decide) rfl (by decide) (by decide) (gcal_of rfl rfl rfl (Nat.le_of_ble_eq_true rfl) (gJ.recv (G := gGG) sh64.1 trq39_0 rfl rfl)) (cl_Writer_makeTable _ sh64.1 c10 trq39_0 c76 tc76 q (by omega) uqq39) (fun q77 _ wq77 => ?_)
          obtain ⟨pq77, oq77, hq77⟩ := q77
          obtain ⟨xq77, gq77⟩ := wq77
          refine ⟨_, gq77, ?_⟩
          show gz gPP gGG gcn _ _ 76 [some (.ref x), some (.int (zi q)), none] [] hq77 _
          have sq77 : gSs rT 1027 tyq39 [50006, 55008, 56000, 56001, 56002, 56003, 64999, 71005, 71006, 71007, 71008, 71009, 71010, 71011, 71012, 71013, 71014, 72999, 73999, 74999, 76999, 77999, 78999, 79999, 80999, 81999, 85999, 91004, 91008, 92004, 92008, 93999, 94999, 95999, 96999, 97999, 98999, 99999, 114999] hq39 hq77 := gSs.tr sh64 xq77 (by decide)
          have s78 := (xq77.2.2.2.2.2 x 2 (by rw [t41]; decide)).trans s68
          have s79 := (xq77.2.2.2.2.2 x 3 (by rw [t41]; decide)).trans s69
          have s80 := (xq77.2.2.2.2.2 x 4 (by rw [t41]; decide)).trans s70
          have s81 := (xq77.2.2.2.2.2 sk 0 (by rw [t47]; decide)).trans s71
          have s82 := (xq77.2.2.2.2.2 dr 8 (by rw [t46]; decide)).trans s72
          have s83 := (xq77.2.2.2.2.2 dr 3 (by rw [t46]; decide)).trans s73
          have s84 := (xq77.2.2.2.2.2 sk 1 (by rw [t47]; decide)).trans s74
          have s85 := (xq77.2.2.2.2.2 dr 1 (by rw [t46]; decide)).trans s75
          have s86 := (xq77.2.2.2.2.2 x 6 (by rw [t41]; decide)).trans eh64
          have s87 := (xq77.2.2.2.2.2 x 1 (by rw [t41]; decide)).trans ec76
          have pr88 := gPC.fr xq77.2 (by decide) pr65
          have pr89 := gTc.fr xq77.2 (by decide) pr66
          have pr90 := gRr.fr xq77.2 (by decide) pr67
          refine gz_s 1 (pc' := 77) (L' := [some (.ref x), some (.int (zi q)), none]) (S' := [.ref x]) rfl ?_
          refine gs_gtk rfl (by decide) rfl sq77.1 t41 rfl rfl s86 ?_
          refine gz_s 1 (pc' := 81) (L' := [some (.ref x), some (.int (zi q)), none]) (S' := [.ref x, .ref c10]) rfl ?_
          refine gs_gtk rfl (by decide) rfl sq77.1 t41 rfl rfl s79 ?_
          refine gz_call rfl (by decide) rfl (by decide) (by decide) (gcal_of rfl rfl rfl (Nat.le_of_ble_eq_true rfl) (gJ.recv (G := gGG) sq77.1 trq39_0 rfl rfl)) (cl_Writer_transformCanvas _ sq77.1 c10 trq39_0 dr t46 (gSta.fr sq77.2 (by decide) hyst62) uqq39) (fun q91 _ wq91 => ?_)
          obtain ⟨pq91, oq91, hq91⟩ := q91
          obtain ⟨xq91, gq91⟩ := wq91
          refine ⟨_, gq91, ?_⟩
          show gz gPP gGG gcn _ _ 87 [some (.ref x), some (.int (zi q)), none] [] hq91 _
          have sq91 : gSs rT 1027 tyq39 [50006, 55008, 56000, 56001, 56002, 56003, 64999, 71005, 71006, 71007, 71008, 71009, 71010, 71011, 71012, 71013, 71014, 72999, 73999, 74999, 76999, 77999, 78999, 79999, 80999, 81999, 85999, 91004, 91008, 92004, 92008, 93999, 94999, 95999, 96999, 97999, 98999, 99999, 114999] hq39 hq91 := gSs.tr sq77 xq91 (by decide)
          have s92 := (xq91.2.2.2.2.2 x 2 (by rw [t41]; decide)).trans s78
          have s93 := (xq91.2.2.2.2.2 x 3 (by rw [t41]; decide)).trans s79
          have s94 := (xq91.2.2.2.2.2 x 4 (by rw [t41]; decide)).trans s80
          have s95 := (xq91.2.2.2.2.2 sk 0 (by rw [t47]; decide)).trans s81
          have s96 := (xq91.2.2.2.2.2 dr 8 (by rw [t46]; decide)).trans s82
          have s97 := (xq91.2.2.2.2.2 dr 3 (by rw [t46]; decide)).trans s83
          have s98 := (xq91.2.2.2.2.2 sk 1 (by rw [t47]; decide)).trans s84
          have s99 := (xq91.2.2.2.2.2 dr 1 (by rw [t46]; decide)).trans s85
          have s100 := (xq91.2.2.2.2.2 x 6 (by rw [t41]; decide)).trans s86
          have s101 := (xq91.2.2.2.2.2 x 1 (by rw [t41]; decide)).trans s87
          have pr102 := gPC.fr xq91.2 (by decide) pr88
          have pr103 := gTc.fr xq91.2 (by decide) pr89
          have pr104 := gRr.fr xq91.2 (by decide) pr90
          refine gz_s 1 (pc' := 88) (L' := [some (.ref x), some (.int (zi q)), none]) (S' := [.ref x]) rfl ?_
          refine gs_gtk rfl (by decide) rfl sq91.1 t41 rfl rfl s100 ?_
          refine gz_s 1 (pc' := 92) (L' := [some (.ref x), some (.int (zi q)), none]) (S' := [.ref x, .ref c10]) rfl ?_
          refine gs_gtk rfl (by decide) rfl sq91.1 t41 rfl rfl s93 ?_
          have k105 := sq91.2.1
          have k105b := sq91.2.2.1
          have hl106 : hq91.2.2.2.1 bt = hq39.2.2.2.1 bt := congrFun sq91.2.2.2.2.1 bt
          obtain ⟨c107, ec107, tc107⟩ := gJ.ref (k := 0) (G := gGG) sq91.1 trq39_0 rfl rfl rfl
          have ee108 : sk = c107 := uqq39 sk c107 (t47.trans tc107.symm) (by rw [t47]; decide) (by rw [t47]; decide)
          subst ee108
          refine gz_call rfl (by decide) rfl (by decide) (by decide) (gcal_of rfl rfl rfl (Nat.le_of_ble_eq_true rfl) (gJ.recv (G := gGG) sq91.1 trq39_0 rfl rfl)) (cl_Writer_putHead _ sq91.1 c10 trq39_0 dr t46 sk ec107 t47 bt s95 t48 uqq39) (fun q109 _ wq109 => ?_)
          obtain ⟨pq109, oq109, hq109⟩ := q109
          obtain ⟨tyq109, xq109, cq109_0, ttq109, fq109_0, fq109_1, ecq109_0, tcq109_0, gq109, efq109_0, afq109_0, bfq109_0, efq109_1, afq109_1, bfq109_1, uq109_0, uq109_1, uq109_2, uq109_3, uq109_4, uq109_5⟩ := wq109
          dsimp only at uq109_2 uq109_3 uq109_4 uq109_5
          refine ⟨_, gq109, ?_⟩
          show gz gPP gGG gcn _ _ 98 [some (.ref x), some (.int (zi q)), none] [] hq109 _
          have G110 : gSg [71, 72, 73, 74, 75, 76, 77, 78, 79, 80, 81, 85, 91, 92, 93, 94, 95, 96, 97, 98, 99, 114, 200] [] [50006, 55008, 56000, 56001, 56002, 56003, 64999, 71005, 71006, 71007, 71008, 71009, 71010, 71011, 71012, 71013, 71014, 72999, 73999, 74999, 76999, 77999, 78999, 79999, 80999, 81999, 85999, 91004, 91008, 92004, 92008, 93999, 94999, 95999, 96999, 97999, 98999, 99999, 114999] ty h tyq109 hq109 := gSg.tr (gSg.ss G40 sq91 (by decide)) xq109 (by decide) (by decide) (fun x hx => by cases hx)
          have t111 : tyq109 x = 50 := gSg.typ xq109 sq91.1 t41 rfl
          have t112 : tyq109 pic = 54 := gSg.typ xq109 sq91.1 t42 rfl
          have t113 : tyq109 b0 = 82 := gSg.typ xq109 sq91.1 t43 rfl
          have t114 : tyq109 b1 = 83 := gSg.typ xq109 sq91.1 t44 rfl
          have t115 : tyq109 b2 = 84 := gSg.typ xq109 sq91.1 t45 rfl
          have t116 : tyq109 dr = 55 := gSg.typ xq109 sq91.1 t46 rfl
          have t117 : tyq109 sk = 56 := gSg.typ xq109 sq91.1 t47 rfl
          have t118 : tyq109 bt = 114 := gSg.typ xq109 sq91.1 t48 rfl
          have hl119 : hq109.2.2.2.1 bt = hq91.2.2.2.1 bt := gSg.len xq109 sq91.1 t48 rfl
          have t120 : tyq109 c10 = 71 := gSg.typ xq109 sq91.1 trq39_0 rfl
          have t121 : tyq109 c76 = 53 := gSg.typ xq109 sq91.1 tc76 rfl
          have s122 := gSg.at xq109 sq91.1 t41 rfl (by decide) s92
          have s123 := gSg.at xq109 sq91.1 t41 rfl (by decide) s93
          have s124 := gSg.at xq109 sq91.1 t41 rfl (by decide) s94
          have s125 := gSg.at xq109 sq91.1 t46 rfl (by decide) s96
          have s126 := gSg.at xq109 sq91.1 t46 rfl (by decide) s97
          have s127 := gSg.at xq109 sq91.1 t46 rfl (by decide) s99
          have s128 := gSg.at xq109 sq91.1 t41 rfl (by decide) s100
          have s129 := gSg.at xq109 sq91.1 t41 rfl (by decide) s101
          have s130 := gSg.at xq109 sq91.1 trq39_0 rfl (by decide) ec107
          have pr131 := gPC.gr xq109 sq91.1 (by decide) pr102
          have pr132 := gTc.gr xq109 sq91.1 (by decide) (by decide) pr103
          have pr133 := gRr.gr xq109 sq91.1 (by decide) (by decide) pr104
          have uq134 := gSg.uq xq109 uqq39 (by decide)
          have hyst135 := gSta.gr xq109 (by decide) (fun x hx => by cases hx) (gSta.fr sq91.2 (by decide) hyst62)
          have sS136 : gSs rT 1027 tyq109 [50006, 55008, 56000, 56001, 56002, 56003, 64999, 71005, 71006, 71007, 71008, 71009, 71010, 71011, 71012, 71013, 71014, 72999, 73999, 74999, 76999, 77999, 78999, 79999, 80999, 81999, 85999, 91004, 91008, 92004, 92008, 93999, 94999, 95999, 96999, 97999, 98999, 99999, 114999] hq109 hq109 := gSs.rf xq109.1
          refine gz_s 1 (pc' := 99) (L' := [some (.ref x), some (.int (zi q)), none]) (S' := [.ref x]) rfl ?_
          refine gs_gtk rfl (by decide) rfl sS136.1 t111 rfl rfl s123 ?_
          refine gs_gtk rfl (by decide) rfl sS136.1 t116 rfl rfl s125 ?_
          by_cases hc137 : ¬ (n0 : Int) = 0
          · refine gy_ifT (pc' := 120) rfl (by decide) (by decide) (by omega) hc137 ?_
            obtain ⟨tf, tt, cf, rf, rt, rc, tle, tsm⟩ := pr132
            have hg0 := gsf_nn (f := fun j => gcr (cf j)) (fun j => by unfold gcr; split <;> omega) 64
            have hgl0 : gTl tf tt 0 = 0 := rfl
            refine gz_s 2 (pc' := 122) (L' := [some (.ref x), some (.int (zi q)), some (.int (zi 0))]) (S' := []) rfl ?_
            have lp138 : ∀ (fu : Nat) (ty140 : Nat → Nat) (h139 : gH) (bv : Nat) (i : Int) (cv : Int) (hv : Int), (11 - i).toNat < fu → gSg [71, 72, 73, 74, 75, 76, 77, 78, 79, 80, 81, 85, 91, 92, 93, 94, 95, 96, 97, 98, 99, 114, 200] [] [50006, 55008, 56000, 56001, 56002, 56003, 64999, 71005, 71006, 71007, 71008, 71009, 71010, 71011, 71012, 71013, 71014, 72999, 73999, 74999, 76999, 77999, 78999, 79999, 80999, 81999, 85999, 91004, 91008, 92004, 92008, 93999, 94999, 95999, 96999, 97999, 98999, 99999, 114999] ty h ty140 h139 → gUq ty140 → gSta ty140 h139 → ty140 x = 50 → ty140 pic = 54 → ty140 dr = 55 → ty140 sk = 56 → ty140 c10 = 71 → ty140 c76 = 53 → h139.2.2.2.2 sk 0 = .ref bv → ty140 bv = 114 → (0 ≤ i ∧ i ≤ 10) → (0 ≤ cv ∧ cv ≤ 499999) → (0 ≤ hv ∧ hv ≤ 7) → ((n0 = 0 ∧ 4 * cv + hv ≤ 336000) ∨ 4 * cv + hv ≤ 400 + 7876 * i + 5120 * gTl tf tt i) → (i ≤ n0) → (cv ≤ (h139.2.2.2.1 bv : Int)) → (1024 * (((h139.1 : Int) - h.1) - 21) ≤ (h139.2.2.2.1 bv : Int) - lb) → (((h139.2.1 : Int) - h.2.1) ≤ 4303 + 2 * ((h139.2.2.2.1 bv : Int) - lb)) → (lb ≤ (h139.2.2.2.1 bv : Int)) → h139.2.2.2.2 x 2 = .ref pic → h139.2.2.2.2 x 3 = .ref dr → h139.2.2.2.2 x 4 = .ref sk → h139.2.2.2.2 dr 8 = .int (zi n0) → h139.2.2.2.2 dr 3 = .int (zi iv) → h139.2.2.2.2 dr 1 = .int (zi z5) → h139.2.2.2.2 x 6 = .ref c10 → h139.2.2.2.2 x 1 = .ref c76 → h139.2.2.2.2 c10 0 = .ref sk → h139.2.2.2.2 sk 1 = .int (zi cv) → h139.2.2.2.2 sk 3 = .int (zi hv) → gPC ty140 pic b0 b1 b2 ld h139 → gRr ty140 x h139 → gRow ty140 60 tf h139 → gRow ty140 61 tt h139 → gz gPP gGG gcn (d + 8) gt89 122 [some (.ref x), some (.int (zi q)), some (.int (zi i))] [] h139 (fun q _ => ∃ ty9 : Nat → Nat, gSg [71, 72, 73, 74, 75, 76, 77, 78, 79, 80, 81, 85, 91, 92, 93, 94, 95, 96, 97, 98, 99, 114, 200] [] [50006, 55008, 56000, 56001, 56002, 56003, 64999, 71005, 71006, 71007, 71008, 71009, 71010, 71011, 71012, 71013, 71014, 72999, 73999, 74999, 76999, 77999, 78999, 79999, 80999, 81999, 85999, 91004, 91008, 92004, 92008, 93999, 94999, 95999, 96999, 97999, 98999, 99999, 114999] ty h ty9 q.2.2 ∧ ∃ ld1 lb1 iv1 : Int, 0 ≤ ld1 ∧ ld1 ≤ 192 ∧ 1024 ≤ lb1 ∧ lb1 ≤ 1000000 ∧ 0 ≤ iv1 ∧ iv1 ≤ 100 ∧ (gIx ty9 x ld1 lb1 iv1 q.2.2) ∧ gUq ty9 ∧ ((∃ z : Int, gfin gt89 q.1 q.2.1 = some (some (.int (zi z))) ∧ (-2147483648) ≤ z ∧ z ≤ 2147483647 ∧ (iv1 = iv) ∧ (1024 * (((q.2.2.1 : Int) - h.1) - 31 - 2 * (ld1 - ld)) ≤ lb1 - lb) ∧ (((q.2.2.2.1 : Int) - h.2.1) ≤ 4303 + 12480 * (ld1 - ld) + 2 * (lb1 - lb)) ∧ (ld ≤ ld1) ∧ (lb ≤ lb1)) ∨ (q.2.1 = [] ∧ ((q.1 = 11) ∨ (q.1 = 32)) ∧ (iv1 = iv) ∧ (1024 * (((q.2.2.1 : Int) - h.1) - 31 - 2 * (ld1 - ld)) ≤ lb1 - lb) ∧ (((q.2.2.2.1 : Int) - h.2.1) ≤ 4303 + 12480 * (ld1 - ld) + 2 * (lb1 - lb)) ∧ (ld ≤ ld1) ∧ (lb ≤ lb1)))) := by
              intro fu
              induction fu with
              | zero => intro ty140 h139 bv i cv hv hm; exact absurd hm (Nat.not_lt_zero _)
              | succ fu ihlp138 =>
                intro ty140 h139 bv i cv hv lp138m lp138G lp138u lp138t lp138c0 lp138c1 lp138c2 lp138c3 lp138c4 lp138c5 lp138r0 lp138r1 lp138f0 lp138f1 lp138f2 lp138f3 lp138f4 lp138f5 lp138f6 lp138f7 lp138f8 lp138k0 lp138k1 lp138k2 lp138k3 lp138k4 lp138k5 lp138k6 lp138k7 lp138k8 lp138k9 lp138k10 lp138k11 lp138k12 lp138k13 lp138k14
                have sh139 : gSs rT 1027 ty140 [50006, 55008, 56000, 56001, 56002, 56003, 64999, 71005, 71006, 71007, 71008, 71009, 71010, 71011, 71012, 71013, 71014, 72999, 73999, 74999, 76999, 77999, 78999, 79999, 80999, 81999, 85999, 91004, 91008, 92004, 92008, 93999, 94999, 95999, 96999, 97999, 98999, 99999, 114999] h139 h139 := gSs.rf lp138G.1
                refine gz_s 2 (pc' := 124) (L' := [some (.ref x), some (.int (zi q)), some (.int (zi i))]) (S' := [.ref x, .int (zi i)]) rfl ?_
                refine gs_gtk rfl (by decide) rfl sh139.1 lp138c0 rfl rfl lp138k1 ?_
                refine gs_gtk rfl (by decide) rfl sh139.1 lp138c2 rfl rfl lp138k3 ?_
                by_cases hc141 : (n0 : Int) ≤ i
                · refine gy_icT (pc' := 182) rfl (by decide) (by decide) (by omega) (by omega) hc141 ?_
                  refine gz_s 1 (pc' := 183) (L' := [some (.ref x), some (.int (zi q)), some (.int (zi i))]) (S' := [.ref x]) rfl ?_
                  refine gs_gtk rfl (by decide) rfl sh139.1 lp138c0 rfl rfl lp138k6 ?_
                  have hl142 : h139.2.2.2.1 bv = h139.2.2.2.1 bv := congrFun sh139.2.2.2.2.1 bv
                  refine gz_call rfl (by decide) rfl (by decide) (by decide) (gcal_of rfl rfl rfl (Nat.le_of_ble_eq_true rfl) (gJ.recv (G := gGG) sh139.1 lp138c4 rfl rfl)) (cl_Writer_putEnd _ sh139.1 c10 lp138c4 sk lp138k8 lp138c3 bv lp138r0 lp138r1 cv lp138k9 (by omega) (by omega) lp138u) (fun q143 _ wq143 => ?_)
                  obtain ⟨pq143, oq143, hq143⟩ := q143
                  obtain ⟨tyq143, xq143, cq143_0, ttq143, fq143_0, ecq143_0, tcq143_0, gq143, efq143_0, afq143_0, bfq143_0, uq143_0, uq143_1, uq143_2, uq143_3, uq143_4⟩ := wq143
                  dsimp only at uq143_1 uq143_2 uq143_3 uq143_4
                  refine ⟨_, gq143, ?_⟩
                  show gz gPP gGG gcn _ _ 189 [some (.ref x), some (.int (zi q)), some (.int (zi i))] [] hq143 _
                  have G144 : gSg [71, 72, 73, 74, 75, 76, 77, 78, 79, 80, 81, 85, 91, 92, 93, 94, 95, 96, 97, 98, 99, 114, 200] [] [50006, 55008, 56000, 56001, 56002, 56003, 64999, 71005, 71006, 71007, 71008, 71009, 71010, 71011, 71012, 71013, 71014, 72999, 73999, 74999, 76999, 77999, 78999, 79999, 80999, 81999, 85999, 91004, 91008, 92004, 92008, 93999, 94999, 95999, 96999, 97999, 98999, 99999, 114999] ty h tyq143 hq143 := gSg.tr (gSg.ss lp138G sh139 (by decide)) xq143 (by decide) (by decide) (fun x hx => by cases hx)
                  have t145 : tyq143 x = 50 := gSg.typ xq143 sh139.1 lp138c0 rfl
                  have t146 : tyq143 pic = 54 := gSg.typ xq143 sh139.1 lp138c1 rfl
                  have t147 : tyq143 dr = 55 := gSg.typ xq143 sh139.1 lp138c2 rfl
                  have t148 : tyq143 sk = 56 := gSg.typ xq143 sh139.1 lp138c3 rfl
                  have t149 : tyq143 c10 = 71 := gSg.typ xq143 sh139.1 lp138c4 rfl
                  have t150 : tyq143 c76 = 53 := gSg.typ xq143 sh139.1 lp138c5 rfl
                  have t151 : tyq143 bv = 114 := gSg.typ xq143 sh139.1 lp138r1 rfl
                  have hl152 : hq143.2.2.2.1 bv = h139.2.2.2.1 bv := gSg.len xq143 sh139.1 lp138r1 rfl
                  have s153 := gSg.at xq143 sh139.1 lp138c0 rfl (by decide) lp138k0
                  have s154 := gSg.at xq143 sh139.1 lp138c0 rfl (by decide) lp138k1
                  have s155 := gSg.at xq143 sh139.1 lp138c0 rfl (by decide) lp138k2
                  have s156 := gSg.at xq143 sh139.1 lp138c2 rfl (by decide) lp138k3
                  have s157 := gSg.at xq143 sh139.1 lp138c2 rfl (by decide) lp138k4
                  have s158 := gSg.at xq143 sh139.1 lp138c2 rfl (by decide) lp138k5
                  have s159 := gSg.at xq143 sh139.1 lp138c0 rfl (by decide) lp138k6
                  have s160 := gSg.at xq143 sh139.1 lp138c0 rfl (by decide) lp138k7
                  have s161 := gSg.at xq143 sh139.1 lp138c4 rfl (by decide) lp138k8
                  have s162 := gSg.at xq143 sh139.1 lp138c3 rfl (by decide) lp138k10
                  have pr163 := gPC.gr xq143 sh139.1 (by decide) lp138k11
                  have pr164 := gRr.gr xq143 sh139.1 (by decide) (by decide) lp138k12
                  have pr165 := gRow.gr xq143 sh139.1 rfl (by decide) (by decide) lp138k13
                  have pr166 := gRow.gr xq143 sh139.1 rfl (by decide) (by decide) lp138k14
                  have uq167 := gSg.uq xq143 lp138u (by decide)
                  have hyst168 := gSta.gr xq143 (by decide) (fun x hx => by cases hx) (gSta.fr sh139.2 (by decide) lp138t)
                  have sS169 : gSs rT 1027 tyq143 [50006, 55008, 56000, 56001, 56002, 56003, 64999, 71005, 71006, 71007, 71008, 71009, 71010, 71011, 71012, 71013, 71014, 72999, 73999, 74999, 76999, 77999, 78999, 79999, 80999, 81999, 85999, 91004, 91008, 92004, 92008, 93999, 94999, 95999, 96999, 97999, 98999, 99999, 114999] hq143 hq143 := gSs.rf xq143.1
                  refine gz_s 1 (pc' := 190) (L' := [some (.ref x), some (.int (zi q)), some (.int (zi i))]) (S' := [.ref x]) rfl ?_
                  refine gs_gtk rfl (by decide) rfl sS169.1 t145 rfl rfl s154 ?_
                  refine gz_call rfl (by decide) rfl (by decide) (by decide) (gcal_of rfl rfl rfl (Nat.le_of_ble_eq_true rfl) (gJ.recv (G := gGG) sS169.1 t147 rfl rfl)) (cl_Draft_forgetScans _ sS169.1 dr t147 uq167) (fun q170 _ wq170 => ?_)
                  obtain ⟨pq170, oq170, hq170⟩ := q170
                  obtain ⟨xq170, fq170_0, gq170, efq170_0, afq170_0, bfq170_0, uq170_0, yq170_0⟩ := wq170
                  refine ⟨_, gq170, ?_⟩
                  show gz gPP gGG gcn _ _ 196 [some (.ref x), some (.int (zi q)), some (.int (zi i))] [] hq170 _
                  have sq170 : gSs rT 1027 tyq143 [50006, 55008, 56000, 56001, 56002, 56003, 64999, 71005, 71006, 71007, 71008, 71009, 71010, 71011, 71012, 71013, 71014, 72999, 73999, 74999, 76999, 77999, 78999, 79999, 80999, 81999, 85999, 91004, 91008, 92004, 92008, 93999, 94999, 95999, 96999, 97999, 98999, 99999, 114999] hq143 hq170 := gSs.tr sS169 xq170 (by decide)
                  have s171 := (xq170.2.2.2.2.2 x 2 (by rw [t145]; decide)).trans s153
                  have s172 := (xq170.2.2.2.2.2 x 3 (by rw [t145]; decide)).trans s154
                  have s173 := (xq170.2.2.2.2.2 x 4 (by rw [t145]; decide)).trans s155
                  have s174 := (xq170.2.2.2.2.2 dr 3 (by rw [t147]; decide)).trans s157
                  have s175 := (xq170.2.2.2.2.2 dr 1 (by rw [t147]; decide)).trans s158
                  have s176 := (xq170.2.2.2.2.2 x 6 (by rw [t145]; decide)).trans s159
                  have s177 := (xq170.2.2.2.2.2 x 1 (by rw [t145]; decide)).trans s160
                  have s178 := (xq170.2.2.2.2.2 c10 0 (by rw [t149]; decide)).trans s161
                  have s179 := (xq170.2.2.2.2.2 sk 3 (by rw [t148]; decide)).trans s162
                  have s180 := (xq170.2.2.2.2.2 sk 0 (by rw [t148]; decide)).trans ecq143_0
                  have s181 := (xq170.2.2.2.2.2 sk 1 (by rw [t148]; decide)).trans efq143_0
                  have pr182 := gPC.fr xq170.2 (by decide) pr163
                  have pr183 := gRr.fr xq170.2 (by decide) pr164
                  have pr184 := gRow.fr xq170.2 (by decide) pr165
                  have pr185 := gRow.fr xq170.2 (by decide) pr166
                  refine gz_s 1 (pc' := 197) (L' := [some (.ref x), some (.int (zi q)), some (.int (zi i))]) (S' := [.ref x]) rfl ?_
                  refine gs_gtk rfl (by decide) rfl sq170.1 t145 rfl rfl s173 ?_
                  refine gs_gtk rfl (by decide) rfl sq170.1 t148 rfl rfl s181 ?_
                  have k186 := sq170.2.1
                  have k186b := sq170.2.2.1
                  have hl187 : hq170.2.2.2.1 bv = hq143.2.2.2.1 bv := congrFun sq170.2.2.2.2.1 bv
                  have hl188 : hq170.2.2.2.1 cq143_0 = hq143.2.2.2.1 cq143_0 := congrFun sq170.2.2.2.2.1 cq143_0
                  have k189 := sq170.2.1
                  have k189b := sq170.2.2.1
                  have hl190 : hq170.2.2.2.1 bv = hq143.2.2.2.1 bv := congrFun sq170.2.2.2.2.1 bv
                  have hl191 : hq170.2.2.2.1 cq143_0 = hq143.2.2.2.1 cq143_0 := congrFun sq170.2.2.2.2.1 cq143_0
                  have hix192 : gIx tyq143 x ld (hq170.2.2.2.1 cq143_0 : Int) iv hq170 := ⟨pic, b0, b1, b2, dr, sk, cq143_0, fq170_0, fq143_0, ⟨t145, t147, t148, tcq143_0⟩, ⟨s171, s172, s173, s180⟩, pr182, (by rw [(by omega : fq170_0 = 0)]; exact yq170_0), ⟨efq170_0, by omega, by omega⟩, ⟨s174, by omega, by omega⟩, ⟨s181, by omega, by omega⟩, ⟨by omega, by omega⟩, pr183, ⟨t145, Or.inr ⟨c10, s176, t149⟩⟩⟩
                  have G193 : gSg [71, 72, 73, 74, 75, 76, 77, 78, 79, 80, 81, 85, 91, 92, 93, 94, 95, 96, 97, 98, 99, 114, 200] [] [50006, 55008, 56000, 56001, 56002, 56003, 64999, 71005, 71006, 71007, 71008, 71009, 71010, 71011, 71012, 71013, 71014, 72999, 73999, 74999, 76999, 77999, 78999, 79999, 80999, 81999, 85999, 91004, 91008, 92004, 92008, 93999, 94999, 95999, 96999, 97999, 98999, 99999, 114999] ty h tyq143 hq170 := gSg.ss G144 sq170 (by decide)
                  exact gz_end (I := .ireturn) (len := 1) rfl (Or.inl rfl) ⟨tyq143, G193, ld, (hq170.2.2.2.1 cq143_0 : Int), iv, (by omega), (by omega), (by omega), (by omega), (by omega), (by omega), hix192, uq167, Or.inl ⟨fq143_0, rfl, (by omega), (by omega), (by omega), (by dsimp only; omega), (by dsimp only; omega), (by omega), (by omega)⟩⟩
                · refine gy_icF rfl (by decide) (by decide) (by omega) (by omega) hc141 ?_
                  refine gz_s 1 (pc' := 134) (L' := [some (.ref x), some (.int (zi q)), some (.int (zi i))]) (S' := [.ref x]) rfl ?_
                  refine gs_gtk rfl (by decide) rfl sh139.1 lp138c0 rfl rfl lp138k6 ?_
                  refine gz_s 1 (pc' := 138) (L' := [some (.ref x), some (.int (zi q)), some (.int (zi i))]) (S' := [.ref x, .ref c10]) rfl ?_
                  refine gs_gtk rfl (by decide) rfl sh139.1 lp138c0 rfl rfl lp138k1 ?_
                  refine gs_gtr rfl (by decide) rfl sh139.1 lp138c2 rfl rfl rfl (fun c194 ec194 tc194 => ?_)
                  refine gz_s 1 (pc' := 145) (L' := [some (.ref x), some (.int (zi q)), some (.int (zi i))]) (S' := [.int (zi i), .ref c194, .ref c10]) rfl ?_
                  have hl195 : 10 ≤ h139.2.2.2.1 c194 ∧ h139.2.2.2.1 c194 ≤ 10 := gJ.rowl (G := gGG) sh139.1 tc194 rfl
                  refine gs_ald rfl (by decide) sh139.1 tc194 rfl rfl rfl (by decide) (fun _ => rfl) (by omega) (by omega) (fun z196 ez196 az196 bz196 => ?_)
                  have hf197 := gRow.at (i := i) (z := z196) lp138k13 tc194 ez196 (by omega) (by omega) (by omega)
                  refine gz_s 1 (pc' := 147) (L' := [some (.ref x), some (.int (zi q)), some (.int (zi i))]) (S' := [.ref x, .int (zi z196), .ref c10]) rfl ?_
                  refine gs_gtk rfl (by decide) rfl sh139.1 lp138c0 rfl rfl lp138k1 ?_
                  refine gs_gtr rfl (by decide) rfl sh139.1 lp138c2 rfl rfl rfl (fun c198 ec198 tc198 => ?_)
                  refine gz_s 1 (pc' := 154) (L' := [some (.ref x), some (.int (zi q)), some (.int (zi i))]) (S' := [.int (zi i), .ref c198, .int (zi z196), .ref c10]) rfl ?_
                  have hl199 : 10 ≤ h139.2.2.2.1 c198 ∧ h139.2.2.2.1 c198 ≤ 10 := gJ.rowl (G := gGG) sh139.1 tc198 rfl
                  refine gs_ald rfl (by decide) sh139.1 tc198 rfl rfl rfl (by decide) (fun _ => rfl) (by omega) (by omega) (fun z200 ez200 az200 bz200 => ?_)
                  have hf201 := gRow.at (i := i) (z := z200) lp138k14 tc198 ez200 (by omega) (by omega) (by omega)
                  refine gz_s 1 (pc' := 156) (L' := [some (.ref x), some (.int (zi q)), some (.int (zi i))]) (S' := [.ref x, .int (zi z200), .int (zi z196), .ref c10]) rfl ?_
                  refine gs_gtk rfl (by decide) rfl sh139.1 lp138c0 rfl rfl lp138k1 ?_
                  refine gs_gtr rfl (by decide) rfl sh139.1 lp138c2 rfl rfl rfl (fun c202 ec202 tc202 => ?_)
                  refine gz_s 1 (pc' := 163) (L' := [some (.ref x), some (.int (zi q)), some (.int (zi i))]) (S' := [.int (zi i), .ref c202, .int (zi z200), .int (zi z196), .ref c10]) rfl ?_
                  have hl203 : 10 ≤ h139.2.2.2.1 c202 ∧ h139.2.2.2.1 c202 ≤ 10 := gJ.rowl (G := gGG) sh139.1 tc202 rfl
                  refine gs_ald rfl (by decide) sh139.1 tc202 rfl rfl rfl (by decide) (fun _ => rfl) (by omega) (by omega) (fun z204 ez204 az204 bz204 => ?_)
                  refine gz_s 1 (pc' := 165) (L' := [some (.ref x), some (.int (zi q)), some (.int (zi i))]) (S' := [.ref x, .int (zi z204), .int (zi z200), .int (zi z196), .ref c10]) rfl ?_
                  refine gs_gtk rfl (by decide) rfl sh139.1 lp138c0 rfl rfl lp138k1 ?_
                  refine gs_gtr rfl (by decide) rfl sh139.1 lp138c2 rfl rfl rfl (fun c205 ec205 tc205 => ?_)
                  refine gz_s 1 (pc' := 172) (L' := [some (.ref x), some (.int (zi q)), some (.int (zi i))]) (S' := [.int (zi i), .ref c205, .int (zi z204), .int (zi z200), .int (zi z196), .ref c10]) rfl ?_
                  have hl206 : 10 ≤ h139.2.2.2.1 c205 ∧ h139.2.2.2.1 c205 ≤ 10 := gJ.rowl (G := gGG) sh139.1 tc205 rfl
                  refine gs_ald rfl (by decide) sh139.1 tc205 rfl rfl rfl (by decide) (fun _ => rfl) (by omega) (by omega) (fun z207 ez207 az207 bz207 => ?_)
                  have htl := tle (i).toNat (by omega)
                  have hst := gTl_st (f := tf) (t := tt) (k := i) (a := z196) (b := z200) (by omega) hf197 hf201
                  have hle := gTl_le (f := tf) (t := tt) (k := i + 1) (n := n0) tle (by omega)
                  have hl208 : h139.2.2.2.1 bv = h139.2.2.2.1 bv := congrFun sh139.2.2.2.2.1 bv
                  refine gz_call rfl (by decide) rfl (by decide) (by decide) (gcal_of rfl rfl rfl (Nat.le_of_ble_eq_true rfl) (gJ.recv (G := gGG) sh139.1 lp138c4 rfl rfl)) (cl_Writer_putScan _ sh139.1 c10 lp138c4 z196 (by omega) z200 (by omega) z204 (by omega) z207 (by omega) sk lp138k8 lp138c3 bv lp138r0 lp138r1 cv lp138k9 (by omega) hv lp138k10 (by omega) (by omega) (by omega) (by omega) lp138u) (fun q209 _ wq209 => ?_)
                  obtain ⟨pq209, oq209, hq209⟩ := q209
                  obtain ⟨tyq209, xq209, cq209_0, ttq209, fq209_0, fq209_1, ecq209_0, tcq209_0, gq209, efq209_0, afq209_0, bfq209_0, efq209_1, afq209_1, bfq209_1, uq209_0, uq209_1, uq209_2, uq209_3, uq209_4, uq209_5⟩ := wq209
                  dsimp only at uq209_2 uq209_3 uq209_4 uq209_5
                  refine ⟨_, gq209, ?_⟩
                  show gz gPP gGG gcn _ _ 176 [some (.ref x), some (.int (zi q)), some (.int (zi i))] [] hq209 _
                  have G210 : gSg [71, 72, 73, 74, 75, 76, 77, 78, 79, 80, 81, 85, 91, 92, 93, 94, 95, 96, 97, 98, 99, 114, 200] [] [50006, 55008, 56000, 56001, 56002, 56003, 64999, 71005, 71006, 71007, 71008, 71009, 71010, 71011, 71012, 71013, 71014, 72999, 73999, 74999, 76999, 77999, 78999, 79999, 80999, 81999, 85999, 91004, 91008, 92004, 92008, 93999, 94999, 95999, 96999, 97999, 98999, 99999, 114999] ty h tyq209 hq209 := gSg.tr (gSg.ss lp138G sh139 (by decide)) xq209 (by decide) (by decide) (fun x hx => by cases hx)
                  have t211 : tyq209 x = 50 := gSg.typ xq209 sh139.1 lp138c0 rfl
                  have t212 : tyq209 pic = 54 := gSg.typ xq209 sh139.1 lp138c1 rfl
                  have t213 : tyq209 dr = 55 := gSg.typ xq209 sh139.1 lp138c2 rfl
                  have t214 : tyq209 sk = 56 := gSg.typ xq209 sh139.1 lp138c3 rfl
                  have t215 : tyq209 c10 = 71 := gSg.typ xq209 sh139.1 lp138c4 rfl
                  have t216 : tyq209 c76 = 53 := gSg.typ xq209 sh139.1 lp138c5 rfl
                  have t217 : tyq209 bv = 114 := gSg.typ xq209 sh139.1 lp138r1 rfl
                  have hl218 : hq209.2.2.2.1 bv = h139.2.2.2.1 bv := gSg.len xq209 sh139.1 lp138r1 rfl
                  have t219 : tyq209 c194 = 60 := gSg.typ xq209 sh139.1 tc194 rfl
                  have t220 : tyq209 c198 = 61 := gSg.typ xq209 sh139.1 tc198 rfl
                  have t221 : tyq209 c202 = 62 := gSg.typ xq209 sh139.1 tc202 rfl
                  have t222 : tyq209 c205 = 63 := gSg.typ xq209 sh139.1 tc205 rfl
                  have s223 := gSg.at xq209 sh139.1 lp138c0 rfl (by decide) lp138k0
                  have s224 := gSg.at xq209 sh139.1 lp138c0 rfl (by decide) lp138k1
                  have s225 := gSg.at xq209 sh139.1 lp138c0 rfl (by decide) lp138k2
                  have s226 := gSg.at xq209 sh139.1 lp138c2 rfl (by decide) lp138k3
                  have s227 := gSg.at xq209 sh139.1 lp138c2 rfl (by decide) lp138k4
                  have s228 := gSg.at xq209 sh139.1 lp138c2 rfl (by decide) lp138k5
                  have s229 := gSg.at xq209 sh139.1 lp138c0 rfl (by decide) lp138k6
                  have s230 := gSg.at xq209 sh139.1 lp138c0 rfl (by decide) lp138k7
                  have s231 := gSg.at xq209 sh139.1 lp138c4 rfl (by decide) lp138k8
                  have s232 := gSg.at xq209 sh139.1 lp138c2 rfl (by decide) ec194
                  have s233 := gSg.at xq209 sh139.1 lp138c2 rfl (by decide) ec198
                  have s234 := gSg.at xq209 sh139.1 lp138c2 rfl (by decide) ec202
                  have s235 := gSg.at xq209 sh139.1 lp138c2 rfl (by decide) ec205
                  have pr236 := gPC.gr xq209 sh139.1 (by decide) lp138k11
                  have pr237 := gRr.gr xq209 sh139.1 (by decide) (by decide) lp138k12
                  have pr238 := gRow.gr xq209 sh139.1 rfl (by decide) (by decide) lp138k13
                  have pr239 := gRow.gr xq209 sh139.1 rfl (by decide) (by decide) lp138k14
                  have uq240 := gSg.uq xq209 lp138u (by decide)
                  have hyst241 := gSta.gr xq209 (by decide) (fun x hx => by cases hx) (gSta.fr sh139.2 (by decide) lp138t)
                  have sS242 : gSs rT 1027 tyq209 [50006, 55008, 56000, 56001, 56002, 56003, 64999, 71005, 71006, 71007, 71008, 71009, 71010, 71011, 71012, 71013, 71014, 72999, 73999, 74999, 76999, 77999, 78999, 79999, 80999, 81999, 85999, 91004, 91008, 92004, 92008, 93999, 94999, 95999, 96999, 97999, 98999, 99999, 114999] hq209 hq209 := gSs.rf xq209.1
                  refine gy_s 2 (pc' := 122) (L' := [some (.ref x), some (.int (zi q)), some (.int ((zi i) + zi 1))]) (S' := []) (L2 := [some (.ref x), some (.int (zi q)), some (.int (zi (i + 1)))]) (S2 := []) rfl (by simp only [zi_add, zi_sub, zi_mul, zi_neg, zi_and1, zi_and7, zi_and15, zi_and31, zi_and255]) (by simp only [zi_add, zi_sub, zi_mul, zi_neg, zi_and1, zi_and7, zi_and15, zi_and31, zi_and255]) ?_
                  have G243 : gSg [71, 72, 73, 74, 75, 76, 77, 78, 79, 80, 81, 85, 91, 92, 93, 94, 95, 96, 97, 98, 99, 114, 200] [] [50006, 55008, 56000, 56001, 56002, 56003, 64999, 71005, 71006, 71007, 71008, 71009, 71010, 71011, 71012, 71013, 71014, 72999, 73999, 74999, 76999, 77999, 78999, 79999, 80999, 81999, 85999, 91004, 91008, 92004, 92008, 93999, 94999, 95999, 96999, 97999, 98999, 99999, 114999] ty h tyq209 hq209 := gSg.ss G210 sS242 (by decide)
                  exact gz_wk (ihlp138 tyq209 hq209 cq209_0 (i + 1) fq209_0 fq209_1 (by omega) G243 uq240 (gSta.fr sS242.2 (by decide) hyst241) t211 t212 t213 t214 t215 t216 ecq209_0 tcq209_0 (by omega) (by omega) (by omega) (by omega) (by omega) (by omega) (by omega) (by omega) (by omega) s223 s224 s225 s226 s227 s228 s229 s230 s231 efq209_0 efq209_1 pr236 pr237 pr238 pr239) (gLw.s (gLw.s (gLw.s gLw.z)))
            have G244 : gSg [71, 72, 73, 74, 75, 76, 77, 78, 79, 80, 81, 85, 91, 92, 93, 94, 95, 96, 97, 98, 99, 114, 200] [] [50006, 55008, 56000, 56001, 56002, 56003, 64999, 71005, 71006, 71007, 71008, 71009, 71010, 71011, 71012, 71013, 71014, 72999, 73999, 74999, 76999, 77999, 78999, 79999, 80999, 81999, 85999, 91004, 91008, 92004, 92008, 93999, 94999, 95999, 96999, 97999, 98999, 99999, 114999] ty h tyq109 hq109 := gSg.ss G110 sS136 (by decide)
            exact gz_wk (lp138 _ tyq109 hq109 cq109_0 0 fq109_0 fq109_1 (Nat.lt_succ_self _) G244 uq134 (gSta.fr sS136.2 (by decide) hyst135) t111 t112 t116 t117 t120 t121 ecq109_0 tcq109_0 (by omega) (by omega) (by omega) (by omega) (by omega) (by omega) (by omega) (by omega) (by omega) s122 s123 s124 s125 s126 s127 s128 s129 s130 efq109_0 efq109_1 pr131 pr133 rf rt) (gLw.s (gLw.s (gLw.s gLw.z)))
          · refine gy_ifF rfl (by decide) (by decide) (by omega) hc137 ?_
            refine gz_s 1 (pc' := 109) (L' := [some (.ref x), some (.int (zi q)), none]) (S' := [.ref x]) rfl ?_
            refine gs_gtk rfl (by decide) rfl sS136.1 t111 rfl rfl s128 ?_
            refine gz_s 4 (pc' := 117) (L' := [some (.ref x), some (.int (zi q)), none]) (S' := [.int (zi 0), .int (zi 0), .int (zi 63), .int (zi 0), .ref c10]) rfl ?_
            have hl245 : hq109.2.2.2.1 cq109_0 = hq109.2.2.2.1 cq109_0 := congrFun sS136.2.2.2.2.1 cq109_0
            refine gz_call rfl (by decide) rfl (by decide) (by decide) (gcal_of rfl rfl rfl (Nat.le_of_ble_eq_true rfl) (gJ.recv (G := gGG) sS136.1 t120 rfl rfl)) (cl_Writer_putScan _ sS136.1 c10 t120 0 (by omega) 63 (by omega) 0 (by omega) 0 (by omega) sk s130 t117 cq109_0 ecq109_0 tcq109_0 fq109_0 efq109_0 (by omega) fq109_1 efq109_1 (by omega) (by omega) (by omega) (by omega) uq134) (fun q246 _ wq246 => ?_)
            obtain ⟨pq246, oq246, hq246⟩ := q246
            obtain ⟨tyq246, xq246, cq246_0, ttq246, fq246_0, fq246_1, ecq246_0, tcq246_0, gq246, efq246_0, afq246_0, bfq246_0, efq246_1, afq246_1, bfq246_1, uq246_0, uq246_1, uq246_2, uq246_3, uq246_4, uq246_5⟩ := wq246
            dsimp only at uq246_2 uq246_3 uq246_4 uq246_5
            refine ⟨_, gq246, ?_⟩
            show gz gPP gGG gcn _ _ 120 [some (.ref x), some (.int (zi q)), none] [] hq246 _
            have G247 : gSg [71, 72, 73, 74, 75, 76, 77, 78, 79, 80, 81, 85, 91, 92, 93, 94, 95, 96, 97, 98, 99, 114, 200] [] [50006, 55008, 56000, 56001, 56002, 56003, 64999, 71005, 71006, 71007, 71008, 71009, 71010, 71011, 71012, 71013, 71014, 72999, 73999, 74999, 76999, 77999, 78999, 79999, 80999, 81999, 85999, 91004, 91008, 92004, 92008, 93999, 94999, 95999, 96999, 97999, 98999, 99999, 114999] ty h tyq246 hq246 := gSg.tr (gSg.ss G110 sS136 (by decide)) xq246 (by decide) (by decide) (fun x hx => by cases hx)
            have t248 : tyq246 x = 50 := gSg.typ xq246 sS136.1 t111 rfl
            have t249 : tyq246 pic = 54 := gSg.typ xq246 sS136.1 t112 rfl
            have t250 : tyq246 b0 = 82 := gSg.typ xq246 sS136.1 t113 rfl
            have t251 : tyq246 b1 = 83 := gSg.typ xq246 sS136.1 t114 rfl
            have t252 : tyq246 b2 = 84 := gSg.typ xq246 sS136.1 t115 rfl
            have t253 : tyq246 dr = 55 := gSg.typ xq246 sS136.1 t116 rfl
            have t254 : tyq246 sk = 56 := gSg.typ xq246 sS136.1 t117 rfl
            have t255 : tyq246 bt = 114 := gSg.typ xq246 sS136.1 t118 rfl
            have hl256 : hq246.2.2.2.1 bt = hq109.2.2.2.1 bt := gSg.len xq246 sS136.1 t118 rfl
            have t257 : tyq246 c10 = 71 := gSg.typ xq246 sS136.1 t120 rfl
            have t258 : tyq246 c76 = 53 := gSg.typ xq246 sS136.1 t121 rfl
            have t259 : tyq246 cq109_0 = 114 := gSg.typ xq246 sS136.1 tcq109_0 rfl
            have hl260 : hq246.2.2.2.1 cq109_0 = hq109.2.2.2.1 cq109_0 := gSg.len xq246 sS136.1 tcq109_0 rfl
            have s261 := gSg.at xq246 sS136.1 t111 rfl (by decide) s122
            have s262 := gSg.at xq246 sS136.1 t111 rfl (by decide) s123
            have s263 := gSg.at xq246 sS136.1 t111 rfl (by decide) s124
            have s264 := gSg.at xq246 sS136.1 t116 rfl (by decide) s125
            have s265 := gSg.at xq246 sS136.1 t116 rfl (by decide) s126
            have s266 := gSg.at xq246 sS136.1 t116 rfl (by decide) s127
            have s267 := gSg.at xq246 sS136.1 t111 rfl (by decide) s128
            have s268 := gSg.at xq246 sS136.1 t111 rfl (by decide) s129
            have s269 := gSg.at xq246 sS136.1 t120 rfl (by decide) s130
            have pr270 := gPC.gr xq246 sS136.1 (by decide) pr131
            have pr271 := gTc.gr xq246 sS136.1 (by decide) (by decide) pr132
            have pr272 := gRr.gr xq246 sS136.1 (by decide) (by decide) pr133
            have uq273 := gSg.uq xq246 uq134 (by decide)
            have hyst274 := gSta.gr xq246 (by decide) (fun x hx => by cases hx) (gSta.fr sS136.2 (by decide) hyst135)
            have sS275 : gSs rT 1027 tyq246 [50006, 55008, 56000, 56001, 56002, 56003, 64999, 71005, 71006, 71007, 71008, 71009, 71010, 71011, 71012, 71013, 71014, 72999, 73999, 74999, 76999, 77999, 78999, 79999, 80999, 81999, 85999, 91004, 91008, 92004, 92008, 93999, 94999, 95999, 96999, 97999, 98999, 99999, 114999] hq246 hq246 := gSs.rf xq246.1
            obtain ⟨tf, tt, cf, rf, rt, rc, tle, tsm⟩ := pr271
            have hg0 := gsf_nn (f := fun j => gcr (cf j)) (fun j => by unfold gcr; split <;> omega) 64
            have hgl0 : gTl tf tt 0 = 0 := rfl
            refine gz_s 2 (pc' := 122) (L' := [some (.ref x), some (.int (zi q)), some (.int (zi 0))]) (S' := []) rfl ?_
            have lp276 : ∀ (fu : Nat) (ty278 : Nat → Nat) (h277 : gH) (bv : Nat) (i : Int) (cv : Int) (hv : Int), (11 - i).toNat < fu → gSg [71, 72, 73, 74, 75, 76, 77, 78, 79, 80, 81, 85, 91, 92, 93, 94, 95, 96, 97, 98, 99, 114, 200] [] [50006, 55008, 56000, 56001, 56002, 56003, 64999, 71005, 71006, 71007, 71008, 71009, 71010, 71011, 71012, 71013, 71014, 72999, 73999, 74999, 76999, 77999, 78999, 79999, 80999, 81999, 85999, 91004, 91008, 92004, 92008, 93999, 94999, 95999, 96999, 97999, 98999, 99999, 114999] ty h ty278 h277 → gUq ty278 → gSta ty278 h277 → ty278 x = 50 → ty278 pic = 54 → ty278 dr = 55 → ty278 sk = 56 → ty278 c10 = 71 → ty278 c76 = 53 → h277.2.2.2.2 sk 0 = .ref bv → ty278 bv = 114 → (0 ≤ i ∧ i ≤ 10) → (0 ≤ cv ∧ cv ≤ 499999) → (0 ≤ hv ∧ hv ≤ 7) → ((n0 = 0 ∧ 4 * cv + hv ≤ 336000) ∨ 4 * cv + hv ≤ 400 + 7876 * i + 5120 * gTl tf tt i) → (i ≤ n0) → (cv ≤ (h277.2.2.2.1 bv : Int)) → (1024 * (((h277.1 : Int) - h.1) - 21) ≤ (h277.2.2.2.1 bv : Int) - lb) → (((h277.2.1 : Int) - h.2.1) ≤ 4303 + 2 * ((h277.2.2.2.1 bv : Int) - lb)) → (lb ≤ (h277.2.2.2.1 bv : Int)) → h277.2.2.2.2 x 2 = .ref pic → h277.2.2.2.2 x 3 = .ref dr → h277.2.2.2.2 x 4 = .ref sk → h277.2.2.2.2 dr 8 = .int (zi n0) → h277.2.2.2.2 dr 3 = .int (zi iv) → h277.2.2.2.2 dr 1 = .int (zi z5) → h277.2.2.2.2 x 6 = .ref c10 → h277.2.2.2.2 x 1 = .ref c76 → h277.2.2.2.2 c10 0 = .ref sk → h277.2.2.2.2 sk 1 = .int (zi cv) → h277.2.2.2.2 sk 3 = .int (zi hv) → gPC ty278 pic b0 b1 b2 ld h277 → gRr ty278 x h277 → gRow ty278 60 tf h277 → gRow ty278 61 tt h277 → gz gPP gGG gcn (d + 8) gt89 122 [some (.ref x), some (.int (zi q)), some (.int (zi i))] [] h277 (fun q _ => ∃ ty9 : Nat → Nat, gSg [71, 72, 73, 74, 75, 76, 77, 78, 79, 80, 81, 85, 91, 92, 93, 94, 95, 96, 97, 98, 99, 114, 200] [] [50006, 55008, 56000, 56001, 56002, 56003, 64999, 71005, 71006, 71007, 71008, 71009, 71010, 71011, 71012, 71013, 71014, 72999, 73999, 74999, 76999, 77999, 78999, 79999, 80999, 81999, 85999, 91004, 91008, 92004, 92008, 93999, 94999, 95999, 96999, 97999, 98999, 99999, 114999] ty h ty9 q.2.2 ∧ ∃ ld1 lb1 iv1 : Int, 0 ≤ ld1 ∧ ld1 ≤ 192 ∧ 1024 ≤ lb1 ∧ lb1 ≤ 1000000 ∧ 0 ≤ iv1 ∧ iv1 ≤ 100 ∧ (gIx ty9 x ld1 lb1 iv1 q.2.2) ∧ gUq ty9 ∧ ((∃ z : Int, gfin gt89 q.1 q.2.1 = some (some (.int (zi z))) ∧ (-2147483648) ≤ z ∧ z ≤ 2147483647 ∧ (iv1 = iv) ∧ (1024 * (((q.2.2.1 : Int) - h.1) - 31 - 2 * (ld1 - ld)) ≤ lb1 - lb) ∧ (((q.2.2.2.1 : Int) - h.2.1) ≤ 4303 + 12480 * (ld1 - ld) + 2 * (lb1 - lb)) ∧ (ld ≤ ld1) ∧ (lb ≤ lb1)) ∨ (q.2.1 = [] ∧ ((q.1 = 11) ∨ (q.1 = 32)) ∧ (iv1 = iv) ∧ (1024 * (((q.2.2.1 : Int) - h.1) - 31 - 2 * (ld1 - ld)) ≤ lb1 - lb) ∧ (((q.2.2.2.1 : Int) - h.2.1) ≤ 4303 + 12480 * (ld1 - ld) + 2 * (lb1 - lb)) ∧ (ld ≤ ld1) ∧ (lb ≤ lb1)))) := by
              intro fu
              induction fu with
              | zero => intro ty278 h277 bv i cv hv hm; exact absurd hm (Nat.not_lt_zero _)
              | succ fu ihlp276 =>
                intro ty278 h277 bv i cv hv lp276m lp276G lp276u lp276t lp276c0 lp276c1 lp276c2 lp276c3 lp276c4 lp276c5 lp276r0 lp276r1 lp276f0 lp276f1 lp276f2 lp276f3 lp276f4 lp276f5 lp276f6 lp276f7 lp276f8 lp276k0 lp276k1 lp276k2 lp276k3 lp276k4 lp276k5 lp276k6 lp276k7 lp276k8 lp276k9 lp276k10 lp276k11 lp276k12 lp276k13 lp276k14
                have sh277 : gSs rT 1027 ty278 [50006, 55008, 56000, 56001, 56002, 56003, 64999, 71005, 71006, 71007, 71008, 71009, 71010, 71011, 71012, 71013, 71014, 72999, 73999, 74999, 76999, 77999, 78999, 79999, 80999, 81999, 85999, 91004, 91008, 92004, 92008, 93999, 94999, 95999, 96999, 97999, 98999, 99999, 114999] h277 h277 := gSs.rf lp276G.1
                refine gz_s 2 (pc' := 124) (L' := [some (.ref x), some (.int (zi q)), some (.int (zi i))]) (S' := [.ref x, .int (zi i)]) rfl ?_
                refine gs_gtk rfl (by decide) rfl sh277.1 lp276c0 rfl rfl lp276k1 ?_
                refine gs_gtk rfl (by decide) rfl sh277.1 lp276c2 rfl rfl lp276k3 ?_
                refine gy_icT (pc' := 182) rfl (by decide) (by decide) (by omega) (by omega) (by first | (simp [zc]; done) | (simp only [zc]; omega)) ?_
                refine gz_s 1 (pc' := 183) (L' := [some (.ref x), some (.int (zi q)), some (.int (zi i))]) (S' := [.ref x]) rfl ?_
                refine gs_gtk rfl (by decide) rfl sh277.1 lp276c0 rfl rfl lp276k6 ?_
                have hl279 : h277.2.2.2.1 bv = h277.2.2.2.1 bv := congrFun sh277.2.2.2.2.1 bv
                refine gz_call rfl (by decide) rfl (by decide) (by decide) (gcal_of rfl rfl rfl (Nat.le_of_ble_eq_true rfl) (gJ.recv (G := gGG) sh277.1 lp276c4 rfl rfl)) (cl_Writer_putEnd _ sh277.1 c10 lp276c4 sk lp276k8 lp276c3 bv lp276r0 lp276r1 cv lp276k9 (by omega) (by omega) lp276u) (fun q280 _ wq280 => ?_)
                obtain ⟨pq280, oq280, hq280⟩ := q280
                obtain ⟨tyq280, xq280, cq280_0, ttq280, fq280_0, ecq280_0, tcq280_0, gq280, efq280_0, afq280_0, bfq280_0, uq280_0, uq280_1, uq280_2, uq280_3, uq280_4⟩ := wq280
                dsimp only at uq280_1 uq280_2 uq280_3 uq280_4
                refine ⟨_, gq280, ?_⟩
                show gz gPP gGG gcn _ _ 189 [some (.ref x), some (.int (zi q)), some (.int (zi i))] [] hq280 _
                have G281 : gSg [71, 72, 73, 74, 75, 76, 77, 78, 79, 80, 81, 85, 91, 92, 93, 94, 95, 96, 97, 98, 99, 114, 200] [] [50006, 55008, 56000, 56001, 56002, 56003, 64999, 71005, 71006, 71007, 71008, 71009, 71010, 71011, 71012, 71013, 71014, 72999, 73999, 74999, 76999, 77999, 78999, 79999, 80999, 81999, 85999, 91004, 91008, 92004, 92008, 93999, 94999, 95999, 96999, 97999, 98999, 99999, 114999] ty h tyq280 hq280 := gSg.tr (gSg.ss lp276G sh277 (by decide)) xq280 (by decide) (by decide) (fun x hx => by cases hx)
                have t282 : tyq280 x = 50 := gSg.typ xq280 sh277.1 lp276c0 rfl
                have t283 : tyq280 pic = 54 := gSg.typ xq280 sh277.1 lp276c1 rfl
                have t284 : tyq280 dr = 55 := gSg.typ xq280 sh277.1 lp276c2 rfl
                have t285 : tyq280 sk = 56 := gSg.typ xq280 sh277.1 lp276c3 rfl
                have t286 : tyq280 c10 = 71 := gSg.typ xq280 sh277.1 lp276c4 rfl
                have t287 : tyq280 c76 = 53 := gSg.typ xq280 sh277.1 lp276c5 rfl
                have t288 : tyq280 bv = 114 := gSg.typ xq280 sh277.1 lp276r1 rfl
                have hl289 : hq280.2.2.2.1 bv = h277.2.2.2.1 bv := gSg.len xq280 sh277.1 lp276r1 rfl
                have s290 := gSg.at xq280 sh277.1 lp276c0 rfl (by decide) lp276k0
                have s291 := gSg.at xq280 sh277.1 lp276c0 rfl (by decide) lp276k1
                have s292 := gSg.at xq280 sh277.1 lp276c0 rfl (by decide) lp276k2
                have s293 := gSg.at xq280 sh277.1 lp276c2 rfl (by decide) lp276k3
                have s294 := gSg.at xq280 sh277.1 lp276c2 rfl (by decide) lp276k4
                have s295 := gSg.at xq280 sh277.1 lp276c2 rfl (by decide) lp276k5
                have s296 := gSg.at xq280 sh277.1 lp276c0 rfl (by decide) lp276k6
                have s297 := gSg.at xq280 sh277.1 lp276c0 rfl (by decide) lp276k7
                have s298 := gSg.at xq280 sh277.1 lp276c4 rfl (by decide) lp276k8
                have s299 := gSg.at xq280 sh277.1 lp276c3 rfl (by decide) lp276k10
                have pr300 := gPC.gr xq280 sh277.1 (by decide) lp276k11
                have pr301 := gRr.gr xq280 sh277.1 (by decide) (by decide) lp276k12
                have pr302 := gRow.gr xq280 sh277.1 rfl (by decide) (by decide) lp276k13
                have pr303 := gRow.gr xq280 sh277.1 rfl (by decide) (by decide) lp276k14
                have uq304 := gSg.uq xq280 lp276u (by decide)
                have hyst305 := gSta.gr xq280 (by decide) (fun x hx => by cases hx) (gSta.fr sh277.2 (by decide) lp276t)
                have sS306 : gSs rT 1027 tyq280 [50006, 55008, 56000, 56001, 56002, 56003, 64999, 71005, 71006, 71007, 71008, 71009, 71010, 71011, 71012, 71013, 71014, 72999, 73999, 74999, 76999, 77999, 78999, 79999, 80999, 81999, 85999, 91004, 91008, 92004, 92008, 93999, 94999, 95999, 96999, 97999, 98999, 99999, 114999] hq280 hq280 := gSs.rf xq280.1
                refine gz_s 1 (pc' := 190) (L' := [some (.ref x), some (.int (zi q)), some (.int (zi i))]) (S' := [.ref x]) rfl ?_
                refine gs_gtk rfl (by decide) rfl sS306.1 t282 rfl rfl s291 ?_
                refine gz_call rfl (by decide) rfl (by decide) (by decide) (gcal_of rfl rfl rfl (Nat.le_of_ble_eq_true rfl) (gJ.recv (G := gGG) sS306.1 t284 rfl rfl)) (cl_Draft_forgetScans _ sS306.1 dr t284 uq304) (fun q307 _ wq307 => ?_)
                obtain ⟨pq307, oq307, hq307⟩ := q307
                obtain ⟨xq307, fq307_0, gq307, efq307_0, afq307_0, bfq307_0, uq307_0, yq307_0⟩ := wq307
                refine ⟨_, gq307, ?_⟩
                show gz gPP gGG gcn _ _ 196 [some (.ref x), some (.int (zi q)), some (.int (zi i))] [] hq307 _
                have sq307 : gSs rT 1027 tyq280 [50006, 55008, 56000, 56001, 56002, 56003, 64999, 71005, 71006, 71007, 71008, 71009, 71010, 71011, 71012, 71013, 71014, 72999, 73999, 74999, 76999, 77999, 78999, 79999, 80999, 81999, 85999, 91004, 91008, 92004, 92008, 93999, 94999, 95999, 96999, 97999, 98999, 99999, 114999] hq280 hq307 := gSs.tr sS306 xq307 (by decide)
                have s308 := (xq307.2.2.2.2.2 x 2 (by rw [t282]; decide)).trans s290
                have s309 := (xq307.2.2.2.2.2 x 3 (by rw [t282]; decide)).trans s291
                have s310 := (xq307.2.2.2.2.2 x 4 (by rw [t282]; decide)).trans s292
                have s311 := (xq307.2.2.2.2.2 dr 3 (by rw [t284]; decide)).trans s294
                have s312 := (xq307.2.2.2.2.2 dr 1 (by rw [t284]; decide)).trans s295
                have s313 := (xq307.2.2.2.2.2 x 6 (by rw [t282]; decide)).trans s296
                have s314 := (xq307.2.2.2.2.2 x 1 (by rw [t282]; decide)).trans s297
                have s315 := (xq307.2.2.2.2.2 c10 0 (by rw [t286]; decide)).trans s298
                have s316 := (xq307.2.2.2.2.2 sk 3 (by rw [t285]; decide)).trans s299
                have s317 := (xq307.2.2.2.2.2 sk 0 (by rw [t285]; decide)).trans ecq280_0
                have s318 := (xq307.2.2.2.2.2 sk 1 (by rw [t285]; decide)).trans efq280_0
                have pr319 := gPC.fr xq307.2 (by decide) pr300
                have pr320 := gRr.fr xq307.2 (by decide) pr301
                have pr321 := gRow.fr xq307.2 (by decide) pr302
                have pr322 := gRow.fr xq307.2 (by decide) pr303
                refine gz_s 1 (pc' := 197) (L' := [some (.ref x), some (.int (zi q)), some (.int (zi i))]) (S' := [.ref x]) rfl ?_
                refine gs_gtk rfl (by decide) rfl sq307.1 t282 rfl rfl s310 ?_
                refine gs_gtk rfl (by decide) rfl sq307.1 t285 rfl rfl s318 ?_
                have k323 := sq307.2.1
                have k323b := sq307.2.2.1
                have hl324 : hq307.2.2.2.1 bv = hq280.2.2.2.1 bv := congrFun sq307.2.2.2.2.1 bv
                have hl325 : hq307.2.2.2.1 cq280_0 = hq280.2.2.2.1 cq280_0 := congrFun sq307.2.2.2.2.1 cq280_0
                have k326 := sq307.2.1
                have k326b := sq307.2.2.1
                have hl327 : hq307.2.2.2.1 bv = hq280.2.2.2.1 bv := congrFun sq307.2.2.2.2.1 bv
                have hl328 : hq307.2.2.2.1 cq280_0 = hq280.2.2.2.1 cq280_0 := congrFun sq307.2.2.2.2.1 cq280_0
                have hix329 : gIx tyq280 x ld (hq307.2.2.2.1 cq280_0 : Int) iv hq307 := ⟨pic, b0, b1, b2, dr, sk, cq280_0, fq307_0, fq280_0, ⟨t282, t284, t285, tcq280_0⟩, ⟨s308, s309, s310, s317⟩, pr319, (by rw [(by omega : fq307_0 = 0)]; exact yq307_0), ⟨efq307_0, by omega, by omega⟩, ⟨s311, by omega, by omega⟩, ⟨s318, by omega, by omega⟩, ⟨by omega, by omega⟩, pr320, ⟨t282, Or.inr ⟨c10, s313, t286⟩⟩⟩
                have G330 : gSg [71, 72, 73, 74, 75, 76, 77, 78, 79, 80, 81, 85, 91, 92, 93, 94, 95, 96, 97, 98, 99, 114, 200] [] [50006, 55008, 56000, 56001, 56002, 56003, 64999, 71005, 71006, 71007, 71008, 71009, 71010, 71011, 71012, 71013, 71014, 72999, 73999, 74999, 76999, 77999, 78999, 79999, 80999, 81999, 85999, 91004, 91008, 92004, 92008, 93999, 94999, 95999, 96999, 97999, 98999, 99999, 114999] ty h tyq280 hq307 := gSg.ss G281 sq307 (by decide)
                exact gz_end (I := .ireturn) (len := 1) rfl (Or.inl rfl) ⟨tyq280, G330, ld, (hq307.2.2.2.1 cq280_0 : Int), iv, (by omega), (by omega), (by omega), (by omega), (by omega), (by omega), hix329, uq304, Or.inl ⟨fq280_0, rfl, (by omega), (by omega), (by omega), (by dsimp only; omega), (by dsimp only; omega), (by omega), (by omega)⟩⟩
            have G331 : gSg [71, 72, 73, 74, 75, 76, 77, 78, 79, 80, 81, 85, 91, 92, 93, 94, 95, 96, 97, 98, 99, 114, 200] [] [50006, 55008, 56000, 56001, 56002, 56003, 64999, 71005, 71006, 71007, 71008, 71009, 71010, 71011, 71012, 71013, 71014, 72999, 73999, 74999, 76999, 77999, 78999, 79999, 80999, 81999, 85999, 91004, 91008, 92004, 92008, 93999, 94999, 95999, 96999, 97999, 98999, 99999, 114999] ty h tyq246 hq246 := gSg.ss G247 sS275 (by decide)
            exact gz_wk (lp276 _ tyq246 hq246 cq246_0 0 fq246_0 fq246_1 (Nat.lt_succ_self _) G331 uq273 (gSta.fr sS275.2 (by decide) hyst274) t248 t249 t253 t254 t257 t258 ecq246_0 tcq246_0 (by omega) (by omega) (by omega) (by omega) (by omega) (by omega) (by omega) (by omega) (by omega) s261 s262 s263 s264 s265 s266 s267 s268 s269 efq246_0 efq246_1 pr270 pr272 rf rt) (gLw.s (gLw.s (gLw.s gLw.z)))
        · skip
          refine gz_s 2 (pc' := 65) (L' := [some (.ref x), some (.int (zi q)), none]) (S' := [.ref x]) rfl ?_
          refine gs_gtk rfl (by decide) rfl hS.1 tx rfl rfl ec7 ?_
          refine gz_s 1 (pc' := 69) (L' := [some (.ref x), some (.int (zi q)), none]) (S' := [.ref x, .ref c7]) rfl ?_
          refine gs_gtr rfl (by decide) rfl hS.1 tx rfl rfl rfl (fun c332 ec332 tc332 => ?_)
          refine gz_s 1 (pc' := 73) (L' := [some (.ref x), some (.int (zi q)), none]) (S' := [.int (zi q), .ref c332, .ref c7]) rfl ?_
          refine gz_call rfl (by decide) rfl (by decide) (by decide) (gcal_of rfl rfl rfl (Nat.le_of_ble_eq_true rfl) (gJ.recv (G := gGG) hS.1 tc7 rfl rfl)) (cl_Writer_makeTable _ hS.1 c7 tc7 c332 tc332 q (by omega) uq) (fun q333 _ wq333 => ?_)
          obtain ⟨pq333, oq333, hq333⟩ := q333
          obtain ⟨xq333, gq333⟩ := wq333
          refine ⟨_, gq333, ?_⟩
          show gz gPP gGG gcn _ _ 76 [some (.ref x), some (.int (zi q)), none] [] hq333 _
          have sq333 : gSs rT 1027 ty [50006, 55008, 56000, 56001, 56002, 56003, 64999, 71005, 71006, 71007, 71008, 71009, 71010, 71011, 71012, 71013, 71014, 72999, 73999, 74999, 76999, 77999, 78999, 79999, 80999, 81999, 85999, 91004, 91008, 92004, 92008, 93999, 94999, 95999, 96999, 97999, 98999, 99999, 114999] h hq333 := gSs.tr hS xq333 (by decide)
          have s334 := (xq333.2.2.2.2.2 x 2 (by rw [tx]; decide)).trans ex2
          have s335 := (xq333.2.2.2.2.2 x 3 (by rw [tx]; decide)).trans ex3
          have s336 := (xq333.2.2.2.2.2 x 4 (by rw [tx]; decide)).trans ex4
          have s337 := (xq333.2.2.2.2.2 sk 0 (by rw [tsk]; decide)).trans ex0
          have s338 := (xq333.2.2.2.2.2 dr 8 (by rw [tdr]; decide)).trans en0
          have s339 := (xq333.2.2.2.2.2 dr 3 (by rw [tdr]; decide)).trans eiv
          have s340 := (xq333.2.2.2.2.2 sk 1 (by rw [tsk]; decide)).trans ec0
          have s341 := (xq333.2.2.2.2.2 dr 1 (by rw [tdr]; decide)).trans ez5
          have s342 := (xq333.2.2.2.2.2 x 6 (by rw [tx]; decide)).trans ec7
          have s343 := (xq333.2.2.2.2.2 x 1 (by rw [tx]; decide)).trans ec332
          have pr344 := gPC.fr xq333.2 (by decide) hpc
          have pr345 := gTc.fr xq333.2 (by decide) htc
          have pr346 := gRr.fr xq333.2 (by decide) hrr
          have pr347 := gRw.fr xq333.2 (by decide) hrw
          refine gz_s 1 (pc' := 77) (L' := [some (.ref x), some (.int (zi q)), none]) (S' := [.ref x]) rfl ?_
          refine gs_gtk rfl (by decide) rfl sq333.1 tx rfl rfl s342 ?_
          refine gz_s 1 (pc' := 81) (L' := [some (.ref x), some (.int (zi q)), none]) (S' := [.ref x, .ref c7]) rfl ?_
          refine gs_gtk rfl (by decide) rfl sq333.1 tx rfl rfl s335 ?_
          refine gz_call rfl (by decide) rfl (by decide) (by decide) (gcal_of rfl rfl rfl (Nat.le_of_ble_eq_true rfl) (gJ.recv (G := gGG) sq333.1 tc7 rfl rfl)) (cl_Writer_transformCanvas _ sq333.1 c7 tc7 dr tdr (gSta.fr sq333.2 (by decide) hyst) uq) (fun q348 _ wq348 => ?_)
          obtain ⟨pq348, oq348, hq348⟩ := q348
          obtain ⟨xq348, gq348⟩ := wq348
          refine ⟨_, gq348, ?_⟩
          show gz gPP gGG gcn _ _ 87 [some (.ref x), some (.int (zi q)), none] [] hq348 _
          have sq348 : gSs rT 1027 ty [50006, 55008, 56000, 56001, 56002, 56003, 64999, 71005, 71006, 71007, 71008, 71009, 71010, 71011, 71012, 71013, 71014, 72999, 73999, 74999, 76999, 77999, 78999, 79999, 80999, 81999, 85999, 91004, 91008, 92004, 92008, 93999, 94999, 95999, 96999, 97999, 98999, 99999, 114999] h hq348 := gSs.tr sq333 xq348 (by decide)
          have s349 := (xq348.2.2.2.2.2 x 2 (by rw [tx]; decide)).trans s334
          have s350 := (xq348.2.2.2.2.2 x 3 (by rw [tx]; decide)).trans s335
          have s351 := (xq348.2.2.2.2.2 x 4 (by rw [tx]; decide)).trans s336
          have s352 := (xq348.2.2.2.2.2 sk 0 (by rw [tsk]; decide)).trans s337
          have s353 := (xq348.2.2.2.2.2 dr 8 (by rw [tdr]; decide)).trans s338
          have s354 := (xq348.2.2.2.2.2 dr 3 (by rw [tdr]; decide)).trans s339
          have s355 := (xq348.2.2.2.2.2 sk 1 (by rw [tsk]; decide)).trans s340
          have s356 := (xq348.2.2.2.2.2 dr 1 (by rw [tdr]; decide)).trans s341
          have s357 := (xq348.2.2.2.2.2 x 6 (by rw [tx]; decide)).trans s342
          have s358 := (xq348.2.2.2.2.2 x 1 (by rw [tx]; decide)).trans s343
          have pr359 := gPC.fr xq348.2 (by decide) pr344
          have pr360 := gTc.fr xq348.2 (by decide) pr345
          have pr361 := gRr.fr xq348.2 (by decide) pr346
          have pr362 := gRw.fr xq348.2 (by decide) pr347
          refine gz_s 1 (pc' := 88) (L' := [some (.ref x), some (.int (zi q)), none]) (S' := [.ref x]) rfl ?_
          refine gs_gtk rfl (by decide) rfl sq348.1 tx rfl rfl s357 ?_
          refine gz_s 1 (pc' := 92) (L' := [some (.ref x), some (.int (zi q)), none]) (S' := [.ref x, .ref c7]) rfl ?_
          refine gs_gtk rfl (by decide) rfl sq348.1 tx rfl rfl s350 ?_
          have k363 := sq348.2.1
          have k363b := sq348.2.2.1
          have hl364 : hq348.2.2.2.1 bt = h.2.2.2.1 bt := congrFun sq348.2.2.2.2.1 bt
          obtain ⟨c365, ec365, tc365⟩ := gJ.ref (k := 0) (G := gGG) sq348.1 tc7 rfl rfl rfl
          have ee366 : sk = c365 := uq sk c365 (tsk.trans tc365.symm) (by rw [tsk]; decide) (by rw [tsk]; decide)
          subst ee366
          refine gz_call rfl (by decide) rfl (by decide) (by decide) (gcal_of rfl rfl rfl (Nat.le_of_ble_eq_true rfl) (gJ.recv (G := gGG) sq348.1 tc7 rfl rfl)) (cl_Writer_putHead _ sq348.1 c7 tc7 dr tdr sk ec365 tsk bt s352 tbt uq) (fun q367 _ wq367 => ?_)
          obtain ⟨pq367, oq367, hq367⟩ := q367
          obtain ⟨tyq367, xq367, cq367_0, ttq367, fq367_0, fq367_1, ecq367_0, tcq367_0, gq367, efq367_0, afq367_0, bfq367_0, efq367_1, afq367_1, bfq367_1, uq367_0, uq367_1, uq367_2, uq367_3, uq367_4, uq367_5⟩ := wq367
          dsimp only at uq367_2 uq367_3 uq367_4 uq367_5
          refine ⟨_, gq367, ?_⟩
          show gz gPP gGG gcn _ _ 98 [some (.ref x), some (.int (zi q)), none] [] hq367 _
          have G368 : gSg [71, 72, 73, 74, 75, 76, 77, 78, 79, 80, 81, 85, 91, 92, 93, 94, 95, 96, 97, 98, 99, 114, 200] [] [50006, 55008, 56000, 56001, 56002, 56003, 64999, 71005, 71006, 71007, 71008, 71009, 71010, 71011, 71012, 71013, 71014, 72999, 73999, 74999, 76999, 77999, 78999, 79999, 80999, 81999, 85999, 91004, 91008, 92004, 92008, 93999, 94999, 95999, 96999, 97999, 98999, 99999, 114999] ty h tyq367 hq367 := gSg.tr (gSg.ss G0 sq348 (by decide)) xq367 (by decide) (by decide) (fun x hx => by cases hx)
          have t369 : tyq367 x = 50 := gSg.typ xq367 sq348.1 tx rfl
          have t370 : tyq367 pic = 54 := gSg.typ xq367 sq348.1 tpic rfl
          have t371 : tyq367 b0 = 82 := gSg.typ xq367 sq348.1 tb0 rfl
          have t372 : tyq367 b1 = 83 := gSg.typ xq367 sq348.1 tb1 rfl
          have t373 : tyq367 b2 = 84 := gSg.typ xq367 sq348.1 tb2 rfl
          have t374 : tyq367 dr = 55 := gSg.typ xq367 sq348.1 tdr rfl
          have t375 : tyq367 sk = 56 := gSg.typ xq367 sq348.1 tsk rfl
          have t376 : tyq367 bt = 114 := gSg.typ xq367 sq348.1 tbt rfl
          have hl377 : hq367.2.2.2.1 bt = hq348.2.2.2.1 bt := gSg.len xq367 sq348.1 tbt rfl
          have t378 : tyq367 c7 = 71 := gSg.typ xq367 sq348.1 tc7 rfl
          have t379 : tyq367 c332 = 53 := gSg.typ xq367 sq348.1 tc332 rfl
          have s380 := gSg.at xq367 sq348.1 tx rfl (by decide) s349
          have s381 := gSg.at xq367 sq348.1 tx rfl (by decide) s350
          have s382 := gSg.at xq367 sq348.1 tx rfl (by decide) s351
          have s383 := gSg.at xq367 sq348.1 tdr rfl (by decide) s353
          have s384 := gSg.at xq367 sq348.1 tdr rfl (by decide) s354
          have s385 := gSg.at xq367 sq348.1 tdr rfl (by decide) s356
          have s386 := gSg.at xq367 sq348.1 tx rfl (by decide) s357
          have s387 := gSg.at xq367 sq348.1 tx rfl (by decide) s358
          have s388 := gSg.at xq367 sq348.1 tc7 rfl (by decide) ec365
          have pr389 := gPC.gr xq367 sq348.1 (by decide) pr359
          have pr390 := gTc.gr xq367 sq348.1 (by decide) (by decide) pr360
          have pr391 := gRr.gr xq367 sq348.1 (by decide) (by decide) pr361
          have pr392 := gRw.gr xq367 sq348.1 (by decide) (by decide) pr362
          have uq393 := gSg.uq xq367 uq (by decide)
          have hyst394 := gSta.gr xq367 (by decide) (fun x hx => by cases hx) (gSta.fr sq348.2 (by decide) hyst)
          have sS395 : gSs rT 1027 tyq367 [50006, 55008, 56000, 56001, 56002, 56003, 64999, 71005, 71006, 71007, 71008, 71009, 71010, 71011, 71012, 71013, 71014, 72999, 73999, 74999, 76999, 77999, 78999, 79999, 80999, 81999, 85999, 91004, 91008, 92004, 92008, 93999, 94999, 95999, 96999, 97999, 98999, 99999, 114999] hq367 hq367 := gSs.rf xq367.1
          refine gz_s 1 (pc' := 99) (L' := [some (.ref x), some (.int (zi q)), none]) (S' := [.ref x]) rfl ?_
          refine gs_gtk rfl (by decide) rfl sS395.1 t369 rfl rfl s381 ?_
          refine gs_gtk rfl (by decide) rfl sS395.1 t374 rfl rfl s383 ?_
          by_cases hc396 : ¬ (n0 : Int) = 0
          · refine gy_ifT (pc' := 120) rfl (by decide) (by decide) (by omega) hc396 ?_
            obtain ⟨tf, tt, cf, rf, rt, rc, tle, tsm⟩ := pr390
            have hg0 := gsf_nn (f := fun j => gcr (cf j)) (fun j => by unfold gcr; split <;> omega) 64
            have hgl0 : gTl tf tt 0 = 0 := rfl
            refine gz_s 2 (pc' := 122) (L' := [some (.ref x), some (.int (zi q)), some (.int (zi 0))]) (S' := []) rfl ?_
            have lp397 : ∀ (fu : Nat) (ty399 : Nat → Nat) (h398 : gH) (bv : Nat) (i : Int) (cv : Int) (hv : Int), (11 - i).toNat < fu → gSg [71, 72, 73, 74, 75, 76, 77, 78, 79, 80, 81, 85, 91, 92, 93, 94, 95, 96, 97, 98, 99, 114, 200] [] [50006, 55008, 56000, 56001, 56002, 56003, 64999, 71005, 71006, 71007, 71008, 71009, 71010, 71011, 71012, 71013, 71014, 72999, 73999, 74999, 76999, 77999, 78999, 79999, 80999, 81999, 85999, 91004, 91008, 92004, 92008, 93999, 94999, 95999, 96999, 97999, 98999, 99999, 114999] ty h ty399 h398 → gUq ty399 → gSta ty399 h398 → ty399 x = 50 → ty399 pic = 54 → ty399 dr = 55 → ty399 sk = 56 → ty399 c7 = 71 → ty399 c332 = 53 → h398.2.2.2.2 sk 0 = .ref bv → ty399 bv = 114 → (0 ≤ i ∧ i ≤ 10) → (0 ≤ cv ∧ cv ≤ 499999) → (0 ≤ hv ∧ hv ≤ 7) → ((n0 = 0 ∧ 4 * cv + hv ≤ 336000) ∨ 4 * cv + hv ≤ 400 + 7876 * i + 5120 * gTl tf tt i) → (i ≤ n0) → (cv ≤ (h398.2.2.2.1 bv : Int)) → (1024 * (((h398.1 : Int) - h.1) - 21) ≤ (h398.2.2.2.1 bv : Int) - lb) → (((h398.2.1 : Int) - h.2.1) ≤ 4303 + 2 * ((h398.2.2.2.1 bv : Int) - lb)) → (lb ≤ (h398.2.2.2.1 bv : Int)) → h398.2.2.2.2 x 2 = .ref pic → h398.2.2.2.2 x 3 = .ref dr → h398.2.2.2.2 x 4 = .ref sk → h398.2.2.2.2 dr 8 = .int (zi n0) → h398.2.2.2.2 dr 3 = .int (zi iv) → h398.2.2.2.2 dr 1 = .int (zi z5) → h398.2.2.2.2 x 6 = .ref c7 → h398.2.2.2.2 x 1 = .ref c332 → h398.2.2.2.2 c7 0 = .ref sk → h398.2.2.2.2 sk 1 = .int (zi cv) → h398.2.2.2.2 sk 3 = .int (zi hv) → gPC ty399 pic b0 b1 b2 ld h398 → gRr ty399 x h398 → gRow ty399 60 tf h398 → gRow ty399 61 tt h398 → gz gPP gGG gcn (d + 8) gt89 122 [some (.ref x), some (.int (zi q)), some (.int (zi i))] [] h398 (fun q _ => ∃ ty9 : Nat → Nat, gSg [71, 72, 73, 74, 75, 76, 77, 78, 79, 80, 81, 85, 91, 92, 93, 94, 95, 96, 97, 98, 99, 114, 200] [] [50006, 55008, 56000, 56001, 56002, 56003, 64999, 71005, 71006, 71007, 71008, 71009, 71010, 71011, 71012, 71013, 71014, 72999, 73999, 74999, 76999, 77999, 78999, 79999, 80999, 81999, 85999, 91004, 91008, 92004, 92008, 93999, 94999, 95999, 96999, 97999, 98999, 99999, 114999] ty h ty9 q.2.2 ∧ ∃ ld1 lb1 iv1 : Int, 0 ≤ ld1 ∧ ld1 ≤ 192 ∧ 1024 ≤ lb1 ∧ lb1 ≤ 1000000 ∧ 0 ≤ iv1 ∧ iv1 ≤ 100 ∧ (gIx ty9 x ld1 lb1 iv1 q.2.2) ∧ gUq ty9 ∧ ((∃ z : Int, gfin gt89 q.1 q.2.1 = some (some (.int (zi z))) ∧ (-2147483648) ≤ z ∧ z ≤ 2147483647 ∧ (iv1 = iv) ∧ (1024 * (((q.2.2.1 : Int) - h.1) - 31 - 2 * (ld1 - ld)) ≤ lb1 - lb) ∧ (((q.2.2.2.1 : Int) - h.2.1) ≤ 4303 + 12480 * (ld1 - ld) + 2 * (lb1 - lb)) ∧ (ld ≤ ld1) ∧ (lb ≤ lb1)) ∨ (q.2.1 = [] ∧ ((q.1 = 11) ∨ (q.1 = 32)) ∧ (iv1 = iv) ∧ (1024 * (((q.2.2.1 : Int) - h.1) - 31 - 2 * (ld1 - ld)) ≤ lb1 - lb) ∧ (((q.2.2.2.1 : Int) - h.2.1) ≤ 4303 + 12480 * (ld1 - ld) + 2 * (lb1 - lb)) ∧ (ld ≤ ld1) ∧ (lb ≤ lb1)))) := by
              intro fu
              induction fu with
              | zero => intro ty399 h398 bv i cv hv hm; exact absurd hm (Nat.not_lt_zero _)
              | succ fu ihlp397 =>
                intro ty399 h398 bv i cv hv lp397m lp397G lp397u lp397t lp397c0 lp397c1 lp397c2 lp397c3 lp397c4 lp397c5 lp397r0 lp397r1 lp397f0 lp397f1 lp397f2 lp397f3 lp397f4 lp397f5 lp397f6 lp397f7 lp397f8 lp397k0 lp397k1 lp397k2 lp397k3 lp397k4 lp397k5 lp397k6 lp397k7 lp397k8 lp397k9 lp397k10 lp397k11 lp397k12 lp397k13 lp397k14
                have sh398 : gSs rT 1027 ty399 [50006, 55008, 56000, 56001, 56002, 56003, 64999, 71005, 71006, 71007, 71008, 71009, 71010, 71011, 71012, 71013, 71014, 72999, 73999, 74999, 76999, 77999, 78999, 79999, 80999, 81999, 85999, 91004, 91008, 92004, 92008, 93999, 94999, 95999, 96999, 97999, 98999, 99999, 114999] h398 h398 := gSs.rf lp397G.1
                refine gz_s 2 (pc' := 124) (L' := [some (.ref x), some (.int (zi q)), some (.int (zi i))]) (S' := [.ref x, .int (zi i)]) rfl ?_
                refine gs_gtk rfl (by decide) rfl sh398.1 lp397c0 rfl rfl lp397k1 ?_
                refine gs_gtk rfl (by decide) rfl sh398.1 lp397c2 rfl rfl lp397k3 ?_
                by_cases hc400 : (n0 : Int) ≤ i
                · refine gy_icT (pc' := 182) rfl (by decide) (by decide) (by omega) (by omega) hc400 ?_
                  refine gz_s 1 (pc' := 183) (L' := [some (.ref x), some (.int (zi q)), some (.int (zi i))]) (S' := [.ref x]) rfl ?_
                  refine gs_gtk rfl (by decide) rfl sh398.1 lp397c0 rfl rfl lp397k6 ?_
                  have hl401 : h398.2.2.2.1 bv = h398.2.2.2.1 bv := congrFun sh398.2.2.2.2.1 bv
                  refine gz_call rfl (by decide) rfl (by decide) (by decide) (gcal_of rfl rfl rfl (Nat.le_of_ble_eq_true rfl) (gJ.recv (G := gGG) sh398.1 lp397c4 rfl rfl)) (cl_Writer_putEnd _ sh398.1 c7 lp397c4 sk lp397k8 lp397c3 bv lp397r0 lp397r1 cv lp397k9 (by omega) (by omega) lp397u) (fun q402 _ wq402 => ?_)
                  obtain ⟨pq402, oq402, hq402⟩ := q402
                  obtain ⟨tyq402, xq402, cq402_0, ttq402, fq402_0, ecq402_0, tcq402_0, gq402, efq402_0, afq402_0, bfq402_0, uq402_0, uq402_1, uq402_2, uq402_3, uq402_4⟩ := wq402
                  dsimp only at uq402_1 uq402_2 uq402_3 uq402_4
                  refine ⟨_, gq402, ?_⟩
                  show gz gPP gGG gcn _ _ 189 [some (.ref x), some (.int (zi q)), some (.int (zi i))] [] hq402 _
                  have G403 : gSg [71, 72, 73, 74, 75, 76, 77, 78, 79, 80, 81, 85, 91, 92, 93, 94, 95, 96, 97, 98, 99, 114, 200] [] [50006, 55008, 56000, 56001, 56002, 56003, 64999, 71005, 71006, 71007, 71008, 71009, 71010, 71011, 71012, 71013, 71014, 72999, 73999, 74999, 76999, 77999, 78999, 79999, 80999, 81999, 85999, 91004, 91008, 92004, 92008, 93999, 94999, 95999, 96999, 97999, 98999, 99999, 114999] ty h tyq402 hq402 := gSg.tr (gSg.ss lp397G sh398 (by decide)) xq402 (by decide) (by decide) (fun x hx => by cases hx)
                  have t404 : tyq402 x = 50 := gSg.typ xq402 sh398.1 lp397c0 rfl
                  have t405 : tyq402 pic = 54 := gSg.typ xq402 sh398.1 lp397c1 rfl
                  have t406 : tyq402 dr = 55 := gSg.typ xq402 sh398.1 lp397c2 rfl
                  have t407 : tyq402 sk = 56 := gSg.typ xq402 sh398.1 lp397c3 rfl
                  have t408 : tyq402 c7 = 71 := gSg.typ xq402 sh398.1 lp397c4 rfl
                  have t409 : tyq402 c332 = 53 := gSg.typ xq402 sh398.1 lp397c5 rfl
                  have t410 : tyq402 bv = 114 := gSg.typ xq402 sh398.1 lp397r1 rfl
                  have hl411 : hq402.2.2.2.1 bv = h398.2.2.2.1 bv := gSg.len xq402 sh398.1 lp397r1 rfl
                  have s412 := gSg.at xq402 sh398.1 lp397c0 rfl (by decide) lp397k0
                  have s413 := gSg.at xq402 sh398.1 lp397c0 rfl (by decide) lp397k1
                  have s414 := gSg.at xq402 sh398.1 lp397c0 rfl (by decide) lp397k2
                  have s415 := gSg.at xq402 sh398.1 lp397c2 rfl (by decide) lp397k3
                  have s416 := gSg.at xq402 sh398.1 lp397c2 rfl (by decide) lp397k4
                  have s417 := gSg.at xq402 sh398.1 lp397c2 rfl (by decide) lp397k5
                  have s418 := gSg.at xq402 sh398.1 lp397c0 rfl (by decide) lp397k6
                  have s419 := gSg.at xq402 sh398.1 lp397c0 rfl (by decide) lp397k7
                  have s420 := gSg.at xq402 sh398.1 lp397c4 rfl (by decide) lp397k8
                  have s421 := gSg.at xq402 sh398.1 lp397c3 rfl (by decide) lp397k10
                  have pr422 := gPC.gr xq402 sh398.1 (by decide) lp397k11
                  have pr423 := gRr.gr xq402 sh398.1 (by decide) (by decide) lp397k12
                  have pr424 := gRow.gr xq402 sh398.1 rfl (by decide) (by decide) lp397k13
                  have pr425 := gRow.gr xq402 sh398.1 rfl (by decide) (by decide) lp397k14
                  have uq426 := gSg.uq xq402 lp397u (by decide)
                  have hyst427 := gSta.gr xq402 (by decide) (fun x hx => by cases hx) (gSta.fr sh398.2 (by decide) lp397t)
                  have sS428 : gSs rT 1027 tyq402 [50006, 55008, 56000, 56001, 56002, 56003, 64999, 71005, 71006, 71007, 71008, 71009, 71010, 71011, 71012, 71013, 71014, 72999, 73999, 74999, 76999, 77999, 78999, 79999, 80999, 81999, 85999, 91004, 91008, 92004, 92008, 93999, 94999, 95999, 96999, 97999, 98999, 99999, 114999] hq402 hq402 := gSs.rf xq402.1
                  refine gz_s 1 (pc' := 190) (L' := [some (.ref x), some (.int (zi q)), some (.int (zi i))]) (S' := [.ref x]) rfl ?_
                  refine gs_gtk rfl (by decide) rfl sS428.1 t404 rfl rfl s413 ?_
                  refine gz_call rfl (by decide) rfl (by decide) (by decide) (gcal_of rfl rfl rfl (Nat.le_of_ble_eq_true rfl) (gJ.recv (G := gGG) sS428.1 t406 rfl rfl)) (cl_Draft_forgetScans _ sS428.1 dr t406 uq426) (fun q429 _ wq429 => ?_)
                  obtain ⟨pq429, oq429, hq429⟩ := q429
                  obtain ⟨xq429, fq429_0, gq429, efq429_0, afq429_0, bfq429_0, uq429_0, yq429_0⟩ := wq429
                  refine ⟨_, gq429, ?_⟩
                  show gz gPP gGG gcn _ _ 196 [some (.ref x), some (.int (zi q)), some (.int (zi i))] [] hq429 _
                  have sq429 : gSs rT 1027 tyq402 [50006, 55008, 56000, 56001, 56002, 56003, 64999, 71005, 71006, 71007, 71008, 71009, 71010, 71011, 71012, 71013, 71014, 72999, 73999, 74999, 76999, 77999, 78999, 79999, 80999, 81999, 85999, 91004, 91008, 92004, 92008, 93999, 94999, 95999, 96999, 97999, 98999, 99999, 114999] hq402 hq429 := gSs.tr sS428 xq429 (by decide)
                  have s430 := (xq429.2.2.2.2.2 x 2 (by rw [t404]; decide)).trans s412
                  have s431 := (xq429.2.2.2.2.2 x 3 (by rw [t404]; decide)).trans s413
                  have s432 := (xq429.2.2.2.2.2 x 4 (by rw [t404]; decide)).trans s414
                  have s433 := (xq429.2.2.2.2.2 dr 3 (by rw [t406]; decide)).trans s416
                  have s434 := (xq429.2.2.2.2.2 dr 1 (by rw [t406]; decide)).trans s417
                  have s435 := (xq429.2.2.2.2.2 x 6 (by rw [t404]; decide)).trans s418
                  have s436 := (xq429.2.2.2.2.2 x 1 (by rw [t404]; decide)).trans s419
                  have s437 := (xq429.2.2.2.2.2 c7 0 (by rw [t408]; decide)).trans s420
                  have s438 := (xq429.2.2.2.2.2 sk 3 (by rw [t407]; decide)).trans s421
                  have s439 := (xq429.2.2.2.2.2 sk 0 (by rw [t407]; decide)).trans ecq402_0
                  have s440 := (xq429.2.2.2.2.2 sk 1 (by rw [t407]; decide)).trans efq402_0
                  have pr441 := gPC.fr xq429.2 (by decide) pr422
                  have pr442 := gRr.fr xq429.2 (by decide) pr423
                  have pr443 := gRow.fr xq429.2 (by decide) pr424
                  have pr444 := gRow.fr xq429.2 (by decide) pr425
                  refine gz_s 1 (pc' := 197) (L' := [some (.ref x), some (.int (zi q)), some (.int (zi i))]) (S' := [.ref x]) rfl ?_
                  refine gs_gtk rfl (by decide) rfl sq429.1 t404 rfl rfl s432 ?_
                  refine gs_gtk rfl (by decide) rfl sq429.1 t407 rfl rfl s440 ?_
                  have k445 := sq429.2.1
                  have k445b := sq429.2.2.1
                  have hl446 : hq429.2.2.2.1 bv = hq402.2.2.2.1 bv := congrFun sq429.2.2.2.2.1 bv
                  have hl447 : hq429.2.2.2.1 cq402_0 = hq402.2.2.2.1 cq402_0 := congrFun sq429.2.2.2.2.1 cq402_0
                  have k448 := sq429.2.1
                  have k448b := sq429.2.2.1
                  have hl449 : hq429.2.2.2.1 bv = hq402.2.2.2.1 bv := congrFun sq429.2.2.2.2.1 bv
                  have hl450 : hq429.2.2.2.1 cq402_0 = hq402.2.2.2.1 cq402_0 := congrFun sq429.2.2.2.2.1 cq402_0
                  have hix451 : gIx tyq402 x ld (hq429.2.2.2.1 cq402_0 : Int) iv hq429 := ⟨pic, b0, b1, b2, dr, sk, cq402_0, fq429_0, fq402_0, ⟨t404, t406, t407, tcq402_0⟩, ⟨s430, s431, s432, s439⟩, pr441, (by rw [(by omega : fq429_0 = 0)]; exact yq429_0), ⟨efq429_0, by omega, by omega⟩, ⟨s433, by omega, by omega⟩, ⟨s440, by omega, by omega⟩, ⟨by omega, by omega⟩, pr442, ⟨t404, Or.inr ⟨c7, s435, t408⟩⟩⟩
                  have G452 : gSg [71, 72, 73, 74, 75, 76, 77, 78, 79, 80, 81, 85, 91, 92, 93, 94, 95, 96, 97, 98, 99, 114, 200] [] [50006, 55008, 56000, 56001, 56002, 56003, 64999, 71005, 71006, 71007, 71008, 71009, 71010, 71011, 71012, 71013, 71014, 72999, 73999, 74999, 76999, 77999, 78999, 79999, 80999, 81999, 85999, 91004, 91008, 92004, 92008, 93999, 94999, 95999, 96999, 97999, 98999, 99999, 114999] ty h tyq402 hq429 := gSg.ss G403 sq429 (by decide)
                  exact gz_end (I := .ireturn) (len := 1) rfl (Or.inl rfl) ⟨tyq402, G452, ld, (hq429.2.2.2.1 cq402_0 : Int), iv, (by omega), (by omega), (by omega), (by omega), (by omega), (by omega), hix451, uq426, Or.inl ⟨fq402_0, rfl, (by omega), (by omega), (by omega), (by dsimp only; omega), (by dsimp only; omega), (by omega), (by omega)⟩⟩
                · refine gy_icF rfl (by decide) (by decide) (by omega) (by omega) hc400 ?_
                  refine gz_s 1 (pc' := 134) (L' := [some (.ref x), some (.int (zi q)), some (.int (zi i))]) (S' := [.ref x]) rfl ?_
                  refine gs_gtk rfl (by decide) rfl sh398.1 lp397c0 rfl rfl lp397k6 ?_
                  refine gz_s 1 (pc' := 138) (L' := [some (.ref x), some (.int (zi q)), some (.int (zi i))]) (S' := [.ref x, .ref c7]) rfl ?_
                  refine gs_gtk rfl (by decide) rfl sh398.1 lp397c0 rfl rfl lp397k1 ?_
                  refine gs_gtr rfl (by decide) rfl sh398.1 lp397c2 rfl rfl rfl (fun c453 ec453 tc453 => ?_)
                  refine gz_s 1 (pc' := 145) (L' := [some (.ref x), some (.int (zi q)), some (.int (zi i))]) (S' := [.int (zi i), .ref c453, .ref c7]) rfl ?_
                  have hl454 : 10 ≤ h398.2.2.2.1 c453 ∧ h398.2.2.2.1 c453 ≤ 10 := gJ.rowl (G := gGG) sh398.1 tc453 rfl
                  refine gs_ald rfl (by decide) sh398.1 tc453 rfl rfl rfl (by decide) (fun _ => rfl) (by omega) (by omega) (fun z455 ez455 az455 bz455 => ?_)
                  have hf456 := gRow.at (i := i) (z := z455) lp397k13 tc453 ez455 (by omega) (by omega) (by omega)
                  refine gz_s 1 (pc' := 147) (L' := [some (.ref x), some (.int (zi q)), some (.int (zi i))]) (S' := [.ref x, .int (zi z455), .ref c7]) rfl ?_
                  refine gs_gtk rfl (by decide) rfl sh398.1 lp397c0 rfl rfl lp397k1 ?_
                  refine gs_gtr rfl (by decide) rfl sh398.1 lp397c2 rfl rfl rfl (fun c457 ec457 tc457 => ?_)
                  refine gz_s 1 (pc' := 154) (L' := [some (.ref x), some (.int (zi q)), some (.int (zi i))]) (S' := [.int (zi i), .ref c457, .int (zi z455), .ref c7]) rfl ?_
                  have hl458 : 10 ≤ h398.2.2.2.1 c457 ∧ h398.2.2.2.1 c457 ≤ 10 := gJ.rowl (G := gGG) sh398.1 tc457 rfl
                  refine gs_ald rfl (by decide) sh398.1 tc457 rfl rfl rfl (by decide) (fun _ => rfl) (by omega) (by omega) (fun z459 ez459 az459 bz459 => ?_)
                  have hf460 := gRow.at (i := i) (z := z459) lp397k14 tc457 ez459 (by omega) (by omega) (by omega)
                  refine gz_s 1 (pc' := 156) (L' := [some (.ref x), some (.int (zi q)), some (.int (zi i))]) (S' := [.ref x, .int (zi z459), .int (zi z455), .ref c7]) rfl ?_
                  refine gs_gtk rfl (by decide) rfl sh398.1 lp397c0 rfl rfl lp397k1 ?_
                  refine gs_gtr rfl (by decide) rfl sh398.1 lp397c2 rfl rfl rfl (fun c461 ec461 tc461 => ?_)
                  refine gz_s 1 (pc' := 163) (L' := [some (.ref x), some (.int (zi q)), some (.int (zi i))]) (S' := [.int (zi i), .ref c461, .int (zi z459), .int (zi z455), .ref c7]) rfl ?_
                  have hl462 : 10 ≤ h398.2.2.2.1 c461 ∧ h398.2.2.2.1 c461 ≤ 10 := gJ.rowl (G := gGG) sh398.1 tc461 rfl
                  refine gs_ald rfl (by decide) sh398.1 tc461 rfl rfl rfl (by decide) (fun _ => rfl) (by omega) (by omega) (fun z463 ez463 az463 bz463 => ?_)
                  refine gz_s 1 (pc' := 165) (L' := [some (.ref x), some (.int (zi q)), some (.int (zi i))]) (S' := [.ref x, .int (zi z463), .int (zi z459), .int (zi z455), .ref c7]) rfl ?_
                  refine gs_gtk rfl (by decide) rfl sh398.1 lp397c0 rfl rfl lp397k1 ?_
                  refine gs_gtr rfl (by decide) rfl sh398.1 lp397c2 rfl rfl rfl (fun c464 ec464 tc464 => ?_)
                  refine gz_s 1 (pc' := 172) (L' := [some (.ref x), some (.int (zi q)), some (.int (zi i))]) (S' := [.int (zi i), .ref c464, .int (zi z463), .int (zi z459), .int (zi z455), .ref c7]) rfl ?_
                  have hl465 : 10 ≤ h398.2.2.2.1 c464 ∧ h398.2.2.2.1 c464 ≤ 10 := gJ.rowl (G := gGG) sh398.1 tc464 rfl
                  refine gs_ald rfl (by decide) sh398.1 tc464 rfl rfl rfl (by decide) (fun _ => rfl) (by omega) (by omega) (fun z466 ez466 az466 bz466 => ?_)
                  have htl := tle (i).toNat (by omega)
                  have hst := gTl_st (f := tf) (t := tt) (k := i) (a := z455) (b := z459) (by omega) hf456 hf460
                  have hle := gTl_le (f := tf) (t := tt) (k := i + 1) (n := n0) tle (by omega)
                  have hl467 : h398.2.2.2.1 bv = h398.2.2.2.1 bv := congrFun sh398.2.2.2.2.1 bv
                  refine gz_call rfl (by decide) rfl (by decide) (by decide) (gcal_of rfl rfl rfl (Nat.le_of_ble_eq_true rfl) (gJ.recv (G := gGG) sh398.1 lp397c4 rfl rfl)) (cl_Writer_putScan _ sh398.1 c7 lp397c4 z455 (by omega) z459 (by omega) z463 (by omega) z466 (by omega) sk lp397k8 lp397c3 bv lp397r0 lp397r1 cv lp397k9 (by omega) hv lp397k10 (by omega) (by omega) (by omega) (by omega) lp397u) (fun q468 _ wq468 => ?_)
                  obtain ⟨pq468, oq468, hq468⟩ := q468
                  obtain ⟨tyq468, xq468, cq468_0, ttq468, fq468_0, fq468_1, ecq468_0, tcq468_0, gq468, efq468_0, afq468_0, bfq468_0, efq468_1, afq468_1, bfq468_1, uq468_0, uq468_1, uq468_2, uq468_3, uq468_4, uq468_5⟩ := wq468
                  dsimp only at uq468_2 uq468_3 uq468_4 uq468_5
                  refine ⟨_, gq468, ?_⟩
                  show gz gPP gGG gcn _ _ 176 [some (.ref x), some (.int (zi q)), some (.int (zi i))] [] hq468 _
                  have G469 : gSg [71, 72, 73, 74, 75, 76, 77, 78, 79, 80, 81, 85, 91, 92, 93, 94, 95, 96, 97, 98, 99, 114, 200] [] [50006, 55008, 56000, 56001, 56002, 56003, 64999, 71005, 71006, 71007, 71008, 71009, 71010, 71011, 71012, 71013, 71014, 72999, 73999, 74999, 76999, 77999, 78999, 79999, 80999, 81999, 85999, 91004, 91008, 92004, 92008, 93999, 94999, 95999, 96999, 97999, 98999, 99999, 114999] ty h tyq468 hq468 := gSg.tr (gSg.ss lp397G sh398 (by decide)) xq468 (by decide) (by decide) (fun x hx => by cases hx)
                  have t470 : tyq468 x = 50 := gSg.typ xq468 sh398.1 lp397c0 rfl
                  have t471 : tyq468 pic = 54 := gSg.typ xq468 sh398.1 lp397c1 rfl
                  have t472 : tyq468 dr = 55 := gSg.typ xq468 sh398.1 lp397c2 rfl
                  have t473 : tyq468 sk = 56 := gSg.typ xq468 sh398.1 lp397c3 rfl
                  have t474 : tyq468 c7 = 71 := gSg.typ xq468 sh398.1 lp397c4 rfl
                  have t475 : tyq468 c332 = 53 := gSg.typ xq468 sh398.1 lp397c5 rfl
                  have t476 : tyq468 bv = 114 := gSg.typ xq468 sh398.1 lp397r1 rfl
                  have hl477 : hq468.2.2.2.1 bv = h398.2.2.2.1 bv := gSg.len xq468 sh398.1 lp397r1 rfl
                  have t478 : tyq468 c453 = 60 := gSg.typ xq468 sh398.1 tc453 rfl
                  have t479 : tyq468 c457 = 61 := gSg.typ xq468 sh398.1 tc457 rfl
                  have t480 : tyq468 c461 = 62 := gSg.typ xq468 sh398.1 tc461 rfl
                  have t481 : tyq468 c464 = 63 := gSg.typ xq468 sh398.1 tc464 rfl
                  have s482 := gSg.at xq468 sh398.1 lp397c0 rfl (by decide) lp397k0
                  have s483 := gSg.at xq468 sh398.1 lp397c0 rfl (by decide) lp397k1
                  have s484 := gSg.at xq468 sh398.1 lp397c0 rfl (by decide) lp397k2
                  have s485 := gSg.at xq468 sh398.1 lp397c2 rfl (by decide) lp397k3
                  have s486 := gSg.at xq468 sh398.1 lp397c2 rfl (by decide) lp397k4
                  have s487 := gSg.at xq468 sh398.1 lp397c2 rfl (by decide) lp397k5
                  have s488 := gSg.at xq468 sh398.1 lp397c0 rfl (by decide) lp397k6
                  have s489 := gSg.at xq468 sh398.1 lp397c0 rfl (by decide) lp397k7
                  have s490 := gSg.at xq468 sh398.1 lp397c4 rfl (by decide) lp397k8
                  have s491 := gSg.at xq468 sh398.1 lp397c2 rfl (by decide) ec453
                  have s492 := gSg.at xq468 sh398.1 lp397c2 rfl (by decide) ec457
                  have s493 := gSg.at xq468 sh398.1 lp397c2 rfl (by decide) ec461
                  have s494 := gSg.at xq468 sh398.1 lp397c2 rfl (by decide) ec464
                  have pr495 := gPC.gr xq468 sh398.1 (by decide) lp397k11
                  have pr496 := gRr.gr xq468 sh398.1 (by decide) (by decide) lp397k12
                  have pr497 := gRow.gr xq468 sh398.1 rfl (by decide) (by decide) lp397k13
                  have pr498 := gRow.gr xq468 sh398.1 rfl (by decide) (by decide) lp397k14
                  have uq499 := gSg.uq xq468 lp397u (by decide)
                  have hyst500 := gSta.gr xq468 (by decide) (fun x hx => by cases hx) (gSta.fr sh398.2 (by decide) lp397t)
                  have sS501 : gSs rT 1027 tyq468 [50006, 55008, 56000, 56001, 56002, 56003, 64999, 71005, 71006, 71007, 71008, 71009, 71010, 71011, 71012, 71013, 71014, 72999, 73999, 74999, 76999, 77999, 78999, 79999, 80999, 81999, 85999, 91004, 91008, 92004, 92008, 93999, 94999, 95999, 96999, 97999, 98999, 99999, 114999] hq468 hq468 := gSs.rf xq468.1
                  refine gy_s 2 (pc' := 122) (L' := [some (.ref x), some (.int (zi q)), some (.int ((zi i) + zi 1))]) (S' := []) (L2 := [some (.ref x), some (.int (zi q)), some (.int (zi (i + 1)))]) (S2 := []) rfl (by simp only [zi_add, zi_sub, zi_mul, zi_neg, zi_and1, zi_and7, zi_and15, zi_and31, zi_and255]) (by simp only [zi_add, zi_sub, zi_mul, zi_neg, zi_and1, zi_and7, zi_and15, zi_and31, zi_and255]) ?_
                  have G502 : gSg [71, 72, 73, 74, 75, 76, 77, 78, 79, 80, 81, 85, 91, 92, 93, 94, 95, 96, 97, 98, 99, 114, 200] [] [50006, 55008, 56000, 56001, 56002, 56003, 64999, 71005, 71006, 71007, 71008, 71009, 71010, 71011, 71012, 71013, 71014, 72999, 73999, 74999, 76999, 77999, 78999, 79999, 80999, 81999, 85999, 91004, 91008, 92004, 92008, 93999, 94999, 95999, 96999, 97999, 98999, 99999, 114999] ty h tyq468 hq468 := gSg.ss G469 sS501 (by decide)
                  exact gz_wk (ihlp397 tyq468 hq468 cq468_0 (i + 1) fq468_0 fq468_1 (by omega) G502 uq499 (gSta.fr sS501.2 (by decide) hyst500) t470 t471 t472 t473 t474 t475 ecq468_0 tcq468_0 (by omega) (by omega) (by omega) (by omega) (by omega) (by omega) (by omega) (by omega) (by omega) s482 s483 s484 s485 s486 s487 s488 s489 s490 efq468_0 efq468_1 pr495 pr496 pr497 pr498) (gLw.s (gLw.s (gLw.s gLw.z)))
            have G503 : gSg [71, 72, 73, 74, 75, 76, 77, 78, 79, 80, 81, 85, 91, 92, 93, 94, 95, 96, 97, 98, 99, 114, 200] [] [50006, 55008, 56000, 56001, 56002, 56003, 64999, 71005, 71006, 71007, 71008, 71009, 71010, 71011, 71012, 71013, 71014, 72999, 73999, 74999, 76999, 77999, 78999, 79999, 80999, 81999, 85999, 91004, 91008, 92004, 92008, 93999, 94999, 95999, 96999, 97999, 98999, 99999, 114999] ty h tyq367 hq367 := gSg.ss G368 sS395 (by decide)
            exact gz_wk (lp397 _ tyq367 hq367 cq367_0 0 fq367_0 fq367_1 (Nat.lt_succ_self _) G503 uq393 (gSta.fr sS395.2 (by decide) hyst394) t369 t370 t374 t375 t378 t379 ecq367_0 tcq367_0 (by omega) (by omega) (by omega) (by omega) (by omega) (by omega) (by omega) (by omega) (by omega) s380 s381 s382 s383 s384 s385 s386 s387 s388 efq367_0 efq367_1 pr389 pr391 rf rt) (gLw.s (gLw.s (gLw.s gLw.z)))
          · refine gy_ifF rfl (by decide) (by decide) (by omega) hc396 ?_
            refine gz_s 1 (pc' := 109) (L' := [some (.ref x), some (.int (zi q)), none]) (S' := [.ref x]) rfl ?_
            refine gs_gtk rfl (by decide) rfl sS395.1 t369 rfl rfl s386 ?_
            refine gz_s 4 (pc' := 117) (L' := [some (.ref x), some (.int (zi q)), none]) (S' := [.int (zi 0), .int (zi 0), .int (zi 63), .int (zi 0), .ref c7]) rfl ?_
            have hl504 : hq367.2.2.2.1 cq367_0 = hq367.2.2.2.1 cq367_0 := congrFun sS395.2.2.2.2.1 cq367_0
            refine gz_call rfl (by decide) rfl (by decide) (by decide) (gcal_of rfl rfl rfl (Nat.le_of_ble_eq_true rfl) (gJ.recv (G := gGG) sS395.1 t378 rfl rfl)) (cl_Writer_putScan _ sS395.1 c7 t378 0 (by omega) 63 (by omega) 0 (by omega) 0 (by omega) sk s388 t375 cq367_0 ecq367_0 tcq367_0 fq367_0 efq367_0 (by omega) fq367_1 efq367_1 (by omega) (by omega) (by omega) (by omega) uq393) (fun q505 _ wq505 => ?_)
            obtain ⟨pq505, oq505, hq505⟩ := q505
            obtain ⟨tyq505, xq505, cq505_0, ttq505, fq505_0, fq505_1, ecq505_0, tcq505_0, gq505, efq505_0, afq505_0, bfq505_0, efq505_1, afq505_1, bfq505_1, uq505_0, uq505_1, uq505_2, uq505_3, uq505_4, uq505_5⟩ := wq505
            dsimp only at uq505_2 uq505_3 uq505_4 uq505_5
            refine ⟨_, gq505, ?_⟩
            show gz gPP gGG gcn _ _ 120 [some (.ref x), some (.int (zi q)), none] [] hq505 _
            have G506 : gSg [71, 72, 73, 74, 75, 76, 77, 78, 79, 80, 81, 85, 91, 92, 93, 94, 95, 96, 97, 98, 99, 114, 200] [] [50006, 55008, 56000, 56001, 56002, 56003, 64999, 71005, 71006, 71007, 71008, 71009, 71010, 71011, 71012, 71013, 71014, 72999, 73999, 74999, 76999, 77999, 78999, 79999, 80999, 81999, 85999, 91004, 91008, 92004, 92008, 93999, 94999, 95999, 96999, 97999, 98999, 99999, 114999] ty h tyq505 hq505 := gSg.tr (gSg.ss G368 sS395 (by decide)) xq505 (by decide) (by decide) (fun x hx => by cases hx)
            have t507 : tyq505 x = 50 := gSg.typ xq505 sS395.1 t369 rfl
            have t508 : tyq505 pic = 54 := gSg.typ xq505 sS395.1 t370 rfl
            have t509 : tyq505 b0 = 82 := gSg.typ xq505 sS395.1 t371 rfl
            have t510 : tyq505 b1 = 83 := gSg.typ xq505 sS395.1 t372 rfl
            have t511 : tyq505 b2 = 84 := gSg.typ xq505 sS395.1 t373 rfl
            have t512 : tyq505 dr = 55 := gSg.typ xq505 sS395.1 t374 rfl
            have t513 : tyq505 sk = 56 := gSg.typ xq505 sS395.1 t375 rfl
            have t514 : tyq505 bt = 114 := gSg.typ xq505 sS395.1 t376 rfl
            have hl515 : hq505.2.2.2.1 bt = hq367.2.2.2.1 bt := gSg.len xq505 sS395.1 t376 rfl
            have t516 : tyq505 c7 = 71 := gSg.typ xq505 sS395.1 t378 rfl
            have t517 : tyq505 c332 = 53 := gSg.typ xq505 sS395.1 t379 rfl
            have t518 : tyq505 cq367_0 = 114 := gSg.typ xq505 sS395.1 tcq367_0 rfl
            have hl519 : hq505.2.2.2.1 cq367_0 = hq367.2.2.2.1 cq367_0 := gSg.len xq505 sS395.1 tcq367_0 rfl
            have s520 := gSg.at xq505 sS395.1 t369 rfl (by decide) s380
            have s521 := gSg.at xq505 sS395.1 t369 rfl (by decide) s381
            have s522 := gSg.at xq505 sS395.1 t369 rfl (by decide) s382
            have s523 := gSg.at xq505 sS395.1 t374 rfl (by decide) s383
            have s524 := gSg.at xq505 sS395.1 t374 rfl (by decide) s384
            have s525 := gSg.at xq505 sS395.1 t374 rfl (by decide) s385
            have s526 := gSg.at xq505 sS395.1 t369 rfl (by decide) s386
            have s527 := gSg.at xq505 sS395.1 t369 rfl (by decide) s387
            have s528 := gSg.at xq505 sS395.1 t378 rfl (by decide) s388
            have pr529 := gPC.gr xq505 sS395.1 (by decide) pr389
            have pr530 := gTc.gr xq505 sS395.1 (by decide) (by decide) pr390
            have pr531 := gRr.gr xq505 sS395.1 (by decide) (by decide) pr391
            have pr532 := gRw.gr xq505 sS395.1 (by decide) (by decide) pr392
            have uq533 := gSg.uq xq505 uq393 (by decide)
            have hyst534 := gSta.gr xq505 (by decide) (fun x hx => by cases hx) (gSta.fr sS395.2 (by decide) hyst394)
            have sS535 : gSs rT 1027 tyq505 [50006, 55008, 56000, 56001, 56002, 56003, 64999, 71005, 71006, 71007, 71008, 71009, 71010, 71011, 71012, 71013, 71014, 72999, 73999, 74999, 76999, 77999, 78999, 79999, 80999, 81999, 85999, 91004, 91008, 92004, 92008, 93999, 94999, 95999, 96999, 97999, 98999, 99999, 114999] hq505 hq505 := gSs.rf xq505.1
            obtain ⟨tf, tt, cf, rf, rt, rc, tle, tsm⟩ := pr530
            have hg0 := gsf_nn (f := fun j => gcr (cf j)) (fun j => by unfold gcr; split <;> omega) 64
            have hgl0 : gTl tf tt 0 = 0 := rfl
            refine gz_s 2 (pc' := 122) (L' := [some (.ref x), some (.int (zi q)), some (.int (zi 0))]) (S' := []) rfl ?_
            have lp536 : ∀ (fu : Nat) (ty538 : Nat → Nat) (h537 : gH) (bv : Nat) (i : Int) (cv : Int) (hv : Int), (11 - i).toNat < fu → gSg [71, 72, 73, 74, 75, 76, 77, 78, 79, 80, 81, 85, 91, 92, 93, 94, 95, 96, 97, 98, 99, 114, 200] [] [50006, 55008, 56000, 56001, 56002, 56003, 64999, 71005, 71006, 71007, 71008, 71009, 71010, 71011, 71012, 71013, 71014, 72999, 73999, 74999, 76999, 77999, 78999, 79999, 80999, 81999, 85999, 91004, 91008, 92004, 92008, 93999, 94999, 95999, 96999, 97999, 98999, 99999, 114999] ty h ty538 h537 → gUq ty538 → gSta ty538 h537 → ty538 x = 50 → ty538 pic = 54 → ty538 dr = 55 → ty538 sk = 56 → ty538 c7 = 71 → ty538 c332 = 53 → h537.2.2.2.2 sk 0 = .ref bv → ty538 bv = 114 → (0 ≤ i ∧ i ≤ 10) → (0 ≤ cv ∧ cv ≤ 499999) → (0 ≤ hv ∧ hv ≤ 7) → ((n0 = 0 ∧ 4 * cv + hv ≤ 336000) ∨ 4 * cv + hv ≤ 400 + 7876 * i + 5120 * gTl tf tt i) → (i ≤ n0) → (cv ≤ (h537.2.2.2.1 bv : Int)) → (1024 * (((h537.1 : Int) - h.1) - 21) ≤ (h537.2.2.2.1 bv : Int) - lb) → (((h537.2.1 : Int) - h.2.1) ≤ 4303 + 2 * ((h537.2.2.2.1 bv : Int) - lb)) → (lb ≤ (h537.2.2.2.1 bv : Int)) → h537.2.2.2.2 x 2 = .ref pic → h537.2.2.2.2 x 3 = .ref dr → h537.2.2.2.2 x 4 = .ref sk → h537.2.2.2.2 dr 8 = .int (zi n0) → h537.2.2.2.2 dr 3 = .int (zi iv) → h537.2.2.2.2 dr 1 = .int (zi z5) → h537.2.2.2.2 x 6 = .ref c7 → h537.2.2.2.2 x 1 = .ref c332 → h537.2.2.2.2 c7 0 = .ref sk → h537.2.2.2.2 sk 1 = .int (zi cv) → h537.2.2.2.2 sk 3 = .int (zi hv) → gPC ty538 pic b0 b1 b2 ld h537 → gRr ty538 x h537 → gRow ty538 60 tf h537 → gRow ty538 61 tt h537 → gz gPP gGG gcn (d + 8) gt89 122 [some (.ref x), some (.int (zi q)), some (.int (zi i))] [] h537 (fun q _ => ∃ ty9 : Nat → Nat, gSg [71, 72, 73, 74, 75, 76, 77, 78, 79, 80, 81, 85, 91, 92, 93, 94, 95, 96, 97, 98, 99, 114, 200] [] [50006, 55008, 56000, 56001, 56002, 56003, 64999, 71005, 71006, 71007, 71008, 71009, 71010, 71011, 71012, 71013, 71014, 72999, 73999, 74999, 76999, 77999, 78999, 79999, 80999, 81999, 85999, 91004, 91008, 92004, 92008, 93999, 94999, 95999, 96999, 97999, 98999, 99999, 114999] ty h ty9 q.2.2 ∧ ∃ ld1 lb1 iv1 : Int, 0 ≤ ld1 ∧ ld1 ≤ 192 ∧ 1024 ≤ lb1 ∧ lb1 ≤ 1000000 ∧ 0 ≤ iv1 ∧ iv1 ≤ 100 ∧ (gIx ty9 x ld1 lb1 iv1 q.2.2) ∧ gUq ty9 ∧ ((∃ z : Int, gfin gt89 q.1 q.2.1 = some (some (.int (zi z))) ∧ (-2147483648) ≤ z ∧ z ≤ 2147483647 ∧ (iv1 = iv) ∧ (1024 * (((q.2.2.1 : Int) - h.1) - 31 - 2 * (ld1 - ld)) ≤ lb1 - lb) ∧ (((q.2.2.2.1 : Int) - h.2.1) ≤ 4303 + 12480 * (ld1 - ld) + 2 * (lb1 - lb)) ∧ (ld ≤ ld1) ∧ (lb ≤ lb1)) ∨ (q.2.1 = [] ∧ ((q.1 = 11) ∨ (q.1 = 32)) ∧ (iv1 = iv) ∧ (1024 * (((q.2.2.1 : Int) - h.1) - 31 - 2 * (ld1 - ld)) ≤ lb1 - lb) ∧ (((q.2.2.2.1 : Int) - h.2.1) ≤ 4303 + 12480 * (ld1 - ld) + 2 * (lb1 - lb)) ∧ (ld ≤ ld1) ∧ (lb ≤ lb1)))) := by
              intro fu
              induction fu with
              | zero => intro ty538 h537 bv i cv hv hm; exact absurd hm (Nat.not_lt_zero _)
              | succ fu ihlp536 =>
                intro ty538 h537 bv i cv hv lp536m lp536G lp536u lp536t lp536c0 lp536c1 lp536c2 lp536c3 lp536c4 lp536c5 lp536r0 lp536r1 lp536f0 lp536f1 lp536f2 lp536f3 lp536f4 lp536f5 lp536f6 lp536f7 lp536f8 lp536k0 lp536k1 lp536k2 lp536k3 lp536k4 lp536k5 lp536k6 lp536k7 lp536k8 lp536k9 lp536k10 lp536k11 lp536k12 lp536k13 lp536k14
                have sh537 : gSs rT 1027 ty538 [50006, 55008, 56000, 56001, 56002, 56003, 64999, 71005, 71006, 71007, 71008, 71009, 71010, 71011, 71012, 71013, 71014, 72999, 73999, 74999, 76999, 77999, 78999, 79999, 80999, 81999, 85999, 91004, 91008, 92004, 92008, 93999, 94999, 95999, 96999, 97999, 98999, 99999, 114999] h537 h537 := gSs.rf lp536G.1
                refine gz_s 2 (pc' := 124) (L' := [some (.ref x), some (.int (zi q)), some (.int (zi i))]) (S' := [.ref x, .int (zi i)]) rfl ?_
                refine gs_gtk rfl (by decide) rfl sh537.1 lp536c0 rfl rfl lp536k1 ?_
                refine gs_gtk rfl (by decide) rfl sh537.1 lp536c2 rfl rfl lp536k3 ?_
                refine gy_icT (pc' := 182) rfl (by decide) (by decide) (by omega) (by omega) (by first | (simp [zc]; done) | (simp only [zc]; omega)) ?_
                refine gz_s 1 (pc' := 183) (L' := [some (.ref x), some (.int (zi q)), some (.int (zi i))]) (S' := [.ref x]) rfl ?_
                refine gs_gtk rfl (by decide) rfl sh537.1 lp536c0 rfl rfl lp536k6 ?_
                have hl539 : h537.2.2.2.1 bv = h537.2.2.2.1 bv := congrFun sh537.2.2.2.2.1 bv
                refine gz_call rfl (by decide) rfl (by decide) (by decide) (gcal_of rfl rfl rfl (Nat.le_of_ble_eq_true rfl) (gJ.recv (G := gGG) sh537.1 lp536c4 rfl rfl)) (cl_Writer_putEnd _ sh537.1 c7 lp536c4 sk lp536k8 lp536c3 bv lp536r0 lp536r1 cv lp536k9 (by omega) (by omega) lp536u) (fun q540 _ wq540 => ?_)
                obtain ⟨pq540, oq540, hq540⟩ := q540
                obtain ⟨tyq540, xq540, cq540_0, ttq540, fq540_0, ecq540_0, tcq540_0, gq540, efq540_0, afq540_0, bfq540_0, uq540_0, uq540_1, uq540_2, uq540_3, uq540_4⟩ := wq540
                dsimp only at uq540_1 uq540_2 uq540_3 uq540_4
                refine ⟨_, gq540, ?_⟩
                show gz gPP gGG gcn _ _ 189 [some (.ref x), some (.int (zi q)), some (.int (zi i))] [] hq540 _
                have G541 : gSg [71, 72, 73, 74, 75, 76, 77, 78, 79, 80, 81, 85, 91, 92, 93, 94, 95, 96, 97, 98, 99, 114, 200] [] [50006, 55008, 56000, 56001, 56002, 56003, 64999, 71005, 71006, 71007, 71008, 71009, 71010, 71011, 71012, 71013, 71014, 72999, 73999, 74999, 76999, 77999, 78999, 79999, 80999, 81999, 85999, 91004, 91008, 92004, 92008, 93999, 94999, 95999, 96999, 97999, 98999, 99999, 114999] ty h tyq540 hq540 := gSg.tr (gSg.ss lp536G sh537 (by decide)) xq540 (by decide) (by decide) (fun x hx => by cases hx)
                have t542 : tyq540 x = 50 := gSg.typ xq540 sh537.1 lp536c0 rfl
                have t543 : tyq540 pic = 54 := gSg.typ xq540 sh537.1 lp536c1 rfl
                have t544 : tyq540 dr = 55 := gSg.typ xq540 sh537.1 lp536c2 rfl
                have t545 : tyq540 sk = 56 := gSg.typ xq540 sh537.1 lp536c3 rfl
                have t546 : tyq540 c7 = 71 := gSg.typ xq540 sh537.1 lp536c4 rfl
                have t547 : tyq540 c332 = 53 := gSg.typ xq540 sh537.1 lp536c5 rfl
                have t548 : tyq540 bv = 114 := gSg.typ xq540 sh537.1 lp536r1 rfl
                have hl549 : hq540.2.2.2.1 bv = h537.2.2.2.1 bv := gSg.len xq540 sh537.1 lp536r1 rfl
                have s550 := gSg.at xq540 sh537.1 lp536c0 rfl (by decide) lp536k0
                have s551 := gSg.at xq540 sh537.1 lp536c0 rfl (by decide) lp536k1
                have s552 := gSg.at xq540 sh537.1 lp536c0 rfl (by decide) lp536k2
                have s553 := gSg.at xq540 sh537.1 lp536c2 rfl (by decide) lp536k3
                have s554 := gSg.at xq540 sh537.1 lp536c2 rfl (by decide) lp536k4
                have s555 := gSg.at xq540 sh537.1 lp536c2 rfl (by decide) lp536k5
                have s556 := gSg.at xq540 sh537.1 lp536c0 rfl (by decide) lp536k6
                have s557 := gSg.at xq540 sh537.1 lp536c0 rfl (by decide) lp536k7
                have s558 := gSg.at xq540 sh537.1 lp536c4 rfl (by decide) lp536k8
                have s559 := gSg.at xq540 sh537.1 lp536c3 rfl (by decide) lp536k10
                have pr560 := gPC.gr xq540 sh537.1 (by decide) lp536k11
                have pr561 := gRr.gr xq540 sh537.1 (by decide) (by decide) lp536k12
                have pr562 := gRow.gr xq540 sh537.1 rfl (by decide) (by decide) lp536k13
                have pr563 := gRow.gr xq540 sh537.1 rfl (by decide) (by decide) lp536k14
                have uq564 := gSg.uq xq540 lp536u (by decide)
                have hyst565 := gSta.gr xq540 (by decide) (fun x hx => by cases hx) (gSta.fr sh537.2 (by decide) lp536t)
                have sS566 : gSs rT 1027 tyq540 [50006, 55008, 56000, 56001, 56002, 56003, 64999, 71005, 71006, 71007, 71008, 71009, 71010, 71011, 71012, 71013, 71014, 72999, 73999, 74999, 76999, 77999, 78999, 79999, 80999, 81999, 85999, 91004, 91008, 92004, 92008, 93999, 94999, 95999, 96999, 97999, 98999, 99999, 114999] hq540 hq540 := gSs.rf xq540.1
                refine gz_s 1 (pc' := 190) (L' := [some (.ref x), some (.int (zi q)), some (.int (zi i))]) (S' := [.ref x]) rfl ?_
                refine gs_gtk rfl (by decide) rfl sS566.1 t542 rfl rfl s551 ?_
                refine gz_call rfl (by decide) rfl (by decide) (by decide) (gcal_of rfl rfl rfl (Nat.le_of_ble_eq_true rfl) (gJ.recv (G := gGG) sS566.1 t544 rfl rfl)) (cl_Draft_forgetScans _ sS566.1 dr t544 uq564) (fun q567 _ wq567 => ?_)
                obtain ⟨pq567, oq567, hq567⟩ := q567
                obtain ⟨xq567, fq567_0, gq567, efq567_0, afq567_0, bfq567_0, uq567_0, yq567_0⟩ := wq567
                refine ⟨_, gq567, ?_⟩
                show gz gPP gGG gcn _ _ 196 [some (.ref x), some (.int (zi q)), some (.int (zi i))] [] hq567 _
                have sq567 : gSs rT 1027 tyq540 [50006, 55008, 56000, 56001, 56002, 56003, 64999, 71005, 71006, 71007, 71008, 71009, 71010, 71011, 71012, 71013, 71014, 72999, 73999, 74999, 76999, 77999, 78999, 79999, 80999, 81999, 85999, 91004, 91008, 92004, 92008, 93999, 94999, 95999, 96999, 97999, 98999, 99999, 114999] hq540 hq567 := gSs.tr sS566 xq567 (by decide)
                have s568 := (xq567.2.2.2.2.2 x 2 (by rw [t542]; decide)).trans s550
                have s569 := (xq567.2.2.2.2.2 x 3 (by rw [t542]; decide)).trans s551
                have s570 := (xq567.2.2.2.2.2 x 4 (by rw [t542]; decide)).trans s552
                have s571 := (xq567.2.2.2.2.2 dr 3 (by rw [t544]; decide)).trans s554
                have s572 := (xq567.2.2.2.2.2 dr 1 (by rw [t544]; decide)).trans s555
                have s573 := (xq567.2.2.2.2.2 x 6 (by rw [t542]; decide)).trans s556
                have s574 := (xq567.2.2.2.2.2 x 1 (by rw [t542]; decide)).trans s557
                have s575 := (xq567.2.2.2.2.2 c7 0 (by rw [t546]; decide)).trans s558
                have s576 := (xq567.2.2.2.2.2 sk 3 (by rw [t545]; decide)).trans s559
                have s577 := (xq567.2.2.2.2.2 sk 0 (by rw [t545]; decide)).trans ecq540_0
                have s578 := (xq567.2.2.2.2.2 sk 1 (by rw [t545]; decide)).trans efq540_0
                have pr579 := gPC.fr xq567.2 (by decide) pr560
                have pr580 := gRr.fr xq567.2 (by decide) pr561
                have pr581 := gRow.fr xq567.2 (by decide) pr562
                have pr582 := gRow.fr xq567.2 (by decide) pr563
                refine gz_s 1 (pc' := 197) (L' := [some (.ref x), some (.int (zi q)), some (.int (zi i))]) (S' := [.ref x]) rfl ?_
                refine gs_gtk rfl (by decide) rfl sq567.1 t542 rfl rfl s570 ?_
                refine gs_gtk rfl (by decide) rfl sq567.1 t545 rfl rfl s578 ?_
                have k583 := sq567.2.1
                have k583b := sq567.2.2.1
                have hl584 : hq567.2.2.2.1 bv = hq540.2.2.2.1 bv := congrFun sq567.2.2.2.2.1 bv
                have hl585 : hq567.2.2.2.1 cq540_0 = hq540.2.2.2.1 cq540_0 := congrFun sq567.2.2.2.2.1 cq540_0
                have k586 := sq567.2.1
                have k586b := sq567.2.2.1
                have hl587 : hq567.2.2.2.1 bv = hq540.2.2.2.1 bv := congrFun sq567.2.2.2.2.1 bv
                have hl588 : hq567.2.2.2.1 cq540_0 = hq540.2.2.2.1 cq540_0 := congrFun sq567.2.2.2.2.1 cq540_0
                have hix589 : gIx tyq540 x ld (hq567.2.2.2.1 cq540_0 : Int) iv hq567 := ⟨pic, b0, b1, b2, dr, sk, cq540_0, fq567_0, fq540_0, ⟨t542, t544, t545, tcq540_0⟩, ⟨s568, s569, s570, s577⟩, pr579, (by rw [(by omega : fq567_0 = 0)]; exact yq567_0), ⟨efq567_0, by omega, by omega⟩, ⟨s571, by omega, by omega⟩, ⟨s578, by omega, by omega⟩, ⟨by omega, by omega⟩, pr580, ⟨t542, Or.inr ⟨c7, s573, t546⟩⟩⟩
                have G590 : gSg [71, 72, 73, 74, 75, 76, 77, 78, 79, 80, 81, 85, 91, 92, 93, 94, 95, 96, 97, 98, 99, 114, 200] [] [50006, 55008, 56000, 56001, 56002, 56003, 64999, 71005, 71006, 71007, 71008, 71009, 71010, 71011, 71012, 71013, 71014, 72999, 73999, 74999, 76999, 77999, 78999, 79999, 80999, 81999, 85999, 91004, 91008, 92004, 92008, 93999, 94999, 95999, 96999, 97999, 98999, 99999, 114999] ty h tyq540 hq567 := gSg.ss G541 sq567 (by decide)
                exact gz_end (I := .ireturn) (len := 1) rfl (Or.inl rfl) ⟨tyq540, G590, ld, (hq567.2.2.2.1 cq540_0 : Int), iv, (by omega), (by omega), (by omega), (by omega), (by omega), (by omega), hix589, uq564, Or.inl ⟨fq540_0, rfl, (by omega), (by omega), (by omega), (by dsimp only; omega), (by dsimp only; omega), (by omega), (by omega)⟩⟩
            have G591 : gSg [71, 72, 73, 74, 75, 76, 77, 78, 79, 80, 81, 85, 91, 92, 93, 94, 95, 96, 97, 98, 99, 114, 200] [] [50006, 55008, 56000, 56001, 56002, 56003, 64999, 71005, 71006, 71007, 71008, 71009, 71010, 71011, 71012, 71013, 71014, 72999, 73999, 74999, 76999, 77999, 78999, 79999, 80999, 81999, 85999, 91004, 91008, 92004, 92008, 93999, 94999, 95999, 96999, 97999, 98999, 99999, 114999] ty h tyq505 hq505 := gSg.ss G506 sS535 (by decide)
            exact gz_wk (lp536 _ tyq505 hq505 cq505_0 0 fq505_0 fq505_1 (Nat.lt_succ_self _) G591 uq533 (gSta.fr sS535.2 (by decide) hyst534) t507 t508 t512 t513 t516 t517 ecq505_0 tcq505_0 (by omega) (by omega) (by omega) (by omega) (by omega) (by omega) (by omega) (by omega) (by omega) s520 s521 s522 s523 s524 s525 s526 s527 s528 efq505_0 efq505_1 pr529 pr531 rf rt) (gLw.s (gLw.s (gLw.s gLw.z)))
      · refine gy_icF rfl (by decide) (by decide) (by omega) (by omega) hc6 ?_
        have hix592 : gIx ty x ld (h.2.2.2.1 bt : Int) iv h := ⟨pic, b0, b1, b2, dr, sk, bt, n0, c0, ⟨tx, tdr, tsk, tbt⟩, ⟨ex2, ex3, ex4, ex0⟩, hpc, htc, ⟨en0, by omega, by omega⟩, ⟨eiv, by omega, by omega⟩, ⟨ec0, by omega, by omega⟩, ⟨by omega, by omega⟩, hrr, hrw⟩
        have G593 : gSg [71, 72, 73, 74, 75, 76, 77, 78, 79, 80, 81, 85, 91, 92, 93, 94, 95, 96, 97, 98, 99, 114, 200] [] [50006, 55008, 56000, 56001, 56002, 56003, 64999, 71005, 71006, 71007, 71008, 71009, 71010, 71011, 71012, 71013, 71014, 72999, 73999, 74999, 76999, 77999, 78999, 79999, 80999, 81999, 85999, 91004, 91008, 92004, 92008, 93999, 94999, 95999, 96999, 97999, 98999, 99999, 114999] ty h ty h := gSg.ss G0 hS (by decide)
        exact gz_end (I := .new 157) (len := 3) rfl (Or.inr (by decide)) ⟨ty, G593, ld, (h.2.2.2.1 bt : Int), iv, (by omega), (by omega), (by omega), (by omega), (by omega), (by omega), hix592, uq, Or.inr ⟨rfl, Or.inr (rfl), (by omega), (by dsimp only; omega), (by dsimp only; omega), (by omega), (by omega)⟩⟩
    · refine gy_icF rfl (by decide) (by decide) (by omega) (by omega) hc4 ?_
      have hix594 : gIx ty x ld (h.2.2.2.1 bt : Int) iv h := ⟨pic, b0, b1, b2, dr, sk, bt, n0, c0, ⟨tx, tdr, tsk, tbt⟩, ⟨ex2, ex3, ex4, ex0⟩, hpc, htc, ⟨en0, by omega, by omega⟩, ⟨eiv, by omega, by omega⟩, ⟨ec0, by omega, by omega⟩, ⟨by omega, by omega⟩, hrr, hrw⟩
      have G595 : gSg [71, 72, 73, 74, 75, 76, 77, 78, 79, 80, 81, 85, 91, 92, 93, 94, 95, 96, 97, 98, 99, 114, 200] [] [50006, 55008, 56000, 56001, 56002, 56003, 64999, 71005, 71006, 71007, 71008, 71009, 71010, 71011, 71012, 71013, 71014, 72999, 73999, 74999, 76999, 77999, 78999, 79999, 80999, 81999, 85999, 91004, 91008, 92004, 92008, 93999, 94999, 95999, 96999, 97999, 98999, 99999, 114999] ty h ty h := gSg.ss G0 hS (by decide)
      exact gz_end (I := .new 134) (len := 3) rfl (Or.inr (by decide)) ⟨ty, G595, ld, (h.2.2.2.1 bt : Int), iv, (by omega), (by omega), (by omega), (by omega), (by omega), (by omega), hix594, uq, Or.inr ⟨rfl, Or.inl rfl, (by omega), (by dsimp only; omega), (by dsimp only; omega), (by omega), (by omega)⟩⟩
