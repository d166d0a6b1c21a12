/-! ===== methods of the landed text (by program) ===== -/
set_option maxRecDepth 20000 in
set_option maxHeartbeats 4000000 in
theorem cl_DctFilter_encode (d : Nat) {ty : Nat → Nat} {h : gH} (hJ : gJ rT 1027 ty h) (x : Nat) (tx : ty x = 50) (qu : Int) (rqu : (-2147483648) ≤ qu ∧ qu ≤ 2147483647) (hyst : gSta ty h) (S : gSS) (ld : Int) (rld : 0 ≤ ld ∧ ld ≤ 192) (lb : Int) (rlb : 1024 ≤ lb ∧ lb ≤ 1000000) (iv : Int) (riv : 0 ≤ iv ∧ iv ≤ 54223962112) (uq : gUq ty) (hyix : gIx ty x ld lb iv S h) (hysx : gStx ty h) : gz gPP gGG gcn (d + 8) gt89 0 (gent [.ref x, .int (zi qu)] 3) [] h (fun q _ => ∃ ty9 : Nat → Nat, gSg [71, 72, 73, 74, 75, 76, 77, 78, 79, 80, 81, 85, 91, 92, 93, 94, 95, 96, 97, 98, 99, 114, 200] [] [50006, 55008, 56000, 56001, 56002, 56003, 64999, 71005, 71006, 71007, 71008, 71009, 71010, 71011, 71012, 71013, 71014, 72999, 73999, 74999, 76999, 77999, 78999, 79999, 80999, 81999, 85999, 91004, 91008, 92004, 92008, 93999, 94999, 95999, 96999, 97999, 98999, 99999, 114999] ty h ty9 q.2.2 ∧ ∃ ld1 lb1 iv1 : Int, 0 ≤ ld1 ∧ ld1 ≤ 192 ∧ 1024 ≤ lb1 ∧ lb1 ≤ 1000000 ∧ 0 ≤ iv1 ∧ iv1 ≤ 54223962112 ∧ (gIx ty9 x ld1 lb1 iv1 (eQ3 qu (iv / 536870912) (iv / 64 % 64) (iv / 4096 % 64) (iv % 64) S) q.2.2) ∧ gUq ty9 ∧ ((∃ z : Int, gfin gt89 q.1 q.2.1 = some (some (.int (zi z))) ∧ (-2147483648) ≤ z ∧ z ≤ 2147483647 ∧ (1 ≤ qu) ∧ (qu ≤ 100) ∧ (1 ≤ iv / 64 % 64) ∧ (iv1 = iv - iv % 64) ∧ (z = (eNn qu (iv / 536870912) (iv / 64 % 64) (iv / 4096 % 64) (iv % 64) S).1) ∧ (1024 * (((q.2.2.1 : Int) - h.1) - 31 - 2 * (ld1 - ld)) ≤ lb1 - lb) ∧ (((q.2.2.2.1 : Int) - h.2.1) ≤ 4303 + 12480 * (ld1 - ld) + 2 * (lb1 - lb)) ∧ (ld ≤ ld1) ∧ (lb ≤ lb1)) ∨ (q.2.1 = [] ∧ ((q.1 = 11 ∧ (¬ (1 ≤ qu ∧ qu ≤ 100))) ∨ (q.1 = 32 ∧ (1 ≤ qu) ∧ (qu ≤ 100) ∧ (iv / 64 % 64 = 0))) ∧ (iv1 = iv) ∧ (1024 * (((q.2.2.1 : Int) - h.1) - 31 - 2 * (ld1 - ld)) ≤ lb1 - lb) ∧ (((q.2.2.2.1 : Int) - h.2.1) ≤ 4303 + 12480 * (ld1 - ld) + 2 * (lb1 - lb)) ∧ (ld ≤ ld1) ∧ (lb ≤ lb1)))) := by
  have hS : gSs rT 1027 ty [50006, 55008, 56000, 56001, 56002, 56003, 64999, 71005, 71006, 71007, 71008, 71009, 71010, 71011, 71012, 71013, 71014, 72999, 73999, 74999, 76999, 77999, 78999, 79999, 80999, 81999, 85999, 91004, 91008, 92004, 92008, 93999, 94999, 95999, 96999, 97999, 98999, 99999, 114999] h h := gSs.rf hJ
  have G0 : gSg [71, 72, 73, 74, 75, 76, 77, 78, 79, 80, 81, 85, 91, 92, 93, 94, 95, 96, 97, 98, 99, 114, 200] [] [50006, 55008, 56000, 56001, 56002, 56003, 64999, 71005, 71006, 71007, 71008, 71009, 71010, 71011, 71012, 71013, 71014, 72999, 73999, 74999, 76999, 77999, 78999, 79999, 80999, 81999, 85999, 91004, 91008, 92004, 92008, 93999, 94999, 95999, 96999, 97999, 98999, 99999, 114999] ty h ty h := gSg.rf hJ (fun x hx => by cases hx)
  obtain ⟨pic, b0, b1, b2, dr, sk, bt, cl, n0, c0, i0, dw, dh, scl, ⟨_, tdr, tsk, tbt⟩, ⟨ex2, ex3, ex4, ex0⟩, hpc, htc, ⟨en0, rn0⟩, ⟨eiv, ri0⟩, ⟨ec0, rc0⟩, ⟨lc0, llb⟩, hrr, hrw, ⟨edw, rdw⟩, ⟨edh, rdh⟩, hwh, hcd, hxr, ⟨hsw, hc0⟩, htz, tcl, ex9, ⟨ecl, rcl⟩⟩ := hyix
  have tpic := hpc.1.1
  have tb0 := hpc.1.2.1
  have tb1 := hpc.1.2.2.1
  have tb2 := hpc.1.2.2.2
  have hdw : iv / 64 % 64 = dw := by omega
  have hdh : iv / 4096 % 64 = dh := by omega
  have hdn : iv % 64 = n0 := by omega
  have hdi : iv / 536870912 = i0 := by omega
  refine gz_s 2 (pc' := 2) (L' := [some (.ref x), some (.int (zi qu)), none]) (S' := [.int (zi 1), .int (zi qu)]) rfl ?_
  by_cases hc1 : (qu : Int) < 1
  · refine gy_icT (pc' := 11) rfl (by decide) (by decide) (by omega) (by omega) hc1 ?_
    have hl2 : 1024 ≤ h.2.2.2.1 bt ∧ h.2.2.2.1 bt ≤ 1000000 := gJ.rowl (G := gGG) hS.1 tbt rfl
    have hix3 : gIx ty x ld (h.2.2.2.1 bt : Int) (64 * dw + n0 + 4096 * dh + 262144 * scl + 536870912 * i0) S h := ⟨pic, b0, b1, b2, dr, sk, bt, cl, n0, c0, i0, dw, dh, scl, ⟨tx, tdr, tsk, tbt⟩, ⟨ex2, ex3, ex4, ex0⟩, hpc, htc, ⟨en0, by omega, by omega⟩, ⟨eiv, by omega, by omega⟩, ⟨ec0, by omega, by omega⟩, ⟨by omega, by omega⟩, hrr, hrw, ⟨edw, by omega, by omega⟩, ⟨edh, by omega, by omega⟩, by omega, rfl, hxr, ⟨hsw, hc0⟩, htz, tcl, ex9, ⟨ecl, by omega, by omega⟩⟩
    have hix4 : gIx ty x ld (h.2.2.2.1 bt : Int) (64 * dw + n0 + 4096 * dh + 262144 * scl + 536870912 * i0) (eQ3 qu (iv / 536870912) (iv / 64 % 64) (iv / 4096 % 64) (iv % 64) S) h := by rw [eQ3_n (by omega)]; exact hix3
    have G5 : gSg [71, 72, 73, 74, 75, 76, 77, 78, 79, 80, 81, 85, 91, 92, 93, 94, 95, 96, 97, 98, 99, 114, 200] [] [50006, 55008, 56000, 56001, 56002, 56003, 64999, 71005, 71006, 71007, 71008, 71009, 71010, 71011, 71012, 71013, 71014, 72999, 73999, 74999, 76999, 77999, 78999, 79999, 80999, 81999, 85999, 91004, 91008, 92004, 92008, 93999, 94999, 95999, 96999, 97999, 98999, 99999, 114999] ty h ty h := gSg.ss G0 hS (by decide)
    exact gz_end (I := .new 134) (len := 3) rfl (Or.inr (by decide)) ⟨ty, G5, ld, (h.2.2.2.1 bt : Int), (64 * dw + n0 + 4096 * dh + 262144 * scl + 536870912 * i0), (by omega), (by omega), (by omega), (by omega), (by omega), (by omega), hix4, uq, Or.inr ⟨rfl, Or.inl ⟨rfl, (by omega)⟩, (by omega), (by dsimp only; omega), (by dsimp only; omega), (by omega), (by omega)⟩⟩
  · refine gy_icF rfl (by decide) (by decide) (by omega) (by omega) hc1 ?_
    refine gz_s 2 (pc' := 8) (L' := [some (.ref x), some (.int (zi qu)), none]) (S' := [.int (zi 100), .int (zi qu)]) rfl ?_
    by_cases hc6 : (qu : Int) ≤ 100
    · refine gy_icT (pc' := 21) rfl (by decide) (by decide) (by omega) (by omega) hc6 ?_
      refine gz_s 1 (pc' := 22) (L' := [some (.ref x), some (.int (zi qu)), none]) (S' := [.ref x]) rfl ?_
      refine gs_gtk rfl (by decide) rfl hS.1 tx rfl rfl ex3 ?_
      refine gs_gtk rfl (by decide) rfl hS.1 tdr rfl rfl edw ?_
      refine gz_s 1 (pc' := 29) (L' := [some (.ref x), some (.int (zi qu)), none]) (S' := [.int (zi 1), .int (zi dw)]) rfl ?_
      by_cases hc7 : (1 : Int) ≤ dw
      · refine gy_icT (pc' := 42) rfl (by decide) (by decide) (by omega) (by omega) hc7 ?_
        have hok : 1 ≤ qu ∧ qu ≤ 100 ∧ ¬ dw = 0 := ⟨by omega, by omega, by omega⟩
        obtain ⟨xr8, xr9, xr10, xr11, xr12, xr13, xr14⟩ := hxr
        refine gz_s 1 (pc' := 43) (L' := [some (.ref x), some (.int (zi qu)), none]) (S' := [.ref x]) rfl ?_
        refine gs_nul rfl (by decide) rfl hS.1 tx rfl rfl rfl (fun ec15 => ?_) (fun c15 ec15 tc15 => ?_)
        · skip
          have no9 := gRw.no hrw ec15
          refine gz_s 2 (pc' := 50) (L' := [some (.ref x), some (.int (zi qu)), none]) (S' := [.ref x]) rfl ?_
          refine gs_newo rfl (by decide) rfl hS.1 (Nat.le_of_lt (Nat.lt_of_le_of_lt (gJ.cell hS.1 tx rfl).1 (gJ.cell hS.1 tx rfl).2.1)) (fun ty16 h17 c18 g19 tc18 kc18 zc18 nc18 mc18 ec18 dc18 => ?_)
          have mfc18 : h17.2.1 = h.2.1 + 15 := mc18
          have gac18 : h.1 ≤ c18 := by have h8 := G0.2.1; have h9 := hS.2.1; omega
          have nnc18 : 1027 ≤ c18 := by have h8 := (Nat.le_of_lt (Nat.lt_of_le_of_lt (gJ.cell hS.1 tx rfl).1 (gJ.cell hS.1 tx rfl).2.1)); omega
          have llc18 := Nat.lt_of_lt_of_eq (Nat.lt_succ_of_le (Nat.le_of_eq ec18)) nc18.symm
          have G20 : gSg [71, 72, 73, 74, 75, 76, 77, 78, 79, 80, 81, 85, 91, 92, 93, 94, 95, 96, 97, 98, 99, 114, 200] [] [50006, 55008, 56000, 56001, 56002, 56003, 64999, 71005, 71006, 71007, 71008, 71009, 71010, 71011, 71012, 71013, 71014, 72999, 73999, 74999, 76999, 77999, 78999, 79999, 80999, 81999, 85999, 91004, 91008, 92004, 92008, 93999, 94999, 95999, 96999, 97999, 98999, 99999, 114999] ty h ty16 h17 := gSg.tr (gSg.ss G0 hS (by decide)) g19 (by decide) (by decide) (fun x hx => by cases hx)
          have t21 : ty16 x = 50 := gSg.typ g19 hS.1 tx rfl
          have t22 : ty16 pic = 54 := gSg.typ g19 hS.1 tpic rfl
          have t23 : ty16 b0 = 82 := gSg.typ g19 hS.1 tb0 rfl
          have t24 : ty16 b1 = 83 := gSg.typ g19 hS.1 tb1 rfl
          have t25 : ty16 b2 = 84 := gSg.typ g19 hS.1 tb2 rfl
          have t26 : ty16 dr = 55 := gSg.typ g19 hS.1 tdr rfl
          have t27 : ty16 sk = 56 := gSg.typ g19 hS.1 tsk rfl
          have t28 : ty16 bt = 114 := gSg.typ g19 hS.1 tbt rfl
          have hl29 : h17.2.2.2.1 bt = h.2.2.2.1 bt := gSg.len g19 hS.1 tbt rfl
          have t30 : ty16 cl = 51 := gSg.typ g19 hS.1 tcl rfl
          have s31 := gSg.at g19 hS.1 tx rfl (by decide) ex2
          have s32 := gSg.at g19 hS.1 tx rfl (by decide) ex3
          have s33 := gSg.at g19 hS.1 tx rfl (by decide) ex4
          have s34 := gSg.at g19 hS.1 tsk rfl (by decide) ex0
          have s35 := gSg.at g19 hS.1 tx rfl (by decide) ex9
          have s36 := gSg.at g19 hS.1 tdr rfl (by decide) en0
          have s37 := gSg.at g19 hS.1 tdr rfl (by decide) eiv
          have s38 := gSg.at g19 hS.1 tdr rfl (by decide) edw
          have s39 := gSg.at g19 hS.1 tdr rfl (by decide) edh
          have s40 := gSg.at g19 hS.1 tsk rfl (by decide) ec0
          have s41 := gSg.at g19 hS.1 tcl rfl (by decide) ecl
          have s42 := gSg.at g19 hS.1 tx rfl (by decide) ec15
          have pr43 := gStx.gr g19 (by decide) (fun x hx => by cases hx) hysx
          have pr44 := gSW.gr g19 hS.1 (by decide) hsw
          have pr45 := gPC.gr g19 hS.1 (by decide) hpc
          have pr46 := gTc.gr g19 hS.1 (by decide) (by decide) htc
          have pr47 := gRr.gr g19 hS.1 (by decide) (by decide) hrr
          have pr48 := gRw.gr g19 hS.1 (by decide) (by decide) hrw
          have pr49 := gRn.gr g19 hS.1 rfl (by decide) (by decide) xr8
          have pr50 := gRn.gr g19 hS.1 rfl (by decide) (by decide) xr9
          have pr51 := gRn.gr g19 hS.1 rfl (by decide) (by decide) xr10
          have pr52 := gRn.gr g19 hS.1 rfl (by decide) (by decide) xr11
          have pr53 := gRn.gr g19 hS.1 rfl (by decide) (by decide) xr12
          have pr54 := gRn.gr g19 hS.1 rfl (by decide) (by decide) xr13
          have pr55 := gRn.gr g19 hS.1 rfl (by decide) (by decide) xr14
          have pr56 : gNo [71, 72, 73, 74, 75, 76, 77, 78, 79, 80, 81, 85, 91, 92, 93, 94, 95, 96, 97, 98, 99] ty16 := gNo.gr g19 (by decide) (gNo.sub (by decide) no9)
          have uq57 := gSg.uq g19 uq (by decide)
          have hyst58 := gSta.gr g19 (by decide) (fun x hx => by cases hx) (gSta.fr hS.2 (by decide) hyst)
          have sS59 : gSs rT 1027 ty16 [50006, 55008, 56000, 56001, 56002, 56003, 64999, 71005, 71006, 71007, 71008, 71009, 71010, 71011, 71012, 71013, 71014, 72999, 73999, 74999, 76999, 77999, 78999, 79999, 80999, 81999, 85999, 91004, 91008, 92004, 92008, 93999, 94999, 95999, 96999, 97999, 98999, 99999, 114999] h17 h17 := gSs.rf g19.1
          refine gz_s 2 (pc' := 55) (L' := [some (.ref x), some (.int (zi qu)), none]) (S' := [.ref x, .ref c18, .ref c18, .ref x]) rfl ?_
          refine gs_gtk rfl (by decide) rfl sS59.1 t21 rfl rfl s33 ?_
          refine gz_call rfl (by decide) rfl (by decide) (by decide) (gcal_of rfl rfl rfl (Nat.le_of_ble_eq_true rfl) rfl) (ct_Writer _ sS59.1 c18 tc18 nnc18 llc18 kc18 zc18 dc18 sk t27 pr56 uq57) (fun q60 _ wq60 => ?_)
          obtain ⟨pq60, oq60, hq60⟩ := q60
          obtain ⟨tyq60, xq60, trq60_0, gq60, uq60_0, uq60_1, uqq60⟩ := wq60
          dsimp only at uq60_0 uq60_1
          refine ⟨_, gq60, ?_⟩
          show gz gPP gGG gcn _ _ 61 [some (.ref x), some (.int (zi qu)), none] [.ref c18, .ref x] hq60 _
          have G61 : gSg [71, 72, 73, 74, 75, 76, 77, 78, 79, 80, 81, 85, 91, 92, 93, 94, 95, 96, 97, 98, 99, 114, 200] [] [50006, 55008, 56000, 56001, 56002, 56003, 64999, 71005, 71006, 71007, 71008, 71009, 71010, 71011, 71012, 71013, 71014, 72999, 73999, 74999, 76999, 77999, 78999, 79999, 80999, 81999, 85999, 91004, 91008, 92004, 92008, 93999, 94999, 95999, 96999, 97999, 98999, 99999, 114999] ty h tyq60 hq60 := gSg.tr (gSg.ss G20 sS59 (by decide)) xq60 (by decide) (by decide) (fun x hx => Or.inl (by rw [List.mem_singleton.mp hx]; exact gac18))
          have t62 : tyq60 x = 50 := gSg.typ xq60 sS59.1 t21 rfl
          have t63 : tyq60 pic = 54 := gSg.typ xq60 sS59.1 t22 rfl
          have t64 : tyq60 b0 = 82 := gSg.typ xq60 sS59.1 t23 rfl
          have t65 : tyq60 b1 = 83 := gSg.typ xq60 sS59.1 t24 rfl
          have t66 : tyq60 b2 = 84 := gSg.typ xq60 sS59.1 t25 rfl
          have t67 : tyq60 dr = 55 := gSg.typ xq60 sS59.1 t26 rfl
          have t68 : tyq60 sk = 56 := gSg.typ xq60 sS59.1 t27 rfl
          have t69 : tyq60 bt = 114 := gSg.typ xq60 sS59.1 t28 rfl
          have hl70 : hq60.2.2.2.1 bt = h17.2.2.2.1 bt := gSg.len xq60 sS59.1 t28 rfl
          have t71 : tyq60 cl = 51 := gSg.typ xq60 sS59.1 t30 rfl
          have s72 := gSg.at xq60 sS59.1 t21 rfl (by decide) s31
          have s73 := gSg.at xq60 sS59.1 t21 rfl (by decide) s32
          have s74 := gSg.at xq60 sS59.1 t21 rfl (by decide) s33
          have s75 := gSg.at xq60 sS59.1 t27 rfl (by decide) s34
          have s76 := gSg.at xq60 sS59.1 t21 rfl (by decide) s35
          have s77 := gSg.at xq60 sS59.1 t26 rfl (by decide) s36
          have s78 := gSg.at xq60 sS59.1 t26 rfl (by decide) s37
          have s79 := gSg.at xq60 sS59.1 t26 rfl (by decide) s38
          have s80 := gSg.at xq60 sS59.1 t26 rfl (by decide) s39
          have s81 := gSg.at xq60 sS59.1 t27 rfl (by decide) s40
          have s82 := gSg.at xq60 sS59.1 t30 rfl (by decide) s41
          have s83 := gSg.at xq60 sS59.1 t21 rfl (by decide) s42
          have pr84 := gStx.gr xq60 (by decide) (fun x hx => by rw [List.mem_singleton.mp hx]; have h9 := nnc18; omega) pr43
          have pr85 := gSW.gr xq60 sS59.1 (by decide) pr44
          have pr86 := gPC.gr xq60 sS59.1 (by decide) pr45
          have pr87 := gTc.gr xq60 sS59.1 (by decide) (by decide) pr46
          have pr88 := gRr.gr xq60 sS59.1 (by decide) (by decide) pr47
          have pr89 := gRn.gr xq60 sS59.1 rfl (by decide) (by decide) pr49
          have pr90 := gRn.gr xq60 sS59.1 rfl (by decide) (by decide) pr50
          have pr91 := gRn.gr xq60 sS59.1 rfl (by decide) (by decide) pr51
          have pr92 := gRn.gr xq60 sS59.1 rfl (by decide) (by decide) pr52
          have pr93 := gRn.gr xq60 sS59.1 rfl (by decide) (by decide) pr53
          have pr94 := gRn.gr xq60 sS59.1 rfl (by decide) (by decide) pr54
          have pr95 := gRn.gr xq60 sS59.1 rfl (by decide) (by decide) pr55
          have hyst96 := gSta.gr xq60 (by decide) (fun x hx => by rw [List.mem_singleton.mp hx]; have h9 := nnc18; omega) (gSta.fr sS59.2 (by decide) hyst58)
          have sS97 : gSs rT 1027 tyq60 [50006, 55008, 56000, 56001, 56002, 56003, 64999, 71005, 71006, 71007, 71008, 71009, 71010, 71011, 71012, 71013, 71014, 72999, 73999, 74999, 76999, 77999, 78999, 79999, 80999, 81999, 85999, 91004, 91008, 92004, 92008, 93999, 94999, 95999, 96999, 97999, 98999, 99999, 114999] hq60 hq60 := gSs.rf xq60.1
          refine gs_ptr (s9 := 0) rfl (by decide) rfl sS97 t62 rfl rfl (Or.inr rfl) rfl (Or.inl rfl) (by decide) trq60_0 (fun h98 sh98 eh98 fh98 => ?_)
          have pr99 := gStx.pt sS97 sh98 fh98 t62 (by decide) pr84
          have pr100 := gSW.pt fh98 t62 (by decide) pr85
          have pr101 := gPC.pk fh98 (sh98.2.2.2.2.1.trans sS97.2.2.2.2.1.symm) t62 (by decide) pr86
          have pr102 := gTc.pt fh98 t62 (by decide) pr87
          have pr103 := gRr.pk fh98 (sh98.2.2.2.2.1.trans sS97.2.2.2.2.1.symm) t62 (by decide) pr88
          have pr104 := gRn.pt fh98 t62 (by decide) pr89
          have pr105 := gRn.pt fh98 t62 (by decide) pr90
          have pr106 := gRn.pt fh98 t62 (by decide) pr91
          have pr107 := gRn.pt fh98 t62 (by decide) pr92
          have pr108 := gRn.pt fh98 t62 (by decide) pr93
          have pr109 := gRn.pt fh98 t62 (by decide) pr94
          have pr110 := gRn.pt fh98 t62 (by decide) pr95
          have s111 := (fh98 x 2 (fun q => absurd q.2 (by decide))).trans s72
          have s112 := (fh98 x 3 (fun q => absurd q.2 (by decide))).trans s73
          have s113 := (fh98 x 4 (fun q => absurd q.2 (by decide))).trans s74
          have s114 := (fh98 sk 0 (fun q => absurd q.2 (by decide))).trans s75
          have s115 := (fh98 x 0 (fun q => absurd q.2 (by decide))).trans s76
          have s116 := (fh98 dr 8 (fun q => absurd q.2 (by decide))).trans s77
          have s117 := (fh98 dr 3 (fun q => absurd q.2 (by decide))).trans s78
          have s118 := (fh98 dr 1 (fun q => absurd q.2 (by decide))).trans s79
          have s119 := (fh98 dr 2 (fun q => absurd q.2 (by decide))).trans s80
          have s120 := (fh98 sk 1 (fun q => absurd q.2 (by decide))).trans s81
          have s121 := (fh98 cl 1 (fun q => absurd q.2 (by decide))).trans s82
          refine gz_s 1 (pc' := 65) (L' := [some (.ref x), some (.int (zi qu)), none]) (S' := [.ref x]) rfl ?_
          refine gs_gtk rfl (by decide) rfl sh98.1 t62 rfl rfl eh98 ?_
          refine gz_s 1 (pc' := 69) (L' := [some (.ref x), some (.int (zi qu)), none]) (S' := [.ref x, .ref c18]) rfl ?_
          refine gs_gtr rfl (by decide) rfl sh98.1 t62 rfl rfl rfl (fun c122 ec122 tc122 => ?_)
          refine gz_s 1 (pc' := 73) (L' := [some (.ref x), some (.int (zi qu)), none]) (S' := [.int (zi qu), .ref c122, .ref c18]) rfl ?_
          refine gz_call rfl (by decide) rfl (by decide) (by decide) (gcal_of rfl rfl rfl (Nat.le_of_ble_eq_true rfl) (gJ.recv (G := gGG) sh98.1 trq60_0 rfl rfl)) (cw_makeTable _ sh98.1 c18 trq60_0 c122 tc122 qu ⟨by omega, by omega⟩ S.1.1 uqq60 pr104) (fun q123 _ wq123 => ?_)
          obtain ⟨pq123, oq123, hq123⟩ := q123
          obtain ⟨xq123, gq123, yq123_0⟩ := wq123
          refine ⟨_, gq123, ?_⟩
          show gz gPP gGG gcn _ _ 76 [some (.ref x), some (.int (zi qu)), none] [] hq123 _
          have sq123 : gSs rT 1027 tyq60 [50006, 55008, 56000, 56001, 56002, 56003, 64999, 71005, 71006, 71007, 71008, 71009, 71010, 71011, 71012, 71013, 71014, 72999, 73999, 74999, 76999, 77999, 78999, 79999, 80999, 81999, 85999, 91004, 91008, 92004, 92008, 93999, 94999, 95999, 96999, 97999, 98999, 99999, 114999] hq60 hq123 := gSs.tr sh98 xq123 (by decide)
          have s124 := (xq123.2.2.2.2.2 x 2 (by rw [t62]; decide)).trans s111
          have s125 := (xq123.2.2.2.2.2 x 3 (by rw [t62]; decide)).trans s112
          have s126 := (xq123.2.2.2.2.2 x 4 (by rw [t62]; decide)).trans s113
          have s127 := (xq123.2.2.2.2.2 sk 0 (by rw [t68]; decide)).trans s114
          have s128 := (xq123.2.2.2.2.2 x 0 (by rw [t62]; decide)).trans s115
          have s129 := (xq123.2.2.2.2.2 dr 8 (by rw [t67]; decide)).trans s116
          have s130 := (xq123.2.2.2.2.2 dr 3 (by rw [t67]; decide)).trans s117
          have s131 := (xq123.2.2.2.2.2 dr 1 (by rw [t67]; decide)).trans s118
          have s132 := (xq123.2.2.2.2.2 dr 2 (by rw [t67]; decide)).trans s119
          have s133 := (xq123.2.2.2.2.2 sk 1 (by rw [t68]; decide)).trans s120
          have s134 := (xq123.2.2.2.2.2 cl 1 (by rw [t71]; decide)).trans s121
          have s135 := (xq123.2.2.2.2.2 x 6 (by rw [t62]; decide)).trans eh98
          have s136 := (xq123.2.2.2.2.2 x 1 (by rw [t62]; decide)).trans ec122
          have pr137 := gStx.fr xq123.2 (by decide) pr99
          have pr138 := gSW.fr xq123.2 (by decide) pr100
          have pr139 := gPC.fr xq123.2 (by decide) pr101
          have pr140 := gTc.fr xq123.2 (by decide) pr102
          have pr141 := gRr.fr xq123.2 (by decide) pr103
          have pr142 := gRn.fr xq123.2 (by decide) pr104
          have pr143 := gRn.fr xq123.2 (by decide) pr105
          have pr144 := gRn.fr xq123.2 (by decide) pr106
          have pr145 := gRn.fr xq123.2 (by decide) pr107
          have pr146 := gRn.fr xq123.2 (by decide) pr108
          have pr147 := gRn.fr xq123.2 (by decide) pr109
          have pr148 := gRn.fr xq123.2 (by decide) pr110
          refine gz_s 1 (pc' := 77) (L' := [some (.ref x), some (.int (zi qu)), none]) (S' := [.ref x]) rfl ?_
          refine gs_gtk rfl (by decide) rfl sq123.1 t62 rfl rfl s135 ?_
          refine gz_s 1 (pc' := 81) (L' := [some (.ref x), some (.int (zi qu)), none]) (S' := [.ref x, .ref c18]) rfl ?_
          refine gs_gtk rfl (by decide) rfl sq123.1 t62 rfl rfl s125 ?_
          refine gz_call rfl (by decide) rfl (by decide) (by decide) (gcal_of rfl rfl rfl (Nat.le_of_ble_eq_true rfl) (gJ.recv (G := gGG) sq123.1 trq60_0 rfl rfl)) (cw_transformCanvas _ sq123.1 c18 trq60_0 dr t67 dw s131 ⟨by omega, by omega⟩ dh s132 ⟨by omega, by omega⟩ S.1.2.1 (eTb S.1.1 qu) uqq60 pr143 yq123_0 pr137 eTb_b) (fun q149 _ wq149 => ?_)
          obtain ⟨pq149, oq149, hq149⟩ := q149
          obtain ⟨xq149, fq149_0, gq149, efq149_0, afq149_0, bfq149_0, uq149_0, yq149_0⟩ := wq149
          refine ⟨_, gq149, ?_⟩
          show gz gPP gGG gcn _ _ 87 [some (.ref x), some (.int (zi qu)), none] [] hq149 _
          have sq149 : gSs rT 1027 tyq60 [50006, 55008, 56000, 56001, 56002, 56003, 64999, 71005, 71006, 71007, 71008, 71009, 71010, 71011, 71012, 71013, 71014, 72999, 73999, 74999, 76999, 77999, 78999, 79999, 80999, 81999, 85999, 91004, 91008, 92004, 92008, 93999, 94999, 95999, 96999, 97999, 98999, 99999, 114999] hq60 hq149 := gSs.tr sq123 xq149 (by decide)
          have s150 := (xq149.2.2.2.2.2 x 2 (by rw [t62]; decide)).trans s124
          have s151 := (xq149.2.2.2.2.2 x 3 (by rw [t62]; decide)).trans s125
          have s152 := (xq149.2.2.2.2.2 x 4 (by rw [t62]; decide)).trans s126
          have s153 := (xq149.2.2.2.2.2 sk 0 (by rw [t68]; decide)).trans s127
          have s154 := (xq149.2.2.2.2.2 x 0 (by rw [t62]; decide)).trans s128
          have s155 := (xq149.2.2.2.2.2 dr 8 (by rw [t67]; decide)).trans s129
          have s156 := (xq149.2.2.2.2.2 dr 3 (by rw [t67]; decide)).trans s130
          have s157 := (xq149.2.2.2.2.2 dr 1 (by rw [t67]; decide)).trans s131
          have s158 := (xq149.2.2.2.2.2 dr 2 (by rw [t67]; decide)).trans s132
          have s159 := (xq149.2.2.2.2.2 sk 1 (by rw [t68]; decide)).trans s133
          have s160 := (xq149.2.2.2.2.2 cl 1 (by rw [t71]; decide)).trans s134
          have s161 := (xq149.2.2.2.2.2 x 6 (by rw [t62]; decide)).trans s135
          have s162 := (xq149.2.2.2.2.2 x 1 (by rw [t62]; decide)).trans s136
          have pr163 := gStx.fr xq149.2 (by decide) pr137
          have pr164 := gSW.fr xq149.2 (by decide) pr138
          have pr165 := gPC.fr xq149.2 (by decide) pr139
          have pr166 := gTc.fr xq149.2 (by decide) pr140
          have pr167 := gRr.fr xq149.2 (by decide) pr141
          have pr168 := gRn.fr xq149.2 (by decide) pr142
          have pr169 := gRn.fr xq149.2 (by decide) pr143
          have pr170 := gRn.fr xq149.2 (by decide) pr144
          have pr171 := gRn.fr xq149.2 (by decide) pr145
          have pr172 := gRn.fr xq149.2 (by decide) pr146
          have pr173 := gRn.fr xq149.2 (by decide) pr147
          have pr174 := gRn.fr xq149.2 (by decide) pr148
          have pr175 := gRn.fr xq149.2 (by decide) yq123_0
          have hmb : fq149_0 = zup dw 8 * zup dh 8 := uq149_0
          have hmn : (fq149_0).toNat = (zup dw 8 * zup dh 8).toNat := by rw [hmb]
          refine gz_s 1 (pc' := 88) (L' := [some (.ref x), some (.int (zi qu)), none]) (S' := [.ref x]) rfl ?_
          refine gs_gtk rfl (by decide) rfl sq149.1 t62 rfl rfl s161 ?_
          refine gz_s 1 (pc' := 92) (L' := [some (.ref x), some (.int (zi qu)), none]) (S' := [.ref x, .ref c18]) rfl ?_
          refine gs_gtk rfl (by decide) rfl sq149.1 t62 rfl rfl s151 ?_
          have k176 := sq149.2.1
          have k176b := sq149.2.2.1
          have hl177 : hq149.2.2.2.1 bt = hq60.2.2.2.1 bt := congrFun sq149.2.2.2.2.1 bt
          obtain ⟨c178, ec178, tc178⟩ := gJ.ref (k := 0) (G := gGG) sq149.1 trq60_0 rfl rfl rfl
          have ee179 : sk = c178 := uqq60 sk c178 (t68.trans tc178.symm) (by rw [t68]; decide) (by rw [t68]; decide)
          subst ee179
          refine gz_call rfl (by decide) rfl (by decide) (by decide) (gcal_of rfl rfl rfl (Nat.le_of_ble_eq_true rfl) (gJ.recv (G := gGG) sq149.1 trq60_0 rfl rfl)) (cw_putHead _ sq149.1 c18 trq60_0 dr t67 sk ec178 t68 bt s153 t69 i0 s156 ⟨by omega, by omega⟩ n0 s155 ⟨by omega, by omega⟩ dh s158 ⟨by omega, by omega⟩ dw s157 ⟨by omega, by omega⟩ (eTb S.1.1 qu) uqq60 pr175) (fun q180 _ wq180 => ?_)
          obtain ⟨pq180, oq180, hq180⟩ := q180
          obtain ⟨tyq180, xq180, cq180_0, ttq180, fq180_0, fq180_1, fq180_2, fq180_3, ecq180_0, tcq180_0, gq180, efq180_0, afq180_0, bfq180_0, efq180_1, afq180_1, bfq180_1, efq180_2, afq180_2, bfq180_2, efq180_3, afq180_3, bfq180_3, uq180_0, uq180_1, uq180_2, uq180_3, uq180_4, uq180_5, uq180_6, uq180_7, uq180_8, uq180_9, uq180_10, yq180_0, yq180_1⟩ := wq180
          dsimp only at uq180_7 uq180_8 uq180_9 uq180_10
          refine ⟨_, gq180, ?_⟩
          show gz gPP gGG gcn _ _ 98 [some (.ref x), some (.int (zi qu)), none] [] hq180 _
          have G181 : gSg [71, 72, 73, 74, 75, 76, 77, 78, 79, 80, 81, 85, 91, 92, 93, 94, 95, 96, 97, 98, 99, 114, 200] [] [50006, 55008, 56000, 56001, 56002, 56003, 64999, 71005, 71006, 71007, 71008, 71009, 71010, 71011, 71012, 71013, 71014, 72999, 73999, 74999, 76999, 77999, 78999, 79999, 80999, 81999, 85999, 91004, 91008, 92004, 92008, 93999, 94999, 95999, 96999, 97999, 98999, 99999, 114999] ty h tyq180 hq180 := gSg.tr (gSg.ss G61 sq149 (by decide)) xq180 (by decide) (by decide) (fun x hx => by cases hx)
          have t182 : tyq180 x = 50 := gSg.typ xq180 sq149.1 t62 rfl
          have t183 : tyq180 pic = 54 := gSg.typ xq180 sq149.1 t63 rfl
          have t184 : tyq180 b0 = 82 := gSg.typ xq180 sq149.1 t64 rfl
          have t185 : tyq180 b1 = 83 := gSg.typ xq180 sq149.1 t65 rfl
          have t186 : tyq180 b2 = 84 := gSg.typ xq180 sq149.1 t66 rfl
          have t187 : tyq180 dr = 55 := gSg.typ xq180 sq149.1 t67 rfl
          have t188 : tyq180 sk = 56 := gSg.typ xq180 sq149.1 t68 rfl
          have t189 : tyq180 bt = 114 := gSg.typ xq180 sq149.1 t69 rfl
          have hl190 : hq180.2.2.2.1 bt = hq149.2.2.2.1 bt := gSg.len xq180 sq149.1 t69 rfl
          have t191 : tyq180 cl = 51 := gSg.typ xq180 sq149.1 t71 rfl
          have t192 : tyq180 c18 = 71 := gSg.typ xq180 sq149.1 trq60_0 rfl
          have t193 : tyq180 c122 = 53 := gSg.typ xq180 sq149.1 tc122 rfl
          have s194 := gSg.at xq180 sq149.1 t62 rfl (by decide) s150
          have s195 := gSg.at xq180 sq149.1 t62 rfl (by decide) s151
          have s196 := gSg.at xq180 sq149.1 t62 rfl (by decide) s152
          have s197 := gSg.at xq180 sq149.1 t62 rfl (by decide) s154
          have s198 := gSg.at xq180 sq149.1 t67 rfl (by decide) s155
          have s199 := gSg.at xq180 sq149.1 t67 rfl (by decide) s156
          have s200 := gSg.at xq180 sq149.1 t67 rfl (by decide) s157
          have s201 := gSg.at xq180 sq149.1 t67 rfl (by decide) s158
          have s202 := gSg.at xq180 sq149.1 t71 rfl (by decide) s160
          have s203 := gSg.at xq180 sq149.1 t62 rfl (by decide) s161
          have s204 := gSg.at xq180 sq149.1 t62 rfl (by decide) s162
          have s205 := gSg.at xq180 sq149.1 trq60_0 rfl (by decide) efq149_0
          have s206 := gSg.at xq180 sq149.1 trq60_0 rfl (by decide) ec178
          have pr207 := gStx.gr xq180 (by decide) (fun x hx => by cases hx) pr163
          have pr208 := gPC.gr xq180 sq149.1 (by decide) pr165
          have pr209 := gTc.gr xq180 sq149.1 (by decide) (by decide) pr166
          have pr210 := gRr.gr xq180 sq149.1 (by decide) (by decide) pr167
          have pr211 := gRn.gr xq180 sq149.1 rfl (by decide) (by decide) pr168
          have pr212 := gRn.gr xq180 sq149.1 rfl (by decide) (by decide) pr169
          have pr213 := gRn.gr xq180 sq149.1 rfl (by decide) (by decide) pr170
          have pr214 := gRn.gr xq180 sq149.1 rfl (by decide) (by decide) pr171
          have pr215 := gRn.gr xq180 sq149.1 rfl (by decide) (by decide) pr172
          have pr216 := gRn.gr xq180 sq149.1 rfl (by decide) (by decide) pr173
          have pr217 := gRn.gr xq180 sq149.1 rfl (by decide) (by decide) pr174
          have pr218 := gRn.gr xq180 sq149.1 rfl (by decide) (by decide) pr175
          have pr219 := gRn.gr xq180 sq149.1 rfl (by decide) (by decide) yq149_0
          have uq220 := gSg.uq xq180 uqq60 (by decide)
          have hyst221 := gSta.gr xq180 (by decide) (fun x hx => by cases hx) (gSta.fr sq149.2 (by decide) hyst96)
          have sS222 : gSs rT 1027 tyq180 [50006, 55008, 56000, 56001, 56002, 56003, 64999, 71005, 71006, 71007, 71008, 71009, 71010, 71011, 71012, 71013, 71014, 72999, 73999, 74999, 76999, 77999, 78999, 79999, 80999, 81999, 85999, 91004, 91008, 92004, 92008, 93999, 94999, 95999, 96999, 97999, 98999, 99999, 114999] hq180 hq180 := gSs.rf xq180.1
          have hiw : fq180_3 = i0 := by omega
          obtain ⟨c223, ec223, tc223⟩ := gJ.ref (k := 4) (G := gGG) sS222.1 t187 rfl rfl rfl
          obtain ⟨c224, ec224, tc224⟩ := gJ.ref (k := 5) (G := gGG) sS222.1 t187 rfl rfl rfl
          obtain ⟨tle, tsm⟩ := gTc.fn pr209 pr213 pr214 tc223 tc224 (by omega)
          have hgl0 : gTl S.1.2.2.1 S.1.2.2.2.1 0 = 0 := rfl
          refine gz_s 1 (pc' := 99) (L' := [some (.ref x), some (.int (zi qu)), none]) (S' := [.ref x]) rfl ?_
          refine gs_gtk rfl (by decide) rfl sS222.1 t182 rfl rfl s195 ?_
          refine gs_gtk rfl (by decide) rfl sS222.1 t187 rfl rfl s198 ?_
          by_cases hc225 : ¬ (n0 : Int) = 0
          · refine gy_ifT (pc' := 120) rfl (by decide) (by decide) (by omega) hc225 ?_
            have hk226 : eKk qu i0 dw dh n0 S 0 = eHd (eTb S.1.1 qu) n0 dh dw i0 := eKk_0 (by omega)
            have hk226_1 : (eKk qu i0 dw dh n0 S 0).1 = (eHd (eTb S.1.1 qu) n0 dh dw i0).1 := by rw [hk226]
            have hk226_21 : (eKk qu i0 dw dh n0 S 0).2.1 = (eHd (eTb S.1.1 qu) n0 dh dw i0).2.1 := by rw [hk226]
            have hk226_221 : (eKk qu i0 dw dh n0 S 0).2.2.1 = (eHd (eTb S.1.1 qu) n0 dh dw i0).2.2.1 := by rw [hk226]
            have hsw227 : gSW tyq180 cq180_0 (eKk qu i0 dw dh n0 S 0) hq180 := by rw [hk226]; exact yq180_0
            have hok228 : eeOk (eKk qu i0 dw dh n0 S 0) := by rw [hk226]; exact yq180_1
            have hoc229 := hok228.cur
            refine gz_s 2 (pc' := 122) (L' := [some (.ref x), some (.int (zi qu)), some (.int (zi 0))]) (S' := []) rfl ?_
            have lp230 : ∀ (fu : Nat) (ty232 : Nat → Nat) (h231 : gH) (bv : Nat) (i : Int) (cv : Int) (uv : Int) (hv : Int), (11 - i).toNat < fu → gSg [71, 72, 73, 74, 75, 76, 77, 78, 79, 80, 81, 85, 91, 92, 93, 94, 95, 96, 97, 98, 99, 114, 200] [] [50006, 55008, 56000, 56001, 56002, 56003, 64999, 71005, 71006, 71007, 71008, 71009, 71010, 71011, 71012, 71013, 71014, 72999, 73999, 74999, 76999, 77999, 78999, 79999, 80999, 81999, 85999, 91004, 91008, 92004, 92008, 93999, 94999, 95999, 96999, 97999, 98999, 99999, 114999] ty h ty232 h231 → gUq ty232 → gSta ty232 h231 → ty232 x = 50 → ty232 pic = 54 → ty232 dr = 55 → ty232 sk = 56 → ty232 cl = 51 → ty232 c18 = 71 → ty232 c122 = 53 → ty232 c223 = 60 → ty232 c224 = 61 → h231.2.2.2.2 sk 0 = .ref bv → ty232 bv = 114 → (0 ≤ i ∧ i ≤ 10) → (0 ≤ cv ∧ cv ≤ 499999) → (0 ≤ uv ∧ uv ≤ 127) → (0 ≤ hv ∧ hv ≤ 7) → ((n0 = 0 ∧ 4 * cv + hv ≤ 336000) ∨ 4 * cv + hv ≤ 400 + 7876 * i + 5120 * gTl S.1.2.2.1 S.1.2.2.2.1 i) → (i ≤ n0) → (cv ≤ (h231.2.2.2.1 bv : Int)) → (1024 * (((h231.1 : Int) - h.1) - 21) ≤ (h231.2.2.2.1 bv : Int) - lb) → (((h231.2.1 : Int) - h.2.1) ≤ 4303 + 2 * ((h231.2.2.2.1 bv : Int) - lb)) → (lb ≤ (h231.2.2.2.1 bv : Int)) → (cv = (eKk qu i0 dw dh n0 S i).1) → (uv = (eKk qu i0 dw dh n0 S i).2.1) → (hv = (eKk qu i0 dw dh n0 S i).2.2.1) → h231.2.2.2.2 x 2 = .ref pic → h231.2.2.2.2 x 3 = .ref dr → h231.2.2.2.2 x 4 = .ref sk → h231.2.2.2.2 x 0 = .ref cl → h231.2.2.2.2 dr 8 = .int (zi n0) → h231.2.2.2.2 dr 3 = .int (zi i0) → h231.2.2.2.2 dr 1 = .int (zi dw) → h231.2.2.2.2 dr 2 = .int (zi dh) → h231.2.2.2.2 cl 1 = .int (zi scl) → h231.2.2.2.2 x 6 = .ref c18 → h231.2.2.2.2 x 1 = .ref c122 → h231.2.2.2.2 c18 5 = .int (zi fq149_0) → h231.2.2.2.2 c18 0 = .ref sk → h231.2.2.2.2 c18 6 = .int (zi fq180_3) → h231.2.2.2.2 dr 4 = .ref c223 → h231.2.2.2.2 dr 5 = .ref c224 → h231.2.2.2.2 sk 1 = .int (zi cv) → h231.2.2.2.2 sk 2 = .int (zi uv) → h231.2.2.2.2 sk 3 = .int (zi hv) → gStx ty232 h231 → gPC ty232 pic b0 b1 b2 ld h231 → gTc ty232 n0 h231 → gRr ty232 x h231 → gRn 256 ty232 53 S.1.1 h231 → gRn 1024 ty232 59 S.1.2.1 h231 → gRn 10 ty232 60 S.1.2.2.1 h231 → gRn 10 ty232 61 S.1.2.2.2.1 h231 → gRn 10 ty232 62 S.1.2.2.2.2.1 h231 → gRn 10 ty232 63 S.1.2.2.2.2.2.1 h231 → gRn 64 ty232 64 S.1.2.2.2.2.2.2 h231 → gRn 64 ty232 72 (eTb S.1.1 qu) h231 → gRn (64 * fq149_0).toNat ty232 73 (eCf S.1.2.1 (eTb S.1.1 qu) dw dh (zup dw 8)) h231 → gSW ty232 bv (eKk qu i0 dw dh n0 S i) h231 → eeOk (eKk qu i0 dw dh n0 S i) → gz gPP gGG gcn (d + 8) gt89 122 [some (.ref x), some (.int (zi qu)), some (.int (zi i))] [] h231 (fun q _ => ∃ ty9 : Nat → Nat, gSg [71, 72, 73, 74, 75, 76, 77, 78, 79, 80, 81, 85, 91, 92, 93, 94, 95, 96, 97, 98, 99, 114, 200] [] [50006, 55008, 56000, 56001, 56002, 56003, 64999, 71005, 71006, 71007, 71008, 71009, 71010, 71011, 71012, 71013, 71014, 72999, 73999, 74999, 76999, 77999, 78999, 79999, 80999, 81999, 85999, 91004, 91008, 92004, 92008, 93999, 94999, 95999, 96999, 97999, 98999, 99999, 114999] ty h ty9 q.2.2 ∧ ∃ ld1 lb1 iv1 : Int, 0 ≤ ld1 ∧ ld1 ≤ 192 ∧ 1024 ≤ lb1 ∧ lb1 ≤ 1000000 ∧ 0 ≤ iv1 ∧ iv1 ≤ 54223962112 ∧ (gIx ty9 x ld1 lb1 iv1 (eQ3 qu (iv / 536870912) (iv / 64 % 64) (iv / 4096 % 64) (iv % 64) S) q.2.2) ∧ gUq ty9 ∧ ((∃ z : Int, gfin gt89 q.1 q.2.1 = some (some (.int (zi z))) ∧ (-2147483648) ≤ z ∧ z ≤ 2147483647 ∧ (1 ≤ qu) ∧ (qu ≤ 100) ∧ (1 ≤ iv / 64 % 64) ∧ (iv1 = iv - iv % 64) ∧ (z = (eNn qu (iv / 536870912) (iv / 64 % 64) (iv / 4096 % 64) (iv % 64) S).1) ∧ (1024 * (((q.2.2.1 : Int) - h.1) - 31 - 2 * (ld1 - ld)) ≤ lb1 - lb) ∧ (((q.2.2.2.1 : Int) - h.2.1) ≤ 4303 + 12480 * (ld1 - ld) + 2 * (lb1 - lb)) ∧ (ld ≤ ld1) ∧ (lb ≤ lb1)) ∨ (q.2.1 = [] ∧ ((q.1 = 11 ∧ (¬ (1 ≤ qu ∧ qu ≤ 100))) ∨ (q.1 = 32 ∧ (1 ≤ qu) ∧ (qu ≤ 100) ∧ (iv / 64 % 64 = 0))) ∧ (iv1 = iv) ∧ (1024 * (((q.2.2.1 : Int) - h.1) - 31 - 2 * (ld1 - ld)) ≤ lb1 - lb) ∧ (((q.2.2.2.1 : Int) - h.2.1) ≤ 4303 + 12480 * (ld1 - ld) + 2 * (lb1 - lb)) ∧ (ld ≤ ld1) ∧ (lb ≤ lb1)))) := by
              intro fu
              induction fu with
              | zero => intro ty232 h231 bv i cv uv hv hm; exact absurd hm (Nat.not_lt_zero _)
              | succ fu ihlp230 =>
                intro ty232 h231 bv i cv uv hv lp230m lp230G lp230u lp230t lp230c0 lp230c1 lp230c2 lp230c3 lp230c4 lp230c5 lp230c6 lp230c7 lp230c8 lp230r0 lp230r1 lp230f0 lp230f1 lp230f2 lp230f3 lp230f4 lp230f5 lp230f6 lp230f7 lp230f8 lp230f9 lp230f10 lp230f11 lp230f12 lp230k0 lp230k1 lp230k2 lp230k3 lp230k4 lp230k5 lp230k6 lp230k7 lp230k8 lp230k9 lp230k10 lp230k11 lp230k12 lp230k13 lp230k14 lp230k15 lp230k16 lp230k17 lp230k18 lp230k19 lp230k20 lp230k21 lp230k22 lp230k23 lp230k24 lp230k25 lp230k26 lp230k27 lp230k28 lp230k29 lp230k30 lp230k31 lp230k32 lp230k33
                have sh231 : gSs rT 1027 ty232 [50006, 55008, 56000, 56001, 56002, 56003, 64999, 71005, 71006, 71007, 71008, 71009, 71010, 71011, 71012, 71013, 71014, 72999, 73999, 74999, 76999, 77999, 78999, 79999, 80999, 81999, 85999, 91004, 91008, 92004, 92008, 93999, 94999, 95999, 96999, 97999, 98999, 99999, 114999] h231 h231 := gSs.rf lp230G.1
                refine gz_s 2 (pc' := 124) (L' := [some (.ref x), some (.int (zi qu)), some (.int (zi i))]) (S' := [.ref x, .int (zi i)]) rfl ?_
                refine gs_gtk rfl (by decide) rfl sh231.1 lp230c0 rfl rfl lp230k1 ?_
                refine gs_gtk rfl (by decide) rfl sh231.1 lp230c2 rfl rfl lp230k4 ?_
                by_cases hc233 : (n0 : Int) ≤ i
                · refine gy_icT (pc' := 182) rfl (by decide) (by decide) (by omega) (by omega) hc233 ?_
                  have hgl9 : gTl S.1.2.2.1 S.1.2.2.2.1 i = gTl S.1.2.2.1 S.1.2.2.2.1 n0 := by rw [show i = n0 from Int.le_antisymm (by omega) (by omega)]
                  refine gz_s 1 (pc' := 183) (L' := [some (.ref x), some (.int (zi qu)), some (.int (zi i))]) (S' := [.ref x]) rfl ?_
                  refine gs_gtk rfl (by decide) rfl sh231.1 lp230c0 rfl rfl lp230k9 ?_
                  have hl234 : h231.2.2.2.1 bv = h231.2.2.2.1 bv := congrFun sh231.2.2.2.2.1 bv
                  refine gz_call rfl (by decide) rfl (by decide) (by decide) (gcal_of rfl rfl rfl (Nat.le_of_ble_eq_true rfl) (gJ.recv (G := gGG) sh231.1 lp230c5 rfl rfl)) (cw_putEnd _ sh231.1 c18 lp230c5 sk lp230k12 lp230c3 bv lp230r0 lp230r1 cv lp230k16 ⟨by omega, by omega⟩ (eKk qu i0 dw dh n0 S i) (by omega) (by omega) lp230u lp230k32 lp230k33) (fun q235 _ wq235 => ?_)
                  obtain ⟨pq235, oq235, hq235⟩ := q235
                  obtain ⟨tyq235, xq235, cq235_0, ttq235, fq235_0, ecq235_0, tcq235_0, gq235, efq235_0, afq235_0, bfq235_0, uq235_0, uq235_1, uq235_2, uq235_3, uq235_4, uq235_5, uq235_6, uq235_7, yq235_0, yq235_1⟩ := wq235
                  dsimp only at uq235_4 uq235_5 uq235_6 uq235_7
                  refine ⟨_, gq235, ?_⟩
                  show gz gPP gGG gcn _ _ 189 [some (.ref x), some (.int (zi qu)), some (.int (zi i))] [] hq235 _
                  have G236 : gSg [71, 72, 73, 74, 75, 76, 77, 78, 79, 80, 81, 85, 91, 92, 93, 94, 95, 96, 97, 98, 99, 114, 200] [] [50006, 55008, 56000, 56001, 56002, 56003, 64999, 71005, 71006, 71007, 71008, 71009, 71010, 71011, 71012, 71013, 71014, 72999, 73999, 74999, 76999, 77999, 78999, 79999, 80999, 81999, 85999, 91004, 91008, 92004, 92008, 93999, 94999, 95999, 96999, 97999, 98999, 99999, 114999] ty h tyq235 hq235 := gSg.tr (gSg.ss lp230G sh231 (by decide)) xq235 (by decide) (by decide) (fun x hx => by cases hx)
                  have t237 : tyq235 x = 50 := gSg.typ xq235 sh231.1 lp230c0 rfl
                  have t238 : tyq235 pic = 54 := gSg.typ xq235 sh231.1 lp230c1 rfl
                  have t239 : tyq235 dr = 55 := gSg.typ xq235 sh231.1 lp230c2 rfl
                  have t240 : tyq235 sk = 56 := gSg.typ xq235 sh231.1 lp230c3 rfl
                  have t241 : tyq235 cl = 51 := gSg.typ xq235 sh231.1 lp230c4 rfl
                  have t242 : tyq235 c18 = 71 := gSg.typ xq235 sh231.1 lp230c5 rfl
                  have t243 : tyq235 c122 = 53 := gSg.typ xq235 sh231.1 lp230c6 rfl
                  have t244 : tyq235 c223 = 60 := gSg.typ xq235 sh231.1 lp230c7 rfl
                  have t245 : tyq235 c224 = 61 := gSg.typ xq235 sh231.1 lp230c8 rfl
                  have t246 : tyq235 bv = 114 := gSg.typ xq235 sh231.1 lp230r1 rfl
                  have hl247 : hq235.2.2.2.1 bv = h231.2.2.2.1 bv := gSg.len xq235 sh231.1 lp230r1 rfl
                  have s248 := gSg.at xq235 sh231.1 lp230c0 rfl (by decide) lp230k0
                  have s249 := gSg.at xq235 sh231.1 lp230c0 rfl (by decide) lp230k1
                  have s250 := gSg.at xq235 sh231.1 lp230c0 rfl (by decide) lp230k2
                  have s251 := gSg.at xq235 sh231.1 lp230c0 rfl (by decide) lp230k3
                  have s252 := gSg.at xq235 sh231.1 lp230c2 rfl (by decide) lp230k4
                  have s253 := gSg.at xq235 sh231.1 lp230c2 rfl (by decide) lp230k5
                  have s254 := gSg.at xq235 sh231.1 lp230c2 rfl (by decide) lp230k6
                  have s255 := gSg.at xq235 sh231.1 lp230c2 rfl (by decide) lp230k7
                  have s256 := gSg.at xq235 sh231.1 lp230c4 rfl (by decide) lp230k8
                  have s257 := gSg.at xq235 sh231.1 lp230c0 rfl (by decide) lp230k9
                  have s258 := gSg.at xq235 sh231.1 lp230c0 rfl (by decide) lp230k10
                  have s259 := gSg.at xq235 sh231.1 lp230c5 rfl (by decide) lp230k11
                  have s260 := gSg.at xq235 sh231.1 lp230c5 rfl (by decide) lp230k12
                  have s261 := gSg.at xq235 sh231.1 lp230c5 rfl (by decide) lp230k13
                  have s262 := gSg.at xq235 sh231.1 lp230c2 rfl (by decide) lp230k14
                  have s263 := gSg.at xq235 sh231.1 lp230c2 rfl (by decide) lp230k15
                  have s264 := gSg.at xq235 sh231.1 lp230c3 rfl (by decide) lp230k17
                  have s265 := gSg.at xq235 sh231.1 lp230c3 rfl (by decide) lp230k18
                  have pr266 := gStx.gr xq235 (by decide) (fun x hx => by cases hx) lp230k19
                  have pr267 := gPC.gr xq235 sh231.1 (by decide) lp230k20
                  have pr268 := gTc.gr xq235 sh231.1 (by decide) (by decide) lp230k21
                  have pr269 := gRr.gr xq235 sh231.1 (by decide) (by decide) lp230k22
                  have pr270 := gRn.gr xq235 sh231.1 rfl (by decide) (by decide) lp230k23
                  have pr271 := gRn.gr xq235 sh231.1 rfl (by decide) (by decide) lp230k24
                  have pr272 := gRn.gr xq235 sh231.1 rfl (by decide) (by decide) lp230k25
                  have pr273 := gRn.gr xq235 sh231.1 rfl (by decide) (by decide) lp230k26
                  have pr274 := gRn.gr xq235 sh231.1 rfl (by decide) (by decide) lp230k27
                  have pr275 := gRn.gr xq235 sh231.1 rfl (by decide) (by decide) lp230k28
                  have pr276 := gRn.gr xq235 sh231.1 rfl (by decide) (by decide) lp230k29
                  have pr277 := gRn.gr xq235 sh231.1 rfl (by decide) (by decide) lp230k30
                  have pr278 := gRn.gr xq235 sh231.1 rfl (by decide) (by decide) lp230k31
                  have uq279 := gSg.uq xq235 lp230u (by decide)
                  have hyst280 := gSta.gr xq235 (by decide) (fun x hx => by cases hx) (gSta.fr sh231.2 (by decide) lp230t)
                  have sS281 : gSs rT 1027 tyq235 [50006, 55008, 56000, 56001, 56002, 56003, 64999, 71005, 71006, 71007, 71008, 71009, 71010, 71011, 71012, 71013, 71014, 72999, 73999, 74999, 76999, 77999, 78999, 79999, 80999, 81999, 85999, 91004, 91008, 92004, 92008, 93999, 94999, 95999, 96999, 97999, 98999, 99999, 114999] hq235 hq235 := gSs.rf xq235.1
                  have hk282 : eNn qu i0 dw dh n0 S = eeM (eKk qu i0 dw dh n0 S i) 217 := eKk_e (by omega)
                  have hk282_1 : (eNn qu i0 dw dh n0 S).1 = (eeM (eKk qu i0 dw dh n0 S i) 217).1 := by rw [hk282]
                  have hk282_21 : (eNn qu i0 dw dh n0 S).2.1 = (eeM (eKk qu i0 dw dh n0 S i) 217).2.1 := by rw [hk282]
                  have hk282_221 : (eNn qu i0 dw dh n0 S).2.2.1 = (eeM (eKk qu i0 dw dh n0 S i) 217).2.2.1 := by rw [hk282]
                  have hsw283 : gSW tyq235 cq235_0 (eNn qu i0 dw dh n0 S) hq235 := by rw [hk282]; exact yq235_0
                  have hok284 : eeOk (eNn qu i0 dw dh n0 S) := by rw [hk282]; exact yq235_1
                  have hoc285 := hok284.cur
                  have hcd9 := hcd
                  refine gz_s 1 (pc' := 190) (L' := [some (.ref x), some (.int (zi qu)), some (.int (zi i))]) (S' := [.ref x]) rfl ?_
                  refine gs_gtk rfl (by decide) rfl sS281.1 t237 rfl rfl s249 ?_
                  refine gz_call rfl (by decide) rfl (by decide) (by decide) (gcal_of rfl rfl rfl (Nat.le_of_ble_eq_true rfl) (gJ.recv (G := gGG) sS281.1 t239 rfl rfl)) (cl_Draft_forgetScans _ sS281.1 dr t239 uq279) (fun q286 _ wq286 => ?_)
                  obtain ⟨pq286, oq286, hq286⟩ := q286
                  obtain ⟨xq286, fq286_0, gq286, efq286_0, afq286_0, bfq286_0, uq286_0, yq286_0, yq286_1⟩ := wq286
                  refine ⟨_, gq286, ?_⟩
                  show gz gPP gGG gcn _ _ 196 [some (.ref x), some (.int (zi qu)), some (.int (zi i))] [] hq286 _
                  have sq286 : gSs rT 1027 tyq235 [50006, 55008, 56000, 56001, 56002, 56003, 64999, 71005, 71006, 71007, 71008, 71009, 71010, 71011, 71012, 71013, 71014, 72999, 73999, 74999, 76999, 77999, 78999, 79999, 80999, 81999, 85999, 91004, 91008, 92004, 92008, 93999, 94999, 95999, 96999, 97999, 98999, 99999, 114999] hq235 hq286 := gSs.tr sS281 xq286 (by decide)
                  have s287 := (xq286.2.2.2.2.2 x 2 (by rw [t237]; decide)).trans s248
                  have s288 := (xq286.2.2.2.2.2 x 3 (by rw [t237]; decide)).trans s249
                  have s289 := (xq286.2.2.2.2.2 x 4 (by rw [t237]; decide)).trans s250
                  have s290 := (xq286.2.2.2.2.2 x 0 (by rw [t237]; decide)).trans s251
                  have s291 := (xq286.2.2.2.2.2 dr 3 (by rw [t239]; decide)).trans s253
                  have s292 := (xq286.2.2.2.2.2 dr 1 (by rw [t239]; decide)).trans s254
                  have s293 := (xq286.2.2.2.2.2 dr 2 (by rw [t239]; decide)).trans s255
                  have s294 := (xq286.2.2.2.2.2 cl 1 (by rw [t241]; decide)).trans s256
                  have s295 := (xq286.2.2.2.2.2 x 6 (by rw [t237]; decide)).trans s257
                  have s296 := (xq286.2.2.2.2.2 x 1 (by rw [t237]; decide)).trans s258
                  have s297 := (xq286.2.2.2.2.2 c18 5 (by rw [t242]; decide)).trans s259
                  have s298 := (xq286.2.2.2.2.2 c18 0 (by rw [t242]; decide)).trans s260
                  have s299 := (xq286.2.2.2.2.2 c18 6 (by rw [t242]; decide)).trans s261
                  have s300 := (xq286.2.2.2.2.2 dr 4 (by rw [t239]; decide)).trans s262
                  have s301 := (xq286.2.2.2.2.2 dr 5 (by rw [t239]; decide)).trans s263
                  have s302 := (xq286.2.2.2.2.2 sk 2 (by rw [t240]; decide)).trans s264
                  have s303 := (xq286.2.2.2.2.2 sk 3 (by rw [t240]; decide)).trans s265
                  have s304 := (xq286.2.2.2.2.2 sk 0 (by rw [t240]; decide)).trans ecq235_0
                  have s305 := (xq286.2.2.2.2.2 sk 1 (by rw [t240]; decide)).trans efq235_0
                  have pr306 := gStx.fr xq286.2 (by decide) pr266
                  have pr307 := gPC.fr xq286.2 (by decide) pr267
                  have pr308 := gRr.fr xq286.2 (by decide) pr269
                  have pr309 := gRn.fr xq286.2 (by decide) pr270
                  have pr310 := gRn.fr xq286.2 (by decide) pr271
                  have pr311 := gRn.fr xq286.2 (by decide) pr272
                  have pr312 := gRn.fr xq286.2 (by decide) pr273
                  have pr313 := gRn.fr xq286.2 (by decide) pr274
                  have pr314 := gRn.fr xq286.2 (by decide) pr275
                  have pr315 := gRn.fr xq286.2 (by decide) pr277
                  have pr316 := gRn.fr xq286.2 (by decide) pr278
                  have pr317 := gSW.fr xq286.2 (by decide) hsw283
                  refine gz_s 1 (pc' := 197) (L' := [some (.ref x), some (.int (zi qu)), some (.int (zi i))]) (S' := [.ref x]) rfl ?_
                  refine gs_gtk rfl (by decide) rfl sq286.1 t237 rfl rfl s289 ?_
                  refine gs_gtk rfl (by decide) rfl sq286.1 t240 rfl rfl s305 ?_
                  have k318 := sq286.2.1
                  have k318b := sq286.2.2.1
                  have hl319 : hq286.2.2.2.1 bv = hq235.2.2.2.1 bv := congrFun sq286.2.2.2.2.1 bv
                  have hl320 : hq286.2.2.2.1 cq235_0 = hq235.2.2.2.1 cq235_0 := congrFun sq286.2.2.2.2.1 cq235_0
                  have hl321 : 1024 ≤ hq286.2.2.2.1 bv ∧ hq286.2.2.2.1 bv ≤ 1000000 := gJ.rowl (G := gGG) sq286.1 t246 rfl
                  have hl322 : 1024 ≤ hq286.2.2.2.1 cq235_0 ∧ hq286.2.2.2.1 cq235_0 ≤ 1000000 := gJ.rowl (G := gGG) sq286.1 tcq235_0 rfl
                  have hxr323 : gXr tyq235 (eS3 S (eNn qu i0 dw dh n0 S)) hq286 := ⟨pr309, pr310, pr311, pr312, pr313, pr314, gOy.Rn (by decide) yq286_1⟩
                  have hnv : (eNn qu (iv / 536870912) (iv / 64 % 64) (iv / 4096 % 64) (iv % 64) S).1 = (eNn qu i0 dw dh n0 S).1 := by rw [hdi, hdw, hdh, hdn]
                  have k324 := sq286.2.1
                  have k324b := sq286.2.2.1
                  have hl325 : hq286.2.2.2.1 bv = hq235.2.2.2.1 bv := congrFun sq286.2.2.2.2.1 bv
                  have hl326 : hq286.2.2.2.1 cq235_0 = hq235.2.2.2.1 cq235_0 := congrFun sq286.2.2.2.2.1 cq235_0
                  have hix327 : gIx tyq235 x ld (hq286.2.2.2.1 cq235_0 : Int) (64 * dw + fq286_0 + 4096 * dh + 262144 * scl + 536870912 * i0) (eS3 S (eNn qu i0 dw dh n0 S)) hq286 := ⟨pic, b0, b1, b2, dr, sk, cq235_0, cl, fq286_0, fq235_0, i0, dw, dh, scl, ⟨t237, t239, t240, tcq235_0⟩, ⟨s287, s288, s289, s304⟩, pr307, (by rw [(by omega : fq286_0 = 0)]; exact yq286_0), ⟨efq286_0, by omega, by omega⟩, ⟨s291, by omega, by omega⟩, ⟨s305, by omega, by omega⟩, ⟨by omega, by omega⟩, pr308, ⟨t237, Or.inr ⟨c18, s295, t242⟩⟩, ⟨s292, by omega, by omega⟩, ⟨s293, by omega, by omega⟩, by omega, rfl, hxr323, ⟨pr317, (show _ = ((eNn qu i0 dw dh n0 S)).1 by omega)⟩, (by rw [(by omega : fq286_0 = 0)]; exact eTz.zero), t241, s290, ⟨s294, by omega, by omega⟩⟩
                  have hix328 : gIx tyq235 x ld (hq286.2.2.2.1 cq235_0 : Int) (64 * dw + fq286_0 + 4096 * dh + 262144 * scl + 536870912 * i0) (eQ3 qu (iv / 536870912) (iv / 64 % 64) (iv / 4096 % 64) (iv % 64) S) hq286 := by rw [hdi, hdw, hdh, hdn, eQ3_y hok]; exact hix327
                  have G329 : gSg [71, 72, 73, 74, 75, 76, 77, 78, 79, 80, 81, 85, 91, 92, 93, 94, 95, 96, 97, 98, 99, 114, 200] [] [50006, 55008, 56000, 56001, 56002, 56003, 64999, 71005, 71006, 71007, 71008, 71009, 71010, 71011, 71012, 71013, 71014, 72999, 73999, 74999, 76999, 77999, 78999, 79999, 80999, 81999, 85999, 91004, 91008, 92004, 92008, 93999, 94999, 95999, 96999, 97999, 98999, 99999, 114999] ty h tyq235 hq286 := gSg.ss G236 sq286 (by decide)
                  exact gz_end (I := .ireturn) (len := 1) rfl (Or.inl rfl) ⟨tyq235, G329, ld, (hq286.2.2.2.1 cq235_0 : Int), (64 * dw + fq286_0 + 4096 * dh + 262144 * scl + 536870912 * i0), (by omega), (by omega), (by omega), (by omega), (by omega), (by omega), hix328, uq279, Or.inl ⟨fq235_0, rfl, (by omega), (by omega), (by omega), (by omega), (by omega), (by omega), (by omega), (by dsimp only; omega), (by dsimp only; omega), (by omega), (by omega)⟩⟩
                · refine gy_icF rfl (by decide) (by decide) (by omega) (by omega) hc233 ?_
                  refine gz_s 1 (pc' := 134) (L' := [some (.ref x), some (.int (zi qu)), some (.int (zi i))]) (S' := [.ref x]) rfl ?_
                  refine gs_gtk rfl (by decide) rfl sh231.1 lp230c0 rfl rfl lp230k9 ?_
                  refine gz_s 1 (pc' := 138) (L' := [some (.ref x), some (.int (zi qu)), some (.int (zi i))]) (S' := [.ref x, .ref c18]) rfl ?_
                  refine gs_gtk rfl (by decide) rfl sh231.1 lp230c0 rfl rfl lp230k1 ?_
                  refine gs_gtk rfl (by decide) rfl sh231.1 lp230c2 rfl rfl lp230k14 ?_
                  refine gz_s 1 (pc' := 145) (L' := [some (.ref x), some (.int (zi qu)), some (.int (zi i))]) (S' := [.int (zi i), .ref c223, .ref c18]) rfl ?_
                  have hl330 : 10 ≤ h231.2.2.2.1 c223 ∧ h231.2.2.2.1 c223 ≤ 10 := gJ.rowl (G := gGG) sh231.1 lp230c7 rfl
                  refine gs_ald rfl (by decide) sh231.1 lp230c7 rfl rfl rfl (by decide) (fun _ => rfl) (by omega) (by omega) (fun z331 ez331 az331 bz331 => ?_)
                  have hf332 := gRn.at (i := i) (z := z331) lp230k25 lp230c7 ez331 (by omega) (by omega) (by omega)
                  refine gz_s 1 (pc' := 147) (L' := [some (.ref x), some (.int (zi qu)), some (.int (zi i))]) (S' := [.ref x, .int (zi z331), .ref c18]) rfl ?_
                  refine gs_gtk rfl (by decide) rfl sh231.1 lp230c0 rfl rfl lp230k1 ?_
                  refine gs_gtk rfl (by decide) rfl sh231.1 lp230c2 rfl rfl lp230k15 ?_
                  refine gz_s 1 (pc' := 154) (L' := [some (.ref x), some (.int (zi qu)), some (.int (zi i))]) (S' := [.int (zi i), .ref c224, .int (zi z331), .ref c18]) rfl ?_
                  have hl333 : 10 ≤ h231.2.2.2.1 c224 ∧ h231.2.2.2.1 c224 ≤ 10 := gJ.rowl (G := gGG) sh231.1 lp230c8 rfl
                  refine gs_ald rfl (by decide) sh231.1 lp230c8 rfl rfl rfl (by decide) (fun _ => rfl) (by omega) (by omega) (fun z334 ez334 az334 bz334 => ?_)
                  have hf335 := gRn.at (i := i) (z := z334) lp230k26 lp230c8 ez334 (by omega) (by omega) (by omega)
                  refine gz_s 1 (pc' := 156) (L' := [some (.ref x), some (.int (zi qu)), some (.int (zi i))]) (S' := [.ref x, .int (zi z334), .int (zi z331), .ref c18]) rfl ?_
                  refine gs_gtk rfl (by decide) rfl sh231.1 lp230c0 rfl rfl lp230k1 ?_
                  refine gs_gtr rfl (by decide) rfl sh231.1 lp230c2 rfl rfl rfl (fun c336 ec336 tc336 => ?_)
                  refine gz_s 1 (pc' := 163) (L' := [some (.ref x), some (.int (zi qu)), some (.int (zi i))]) (S' := [.int (zi i), .ref c336, .int (zi z334), .int (zi z331), .ref c18]) rfl ?_
                  have hl337 : 10 ≤ h231.2.2.2.1 c336 ∧ h231.2.2.2.1 c336 ≤ 10 := gJ.rowl (G := gGG) sh231.1 tc336 rfl
                  refine gs_ald rfl (by decide) sh231.1 tc336 rfl rfl rfl (by decide) (fun _ => rfl) (by omega) (by omega) (fun z338 ez338 az338 bz338 => ?_)
                  have hf339 := gRn.at (i := i) (z := z338) lp230k27 tc336 ez338 (by omega) (by omega) (by omega)
                  refine gz_s 1 (pc' := 165) (L' := [some (.ref x), some (.int (zi qu)), some (.int (zi i))]) (S' := [.ref x, .int (zi z338), .int (zi z334), .int (zi z331), .ref c18]) rfl ?_
                  refine gs_gtk rfl (by decide) rfl sh231.1 lp230c0 rfl rfl lp230k1 ?_
                  refine gs_gtr rfl (by decide) rfl sh231.1 lp230c2 rfl rfl rfl (fun c340 ec340 tc340 => ?_)
                  refine gz_s 1 (pc' := 172) (L' := [some (.ref x), some (.int (zi qu)), some (.int (zi i))]) (S' := [.int (zi i), .ref c340, .int (zi z338), .int (zi z334), .int (zi z331), .ref c18]) rfl ?_
                  have hl341 : 10 ≤ h231.2.2.2.1 c340 ∧ h231.2.2.2.1 c340 ≤ 10 := gJ.rowl (G := gGG) sh231.1 tc340 rfl
                  refine gs_ald rfl (by decide) sh231.1 tc340 rfl rfl rfl (by decide) (fun _ => rfl) (by omega) (by omega) (fun z342 ez342 az342 bz342 => ?_)
                  have hf343 := gRn.at (i := i) (z := z342) lp230k28 tc340 ez342 (by omega) (by omega) (by omega)
                  have htl := tle (i).toNat (by omega)
                  rw [hf332, hf335] at htl
                  have hst := gTl_st (f := S.1.2.2.1) (t := S.1.2.2.2.1) (k := i) (a := z331) (b := z334) (by omega) hf332 hf335
                  have hle := gTl_le (f := S.1.2.2.1) (t := S.1.2.2.2.1) (k := i + 1) (n := n0) tle (by omega)
                  have htz4 := htz (i).toNat (by omega)
                  rw [hf332, hf335] at htz4
                  have hl344 : h231.2.2.2.1 bv = h231.2.2.2.1 bv := congrFun sh231.2.2.2.2.1 bv
                  refine gz_call rfl (by decide) rfl (by decide) (by decide) (gcal_of rfl rfl rfl (Nat.le_of_ble_eq_true rfl) (gJ.recv (G := gGG) sh231.1 lp230c5 rfl rfl)) (cw_putScan _ sh231.1 c18 lp230c5 z331 ⟨by omega, by omega⟩ z334 ⟨by omega, by omega⟩ z338 ⟨by omega, by omega⟩ z342 ⟨by omega, by omega⟩ sk lp230k12 lp230c3 bv lp230r0 lp230r1 cv lp230k16 ⟨by omega, by omega⟩ uv lp230k17 ⟨by omega, by omega⟩ hv lp230k18 ⟨by omega, by omega⟩ fq149_0 lp230k11 ⟨by omega, by omega⟩ fq180_3 lp230k13 ⟨by omega, by omega⟩ (eCf S.1.2.1 (eTb S.1.1 qu) dw dh (zup dw 8)) (eKk qu i0 dw dh n0 S i) (by omega) (by omega) (by omega) (by omega) (by omega) (by omega) (by omega) lp230u lp230k32 lp230k33 lp230k31) (fun q345 _ wq345 => ?_)
                  obtain ⟨pq345, oq345, hq345⟩ := q345
                  obtain ⟨tyq345, xq345, cq345_0, ttq345, fq345_0, fq345_1, fq345_2, ecq345_0, tcq345_0, gq345, efq345_0, afq345_0, bfq345_0, efq345_1, afq345_1, bfq345_1, efq345_2, afq345_2, bfq345_2, uq345_0, uq345_1, uq345_2, uq345_3, uq345_4, uq345_5, uq345_6, uq345_7, uq345_8, yq345_0, yq345_1⟩ := wq345
                  dsimp only at uq345_5 uq345_6 uq345_7 uq345_8
                  refine ⟨_, gq345, ?_⟩
                  show gz gPP gGG gcn _ _ 176 [some (.ref x), some (.int (zi qu)), some (.int (zi i))] [] hq345 _
                  have G346 : gSg [71, 72, 73, 74, 75, 76, 77, 78, 79, 80, 81, 85, 91, 92, 93, 94, 95, 96, 97, 98, 99, 114, 200] [] [50006, 55008, 56000, 56001, 56002, 56003, 64999, 71005, 71006, 71007, 71008, 71009, 71010, 71011, 71012, 71013, 71014, 72999, 73999, 74999, 76999, 77999, 78999, 79999, 80999, 81999, 85999, 91004, 91008, 92004, 92008, 93999, 94999, 95999, 96999, 97999, 98999, 99999, 114999] ty h tyq345 hq345 := gSg.tr (gSg.ss lp230G sh231 (by decide)) xq345 (by decide) (by decide) (fun x hx => by cases hx)
                  have t347 : tyq345 x = 50 := gSg.typ xq345 sh231.1 lp230c0 rfl
                  have t348 : tyq345 pic = 54 := gSg.typ xq345 sh231.1 lp230c1 rfl
                  have t349 : tyq345 dr = 55 := gSg.typ xq345 sh231.1 lp230c2 rfl
                  have t350 : tyq345 sk = 56 := gSg.typ xq345 sh231.1 lp230c3 rfl
                  have t351 : tyq345 cl = 51 := gSg.typ xq345 sh231.1 lp230c4 rfl
                  have t352 : tyq345 c18 = 71 := gSg.typ xq345 sh231.1 lp230c5 rfl
                  have t353 : tyq345 c122 = 53 := gSg.typ xq345 sh231.1 lp230c6 rfl
                  have t354 : tyq345 c223 = 60 := gSg.typ xq345 sh231.1 lp230c7 rfl
                  have t355 : tyq345 c224 = 61 := gSg.typ xq345 sh231.1 lp230c8 rfl
                  have t356 : tyq345 bv = 114 := gSg.typ xq345 sh231.1 lp230r1 rfl
                  have hl357 : hq345.2.2.2.1 bv = h231.2.2.2.1 bv := gSg.len xq345 sh231.1 lp230r1 rfl
                  have t358 : tyq345 c336 = 62 := gSg.typ xq345 sh231.1 tc336 rfl
                  have t359 : tyq345 c340 = 63 := gSg.typ xq345 sh231.1 tc340 rfl
                  have s360 := gSg.at xq345 sh231.1 lp230c0 rfl (by decide) lp230k0
                  have s361 := gSg.at xq345 sh231.1 lp230c0 rfl (by decide) lp230k1
                  have s362 := gSg.at xq345 sh231.1 lp230c0 rfl (by decide) lp230k2
                  have s363 := gSg.at xq345 sh231.1 lp230c0 rfl (by decide) lp230k3
                  have s364 := gSg.at xq345 sh231.1 lp230c2 rfl (by decide) lp230k4
                  have s365 := gSg.at xq345 sh231.1 lp230c2 rfl (by decide) lp230k5
                  have s366 := gSg.at xq345 sh231.1 lp230c2 rfl (by decide) lp230k6
                  have s367 := gSg.at xq345 sh231.1 lp230c2 rfl (by decide) lp230k7
                  have s368 := gSg.at xq345 sh231.1 lp230c4 rfl (by decide) lp230k8
                  have s369 := gSg.at xq345 sh231.1 lp230c0 rfl (by decide) lp230k9
                  have s370 := gSg.at xq345 sh231.1 lp230c0 rfl (by decide) lp230k10
                  have s371 := gSg.at xq345 sh231.1 lp230c5 rfl (by decide) lp230k11
                  have s372 := gSg.at xq345 sh231.1 lp230c5 rfl (by decide) lp230k12
                  have s373 := gSg.at xq345 sh231.1 lp230c5 rfl (by decide) lp230k13
                  have s374 := gSg.at xq345 sh231.1 lp230c2 rfl (by decide) lp230k14
                  have s375 := gSg.at xq345 sh231.1 lp230c2 rfl (by decide) lp230k15
                  have s376 := gSg.at xq345 sh231.1 lp230c2 rfl (by decide) ec336
                  have s377 := gSg.at xq345 sh231.1 lp230c2 rfl (by decide) ec340
                  have pr378 := gStx.gr xq345 (by decide) (fun x hx => by cases hx) lp230k19
                  have pr379 := gPC.gr xq345 sh231.1 (by decide) lp230k20
                  have pr380 := gTc.gr xq345 sh231.1 (by decide) (by decide) lp230k21
                  have pr381 := gRr.gr xq345 sh231.1 (by decide) (by decide) lp230k22
                  have pr382 := gRn.gr xq345 sh231.1 rfl (by decide) (by decide) lp230k23
                  have pr383 := gRn.gr xq345 sh231.1 rfl (by decide) (by decide) lp230k24
                  have pr384 := gRn.gr xq345 sh231.1 rfl (by decide) (by decide) lp230k25
                  have pr385 := gRn.gr xq345 sh231.1 rfl (by decide) (by decide) lp230k26
                  have pr386 := gRn.gr xq345 sh231.1 rfl (by decide) (by decide) lp230k27
                  have pr387 := gRn.gr xq345 sh231.1 rfl (by decide) (by decide) lp230k28
                  have pr388 := gRn.gr xq345 sh231.1 rfl (by decide) (by decide) lp230k29
                  have pr389 := gRn.gr xq345 sh231.1 rfl (by decide) (by decide) lp230k30
                  have pr390 := gRn.gr xq345 sh231.1 rfl (by decide) (by decide) lp230k31
                  have uq391 := gSg.uq xq345 lp230u (by decide)
                  have hyst392 := gSta.gr xq345 (by decide) (fun x hx => by cases hx) (gSta.fr sh231.2 (by decide) lp230t)
                  have sS393 : gSs rT 1027 tyq345 [50006, 55008, 56000, 56001, 56002, 56003, 64999, 71005, 71006, 71007, 71008, 71009, 71010, 71011, 71012, 71013, 71014, 72999, 73999, 74999, 76999, 77999, 78999, 79999, 80999, 81999, 85999, 91004, 91008, 92004, 92008, 93999, 94999, 95999, 96999, 97999, 98999, 99999, 114999] hq345 hq345 := gSs.rf xq345.1
                  have hk394 : eKk qu i0 dw dh n0 S (i + 1) = eSc fq180_3 z331 z334 z338 z342 (eCf S.1.2.1 (eTb S.1.1 qu) dw dh (zup dw 8)) (fq149_0).toNat (eKk qu i0 dw dh n0 S i) := by rw [hmn, hiw]; exact eKk_s (by omega) (by omega) hf332 hf335 hf339 hf343
                  have hk394_1 : (eKk qu i0 dw dh n0 S (i + 1)).1 = (eSc fq180_3 z331 z334 z338 z342 (eCf S.1.2.1 (eTb S.1.1 qu) dw dh (zup dw 8)) (fq149_0).toNat (eKk qu i0 dw dh n0 S i)).1 := by rw [hk394]
                  have hk394_21 : (eKk qu i0 dw dh n0 S (i + 1)).2.1 = (eSc fq180_3 z331 z334 z338 z342 (eCf S.1.2.1 (eTb S.1.1 qu) dw dh (zup dw 8)) (fq149_0).toNat (eKk qu i0 dw dh n0 S i)).2.1 := by rw [hk394]
                  have hk394_221 : (eKk qu i0 dw dh n0 S (i + 1)).2.2.1 = (eSc fq180_3 z331 z334 z338 z342 (eCf S.1.2.1 (eTb S.1.1 qu) dw dh (zup dw 8)) (fq149_0).toNat (eKk qu i0 dw dh n0 S i)).2.2.1 := by rw [hk394]
                  have hsw395 : gSW tyq345 cq345_0 (eKk qu i0 dw dh n0 S (i + 1)) hq345 := by rw [hk394]; exact yq345_0
                  have hok396 : eeOk (eKk qu i0 dw dh n0 S (i + 1)) := by rw [hk394]; exact yq345_1
                  have hoc397 := hok396.cur
                  refine gy_s 2 (pc' := 122) (L' := [some (.ref x), some (.int (zi qu)), some (.int ((zi i) + zi 1))]) (S' := []) (L2 := [some (.ref x), some (.int (zi qu)), some (.int (zi (i + 1)))]) (S2 := []) rfl (by simp only [zi_add, zi_sub, zi_mul, zi_neg, zi_and1, zi_and7, zi_and15, zi_and31, zi_and255]) (by simp only [zi_add, zi_sub, zi_mul, zi_neg, zi_and1, zi_and7, zi_and15, zi_and31, zi_and255]) ?_
                  have hl398 : 1024 ≤ hq345.2.2.2.1 bv ∧ hq345.2.2.2.1 bv ≤ 1000000 := gJ.rowl (G := gGG) sS393.1 t356 rfl
                  have hl399 : 1024 ≤ hq345.2.2.2.1 cq345_0 ∧ hq345.2.2.2.1 cq345_0 ≤ 1000000 := gJ.rowl (G := gGG) sS393.1 tcq345_0 rfl
                  have G400 : gSg [71, 72, 73, 74, 75, 76, 77, 78, 79, 80, 81, 85, 91, 92, 93, 94, 95, 96, 97, 98, 99, 114, 200] [] [50006, 55008, 56000, 56001, 56002, 56003, 64999, 71005, 71006, 71007, 71008, 71009, 71010, 71011, 71012, 71013, 71014, 72999, 73999, 74999, 76999, 77999, 78999, 79999, 80999, 81999, 85999, 91004, 91008, 92004, 92008, 93999, 94999, 95999, 96999, 97999, 98999, 99999, 114999] ty h tyq345 hq345 := gSg.ss G346 sS393 (by decide)
                  exact gz_wk (ihlp230 tyq345 hq345 cq345_0 (i + 1) fq345_0 fq345_1 fq345_2 (gms lp230m (by omega) (by omega)) G400 uq391 (gSta.fr sS393.2 (by decide) hyst392) t347 t348 t349 t350 t351 t352 t353 t354 t355 ecq345_0 tcq345_0 ⟨by omega, by omega⟩ ⟨by omega, by omega⟩ ⟨by omega, by omega⟩ ⟨by omega, by omega⟩ (by omega) (by omega) (by omega) (by omega) (by omega) (by omega) (by omega) (by omega) (by omega) s360 s361 s362 s363 s364 s365 s366 s367 s368 s369 s370 s371 s372 s373 s374 s375 efq345_0 efq345_1 efq345_2 pr378 pr379 pr380 pr381 pr382 pr383 pr384 pr385 pr386 pr387 pr388 pr389 pr390 hsw395 hok396) (gLw.s (gLw.s (gLw.s gLw.z)))
            have hl401 : 1024 ≤ hq180.2.2.2.1 bt ∧ hq180.2.2.2.1 bt ≤ 1000000 := gJ.rowl (G := gGG) sS222.1 t189 rfl
            have hl402 : 1024 ≤ hq180.2.2.2.1 cq180_0 ∧ hq180.2.2.2.1 cq180_0 ≤ 1000000 := gJ.rowl (G := gGG) sS222.1 tcq180_0 rfl
            have G403 : gSg [71, 72, 73, 74, 75, 76, 77, 78, 79, 80, 81, 85, 91, 92, 93, 94, 95, 96, 97, 98, 99, 114, 200] [] [50006, 55008, 56000, 56001, 56002, 56003, 64999, 71005, 71006, 71007, 71008, 71009, 71010, 71011, 71012, 71013, 71014, 72999, 73999, 74999, 76999, 77999, 78999, 79999, 80999, 81999, 85999, 91004, 91008, 92004, 92008, 93999, 94999, 95999, 96999, 97999, 98999, 99999, 114999] ty h tyq180 hq180 := gSg.ss G181 sS222 (by decide)
            exact gz_wk (lp230 _ tyq180 hq180 cq180_0 0 fq180_0 fq180_1 fq180_2 (Nat.lt_succ_self _) G403 uq220 (gSta.fr sS222.2 (by decide) hyst221) t182 t183 t187 t188 t191 t192 t193 tc223 tc224 ecq180_0 tcq180_0 ⟨by omega, by omega⟩ ⟨by omega, by omega⟩ ⟨by omega, by omega⟩ ⟨by omega, by omega⟩ (by omega) (by omega) (by omega) (by omega) (by omega) (by omega) (by omega) (by omega) (by omega) s194 s195 s196 s197 s198 s199 s200 s201 s202 s203 s204 s205 s206 efq180_3 ec223 ec224 efq180_0 efq180_1 efq180_2 pr207 pr208 pr209 pr210 pr211 pr212 pr213 pr214 pr215 pr216 pr217 pr218 pr219 hsw227 hok228) (gLw.s (gLw.s (gLw.s gLw.z)))
          · refine gy_ifF rfl (by decide) (by decide) (by omega) hc225 ?_
            refine gz_s 1 (pc' := 109) (L' := [some (.ref x), some (.int (zi qu)), none]) (S' := [.ref x]) rfl ?_
            refine gs_gtk rfl (by decide) rfl sS222.1 t182 rfl rfl s203 ?_
            refine gz_s 4 (pc' := 117) (L' := [some (.ref x), some (.int (zi qu)), none]) (S' := [.int (zi 0), .int (zi 0), .int (zi 63), .int (zi 0), .ref c18]) rfl ?_
            have hl404 : hq180.2.2.2.1 cq180_0 = hq180.2.2.2.1 cq180_0 := congrFun sS222.2.2.2.2.1 cq180_0
            refine gz_call rfl (by decide) rfl (by decide) (by decide) (gcal_of rfl rfl rfl (Nat.le_of_ble_eq_true rfl) (gJ.recv (G := gGG) sS222.1 t192 rfl rfl)) (cw_putScan _ sS222.1 c18 t192 0 ⟨by omega, by omega⟩ 63 ⟨by omega, by omega⟩ 0 ⟨by omega, by omega⟩ 0 ⟨by omega, by omega⟩ sk s206 t188 cq180_0 ecq180_0 tcq180_0 fq180_0 efq180_0 ⟨by omega, by omega⟩ fq180_1 efq180_1 ⟨by omega, by omega⟩ fq180_2 efq180_2 ⟨by omega, by omega⟩ fq149_0 s205 ⟨by omega, by omega⟩ fq180_3 efq180_3 ⟨by omega, by omega⟩ (eCf S.1.2.1 (eTb S.1.1 qu) dw dh (zup dw 8)) (eHd (eTb S.1.1 qu) n0 dh dw i0) (by omega) (by omega) (by omega) (by omega) (by omega) (by omega) (by omega) uq220 yq180_0 yq180_1 pr219) (fun q405 _ wq405 => ?_)
            obtain ⟨pq405, oq405, hq405⟩ := q405
            obtain ⟨tyq405, xq405, cq405_0, ttq405, fq405_0, fq405_1, fq405_2, ecq405_0, tcq405_0, gq405, efq405_0, afq405_0, bfq405_0, efq405_1, afq405_1, bfq405_1, efq405_2, afq405_2, bfq405_2, uq405_0, uq405_1, uq405_2, uq405_3, uq405_4, uq405_5, uq405_6, uq405_7, uq405_8, yq405_0, yq405_1⟩ := wq405
            dsimp only at uq405_5 uq405_6 uq405_7 uq405_8
            refine ⟨_, gq405, ?_⟩
            show gz gPP gGG gcn _ _ 120 [some (.ref x), some (.int (zi qu)), none] [] hq405 _
            have G406 : gSg [71, 72, 73, 74, 75, 76, 77, 78, 79, 80, 81, 85, 91, 92, 93, 94, 95, 96, 97, 98, 99, 114, 200] [] [50006, 55008, 56000, 56001, 56002, 56003, 64999, 71005, 71006, 71007, 71008, 71009, 71010, 71011, 71012, 71013, 71014, 72999, 73999, 74999, 76999, 77999, 78999, 79999, 80999, 81999, 85999, 91004, 91008, 92004, 92008, 93999, 94999, 95999, 96999, 97999, 98999, 99999, 114999] ty h tyq405 hq405 := gSg.tr (gSg.ss G181 sS222 (by decide)) xq405 (by decide) (by decide) (fun x hx => by cases hx)
            have t407 : tyq405 x = 50 := gSg.typ xq405 sS222.1 t182 rfl
            have t408 : tyq405 pic = 54 := gSg.typ xq405 sS222.1 t183 rfl
            have t409 : tyq405 b0 = 82 := gSg.typ xq405 sS222.1 t184 rfl
            have t410 : tyq405 b1 = 83 := gSg.typ xq405 sS222.1 t185 rfl
            have t411 : tyq405 b2 = 84 := gSg.typ xq405 sS222.1 t186 rfl
            have t412 : tyq405 dr = 55 := gSg.typ xq405 sS222.1 t187 rfl
            have t413 : tyq405 sk = 56 := gSg.typ xq405 sS222.1 t188 rfl
            have t414 : tyq405 bt = 114 := gSg.typ xq405 sS222.1 t189 rfl
            have hl415 : hq405.2.2.2.1 bt = hq180.2.2.2.1 bt := gSg.len xq405 sS222.1 t189 rfl
            have t416 : tyq405 cl = 51 := gSg.typ xq405 sS222.1 t191 rfl
            have t417 : tyq405 c18 = 71 := gSg.typ xq405 sS222.1 t192 rfl
            have t418 : tyq405 c122 = 53 := gSg.typ xq405 sS222.1 t193 rfl
            have t419 : tyq405 cq180_0 = 114 := gSg.typ xq405 sS222.1 tcq180_0 rfl
            have hl420 : hq405.2.2.2.1 cq180_0 = hq180.2.2.2.1 cq180_0 := gSg.len xq405 sS222.1 tcq180_0 rfl
            have t421 : tyq405 c223 = 60 := gSg.typ xq405 sS222.1 tc223 rfl
            have t422 : tyq405 c224 = 61 := gSg.typ xq405 sS222.1 tc224 rfl
            have s423 := gSg.at xq405 sS222.1 t182 rfl (by decide) s194
            have s424 := gSg.at xq405 sS222.1 t182 rfl (by decide) s195
            have s425 := gSg.at xq405 sS222.1 t182 rfl (by decide) s196
            have s426 := gSg.at xq405 sS222.1 t182 rfl (by decide) s197
            have s427 := gSg.at xq405 sS222.1 t187 rfl (by decide) s198
            have s428 := gSg.at xq405 sS222.1 t187 rfl (by decide) s199
            have s429 := gSg.at xq405 sS222.1 t187 rfl (by decide) s200
            have s430 := gSg.at xq405 sS222.1 t187 rfl (by decide) s201
            have s431 := gSg.at xq405 sS222.1 t191 rfl (by decide) s202
            have s432 := gSg.at xq405 sS222.1 t182 rfl (by decide) s203
            have s433 := gSg.at xq405 sS222.1 t182 rfl (by decide) s204
            have s434 := gSg.at xq405 sS222.1 t192 rfl (by decide) s205
            have s435 := gSg.at xq405 sS222.1 t192 rfl (by decide) s206
            have s436 := gSg.at xq405 sS222.1 t192 rfl (by decide) efq180_3
            have s437 := gSg.at xq405 sS222.1 t187 rfl (by decide) ec223
            have s438 := gSg.at xq405 sS222.1 t187 rfl (by decide) ec224
            have pr439 := gStx.gr xq405 (by decide) (fun x hx => by cases hx) pr207
            have pr440 := gPC.gr xq405 sS222.1 (by decide) pr208
            have pr441 := gTc.gr xq405 sS222.1 (by decide) (by decide) pr209
            have pr442 := gRr.gr xq405 sS222.1 (by decide) (by decide) pr210
            have pr443 := gRn.gr xq405 sS222.1 rfl (by decide) (by decide) pr211
            have pr444 := gRn.gr xq405 sS222.1 rfl (by decide) (by decide) pr212
            have pr445 := gRn.gr xq405 sS222.1 rfl (by decide) (by decide) pr213
            have pr446 := gRn.gr xq405 sS222.1 rfl (by decide) (by decide) pr214
            have pr447 := gRn.gr xq405 sS222.1 rfl (by decide) (by decide) pr215
            have pr448 := gRn.gr xq405 sS222.1 rfl (by decide) (by decide) pr216
            have pr449 := gRn.gr xq405 sS222.1 rfl (by decide) (by decide) pr217
            have pr450 := gRn.gr xq405 sS222.1 rfl (by decide) (by decide) pr218
            have pr451 := gRn.gr xq405 sS222.1 rfl (by decide) (by decide) pr219
            have uq452 := gSg.uq xq405 uq220 (by decide)
            have hyst453 := gSta.gr xq405 (by decide) (fun x hx => by cases hx) (gSta.fr sS222.2 (by decide) hyst221)
            have sS454 : gSs rT 1027 tyq405 [50006, 55008, 56000, 56001, 56002, 56003, 64999, 71005, 71006, 71007, 71008, 71009, 71010, 71011, 71012, 71013, 71014, 72999, 73999, 74999, 76999, 77999, 78999, 79999, 80999, 81999, 85999, 91004, 91008, 92004, 92008, 93999, 94999, 95999, 96999, 97999, 98999, 99999, 114999] hq405 hq405 := gSs.rf xq405.1
            have hk455 : eKk qu i0 dw dh n0 S 0 = eSc fq180_3 0 63 0 0 (eCf S.1.2.1 (eTb S.1.1 qu) dw dh (zup dw 8)) (fq149_0).toNat (eHd (eTb S.1.1 qu) n0 dh dw i0) := by rw [hmn, hiw]; exact eKk_z (by omega)
            have hk455_1 : (eKk qu i0 dw dh n0 S 0).1 = (eSc fq180_3 0 63 0 0 (eCf S.1.2.1 (eTb S.1.1 qu) dw dh (zup dw 8)) (fq149_0).toNat (eHd (eTb S.1.1 qu) n0 dh dw i0)).1 := by rw [hk455]
            have hk455_21 : (eKk qu i0 dw dh n0 S 0).2.1 = (eSc fq180_3 0 63 0 0 (eCf S.1.2.1 (eTb S.1.1 qu) dw dh (zup dw 8)) (fq149_0).toNat (eHd (eTb S.1.1 qu) n0 dh dw i0)).2.1 := by rw [hk455]
            have hk455_221 : (eKk qu i0 dw dh n0 S 0).2.2.1 = (eSc fq180_3 0 63 0 0 (eCf S.1.2.1 (eTb S.1.1 qu) dw dh (zup dw 8)) (fq149_0).toNat (eHd (eTb S.1.1 qu) n0 dh dw i0)).2.2.1 := by rw [hk455]
            have hsw456 : gSW tyq405 cq405_0 (eKk qu i0 dw dh n0 S 0) hq405 := by rw [hk455]; exact yq405_0
            have hok457 : eeOk (eKk qu i0 dw dh n0 S 0) := by rw [hk455]; exact yq405_1
            have hoc458 := hok457.cur
            refine gz_s 2 (pc' := 122) (L' := [some (.ref x), some (.int (zi qu)), some (.int (zi 0))]) (S' := []) rfl ?_
            have lp459 : ∀ (fu : Nat) (ty461 : Nat → Nat) (h460 : gH) (bv : Nat) (i : Int) (cv : Int) (uv : Int) (hv : Int), (11 - i).toNat < fu → gSg [71, 72, 73, 74, 75, 76, 77, 78, 79, 80, 81, 85, 91, 92, 93, 94, 95, 96, 97, 98, 99, 114, 200] [] [50006, 55008, 56000, 56001, 56002, 56003, 64999, 71005, 71006, 71007, 71008, 71009, 71010, 71011, 71012, 71013, 71014, 72999, 73999, 74999, 76999, 77999, 78999, 79999, 80999, 81999, 85999, 91004, 91008, 92004, 92008, 93999, 94999, 95999, 96999, 97999, 98999, 99999, 114999] ty h ty461 h460 → gUq ty461 → gSta ty461 h460 → ty461 x = 50 → ty461 pic = 54 → ty461 dr = 55 → ty461 sk = 56 → ty461 cl = 51 → ty461 c18 = 71 → ty461 c122 = 53 → ty461 c223 = 60 → ty461 c224 = 61 → h460.2.2.2.2 sk 0 = .ref bv → ty461 bv = 114 → (0 ≤ i ∧ i ≤ 10) → (0 ≤ cv ∧ cv ≤ 499999) → (0 ≤ uv ∧ uv ≤ 127) → (0 ≤ hv ∧ hv ≤ 7) → ((n0 = 0 ∧ 4 * cv + hv ≤ 336000) ∨ 4 * cv + hv ≤ 400 + 7876 * i + 5120 * gTl S.1.2.2.1 S.1.2.2.2.1 i) → (i ≤ n0) → (cv ≤ (h460.2.2.2.1 bv : Int)) → (1024 * (((h460.1 : Int) - h.1) - 21) ≤ (h460.2.2.2.1 bv : Int) - lb) → (((h460.2.1 : Int) - h.2.1) ≤ 4303 + 2 * ((h460.2.2.2.1 bv : Int) - lb)) → (lb ≤ (h460.2.2.2.1 bv : Int)) → (cv = (eKk qu i0 dw dh n0 S i).1) → (uv = (eKk qu i0 dw dh n0 S i).2.1) → (hv = (eKk qu i0 dw dh n0 S i).2.2.1) → h460.2.2.2.2 x 2 = .ref pic → h460.2.2.2.2 x 3 = .ref dr → h460.2.2.2.2 x 4 = .ref sk → h460.2.2.2.2 x 0 = .ref cl → h460.2.2.2.2 dr 8 = .int (zi n0) → h460.2.2.2.2 dr 3 = .int (zi i0) → h460.2.2.2.2 dr 1 = .int (zi dw) → h460.2.2.2.2 dr 2 = .int (zi dh) → h460.2.2.2.2 cl 1 = .int (zi scl) → h460.2.2.2.2 x 6 = .ref c18 → h460.2.2.2.2 x 1 = .ref c122 → h460.2.2.2.2 c18 5 = .int (zi fq149_0) → h460.2.2.2.2 c18 0 = .ref sk → h460.2.2.2.2 c18 6 = .int (zi fq180_3) → h460.2.2.2.2 dr 4 = .ref c223 → h460.2.2.2.2 dr 5 = .ref c224 → h460.2.2.2.2 sk 1 = .int (zi cv) → h460.2.2.2.2 sk 2 = .int (zi uv) → h460.2.2.2.2 sk 3 = .int (zi hv) → gStx ty461 h460 → gPC ty461 pic b0 b1 b2 ld h460 → gTc ty461 n0 h460 → gRr ty461 x h460 → gRn 256 ty461 53 S.1.1 h460 → gRn 1024 ty461 59 S.1.2.1 h460 → gRn 10 ty461 60 S.1.2.2.1 h460 → gRn 10 ty461 61 S.1.2.2.2.1 h460 → gRn 10 ty461 62 S.1.2.2.2.2.1 h460 → gRn 10 ty461 63 S.1.2.2.2.2.2.1 h460 → gRn 64 ty461 64 S.1.2.2.2.2.2.2 h460 → gRn 64 ty461 72 (eTb S.1.1 qu) h460 → gRn (64 * fq149_0).toNat ty461 73 (eCf S.1.2.1 (eTb S.1.1 qu) dw dh (zup dw 8)) h460 → gSW ty461 bv (eKk qu i0 dw dh n0 S i) h460 → eeOk (eKk qu i0 dw dh n0 S i) → gz gPP gGG gcn (d + 8) gt89 122 [some (.ref x), some (.int (zi qu)), some (.int (zi i))] [] h460 (fun q _ => ∃ ty9 : Nat → Nat, gSg [71, 72, 73, 74, 75, 76, 77, 78, 79, 80, 81, 85, 91, 92, 93, 94, 95, 96, 97, 98, 99, 114, 200] [] [50006, 55008, 56000, 56001, 56002, 56003, 64999, 71005, 71006, 71007, 71008, 71009, 71010, 71011, 71012, 71013, 71014, 72999, 73999, 74999, 76999, 77999, 78999, 79999, 80999, 81999, 85999, 91004, 91008, 92004, 92008, 93999, 94999, 95999, 96999, 97999, 98999, 99999, 114999] ty h ty9 q.2.2 ∧ ∃ ld1 lb1 iv1 : Int, 0 ≤ ld1 ∧ ld1 ≤ 192 ∧ 1024 ≤ lb1 ∧ lb1 ≤ 1000000 ∧ 0 ≤ iv1 ∧ iv1 ≤ 54223962112 ∧ (gIx ty9 x ld1 lb1 iv1 (eQ3 qu (iv / 536870912) (iv / 64 % 64) (iv / 4096 % 64) (iv % 64) S) q.2.2) ∧ gUq ty9 ∧ ((∃ z : Int, gfin gt89 q.1 q.2.1 = some (some (.int (zi z))) ∧ (-2147483648) ≤ z ∧ z ≤ 2147483647 ∧ (1 ≤ qu) ∧ (qu ≤ 100) ∧ (1 ≤ iv / 64 % 64) ∧ (iv1 = iv - iv % 64) ∧ (z = (eNn qu (iv / 536870912) (iv / 64 % 64) (iv / 4096 % 64) (iv % 64) S).1) ∧ (1024 * (((q.2.2.1 : Int) - h.1) - 31 - 2 * (ld1 - ld)) ≤ lb1 - lb) ∧ (((q.2.2.2.1 : Int) - h.2.1) ≤ 4303 + 12480 * (ld1 - ld) + 2 * (lb1 - lb)) ∧ (ld ≤ ld1) ∧ (lb ≤ lb1)) ∨ (q.2.1 = [] ∧ ((q.1 = 11 ∧ (¬ (1 ≤ qu ∧ qu ≤ 100))) ∨ (q.1 = 32 ∧ (1 ≤ qu) ∧ (qu ≤ 100) ∧ (iv / 64 % 64 = 0))) ∧ (iv1 = iv) ∧ (1024 * (((q.2.2.1 : Int) - h.1) - 31 - 2 * (ld1 - ld)) ≤ lb1 - lb) ∧ (((q.2.2.2.1 : Int) - h.2.1) ≤ 4303 + 12480 * (ld1 - ld) + 2 * (lb1 - lb)) ∧ (ld ≤ ld1) ∧ (lb ≤ lb1)))) := by
              intro fu
              induction fu with
              | zero => intro ty461 h460 bv i cv uv hv hm; exact absurd hm (Nat.not_lt_zero _)
              | succ fu ihlp459 =>
                intro ty461 h460 bv i cv uv hv lp459m lp459G lp459u lp459t lp459c0 lp459c1 lp459c2 lp459c3 lp459c4 lp459c5 lp459c6 lp459c7 lp459c8 lp459r0 lp459r1 lp459f0 lp459f1 lp459f2 lp459f3 lp459f4 lp459f5 lp459f6 lp459f7 lp459f8 lp459f9 lp459f10 lp459f11 lp459f12 lp459k0 lp459k1 lp459k2 lp459k3 lp459k4 lp459k5 lp459k6 lp459k7 lp459k8 lp459k9 lp459k10 lp459k11 lp459k12 lp459k13 lp459k14 lp459k15 lp459k16 lp459k17 lp459k18 lp459k19 lp459k20 lp459k21 lp459k22 lp459k23 lp459k24 lp459k25 lp459k26 lp459k27 lp459k28 lp459k29 lp459k30 lp459k31 lp459k32 lp459k33
                have sh460 : gSs rT 1027 ty461 [50006, 55008, 56000, 56001, 56002, 56003, 64999, 71005, 71006, 71007, 71008, 71009, 71010, 71011, 71012, 71013, 71014, 72999, 73999, 74999, 76999, 77999, 78999, 79999, 80999, 81999, 85999, 91004, 91008, 92004, 92008, 93999, 94999, 95999, 96999, 97999, 98999, 99999, 114999] h460 h460 := gSs.rf lp459G.1
                refine gz_s 2 (pc' := 124) (L' := [some (.ref x), some (.int (zi qu)), some (.int (zi i))]) (S' := [.ref x, .int (zi i)]) rfl ?_
                refine gs_gtk rfl (by decide) rfl sh460.1 lp459c0 rfl rfl lp459k1 ?_
                refine gs_gtk rfl (by decide) rfl sh460.1 lp459c2 rfl rfl lp459k4 ?_
                refine gy_icT (pc' := 182) rfl (by decide) (by decide) ⟨by omega, by omega⟩ ⟨by omega, by omega⟩ (by first | (simp [zc]; done) | (simp only [zc]; omega)) ?_
                have hgl9 : gTl S.1.2.2.1 S.1.2.2.2.1 i = gTl S.1.2.2.1 S.1.2.2.2.1 n0 := by rw [show i = n0 from Int.le_antisymm (by omega) (by omega)]
                refine gz_s 1 (pc' := 183) (L' := [some (.ref x), some (.int (zi qu)), some (.int (zi i))]) (S' := [.ref x]) rfl ?_
                refine gs_gtk rfl (by decide) rfl sh460.1 lp459c0 rfl rfl lp459k9 ?_
                have hl462 : h460.2.2.2.1 bv = h460.2.2.2.1 bv := congrFun sh460.2.2.2.2.1 bv
                refine gz_call rfl (by decide) rfl (by decide) (by decide) (gcal_of rfl rfl rfl (Nat.le_of_ble_eq_true rfl) (gJ.recv (G := gGG) sh460.1 lp459c5 rfl rfl)) (cw_putEnd _ sh460.1 c18 lp459c5 sk lp459k12 lp459c3 bv lp459r0 lp459r1 cv lp459k16 ⟨by omega, by omega⟩ (eKk qu i0 dw dh n0 S i) (by omega) (by omega) lp459u lp459k32 lp459k33) (fun q463 _ wq463 => ?_)
                obtain ⟨pq463, oq463, hq463⟩ := q463
                obtain ⟨tyq463, xq463, cq463_0, ttq463, fq463_0, ecq463_0, tcq463_0, gq463, efq463_0, afq463_0, bfq463_0, uq463_0, uq463_1, uq463_2, uq463_3, uq463_4, uq463_5, uq463_6, uq463_7, yq463_0, yq463_1⟩ := wq463
                dsimp only at uq463_4 uq463_5 uq463_6 uq463_7
                refine ⟨_, gq463, ?_⟩
                show gz gPP gGG gcn _ _ 189 [some (.ref x), some (.int (zi qu)), some (.int (zi i))] [] hq463 _
                have G464 : gSg [71, 72, 73, 74, 75, 76, 77, 78, 79, 80, 81, 85, 91, 92, 93, 94, 95, 96, 97, 98, 99, 114, 200] [] [50006, 55008, 56000, 56001, 56002, 56003, 64999, 71005, 71006, 71007, 71008, 71009, 71010, 71011, 71012, 71013, 71014, 72999, 73999, 74999, 76999, 77999, 78999, 79999, 80999, 81999, 85999, 91004, 91008, 92004, 92008, 93999, 94999, 95999, 96999, 97999, 98999, 99999, 114999] ty h tyq463 hq463 := gSg.tr (gSg.ss lp459G sh460 (by decide)) xq463 (by decide) (by decide) (fun x hx => by cases hx)
                have t465 : tyq463 x = 50 := gSg.typ xq463 sh460.1 lp459c0 rfl
                have t466 : tyq463 pic = 54 := gSg.typ xq463 sh460.1 lp459c1 rfl
                have t467 : tyq463 dr = 55 := gSg.typ xq463 sh460.1 lp459c2 rfl
                have t468 : tyq463 sk = 56 := gSg.typ xq463 sh460.1 lp459c3 rfl
                have t469 : tyq463 cl = 51 := gSg.typ xq463 sh460.1 lp459c4 rfl
                have t470 : tyq463 c18 = 71 := gSg.typ xq463 sh460.1 lp459c5 rfl
                have t471 : tyq463 c122 = 53 := gSg.typ xq463 sh460.1 lp459c6 rfl
                have t472 : tyq463 c223 = 60 := gSg.typ xq463 sh460.1 lp459c7 rfl
                have t473 : tyq463 c224 = 61 := gSg.typ xq463 sh460.1 lp459c8 rfl
                have t474 : tyq463 bv = 114 := gSg.typ xq463 sh460.1 lp459r1 rfl
                have hl475 : hq463.2.2.2.1 bv = h460.2.2.2.1 bv := gSg.len xq463 sh460.1 lp459r1 rfl
                have s476 := gSg.at xq463 sh460.1 lp459c0 rfl (by decide) lp459k0
                have s477 := gSg.at xq463 sh460.1 lp459c0 rfl (by decide) lp459k1
                have s478 := gSg.at xq463 sh460.1 lp459c0 rfl (by decide) lp459k2
                have s479 := gSg.at xq463 sh460.1 lp459c0 rfl (by decide) lp459k3
                have s480 := gSg.at xq463 sh460.1 lp459c2 rfl (by decide) lp459k4
                have s481 := gSg.at xq463 sh460.1 lp459c2 rfl (by decide) lp459k5
                have s482 := gSg.at xq463 sh460.1 lp459c2 rfl (by decide) lp459k6
                have s483 := gSg.at xq463 sh460.1 lp459c2 rfl (by decide) lp459k7
                have s484 := gSg.at xq463 sh460.1 lp459c4 rfl (by decide) lp459k8
                have s485 := gSg.at xq463 sh460.1 lp459c0 rfl (by decide) lp459k9
                have s486 := gSg.at xq463 sh460.1 lp459c0 rfl (by decide) lp459k10
                have s487 := gSg.at xq463 sh460.1 lp459c5 rfl (by decide) lp459k11
                have s488 := gSg.at xq463 sh460.1 lp459c5 rfl (by decide) lp459k12
                have s489 := gSg.at xq463 sh460.1 lp459c5 rfl (by decide) lp459k13
                have s490 := gSg.at xq463 sh460.1 lp459c2 rfl (by decide) lp459k14
                have s491 := gSg.at xq463 sh460.1 lp459c2 rfl (by decide) lp459k15
                have s492 := gSg.at xq463 sh460.1 lp459c3 rfl (by decide) lp459k17
                have s493 := gSg.at xq463 sh460.1 lp459c3 rfl (by decide) lp459k18
                have pr494 := gStx.gr xq463 (by decide) (fun x hx => by cases hx) lp459k19
                have pr495 := gPC.gr xq463 sh460.1 (by decide) lp459k20
                have pr496 := gTc.gr xq463 sh460.1 (by decide) (by decide) lp459k21
                have pr497 := gRr.gr xq463 sh460.1 (by decide) (by decide) lp459k22
                have pr498 := gRn.gr xq463 sh460.1 rfl (by decide) (by decide) lp459k23
                have pr499 := gRn.gr xq463 sh460.1 rfl (by decide) (by decide) lp459k24
                have pr500 := gRn.gr xq463 sh460.1 rfl (by decide) (by decide) lp459k25
                have pr501 := gRn.gr xq463 sh460.1 rfl (by decide) (by decide) lp459k26
                have pr502 := gRn.gr xq463 sh460.1 rfl (by decide) (by decide) lp459k27
                have pr503 := gRn.gr xq463 sh460.1 rfl (by decide) (by decide) lp459k28
                have pr504 := gRn.gr xq463 sh460.1 rfl (by decide) (by decide) lp459k29
                have pr505 := gRn.gr xq463 sh460.1 rfl (by decide) (by decide) lp459k30
                have pr506 := gRn.gr xq463 sh460.1 rfl (by decide) (by decide) lp459k31
                have uq507 := gSg.uq xq463 lp459u (by decide)
                have hyst508 := gSta.gr xq463 (by decide) (fun x hx => by cases hx) (gSta.fr sh460.2 (by decide) lp459t)
                have sS509 : gSs rT 1027 tyq463 [50006, 55008, 56000, 56001, 56002, 56003, 64999, 71005, 71006, 71007, 71008, 71009, 71010, 71011, 71012, 71013, 71014, 72999, 73999, 74999, 76999, 77999, 78999, 79999, 80999, 81999, 85999, 91004, 91008, 92004, 92008, 93999, 94999, 95999, 96999, 97999, 98999, 99999, 114999] hq463 hq463 := gSs.rf xq463.1
                have hk510 : eNn qu i0 dw dh n0 S = eeM (eKk qu i0 dw dh n0 S i) 217 := eKk_e (by omega)
                have hk510_1 : (eNn qu i0 dw dh n0 S).1 = (eeM (eKk qu i0 dw dh n0 S i) 217).1 := by rw [hk510]
                have hk510_21 : (eNn qu i0 dw dh n0 S).2.1 = (eeM (eKk qu i0 dw dh n0 S i) 217).2.1 := by rw [hk510]
                have hk510_221 : (eNn qu i0 dw dh n0 S).2.2.1 = (eeM (eKk qu i0 dw dh n0 S i) 217).2.2.1 := by rw [hk510]
                have hsw511 : gSW tyq463 cq463_0 (eNn qu i0 dw dh n0 S) hq463 := by rw [hk510]; exact yq463_0
                have hok512 : eeOk (eNn qu i0 dw dh n0 S) := by rw [hk510]; exact yq463_1
                have hoc513 := hok512.cur
                have hcd9 := hcd
                refine gz_s 1 (pc' := 190) (L' := [some (.ref x), some (.int (zi qu)), some (.int (zi i))]) (S' := [.ref x]) rfl ?_
                refine gs_gtk rfl (by decide) rfl sS509.1 t465 rfl rfl s477 ?_
                refine gz_call rfl (by decide) rfl (by decide) (by decide) (gcal_of rfl rfl rfl (Nat.le_of_ble_eq_true rfl) (gJ.recv (G := gGG) sS509.1 t467 rfl rfl)) (cl_Draft_forgetScans _ sS509.1 dr t467 uq507) (fun q514 _ wq514 => ?_)
                obtain ⟨pq514, oq514, hq514⟩ := q514
                obtain ⟨xq514, fq514_0, gq514, efq514_0, afq514_0, bfq514_0, uq514_0, yq514_0, yq514_1⟩ := wq514
                refine ⟨_, gq514, ?_⟩
                show gz gPP gGG gcn _ _ 196 [some (.ref x), some (.int (zi qu)), some (.int (zi i))] [] hq514 _
                have sq514 : gSs rT 1027 tyq463 [50006, 55008, 56000, 56001, 56002, 56003, 64999, 71005, 71006, 71007, 71008, 71009, 71010, 71011, 71012, 71013, 71014, 72999, 73999, 74999, 76999, 77999, 78999, 79999, 80999, 81999, 85999, 91004, 91008, 92004, 92008, 93999, 94999, 95999, 96999, 97999, 98999, 99999, 114999] hq463 hq514 := gSs.tr sS509 xq514 (by decide)
                have s515 := (xq514.2.2.2.2.2 x 2 (by rw [t465]; decide)).trans s476
                have s516 := (xq514.2.2.2.2.2 x 3 (by rw [t465]; decide)).trans s477
                have s517 := (xq514.2.2.2.2.2 x 4 (by rw [t465]; decide)).trans s478
                have s518 := (xq514.2.2.2.2.2 x 0 (by rw [t465]; decide)).trans s479
                have s519 := (xq514.2.2.2.2.2 dr 3 (by rw [t467]; decide)).trans s481
                have s520 := (xq514.2.2.2.2.2 dr 1 (by rw [t467]; decide)).trans s482
                have s521 := (xq514.2.2.2.2.2 dr 2 (by rw [t467]; decide)).trans s483
                have s522 := (xq514.2.2.2.2.2 cl 1 (by rw [t469]; decide)).trans s484
                have s523 := (xq514.2.2.2.2.2 x 6 (by rw [t465]; decide)).trans s485
                have s524 := (xq514.2.2.2.2.2 x 1 (by rw [t465]; decide)).trans s486
                have s525 := (xq514.2.2.2.2.2 c18 5 (by rw [t470]; decide)).trans s487
                have s526 := (xq514.2.2.2.2.2 c18 0 (by rw [t470]; decide)).trans s488
                have s527 := (xq514.2.2.2.2.2 c18 6 (by rw [t470]; decide)).trans s489
                have s528 := (xq514.2.2.2.2.2 dr 4 (by rw [t467]; decide)).trans s490
                have s529 := (xq514.2.2.2.2.2 dr 5 (by rw [t467]; decide)).trans s491
                have s530 := (xq514.2.2.2.2.2 sk 2 (by rw [t468]; decide)).trans s492
                have s531 := (xq514.2.2.2.2.2 sk 3 (by rw [t468]; decide)).trans s493
                have s532 := (xq514.2.2.2.2.2 sk 0 (by rw [t468]; decide)).trans ecq463_0
                have s533 := (xq514.2.2.2.2.2 sk 1 (by rw [t468]; decide)).trans efq463_0
                have pr534 := gStx.fr xq514.2 (by decide) pr494
                have pr535 := gPC.fr xq514.2 (by decide) pr495
                have pr536 := gRr.fr xq514.2 (by decide) pr497
                have pr537 := gRn.fr xq514.2 (by decide) pr498
                have pr538 := gRn.fr xq514.2 (by decide) pr499
                have pr539 := gRn.fr xq514.2 (by decide) pr500
                have pr540 := gRn.fr xq514.2 (by decide) pr501
                have pr541 := gRn.fr xq514.2 (by decide) pr502
                have pr542 := gRn.fr xq514.2 (by decide) pr503
                have pr543 := gRn.fr xq514.2 (by decide) pr505
                have pr544 := gRn.fr xq514.2 (by decide) pr506
                have pr545 := gSW.fr xq514.2 (by decide) hsw511
                refine gz_s 1 (pc' := 197) (L' := [some (.ref x), some (.int (zi qu)), some (.int (zi i))]) (S' := [.ref x]) rfl ?_
                refine gs_gtk rfl (by decide) rfl sq514.1 t465 rfl rfl s517 ?_
                refine gs_gtk rfl (by decide) rfl sq514.1 t468 rfl rfl s533 ?_
                have k546 := sq514.2.1
                have k546b := sq514.2.2.1
                have hl547 : hq514.2.2.2.1 bv = hq463.2.2.2.1 bv := congrFun sq514.2.2.2.2.1 bv
                have hl548 : hq514.2.2.2.1 cq463_0 = hq463.2.2.2.1 cq463_0 := congrFun sq514.2.2.2.2.1 cq463_0
                have hl549 : 1024 ≤ hq514.2.2.2.1 bv ∧ hq514.2.2.2.1 bv ≤ 1000000 := gJ.rowl (G := gGG) sq514.1 t474 rfl
                have hl550 : 1024 ≤ hq514.2.2.2.1 cq463_0 ∧ hq514.2.2.2.1 cq463_0 ≤ 1000000 := gJ.rowl (G := gGG) sq514.1 tcq463_0 rfl
                have hxr551 : gXr tyq463 (eS3 S (eNn qu i0 dw dh n0 S)) hq514 := ⟨pr537, pr538, pr539, pr540, pr541, pr542, gOy.Rn (by decide) yq514_1⟩
                have hnv : (eNn qu (iv / 536870912) (iv / 64 % 64) (iv / 4096 % 64) (iv % 64) S).1 = (eNn qu i0 dw dh n0 S).1 := by rw [hdi, hdw, hdh, hdn]
                have k552 := sq514.2.1
                have k552b := sq514.2.2.1
                have hl553 : hq514.2.2.2.1 bv = hq463.2.2.2.1 bv := congrFun sq514.2.2.2.2.1 bv
                have hl554 : hq514.2.2.2.1 cq463_0 = hq463.2.2.2.1 cq463_0 := congrFun sq514.2.2.2.2.1 cq463_0
                have hix555 : gIx tyq463 x ld (hq514.2.2.2.1 cq463_0 : Int) (64 * dw + fq514_0 + 4096 * dh + 262144 * scl + 536870912 * i0) (eS3 S (eNn qu i0 dw dh n0 S)) hq514 := ⟨pic, b0, b1, b2, dr, sk, cq463_0, cl, fq514_0, fq463_0, i0, dw, dh, scl, ⟨t465, t467, t468, tcq463_0⟩, ⟨s515, s516, s517, s532⟩, pr535, (by rw [(by omega : fq514_0 = 0)]; exact yq514_0), ⟨efq514_0, by omega, by omega⟩, ⟨s519, by omega, by omega⟩, ⟨s533, by omega, by omega⟩, ⟨by omega, by omega⟩, pr536, ⟨t465, Or.inr ⟨c18, s523, t470⟩⟩, ⟨s520, by omega, by omega⟩, ⟨s521, by omega, by omega⟩, by omega, rfl, hxr551, ⟨pr545, (show _ = ((eNn qu i0 dw dh n0 S)).1 by omega)⟩, (by rw [(by omega : fq514_0 = 0)]; exact eTz.zero), t469, s518, ⟨s522, by omega, by omega⟩⟩
                have hix556 : gIx tyq463 x ld (hq514.2.2.2.1 cq463_0 : Int) (64 * dw + fq514_0 + 4096 * dh + 262144 * scl + 536870912 * i0) (eQ3 qu (iv / 536870912) (iv / 64 % 64) (iv / 4096 % 64) (iv % 64) S) hq514 := by rw [hdi, hdw, hdh, hdn, eQ3_y hok]; exact hix555
                have G557 : gSg [71, 72, 73, 74, 75, 76, 77, 78, 79, 80, 81, 85, 91, 92, 93, 94, 95, 96, 97, 98, 99, 114, 200] [] [50006, 55008, 56000, 56001, 56002, 56003, 64999, 71005, 71006, 71007, 71008, 71009, 71010, 71011, 71012, 71013, 71014, 72999, 73999, 74999, 76999, 77999, 78999, 79999, 80999, 81999, 85999, 91004, 91008, 92004, 92008, 93999, 94999, 95999, 96999, 97999, 98999, 99999, 114999] ty h tyq463 hq514 := gSg.ss G464 sq514 (by decide)
                exact gz_end (I := .ireturn) (len := 1) rfl (Or.inl rfl) ⟨tyq463, G557, ld, (hq514.2.2.2.1 cq463_0 : Int), (64 * dw + fq514_0 + 4096 * dh + 262144 * scl + 536870912 * i0), (by omega), (by omega), (by omega), (by omega), (by omega), (by omega), hix556, uq507, Or.inl ⟨fq463_0, rfl, (by omega), (by omega), (by omega), (by omega), (by omega), (by omega), (by omega), (by dsimp only; omega), (by dsimp only; omega), (by omega), (by omega)⟩⟩
            have hl558 : 1024 ≤ hq405.2.2.2.1 bt ∧ hq405.2.2.2.1 bt ≤ 1000000 := gJ.rowl (G := gGG) sS454.1 t414 rfl
            have hl559 : 1024 ≤ hq405.2.2.2.1 cq180_0 ∧ hq405.2.2.2.1 cq180_0 ≤ 1000000 := gJ.rowl (G := gGG) sS454.1 t419 rfl
            have hl560 : 1024 ≤ hq405.2.2.2.1 cq405_0 ∧ hq405.2.2.2.1 cq405_0 ≤ 1000000 := gJ.rowl (G := gGG) sS454.1 tcq405_0 rfl
            have G561 : gSg [71, 72, 73, 74, 75, 76, 77, 78, 79, 80, 81, 85, 91, 92, 93, 94, 95, 96, 97, 98, 99, 114, 200] [] [50006, 55008, 56000, 56001, 56002, 56003, 64999, 71005, 71006, 71007, 71008, 71009, 71010, 71011, 71012, 71013, 71014, 72999, 73999, 74999, 76999, 77999, 78999, 79999, 80999, 81999, 85999, 91004, 91008, 92004, 92008, 93999, 94999, 95999, 96999, 97999, 98999, 99999, 114999] ty h tyq405 hq405 := gSg.ss G406 sS454 (by decide)
            exact gz_wk (lp459 _ tyq405 hq405 cq405_0 0 fq405_0 fq405_1 fq405_2 (Nat.lt_succ_self _) G561 uq452 (gSta.fr sS454.2 (by decide) hyst453) t407 t408 t412 t413 t416 t417 t418 t421 t422 ecq405_0 tcq405_0 ⟨by omega, by omega⟩ ⟨by omega, by omega⟩ ⟨by omega, by omega⟩ ⟨by omega, by omega⟩ (by omega) (by omega) (by omega) (by omega) (by omega) (by omega) (by omega) (by omega) (by omega) s423 s424 s425 s426 s427 s428 s429 s430 s431 s432 s433 s434 s435 s436 s437 s438 efq405_0 efq405_1 efq405_2 pr439 pr440 pr441 pr442 pr443 pr444 pr445 pr446 pr447 pr448 pr449 pr450 pr451 hsw456 hok457) (gLw.s (gLw.s (gLw.s gLw.z)))
        · skip
          refine gz_s 2 (pc' := 65) (L' := [some (.ref x), some (.int (zi qu)), none]) (S' := [.ref x]) rfl ?_
          refine gs_gtk rfl (by decide) rfl hS.1 tx rfl rfl ec15 ?_
          refine gz_s 1 (pc' := 69) (L' := [some (.ref x), some (.int (zi qu)), none]) (S' := [.ref x, .ref c15]) rfl ?_
          refine gs_gtr rfl (by decide) rfl hS.1 tx rfl rfl rfl (fun c562 ec562 tc562 => ?_)
          refine gz_s 1 (pc' := 73) (L' := [some (.ref x), some (.int (zi qu)), none]) (S' := [.int (zi qu), .ref c562, .ref c15]) rfl ?_
          refine gz_call rfl (by decide) rfl (by decide) (by decide) (gcal_of rfl rfl rfl (Nat.le_of_ble_eq_true rfl) (gJ.recv (G := gGG) hS.1 tc15 rfl rfl)) (cw_makeTable _ hS.1 c15 tc15 c562 tc562 qu ⟨by omega, by omega⟩ S.1.1 uq xr8) (fun q563 _ wq563 => ?_)
          obtain ⟨pq563, oq563, hq563⟩ := q563
          obtain ⟨xq563, gq563, yq563_0⟩ := wq563
          refine ⟨_, gq563, ?_⟩
          show gz gPP gGG gcn _ _ 76 [some (.ref x), some (.int (zi qu)), none] [] hq563 _
          have sq563 : gSs rT 1027 ty [50006, 55008, 56000, 56001, 56002, 56003, 64999, 71005, 71006, 71007, 71008, 71009, 71010, 71011, 71012, 71013, 71014, 72999, 73999, 74999, 76999, 77999, 78999, 79999, 80999, 81999, 85999, 91004, 91008, 92004, 92008, 93999, 94999, 95999, 96999, 97999, 98999, 99999, 114999] h hq563 := gSs.tr hS xq563 (by decide)
          have s564 := (xq563.2.2.2.2.2 x 2 (by rw [tx]; decide)).trans ex2
          have s565 := (xq563.2.2.2.2.2 x 3 (by rw [tx]; decide)).trans ex3
          have s566 := (xq563.2.2.2.2.2 x 4 (by rw [tx]; decide)).trans ex4
          have s567 := (xq563.2.2.2.2.2 sk 0 (by rw [tsk]; decide)).trans ex0
          have s568 := (xq563.2.2.2.2.2 x 0 (by rw [tx]; decide)).trans ex9
          have s569 := (xq563.2.2.2.2.2 dr 8 (by rw [tdr]; decide)).trans en0
          have s570 := (xq563.2.2.2.2.2 dr 3 (by rw [tdr]; decide)).trans eiv
          have s571 := (xq563.2.2.2.2.2 dr 1 (by rw [tdr]; decide)).trans edw
          have s572 := (xq563.2.2.2.2.2 dr 2 (by rw [tdr]; decide)).trans edh
          have s573 := (xq563.2.2.2.2.2 sk 1 (by rw [tsk]; decide)).trans ec0
          have s574 := (xq563.2.2.2.2.2 cl 1 (by rw [tcl]; decide)).trans ecl
          have s575 := (xq563.2.2.2.2.2 x 6 (by rw [tx]; decide)).trans ec15
          have s576 := (xq563.2.2.2.2.2 x 1 (by rw [tx]; decide)).trans ec562
          have pr577 := gStx.fr xq563.2 (by decide) hysx
          have pr578 := gSW.fr xq563.2 (by decide) hsw
          have pr579 := gPC.fr xq563.2 (by decide) hpc
          have pr580 := gTc.fr xq563.2 (by decide) htc
          have pr581 := gRr.fr xq563.2 (by decide) hrr
          have pr582 := gRw.fr xq563.2 (by decide) hrw
          have pr583 := gRn.fr xq563.2 (by decide) xr8
          have pr584 := gRn.fr xq563.2 (by decide) xr9
          have pr585 := gRn.fr xq563.2 (by decide) xr10
          have pr586 := gRn.fr xq563.2 (by decide) xr11
          have pr587 := gRn.fr xq563.2 (by decide) xr12
          have pr588 := gRn.fr xq563.2 (by decide) xr13
          have pr589 := gRn.fr xq563.2 (by decide) xr14
          refine gz_s 1 (pc' := 77) (L' := [some (.ref x), some (.int (zi qu)), none]) (S' := [.ref x]) rfl ?_
          refine gs_gtk rfl (by decide) rfl sq563.1 tx rfl rfl s575 ?_
          refine gz_s 1 (pc' := 81) (L' := [some (.ref x), some (.int (zi qu)), none]) (S' := [.ref x, .ref c15]) rfl ?_
          refine gs_gtk rfl (by decide) rfl sq563.1 tx rfl rfl s565 ?_
          refine gz_call rfl (by decide) rfl (by decide) (by decide) (gcal_of rfl rfl rfl (Nat.le_of_ble_eq_true rfl) (gJ.recv (G := gGG) sq563.1 tc15 rfl rfl)) (cw_transformCanvas _ sq563.1 c15 tc15 dr tdr dw s571 ⟨by omega, by omega⟩ dh s572 ⟨by omega, by omega⟩ S.1.2.1 (eTb S.1.1 qu) uq pr584 yq563_0 pr577 eTb_b) (fun q590 _ wq590 => ?_)
          obtain ⟨pq590, oq590, hq590⟩ := q590
          obtain ⟨xq590, fq590_0, gq590, efq590_0, afq590_0, bfq590_0, uq590_0, yq590_0⟩ := wq590
          refine ⟨_, gq590, ?_⟩
          show gz gPP gGG gcn _ _ 87 [some (.ref x), some (.int (zi qu)), none] [] hq590 _
          have sq590 : gSs rT 1027 ty [50006, 55008, 56000, 56001, 56002, 56003, 64999, 71005, 71006, 71007, 71008, 71009, 71010, 71011, 71012, 71013, 71014, 72999, 73999, 74999, 76999, 77999, 78999, 79999, 80999, 81999, 85999, 91004, 91008, 92004, 92008, 93999, 94999, 95999, 96999, 97999, 98999, 99999, 114999] h hq590 := gSs.tr sq563 xq590 (by decide)
          have s591 := (xq590.2.2.2.2.2 x 2 (by rw [tx]; decide)).trans s564
          have s592 := (xq590.2.2.2.2.2 x 3 (by rw [tx]; decide)).trans s565
          have s593 := (xq590.2.2.2.2.2 x 4 (by rw [tx]; decide)).trans s566
          have s594 := (xq590.2.2.2.2.2 sk 0 (by rw [tsk]; decide)).trans s567
          have s595 := (xq590.2.2.2.2.2 x 0 (by rw [tx]; decide)).trans s568
          have s596 := (xq590.2.2.2.2.2 dr 8 (by rw [tdr]; decide)).trans s569
          have s597 := (xq590.2.2.2.2.2 dr 3 (by rw [tdr]; decide)).trans s570
          have s598 := (xq590.2.2.2.2.2 dr 1 (by rw [tdr]; decide)).trans s571
          have s599 := (xq590.2.2.2.2.2 dr 2 (by rw [tdr]; decide)).trans s572
          have s600 := (xq590.2.2.2.2.2 sk 1 (by rw [tsk]; decide)).trans s573
          have s601 := (xq590.2.2.2.2.2 cl 1 (by rw [tcl]; decide)).trans s574
          have s602 := (xq590.2.2.2.2.2 x 6 (by rw [tx]; decide)).trans s575
          have s603 := (xq590.2.2.2.2.2 x 1 (by rw [tx]; decide)).trans s576
          have pr604 := gStx.fr xq590.2 (by decide) pr577
          have pr605 := gSW.fr xq590.2 (by decide) pr578
          have pr606 := gPC.fr xq590.2 (by decide) pr579
          have pr607 := gTc.fr xq590.2 (by decide) pr580
          have pr608 := gRr.fr xq590.2 (by decide) pr581
          have pr609 := gRw.fr xq590.2 (by decide) pr582
          have pr610 := gRn.fr xq590.2 (by decide) pr583
          have pr611 := gRn.fr xq590.2 (by decide) pr584
          have pr612 := gRn.fr xq590.2 (by decide) pr585
          have pr613 := gRn.fr xq590.2 (by decide) pr586
          have pr614 := gRn.fr xq590.2 (by decide) pr587
          have pr615 := gRn.fr xq590.2 (by decide) pr588
          have pr616 := gRn.fr xq590.2 (by decide) pr589
          have pr617 := gRn.fr xq590.2 (by decide) yq563_0
          have hmb : fq590_0 = zup dw 8 * zup dh 8 := uq590_0
          have hmn : (fq590_0).toNat = (zup dw 8 * zup dh 8).toNat := by rw [hmb]
          refine gz_s 1 (pc' := 88) (L' := [some (.ref x), some (.int (zi qu)), none]) (S' := [.ref x]) rfl ?_
          refine gs_gtk rfl (by decide) rfl sq590.1 tx rfl rfl s602 ?_
          refine gz_s 1 (pc' := 92) (L' := [some (.ref x), some (.int (zi qu)), none]) (S' := [.ref x, .ref c15]) rfl ?_
          refine gs_gtk rfl (by decide) rfl sq590.1 tx rfl rfl s592 ?_
          have k618 := sq590.2.1
          have k618b := sq590.2.2.1
          have hl619 : hq590.2.2.2.1 bt = h.2.2.2.1 bt := congrFun sq590.2.2.2.2.1 bt
          obtain ⟨c620, ec620, tc620⟩ := gJ.ref (k := 0) (G := gGG) sq590.1 tc15 rfl rfl rfl
          have ee621 : sk = c620 := uq sk c620 (tsk.trans tc620.symm) (by rw [tsk]; decide) (by rw [tsk]; decide)
          subst ee621
          refine gz_call rfl (by decide) rfl (by decide) (by decide) (gcal_of rfl rfl rfl (Nat.le_of_ble_eq_true rfl) (gJ.recv (G := gGG) sq590.1 tc15 rfl rfl)) (cw_putHead _ sq590.1 c15 tc15 dr tdr sk ec620 tsk bt s594 tbt i0 s597 ⟨by omega, by omega⟩ n0 s596 ⟨by omega, by omega⟩ dh s599 ⟨by omega, by omega⟩ dw s598 ⟨by omega, by omega⟩ (eTb S.1.1 qu) uq pr617) (fun q622 _ wq622 => ?_)
          obtain ⟨pq622, oq622, hq622⟩ := q622
          obtain ⟨tyq622, xq622, cq622_0, ttq622, fq622_0, fq622_1, fq622_2, fq622_3, ecq622_0, tcq622_0, gq622, efq622_0, afq622_0, bfq622_0, efq622_1, afq622_1, bfq622_1, efq622_2, afq622_2, bfq622_2, efq622_3, afq622_3, bfq622_3, uq622_0, uq622_1, uq622_2, uq622_3, uq622_4, uq622_5, uq622_6, uq622_7, uq622_8, uq622_9, uq622_10, yq622_0, yq622_1⟩ := wq622
          dsimp only at uq622_7 uq622_8 uq622_9 uq622_10
          refine ⟨_, gq622, ?_⟩
          show gz gPP gGG gcn _ _ 98 [some (.ref x), some (.int (zi qu)), none] [] hq622 _
          have G623 : gSg [71, 72, 73, 74, 75, 76, 77, 78, 79, 80, 81, 85, 91, 92, 93, 94, 95, 96, 97, 98, 99, 114, 200] [] [50006, 55008, 56000, 56001, 56002, 56003, 64999, 71005, 71006, 71007, 71008, 71009, 71010, 71011, 71012, 71013, 71014, 72999, 73999, 74999, 76999, 77999, 78999, 79999, 80999, 81999, 85999, 91004, 91008, 92004, 92008, 93999, 94999, 95999, 96999, 97999, 98999, 99999, 114999] ty h tyq622 hq622 := gSg.tr (gSg.ss G0 sq590 (by decide)) xq622 (by decide) (by decide) (fun x hx => by cases hx)
          have t624 : tyq622 x = 50 := gSg.typ xq622 sq590.1 tx rfl
          have t625 : tyq622 pic = 54 := gSg.typ xq622 sq590.1 tpic rfl
          have t626 : tyq622 b0 = 82 := gSg.typ xq622 sq590.1 tb0 rfl
          have t627 : tyq622 b1 = 83 := gSg.typ xq622 sq590.1 tb1 rfl
          have t628 : tyq622 b2 = 84 := gSg.typ xq622 sq590.1 tb2 rfl
          have t629 : tyq622 dr = 55 := gSg.typ xq622 sq590.1 tdr rfl
          have t630 : tyq622 sk = 56 := gSg.typ xq622 sq590.1 tsk rfl
          have t631 : tyq622 bt = 114 := gSg.typ xq622 sq590.1 tbt rfl
          have hl632 : hq622.2.2.2.1 bt = hq590.2.2.2.1 bt := gSg.len xq622 sq590.1 tbt rfl
          have t633 : tyq622 cl = 51 := gSg.typ xq622 sq590.1 tcl rfl
          have t634 : tyq622 c15 = 71 := gSg.typ xq622 sq590.1 tc15 rfl
          have t635 : tyq622 c562 = 53 := gSg.typ xq622 sq590.1 tc562 rfl
          have s636 := gSg.at xq622 sq590.1 tx rfl (by decide) s591
          have s637 := gSg.at xq622 sq590.1 tx rfl (by decide) s592
          have s638 := gSg.at xq622 sq590.1 tx rfl (by decide) s593
          have s639 := gSg.at xq622 sq590.1 tx rfl (by decide) s595
          have s640 := gSg.at xq622 sq590.1 tdr rfl (by decide) s596
          have s641 := gSg.at xq622 sq590.1 tdr rfl (by decide) s597
          have s642 := gSg.at xq622 sq590.1 tdr rfl (by decide) s598
          have s643 := gSg.at xq622 sq590.1 tdr rfl (by decide) s599
          have s644 := gSg.at xq622 sq590.1 tcl rfl (by decide) s601
          have s645 := gSg.at xq622 sq590.1 tx rfl (by decide) s602
          have s646 := gSg.at xq622 sq590.1 tx rfl (by decide) s603
          have s647 := gSg.at xq622 sq590.1 tc15 rfl (by decide) efq590_0
          have s648 := gSg.at xq622 sq590.1 tc15 rfl (by decide) ec620
          have pr649 := gStx.gr xq622 (by decide) (fun x hx => by cases hx) pr604
          have pr650 := gPC.gr xq622 sq590.1 (by decide) pr606
          have pr651 := gTc.gr xq622 sq590.1 (by decide) (by decide) pr607
          have pr652 := gRr.gr xq622 sq590.1 (by decide) (by decide) pr608
          have pr653 := gRw.gr xq622 sq590.1 (by decide) (by decide) pr609
          have pr654 := gRn.gr xq622 sq590.1 rfl (by decide) (by decide) pr610
          have pr655 := gRn.gr xq622 sq590.1 rfl (by decide) (by decide) pr611
          have pr656 := gRn.gr xq622 sq590.1 rfl (by decide) (by decide) pr612
          have pr657 := gRn.gr xq622 sq590.1 rfl (by decide) (by decide) pr613
          have pr658 := gRn.gr xq622 sq590.1 rfl (by decide) (by decide) pr614
          have pr659 := gRn.gr xq622 sq590.1 rfl (by decide) (by decide) pr615
          have pr660 := gRn.gr xq622 sq590.1 rfl (by decide) (by decide) pr616
          have pr661 := gRn.gr xq622 sq590.1 rfl (by decide) (by decide) pr617
          have pr662 := gRn.gr xq622 sq590.1 rfl (by decide) (by decide) yq590_0
          have uq663 := gSg.uq xq622 uq (by decide)
          have hyst664 := gSta.gr xq622 (by decide) (fun x hx => by cases hx) (gSta.fr sq590.2 (by decide) hyst)
          have sS665 : gSs rT 1027 tyq622 [50006, 55008, 56000, 56001, 56002, 56003, 64999, 71005, 71006, 71007, 71008, 71009, 71010, 71011, 71012, 71013, 71014, 72999, 73999, 74999, 76999, 77999, 78999, 79999, 80999, 81999, 85999, 91004, 91008, 92004, 92008, 93999, 94999, 95999, 96999, 97999, 98999, 99999, 114999] hq622 hq622 := gSs.rf xq622.1
          have hiw : fq622_3 = i0 := by omega
          obtain ⟨c666, ec666, tc666⟩ := gJ.ref (k := 4) (G := gGG) sS665.1 t629 rfl rfl rfl
          obtain ⟨c667, ec667, tc667⟩ := gJ.ref (k := 5) (G := gGG) sS665.1 t629 rfl rfl rfl
          obtain ⟨tle, tsm⟩ := gTc.fn pr651 pr656 pr657 tc666 tc667 (by omega)
          have hgl0 : gTl S.1.2.2.1 S.1.2.2.2.1 0 = 0 := rfl
          refine gz_s 1 (pc' := 99) (L' := [some (.ref x), some (.int (zi qu)), none]) (S' := [.ref x]) rfl ?_
          refine gs_gtk rfl (by decide) rfl sS665.1 t624 rfl rfl s637 ?_
          refine gs_gtk rfl (by decide) rfl sS665.1 t629 rfl rfl s640 ?_
          by_cases hc668 : ¬ (n0 : Int) = 0
          · refine gy_ifT (pc' := 120) rfl (by decide) (by decide) (by omega) hc668 ?_
            have hk669 : eKk qu i0 dw dh n0 S 0 = eHd (eTb S.1.1 qu) n0 dh dw i0 := eKk_0 (by omega)
            have hk669_1 : (eKk qu i0 dw dh n0 S 0).1 = (eHd (eTb S.1.1 qu) n0 dh dw i0).1 := by rw [hk669]
            have hk669_21 : (eKk qu i0 dw dh n0 S 0).2.1 = (eHd (eTb S.1.1 qu) n0 dh dw i0).2.1 := by rw [hk669]
            have hk669_221 : (eKk qu i0 dw dh n0 S 0).2.2.1 = (eHd (eTb S.1.1 qu) n0 dh dw i0).2.2.1 := by rw [hk669]
            have hsw670 : gSW tyq622 cq622_0 (eKk qu i0 dw dh n0 S 0) hq622 := by rw [hk669]; exact yq622_0
            have hok671 : eeOk (eKk qu i0 dw dh n0 S 0) := by rw [hk669]; exact yq622_1
            have hoc672 := hok671.cur
            refine gz_s 2 (pc' := 122) (L' := [some (.ref x), some (.int (zi qu)), some (.int (zi 0))]) (S' := []) rfl ?_
            have lp673 : ∀ (fu : Nat) (ty675 : Nat → Nat) (h674 : gH) (bv : Nat) (i : Int) (cv : Int) (uv : Int) (hv : Int), (11 - i).toNat < fu → gSg [71, 72, 73, 74, 75, 76, 77, 78, 79, 80, 81, 85, 91, 92, 93, 94, 95, 96, 97, 98, 99, 114, 200] [] [50006, 55008, 56000, 56001, 56002, 56003, 64999, 71005, 71006, 71007, 71008, 71009, 71010, 71011, 71012, 71013, 71014, 72999, 73999, 74999, 76999, 77999, 78999, 79999, 80999, 81999, 85999, 91004, 91008, 92004, 92008, 93999, 94999, 95999, 96999, 97999, 98999, 99999, 114999] ty h ty675 h674 → gUq ty675 → gSta ty675 h674 → ty675 x = 50 → ty675 pic = 54 → ty675 dr = 55 → ty675 sk = 56 → ty675 cl = 51 → ty675 c15 = 71 → ty675 c562 = 53 → ty675 c666 = 60 → ty675 c667 = 61 → h674.2.2.2.2 sk 0 = .ref bv → ty675 bv = 114 → (0 ≤ i ∧ i ≤ 10) → (0 ≤ cv ∧ cv ≤ 499999) → (0 ≤ uv ∧ uv ≤ 127) → (0 ≤ hv ∧ hv ≤ 7) → ((n0 = 0 ∧ 4 * cv + hv ≤ 336000) ∨ 4 * cv + hv ≤ 400 + 7876 * i + 5120 * gTl S.1.2.2.1 S.1.2.2.2.1 i) → (i ≤ n0) → (cv ≤ (h674.2.2.2.1 bv : Int)) → (1024 * (((h674.1 : Int) - h.1) - 21) ≤ (h674.2.2.2.1 bv : Int) - lb) → (((h674.2.1 : Int) - h.2.1) ≤ 4303 + 2 * ((h674.2.2.2.1 bv : Int) - lb)) → (lb ≤ (h674.2.2.2.1 bv : Int)) → (cv = (eKk qu i0 dw dh n0 S i).1) → (uv = (eKk qu i0 dw dh n0 S i).2.1) → (hv = (eKk qu i0 dw dh n0 S i).2.2.1) → h674.2.2.2.2 x 2 = .ref pic → h674.2.2.2.2 x 3 = .ref dr → h674.2.2.2.2 x 4 = .ref sk → h674.2.2.2.2 x 0 = .ref cl → h674.2.2.2.2 dr 8 = .int (zi n0) → h674.2.2.2.2 dr 3 = .int (zi i0) → h674.2.2.2.2 dr 1 = .int (zi dw) → h674.2.2.2.2 dr 2 = .int (zi dh) → h674.2.2.2.2 cl 1 = .int (zi scl) → h674.2.2.2.2 x 6 = .ref c15 → h674.2.2.2.2 x 1 = .ref c562 → h674.2.2.2.2 c15 5 = .int (zi fq590_0) → h674.2.2.2.2 c15 0 = .ref sk → h674.2.2.2.2 c15 6 = .int (zi fq622_3) → h674.2.2.2.2 dr 4 = .ref c666 → h674.2.2.2.2 dr 5 = .ref c667 → h674.2.2.2.2 sk 1 = .int (zi cv) → h674.2.2.2.2 sk 2 = .int (zi uv) → h674.2.2.2.2 sk 3 = .int (zi hv) → gStx ty675 h674 → gPC ty675 pic b0 b1 b2 ld h674 → gTc ty675 n0 h674 → gRr ty675 x h674 → gRn 256 ty675 53 S.1.1 h674 → gRn 1024 ty675 59 S.1.2.1 h674 → gRn 10 ty675 60 S.1.2.2.1 h674 → gRn 10 ty675 61 S.1.2.2.2.1 h674 → gRn 10 ty675 62 S.1.2.2.2.2.1 h674 → gRn 10 ty675 63 S.1.2.2.2.2.2.1 h674 → gRn 64 ty675 64 S.1.2.2.2.2.2.2 h674 → gRn 64 ty675 72 (eTb S.1.1 qu) h674 → gRn (64 * fq590_0).toNat ty675 73 (eCf S.1.2.1 (eTb S.1.1 qu) dw dh (zup dw 8)) h674 → gSW ty675 bv (eKk qu i0 dw dh n0 S i) h674 → eeOk (eKk qu i0 dw dh n0 S i) → gz gPP gGG gcn (d + 8) gt89 122 [some (.ref x), some (.int (zi qu)), some (.int (zi i))] [] h674 (fun q _ => ∃ ty9 : Nat → Nat, gSg [71, 72, 73, 74, 75, 76, 77, 78, 79, 80, 81, 85, 91, 92, 93, 94, 95, 96, 97, 98, 99, 114, 200] [] [50006, 55008, 56000, 56001, 56002, 56003, 64999, 71005, 71006, 71007, 71008, 71009, 71010, 71011, 71012, 71013, 71014, 72999, 73999, 74999, 76999, 77999, 78999, 79999, 80999, 81999, 85999, 91004, 91008, 92004, 92008, 93999, 94999, 95999, 96999, 97999, 98999, 99999, 114999] ty h ty9 q.2.2 ∧ ∃ ld1 lb1 iv1 : Int, 0 ≤ ld1 ∧ ld1 ≤ 192 ∧ 1024 ≤ lb1 ∧ lb1 ≤ 1000000 ∧ 0 ≤ iv1 ∧ iv1 ≤ 54223962112 ∧ (gIx ty9 x ld1 lb1 iv1 (eQ3 qu (iv / 536870912) (iv / 64 % 64) (iv / 4096 % 64) (iv % 64) S) q.2.2) ∧ gUq ty9 ∧ ((∃ z : Int, gfin gt89 q.1 q.2.1 = some (some (.int (zi z))) ∧ (-2147483648) ≤ z ∧ z ≤ 2147483647 ∧ (1 ≤ qu) ∧ (qu ≤ 100) ∧ (1 ≤ iv / 64 % 64) ∧ (iv1 = iv - iv % 64) ∧ (z = (eNn qu (iv / 536870912) (iv / 64 % 64) (iv / 4096 % 64) (iv % 64) S).1) ∧ (1024 * (((q.2.2.1 : Int) - h.1) - 31 - 2 * (ld1 - ld)) ≤ lb1 - lb) ∧ (((q.2.2.2.1 : Int) - h.2.1) ≤ 4303 + 12480 * (ld1 - ld) + 2 * (lb1 - lb)) ∧ (ld ≤ ld1) ∧ (lb ≤ lb1)) ∨ (q.2.1 = [] ∧ ((q.1 = 11 ∧ (¬ (1 ≤ qu ∧ qu ≤ 100))) ∨ (q.1 = 32 ∧ (1 ≤ qu) ∧ (qu ≤ 100) ∧ (iv / 64 % 64 = 0))) ∧ (iv1 = iv) ∧ (1024 * (((q.2.2.1 : Int) - h.1) - 31 - 2 * (ld1 - ld)) ≤ lb1 - lb) ∧ (((q.2.2.2.1 : Int) - h.2.1) ≤ 4303 + 12480 * (ld1 - ld) + 2 * (lb1 - lb)) ∧ (ld ≤ ld1) ∧ (lb ≤ lb1)))) := by
              intro fu
              induction fu with
              | zero => intro ty675 h674 bv i cv uv hv hm; exact absurd hm (Nat.not_lt_zero _)
              | succ fu ihlp673 =>
                intro ty675 h674 bv i cv uv hv lp673m lp673G lp673u lp673t lp673c0 lp673c1 lp673c2 lp673c3 lp673c4 lp673c5 lp673c6 lp673c7 lp673c8 lp673r0 lp673r1 lp673f0 lp673f1 lp673f2 lp673f3 lp673f4 lp673f5 lp673f6 lp673f7 lp673f8 lp673f9 lp673f10 lp673f11 lp673f12 lp673k0 lp673k1 lp673k2 lp673k3 lp673k4 lp673k5 lp673k6 lp673k7 lp673k8 lp673k9 lp673k10 lp673k11 lp673k12 lp673k13 lp673k14 lp673k15 lp673k16 lp673k17 lp673k18 lp673k19 lp673k20 lp673k21 lp673k22 lp673k23 lp673k24 lp673k25 lp673k26 lp673k27 lp673k28 lp673k29 lp673k30 lp673k31 lp673k32 lp673k33
                have sh674 : gSs rT 1027 ty675 [50006, 55008, 56000, 56001, 56002, 56003, 64999, 71005, 71006, 71007, 71008, 71009, 71010, 71011, 71012, 71013, 71014, 72999, 73999, 74999, 76999, 77999, 78999, 79999, 80999, 81999, 85999, 91004, 91008, 92004, 92008, 93999, 94999, 95999, 96999, 97999, 98999, 99999, 114999] h674 h674 := gSs.rf lp673G.1
                refine gz_s 2 (pc' := 124) (L' := [some (.ref x), some (.int (zi qu)), some (.int (zi i))]) (S' := [.ref x, .int (zi i)]) rfl ?_
                refine gs_gtk rfl (by decide) rfl sh674.1 lp673c0 rfl rfl lp673k1 ?_
                refine gs_gtk rfl (by decide) rfl sh674.1 lp673c2 rfl rfl lp673k4 ?_
                by_cases hc676 : (n0 : Int) ≤ i
                · refine gy_icT (pc' := 182) rfl (by decide) (by decide) (by omega) (by omega) hc676 ?_
                  have hgl9 : gTl S.1.2.2.1 S.1.2.2.2.1 i = gTl S.1.2.2.1 S.1.2.2.2.1 n0 := by rw [show i = n0 from Int.le_antisymm (by omega) (by omega)]
                  refine gz_s 1 (pc' := 183) (L' := [some (.ref x), some (.int (zi qu)), some (.int (zi i))]) (S' := [.ref x]) rfl ?_
                  refine gs_gtk rfl (by decide) rfl sh674.1 lp673c0 rfl rfl lp673k9 ?_
                  have hl677 : h674.2.2.2.1 bv = h674.2.2.2.1 bv := congrFun sh674.2.2.2.2.1 bv
                  refine gz_call rfl (by decide) rfl (by decide) (by decide) (gcal_of rfl rfl rfl (Nat.le_of_ble_eq_true rfl) (gJ.recv (G := gGG) sh674.1 lp673c5 rfl rfl)) (cw_putEnd _ sh674.1 c15 lp673c5 sk lp673k12 lp673c3 bv lp673r0 lp673r1 cv lp673k16 ⟨by omega, by omega⟩ (eKk qu i0 dw dh n0 S i) (by omega) (by omega) lp673u lp673k32 lp673k33) (fun q678 _ wq678 => ?_)
                  obtain ⟨pq678, oq678, hq678⟩ := q678
                  obtain ⟨tyq678, xq678, cq678_0, ttq678, fq678_0, ecq678_0, tcq678_0, gq678, efq678_0, afq678_0, bfq678_0, uq678_0, uq678_1, uq678_2, uq678_3, uq678_4, uq678_5, uq678_6, uq678_7, yq678_0, yq678_1⟩ := wq678
                  dsimp only at uq678_4 uq678_5 uq678_6 uq678_7
                  refine ⟨_, gq678, ?_⟩
                  show gz gPP gGG gcn _ _ 189 [some (.ref x), some (.int (zi qu)), some (.int (zi i))] [] hq678 _
                  have G679 : gSg [71, 72, 73, 74, 75, 76, 77, 78, 79, 80, 81, 85, 91, 92, 93, 94, 95, 96, 97, 98, 99, 114, 200] [] [50006, 55008, 56000, 56001, 56002, 56003, 64999, 71005, 71006, 71007, 71008, 71009, 71010, 71011, 71012, 71013, 71014, 72999, 73999, 74999, 76999, 77999, 78999, 79999, 80999, 81999, 85999, 91004, 91008, 92004, 92008, 93999, 94999, 95999, 96999, 97999, 98999, 99999, 114999] ty h tyq678 hq678 := gSg.tr (gSg.ss lp673G sh674 (by decide)) xq678 (by decide) (by decide) (fun x hx => by cases hx)
                  have t680 : tyq678 x = 50 := gSg.typ xq678 sh674.1 lp673c0 rfl
                  have t681 : tyq678 pic = 54 := gSg.typ xq678 sh674.1 lp673c1 rfl
                  have t682 : tyq678 dr = 55 := gSg.typ xq678 sh674.1 lp673c2 rfl
                  have t683 : tyq678 sk = 56 := gSg.typ xq678 sh674.1 lp673c3 rfl
                  have t684 : tyq678 cl = 51 := gSg.typ xq678 sh674.1 lp673c4 rfl
                  have t685 : tyq678 c15 = 71 := gSg.typ xq678 sh674.1 lp673c5 rfl
                  have t686 : tyq678 c562 = 53 := gSg.typ xq678 sh674.1 lp673c6 rfl
                  have t687 : tyq678 c666 = 60 := gSg.typ xq678 sh674.1 lp673c7 rfl
                  have t688 : tyq678 c667 = 61 := gSg.typ xq678 sh674.1 lp673c8 rfl
                  have t689 : tyq678 bv = 114 := gSg.typ xq678 sh674.1 lp673r1 rfl
                  have hl690 : hq678.2.2.2.1 bv = h674.2.2.2.1 bv := gSg.len xq678 sh674.1 lp673r1 rfl
                  have s691 := gSg.at xq678 sh674.1 lp673c0 rfl (by decide) lp673k0
                  have s692 := gSg.at xq678 sh674.1 lp673c0 rfl (by decide) lp673k1
                  have s693 := gSg.at xq678 sh674.1 lp673c0 rfl (by decide) lp673k2
                  have s694 := gSg.at xq678 sh674.1 lp673c0 rfl (by decide) lp673k3
                  have s695 := gSg.at xq678 sh674.1 lp673c2 rfl (by decide) lp673k4
                  have s696 := gSg.at xq678 sh674.1 lp673c2 rfl (by decide) lp673k5
                  have s697 := gSg.at xq678 sh674.1 lp673c2 rfl (by decide) lp673k6
                  have s698 := gSg.at xq678 sh674.1 lp673c2 rfl (by decide) lp673k7
                  have s699 := gSg.at xq678 sh674.1 lp673c4 rfl (by decide) lp673k8
                  have s700 := gSg.at xq678 sh674.1 lp673c0 rfl (by decide) lp673k9
                  have s701 := gSg.at xq678 sh674.1 lp673c0 rfl (by decide) lp673k10
                  have s702 := gSg.at xq678 sh674.1 lp673c5 rfl (by decide) lp673k11
                  have s703 := gSg.at xq678 sh674.1 lp673c5 rfl (by decide) lp673k12
                  have s704 := gSg.at xq678 sh674.1 lp673c5 rfl (by decide) lp673k13
                  have s705 := gSg.at xq678 sh674.1 lp673c2 rfl (by decide) lp673k14
                  have s706 := gSg.at xq678 sh674.1 lp673c2 rfl (by decide) lp673k15
                  have s707 := gSg.at xq678 sh674.1 lp673c3 rfl (by decide) lp673k17
                  have s708 := gSg.at xq678 sh674.1 lp673c3 rfl (by decide) lp673k18
                  have pr709 := gStx.gr xq678 (by decide) (fun x hx => by cases hx) lp673k19
                  have pr710 := gPC.gr xq678 sh674.1 (by decide) lp673k20
                  have pr711 := gTc.gr xq678 sh674.1 (by decide) (by decide) lp673k21
                  have pr712 := gRr.gr xq678 sh674.1 (by decide) (by decide) lp673k22
                  have pr713 := gRn.gr xq678 sh674.1 rfl (by decide) (by decide) lp673k23
                  have pr714 := gRn.gr xq678 sh674.1 rfl (by decide) (by decide) lp673k24
                  have pr715 := gRn.gr xq678 sh674.1 rfl (by decide) (by decide) lp673k25
                  have pr716 := gRn.gr xq678 sh674.1 rfl (by decide) (by decide) lp673k26
                  have pr717 := gRn.gr xq678 sh674.1 rfl (by decide) (by decide) lp673k27
                  have pr718 := gRn.gr xq678 sh674.1 rfl (by decide) (by decide) lp673k28
                  have pr719 := gRn.gr xq678 sh674.1 rfl (by decide) (by decide) lp673k29
                  have pr720 := gRn.gr xq678 sh674.1 rfl (by decide) (by decide) lp673k30
                  have pr721 := gRn.gr xq678 sh674.1 rfl (by decide) (by decide) lp673k31
                  have uq722 := gSg.uq xq678 lp673u (by decide)
                  have hyst723 := gSta.gr xq678 (by decide) (fun x hx => by cases hx) (gSta.fr sh674.2 (by decide) lp673t)
                  have sS724 : gSs rT 1027 tyq678 [50006, 55008, 56000, 56001, 56002, 56003, 64999, 71005, 71006, 71007, 71008, 71009, 71010, 71011, 71012, 71013, 71014, 72999, 73999, 74999, 76999, 77999, 78999, 79999, 80999, 81999, 85999, 91004, 91008, 92004, 92008, 93999, 94999, 95999, 96999, 97999, 98999, 99999, 114999] hq678 hq678 := gSs.rf xq678.1
                  have hk725 : eNn qu i0 dw dh n0 S = eeM (eKk qu i0 dw dh n0 S i) 217 := eKk_e (by omega)
                  have hk725_1 : (eNn qu i0 dw dh n0 S).1 = (eeM (eKk qu i0 dw dh n0 S i) 217).1 := by rw [hk725]
                  have hk725_21 : (eNn qu i0 dw dh n0 S).2.1 = (eeM (eKk qu i0 dw dh n0 S i) 217).2.1 := by rw [hk725]
                  have hk725_221 : (eNn qu i0 dw dh n0 S).2.2.1 = (eeM (eKk qu i0 dw dh n0 S i) 217).2.2.1 := by rw [hk725]
                  have hsw726 : gSW tyq678 cq678_0 (eNn qu i0 dw dh n0 S) hq678 := by rw [hk725]; exact yq678_0
                  have hok727 : eeOk (eNn qu i0 dw dh n0 S) := by rw [hk725]; exact yq678_1
                  have hoc728 := hok727.cur
                  have hcd9 := hcd
                  refine gz_s 1 (pc' := 190) (L' := [some (.ref x), some (.int (zi qu)), some (.int (zi i))]) (S' := [.ref x]) rfl ?_
                  refine gs_gtk rfl (by decide) rfl sS724.1 t680 rfl rfl s692 ?_
                  refine gz_call rfl (by decide) rfl (by decide) (by decide) (gcal_of rfl rfl rfl (Nat.le_of_ble_eq_true rfl) (gJ.recv (G := gGG) sS724.1 t682 rfl rfl)) (cl_Draft_forgetScans _ sS724.1 dr t682 uq722) (fun q729 _ wq729 => ?_)
                  obtain ⟨pq729, oq729, hq729⟩ := q729
                  obtain ⟨xq729, fq729_0, gq729, efq729_0, afq729_0, bfq729_0, uq729_0, yq729_0, yq729_1⟩ := wq729
                  refine ⟨_, gq729, ?_⟩
                  show gz gPP gGG gcn _ _ 196 [some (.ref x), some (.int (zi qu)), some (.int (zi i))] [] hq729 _
                  have sq729 : gSs rT 1027 tyq678 [50006, 55008, 56000, 56001, 56002, 56003, 64999, 71005, 71006, 71007, 71008, 71009, 71010, 71011, 71012, 71013, 71014, 72999, 73999, 74999, 76999, 77999, 78999, 79999, 80999, 81999, 85999, 91004, 91008, 92004, 92008, 93999, 94999, 95999, 96999, 97999, 98999, 99999, 114999] hq678 hq729 := gSs.tr sS724 xq729 (by decide)
                  have s730 := (xq729.2.2.2.2.2 x 2 (by rw [t680]; decide)).trans s691
                  have s731 := (xq729.2.2.2.2.2 x 3 (by rw [t680]; decide)).trans s692
                  have s732 := (xq729.2.2.2.2.2 x 4 (by rw [t680]; decide)).trans s693
                  have s733 := (xq729.2.2.2.2.2 x 0 (by rw [t680]; decide)).trans s694
                  have s734 := (xq729.2.2.2.2.2 dr 3 (by rw [t682]; decide)).trans s696
                  have s735 := (xq729.2.2.2.2.2 dr 1 (by rw [t682]; decide)).trans s697
                  have s736 := (xq729.2.2.2.2.2 dr 2 (by rw [t682]; decide)).trans s698
                  have s737 := (xq729.2.2.2.2.2 cl 1 (by rw [t684]; decide)).trans s699
                  have s738 := (xq729.2.2.2.2.2 x 6 (by rw [t680]; decide)).trans s700
                  have s739 := (xq729.2.2.2.2.2 x 1 (by rw [t680]; decide)).trans s701
                  have s740 := (xq729.2.2.2.2.2 c15 5 (by rw [t685]; decide)).trans s702
                  have s741 := (xq729.2.2.2.2.2 c15 0 (by rw [t685]; decide)).trans s703
                  have s742 := (xq729.2.2.2.2.2 c15 6 (by rw [t685]; decide)).trans s704
                  have s743 := (xq729.2.2.2.2.2 dr 4 (by rw [t682]; decide)).trans s705
                  have s744 := (xq729.2.2.2.2.2 dr 5 (by rw [t682]; decide)).trans s706
                  have s745 := (xq729.2.2.2.2.2 sk 2 (by rw [t683]; decide)).trans s707
                  have s746 := (xq729.2.2.2.2.2 sk 3 (by rw [t683]; decide)).trans s708
                  have s747 := (xq729.2.2.2.2.2 sk 0 (by rw [t683]; decide)).trans ecq678_0
                  have s748 := (xq729.2.2.2.2.2 sk 1 (by rw [t683]; decide)).trans efq678_0
                  have pr749 := gStx.fr xq729.2 (by decide) pr709
                  have pr750 := gPC.fr xq729.2 (by decide) pr710
                  have pr751 := gRr.fr xq729.2 (by decide) pr712
                  have pr752 := gRn.fr xq729.2 (by decide) pr713
                  have pr753 := gRn.fr xq729.2 (by decide) pr714
                  have pr754 := gRn.fr xq729.2 (by decide) pr715
                  have pr755 := gRn.fr xq729.2 (by decide) pr716
                  have pr756 := gRn.fr xq729.2 (by decide) pr717
                  have pr757 := gRn.fr xq729.2 (by decide) pr718
                  have pr758 := gRn.fr xq729.2 (by decide) pr720
                  have pr759 := gRn.fr xq729.2 (by decide) pr721
                  have pr760 := gSW.fr xq729.2 (by decide) hsw726
                  refine gz_s 1 (pc' := 197) (L' := [some (.ref x), some (.int (zi qu)), some (.int (zi i))]) (S' := [.ref x]) rfl ?_
                  refine gs_gtk rfl (by decide) rfl sq729.1 t680 rfl rfl s732 ?_
                  refine gs_gtk rfl (by decide) rfl sq729.1 t683 rfl rfl s748 ?_
                  have k761 := sq729.2.1
                  have k761b := sq729.2.2.1
                  have hl762 : hq729.2.2.2.1 bv = hq678.2.2.2.1 bv := congrFun sq729.2.2.2.2.1 bv
                  have hl763 : hq729.2.2.2.1 cq678_0 = hq678.2.2.2.1 cq678_0 := congrFun sq729.2.2.2.2.1 cq678_0
                  have hl764 : 1024 ≤ hq729.2.2.2.1 bv ∧ hq729.2.2.2.1 bv ≤ 1000000 := gJ.rowl (G := gGG) sq729.1 t689 rfl
                  have hl765 : 1024 ≤ hq729.2.2.2.1 cq678_0 ∧ hq729.2.2.2.1 cq678_0 ≤ 1000000 := gJ.rowl (G := gGG) sq729.1 tcq678_0 rfl
                  have hxr766 : gXr tyq678 (eS3 S (eNn qu i0 dw dh n0 S)) hq729 := ⟨pr752, pr753, pr754, pr755, pr756, pr757, gOy.Rn (by decide) yq729_1⟩
                  have hnv : (eNn qu (iv / 536870912) (iv / 64 % 64) (iv / 4096 % 64) (iv % 64) S).1 = (eNn qu i0 dw dh n0 S).1 := by rw [hdi, hdw, hdh, hdn]
                  have k767 := sq729.2.1
                  have k767b := sq729.2.2.1
                  have hl768 : hq729.2.2.2.1 bv = hq678.2.2.2.1 bv := congrFun sq729.2.2.2.2.1 bv
                  have hl769 : hq729.2.2.2.1 cq678_0 = hq678.2.2.2.1 cq678_0 := congrFun sq729.2.2.2.2.1 cq678_0
                  have hix770 : gIx tyq678 x ld (hq729.2.2.2.1 cq678_0 : Int) (64 * dw + fq729_0 + 4096 * dh + 262144 * scl + 536870912 * i0) (eS3 S (eNn qu i0 dw dh n0 S)) hq729 := ⟨pic, b0, b1, b2, dr, sk, cq678_0, cl, fq729_0, fq678_0, i0, dw, dh, scl, ⟨t680, t682, t683, tcq678_0⟩, ⟨s730, s731, s732, s747⟩, pr750, (by rw [(by omega : fq729_0 = 0)]; exact yq729_0), ⟨efq729_0, by omega, by omega⟩, ⟨s734, by omega, by omega⟩, ⟨s748, by omega, by omega⟩, ⟨by omega, by omega⟩, pr751, ⟨t680, Or.inr ⟨c15, s738, t685⟩⟩, ⟨s735, by omega, by omega⟩, ⟨s736, by omega, by omega⟩, by omega, rfl, hxr766, ⟨pr760, (show _ = ((eNn qu i0 dw dh n0 S)).1 by omega)⟩, (by rw [(by omega : fq729_0 = 0)]; exact eTz.zero), t684, s733, ⟨s737, by omega, by omega⟩⟩
                  have hix771 : gIx tyq678 x ld (hq729.2.2.2.1 cq678_0 : Int) (64 * dw + fq729_0 + 4096 * dh + 262144 * scl + 536870912 * i0) (eQ3 qu (iv / 536870912) (iv / 64 % 64) (iv / 4096 % 64) (iv % 64) S) hq729 := by rw [hdi, hdw, hdh, hdn, eQ3_y hok]; exact hix770
                  have G772 : gSg [71, 72, 73, 74, 75, 76, 77, 78, 79, 80, 81, 85, 91, 92, 93, 94, 95, 96, 97, 98, 99, 114, 200] [] [50006, 55008, 56000, 56001, 56002, 56003, 64999, 71005, 71006, 71007, 71008, 71009, 71010, 71011, 71012, 71013, 71014, 72999, 73999, 74999, 76999, 77999, 78999, 79999, 80999, 81999, 85999, 91004, 91008, 92004, 92008, 93999, 94999, 95999, 96999, 97999, 98999, 99999, 114999] ty h tyq678 hq729 := gSg.ss G679 sq729 (by decide)
                  exact gz_end (I := .ireturn) (len := 1) rfl (Or.inl rfl) ⟨tyq678, G772, ld, (hq729.2.2.2.1 cq678_0 : Int), (64 * dw + fq729_0 + 4096 * dh + 262144 * scl + 536870912 * i0), (by omega), (by omega), (by omega), (by omega), (by omega), (by omega), hix771, uq722, Or.inl ⟨fq678_0, rfl, (by omega), (by omega), (by omega), (by omega), (by omega), (by omega), (by omega), (by dsimp only; omega), (by dsimp only; omega), (by omega), (by omega)⟩⟩
                · refine gy_icF rfl (by decide) (by decide) (by omega) (by omega) hc676 ?_
                  refine gz_s 1 (pc' := 134) (L' := [some (.ref x), some (.int (zi qu)), some (.int (zi i))]) (S' := [.ref x]) rfl ?_
                  refine gs_gtk rfl (by decide) rfl sh674.1 lp673c0 rfl rfl lp673k9 ?_
                  refine gz_s 1 (pc' := 138) (L' := [some (.ref x), some (.int (zi qu)), some (.int (zi i))]) (S' := [.ref x, .ref c15]) rfl ?_
                  refine gs_gtk rfl (by decide) rfl sh674.1 lp673c0 rfl rfl lp673k1 ?_
                  refine gs_gtk rfl (by decide) rfl sh674.1 lp673c2 rfl rfl lp673k14 ?_
                  refine gz_s 1 (pc' := 145) (L' := [some (.ref x), some (.int (zi qu)), some (.int (zi i))]) (S' := [.int (zi i), .ref c666, .ref c15]) rfl ?_
                  have hl773 : 10 ≤ h674.2.2.2.1 c666 ∧ h674.2.2.2.1 c666 ≤ 10 := gJ.rowl (G := gGG) sh674.1 lp673c7 rfl
                  refine gs_ald rfl (by decide) sh674.1 lp673c7 rfl rfl rfl (by decide) (fun _ => rfl) (by omega) (by omega) (fun z774 ez774 az774 bz774 => ?_)
                  have hf775 := gRn.at (i := i) (z := z774) lp673k25 lp673c7 ez774 (by omega) (by omega) (by omega)
                  refine gz_s 1 (pc' := 147) (L' := [some (.ref x), some (.int (zi qu)), some (.int (zi i))]) (S' := [.ref x, .int (zi z774), .ref c15]) rfl ?_
                  refine gs_gtk rfl (by decide) rfl sh674.1 lp673c0 rfl rfl lp673k1 ?_
                  refine gs_gtk rfl (by decide) rfl sh674.1 lp673c2 rfl rfl lp673k15 ?_
                  refine gz_s 1 (pc' := 154) (L' := [some (.ref x), some (.int (zi qu)), some (.int (zi i))]) (S' := [.int (zi i), .ref c667, .int (zi z774), .ref c15]) rfl ?_
                  have hl776 : 10 ≤ h674.2.2.2.1 c667 ∧ h674.2.2.2.1 c667 ≤ 10 := gJ.rowl (G := gGG) sh674.1 lp673c8 rfl
                  refine gs_ald rfl (by decide) sh674.1 lp673c8 rfl rfl rfl (by decide) (fun _ => rfl) (by omega) (by omega) (fun z777 ez777 az777 bz777 => ?_)
                  have hf778 := gRn.at (i := i) (z := z777) lp673k26 lp673c8 ez777 (by omega) (by omega) (by omega)
                  refine gz_s 1 (pc' := 156) (L' := [some (.ref x), some (.int (zi qu)), some (.int (zi i))]) (S' := [.ref x, .int (zi z777), .int (zi z774), .ref c15]) rfl ?_
                  refine gs_gtk rfl (by decide) rfl sh674.1 lp673c0 rfl rfl lp673k1 ?_
                  refine gs_gtr rfl (by decide) rfl sh674.1 lp673c2 rfl rfl rfl (fun c779 ec779 tc779 => ?_)
                  refine gz_s 1 (pc' := 163) (L' := [some (.ref x), some (.int (zi qu)), some (.int (zi i))]) (S' := [.int (zi i), .ref c779, .int (zi z777), .int (zi z774), .ref c15]) rfl ?_
                  have hl780 : 10 ≤ h674.2.2.2.1 c779 ∧ h674.2.2.2.1 c779 ≤ 10 := gJ.rowl (G := gGG) sh674.1 tc779 rfl
                  refine gs_ald rfl (by decide) sh674.1 tc779 rfl rfl rfl (by decide) (fun _ => rfl) (by omega) (by omega) (fun z781 ez781 az781 bz781 => ?_)
                  have hf782 := gRn.at (i := i) (z := z781) lp673k27 tc779 ez781 (by omega) (by omega) (by omega)
                  refine gz_s 1 (pc' := 165) (L' := [some (.ref x), some (.int (zi qu)), some (.int (zi i))]) (S' := [.ref x, .int (zi z781), .int (zi z777), .int (zi z774), .ref c15]) rfl ?_
                  refine gs_gtk rfl (by decide) rfl sh674.1 lp673c0 rfl rfl lp673k1 ?_
                  refine gs_gtr rfl (by decide) rfl sh674.1 lp673c2 rfl rfl rfl (fun c783 ec783 tc783 => ?_)
                  refine gz_s 1 (pc' := 172) (L' := [some (.ref x), some (.int (zi qu)), some (.int (zi i))]) (S' := [.int (zi i), .ref c783, .int (zi z781), .int (zi z777), .int (zi z774), .ref c15]) rfl ?_
                  have hl784 : 10 ≤ h674.2.2.2.1 c783 ∧ h674.2.2.2.1 c783 ≤ 10 := gJ.rowl (G := gGG) sh674.1 tc783 rfl
                  refine gs_ald rfl (by decide) sh674.1 tc783 rfl rfl rfl (by decide) (fun _ => rfl) (by omega) (by omega) (fun z785 ez785 az785 bz785 => ?_)
                  have hf786 := gRn.at (i := i) (z := z785) lp673k28 tc783 ez785 (by omega) (by omega) (by omega)
                  have htl := tle (i).toNat (by omega)
                  rw [hf775, hf778] at htl
                  have hst := gTl_st (f := S.1.2.2.1) (t := S.1.2.2.2.1) (k := i) (a := z774) (b := z777) (by omega) hf775 hf778
                  have hle := gTl_le (f := S.1.2.2.1) (t := S.1.2.2.2.1) (k := i + 1) (n := n0) tle (by omega)
                  have htz4 := htz (i).toNat (by omega)
                  rw [hf775, hf778] at htz4
                  have hl787 : h674.2.2.2.1 bv = h674.2.2.2.1 bv := congrFun sh674.2.2.2.2.1 bv
                  refine gz_call rfl (by decide) rfl (by decide) (by decide) (gcal_of rfl rfl rfl (Nat.le_of_ble_eq_true rfl) (gJ.recv (G := gGG) sh674.1 lp673c5 rfl rfl)) (cw_putScan _ sh674.1 c15 lp673c5 z774 ⟨by omega, by omega⟩ z777 ⟨by omega, by omega⟩ z781 ⟨by omega, by omega⟩ z785 ⟨by omega, by omega⟩ sk lp673k12 lp673c3 bv lp673r0 lp673r1 cv lp673k16 ⟨by omega, by omega⟩ uv lp673k17 ⟨by omega, by omega⟩ hv lp673k18 ⟨by omega, by omega⟩ fq590_0 lp673k11 ⟨by omega, by omega⟩ fq622_3 lp673k13 ⟨by omega, by omega⟩ (eCf S.1.2.1 (eTb S.1.1 qu) dw dh (zup dw 8)) (eKk qu i0 dw dh n0 S i) (by omega) (by omega) (by omega) (by omega) (by omega) (by omega) (by omega) lp673u lp673k32 lp673k33 lp673k31) (fun q788 _ wq788 => ?_)
                  obtain ⟨pq788, oq788, hq788⟩ := q788
                  obtain ⟨tyq788, xq788, cq788_0, ttq788, fq788_0, fq788_1, fq788_2, ecq788_0, tcq788_0, gq788, efq788_0, afq788_0, bfq788_0, efq788_1, afq788_1, bfq788_1, efq788_2, afq788_2, bfq788_2, uq788_0, uq788_1, uq788_2, uq788_3, uq788_4, uq788_5, uq788_6, uq788_7, uq788_8, yq788_0, yq788_1⟩ := wq788
                  dsimp only at uq788_5 uq788_6 uq788_7 uq788_8
                  refine ⟨_, gq788, ?_⟩
                  show gz gPP gGG gcn _ _ 176 [some (.ref x), some (.int (zi qu)), some (.int (zi i))] [] hq788 _
                  have G789 : gSg [71, 72, 73, 74, 75, 76, 77, 78, 79, 80, 81, 85, 91, 92, 93, 94, 95, 96, 97, 98, 99, 114, 200] [] [50006, 55008, 56000, 56001, 56002, 56003, 64999, 71005, 71006, 71007, 71008, 71009, 71010, 71011, 71012, 71013, 71014, 72999, 73999, 74999, 76999, 77999, 78999, 79999, 80999, 81999, 85999, 91004, 91008, 92004, 92008, 93999, 94999, 95999, 96999, 97999, 98999, 99999, 114999] ty h tyq788 hq788 := gSg.tr (gSg.ss lp673G sh674 (by decide)) xq788 (by decide) (by decide) (fun x hx => by cases hx)
                  have t790 : tyq788 x = 50 := gSg.typ xq788 sh674.1 lp673c0 rfl
                  have t791 : tyq788 pic = 54 := gSg.typ xq788 sh674.1 lp673c1 rfl
                  have t792 : tyq788 dr = 55 := gSg.typ xq788 sh674.1 lp673c2 rfl
                  have t793 : tyq788 sk = 56 := gSg.typ xq788 sh674.1 lp673c3 rfl
                  have t794 : tyq788 cl = 51 := gSg.typ xq788 sh674.1 lp673c4 rfl
                  have t795 : tyq788 c15 = 71 := gSg.typ xq788 sh674.1 lp673c5 rfl
                  have t796 : tyq788 c562 = 53 := gSg.typ xq788 sh674.1 lp673c6 rfl
                  have t797 : tyq788 c666 = 60 := gSg.typ xq788 sh674.1 lp673c7 rfl
                  have t798 : tyq788 c667 = 61 := gSg.typ xq788 sh674.1 lp673c8 rfl
                  have t799 : tyq788 bv = 114 := gSg.typ xq788 sh674.1 lp673r1 rfl
                  have hl800 : hq788.2.2.2.1 bv = h674.2.2.2.1 bv := gSg.len xq788 sh674.1 lp673r1 rfl
                  have t801 : tyq788 c779 = 62 := gSg.typ xq788 sh674.1 tc779 rfl
                  have t802 : tyq788 c783 = 63 := gSg.typ xq788 sh674.1 tc783 rfl
                  have s803 := gSg.at xq788 sh674.1 lp673c0 rfl (by decide) lp673k0
                  have s804 := gSg.at xq788 sh674.1 lp673c0 rfl (by decide) lp673k1
                  have s805 := gSg.at xq788 sh674.1 lp673c0 rfl (by decide) lp673k2
                  have s806 := gSg.at xq788 sh674.1 lp673c0 rfl (by decide) lp673k3
                  have s807 := gSg.at xq788 sh674.1 lp673c2 rfl (by decide) lp673k4
                  have s808 := gSg.at xq788 sh674.1 lp673c2 rfl (by decide) lp673k5
                  have s809 := gSg.at xq788 sh674.1 lp673c2 rfl (by decide) lp673k6
                  have s810 := gSg.at xq788 sh674.1 lp673c2 rfl (by decide) lp673k7
                  have s811 := gSg.at xq788 sh674.1 lp673c4 rfl (by decide) lp673k8
                  have s812 := gSg.at xq788 sh674.1 lp673c0 rfl (by decide) lp673k9
                  have s813 := gSg.at xq788 sh674.1 lp673c0 rfl (by decide) lp673k10
                  have s814 := gSg.at xq788 sh674.1 lp673c5 rfl (by decide) lp673k11
                  have s815 := gSg.at xq788 sh674.1 lp673c5 rfl (by decide) lp673k12
                  have s816 := gSg.at xq788 sh674.1 lp673c5 rfl (by decide) lp673k13
                  have s817 := gSg.at xq788 sh674.1 lp673c2 rfl (by decide) lp673k14
                  have s818 := gSg.at xq788 sh674.1 lp673c2 rfl (by decide) lp673k15
                  have s819 := gSg.at xq788 sh674.1 lp673c2 rfl (by decide) ec779
                  have s820 := gSg.at xq788 sh674.1 lp673c2 rfl (by decide) ec783
                  have pr821 := gStx.gr xq788 (by decide) (fun x hx => by cases hx) lp673k19
                  have pr822 := gPC.gr xq788 sh674.1 (by decide) lp673k20
                  have pr823 := gTc.gr xq788 sh674.1 (by decide) (by decide) lp673k21
                  have pr824 := gRr.gr xq788 sh674.1 (by decide) (by decide) lp673k22
                  have pr825 := gRn.gr xq788 sh674.1 rfl (by decide) (by decide) lp673k23
                  have pr826 := gRn.gr xq788 sh674.1 rfl (by decide) (by decide) lp673k24
                  have pr827 := gRn.gr xq788 sh674.1 rfl (by decide) (by decide) lp673k25
                  have pr828 := gRn.gr xq788 sh674.1 rfl (by decide) (by decide) lp673k26
                  have pr829 := gRn.gr xq788 sh674.1 rfl (by decide) (by decide) lp673k27
                  have pr830 := gRn.gr xq788 sh674.1 rfl (by decide) (by decide) lp673k28
                  have pr831 := gRn.gr xq788 sh674.1 rfl (by decide) (by decide) lp673k29
                  have pr832 := gRn.gr xq788 sh674.1 rfl (by decide) (by decide) lp673k30
                  have pr833 := gRn.gr xq788 sh674.1 rfl (by decide) (by decide) lp673k31
                  have uq834 := gSg.uq xq788 lp673u (by decide)
                  have hyst835 := gSta.gr xq788 (by decide) (fun x hx => by cases hx) (gSta.fr sh674.2 (by decide) lp673t)
                  have sS836 : gSs rT 1027 tyq788 [50006, 55008, 56000, 56001, 56002, 56003, 64999, 71005, 71006, 71007, 71008, 71009, 71010, 71011, 71012, 71013, 71014, 72999, 73999, 74999, 76999, 77999, 78999, 79999, 80999, 81999, 85999, 91004, 91008, 92004, 92008, 93999, 94999, 95999, 96999, 97999, 98999, 99999, 114999] hq788 hq788 := gSs.rf xq788.1
                  have hk837 : eKk qu i0 dw dh n0 S (i + 1) = eSc fq622_3 z774 z777 z781 z785 (eCf S.1.2.1 (eTb S.1.1 qu) dw dh (zup dw 8)) (fq590_0).toNat (eKk qu i0 dw dh n0 S i) := by rw [hmn, hiw]; exact eKk_s (by omega) (by omega) hf775 hf778 hf782 hf786
                  have hk837_1 : (eKk qu i0 dw dh n0 S (i + 1)).1 = (eSc fq622_3 z774 z777 z781 z785 (eCf S.1.2.1 (eTb S.1.1 qu) dw dh (zup dw 8)) (fq590_0).toNat (eKk qu i0 dw dh n0 S i)).1 := by rw [hk837]
                  have hk837_21 : (eKk qu i0 dw dh n0 S (i + 1)).2.1 = (eSc fq622_3 z774 z777 z781 z785 (eCf S.1.2.1 (eTb S.1.1 qu) dw dh (zup dw 8)) (fq590_0).toNat (eKk qu i0 dw dh n0 S i)).2.1 := by rw [hk837]
                  have hk837_221 : (eKk qu i0 dw dh n0 S (i + 1)).2.2.1 = (eSc fq622_3 z774 z777 z781 z785 (eCf S.1.2.1 (eTb S.1.1 qu) dw dh (zup dw 8)) (fq590_0).toNat (eKk qu i0 dw dh n0 S i)).2.2.1 := by rw [hk837]
                  have hsw838 : gSW tyq788 cq788_0 (eKk qu i0 dw dh n0 S (i + 1)) hq788 := by rw [hk837]; exact yq788_0
                  have hok839 : eeOk (eKk qu i0 dw dh n0 S (i + 1)) := by rw [hk837]; exact yq788_1
                  have hoc840 := hok839.cur
                  refine gy_s 2 (pc' := 122) (L' := [some (.ref x), some (.int (zi qu)), some (.int ((zi i) + zi 1))]) (S' := []) (L2 := [some (.ref x), some (.int (zi qu)), some (.int (zi (i + 1)))]) (S2 := []) rfl (by simp only [zi_add, zi_sub, zi_mul, zi_neg, zi_and1, zi_and7, zi_and15, zi_and31, zi_and255]) (by simp only [zi_add, zi_sub, zi_mul, zi_neg, zi_and1, zi_and7, zi_and15, zi_and31, zi_and255]) ?_
                  have hl841 : 1024 ≤ hq788.2.2.2.1 bv ∧ hq788.2.2.2.1 bv ≤ 1000000 := gJ.rowl (G := gGG) sS836.1 t799 rfl
                  have hl842 : 1024 ≤ hq788.2.2.2.1 cq788_0 ∧ hq788.2.2.2.1 cq788_0 ≤ 1000000 := gJ.rowl (G := gGG) sS836.1 tcq788_0 rfl
                  have G843 : gSg [71, 72, 73, 74, 75, 76, 77, 78, 79, 80, 81, 85, 91, 92, 93, 94, 95, 96, 97, 98, 99, 114, 200] [] [50006, 55008, 56000, 56001, 56002, 56003, 64999, 71005, 71006, 71007, 71008, 71009, 71010, 71011, 71012, 71013, 71014, 72999, 73999, 74999, 76999, 77999, 78999, 79999, 80999, 81999, 85999, 91004, 91008, 92004, 92008, 93999, 94999, 95999, 96999, 97999, 98999, 99999, 114999] ty h tyq788 hq788 := gSg.ss G789 sS836 (by decide)
                  exact gz_wk (ihlp673 tyq788 hq788 cq788_0 (i + 1) fq788_0 fq788_1 fq788_2 (gms lp673m (by omega) (by omega)) G843 uq834 (gSta.fr sS836.2 (by decide) hyst835) t790 t791 t792 t793 t794 t795 t796 t797 t798 ecq788_0 tcq788_0 ⟨by omega, by omega⟩ ⟨by omega, by omega⟩ ⟨by omega, by omega⟩ ⟨by omega, by omega⟩ (by omega) (by omega) (by omega) (by omega) (by omega) (by omega) (by omega) (by omega) (by omega) s803 s804 s805 s806 s807 s808 s809 s810 s811 s812 s813 s814 s815 s816 s817 s818 efq788_0 efq788_1 efq788_2 pr821 pr822 pr823 pr824 pr825 pr826 pr827 pr828 pr829 pr830 pr831 pr832 pr833 hsw838 hok839) (gLw.s (gLw.s (gLw.s gLw.z)))
            have hl844 : 1024 ≤ hq622.2.2.2.1 bt ∧ hq622.2.2.2.1 bt ≤ 1000000 := gJ.rowl (G := gGG) sS665.1 t631 rfl
            have hl845 : 1024 ≤ hq622.2.2.2.1 cq622_0 ∧ hq622.2.2.2.1 cq622_0 ≤ 1000000 := gJ.rowl (G := gGG) sS665.1 tcq622_0 rfl
            have G846 : gSg [71, 72, 73, 74, 75, 76, 77, 78, 79, 80, 81, 85, 91, 92, 93, 94, 95, 96, 97, 98, 99, 114, 200] [] [50006, 55008, 56000, 56001, 56002, 56003, 64999, 71005, 71006, 71007, 71008, 71009, 71010, 71011, 71012, 71013, 71014, 72999, 73999, 74999, 76999, 77999, 78999, 79999, 80999, 81999, 85999, 91004, 91008, 92004, 92008, 93999, 94999, 95999, 96999, 97999, 98999, 99999, 114999] ty h tyq622 hq622 := gSg.ss G623 sS665 (by decide)
            exact gz_wk (lp673 _ tyq622 hq622 cq622_0 0 fq622_0 fq622_1 fq622_2 (Nat.lt_succ_self _) G846 uq663 (gSta.fr sS665.2 (by decide) hyst664) t624 t625 t629 t630 t633 t634 t635 tc666 tc667 ecq622_0 tcq622_0 ⟨by omega, by omega⟩ ⟨by omega, by omega⟩ ⟨by omega, by omega⟩ ⟨by omega, by omega⟩ (by omega) (by omega) (by omega) (by omega) (by omega) (by omega) (by omega) (by omega) (by omega) s636 s637 s638 s639 s640 s641 s642 s643 s644 s645 s646 s647 s648 efq622_3 ec666 ec667 efq622_0 efq622_1 efq622_2 pr649 pr650 pr651 pr652 pr654 pr655 pr656 pr657 pr658 pr659 pr660 pr661 pr662 hsw670 hok671) (gLw.s (gLw.s (gLw.s gLw.z)))
          · refine gy_ifF rfl (by decide) (by decide) (by omega) hc668 ?_
            refine gz_s 1 (pc' := 109) (L' := [some (.ref x), some (.int (zi qu)), none]) (S' := [.ref x]) rfl ?_
            refine gs_gtk rfl (by decide) rfl sS665.1 t624 rfl rfl s645 ?_
            refine gz_s 4 (pc' := 117) (L' := [some (.ref x), some (.int (zi qu)), none]) (S' := [.int (zi 0), .int (zi 0), .int (zi 63), .int (zi 0), .ref c15]) rfl ?_
            have hl847 : hq622.2.2.2.1 cq622_0 = hq622.2.2.2.1 cq622_0 := congrFun sS665.2.2.2.2.1 cq622_0
            refine gz_call rfl (by decide) rfl (by decide) (by decide) (gcal_of rfl rfl rfl (Nat.le_of_ble_eq_true rfl) (gJ.recv (G := gGG) sS665.1 t634 rfl rfl)) (cw_putScan _ sS665.1 c15 t634 0 ⟨by omega, by omega⟩ 63 ⟨by omega, by omega⟩ 0 ⟨by omega, by omega⟩ 0 ⟨by omega, by omega⟩ sk s648 t630 cq622_0 ecq622_0 tcq622_0 fq622_0 efq622_0 ⟨by omega, by omega⟩ fq622_1 efq622_1 ⟨by omega, by omega⟩ fq622_2 efq622_2 ⟨by omega, by omega⟩ fq590_0 s647 ⟨by omega, by omega⟩ fq622_3 efq622_3 ⟨by omega, by omega⟩ (eCf S.1.2.1 (eTb S.1.1 qu) dw dh (zup dw 8)) (eHd (eTb S.1.1 qu) n0 dh dw i0) (by omega) (by omega) (by omega) (by omega) (by omega) (by omega) (by omega) uq663 yq622_0 yq622_1 pr662) (fun q848 _ wq848 => ?_)
            obtain ⟨pq848, oq848, hq848⟩ := q848
            obtain ⟨tyq848, xq848, cq848_0, ttq848, fq848_0, fq848_1, fq848_2, ecq848_0, tcq848_0, gq848, efq848_0, afq848_0, bfq848_0, efq848_1, afq848_1, bfq848_1, efq848_2, afq848_2, bfq848_2, uq848_0, uq848_1, uq848_2, uq848_3, uq848_4, uq848_5, uq848_6, uq848_7, uq848_8, yq848_0, yq848_1⟩ := wq848
            dsimp only at uq848_5 uq848_6 uq848_7 uq848_8
            refine ⟨_, gq848, ?_⟩
            show gz gPP gGG gcn _ _ 120 [some (.ref x), some (.int (zi qu)), none] [] hq848 _
            have G849 : gSg [71, 72, 73, 74, 75, 76, 77, 78, 79, 80, 81, 85, 91, 92, 93, 94, 95, 96, 97, 98, 99, 114, 200] [] [50006, 55008, 56000, 56001, 56002, 56003, 64999, 71005, 71006, 71007, 71008, 71009, 71010, 71011, 71012, 71013, 71014, 72999, 73999, 74999, 76999, 77999, 78999, 79999, 80999, 81999, 85999, 91004, 91008, 92004, 92008, 93999, 94999, 95999, 96999, 97999, 98999, 99999, 114999] ty h tyq848 hq848 := gSg.tr (gSg.ss G623 sS665 (by decide)) xq848 (by decide) (by decide) (fun x hx => by cases hx)
            have t850 : tyq848 x = 50 := gSg.typ xq848 sS665.1 t624 rfl
            have t851 : tyq848 pic = 54 := gSg.typ xq848 sS665.1 t625 rfl
            have t852 : tyq848 b0 = 82 := gSg.typ xq848 sS665.1 t626 rfl
            have t853 : tyq848 b1 = 83 := gSg.typ xq848 sS665.1 t627 rfl
            have t854 : tyq848 b2 = 84 := gSg.typ xq848 sS665.1 t628 rfl
            have t855 : tyq848 dr = 55 := gSg.typ xq848 sS665.1 t629 rfl
            have t856 : tyq848 sk = 56 := gSg.typ xq848 sS665.1 t630 rfl
            have t857 : tyq848 bt = 114 := gSg.typ xq848 sS665.1 t631 rfl
            have hl858 : hq848.2.2.2.1 bt = hq622.2.2.2.1 bt := gSg.len xq848 sS665.1 t631 rfl
            have t859 : tyq848 cl = 51 := gSg.typ xq848 sS665.1 t633 rfl
            have t860 : tyq848 c15 = 71 := gSg.typ xq848 sS665.1 t634 rfl
            have t861 : tyq848 c562 = 53 := gSg.typ xq848 sS665.1 t635 rfl
            have t862 : tyq848 cq622_0 = 114 := gSg.typ xq848 sS665.1 tcq622_0 rfl
            have hl863 : hq848.2.2.2.1 cq622_0 = hq622.2.2.2.1 cq622_0 := gSg.len xq848 sS665.1 tcq622_0 rfl
            have t864 : tyq848 c666 = 60 := gSg.typ xq848 sS665.1 tc666 rfl
            have t865 : tyq848 c667 = 61 := gSg.typ xq848 sS665.1 tc667 rfl
            have s866 := gSg.at xq848 sS665.1 t624 rfl (by decide) s636
            have s867 := gSg.at xq848 sS665.1 t624 rfl (by decide) s637
            have s868 := gSg.at xq848 sS665.1 t624 rfl (by decide) s638
            have s869 := gSg.at xq848 sS665.1 t624 rfl (by decide) s639
            have s870 := gSg.at xq848 sS665.1 t629 rfl (by decide) s640
            have s871 := gSg.at xq848 sS665.1 t629 rfl (by decide) s641
            have s872 := gSg.at xq848 sS665.1 t629 rfl (by decide) s642
            have s873 := gSg.at xq848 sS665.1 t629 rfl (by decide) s643
            have s874 := gSg.at xq848 sS665.1 t633 rfl (by decide) s644
            have s875 := gSg.at xq848 sS665.1 t624 rfl (by decide) s645
            have s876 := gSg.at xq848 sS665.1 t624 rfl (by decide) s646
            have s877 := gSg.at xq848 sS665.1 t634 rfl (by decide) s647
            have s878 := gSg.at xq848 sS665.1 t634 rfl (by decide) s648
            have s879 := gSg.at xq848 sS665.1 t634 rfl (by decide) efq622_3
            have s880 := gSg.at xq848 sS665.1 t629 rfl (by decide) ec666
            have s881 := gSg.at xq848 sS665.1 t629 rfl (by decide) ec667
            have pr882 := gStx.gr xq848 (by decide) (fun x hx => by cases hx) pr649
            have pr883 := gPC.gr xq848 sS665.1 (by decide) pr650
            have pr884 := gTc.gr xq848 sS665.1 (by decide) (by decide) pr651
            have pr885 := gRr.gr xq848 sS665.1 (by decide) (by decide) pr652
            have pr886 := gRw.gr xq848 sS665.1 (by decide) (by decide) pr653
            have pr887 := gRn.gr xq848 sS665.1 rfl (by decide) (by decide) pr654
            have pr888 := gRn.gr xq848 sS665.1 rfl (by decide) (by decide) pr655
            have pr889 := gRn.gr xq848 sS665.1 rfl (by decide) (by decide) pr656
            have pr890 := gRn.gr xq848 sS665.1 rfl (by decide) (by decide) pr657
            have pr891 := gRn.gr xq848 sS665.1 rfl (by decide) (by decide) pr658
            have pr892 := gRn.gr xq848 sS665.1 rfl (by decide) (by decide) pr659
            have pr893 := gRn.gr xq848 sS665.1 rfl (by decide) (by decide) pr660
            have pr894 := gRn.gr xq848 sS665.1 rfl (by decide) (by decide) pr661
            have pr895 := gRn.gr xq848 sS665.1 rfl (by decide) (by decide) pr662
            have uq896 := gSg.uq xq848 uq663 (by decide)
            have hyst897 := gSta.gr xq848 (by decide) (fun x hx => by cases hx) (gSta.fr sS665.2 (by decide) hyst664)
            have sS898 : gSs rT 1027 tyq848 [50006, 55008, 56000, 56001, 56002, 56003, 64999, 71005, 71006, 71007, 71008, 71009, 71010, 71011, 71012, 71013, 71014, 72999, 73999, 74999, 76999, 77999, 78999, 79999, 80999, 81999, 85999, 91004, 91008, 92004, 92008, 93999, 94999, 95999, 96999, 97999, 98999, 99999, 114999] hq848 hq848 := gSs.rf xq848.1
            have hk899 : eKk qu i0 dw dh n0 S 0 = eSc fq622_3 0 63 0 0 (eCf S.1.2.1 (eTb S.1.1 qu) dw dh (zup dw 8)) (fq590_0).toNat (eHd (eTb S.1.1 qu) n0 dh dw i0) := by rw [hmn, hiw]; exact eKk_z (by omega)
            have hk899_1 : (eKk qu i0 dw dh n0 S 0).1 = (eSc fq622_3 0 63 0 0 (eCf S.1.2.1 (eTb S.1.1 qu) dw dh (zup dw 8)) (fq590_0).toNat (eHd (eTb S.1.1 qu) n0 dh dw i0)).1 := by rw [hk899]
            have hk899_21 : (eKk qu i0 dw dh n0 S 0).2.1 = (eSc fq622_3 0 63 0 0 (eCf S.1.2.1 (eTb S.1.1 qu) dw dh (zup dw 8)) (fq590_0).toNat (eHd (eTb S.1.1 qu) n0 dh dw i0)).2.1 := by rw [hk899]
            have hk899_221 : (eKk qu i0 dw dh n0 S 0).2.2.1 = (eSc fq622_3 0 63 0 0 (eCf S.1.2.1 (eTb S.1.1 qu) dw dh (zup dw 8)) (fq590_0).toNat (eHd (eTb S.1.1 qu) n0 dh dw i0)).2.2.1 := by rw [hk899]
            have hsw900 : gSW tyq848 cq848_0 (eKk qu i0 dw dh n0 S 0) hq848 := by rw [hk899]; exact yq848_0
            have hok901 : eeOk (eKk qu i0 dw dh n0 S 0) := by rw [hk899]; exact yq848_1
            have hoc902 := hok901.cur
            refine gz_s 2 (pc' := 122) (L' := [some (.ref x), some (.int (zi qu)), some (.int (zi 0))]) (S' := []) rfl ?_
            have lp903 : ∀ (fu : Nat) (ty905 : Nat → Nat) (h904 : gH) (bv : Nat) (i : Int) (cv : Int) (uv : Int) (hv : Int), (11 - i).toNat < fu → gSg [71, 72, 73, 74, 75, 76, 77, 78, 79, 80, 81, 85, 91, 92, 93, 94, 95, 96, 97, 98, 99, 114, 200] [] [50006, 55008, 56000, 56001, 56002, 56003, 64999, 71005, 71006, 71007, 71008, 71009, 71010, 71011, 71012, 71013, 71014, 72999, 73999, 74999, 76999, 77999, 78999, 79999, 80999, 81999, 85999, 91004, 91008, 92004, 92008, 93999, 94999, 95999, 96999, 97999, 98999, 99999, 114999] ty h ty905 h904 → gUq ty905 → gSta ty905 h904 → ty905 x = 50 → ty905 pic = 54 → ty905 dr = 55 → ty905 sk = 56 → ty905 cl = 51 → ty905 c15 = 71 → ty905 c562 = 53 → ty905 c666 = 60 → ty905 c667 = 61 → h904.2.2.2.2 sk 0 = .ref bv → ty905 bv = 114 → (0 ≤ i ∧ i ≤ 10) → (0 ≤ cv ∧ cv ≤ 499999) → (0 ≤ uv ∧ uv ≤ 127) → (0 ≤ hv ∧ hv ≤ 7) → ((n0 = 0 ∧ 4 * cv + hv ≤ 336000) ∨ 4 * cv + hv ≤ 400 + 7876 * i + 5120 * gTl S.1.2.2.1 S.1.2.2.2.1 i) → (i ≤ n0) → (cv ≤ (h904.2.2.2.1 bv : Int)) → (1024 * (((h904.1 : Int) - h.1) - 21) ≤ (h904.2.2.2.1 bv : Int) - lb) → (((h904.2.1 : Int) - h.2.1) ≤ 4303 + 2 * ((h904.2.2.2.1 bv : Int) - lb)) → (lb ≤ (h904.2.2.2.1 bv : Int)) → (cv = (eKk qu i0 dw dh n0 S i).1) → (uv = (eKk qu i0 dw dh n0 S i).2.1) → (hv = (eKk qu i0 dw dh n0 S i).2.2.1) → h904.2.2.2.2 x 2 = .ref pic → h904.2.2.2.2 x 3 = .ref dr → h904.2.2.2.2 x 4 = .ref sk → h904.2.2.2.2 x 0 = .ref cl → h904.2.2.2.2 dr 8 = .int (zi n0) → h904.2.2.2.2 dr 3 = .int (zi i0) → h904.2.2.2.2 dr 1 = .int (zi dw) → h904.2.2.2.2 dr 2 = .int (zi dh) → h904.2.2.2.2 cl 1 = .int (zi scl) → h904.2.2.2.2 x 6 = .ref c15 → h904.2.2.2.2 x 1 = .ref c562 → h904.2.2.2.2 c15 5 = .int (zi fq590_0) → h904.2.2.2.2 c15 0 = .ref sk → h904.2.2.2.2 c15 6 = .int (zi fq622_3) → h904.2.2.2.2 dr 4 = .ref c666 → h904.2.2.2.2 dr 5 = .ref c667 → h904.2.2.2.2 sk 1 = .int (zi cv) → h904.2.2.2.2 sk 2 = .int (zi uv) → h904.2.2.2.2 sk 3 = .int (zi hv) → gStx ty905 h904 → gPC ty905 pic b0 b1 b2 ld h904 → gTc ty905 n0 h904 → gRr ty905 x h904 → gRn 256 ty905 53 S.1.1 h904 → gRn 1024 ty905 59 S.1.2.1 h904 → gRn 10 ty905 60 S.1.2.2.1 h904 → gRn 10 ty905 61 S.1.2.2.2.1 h904 → gRn 10 ty905 62 S.1.2.2.2.2.1 h904 → gRn 10 ty905 63 S.1.2.2.2.2.2.1 h904 → gRn 64 ty905 64 S.1.2.2.2.2.2.2 h904 → gRn 64 ty905 72 (eTb S.1.1 qu) h904 → gRn (64 * fq590_0).toNat ty905 73 (eCf S.1.2.1 (eTb S.1.1 qu) dw dh (zup dw 8)) h904 → gSW ty905 bv (eKk qu i0 dw dh n0 S i) h904 → eeOk (eKk qu i0 dw dh n0 S i) → gz gPP gGG gcn (d + 8) gt89 122 [some (.ref x), some (.int (zi qu)), some (.int (zi i))] [] h904 (fun q _ => ∃ ty9 : Nat → Nat, gSg [71, 72, 73, 74, 75, 76, 77, 78, 79, 80, 81, 85, 91, 92, 93, 94, 95, 96, 97, 98, 99, 114, 200] [] [50006, 55008, 56000, 56001, 56002, 56003, 64999, 71005, 71006, 71007, 71008, 71009, 71010, 71011, 71012, 71013, 71014, 72999, 73999, 74999, 76999, 77999, 78999, 79999, 80999, 81999, 85999, 91004, 91008, 92004, 92008, 93999, 94999, 95999, 96999, 97999, 98999, 99999, 114999] ty h ty9 q.2.2 ∧ ∃ ld1 lb1 iv1 : Int, 0 ≤ ld1 ∧ ld1 ≤ 192 ∧ 1024 ≤ lb1 ∧ lb1 ≤ 1000000 ∧ 0 ≤ iv1 ∧ iv1 ≤ 54223962112 ∧ (gIx ty9 x ld1 lb1 iv1 (eQ3 qu (iv / 536870912) (iv / 64 % 64) (iv / 4096 % 64) (iv % 64) S) q.2.2) ∧ gUq ty9 ∧ ((∃ z : Int, gfin gt89 q.1 q.2.1 = some (some (.int (zi z))) ∧ (-2147483648) ≤ z ∧ z ≤ 2147483647 ∧ (1 ≤ qu) ∧ (qu ≤ 100) ∧ (1 ≤ iv / 64 % 64) ∧ (iv1 = iv - iv % 64) ∧ (z = (eNn qu (iv / 536870912) (iv / 64 % 64) (iv / 4096 % 64) (iv % 64) S).1) ∧ (1024 * (((q.2.2.1 : Int) - h.1) - 31 - 2 * (ld1 - ld)) ≤ lb1 - lb) ∧ (((q.2.2.2.1 : Int) - h.2.1) ≤ 4303 + 12480 * (ld1 - ld) + 2 * (lb1 - lb)) ∧ (ld ≤ ld1) ∧ (lb ≤ lb1)) ∨ (q.2.1 = [] ∧ ((q.1 = 11 ∧ (¬ (1 ≤ qu ∧ qu ≤ 100))) ∨ (q.1 = 32 ∧ (1 ≤ qu) ∧ (qu ≤ 100) ∧ (iv / 64 % 64 = 0))) ∧ (iv1 = iv) ∧ (1024 * (((q.2.2.1 : Int) - h.1) - 31 - 2 * (ld1 - ld)) ≤ lb1 - lb) ∧ (((q.2.2.2.1 : Int) - h.2.1) ≤ 4303 + 12480 * (ld1 - ld) + 2 * (lb1 - lb)) ∧ (ld ≤ ld1) ∧ (lb ≤ lb1)))) := by
              intro fu
              induction fu with
              | zero => intro ty905 h904 bv i cv uv hv hm; exact absurd hm (Nat.not_lt_zero _)
              | succ fu ihlp903 =>
                intro ty905 h904 bv i cv uv hv lp903m lp903G lp903u lp903t lp903c0 lp903c1 lp903c2 lp903c3 lp903c4 lp903c5 lp903c6 lp903c7 lp903c8 lp903r0 lp903r1 lp903f0 lp903f1 lp903f2 lp903f3 lp903f4 lp903f5 lp903f6 lp903f7 lp903f8 lp903f9 lp903f10 lp903f11 lp903f12 lp903k0 lp903k1 lp903k2 lp903k3 lp903k4 lp903k5 lp903k6 lp903k7 lp903k8 lp903k9 lp903k10 lp903k11 lp903k12 lp903k13 lp903k14 lp903k15 lp903k16 lp903k17 lp903k18 lp903k19 lp903k20 lp903k21 lp903k22 lp903k23 lp903k24 lp903k25 lp903k26 lp903k27 lp903k28 lp903k29 lp903k30 lp903k31 lp903k32 lp903k33
                have sh904 : gSs rT 1027 ty905 [50006, 55008, 56000, 56001, 56002, 56003, 64999, 71005, 71006, 71007, 71008, 71009, 71010, 71011, 71012, 71013, 71014, 72999, 73999, 74999, 76999, 77999, 78999, 79999, 80999, 81999, 85999, 91004, 91008, 92004, 92008, 93999, 94999, 95999, 96999, 97999, 98999, 99999, 114999] h904 h904 := gSs.rf lp903G.1
                refine gz_s 2 (pc' := 124) (L' := [some (.ref x), some (.int (zi qu)), some (.int (zi i))]) (S' := [.ref x, .int (zi i)]) rfl ?_
                refine gs_gtk rfl (by decide) rfl sh904.1 lp903c0 rfl rfl lp903k1 ?_
                refine gs_gtk rfl (by decide) rfl sh904.1 lp903c2 rfl rfl lp903k4 ?_
                refine gy_icT (pc' := 182) rfl (by decide) (by decide) ⟨by omega, by omega⟩ ⟨by omega, by omega⟩ (by first | (simp [zc]; done) | (simp only [zc]; omega)) ?_
                have hgl9 : gTl S.1.2.2.1 S.1.2.2.2.1 i = gTl S.1.2.2.1 S.1.2.2.2.1 n0 := by rw [show i = n0 from Int.le_antisymm (by omega) (by omega)]
                refine gz_s 1 (pc' := 183) (L' := [some (.ref x), some (.int (zi qu)), some (.int (zi i))]) (S' := [.ref x]) rfl ?_
                refine gs_gtk rfl (by decide) rfl sh904.1 lp903c0 rfl rfl lp903k9 ?_
                have hl906 : h904.2.2.2.1 bv = h904.2.2.2.1 bv := congrFun sh904.2.2.2.2.1 bv
                refine gz_call rfl (by decide) rfl (by decide) (by decide) (gcal_of rfl rfl rfl (Nat.le_of_ble_eq_true rfl) (gJ.recv (G := gGG) sh904.1 lp903c5 rfl rfl)) (cw_putEnd _ sh904.1 c15 lp903c5 sk lp903k12 lp903c3 bv lp903r0 lp903r1 cv lp903k16 ⟨by omega, by omega⟩ (eKk qu i0 dw dh n0 S i) (by omega) (by omega) lp903u lp903k32 lp903k33) (fun q907 _ wq907 => ?_)
                obtain ⟨pq907, oq907, hq907⟩ := q907
                obtain ⟨tyq907, xq907, cq907_0, ttq907, fq907_0, ecq907_0, tcq907_0, gq907, efq907_0, afq907_0, bfq907_0, uq907_0, uq907_1, uq907_2, uq907_3, uq907_4, uq907_5, uq907_6, uq907_7, yq907_0, yq907_1⟩ := wq907
                dsimp only at uq907_4 uq907_5 uq907_6 uq907_7
                refine ⟨_, gq907, ?_⟩
                show gz gPP gGG gcn _ _ 189 [some (.ref x), some (.int (zi qu)), some (.int (zi i))] [] hq907 _
                have G908 : gSg [71, 72, 73, 74, 75, 76, 77, 78, 79, 80, 81, 85, 91, 92, 93, 94, 95, 96, 97, 98, 99, 114, 200] [] [50006, 55008, 56000, 56001, 56002, 56003, 64999, 71005, 71006, 71007, 71008, 71009, 71010, 71011, 71012, 71013, 71014, 72999, 73999, 74999, 76999, 77999, 78999, 79999, 80999, 81999, 85999, 91004, 91008, 92004, 92008, 93999, 94999, 95999, 96999, 97999, 98999, 99999, 114999] ty h tyq907 hq907 := gSg.tr (gSg.ss lp903G sh904 (by decide)) xq907 (by decide) (by decide) (fun x hx => by cases hx)
                have t909 : tyq907 x = 50 := gSg.typ xq907 sh904.1 lp903c0 rfl
                have t910 : tyq907 pic = 54 := gSg.typ xq907 sh904.1 lp903c1 rfl
                have t911 : tyq907 dr = 55 := gSg.typ xq907 sh904.1 lp903c2 rfl
                have t912 : tyq907 sk = 56 := gSg.typ xq907 sh904.1 lp903c3 rfl
                have t913 : tyq907 cl = 51 := gSg.typ xq907 sh904.1 lp903c4 rfl
                have t914 : tyq907 c15 = 71 := gSg.typ xq907 sh904.1 lp903c5 rfl
                have t915 : tyq907 c562 = 53 := gSg.typ xq907 sh904.1 lp903c6 rfl
                have t916 : tyq907 c666 = 60 := gSg.typ xq907 sh904.1 lp903c7 rfl
                have t917 : tyq907 c667 = 61 := gSg.typ xq907 sh904.1 lp903c8 rfl
                have t918 : tyq907 bv = 114 := gSg.typ xq907 sh904.1 lp903r1 rfl
                have hl919 : hq907.2.2.2.1 bv = h904.2.2.2.1 bv := gSg.len xq907 sh904.1 lp903r1 rfl
                have s920 := gSg.at xq907 sh904.1 lp903c0 rfl (by decide) lp903k0
                have s921 := gSg.at xq907 sh904.1 lp903c0 rfl (by decide) lp903k1
                have s922 := gSg.at xq907 sh904.1 lp903c0 rfl (by decide) lp903k2
                have s923 := gSg.at xq907 sh904.1 lp903c0 rfl (by decide) lp903k3
                have s924 := gSg.at xq907 sh904.1 lp903c2 rfl (by decide) lp903k4
                have s925 := gSg.at xq907 sh904.1 lp903c2 rfl (by decide) lp903k5
                have s926 := gSg.at xq907 sh904.1 lp903c2 rfl (by decide) lp903k6
                have s927 := gSg.at xq907 sh904.1 lp903c2 rfl (by decide) lp903k7
                have s928 := gSg.at xq907 sh904.1 lp903c4 rfl (by decide) lp903k8
                have s929 := gSg.at xq907 sh904.1 lp903c0 rfl (by decide) lp903k9
                have s930 := gSg.at xq907 sh904.1 lp903c0 rfl (by decide) lp903k10
                have s931 := gSg.at xq907 sh904.1 lp903c5 rfl (by decide) lp903k11
                have s932 := gSg.at xq907 sh904.1 lp903c5 rfl (by decide) lp903k12
                have s933 := gSg.at xq907 sh904.1 lp903c5 rfl (by decide) lp903k13
                have s934 := gSg.at xq907 sh904.1 lp903c2 rfl (by decide) lp903k14
                have s935 := gSg.at xq907 sh904.1 lp903c2 rfl (by decide) lp903k15
                have s936 := gSg.at xq907 sh904.1 lp903c3 rfl (by decide) lp903k17
                have s937 := gSg.at xq907 sh904.1 lp903c3 rfl (by decide) lp903k18
                have pr938 := gStx.gr xq907 (by decide) (fun x hx => by cases hx) lp903k19
                have pr939 := gPC.gr xq907 sh904.1 (by decide) lp903k20
                have pr940 := gTc.gr xq907 sh904.1 (by decide) (by decide) lp903k21
                have pr941 := gRr.gr xq907 sh904.1 (by decide) (by decide) lp903k22
                have pr942 := gRn.gr xq907 sh904.1 rfl (by decide) (by decide) lp903k23
                have pr943 := gRn.gr xq907 sh904.1 rfl (by decide) (by decide) lp903k24
                have pr944 := gRn.gr xq907 sh904.1 rfl (by decide) (by decide) lp903k25
                have pr945 := gRn.gr xq907 sh904.1 rfl (by decide) (by decide) lp903k26
                have pr946 := gRn.gr xq907 sh904.1 rfl (by decide) (by decide) lp903k27
                have pr947 := gRn.gr xq907 sh904.1 rfl (by decide) (by decide) lp903k28
                have pr948 := gRn.gr xq907 sh904.1 rfl (by decide) (by decide) lp903k29
                have pr949 := gRn.gr xq907 sh904.1 rfl (by decide) (by decide) lp903k30
                have pr950 := gRn.gr xq907 sh904.1 rfl (by decide) (by decide) lp903k31
                have uq951 := gSg.uq xq907 lp903u (by decide)
                have hyst952 := gSta.gr xq907 (by decide) (fun x hx => by cases hx) (gSta.fr sh904.2 (by decide) lp903t)
                have sS953 : gSs rT 1027 tyq907 [50006, 55008, 56000, 56001, 56002, 56003, 64999, 71005, 71006, 71007, 71008, 71009, 71010, 71011, 71012, 71013, 71014, 72999, 73999, 74999, 76999, 77999, 78999, 79999, 80999, 81999, 85999, 91004, 91008, 92004, 92008, 93999, 94999, 95999, 96999, 97999, 98999, 99999, 114999] hq907 hq907 := gSs.rf xq907.1
                have hk954 : eNn qu i0 dw dh n0 S = eeM (eKk qu i0 dw dh n0 S i) 217 := eKk_e (by omega)
                have hk954_1 : (eNn qu i0 dw dh n0 S).1 = (eeM (eKk qu i0 dw dh n0 S i) 217).1 := by rw [hk954]
                have hk954_21 : (eNn qu i0 dw dh n0 S).2.1 = (eeM (eKk qu i0 dw dh n0 S i) 217).2.1 := by rw [hk954]
                have hk954_221 : (eNn qu i0 dw dh n0 S).2.2.1 = (eeM (eKk qu i0 dw dh n0 S i) 217).2.2.1 := by rw [hk954]
                have hsw955 : gSW tyq907 cq907_0 (eNn qu i0 dw dh n0 S) hq907 := by rw [hk954]; exact yq907_0
                have hok956 : eeOk (eNn qu i0 dw dh n0 S) := by rw [hk954]; exact yq907_1
                have hoc957 := hok956.cur
                have hcd9 := hcd
                refine gz_s 1 (pc' := 190) (L' := [some (.ref x), some (.int (zi qu)), some (.int (zi i))]) (S' := [.ref x]) rfl ?_
                refine gs_gtk rfl (by decide) rfl sS953.1 t909 rfl rfl s921 ?_
                refine gz_call rfl (by decide) rfl (by decide) (by decide) (gcal_of rfl rfl rfl (Nat.le_of_ble_eq_true rfl) (gJ.recv (G := gGG) sS953.1 t911 rfl rfl)) (cl_Draft_forgetScans _ sS953.1 dr t911 uq951) (fun q958 _ wq958 => ?_)
                obtain ⟨pq958, oq958, hq958⟩ := q958
                obtain ⟨xq958, fq958_0, gq958, efq958_0, afq958_0, bfq958_0, uq958_0, yq958_0, yq958_1⟩ := wq958
                refine ⟨_, gq958, ?_⟩
                show gz gPP gGG gcn _ _ 196 [some (.ref x), some (.int (zi qu)), some (.int (zi i))] [] hq958 _
                have sq958 : gSs rT 1027 tyq907 [50006, 55008, 56000, 56001, 56002, 56003, 64999, 71005, 71006, 71007, 71008, 71009, 71010, 71011, 71012, 71013, 71014, 72999, 73999, 74999, 76999, 77999, 78999, 79999, 80999, 81999, 85999, 91004, 91008, 92004, 92008, 93999, 94999, 95999, 96999, 97999, 98999, 99999, 114999] hq907 hq958 := gSs.tr sS953 xq958 (by decide)
                have s959 := (xq958.2.2.2.2.2 x 2 (by rw [t909]; decide)).trans s920
                have s960 := (xq958.2.2.2.2.2 x 3 (by rw [t909]; decide)).trans s921
                have s961 := (xq958.2.2.2.2.2 x 4 (by rw [t909]; decide)).trans s922
                have s962 := (xq958.2.2.2.2.2 x 0 (by rw [t909]; decide)).trans s923
                have s963 := (xq958.2.2.2.2.2 dr 3 (by rw [t911]; decide)).trans s925
                have s964 := (xq958.2.2.2.2.2 dr 1 (by rw [t911]; decide)).trans s926
                have s965 := (xq958.2.2.2.2.2 dr 2 (by rw [t911]; decide)).trans s927
                have s966 := (xq958.2.2.2.2.2 cl 1 (by rw [t913]; decide)).trans s928
                have s967 := (xq958.2.2.2.2.2 x 6 (by rw [t909]; decide)).trans s929
                have s968 := (xq958.2.2.2.2.2 x 1 (by rw [t909]; decide)).trans s930
                have s969 := (xq958.2.2.2.2.2 c15 5 (by rw [t914]; decide)).trans s931
                have s970 := (xq958.2.2.2.2.2 c15 0 (by rw [t914]; decide)).trans s932
                have s971 := (xq958.2.2.2.2.2 c15 6 (by rw [t914]; decide)).trans s933
                have s972 := (xq958.2.2.2.2.2 dr 4 (by rw [t911]; decide)).trans s934
                have s973 := (xq958.2.2.2.2.2 dr 5 (by rw [t911]; decide)).trans s935
                have s974 := (xq958.2.2.2.2.2 sk 2 (by rw [t912]; decide)).trans s936
                have s975 := (xq958.2.2.2.2.2 sk 3 (by rw [t912]; decide)).trans s937
                have s976 := (xq958.2.2.2.2.2 sk 0 (by rw [t912]; decide)).trans ecq907_0
                have s977 := (xq958.2.2.2.2.2 sk 1 (by rw [t912]; decide)).trans efq907_0
                have pr978 := gStx.fr xq958.2 (by decide) pr938
                have pr979 := gPC.fr xq958.2 (by decide) pr939
                have pr980 := gRr.fr xq958.2 (by decide) pr941
                have pr981 := gRn.fr xq958.2 (by decide) pr942
                have pr982 := gRn.fr xq958.2 (by decide) pr943
                have pr983 := gRn.fr xq958.2 (by decide) pr944
                have pr984 := gRn.fr xq958.2 (by decide) pr945
                have pr985 := gRn.fr xq958.2 (by decide) pr946
                have pr986 := gRn.fr xq958.2 (by decide) pr947
                have pr987 := gRn.fr xq958.2 (by decide) pr949
                have pr988 := gRn.fr xq958.2 (by decide) pr950
                have pr989 := gSW.fr xq958.2 (by decide) hsw955
                refine gz_s 1 (pc' := 197) (L' := [some (.ref x), some (.int (zi qu)), some (.int (zi i))]) (S' := [.ref x]) rfl ?_
                refine gs_gtk rfl (by decide) rfl sq958.1 t909 rfl rfl s961 ?_
                refine gs_gtk rfl (by decide) rfl sq958.1 t912 rfl rfl s977 ?_
                have k990 := sq958.2.1
                have k990b := sq958.2.2.1
                have hl991 : hq958.2.2.2.1 bv = hq907.2.2.2.1 bv := congrFun sq958.2.2.2.2.1 bv
                have hl992 : hq958.2.2.2.1 cq907_0 = hq907.2.2.2.1 cq907_0 := congrFun sq958.2.2.2.2.1 cq907_0
                have hl993 : 1024 ≤ hq958.2.2.2.1 bv ∧ hq958.2.2.2.1 bv ≤ 1000000 := gJ.rowl (G := gGG) sq958.1 t918 rfl
                have hl994 : 1024 ≤ hq958.2.2.2.1 cq907_0 ∧ hq958.2.2.2.1 cq907_0 ≤ 1000000 := gJ.rowl (G := gGG) sq958.1 tcq907_0 rfl
                have hxr995 : gXr tyq907 (eS3 S (eNn qu i0 dw dh n0 S)) hq958 := ⟨pr981, pr982, pr983, pr984, pr985, pr986, gOy.Rn (by decide) yq958_1⟩
                have hnv : (eNn qu (iv / 536870912) (iv / 64 % 64) (iv / 4096 % 64) (iv % 64) S).1 = (eNn qu i0 dw dh n0 S).1 := by rw [hdi, hdw, hdh, hdn]
                have k996 := sq958.2.1
                have k996b := sq958.2.2.1
                have hl997 : hq958.2.2.2.1 bv = hq907.2.2.2.1 bv := congrFun sq958.2.2.2.2.1 bv
                have hl998 : hq958.2.2.2.1 cq907_0 = hq907.2.2.2.1 cq907_0 := congrFun sq958.2.2.2.2.1 cq907_0
                have hix999 : gIx tyq907 x ld (hq958.2.2.2.1 cq907_0 : Int) (64 * dw + fq958_0 + 4096 * dh + 262144 * scl + 536870912 * i0) (eS3 S (eNn qu i0 dw dh n0 S)) hq958 := ⟨pic, b0, b1, b2, dr, sk, cq907_0, cl, fq958_0, fq907_0, i0, dw, dh, scl, ⟨t909, t911, t912, tcq907_0⟩, ⟨s959, s960, s961, s976⟩, pr979, (by rw [(by omega : fq958_0 = 0)]; exact yq958_0), ⟨efq958_0, by omega, by omega⟩, ⟨s963, by omega, by omega⟩, ⟨s977, by omega, by omega⟩, ⟨by omega, by omega⟩, pr980, ⟨t909, Or.inr ⟨c15, s967, t914⟩⟩, ⟨s964, by omega, by omega⟩, ⟨s965, by omega, by omega⟩, by omega, rfl, hxr995, ⟨pr989, (show _ = ((eNn qu i0 dw dh n0 S)).1 by omega)⟩, (by rw [(by omega : fq958_0 = 0)]; exact eTz.zero), t913, s962, ⟨s966, by omega, by omega⟩⟩
                have hix1000 : gIx tyq907 x ld (hq958.2.2.2.1 cq907_0 : Int) (64 * dw + fq958_0 + 4096 * dh + 262144 * scl + 536870912 * i0) (eQ3 qu (iv / 536870912) (iv / 64 % 64) (iv / 4096 % 64) (iv % 64) S) hq958 := by rw [hdi, hdw, hdh, hdn, eQ3_y hok]; exact hix999
                have G1001 : gSg [71, 72, 73, 74, 75, 76, 77, 78, 79, 80, 81, 85, 91, 92, 93, 94, 95, 96, 97, 98, 99, 114, 200] [] [50006, 55008, 56000, 56001, 56002, 56003, 64999, 71005, 71006, 71007, 71008, 71009, 71010, 71011, 71012, 71013, 71014, 72999, 73999, 74999, 76999, 77999, 78999, 79999, 80999, 81999, 85999, 91004, 91008, 92004, 92008, 93999, 94999, 95999, 96999, 97999, 98999, 99999, 114999] ty h tyq907 hq958 := gSg.ss G908 sq958 (by decide)
                exact gz_end (I := .ireturn) (len := 1) rfl (Or.inl rfl) ⟨tyq907, G1001, ld, (hq958.2.2.2.1 cq907_0 : Int), (64 * dw + fq958_0 + 4096 * dh + 262144 * scl + 536870912 * i0), (by omega), (by omega), (by omega), (by omega), (by omega), (by omega), hix1000, uq951, Or.inl ⟨fq907_0, rfl, (by omega), (by omega), (by omega), (by omega), (by omega), (by omega), (by omega), (by dsimp only; omega), (by dsimp only; omega), (by omega), (by omega)⟩⟩
            have hl1002 : 1024 ≤ hq848.2.2.2.1 bt ∧ hq848.2.2.2.1 bt ≤ 1000000 := gJ.rowl (G := gGG) sS898.1 t857 rfl
            have hl1003 : 1024 ≤ hq848.2.2.2.1 cq622_0 ∧ hq848.2.2.2.1 cq622_0 ≤ 1000000 := gJ.rowl (G := gGG) sS898.1 t862 rfl
            have hl1004 : 1024 ≤ hq848.2.2.2.1 cq848_0 ∧ hq848.2.2.2.1 cq848_0 ≤ 1000000 := gJ.rowl (G := gGG) sS898.1 tcq848_0 rfl
            have G1005 : gSg [71, 72, 73, 74, 75, 76, 77, 78, 79, 80, 81, 85, 91, 92, 93, 94, 95, 96, 97, 98, 99, 114, 200] [] [50006, 55008, 56000, 56001, 56002, 56003, 64999, 71005, 71006, 71007, 71008, 71009, 71010, 71011, 71012, 71013, 71014, 72999, 73999, 74999, 76999, 77999, 78999, 79999, 80999, 81999, 85999, 91004, 91008, 92004, 92008, 93999, 94999, 95999, 96999, 97999, 98999, 99999, 114999] ty h tyq848 hq848 := gSg.ss G849 sS898 (by decide)
            exact gz_wk (lp903 _ tyq848 hq848 cq848_0 0 fq848_0 fq848_1 fq848_2 (Nat.lt_succ_self _) G1005 uq896 (gSta.fr sS898.2 (by decide) hyst897) t850 t851 t855 t856 t859 t860 t861 t864 t865 ecq848_0 tcq848_0 ⟨by omega, by omega⟩ ⟨by omega, by omega⟩ ⟨by omega, by omega⟩ ⟨by omega, by omega⟩ (by omega) (by omega) (by omega) (by omega) (by omega) (by omega) (by omega) (by omega) (by omega) s866 s867 s868 s869 s870 s871 s872 s873 s874 s875 s876 s877 s878 s879 s880 s881 efq848_0 efq848_1 efq848_2 pr882 pr883 pr884 pr885 pr887 pr888 pr889 pr890 pr891 pr892 pr893 pr894 pr895 hsw900 hok901) (gLw.s (gLw.s (gLw.s gLw.z)))
      · refine gy_icF rfl (by decide) (by decide) (by omega) (by omega) hc7 ?_
        have hl1006 : 1024 ≤ h.2.2.2.1 bt ∧ h.2.2.2.1 bt ≤ 1000000 := gJ.rowl (G := gGG) hS.1 tbt rfl
        have hix1007 : gIx ty x ld (h.2.2.2.1 bt : Int) (64 * dw + n0 + 4096 * dh + 262144 * scl + 536870912 * i0) S h := ⟨pic, b0, b1, b2, dr, sk, bt, cl, n0, c0, i0, dw, dh, scl, ⟨tx, tdr, tsk, tbt⟩, ⟨ex2, ex3, ex4, ex0⟩, hpc, htc, ⟨en0, by omega, by omega⟩, ⟨eiv, by omega, by omega⟩, ⟨ec0, by omega, by omega⟩, ⟨by omega, by omega⟩, hrr, hrw, ⟨edw, by omega, by omega⟩, ⟨edh, by omega, by omega⟩, by omega, rfl, hxr, ⟨hsw, hc0⟩, htz, tcl, ex9, ⟨ecl, by omega, by omega⟩⟩
        have hix1008 : gIx ty x ld (h.2.2.2.1 bt : Int) (64 * dw + n0 + 4096 * dh + 262144 * scl + 536870912 * i0) (eQ3 qu (iv / 536870912) (iv / 64 % 64) (iv / 4096 % 64) (iv % 64) S) h := by rw [eQ3_n (by omega)]; exact hix1007
        have G1009 : gSg [71, 72, 73, 74, 75, 76, 77, 78, 79, 80, 81, 85, 91, 92, 93, 94, 95, 96, 97, 98, 99, 114, 200] [] [50006, 55008, 56000, 56001, 56002, 56003, 64999, 71005, 71006, 71007, 71008, 71009, 71010, 71011, 71012, 71013, 71014, 72999, 73999, 74999, 76999, 77999, 78999, 79999, 80999, 81999, 85999, 91004, 91008, 92004, 92008, 93999, 94999, 95999, 96999, 97999, 98999, 99999, 114999] ty h ty h := gSg.ss G0 hS (by decide)
        exact gz_end (I := .new 157) (len := 3) rfl (Or.inr (by decide)) ⟨ty, G1009, ld, (h.2.2.2.1 bt : Int), (64 * dw + n0 + 4096 * dh + 262144 * scl + 536870912 * i0), (by omega), (by omega), (by omega), (by omega), (by omega), (by omega), hix1008, uq, Or.inr ⟨rfl, Or.inr (⟨rfl, (by omega), (by omega), (by omega)⟩), (by omega), (by dsimp only; omega), (by dsimp only; omega), (by omega), (by omega)⟩⟩
    · refine gy_icF rfl (by decide) (by decide) (by omega) (by omega) hc6 ?_
      have hl1010 : 1024 ≤ h.2.2.2.1 bt ∧ h.2.2.2.1 bt ≤ 1000000 := gJ.rowl (G := gGG) hS.1 tbt rfl
      have hix1011 : gIx ty x ld (h.2.2.2.1 bt : Int) (64 * dw + n0 + 4096 * dh + 262144 * scl + 536870912 * i0) S h := ⟨pic, b0, b1, b2, dr, sk, bt, cl, n0, c0, i0, dw, dh, scl, ⟨tx, tdr, tsk, tbt⟩, ⟨ex2, ex3, ex4, ex0⟩, hpc, htc, ⟨en0, by omega, by omega⟩, ⟨eiv, by omega, by omega⟩, ⟨ec0, by omega, by omega⟩, ⟨by omega, by omega⟩, hrr, hrw, ⟨edw, by omega, by omega⟩, ⟨edh, by omega, by omega⟩, by omega, rfl, hxr, ⟨hsw, hc0⟩, htz, tcl, ex9, ⟨ecl, by omega, by omega⟩⟩
      have hix1012 : gIx ty x ld (h.2.2.2.1 bt : Int) (64 * dw + n0 + 4096 * dh + 262144 * scl + 536870912 * i0) (eQ3 qu (iv / 536870912) (iv / 64 % 64) (iv / 4096 % 64) (iv % 64) S) h := by rw [eQ3_n (by omega)]; exact hix1011
      have G1013 : gSg [71, 72, 73, 74, 75, 76, 77, 78, 79, 80, 81, 85, 91, 92, 93, 94, 95, 96, 97, 98, 99, 114, 200] [] [50006, 55008, 56000, 56001, 56002, 56003, 64999, 71005, 71006, 71007, 71008, 71009, 71010, 71011, 71012, 71013, 71014, 72999, 73999, 74999, 76999, 77999, 78999, 79999, 80999, 81999, 85999, 91004, 91008, 92004, 92008, 93999, 94999, 95999, 96999, 97999, 98999, 99999, 114999] ty h ty h := gSg.ss G0 hS (by decide)
      exact gz_end (I := .new 134) (len := 3) rfl (Or.inr (by decide)) ⟨ty, G1013, ld, (h.2.2.2.1 bt : Int), (64 * dw + n0 + 4096 * dh + 262144 * scl + 536870912 * i0), (by omega), (by omega), (by omega), (by omega), (by omega), (by omega), hix1012, uq, Or.inr ⟨rfl, Or.inl ⟨rfl, (by omega)⟩, (by omega), (by dsimp only; omega), (by dsimp only; omega), (by omega), (by omega)⟩⟩
