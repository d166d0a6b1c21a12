/-! ===== methods of the landed text (by program) ===== -/
set_option maxRecDepth 20000 in
set_option maxHeartbeats 4000000 in
theorem cl_DctFilter_encode (d : Nat) {ty : Nat → Nat} {h : gH} (hJ : gJ rT 1027 ty h) (x : Nat) (tx : ty x = 50) (qu : Int) (rqu : (-2147483648) ≤ qu ∧ qu ≤ 2147483647) (hyst : gSta ty h) (S : gSS) (ld : Int) (rld : 0 ≤ ld ∧ ld ≤ 192) (lb : Int) (rlb : 1024 ≤ lb ∧ lb ≤ 1000000) (iv : Int) (riv : 0 ≤ iv ∧ iv ≤ 26476544) (uq : gUq ty) (hyix : gIx ty x ld lb iv S h) (hysx : gStx ty h) : gz gPP gGG gcn (d + 8) gt89 0 (gent [.ref x, .int (zi qu)] 3) [] h (fun q _ => ∃ ty9 : Nat → Nat, gSg [71, 72, 73, 74, 75, 76, 77, 78, 79, 80, 81, 85, 91, 92, 93, 94, 95, 96, 97, 98, 99, 114, 200] [] [50006, 55008, 56000, 56001, 56002, 56003, 64999, 71005, 71006, 71007, 71008, 71009, 71010, 71011, 71012, 71013, 71014, 72999, 73999, 74999, 76999, 77999, 78999, 79999, 80999, 81999, 85999, 91004, 91008, 92004, 92008, 93999, 94999, 95999, 96999, 97999, 98999, 99999, 114999] ty h ty9 q.2.2 ∧ ∃ ld1 lb1 iv1 : Int, 0 ≤ ld1 ∧ ld1 ≤ 192 ∧ 1024 ≤ lb1 ∧ lb1 ≤ 1000000 ∧ 0 ≤ iv1 ∧ iv1 ≤ 26476544 ∧ (gIx ty9 x ld1 lb1 iv1 (eQ3 qu (iv / 262144) (iv / 64 % 64) (iv / 4096 % 64) (iv % 64) S) q.2.2) ∧ gUq ty9 ∧ ((∃ z : Int, gfin gt89 q.1 q.2.1 = some (some (.int (zi z))) ∧ (-2147483648) ≤ z ∧ z ≤ 2147483647 ∧ (1 ≤ qu) ∧ (qu ≤ 100) ∧ (1 ≤ iv / 64 % 64) ∧ (iv1 = iv - iv % 64) ∧ (z = (eNn qu (iv / 262144) (iv / 64 % 64) (iv / 4096 % 64) (iv % 64) S).1) ∧ (1024 * (((q.2.2.1 : Int) - h.1) - 31 - 2 * (ld1 - ld)) ≤ lb1 - lb) ∧ (((q.2.2.2.1 : Int) - h.2.1) ≤ 4303 + 12480 * (ld1 - ld) + 2 * (lb1 - lb)) ∧ (ld ≤ ld1) ∧ (lb ≤ lb1)) ∨ (q.2.1 = [] ∧ ((q.1 = 11 ∧ (¬ (1 ≤ qu ∧ qu ≤ 100))) ∨ (q.1 = 32 ∧ (1 ≤ qu) ∧ (qu ≤ 100) ∧ (iv / 64 % 64 = 0))) ∧ (iv1 = iv) ∧ (1024 * (((q.2.2.1 : Int) - h.1) - 31 - 2 * (ld1 - ld)) ≤ lb1 - lb) ∧ (((q.2.2.2.1 : Int) - h.2.1) ≤ 4303 + 12480 * (ld1 - ld) + 2 * (lb1 - lb)) ∧ (ld ≤ ld1) ∧ (lb ≤ lb1)))) := by
  have hS : gSs rT 1027 ty [50006, 55008, 56000, 56001, 56002, 56003, 64999, 71005, 71006, 71007, 71008, 71009, 71010, 71011, 71012, 71013, 71014, 72999, 73999, 74999, 76999, 77999, 78999, 79999, 80999, 81999, 85999, 91004, 91008, 92004, 92008, 93999, 94999, 95999, 96999, 97999, 98999, 99999, 114999] h h := gSs.rf hJ
  have G0 : gSg [71, 72, 73, 74, 75, 76, 77, 78, 79, 80, 81, 85, 91, 92, 93, 94, 95, 96, 97, 98, 99, 114, 200] [] [50006, 55008, 56000, 56001, 56002, 56003, 64999, 71005, 71006, 71007, 71008, 71009, 71010, 71011, 71012, 71013, 71014, 72999, 73999, 74999, 76999, 77999, 78999, 79999, 80999, 81999, 85999, 91004, 91008, 92004, 92008, 93999, 94999, 95999, 96999, 97999, 98999, 99999, 114999] ty h ty h := gSg.rf hJ (fun x hx => by cases hx)
  obtain ⟨pic, b0, b1, b2, dr, sk, bt, n0, c0, i0, dw, dh, ⟨_, tdr, tsk, tbt⟩, ⟨ex2, ex3, ex4, ex0⟩, hpc, htc, ⟨en0, rn0⟩, ⟨eiv, ri0⟩, ⟨ec0, rc0⟩, ⟨lc0, llb⟩, hrr, hrw, ⟨edw, rdw⟩, ⟨edh, rdh⟩, hwh, hcd, hxr, ⟨hsw, hc0⟩, htz⟩ := hyix
  have tpic := hpc.1.1
  have tb0 := hpc.1.2.1
  have tb1 := hpc.1.2.2.1
  have tb2 := hpc.1.2.2.2
  have hdw : iv / 64 % 64 = dw := by omega
  have hdh : iv / 4096 % 64 = dh := by omega
  have hdn : iv % 64 = n0 := by omega
  have hdi : iv / 262144 = i0 := by omega
  refine gz_s 2 (pc' := 2) (L' := [some (.ref x), some (.int (zi qu)), none]) (S' := [.int (zi 1), .int (zi qu)]) rfl ?_
  by_cases hc1 : (qu : Int) < 1
  · refine gy_icT (pc' := 11) rfl (by decide) (by decide) (by omega) (by omega) hc1 ?_
    have hl2 : 1024 ≤ h.2.2.2.1 bt ∧ h.2.2.2.1 bt ≤ 1000000 := gJ.rowl (G := gGG) hS.1 tbt rfl
    have hix3 : gIx ty x ld (h.2.2.2.1 bt : Int) (64 * dw + n0 + 4096 * dh + 262144 * i0) S h := ⟨pic, b0, b1, b2, dr, sk, bt, n0, c0, i0, dw, dh, ⟨tx, tdr, tsk, tbt⟩, ⟨ex2, ex3, ex4, ex0⟩, hpc, htc, ⟨en0, by omega, by omega⟩, ⟨eiv, by omega, by omega⟩, ⟨ec0, by omega, by omega⟩, ⟨by omega, by omega⟩, hrr, hrw, ⟨edw, by omega, by omega⟩, ⟨edh, by omega, by omega⟩, by omega, rfl, hxr, ⟨hsw, hc0⟩, htz⟩
    have hix4 : gIx ty x ld (h.2.2.2.1 bt : Int) (64 * dw + n0 + 4096 * dh + 262144 * i0) (eQ3 qu (iv / 262144) (iv / 64 % 64) (iv / 4096 % 64) (iv % 64) S) h := by rw [eQ3_n (by omega)]; exact hix3
    have G5 : gSg [71, 72, 73, 74, 75, 76, 77, 78, 79, 80, 81, 85, 91, 92, 93, 94, 95, 96, 97, 98, 99, 114, 200] [] [50006, 55008, 56000, 56001, 56002, 56003, 64999, 71005, 71006, 71007, 71008, 71009, 71010, 71011, 71012, 71013, 71014, 72999, 73999, 74999, 76999, 77999, 78999, 79999, 80999, 81999, 85999, 91004, 91008, 92004, 92008, 93999, 94999, 95999, 96999, 97999, 98999, 99999, 114999] ty h ty h := gSg.ss G0 hS (by decide)
    exact gz_end (I := .new 134) (len := 3) rfl (Or.inr (by decide)) ⟨ty, G5, ld, (h.2.2.2.1 bt : Int), (64 * dw + n0 + 4096 * dh + 262144 * i0), (by omega), (by omega), (by omega), (by omega), (by omega), (by omega), hix4, uq, Or.inr ⟨rfl, Or.inl ⟨rfl, (by omega)⟩, (by omega), (by dsimp only; omega), (by dsimp only; omega), (by omega), (by omega)⟩⟩
  · refine gy_icF rfl (by decide) (by decide) (by omega) (by omega) hc1 ?_
    refine gz_s 2 (pc' := 8) (L' := [some (.ref x), some (.int (zi qu)), none]) (S' := [.int (zi 100), .int (zi qu)]) rfl ?_
    by_cases hc6 : (qu : Int) ≤ 100
    · refine gy_icT (pc' := 21) rfl (by decide) (by decide) (by omega) (by omega) hc6 ?_
      refine gz_s 1 (pc' := 22) (L' := [some (.ref x), some (.int (zi qu)), none]) (S' := [.ref x]) rfl ?_
      refine gs_gtk rfl (by decide) rfl hS.1 tx rfl rfl ex3 ?_
      refine gs_gtk rfl (by decide) rfl hS.1 tdr rfl rfl edw ?_
      refine gz_s 1 (pc' := 29) (L' := [some (.ref x), some (.int (zi qu)), none]) (S' := [.int (zi 1), .int (zi dw)]) rfl ?_
      by_cases hc7 : (1 : Int) ≤ dw
      · refine gy_icT (pc' := 42) rfl (by decide) (by decide) (by omega) (by omega) hc7 ?_
        have hok : 1 ≤ qu ∧ qu ≤ 100 ∧ ¬ dw = 0 := ⟨by omega, by omega, by omega⟩
        obtain ⟨xr8, xr9, xr10, xr11, xr12, xr13, xr14⟩ := hxr
        refine gz_s 1 (pc' := 43) (L' := [some (.ref x), some (.int (zi qu)), none]) (S' := [.ref x]) rfl ?_
        refine gs_nul rfl (by decide) rfl hS.1 tx rfl rfl rfl (fun ec15 => ?_) (fun c15 ec15 tc15 => ?_)
        · skip
          have no9 := gRw.no hrw ec15
          refine gz_s 2 (pc' := 50) (L' := [some (.ref x), some (.int (zi qu)), none]) (S' := [.ref x]) rfl ?_
          refine gs_newo rfl (by decide) rfl hS.1 (Nat.le_of_lt (Nat.lt_of_le_of_lt (gJ.cell hS.1 tx rfl).1 (gJ.cell hS.1 tx rfl).2.1)) (fun ty16 h17 c18 g19 tc18 kc18 zc18 nc18 mc18 ec18 dc18 => ?_)
          have mfc18 : h17.2.1 = h.2.1 + 15 := mc18
          have gac18 : h.1 ≤ c18 := by have h8 := G0.2.1; have h9 := hS.2.1; omega
          have nnc18 : 1027 ≤ c18 := by have h8 := (Nat.le_of_lt (Nat.lt_of_le_of_lt (gJ.cell hS.1 tx rfl).1 (gJ.cell hS.1 tx rfl).2.1)); omega
          have llc18 := Nat.lt_of_lt_of_eq (Nat.lt_succ_of_le (Nat.le_of_eq ec18)) nc18.symm
          have G20 : gSg [71, 72, 73, 74, 75, 76, 77, 78, 79, 80, 81, 85, 91, 92, 93, 94, 95, 96, 97, 98, 99, 114, 200] [] [50006, 55008, 56000, 56001, 56002, 56003, 64999, 71005, 71006, 71007, 71008, 71009, 71010, 71011, 71012, 71013, 71014, 72999, 73999, 74999, 76999, 77999, 78999, 79999, 80999, 81999, 85999, 91004, 91008, 92004, 92008, 93999, 94999, 95999, 96999, 97999, 98999, 99999, 114999] ty h ty16 h17 := gSg.tr (gSg.ss G0 hS (by decide)) g19 (by decide) (by decide) (fun x hx => by cases hx)
          have t21 : ty16 x = 50 := gSg.typ g19 hS.1 tx rfl
          have t22 : ty16 pic = 54 := gSg.typ g19 hS.1 tpic rfl
          have t23 : ty16 b0 = 82 := gSg.typ g19 hS.1 tb0 rfl
          have t24 : ty16 b1 = 83 := gSg.typ g19 hS.1 tb1 rfl
          have t25 : ty16 b2 = 84 := gSg.typ g19 hS.1 tb2 rfl
          have t26 : ty16 dr = 55 := gSg.typ g19 hS.1 tdr rfl
          have t27 : ty16 sk = 56 := gSg.typ g19 hS.1 tsk rfl
          have t28 : ty16 bt = 114 := gSg.typ g19 hS.1 tbt rfl
          have hl29 : h17.2.2.2.1 bt = h.2.2.2.1 bt := gSg.len g19 hS.1 tbt rfl
          have s30 := gSg.at g19 hS.1 tx rfl (by decide) ex2
          have s31 := gSg.at g19 hS.1 tx rfl (by decide) ex3
          have s32 := gSg.at g19 hS.1 tx rfl (by decide) ex4
          have s33 := gSg.at g19 hS.1 tsk rfl (by decide) ex0
          have s34 := gSg.at g19 hS.1 tdr rfl (by decide) en0
          have s35 := gSg.at g19 hS.1 tdr rfl (by decide) eiv
          have s36 := gSg.at g19 hS.1 tdr rfl (by decide) edw
          have s37 := gSg.at g19 hS.1 tdr rfl (by decide) edh
          have s38 := gSg.at g19 hS.1 tsk rfl (by decide) ec0
          have s39 := gSg.at g19 hS.1 tx rfl (by decide) ec15
          have pr40 := gStx.gr g19 (by decide) (fun x hx => by cases hx) hysx
          have pr41 := gSW.gr g19 hS.1 (by decide) hsw
          have pr42 := gPC.gr g19 hS.1 (by decide) hpc
          have pr43 := gTc.gr g19 hS.1 (by decide) (by decide) htc
          have pr44 := gRr.gr g19 hS.1 (by decide) (by decide) hrr
          have pr45 := gRw.gr g19 hS.1 (by decide) (by decide) hrw
          have pr46 := gRn.gr g19 hS.1 rfl (by decide) (by decide) xr8
          have pr47 := gRn.gr g19 hS.1 rfl (by decide) (by decide) xr9
          have pr48 := gRn.gr g19 hS.1 rfl (by decide) (by decide) xr10
          have pr49 := gRn.gr g19 hS.1 rfl (by decide) (by decide) xr11
          have pr50 := gRn.gr g19 hS.1 rfl (by decide) (by decide) xr12
          have pr51 := gRn.gr g19 hS.1 rfl (by decide) (by decide) xr13
          have pr52 := gRn.gr g19 hS.1 rfl (by decide) (by decide) xr14
          have pr53 : gNo [71, 72, 73, 74, 75, 76, 77, 78, 79, 80, 81, 85, 91, 92, 93, 94, 95, 96, 97, 98, 99] ty16 := gNo.gr g19 (by decide) (gNo.sub (by decide) no9)
          have uq54 := gSg.uq g19 uq (by decide)
          have hyst55 := gSta.gr g19 (by decide) (fun x hx => by cases hx) (gSta.fr hS.2 (by decide) hyst)
          have sS56 : gSs rT 1027 ty16 [50006, 55008, 56000, 56001, 56002, 56003, 64999, 71005, 71006, 71007, 71008, 71009, 71010, 71011, 71012, 71013, 71014, 72999, 73999, 74999, 76999, 77999, 78999, 79999, 80999, 81999, 85999, 91004, 91008, 92004, 92008, 93999, 94999, 95999, 96999, 97999, 98999, 99999, 114999] h17 h17 := gSs.rf g19.1
          refine gz_s 2 (pc' := 55) (L' := [some (.ref x), some (.int (zi qu)), none]) (S' := [.ref x, .ref c18, .ref c18, .ref x]) rfl ?_
          refine gs_gtk rfl (by decide) rfl sS56.1 t21 rfl rfl s32 ?_
          refine gz_call rfl (by decide) rfl (by decide) (by decide) (gcal_of rfl rfl rfl (Nat.le_of_ble_eq_true rfl) rfl) (ct_Writer _ sS56.1 c18 tc18 nnc18 llc18 kc18 zc18 dc18 sk t27 pr53 uq54) (fun q57 _ wq57 => ?_)
          obtain ⟨pq57, oq57, hq57⟩ := q57
          obtain ⟨tyq57, xq57, trq57_0, gq57, uq57_0, uq57_1, uqq57⟩ := wq57
          dsimp only at uq57_0 uq57_1
          refine ⟨_, gq57, ?_⟩
          show gz gPP gGG gcn _ _ 61 [some (.ref x), some (.int (zi qu)), none] [.ref c18, .ref x] hq57 _
          have G58 : gSg [71, 72, 73, 74, 75, 76, 77, 78, 79, 80, 81, 85, 91, 92, 93, 94, 95, 96, 97, 98, 99, 114, 200] [] [50006, 55008, 56000, 56001, 56002, 56003, 64999, 71005, 71006, 71007, 71008, 71009, 71010, 71011, 71012, 71013, 71014, 72999, 73999, 74999, 76999, 77999, 78999, 79999, 80999, 81999, 85999, 91004, 91008, 92004, 92008, 93999, 94999, 95999, 96999, 97999, 98999, 99999, 114999] ty h tyq57 hq57 := gSg.tr (gSg.ss G20 sS56 (by decide)) xq57 (by decide) (by decide) (fun x hx => Or.inl (by rw [List.mem_singleton.mp hx]; exact gac18))
          have t59 : tyq57 x = 50 := gSg.typ xq57 sS56.1 t21 rfl
          have t60 : tyq57 pic = 54 := gSg.typ xq57 sS56.1 t22 rfl
          have t61 : tyq57 b0 = 82 := gSg.typ xq57 sS56.1 t23 rfl
          have t62 : tyq57 b1 = 83 := gSg.typ xq57 sS56.1 t24 rfl
          have t63 : tyq57 b2 = 84 := gSg.typ xq57 sS56.1 t25 rfl
          have t64 : tyq57 dr = 55 := gSg.typ xq57 sS56.1 t26 rfl
          have t65 : tyq57 sk = 56 := gSg.typ xq57 sS56.1 t27 rfl
          have t66 : tyq57 bt = 114 := gSg.typ xq57 sS56.1 t28 rfl
          have hl67 : hq57.2.2.2.1 bt = h17.2.2.2.1 bt := gSg.len xq57 sS56.1 t28 rfl
          have s68 := gSg.at xq57 sS56.1 t21 rfl (by decide) s30
          have s69 := gSg.at xq57 sS56.1 t21 rfl (by decide) s31
          have s70 := gSg.at xq57 sS56.1 t21 rfl (by decide) s32
          have s71 := gSg.at xq57 sS56.1 t27 rfl (by decide) s33
          have s72 := gSg.at xq57 sS56.1 t26 rfl (by decide) s34
          have s73 := gSg.at xq57 sS56.1 t26 rfl (by decide) s35
          have s74 := gSg.at xq57 sS56.1 t26 rfl (by decide) s36
          have s75 := gSg.at xq57 sS56.1 t26 rfl (by decide) s37
          have s76 := gSg.at xq57 sS56.1 t27 rfl (by decide) s38
          have s77 := gSg.at xq57 sS56.1 t21 rfl (by decide) s39
          have pr78 := gStx.gr xq57 (by decide) (fun x hx => by rw [List.mem_singleton.mp hx]; have h9 := nnc18; omega) pr40
          have pr79 := gSW.gr xq57 sS56.1 (by decide) pr41
          have pr80 := gPC.gr xq57 sS56.1 (by decide) pr42
          have pr81 := gTc.gr xq57 sS56.1 (by decide) (by decide) pr43
          have pr82 := gRr.gr xq57 sS56.1 (by decide) (by decide) pr44
          have pr83 := gRn.gr xq57 sS56.1 rfl (by decide) (by decide) pr46
          have pr84 := gRn.gr xq57 sS56.1 rfl (by decide) (by decide) pr47
          have pr85 := gRn.gr xq57 sS56.1 rfl (by decide) (by decide) pr48
          have pr86 := gRn.gr xq57 sS56.1 rfl (by decide) (by decide) pr49
          have pr87 := gRn.gr xq57 sS56.1 rfl (by decide) (by decide) pr50
          have pr88 := gRn.gr xq57 sS56.1 rfl (by decide) (by decide) pr51
          have pr89 := gRn.gr xq57 sS56.1 rfl (by decide) (by decide) pr52
          have hyst90 := gSta.gr xq57 (by decide) (fun x hx => by rw [List.mem_singleton.mp hx]; have h9 := nnc18; omega) (gSta.fr sS56.2 (by decide) hyst55)
          have sS91 : gSs rT 1027 tyq57 [50006, 55008, 56000, 56001, 56002, 56003, 64999, 71005, 71006, 71007, 71008, 71009, 71010, 71011, 71012, 71013, 71014, 72999, 73999, 74999, 76999, 77999, 78999, 79999, 80999, 81999, 85999, 91004, 91008, 92004, 92008, 93999, 94999, 95999, 96999, 97999, 98999, 99999, 114999] hq57 hq57 := gSs.rf xq57.1
          refine gs_ptr (s9 := 0) rfl (by decide) rfl sS91 t59 rfl rfl (Or.inr rfl) rfl (Or.inl rfl) (by decide) trq57_0 (fun h92 sh92 eh92 fh92 => ?_)
          have pr93 := gStx.pt sS91 sh92 fh92 t59 (by decide) pr78
          have pr94 := gSW.pt fh92 t59 (by decide) pr79
          have pr95 := gPC.pk fh92 (sh92.2.2.2.2.1.trans sS91.2.2.2.2.1.symm) t59 (by decide) pr80
          have pr96 := gTc.pt fh92 t59 (by decide) pr81
          have pr97 := gRr.pk fh92 (sh92.2.2.2.2.1.trans sS91.2.2.2.2.1.symm) t59 (by decide) pr82
          have pr98 := gRn.pt fh92 t59 (by decide) pr83
          have pr99 := gRn.pt fh92 t59 (by decide) pr84
          have pr100 := gRn.pt fh92 t59 (by decide) pr85
          have pr101 := gRn.pt fh92 t59 (by decide) pr86
          have pr102 := gRn.pt fh92 t59 (by decide) pr87
          have pr103 := gRn.pt fh92 t59 (by decide) pr88
          have pr104 := gRn.pt fh92 t59 (by decide) pr89
          have s105 := (fh92 x 2 (fun q => absurd q.2 (by decide))).trans s68
          have s106 := (fh92 x 3 (fun q => absurd q.2 (by decide))).trans s69
          have s107 := (fh92 x 4 (fun q => absurd q.2 (by decide))).trans s70
          have s108 := (fh92 sk 0 (fun q => absurd q.2 (by decide))).trans s71
          have s109 := (fh92 dr 8 (fun q => absurd q.2 (by decide))).trans s72
          have s110 := (fh92 dr 3 (fun q => absurd q.2 (by decide))).trans s73
          have s111 := (fh92 dr 1 (fun q => absurd q.2 (by decide))).trans s74
          have s112 := (fh92 dr 2 (fun q => absurd q.2 (by decide))).trans s75
          have s113 := (fh92 sk 1 (fun q => absurd q.2 (by decide))).trans s76
          refine gz_s 1 (pc' := 65) (L' := [some (.ref x), some (.int (zi qu)), none]) (S' := [.ref x]) rfl ?_
          refine gs_gtk rfl (by decide) rfl sh92.1 t59 rfl rfl eh92 ?_
          refine gz_s 1 (pc' := 69) (L' := [some (.ref x), some (.int (zi qu)), none]) (S' := [.ref x, .ref c18]) rfl ?_
          refine gs_gtr rfl (by decide) rfl sh92.1 t59 rfl rfl rfl (fun c114 ec114 tc114 => ?_)
          refine gz_s 1 (pc' := 73) (L' := [some (.ref x), some (.int (zi qu)), none]) (S' := [.int (zi qu), .ref c114, .ref c18]) rfl ?_
          refine gz_call rfl (by decide) rfl (by decide) (by decide) (gcal_of rfl rfl rfl (Nat.le_of_ble_eq_true rfl) (gJ.recv (G := gGG) sh92.1 trq57_0 rfl rfl)) (cw_makeTable _ sh92.1 c18 trq57_0 c114 tc114 qu ⟨by omega, by omega⟩ S.1.1 uqq57 pr98) (fun q115 _ wq115 => ?_)
          obtain ⟨pq115, oq115, hq115⟩ := q115
          obtain ⟨xq115, gq115, yq115_0⟩ := wq115
          refine ⟨_, gq115, ?_⟩
          show gz gPP gGG gcn _ _ 76 [some (.ref x), some (.int (zi qu)), none] [] hq115 _
          have sq115 : gSs rT 1027 tyq57 [50006, 55008, 56000, 56001, 56002, 56003, 64999, 71005, 71006, 71007, 71008, 71009, 71010, 71011, 71012, 71013, 71014, 72999, 73999, 74999, 76999, 77999, 78999, 79999, 80999, 81999, 85999, 91004, 91008, 92004, 92008, 93999, 94999, 95999, 96999, 97999, 98999, 99999, 114999] hq57 hq115 := gSs.tr sh92 xq115 (by decide)
          have s116 := (xq115.2.2.2.2.2 x 2 (by rw [t59]; decide)).trans s105
          have s117 := (xq115.2.2.2.2.2 x 3 (by rw [t59]; decide)).trans s106
          have s118 := (xq115.2.2.2.2.2 x 4 (by rw [t59]; decide)).trans s107
          have s119 := (xq115.2.2.2.2.2 sk 0 (by rw [t65]; decide)).trans s108
          have s120 := (xq115.2.2.2.2.2 dr 8 (by rw [t64]; decide)).trans s109
          have s121 := (xq115.2.2.2.2.2 dr 3 (by rw [t64]; decide)).trans s110
          have s122 := (xq115.2.2.2.2.2 dr 1 (by rw [t64]; decide)).trans s111
          have s123 := (xq115.2.2.2.2.2 dr 2 (by rw [t64]; decide)).trans s112
          have s124 := (xq115.2.2.2.2.2 sk 1 (by rw [t65]; decide)).trans s113
          have s125 := (xq115.2.2.2.2.2 x 6 (by rw [t59]; decide)).trans eh92
          have s126 := (xq115.2.2.2.2.2 x 1 (by rw [t59]; decide)).trans ec114
          have pr127 := gStx.fr xq115.2 (by decide) pr93
          have pr128 := gSW.fr xq115.2 (by decide) pr94
          have pr129 := gPC.fr xq115.2 (by decide) pr95
          have pr130 := gTc.fr xq115.2 (by decide) pr96
          have pr131 := gRr.fr xq115.2 (by decide) pr97
          have pr132 := gRn.fr xq115.2 (by decide) pr98
          have pr133 := gRn.fr xq115.2 (by decide) pr99
          have pr134 := gRn.fr xq115.2 (by decide) pr100
          have pr135 := gRn.fr xq115.2 (by decide) pr101
          have pr136 := gRn.fr xq115.2 (by decide) pr102
          have pr137 := gRn.fr xq115.2 (by decide) pr103
          have pr138 := gRn.fr xq115.2 (by decide) pr104
          refine gz_s 1 (pc' := 77) (L' := [some (.ref x), some (.int (zi qu)), none]) (S' := [.ref x]) rfl ?_
          refine gs_gtk rfl (by decide) rfl sq115.1 t59 rfl rfl s125 ?_
          refine gz_s 1 (pc' := 81) (L' := [some (.ref x), some (.int (zi qu)), none]) (S' := [.ref x, .ref c18]) rfl ?_
          refine gs_gtk rfl (by decide) rfl sq115.1 t59 rfl rfl s117 ?_
          refine gz_call rfl (by decide) rfl (by decide) (by decide) (gcal_of rfl rfl rfl (Nat.le_of_ble_eq_true rfl) (gJ.recv (G := gGG) sq115.1 trq57_0 rfl rfl)) (cw_transformCanvas _ sq115.1 c18 trq57_0 dr t64 dw s122 ⟨by omega, by omega⟩ dh s123 ⟨by omega, by omega⟩ S.1.2.1 (eTb S.1.1 qu) uqq57 pr133 yq115_0 pr127 eTb_b) (fun q139 _ wq139 => ?_)
          obtain ⟨pq139, oq139, hq139⟩ := q139
          obtain ⟨xq139, fq139_0, gq139, efq139_0, afq139_0, bfq139_0, uq139_0, yq139_0⟩ := wq139
          refine ⟨_, gq139, ?_⟩
          show gz gPP gGG gcn _ _ 87 [some (.ref x), some (.int (zi qu)), none] [] hq139 _
          have sq139 : gSs rT 1027 tyq57 [50006, 55008, 56000, 56001, 56002, 56003, 64999, 71005, 71006, 71007, 71008, 71009, 71010, 71011, 71012, 71013, 71014, 72999, 73999, 74999, 76999, 77999, 78999, 79999, 80999, 81999, 85999, 91004, 91008, 92004, 92008, 93999, 94999, 95999, 96999, 97999, 98999, 99999, 114999] hq57 hq139 := gSs.tr sq115 xq139 (by decide)
          have s140 := (xq139.2.2.2.2.2 x 2 (by rw [t59]; decide)).trans s116
          have s141 := (xq139.2.2.2.2.2 x 3 (by rw [t59]; decide)).trans s117
          have s142 := (xq139.2.2.2.2.2 x 4 (by rw [t59]; decide)).trans s118
          have s143 := (xq139.2.2.2.2.2 sk 0 (by rw [t65]; decide)).trans s119
          have s144 := (xq139.2.2.2.2.2 dr 8 (by rw [t64]; decide)).trans s120
          have s145 := (xq139.2.2.2.2.2 dr 3 (by rw [t64]; decide)).trans s121
          have s146 := (xq139.2.2.2.2.2 dr 1 (by rw [t64]; decide)).trans s122
          have s147 := (xq139.2.2.2.2.2 dr 2 (by rw [t64]; decide)).trans s123
          have s148 := (xq139.2.2.2.2.2 sk 1 (by rw [t65]; decide)).trans s124
          have s149 := (xq139.2.2.2.2.2 x 6 (by rw [t59]; decide)).trans s125
          have s150 := (xq139.2.2.2.2.2 x 1 (by rw [t59]; decide)).trans s126
          have pr151 := gStx.fr xq139.2 (by decide) pr127
          have pr152 := gSW.fr xq139.2 (by decide) pr128
          have pr153 := gPC.fr xq139.2 (by decide) pr129
          have pr154 := gTc.fr xq139.2 (by decide) pr130
          have pr155 := gRr.fr xq139.2 (by decide) pr131
          have pr156 := gRn.fr xq139.2 (by decide) pr132
          have pr157 := gRn.fr xq139.2 (by decide) pr133
          have pr158 := gRn.fr xq139.2 (by decide) pr134
          have pr159 := gRn.fr xq139.2 (by decide) pr135
          have pr160 := gRn.fr xq139.2 (by decide) pr136
          have pr161 := gRn.fr xq139.2 (by decide) pr137
          have pr162 := gRn.fr xq139.2 (by decide) pr138
          have pr163 := gRn.fr xq139.2 (by decide) yq115_0
          have hmb : fq139_0 = zup dw 8 * zup dh 8 := uq139_0
          have hmn : (fq139_0).toNat = (zup dw 8 * zup dh 8).toNat := by rw [hmb]
          refine gz_s 1 (pc' := 88) (L' := [some (.ref x), some (.int (zi qu)), none]) (S' := [.ref x]) rfl ?_
          refine gs_gtk rfl (by decide) rfl sq139.1 t59 rfl rfl s149 ?_
          refine gz_s 1 (pc' := 92) (L' := [some (.ref x), some (.int (zi qu)), none]) (S' := [.ref x, .ref c18]) rfl ?_
          refine gs_gtk rfl (by decide) rfl sq139.1 t59 rfl rfl s141 ?_
          have k164 := sq139.2.1
          have k164b := sq139.2.2.1
          have hl165 : hq139.2.2.2.1 bt = hq57.2.2.2.1 bt := congrFun sq139.2.2.2.2.1 bt
          obtain ⟨c166, ec166, tc166⟩ := gJ.ref (k := 0) (G := gGG) sq139.1 trq57_0 rfl rfl rfl
          have ee167 : sk = c166 := uqq57 sk c166 (t65.trans tc166.symm) (by rw [t65]; decide) (by rw [t65]; decide)
          subst ee167
          refine gz_call rfl (by decide) rfl (by decide) (by decide) (gcal_of rfl rfl rfl (Nat.le_of_ble_eq_true rfl) (gJ.recv (G := gGG) sq139.1 trq57_0 rfl rfl)) (cw_putHead _ sq139.1 c18 trq57_0 dr t64 sk ec166 t65 bt s143 t66 i0 s145 ⟨by omega, by omega⟩ n0 s144 ⟨by omega, by omega⟩ dh s147 ⟨by omega, by omega⟩ dw s146 ⟨by omega, by omega⟩ (eTb S.1.1 qu) uqq57 pr163) (fun q168 _ wq168 => ?_)
          obtain ⟨pq168, oq168, hq168⟩ := q168
          obtain ⟨tyq168, xq168, cq168_0, ttq168, fq168_0, fq168_1, fq168_2, fq168_3, ecq168_0, tcq168_0, gq168, efq168_0, afq168_0, bfq168_0, efq168_1, afq168_1, bfq168_1, efq168_2, afq168_2, bfq168_2, efq168_3, afq168_3, bfq168_3, uq168_0, uq168_1, uq168_2, uq168_3, uq168_4, uq168_5, uq168_6, uq168_7, uq168_8, uq168_9, uq168_10, yq168_0, yq168_1⟩ := wq168
          dsimp only at uq168_7 uq168_8 uq168_9 uq168_10
          refine ⟨_, gq168, ?_⟩
          show gz gPP gGG gcn _ _ 98 [some (.ref x), some (.int (zi qu)), none] [] hq168 _
          have G169 : gSg [71, 72, 73, 74, 75, 76, 77, 78, 79, 80, 81, 85, 91, 92, 93, 94, 95, 96, 97, 98, 99, 114, 200] [] [50006, 55008, 56000, 56001, 56002, 56003, 64999, 71005, 71006, 71007, 71008, 71009, 71010, 71011, 71012, 71013, 71014, 72999, 73999, 74999, 76999, 77999, 78999, 79999, 80999, 81999, 85999, 91004, 91008, 92004, 92008, 93999, 94999, 95999, 96999, 97999, 98999, 99999, 114999] ty h tyq168 hq168 := gSg.tr (gSg.ss G58 sq139 (by decide)) xq168 (by decide) (by decide) (fun x hx => by cases hx)
          have t170 : tyq168 x = 50 := gSg.typ xq168 sq139.1 t59 rfl
          have t171 : tyq168 pic = 54 := gSg.typ xq168 sq139.1 t60 rfl
          have t172 : tyq168 b0 = 82 := gSg.typ xq168 sq139.1 t61 rfl
          have t173 : tyq168 b1 = 83 := gSg.typ xq168 sq139.1 t62 rfl
          have t174 : tyq168 b2 = 84 := gSg.typ xq168 sq139.1 t63 rfl
          have t175 : tyq168 dr = 55 := gSg.typ xq168 sq139.1 t64 rfl
          have t176 : tyq168 sk = 56 := gSg.typ xq168 sq139.1 t65 rfl
          have t177 : tyq168 bt = 114 := gSg.typ xq168 sq139.1 t66 rfl
          have hl178 : hq168.2.2.2.1 bt = hq139.2.2.2.1 bt := gSg.len xq168 sq139.1 t66 rfl
          have t179 : tyq168 c18 = 71 := gSg.typ xq168 sq139.1 trq57_0 rfl
          have t180 : tyq168 c114 = 53 := gSg.typ xq168 sq139.1 tc114 rfl
          have s181 := gSg.at xq168 sq139.1 t59 rfl (by decide) s140
          have s182 := gSg.at xq168 sq139.1 t59 rfl (by decide) s141
          have s183 := gSg.at xq168 sq139.1 t59 rfl (by decide) s142
          have s184 := gSg.at xq168 sq139.1 t64 rfl (by decide) s144
          have s185 := gSg.at xq168 sq139.1 t64 rfl (by decide) s145
          have s186 := gSg.at xq168 sq139.1 t64 rfl (by decide) s146
          have s187 := gSg.at xq168 sq139.1 t64 rfl (by decide) s147
          have s188 := gSg.at xq168 sq139.1 t59 rfl (by decide) s149
          have s189 := gSg.at xq168 sq139.1 t59 rfl (by decide) s150
          have s190 := gSg.at xq168 sq139.1 trq57_0 rfl (by decide) efq139_0
          have s191 := gSg.at xq168 sq139.1 trq57_0 rfl (by decide) ec166
          have pr192 := gStx.gr xq168 (by decide) (fun x hx => by cases hx) pr151
          have pr193 := gPC.gr xq168 sq139.1 (by decide) pr153
          have pr194 := gTc.gr xq168 sq139.1 (by decide) (by decide) pr154
          have pr195 := gRr.gr xq168 sq139.1 (by decide) (by decide) pr155
          have pr196 := gRn.gr xq168 sq139.1 rfl (by decide) (by decide) pr156
          have pr197 := gRn.gr xq168 sq139.1 rfl (by decide) (by decide) pr157
          have pr198 := gRn.gr xq168 sq139.1 rfl (by decide) (by decide) pr158
          have pr199 := gRn.gr xq168 sq139.1 rfl (by decide) (by decide) pr159
          have pr200 := gRn.gr xq168 sq139.1 rfl (by decide) (by decide) pr160
          have pr201 := gRn.gr xq168 sq139.1 rfl (by decide) (by decide) pr161
          have pr202 := gRn.gr xq168 sq139.1 rfl (by decide) (by decide) pr162
          have pr203 := gRn.gr xq168 sq139.1 rfl (by decide) (by decide) pr163
          have pr204 := gRn.gr xq168 sq139.1 rfl (by decide) (by decide) yq139_0
          have uq205 := gSg.uq xq168 uqq57 (by decide)
          have hyst206 := gSta.gr xq168 (by decide) (fun x hx => by cases hx) (gSta.fr sq139.2 (by decide) hyst90)
          have sS207 : gSs rT 1027 tyq168 [50006, 55008, 56000, 56001, 56002, 56003, 64999, 71005, 71006, 71007, 71008, 71009, 71010, 71011, 71012, 71013, 71014, 72999, 73999, 74999, 76999, 77999, 78999, 79999, 80999, 81999, 85999, 91004, 91008, 92004, 92008, 93999, 94999, 95999, 96999, 97999, 98999, 99999, 114999] hq168 hq168 := gSs.rf xq168.1
          have hiw : fq168_3 = i0 := by omega
          obtain ⟨c208, ec208, tc208⟩ := gJ.ref (k := 4) (G := gGG) sS207.1 t175 rfl rfl rfl
          obtain ⟨c209, ec209, tc209⟩ := gJ.ref (k := 5) (G := gGG) sS207.1 t175 rfl rfl rfl
          obtain ⟨tle, tsm⟩ := gTc.fn pr194 pr198 pr199 tc208 tc209 (by omega)
          have hgl0 : gTl S.1.2.2.1 S.1.2.2.2.1 0 = 0 := rfl
          refine gz_s 1 (pc' := 99) (L' := [some (.ref x), some (.int (zi qu)), none]) (S' := [.ref x]) rfl ?_
          refine gs_gtk rfl (by decide) rfl sS207.1 t170 rfl rfl s182 ?_
          refine gs_gtk rfl (by decide) rfl sS207.1 t175 rfl rfl s184 ?_
          by_cases hc210 : ¬ (n0 : Int) = 0
          · refine gy_ifT (pc' := 120) rfl (by decide) (by decide) (by omega) hc210 ?_
            have hk211 : eKk qu i0 dw dh n0 S 0 = eHd (eTb S.1.1 qu) n0 dh dw i0 := eKk_0 (by omega)
            have hk211_1 : (eKk qu i0 dw dh n0 S 0).1 = (eHd (eTb S.1.1 qu) n0 dh dw i0).1 := by rw [hk211]
            have hk211_21 : (eKk qu i0 dw dh n0 S 0).2.1 = (eHd (eTb S.1.1 qu) n0 dh dw i0).2.1 := by rw [hk211]
            have hk211_221 : (eKk qu i0 dw dh n0 S 0).2.2.1 = (eHd (eTb S.1.1 qu) n0 dh dw i0).2.2.1 := by rw [hk211]
            have hsw212 : gSW tyq168 cq168_0 (eKk qu i0 dw dh n0 S 0) hq168 := by rw [hk211]; exact yq168_0
            have hok213 : eeOk (eKk qu i0 dw dh n0 S 0) := by rw [hk211]; exact yq168_1
            have hoc214 := hok213.cur
            refine gz_s 2 (pc' := 122) (L' := [some (.ref x), some (.int (zi qu)), some (.int (zi 0))]) (S' := []) rfl ?_
            have lp215 : ∀ (fu : Nat) (ty217 : Nat → Nat) (h216 : gH) (bv : Nat) (i : Int) (cv : Int) (uv : Int) (hv : Int), (11 - i).toNat < fu → gSg [71, 72, 73, 74, 75, 76, 77, 78, 79, 80, 81, 85, 91, 92, 93, 94, 95, 96, 97, 98, 99, 114, 200] [] [50006, 55008, 56000, 56001, 56002, 56003, 64999, 71005, 71006, 71007, 71008, 71009, 71010, 71011, 71012, 71013, 71014, 72999, 73999, 74999, 76999, 77999, 78999, 79999, 80999, 81999, 85999, 91004, 91008, 92004, 92008, 93999, 94999, 95999, 96999, 97999, 98999, 99999, 114999] ty h ty217 h216 → gUq ty217 → gSta ty217 h216 → ty217 x = 50 → ty217 pic = 54 → ty217 dr = 55 → ty217 sk = 56 → ty217 c18 = 71 → ty217 c114 = 53 → ty217 c208 = 60 → ty217 c209 = 61 → h216.2.2.2.2 sk 0 = .ref bv → ty217 bv = 114 → (0 ≤ i ∧ i ≤ 10) → (0 ≤ cv ∧ cv ≤ 499999) → (0 ≤ uv ∧ uv ≤ 127) → (0 ≤ hv ∧ hv ≤ 7) → ((n0 = 0 ∧ 4 * cv + hv ≤ 336000) ∨ 4 * cv + hv ≤ 400 + 7876 * i + 5120 * gTl S.1.2.2.1 S.1.2.2.2.1 i) → (i ≤ n0) → (cv ≤ (h216.2.2.2.1 bv : Int)) → (1024 * (((h216.1 : Int) - h.1) - 21) ≤ (h216.2.2.2.1 bv : Int) - lb) → (((h216.2.1 : Int) - h.2.1) ≤ 4303 + 2 * ((h216.2.2.2.1 bv : Int) - lb)) → (lb ≤ (h216.2.2.2.1 bv : Int)) → (cv = (eKk qu i0 dw dh n0 S i).1) → (uv = (eKk qu i0 dw dh n0 S i).2.1) → (hv = (eKk qu i0 dw dh n0 S i).2.2.1) → h216.2.2.2.2 x 2 = .ref pic → h216.2.2.2.2 x 3 = .ref dr → h216.2.2.2.2 x 4 = .ref sk → h216.2.2.2.2 dr 8 = .int (zi n0) → h216.2.2.2.2 dr 3 = .int (zi i0) → h216.2.2.2.2 dr 1 = .int (zi dw) → h216.2.2.2.2 dr 2 = .int (zi dh) → h216.2.2.2.2 x 6 = .ref c18 → h216.2.2.2.2 x 1 = .ref c114 → h216.2.2.2.2 c18 5 = .int (zi fq139_0) → h216.2.2.2.2 c18 0 = .ref sk → h216.2.2.2.2 c18 6 = .int (zi fq168_3) → h216.2.2.2.2 dr 4 = .ref c208 → h216.2.2.2.2 dr 5 = .ref c209 → h216.2.2.2.2 sk 1 = .int (zi cv) → h216.2.2.2.2 sk 2 = .int (zi uv) → h216.2.2.2.2 sk 3 = .int (zi hv) → gStx ty217 h216 → gPC ty217 pic b0 b1 b2 ld h216 → gTc ty217 n0 h216 → gRr ty217 x h216 → gRn 256 ty217 53 S.1.1 h216 → gRn 1024 ty217 59 S.1.2.1 h216 → gRn 10 ty217 60 S.1.2.2.1 h216 → gRn 10 ty217 61 S.1.2.2.2.1 h216 → gRn 10 ty217 62 S.1.2.2.2.2.1 h216 → gRn 10 ty217 63 S.1.2.2.2.2.2.1 h216 → gRn 64 ty217 64 S.1.2.2.2.2.2.2 h216 → gRn 64 ty217 72 (eTb S.1.1 qu) h216 → gRn (64 * fq139_0).toNat ty217 73 (eCf S.1.2.1 (eTb S.1.1 qu) dw dh (zup dw 8)) h216 → gSW ty217 bv (eKk qu i0 dw dh n0 S i) h216 → eeOk (eKk qu i0 dw dh n0 S i) → gz gPP gGG gcn (d + 8) gt89 122 [some (.ref x), some (.int (zi qu)), some (.int (zi i))] [] h216 (fun q _ => ∃ ty9 : Nat → Nat, gSg [71, 72, 73, 74, 75, 76, 77, 78, 79, 80, 81, 85, 91, 92, 93, 94, 95, 96, 97, 98, 99, 114, 200] [] [50006, 55008, 56000, 56001, 56002, 56003, 64999, 71005, 71006, 71007, 71008, 71009, 71010, 71011, 71012, 71013, 71014, 72999, 73999, 74999, 76999, 77999, 78999, 79999, 80999, 81999, 85999, 91004, 91008, 92004, 92008, 93999, 94999, 95999, 96999, 97999, 98999, 99999, 114999] ty h ty9 q.2.2 ∧ ∃ ld1 lb1 iv1 : Int, 0 ≤ ld1 ∧ ld1 ≤ 192 ∧ 1024 ≤ lb1 ∧ lb1 ≤ 1000000 ∧ 0 ≤ iv1 ∧ iv1 ≤ 26476544 ∧ (gIx ty9 x ld1 lb1 iv1 (eQ3 qu (iv / 262144) (iv / 64 % 64) (iv / 4096 % 64) (iv % 64) S) q.2.2) ∧ gUq ty9 ∧ ((∃ z : Int, gfin gt89 q.1 q.2.1 = some (some (.int (zi z))) ∧ (-2147483648) ≤ z ∧ z ≤ 2147483647 ∧ (1 ≤ qu) ∧ (qu ≤ 100) ∧ (1 ≤ iv / 64 % 64) ∧ (iv1 = iv - iv % 64) ∧ (z = (eNn qu (iv / 262144) (iv / 64 % 64) (iv / 4096 % 64) (iv % 64) S).1) ∧ (1024 * (((q.2.2.1 : Int) - h.1) - 31 - 2 * (ld1 - ld)) ≤ lb1 - lb) ∧ (((q.2.2.2.1 : Int) - h.2.1) ≤ 4303 + 12480 * (ld1 - ld) + 2 * (lb1 - lb)) ∧ (ld ≤ ld1) ∧ (lb ≤ lb1)) ∨ (q.2.1 = [] ∧ ((q.1 = 11 ∧ (¬ (1 ≤ qu ∧ qu ≤ 100))) ∨ (q.1 = 32 ∧ (1 ≤ qu) ∧ (qu ≤ 100) ∧ (iv / 64 % 64 = 0))) ∧ (iv1 = iv) ∧ (1024 * (((q.2.2.1 : Int) - h.1) - 31 - 2 * (ld1 - ld)) ≤ lb1 - lb) ∧ (((q.2.2.2.1 : Int) - h.2.1) ≤ 4303 + 12480 * (ld1 - ld) + 2 * (lb1 - lb)) ∧ (ld ≤ ld1) ∧ (lb ≤ lb1)))) := by
              intro fu
              induction fu with
              | zero => intro ty217 h216 bv i cv uv hv hm; exact absurd hm (Nat.not_lt_zero _)
              | succ fu ihlp215 =>
                intro ty217 h216 bv i cv uv hv lp215m lp215G lp215u lp215t lp215c0 lp215c1 lp215c2 lp215c3 lp215c4 lp215c5 lp215c6 lp215c7 lp215r0 lp215r1 lp215f0 lp215f1 lp215f2 lp215f3 lp215f4 lp215f5 lp215f6 lp215f7 lp215f8 lp215f9 lp215f10 lp215f11 lp215f12 lp215k0 lp215k1 lp215k2 lp215k3 lp215k4 lp215k5 lp215k6 lp215k7 lp215k8 lp215k9 lp215k10 lp215k11 lp215k12 lp215k13 lp215k14 lp215k15 lp215k16 lp215k17 lp215k18 lp215k19 lp215k20 lp215k21 lp215k22 lp215k23 lp215k24 lp215k25 lp215k26 lp215k27 lp215k28 lp215k29 lp215k30 lp215k31
                have sh216 : gSs rT 1027 ty217 [50006, 55008, 56000, 56001, 56002, 56003, 64999, 71005, 71006, 71007, 71008, 71009, 71010, 71011, 71012, 71013, 71014, 72999, 73999, 74999, 76999, 77999, 78999, 79999, 80999, 81999, 85999, 91004, 91008, 92004, 92008, 93999, 94999, 95999, 96999, 97999, 98999, 99999, 114999] h216 h216 := gSs.rf lp215G.1
                refine gz_s 2 (pc' := 124) (L' := [some (.ref x), some (.int (zi qu)), some (.int (zi i))]) (S' := [.ref x, .int (zi i)]) rfl ?_
                refine gs_gtk rfl (by decide) rfl sh216.1 lp215c0 rfl rfl lp215k1 ?_
                refine gs_gtk rfl (by decide) rfl sh216.1 lp215c2 rfl rfl lp215k3 ?_
                by_cases hc218 : (n0 : Int) ≤ i
                · refine gy_icT (pc' := 182) rfl (by decide) (by decide) (by omega) (by omega) hc218 ?_
                  have hgl9 : gTl S.1.2.2.1 S.1.2.2.2.1 i = gTl S.1.2.2.1 S.1.2.2.2.1 n0 := by rw [show i = n0 from Int.le_antisymm (by omega) (by omega)]
                  refine gz_s 1 (pc' := 183) (L' := [some (.ref x), some (.int (zi qu)), some (.int (zi i))]) (S' := [.ref x]) rfl ?_
                  refine gs_gtk rfl (by decide) rfl sh216.1 lp215c0 rfl rfl lp215k7 ?_
                  have hl219 : h216.2.2.2.1 bv = h216.2.2.2.1 bv := congrFun sh216.2.2.2.2.1 bv
                  refine gz_call rfl (by decide) rfl (by decide) (by decide) (gcal_of rfl rfl rfl (Nat.le_of_ble_eq_true rfl) (gJ.recv (G := gGG) sh216.1 lp215c4 rfl rfl)) (cw_putEnd _ sh216.1 c18 lp215c4 sk lp215k10 lp215c3 bv lp215r0 lp215r1 cv lp215k14 ⟨by omega, by omega⟩ (eKk qu i0 dw dh n0 S i) (by omega) (by omega) lp215u lp215k30 lp215k31) (fun q220 _ wq220 => ?_)
                  obtain ⟨pq220, oq220, hq220⟩ := q220
                  obtain ⟨tyq220, xq220, cq220_0, ttq220, fq220_0, ecq220_0, tcq220_0, gq220, efq220_0, afq220_0, bfq220_0, uq220_0, uq220_1, uq220_2, uq220_3, uq220_4, uq220_5, uq220_6, uq220_7, yq220_0, yq220_1⟩ := wq220
                  dsimp only at uq220_4 uq220_5 uq220_6 uq220_7
                  refine ⟨_, gq220, ?_⟩
                  show gz gPP gGG gcn _ _ 189 [some (.ref x), some (.int (zi qu)), some (.int (zi i))] [] hq220 _
                  have G221 : gSg [71, 72, 73, 74, 75, 76, 77, 78, 79, 80, 81, 85, 91, 92, 93, 94, 95, 96, 97, 98, 99, 114, 200] [] [50006, 55008, 56000, 56001, 56002, 56003, 64999, 71005, 71006, 71007, 71008, 71009, 71010, 71011, 71012, 71013, 71014, 72999, 73999, 74999, 76999, 77999, 78999, 79999, 80999, 81999, 85999, 91004, 91008, 92004, 92008, 93999, 94999, 95999, 96999, 97999, 98999, 99999, 114999] ty h tyq220 hq220 := gSg.tr (gSg.ss lp215G sh216 (by decide)) xq220 (by decide) (by decide) (fun x hx => by cases hx)
                  have t222 : tyq220 x = 50 := gSg.typ xq220 sh216.1 lp215c0 rfl
                  have t223 : tyq220 pic = 54 := gSg.typ xq220 sh216.1 lp215c1 rfl
                  have t224 : tyq220 dr = 55 := gSg.typ xq220 sh216.1 lp215c2 rfl
                  have t225 : tyq220 sk = 56 := gSg.typ xq220 sh216.1 lp215c3 rfl
                  have t226 : tyq220 c18 = 71 := gSg.typ xq220 sh216.1 lp215c4 rfl
                  have t227 : tyq220 c114 = 53 := gSg.typ xq220 sh216.1 lp215c5 rfl
                  have t228 : tyq220 c208 = 60 := gSg.typ xq220 sh216.1 lp215c6 rfl
                  have t229 : tyq220 c209 = 61 := gSg.typ xq220 sh216.1 lp215c7 rfl
                  have t230 : tyq220 bv = 114 := gSg.typ xq220 sh216.1 lp215r1 rfl
                  have hl231 : hq220.2.2.2.1 bv = h216.2.2.2.1 bv := gSg.len xq220 sh216.1 lp215r1 rfl
                  have s232 := gSg.at xq220 sh216.1 lp215c0 rfl (by decide) lp215k0
                  have s233 := gSg.at xq220 sh216.1 lp215c0 rfl (by decide) lp215k1
                  have s234 := gSg.at xq220 sh216.1 lp215c0 rfl (by decide) lp215k2
                  have s235 := gSg.at xq220 sh216.1 lp215c2 rfl (by decide) lp215k3
                  have s236 := gSg.at xq220 sh216.1 lp215c2 rfl (by decide) lp215k4
                  have s237 := gSg.at xq220 sh216.1 lp215c2 rfl (by decide) lp215k5
                  have s238 := gSg.at xq220 sh216.1 lp215c2 rfl (by decide) lp215k6
                  have s239 := gSg.at xq220 sh216.1 lp215c0 rfl (by decide) lp215k7
                  have s240 := gSg.at xq220 sh216.1 lp215c0 rfl (by decide) lp215k8
                  have s241 := gSg.at xq220 sh216.1 lp215c4 rfl (by decide) lp215k9
                  have s242 := gSg.at xq220 sh216.1 lp215c4 rfl (by decide) lp215k10
                  have s243 := gSg.at xq220 sh216.1 lp215c4 rfl (by decide) lp215k11
                  have s244 := gSg.at xq220 sh216.1 lp215c2 rfl (by decide) lp215k12
                  have s245 := gSg.at xq220 sh216.1 lp215c2 rfl (by decide) lp215k13
                  have s246 := gSg.at xq220 sh216.1 lp215c3 rfl (by decide) lp215k15
                  have s247 := gSg.at xq220 sh216.1 lp215c3 rfl (by decide) lp215k16
                  have pr248 := gStx.gr xq220 (by decide) (fun x hx => by cases hx) lp215k17
                  have pr249 := gPC.gr xq220 sh216.1 (by decide) lp215k18
                  have pr250 := gTc.gr xq220 sh216.1 (by decide) (by decide) lp215k19
                  have pr251 := gRr.gr xq220 sh216.1 (by decide) (by decide) lp215k20
                  have pr252 := gRn.gr xq220 sh216.1 rfl (by decide) (by decide) lp215k21
                  have pr253 := gRn.gr xq220 sh216.1 rfl (by decide) (by decide) lp215k22
                  have pr254 := gRn.gr xq220 sh216.1 rfl (by decide) (by decide) lp215k23
                  have pr255 := gRn.gr xq220 sh216.1 rfl (by decide) (by decide) lp215k24
                  have pr256 := gRn.gr xq220 sh216.1 rfl (by decide) (by decide) lp215k25
                  have pr257 := gRn.gr xq220 sh216.1 rfl (by decide) (by decide) lp215k26
                  have pr258 := gRn.gr xq220 sh216.1 rfl (by decide) (by decide) lp215k27
                  have pr259 := gRn.gr xq220 sh216.1 rfl (by decide) (by decide) lp215k28
                  have pr260 := gRn.gr xq220 sh216.1 rfl (by decide) (by decide) lp215k29
                  have uq261 := gSg.uq xq220 lp215u (by decide)
                  have hyst262 := gSta.gr xq220 (by decide) (fun x hx => by cases hx) (gSta.fr sh216.2 (by decide) lp215t)
                  have sS263 : gSs rT 1027 tyq220 [50006, 55008, 56000, 56001, 56002, 56003, 64999, 71005, 71006, 71007, 71008, 71009, 71010, 71011, 71012, 71013, 71014, 72999, 73999, 74999, 76999, 77999, 78999, 79999, 80999, 81999, 85999, 91004, 91008, 92004, 92008, 93999, 94999, 95999, 96999, 97999, 98999, 99999, 114999] hq220 hq220 := gSs.rf xq220.1
                  have hk264 : eNn qu i0 dw dh n0 S = eeM (eKk qu i0 dw dh n0 S i) 217 := eKk_e (by omega)
                  have hk264_1 : (eNn qu i0 dw dh n0 S).1 = (eeM (eKk qu i0 dw dh n0 S i) 217).1 := by rw [hk264]
                  have hk264_21 : (eNn qu i0 dw dh n0 S).2.1 = (eeM (eKk qu i0 dw dh n0 S i) 217).2.1 := by rw [hk264]
                  have hk264_221 : (eNn qu i0 dw dh n0 S).2.2.1 = (eeM (eKk qu i0 dw dh n0 S i) 217).2.2.1 := by rw [hk264]
                  have hsw265 : gSW tyq220 cq220_0 (eNn qu i0 dw dh n0 S) hq220 := by rw [hk264]; exact yq220_0
                  have hok266 : eeOk (eNn qu i0 dw dh n0 S) := by rw [hk264]; exact yq220_1
                  have hoc267 := hok266.cur
                  have hcd9 := hcd
                  refine gz_s 1 (pc' := 190) (L' := [some (.ref x), some (.int (zi qu)), some (.int (zi i))]) (S' := [.ref x]) rfl ?_
                  refine gs_gtk rfl (by decide) rfl sS263.1 t222 rfl rfl s233 ?_
                  refine gz_call rfl (by decide) rfl (by decide) (by decide) (gcal_of rfl rfl rfl (Nat.le_of_ble_eq_true rfl) (gJ.recv (G := gGG) sS263.1 t224 rfl rfl)) (cl_Draft_forgetScans _ sS263.1 dr t224 uq261) (fun q268 _ wq268 => ?_)
                  obtain ⟨pq268, oq268, hq268⟩ := q268
                  obtain ⟨xq268, fq268_0, gq268, efq268_0, afq268_0, bfq268_0, uq268_0, yq268_0, yq268_1⟩ := wq268
                  refine ⟨_, gq268, ?_⟩
                  show gz gPP gGG gcn _ _ 196 [some (.ref x), some (.int (zi qu)), some (.int (zi i))] [] hq268 _
                  have sq268 : gSs rT 1027 tyq220 [50006, 55008, 56000, 56001, 56002, 56003, 64999, 71005, 71006, 71007, 71008, 71009, 71010, 71011, 71012, 71013, 71014, 72999, 73999, 74999, 76999, 77999, 78999, 79999, 80999, 81999, 85999, 91004, 91008, 92004, 92008, 93999, 94999, 95999, 96999, 97999, 98999, 99999, 114999] hq220 hq268 := gSs.tr sS263 xq268 (by decide)
                  have s269 := (xq268.2.2.2.2.2 x 2 (by rw [t222]; decide)).trans s232
                  have s270 := (xq268.2.2.2.2.2 x 3 (by rw [t222]; decide)).trans s233
                  have s271 := (xq268.2.2.2.2.2 x 4 (by rw [t222]; decide)).trans s234
                  have s272 := (xq268.2.2.2.2.2 dr 3 (by rw [t224]; decide)).trans s236
                  have s273 := (xq268.2.2.2.2.2 dr 1 (by rw [t224]; decide)).trans s237
                  have s274 := (xq268.2.2.2.2.2 dr 2 (by rw [t224]; decide)).trans s238
                  have s275 := (xq268.2.2.2.2.2 x 6 (by rw [t222]; decide)).trans s239
                  have s276 := (xq268.2.2.2.2.2 x 1 (by rw [t222]; decide)).trans s240
                  have s277 := (xq268.2.2.2.2.2 c18 5 (by rw [t226]; decide)).trans s241
                  have s278 := (xq268.2.2.2.2.2 c18 0 (by rw [t226]; decide)).trans s242
                  have s279 := (xq268.2.2.2.2.2 c18 6 (by rw [t226]; decide)).trans s243
                  have s280 := (xq268.2.2.2.2.2 dr 4 (by rw [t224]; decide)).trans s244
                  have s281 := (xq268.2.2.2.2.2 dr 5 (by rw [t224]; decide)).trans s245
                  have s282 := (xq268.2.2.2.2.2 sk 2 (by rw [t225]; decide)).trans s246
                  have s283 := (xq268.2.2.2.2.2 sk 3 (by rw [t225]; decide)).trans s247
                  have s284 := (xq268.2.2.2.2.2 sk 0 (by rw [t225]; decide)).trans ecq220_0
                  have s285 := (xq268.2.2.2.2.2 sk 1 (by rw [t225]; decide)).trans efq220_0
                  have pr286 := gStx.fr xq268.2 (by decide) pr248
                  have pr287 := gPC.fr xq268.2 (by decide) pr249
                  have pr288 := gRr.fr xq268.2 (by decide) pr251
                  have pr289 := gRn.fr xq268.2 (by decide) pr252
                  have pr290 := gRn.fr xq268.2 (by decide) pr253
                  have pr291 := gRn.fr xq268.2 (by decide) pr254
                  have pr292 := gRn.fr xq268.2 (by decide) pr255
                  have pr293 := gRn.fr xq268.2 (by decide) pr256
                  have pr294 := gRn.fr xq268.2 (by decide) pr257
                  have pr295 := gRn.fr xq268.2 (by decide) pr259
                  have pr296 := gRn.fr xq268.2 (by decide) pr260
                  have pr297 := gSW.fr xq268.2 (by decide) hsw265
                  refine gz_s 1 (pc' := 197) (L' := [some (.ref x), some (.int (zi qu)), some (.int (zi i))]) (S' := [.ref x]) rfl ?_
                  refine gs_gtk rfl (by decide) rfl sq268.1 t222 rfl rfl s271 ?_
                  refine gs_gtk rfl (by decide) rfl sq268.1 t225 rfl rfl s285 ?_
                  have k298 := sq268.2.1
                  have k298b := sq268.2.2.1
                  have hl299 : hq268.2.2.2.1 bv = hq220.2.2.2.1 bv := congrFun sq268.2.2.2.2.1 bv
                  have hl300 : hq268.2.2.2.1 cq220_0 = hq220.2.2.2.1 cq220_0 := congrFun sq268.2.2.2.2.1 cq220_0
                  have hl301 : 1024 ≤ hq268.2.2.2.1 bv ∧ hq268.2.2.2.1 bv ≤ 1000000 := gJ.rowl (G := gGG) sq268.1 t230 rfl
                  have hl302 : 1024 ≤ hq268.2.2.2.1 cq220_0 ∧ hq268.2.2.2.1 cq220_0 ≤ 1000000 := gJ.rowl (G := gGG) sq268.1 tcq220_0 rfl
                  have hxr303 : gXr tyq220 (eS3 S (eNn qu i0 dw dh n0 S)) hq268 := ⟨pr289, pr290, pr291, pr292, pr293, pr294, gOy.Rn (by decide) yq268_1⟩
                  have hnv : (eNn qu (iv / 262144) (iv / 64 % 64) (iv / 4096 % 64) (iv % 64) S).1 = (eNn qu i0 dw dh n0 S).1 := by rw [hdi, hdw, hdh, hdn]
                  have k304 := sq268.2.1
                  have k304b := sq268.2.2.1
                  have hl305 : hq268.2.2.2.1 bv = hq220.2.2.2.1 bv := congrFun sq268.2.2.2.2.1 bv
                  have hl306 : hq268.2.2.2.1 cq220_0 = hq220.2.2.2.1 cq220_0 := congrFun sq268.2.2.2.2.1 cq220_0
                  have hix307 : gIx tyq220 x ld (hq268.2.2.2.1 cq220_0 : Int) (64 * dw + fq268_0 + 4096 * dh + 262144 * i0) (eS3 S (eNn qu i0 dw dh n0 S)) hq268 := ⟨pic, b0, b1, b2, dr, sk, cq220_0, fq268_0, fq220_0, i0, dw, dh, ⟨t222, t224, t225, tcq220_0⟩, ⟨s269, s270, s271, s284⟩, pr287, (by rw [(by omega : fq268_0 = 0)]; exact yq268_0), ⟨efq268_0, by omega, by omega⟩, ⟨s272, by omega, by omega⟩, ⟨s285, by omega, by omega⟩, ⟨by omega, by omega⟩, pr288, ⟨t222, Or.inr ⟨c18, s275, t226⟩⟩, ⟨s273, by omega, by omega⟩, ⟨s274, by omega, by omega⟩, by omega, rfl, hxr303, ⟨pr297, (show _ = ((eNn qu i0 dw dh n0 S)).1 by omega)⟩, (by rw [(by omega : fq268_0 = 0)]; exact eTz.zero)⟩
                  have hix308 : gIx tyq220 x ld (hq268.2.2.2.1 cq220_0 : Int) (64 * dw + fq268_0 + 4096 * dh + 262144 * i0) (eQ3 qu (iv / 262144) (iv / 64 % 64) (iv / 4096 % 64) (iv % 64) S) hq268 := by rw [hdi, hdw, hdh, hdn, eQ3_y hok]; exact hix307
                  have G309 : gSg [71, 72, 73, 74, 75, 76, 77, 78, 79, 80, 81, 85, 91, 92, 93, 94, 95, 96, 97, 98, 99, 114, 200] [] [50006, 55008, 56000, 56001, 56002, 56003, 64999, 71005, 71006, 71007, 71008, 71009, 71010, 71011, 71012, 71013, 71014, 72999, 73999, 74999, 76999, 77999, 78999, 79999, 80999, 81999, 85999, 91004, 91008, 92004, 92008, 93999, 94999, 95999, 96999, 97999, 98999, 99999, 114999] ty h tyq220 hq268 := gSg.ss G221 sq268 (by decide)
                  exact gz_end (I := .ireturn) (len := 1) rfl (Or.inl rfl) ⟨tyq220, G309, ld, (hq268.2.2.2.1 cq220_0 : Int), (64 * dw + fq268_0 + 4096 * dh + 262144 * i0), (by omega), (by omega), (by omega), (by omega), (by omega), (by omega), hix308, uq261, Or.inl ⟨fq220_0, rfl, (by omega), (by omega), (by omega), (by omega), (by omega), (by omega), (by omega), (by dsimp only; omega), (by dsimp only; omega), (by omega), (by omega)⟩⟩
                · refine gy_icF rfl (by decide) (by decide) (by omega) (by omega) hc218 ?_
                  refine gz_s 1 (pc' := 134) (L' := [some (.ref x), some (.int (zi qu)), some (.int (zi i))]) (S' := [.ref x]) rfl ?_
                  refine gs_gtk rfl (by decide) rfl sh216.1 lp215c0 rfl rfl lp215k7 ?_
                  refine gz_s 1 (pc' := 138) (L' := [some (.ref x), some (.int (zi qu)), some (.int (zi i))]) (S' := [.ref x, .ref c18]) rfl ?_
                  refine gs_gtk rfl (by decide) rfl sh216.1 lp215c0 rfl rfl lp215k1 ?_
                  refine gs_gtk rfl (by decide) rfl sh216.1 lp215c2 rfl rfl lp215k12 ?_
                  refine gz_s 1 (pc' := 145) (L' := [some (.ref x), some (.int (zi qu)), some (.int (zi i))]) (S' := [.int (zi i), .ref c208, .ref c18]) rfl ?_
                  have hl310 : 10 ≤ h216.2.2.2.1 c208 ∧ h216.2.2.2.1 c208 ≤ 10 := gJ.rowl (G := gGG) sh216.1 lp215c6 rfl
                  refine gs_ald rfl (by decide) sh216.1 lp215c6 rfl rfl rfl (by decide) (fun _ => rfl) (by omega) (by omega) (fun z311 ez311 az311 bz311 => ?_)
                  have hf312 := gRn.at (i := i) (z := z311) lp215k23 lp215c6 ez311 (by omega) (by omega) (by omega)
                  refine gz_s 1 (pc' := 147) (L' := [some (.ref x), some (.int (zi qu)), some (.int (zi i))]) (S' := [.ref x, .int (zi z311), .ref c18]) rfl ?_
                  refine gs_gtk rfl (by decide) rfl sh216.1 lp215c0 rfl rfl lp215k1 ?_
                  refine gs_gtk rfl (by decide) rfl sh216.1 lp215c2 rfl rfl lp215k13 ?_
                  refine gz_s 1 (pc' := 154) (L' := [some (.ref x), some (.int (zi qu)), some (.int (zi i))]) (S' := [.int (zi i), .ref c209, .int (zi z311), .ref c18]) rfl ?_
                  have hl313 : 10 ≤ h216.2.2.2.1 c209 ∧ h216.2.2.2.1 c209 ≤ 10 := gJ.rowl (G := gGG) sh216.1 lp215c7 rfl
                  refine gs_ald rfl (by decide) sh216.1 lp215c7 rfl rfl rfl (by decide) (fun _ => rfl) (by omega) (by omega) (fun z314 ez314 az314 bz314 => ?_)
                  have hf315 := gRn.at (i := i) (z := z314) lp215k24 lp215c7 ez314 (by omega) (by omega) (by omega)
                  refine gz_s 1 (pc' := 156) (L' := [some (.ref x), some (.int (zi qu)), some (.int (zi i))]) (S' := [.ref x, .int (zi z314), .int (zi z311), .ref c18]) rfl ?_
                  refine gs_gtk rfl (by decide) rfl sh216.1 lp215c0 rfl rfl lp215k1 ?_
                  refine gs_gtr rfl (by decide) rfl sh216.1 lp215c2 rfl rfl rfl (fun c316 ec316 tc316 => ?_)
                  refine gz_s 1 (pc' := 163) (L' := [some (.ref x), some (.int (zi qu)), some (.int (zi i))]) (S' := [.int (zi i), .ref c316, .int (zi z314), .int (zi z311), .ref c18]) rfl ?_
                  have hl317 : 10 ≤ h216.2.2.2.1 c316 ∧ h216.2.2.2.1 c316 ≤ 10 := gJ.rowl (G := gGG) sh216.1 tc316 rfl
                  refine gs_ald rfl (by decide) sh216.1 tc316 rfl rfl rfl (by decide) (fun _ => rfl) (by omega) (by omega) (fun z318 ez318 az318 bz318 => ?_)
                  have hf319 := gRn.at (i := i) (z := z318) lp215k25 tc316 ez318 (by omega) (by omega) (by omega)
                  refine gz_s 1 (pc' := 165) (L' := [some (.ref x), some (.int (zi qu)), some (.int (zi i))]) (S' := [.ref x, .int (zi z318), .int (zi z314), .int (zi z311), .ref c18]) rfl ?_
                  refine gs_gtk rfl (by decide) rfl sh216.1 lp215c0 rfl rfl lp215k1 ?_
                  refine gs_gtr rfl (by decide) rfl sh216.1 lp215c2 rfl rfl rfl (fun c320 ec320 tc320 => ?_)
                  refine gz_s 1 (pc' := 172) (L' := [some (.ref x), some (.int (zi qu)), some (.int (zi i))]) (S' := [.int (zi i), .ref c320, .int (zi z318), .int (zi z314), .int (zi z311), .ref c18]) rfl ?_
                  have hl321 : 10 ≤ h216.2.2.2.1 c320 ∧ h216.2.2.2.1 c320 ≤ 10 := gJ.rowl (G := gGG) sh216.1 tc320 rfl
                  refine gs_ald rfl (by decide) sh216.1 tc320 rfl rfl rfl (by decide) (fun _ => rfl) (by omega) (by omega) (fun z322 ez322 az322 bz322 => ?_)
                  have hf323 := gRn.at (i := i) (z := z322) lp215k26 tc320 ez322 (by omega) (by omega) (by omega)
                  have htl := tle (i).toNat (by omega)
                  rw [hf312, hf315] at htl
                  have hst := gTl_st (f := S.1.2.2.1) (t := S.1.2.2.2.1) (k := i) (a := z311) (b := z314) (by omega) hf312 hf315
                  have hle := gTl_le (f := S.1.2.2.1) (t := S.1.2.2.2.1) (k := i + 1) (n := n0) tle (by omega)
                  have htz4 := htz (i).toNat (by omega)
                  rw [hf312, hf315] at htz4
                  have hl324 : h216.2.2.2.1 bv = h216.2.2.2.1 bv := congrFun sh216.2.2.2.2.1 bv
                  refine gz_call rfl (by decide) rfl (by decide) (by decide) (gcal_of rfl rfl rfl (Nat.le_of_ble_eq_true rfl) (gJ.recv (G := gGG) sh216.1 lp215c4 rfl rfl)) (cw_putScan _ sh216.1 c18 lp215c4 z311 ⟨by omega, by omega⟩ z314 ⟨by omega, by omega⟩ z318 ⟨by omega, by omega⟩ z322 ⟨by omega, by omega⟩ sk lp215k10 lp215c3 bv lp215r0 lp215r1 cv lp215k14 ⟨by omega, by omega⟩ uv lp215k15 ⟨by omega, by omega⟩ hv lp215k16 ⟨by omega, by omega⟩ fq139_0 lp215k9 ⟨by omega, by omega⟩ fq168_3 lp215k11 ⟨by omega, by omega⟩ (eCf S.1.2.1 (eTb S.1.1 qu) dw dh (zup dw 8)) (eKk qu i0 dw dh n0 S i) (by omega) (by omega) (by omega) (by omega) (by omega) (by omega) (by omega) lp215u lp215k30 lp215k31 lp215k29) (fun q325 _ wq325 => ?_)
                  obtain ⟨pq325, oq325, hq325⟩ := q325
                  obtain ⟨tyq325, xq325, cq325_0, ttq325, fq325_0, fq325_1, fq325_2, ecq325_0, tcq325_0, gq325, efq325_0, afq325_0, bfq325_0, efq325_1, afq325_1, bfq325_1, efq325_2, afq325_2, bfq325_2, uq325_0, uq325_1, uq325_2, uq325_3, uq325_4, uq325_5, uq325_6, uq325_7, uq325_8, yq325_0, yq325_1⟩ := wq325
                  dsimp only at uq325_5 uq325_6 uq325_7 uq325_8
                  refine ⟨_, gq325, ?_⟩
                  show gz gPP gGG gcn _ _ 176 [some (.ref x), some (.int (zi qu)), some (.int (zi i))] [] hq325 _
                  have G326 : gSg [71, 72, 73, 74, 75, 76, 77, 78, 79, 80, 81, 85, 91, 92, 93, 94, 95, 96, 97, 98, 99, 114, 200] [] [50006, 55008, 56000, 56001, 56002, 56003, 64999, 71005, 71006, 71007, 71008, 71009, 71010, 71011, 71012, 71013, 71014, 72999, 73999, 74999, 76999, 77999, 78999, 79999, 80999, 81999, 85999, 91004, 91008, 92004, 92008, 93999, 94999, 95999, 96999, 97999, 98999, 99999, 114999] ty h tyq325 hq325 := gSg.tr (gSg.ss lp215G sh216 (by decide)) xq325 (by decide) (by decide) (fun x hx => by cases hx)
                  have t327 : tyq325 x = 50 := gSg.typ xq325 sh216.1 lp215c0 rfl
                  have t328 : tyq325 pic = 54 := gSg.typ xq325 sh216.1 lp215c1 rfl
                  have t329 : tyq325 dr = 55 := gSg.typ xq325 sh216.1 lp215c2 rfl
                  have t330 : tyq325 sk = 56 := gSg.typ xq325 sh216.1 lp215c3 rfl
                  have t331 : tyq325 c18 = 71 := gSg.typ xq325 sh216.1 lp215c4 rfl
                  have t332 : tyq325 c114 = 53 := gSg.typ xq325 sh216.1 lp215c5 rfl
                  have t333 : tyq325 c208 = 60 := gSg.typ xq325 sh216.1 lp215c6 rfl
                  have t334 : tyq325 c209 = 61 := gSg.typ xq325 sh216.1 lp215c7 rfl
                  have t335 : tyq325 bv = 114 := gSg.typ xq325 sh216.1 lp215r1 rfl
                  have hl336 : hq325.2.2.2.1 bv = h216.2.2.2.1 bv := gSg.len xq325 sh216.1 lp215r1 rfl
                  have t337 : tyq325 c316 = 62 := gSg.typ xq325 sh216.1 tc316 rfl
                  have t338 : tyq325 c320 = 63 := gSg.typ xq325 sh216.1 tc320 rfl
                  have s339 := gSg.at xq325 sh216.1 lp215c0 rfl (by decide) lp215k0
                  have s340 := gSg.at xq325 sh216.1 lp215c0 rfl (by decide) lp215k1
                  have s341 := gSg.at xq325 sh216.1 lp215c0 rfl (by decide) lp215k2
                  have s342 := gSg.at xq325 sh216.1 lp215c2 rfl (by decide) lp215k3
                  have s343 := gSg.at xq325 sh216.1 lp215c2 rfl (by decide) lp215k4
                  have s344 := gSg.at xq325 sh216.1 lp215c2 rfl (by decide) lp215k5
                  have s345 := gSg.at xq325 sh216.1 lp215c2 rfl (by decide) lp215k6
                  have s346 := gSg.at xq325 sh216.1 lp215c0 rfl (by decide) lp215k7
                  have s347 := gSg.at xq325 sh216.1 lp215c0 rfl (by decide) lp215k8
                  have s348 := gSg.at xq325 sh216.1 lp215c4 rfl (by decide) lp215k9
                  have s349 := gSg.at xq325 sh216.1 lp215c4 rfl (by decide) lp215k10
                  have s350 := gSg.at xq325 sh216.1 lp215c4 rfl (by decide) lp215k11
                  have s351 := gSg.at xq325 sh216.1 lp215c2 rfl (by decide) lp215k12
                  have s352 := gSg.at xq325 sh216.1 lp215c2 rfl (by decide) lp215k13
                  have s353 := gSg.at xq325 sh216.1 lp215c2 rfl (by decide) ec316
                  have s354 := gSg.at xq325 sh216.1 lp215c2 rfl (by decide) ec320
                  have pr355 := gStx.gr xq325 (by decide) (fun x hx => by cases hx) lp215k17
                  have pr356 := gPC.gr xq325 sh216.1 (by decide) lp215k18
                  have pr357 := gTc.gr xq325 sh216.1 (by decide) (by decide) lp215k19
                  have pr358 := gRr.gr xq325 sh216.1 (by decide) (by decide) lp215k20
                  have pr359 := gRn.gr xq325 sh216.1 rfl (by decide) (by decide) lp215k21
                  have pr360 := gRn.gr xq325 sh216.1 rfl (by decide) (by decide) lp215k22
                  have pr361 := gRn.gr xq325 sh216.1 rfl (by decide) (by decide) lp215k23
                  have pr362 := gRn.gr xq325 sh216.1 rfl (by decide) (by decide) lp215k24
                  have pr363 := gRn.gr xq325 sh216.1 rfl (by decide) (by decide) lp215k25
                  have pr364 := gRn.gr xq325 sh216.1 rfl (by decide) (by decide) lp215k26
                  have pr365 := gRn.gr xq325 sh216.1 rfl (by decide) (by decide) lp215k27
                  have pr366 := gRn.gr xq325 sh216.1 rfl (by decide) (by decide) lp215k28
                  have pr367 := gRn.gr xq325 sh216.1 rfl (by decide) (by decide) lp215k29
                  have uq368 := gSg.uq xq325 lp215u (by decide)
                  have hyst369 := gSta.gr xq325 (by decide) (fun x hx => by cases hx) (gSta.fr sh216.2 (by decide) lp215t)
                  have sS370 : gSs rT 1027 tyq325 [50006, 55008, 56000, 56001, 56002, 56003, 64999, 71005, 71006, 71007, 71008, 71009, 71010, 71011, 71012, 71013, 71014, 72999, 73999, 74999, 76999, 77999, 78999, 79999, 80999, 81999, 85999, 91004, 91008, 92004, 92008, 93999, 94999, 95999, 96999, 97999, 98999, 99999, 114999] hq325 hq325 := gSs.rf xq325.1
                  have hk371 : eKk qu i0 dw dh n0 S (i + 1) = eSc fq168_3 z311 z314 z318 z322 (eCf S.1.2.1 (eTb S.1.1 qu) dw dh (zup dw 8)) (fq139_0).toNat (eKk qu i0 dw dh n0 S i) := by rw [hmn, hiw]; exact eKk_s (by omega) (by omega) hf312 hf315 hf319 hf323
                  have hk371_1 : (eKk qu i0 dw dh n0 S (i + 1)).1 = (eSc fq168_3 z311 z314 z318 z322 (eCf S.1.2.1 (eTb S.1.1 qu) dw dh (zup dw 8)) (fq139_0).toNat (eKk qu i0 dw dh n0 S i)).1 := by rw [hk371]
                  have hk371_21 : (eKk qu i0 dw dh n0 S (i + 1)).2.1 = (eSc fq168_3 z311 z314 z318 z322 (eCf S.1.2.1 (eTb S.1.1 qu) dw dh (zup dw 8)) (fq139_0).toNat (eKk qu i0 dw dh n0 S i)).2.1 := by rw [hk371]
                  have hk371_221 : (eKk qu i0 dw dh n0 S (i + 1)).2.2.1 = (eSc fq168_3 z311 z314 z318 z322 (eCf S.1.2.1 (eTb S.1.1 qu) dw dh (zup dw 8)) (fq139_0).toNat (eKk qu i0 dw dh n0 S i)).2.2.1 := by rw [hk371]
                  have hsw372 : gSW tyq325 cq325_0 (eKk qu i0 dw dh n0 S (i + 1)) hq325 := by rw [hk371]; exact yq325_0
                  have hok373 : eeOk (eKk qu i0 dw dh n0 S (i + 1)) := by rw [hk371]; exact yq325_1
                  have hoc374 := hok373.cur
                  refine gy_s 2 (pc' := 122) (L' := [some (.ref x), some (.int (zi qu)), some (.int ((zi i) + zi 1))]) (S' := []) (L2 := [some (.ref x), some (.int (zi qu)), some (.int (zi (i + 1)))]) (S2 := []) rfl (by simp only [zi_add, zi_sub, zi_mul, zi_neg, zi_and1, zi_and7, zi_and15, zi_and31, zi_and255]) (by simp only [zi_add, zi_sub, zi_mul, zi_neg, zi_and1, zi_and7, zi_and15, zi_and31, zi_and255]) ?_
                  have hl375 : 1024 ≤ hq325.2.2.2.1 bv ∧ hq325.2.2.2.1 bv ≤ 1000000 := gJ.rowl (G := gGG) sS370.1 t335 rfl
                  have hl376 : 1024 ≤ hq325.2.2.2.1 cq325_0 ∧ hq325.2.2.2.1 cq325_0 ≤ 1000000 := gJ.rowl (G := gGG) sS370.1 tcq325_0 rfl
                  have G377 : gSg [71, 72, 73, 74, 75, 76, 77, 78, 79, 80, 81, 85, 91, 92, 93, 94, 95, 96, 97, 98, 99, 114, 200] [] [50006, 55008, 56000, 56001, 56002, 56003, 64999, 71005, 71006, 71007, 71008, 71009, 71010, 71011, 71012, 71013, 71014, 72999, 73999, 74999, 76999, 77999, 78999, 79999, 80999, 81999, 85999, 91004, 91008, 92004, 92008, 93999, 94999, 95999, 96999, 97999, 98999, 99999, 114999] ty h tyq325 hq325 := gSg.ss G326 sS370 (by decide)
                  exact gz_wk (ihlp215 tyq325 hq325 cq325_0 (i + 1) fq325_0 fq325_1 fq325_2 (gms lp215m (by omega) (by omega)) G377 uq368 (gSta.fr sS370.2 (by decide) hyst369) t327 t328 t329 t330 t331 t332 t333 t334 ecq325_0 tcq325_0 ⟨by omega, by omega⟩ ⟨by omega, by omega⟩ ⟨by omega, by omega⟩ ⟨by omega, by omega⟩ (by omega) (by omega) (by omega) (by omega) (by omega) (by omega) (by omega) (by omega) (by omega) s339 s340 s341 s342 s343 s344 s345 s346 s347 s348 s349 s350 s351 s352 efq325_0 efq325_1 efq325_2 pr355 pr356 pr357 pr358 pr359 pr360 pr361 pr362 pr363 pr364 pr365 pr366 pr367 hsw372 hok373) (gLw.s (gLw.s (gLw.s gLw.z)))
            have hl378 : 1024 ≤ hq168.2.2.2.1 bt ∧ hq168.2.2.2.1 bt ≤ 1000000 := gJ.rowl (G := gGG) sS207.1 t177 rfl
            have hl379 : 1024 ≤ hq168.2.2.2.1 cq168_0 ∧ hq168.2.2.2.1 cq168_0 ≤ 1000000 := gJ.rowl (G := gGG) sS207.1 tcq168_0 rfl
            have G380 : gSg [71, 72, 73, 74, 75, 76, 77, 78, 79, 80, 81, 85, 91, 92, 93, 94, 95, 96, 97, 98, 99, 114, 200] [] [50006, 55008, 56000, 56001, 56002, 56003, 64999, 71005, 71006, 71007, 71008, 71009, 71010, 71011, 71012, 71013, 71014, 72999, 73999, 74999, 76999, 77999, 78999, 79999, 80999, 81999, 85999, 91004, 91008, 92004, 92008, 93999, 94999, 95999, 96999, 97999, 98999, 99999, 114999] ty h tyq168 hq168 := gSg.ss G169 sS207 (by decide)
            exact gz_wk (lp215 _ tyq168 hq168 cq168_0 0 fq168_0 fq168_1 fq168_2 (Nat.lt_succ_self _) G380 uq205 (gSta.fr sS207.2 (by decide) hyst206) t170 t171 t175 t176 t179 t180 tc208 tc209 ecq168_0 tcq168_0 ⟨by omega, by omega⟩ ⟨by omega, by omega⟩ ⟨by omega, by omega⟩ ⟨by omega, by omega⟩ (by omega) (by omega) (by omega) (by omega) (by omega) (by omega) (by omega) (by omega) (by omega) s181 s182 s183 s184 s185 s186 s187 s188 s189 s190 s191 efq168_3 ec208 ec209 efq168_0 efq168_1 efq168_2 pr192 pr193 pr194 pr195 pr196 pr197 pr198 pr199 pr200 pr201 pr202 pr203 pr204 hsw212 hok213) (gLw.s (gLw.s (gLw.s gLw.z)))
          · refine gy_ifF rfl (by decide) (by decide) (by omega) hc210 ?_
            refine gz_s 1 (pc' := 109) (L' := [some (.ref x), some (.int (zi qu)), none]) (S' := [.ref x]) rfl ?_
            refine gs_gtk rfl (by decide) rfl sS207.1 t170 rfl rfl s188 ?_
            refine gz_s 4 (pc' := 117) (L' := [some (.ref x), some (.int (zi qu)), none]) (S' := [.int (zi 0), .int (zi 0), .int (zi 63), .int (zi 0), .ref c18]) rfl ?_
            have hl381 : hq168.2.2.2.1 cq168_0 = hq168.2.2.2.1 cq168_0 := congrFun sS207.2.2.2.2.1 cq168_0
            refine gz_call rfl (by decide) rfl (by decide) (by decide) (gcal_of rfl rfl rfl (Nat.le_of_ble_eq_true rfl) (gJ.recv (G := gGG) sS207.1 t179 rfl rfl)) (cw_putScan _ sS207.1 c18 t179 0 ⟨by omega, by omega⟩ 63 ⟨by omega, by omega⟩ 0 ⟨by omega, by omega⟩ 0 ⟨by omega, by omega⟩ sk s191 t176 cq168_0 ecq168_0 tcq168_0 fq168_0 efq168_0 ⟨by omega, by omega⟩ fq168_1 efq168_1 ⟨by omega, by omega⟩ fq168_2 efq168_2 ⟨by omega, by omega⟩ fq139_0 s190 ⟨by omega, by omega⟩ fq168_3 efq168_3 ⟨by omega, by omega⟩ (eCf S.1.2.1 (eTb S.1.1 qu) dw dh (zup dw 8)) (eHd (eTb S.1.1 qu) n0 dh dw i0) (by omega) (by omega) (by omega) (by omega) (by omega) (by omega) (by omega) uq205 yq168_0 yq168_1 pr204) (fun q382 _ wq382 => ?_)
            obtain ⟨pq382, oq382, hq382⟩ := q382
            obtain ⟨tyq382, xq382, cq382_0, ttq382, fq382_0, fq382_1, fq382_2, ecq382_0, tcq382_0, gq382, efq382_0, afq382_0, bfq382_0, efq382_1, afq382_1, bfq382_1, efq382_2, afq382_2, bfq382_2, uq382_0, uq382_1, uq382_2, uq382_3, uq382_4, uq382_5, uq382_6, uq382_7, uq382_8, yq382_0, yq382_1⟩ := wq382
            dsimp only at uq382_5 uq382_6 uq382_7 uq382_8
            refine ⟨_, gq382, ?_⟩
            show gz gPP gGG gcn _ _ 120 [some (.ref x), some (.int (zi qu)), none] [] hq382 _
            have G383 : gSg [71, 72, 73, 74, 75, 76, 77, 78, 79, 80, 81, 85, 91, 92, 93, 94, 95, 96, 97, 98, 99, 114, 200] [] [50006, 55008, 56000, 56001, 56002, 56003, 64999, 71005, 71006, 71007, 71008, 71009, 71010, 71011, 71012, 71013, 71014, 72999, 73999, 74999, 76999, 77999, 78999, 79999, 80999, 81999, 85999, 91004, 91008, 92004, 92008, 93999, 94999, 95999, 96999, 97999, 98999, 99999, 114999] ty h tyq382 hq382 := gSg.tr (gSg.ss G169 sS207 (by decide)) xq382 (by decide) (by decide) (fun x hx => by cases hx)
            have t384 : tyq382 x = 50 := gSg.typ xq382 sS207.1 t170 rfl
            have t385 : tyq382 pic = 54 := gSg.typ xq382 sS207.1 t171 rfl
            have t386 : tyq382 b0 = 82 := gSg.typ xq382 sS207.1 t172 rfl
            have t387 : tyq382 b1 = 83 := gSg.typ xq382 sS207.1 t173 rfl
            have t388 : tyq382 b2 = 84 := gSg.typ xq382 sS207.1 t174 rfl
            have t389 : tyq382 dr = 55 := gSg.typ xq382 sS207.1 t175 rfl
            have t390 : tyq382 sk = 56 := gSg.typ xq382 sS207.1 t176 rfl
            have t391 : tyq382 bt = 114 := gSg.typ xq382 sS207.1 t177 rfl
            have hl392 : hq382.2.2.2.1 bt = hq168.2.2.2.1 bt := gSg.len xq382 sS207.1 t177 rfl
            have t393 : tyq382 c18 = 71 := gSg.typ xq382 sS207.1 t179 rfl
            have t394 : tyq382 c114 = 53 := gSg.typ xq382 sS207.1 t180 rfl
            have t395 : tyq382 cq168_0 = 114 := gSg.typ xq382 sS207.1 tcq168_0 rfl
            have hl396 : hq382.2.2.2.1 cq168_0 = hq168.2.2.2.1 cq168_0 := gSg.len xq382 sS207.1 tcq168_0 rfl
            have t397 : tyq382 c208 = 60 := gSg.typ xq382 sS207.1 tc208 rfl
            have t398 : tyq382 c209 = 61 := gSg.typ xq382 sS207.1 tc209 rfl
            have s399 := gSg.at xq382 sS207.1 t170 rfl (by decide) s181
            have s400 := gSg.at xq382 sS207.1 t170 rfl (by decide) s182
            have s401 := gSg.at xq382 sS207.1 t170 rfl (by decide) s183
            have s402 := gSg.at xq382 sS207.1 t175 rfl (by decide) s184
            have s403 := gSg.at xq382 sS207.1 t175 rfl (by decide) s185
            have s404 := gSg.at xq382 sS207.1 t175 rfl (by decide) s186
            have s405 := gSg.at xq382 sS207.1 t175 rfl (by decide) s187
            have s406 := gSg.at xq382 sS207.1 t170 rfl (by decide) s188
            have s407 := gSg.at xq382 sS207.1 t170 rfl (by decide) s189
            have s408 := gSg.at xq382 sS207.1 t179 rfl (by decide) s190
            have s409 := gSg.at xq382 sS207.1 t179 rfl (by decide) s191
            have s410 := gSg.at xq382 sS207.1 t179 rfl (by decide) efq168_3
            have s411 := gSg.at xq382 sS207.1 t175 rfl (by decide) ec208
            have s412 := gSg.at xq382 sS207.1 t175 rfl (by decide) ec209
            have pr413 := gStx.gr xq382 (by decide) (fun x hx => by cases hx) pr192
            have pr414 := gPC.gr xq382 sS207.1 (by decide) pr193
            have pr415 := gTc.gr xq382 sS207.1 (by decide) (by decide) pr194
            have pr416 := gRr.gr xq382 sS207.1 (by decide) (by decide) pr195
            have pr417 := gRn.gr xq382 sS207.1 rfl (by decide) (by decide) pr196
            have pr418 := gRn.gr xq382 sS207.1 rfl (by decide) (by decide) pr197
            have pr419 := gRn.gr xq382 sS207.1 rfl (by decide) (by decide) pr198
            have pr420 := gRn.gr xq382 sS207.1 rfl (by decide) (by decide) pr199
            have pr421 := gRn.gr xq382 sS207.1 rfl (by decide) (by decide) pr200
            have pr422 := gRn.gr xq382 sS207.1 rfl (by decide) (by decide) pr201
            have pr423 := gRn.gr xq382 sS207.1 rfl (by decide) (by decide) pr202
            have pr424 := gRn.gr xq382 sS207.1 rfl (by decide) (by decide) pr203
            have pr425 := gRn.gr xq382 sS207.1 rfl (by decide) (by decide) pr204
            have uq426 := gSg.uq xq382 uq205 (by decide)
            have hyst427 := gSta.gr xq382 (by decide) (fun x hx => by cases hx) (gSta.fr sS207.2 (by decide) hyst206)
            have sS428 : gSs rT 1027 tyq382 [50006, 55008, 56000, 56001, 56002, 56003, 64999, 71005, 71006, 71007, 71008, 71009, 71010, 71011, 71012, 71013, 71014, 72999, 73999, 74999, 76999, 77999, 78999, 79999, 80999, 81999, 85999, 91004, 91008, 92004, 92008, 93999, 94999, 95999, 96999, 97999, 98999, 99999, 114999] hq382 hq382 := gSs.rf xq382.1
            have hk429 : eKk qu i0 dw dh n0 S 0 = eSc fq168_3 0 63 0 0 (eCf S.1.2.1 (eTb S.1.1 qu) dw dh (zup dw 8)) (fq139_0).toNat (eHd (eTb S.1.1 qu) n0 dh dw i0) := by rw [hmn, hiw]; exact eKk_z (by omega)
            have hk429_1 : (eKk qu i0 dw dh n0 S 0).1 = (eSc fq168_3 0 63 0 0 (eCf S.1.2.1 (eTb S.1.1 qu) dw dh (zup dw 8)) (fq139_0).toNat (eHd (eTb S.1.1 qu) n0 dh dw i0)).1 := by rw [hk429]
            have hk429_21 : (eKk qu i0 dw dh n0 S 0).2.1 = (eSc fq168_3 0 63 0 0 (eCf S.1.2.1 (eTb S.1.1 qu) dw dh (zup dw 8)) (fq139_0).toNat (eHd (eTb S.1.1 qu) n0 dh dw i0)).2.1 := by rw [hk429]
            have hk429_221 : (eKk qu i0 dw dh n0 S 0).2.2.1 = (eSc fq168_3 0 63 0 0 (eCf S.1.2.1 (eTb S.1.1 qu) dw dh (zup dw 8)) (fq139_0).toNat (eHd (eTb S.1.1 qu) n0 dh dw i0)).2.2.1 := by rw [hk429]
            have hsw430 : gSW tyq382 cq382_0 (eKk qu i0 dw dh n0 S 0) hq382 := by rw [hk429]; exact yq382_0
            have hok431 : eeOk (eKk qu i0 dw dh n0 S 0) := by rw [hk429]; exact yq382_1
            have hoc432 := hok431.cur
            refine gz_s 2 (pc' := 122) (L' := [some (.ref x), some (.int (zi qu)), some (.int (zi 0))]) (S' := []) rfl ?_
            have lp433 : ∀ (fu : Nat) (ty435 : Nat → Nat) (h434 : gH) (bv : Nat) (i : Int) (cv : Int) (uv : Int) (hv : Int), (11 - i).toNat < fu → gSg [71, 72, 73, 74, 75, 76, 77, 78, 79, 80, 81, 85, 91, 92, 93, 94, 95, 96, 97, 98, 99, 114, 200] [] [50006, 55008, 56000, 56001, 56002, 56003, 64999, 71005, 71006, 71007, 71008, 71009, 71010, 71011, 71012, 71013, 71014, 72999, 73999, 74999, 76999, 77999, 78999, 79999, 80999, 81999, 85999, 91004, 91008, 92004, 92008, 93999, 94999, 95999, 96999, 97999, 98999, 99999, 114999] ty h ty435 h434 → gUq ty435 → gSta ty435 h434 → ty435 x = 50 → ty435 pic = 54 → ty435 dr = 55 → ty435 sk = 56 → ty435 c18 = 71 → ty435 c114 = 53 → ty435 c208 = 60 → ty435 c209 = 61 → h434.2.2.2.2 sk 0 = .ref bv → ty435 bv = 114 → (0 ≤ i ∧ i ≤ 10) → (0 ≤ cv ∧ cv ≤ 499999) → (0 ≤ uv ∧ uv ≤ 127) → (0 ≤ hv ∧ hv ≤ 7) → ((n0 = 0 ∧ 4 * cv + hv ≤ 336000) ∨ 4 * cv + hv ≤ 400 + 7876 * i + 5120 * gTl S.1.2.2.1 S.1.2.2.2.1 i) → (i ≤ n0) → (cv ≤ (h434.2.2.2.1 bv : Int)) → (1024 * (((h434.1 : Int) - h.1) - 21) ≤ (h434.2.2.2.1 bv : Int) - lb) → (((h434.2.1 : Int) - h.2.1) ≤ 4303 + 2 * ((h434.2.2.2.1 bv : Int) - lb)) → (lb ≤ (h434.2.2.2.1 bv : Int)) → (cv = (eKk qu i0 dw dh n0 S i).1) → (uv = (eKk qu i0 dw dh n0 S i).2.1) → (hv = (eKk qu i0 dw dh n0 S i).2.2.1) → h434.2.2.2.2 x 2 = .ref pic → h434.2.2.2.2 x 3 = .ref dr → h434.2.2.2.2 x 4 = .ref sk → h434.2.2.2.2 dr 8 = .int (zi n0) → h434.2.2.2.2 dr 3 = .int (zi i0) → h434.2.2.2.2 dr 1 = .int (zi dw) → h434.2.2.2.2 dr 2 = .int (zi dh) → h434.2.2.2.2 x 6 = .ref c18 → h434.2.2.2.2 x 1 = .ref c114 → h434.2.2.2.2 c18 5 = .int (zi fq139_0) → h434.2.2.2.2 c18 0 = .ref sk → h434.2.2.2.2 c18 6 = .int (zi fq168_3) → h434.2.2.2.2 dr 4 = .ref c208 → h434.2.2.2.2 dr 5 = .ref c209 → h434.2.2.2.2 sk 1 = .int (zi cv) → h434.2.2.2.2 sk 2 = .int (zi uv) → h434.2.2.2.2 sk 3 = .int (zi hv) → gStx ty435 h434 → gPC ty435 pic b0 b1 b2 ld h434 → gTc ty435 n0 h434 → gRr ty435 x h434 → gRn 256 ty435 53 S.1.1 h434 → gRn 1024 ty435 59 S.1.2.1 h434 → gRn 10 ty435 60 S.1.2.2.1 h434 → gRn 10 ty435 61 S.1.2.2.2.1 h434 → gRn 10 ty435 62 S.1.2.2.2.2.1 h434 → gRn 10 ty435 63 S.1.2.2.2.2.2.1 h434 → gRn 64 ty435 64 S.1.2.2.2.2.2.2 h434 → gRn 64 ty435 72 (eTb S.1.1 qu) h434 → gRn (64 * fq139_0).toNat ty435 73 (eCf S.1.2.1 (eTb S.1.1 qu) dw dh (zup dw 8)) h434 → gSW ty435 bv (eKk qu i0 dw dh n0 S i) h434 → eeOk (eKk qu i0 dw dh n0 S i) → gz gPP gGG gcn (d + 8) gt89 122 [some (.ref x), some (.int (zi qu)), some (.int (zi i))] [] h434 (fun q _ => ∃ ty9 : Nat → Nat, gSg [71, 72, 73, 74, 75, 76, 77, 78, 79, 80, 81, 85, 91, 92, 93, 94, 95, 96, 97, 98, 99, 114, 200] [] [50006, 55008, 56000, 56001, 56002, 56003, 64999, 71005, 71006, 71007, 71008, 71009, 71010, 71011, 71012, 71013, 71014, 72999, 73999, 74999, 76999, 77999, 78999, 79999, 80999, 81999, 85999, 91004, 91008, 92004, 92008, 93999, 94999, 95999, 96999, 97999, 98999, 99999, 114999] ty h ty9 q.2.2 ∧ ∃ ld1 lb1 iv1 : Int, 0 ≤ ld1 ∧ ld1 ≤ 192 ∧ 1024 ≤ lb1 ∧ lb1 ≤ 1000000 ∧ 0 ≤ iv1 ∧ iv1 ≤ 26476544 ∧ (gIx ty9 x ld1 lb1 iv1 (eQ3 qu (iv / 262144) (iv / 64 % 64) (iv / 4096 % 64) (iv % 64) S) q.2.2) ∧ gUq ty9 ∧ ((∃ z : Int, gfin gt89 q.1 q.2.1 = some (some (.int (zi z))) ∧ (-2147483648) ≤ z ∧ z ≤ 2147483647 ∧ (1 ≤ qu) ∧ (qu ≤ 100) ∧ (1 ≤ iv / 64 % 64) ∧ (iv1 = iv - iv % 64) ∧ (z = (eNn qu (iv / 262144) (iv / 64 % 64) (iv / 4096 % 64) (iv % 64) S).1) ∧ (1024 * (((q.2.2.1 : Int) - h.1) - 31 - 2 * (ld1 - ld)) ≤ lb1 - lb) ∧ (((q.2.2.2.1 : Int) - h.2.1) ≤ 4303 + 12480 * (ld1 - ld) + 2 * (lb1 - lb)) ∧ (ld ≤ ld1) ∧ (lb ≤ lb1)) ∨ (q.2.1 = [] ∧ ((q.1 = 11 ∧ (¬ (1 ≤ qu ∧ qu ≤ 100))) ∨ (q.1 = 32 ∧ (1 ≤ qu) ∧ (qu ≤ 100) ∧ (iv / 64 % 64 = 0))) ∧ (iv1 = iv) ∧ (1024 * (((q.2.2.1 : Int) - h.1) - 31 - 2 * (ld1 - ld)) ≤ lb1 - lb) ∧ (((q.2.2.2.1 : Int) - h.2.1) ≤ 4303 + 12480 * (ld1 - ld) + 2 * (lb1 - lb)) ∧ (ld ≤ ld1) ∧ (lb ≤ lb1)))) := by
              intro fu
              induction fu with
              | zero => intro ty435 h434 bv i cv uv hv hm; exact absurd hm (Nat.not_lt_zero _)
              | succ fu ihlp433 =>
                intro ty435 h434 bv i cv uv hv lp433m lp433G lp433u lp433t lp433c0 lp433c1 lp433c2 lp433c3 lp433c4 lp433c5 lp433c6 lp433c7 lp433r0 lp433r1 lp433f0 lp433f1 lp433f2 lp433f3 lp433f4 lp433f5 lp433f6 lp433f7 lp433f8 lp433f9 lp433f10 lp433f11 lp433f12 lp433k0 lp433k1 lp433k2 lp433k3 lp433k4 lp433k5 lp433k6 lp433k7 lp433k8 lp433k9 lp433k10 lp433k11 lp433k12 lp433k13 lp433k14 lp433k15 lp433k16 lp433k17 lp433k18 lp433k19 lp433k20 lp433k21 lp433k22 lp433k23 lp433k24 lp433k25 lp433k26 lp433k27 lp433k28 lp433k29 lp433k30 lp433k31
                have sh434 : gSs rT 1027 ty435 [50006, 55008, 56000, 56001, 56002, 56003, 64999, 71005, 71006, 71007, 71008, 71009, 71010, 71011, 71012, 71013, 71014, 72999, 73999, 74999, 76999, 77999, 78999, 79999, 80999, 81999, 85999, 91004, 91008, 92004, 92008, 93999, 94999, 95999, 96999, 97999, 98999, 99999, 114999] h434 h434 := gSs.rf lp433G.1
                refine gz_s 2 (pc' := 124) (L' := [some (.ref x), some (.int (zi qu)), some (.int (zi i))]) (S' := [.ref x, .int (zi i)]) rfl ?_
                refine gs_gtk rfl (by decide) rfl sh434.1 lp433c0 rfl rfl lp433k1 ?_
                refine gs_gtk rfl (by decide) rfl sh434.1 lp433c2 rfl rfl lp433k3 ?_
                refine gy_icT (pc' := 182) rfl (by decide) (by decide) ⟨by omega, by omega⟩ ⟨by omega, by omega⟩ (by first | (simp [zc]; done) | (simp only [zc]; omega)) ?_
                have hgl9 : gTl S.1.2.2.1 S.1.2.2.2.1 i = gTl S.1.2.2.1 S.1.2.2.2.1 n0 := by rw [show i = n0 from Int.le_antisymm (by omega) (by omega)]
                refine gz_s 1 (pc' := 183) (L' := [some (.ref x), some (.int (zi qu)), some (.int (zi i))]) (S' := [.ref x]) rfl ?_
                refine gs_gtk rfl (by decide) rfl sh434.1 lp433c0 rfl rfl lp433k7 ?_
                have hl436 : h434.2.2.2.1 bv = h434.2.2.2.1 bv := congrFun sh434.2.2.2.2.1 bv
                refine gz_call rfl (by decide) rfl (by decide) (by decide) (gcal_of rfl rfl rfl (Nat.le_of_ble_eq_true rfl) (gJ.recv (G := gGG) sh434.1 lp433c4 rfl rfl)) (cw_putEnd _ sh434.1 c18 lp433c4 sk lp433k10 lp433c3 bv lp433r0 lp433r1 cv lp433k14 ⟨by omega, by omega⟩ (eKk qu i0 dw dh n0 S i) (by omega) (by omega) lp433u lp433k30 lp433k31) (fun q437 _ wq437 => ?_)
                obtain ⟨pq437, oq437, hq437⟩ := q437
                obtain ⟨tyq437, xq437, cq437_0, ttq437, fq437_0, ecq437_0, tcq437_0, gq437, efq437_0, afq437_0, bfq437_0, uq437_0, uq437_1, uq437_2, uq437_3, uq437_4, uq437_5, uq437_6, uq437_7, yq437_0, yq437_1⟩ := wq437
                dsimp only at uq437_4 uq437_5 uq437_6 uq437_7
                refine ⟨_, gq437, ?_⟩
                show gz gPP gGG gcn _ _ 189 [some (.ref x), some (.int (zi qu)), some (.int (zi i))] [] hq437 _
                have G438 : gSg [71, 72, 73, 74, 75, 76, 77, 78, 79, 80, 81, 85, 91, 92, 93, 94, 95, 96, 97, 98, 99, 114, 200] [] [50006, 55008, 56000, 56001, 56002, 56003, 64999, 71005, 71006, 71007, 71008, 71009, 71010, 71011, 71012, 71013, 71014, 72999, 73999, 74999, 76999, 77999, 78999, 79999, 80999, 81999, 85999, 91004, 91008, 92004, 92008, 93999, 94999, 95999, 96999, 97999, 98999, 99999, 114999] ty h tyq437 hq437 := gSg.tr (gSg.ss lp433G sh434 (by decide)) xq437 (by decide) (by decide) (fun x hx => by cases hx)
                have t439 : tyq437 x = 50 := gSg.typ xq437 sh434.1 lp433c0 rfl
                have t440 : tyq437 pic = 54 := gSg.typ xq437 sh434.1 lp433c1 rfl
                have t441 : tyq437 dr = 55 := gSg.typ xq437 sh434.1 lp433c2 rfl
                have t442 : tyq437 sk = 56 := gSg.typ xq437 sh434.1 lp433c3 rfl
                have t443 : tyq437 c18 = 71 := gSg.typ xq437 sh434.1 lp433c4 rfl
                have t444 : tyq437 c114 = 53 := gSg.typ xq437 sh434.1 lp433c5 rfl
                have t445 : tyq437 c208 = 60 := gSg.typ xq437 sh434.1 lp433c6 rfl
                have t446 : tyq437 c209 = 61 := gSg.typ xq437 sh434.1 lp433c7 rfl
                have t447 : tyq437 bv = 114 := gSg.typ xq437 sh434.1 lp433r1 rfl
                have hl448 : hq437.2.2.2.1 bv = h434.2.2.2.1 bv := gSg.len xq437 sh434.1 lp433r1 rfl
                have s449 := gSg.at xq437 sh434.1 lp433c0 rfl (by decide) lp433k0
                have s450 := gSg.at xq437 sh434.1 lp433c0 rfl (by decide) lp433k1
                have s451 := gSg.at xq437 sh434.1 lp433c0 rfl (by decide) lp433k2
                have s452 := gSg.at xq437 sh434.1 lp433c2 rfl (by decide) lp433k3
                have s453 := gSg.at xq437 sh434.1 lp433c2 rfl (by decide) lp433k4
                have s454 := gSg.at xq437 sh434.1 lp433c2 rfl (by decide) lp433k5
                have s455 := gSg.at xq437 sh434.1 lp433c2 rfl (by decide) lp433k6
                have s456 := gSg.at xq437 sh434.1 lp433c0 rfl (by decide) lp433k7
                have s457 := gSg.at xq437 sh434.1 lp433c0 rfl (by decide) lp433k8
                have s458 := gSg.at xq437 sh434.1 lp433c4 rfl (by decide) lp433k9
                have s459 := gSg.at xq437 sh434.1 lp433c4 rfl (by decide) lp433k10
                have s460 := gSg.at xq437 sh434.1 lp433c4 rfl (by decide) lp433k11
                have s461 := gSg.at xq437 sh434.1 lp433c2 rfl (by decide) lp433k12
                have s462 := gSg.at xq437 sh434.1 lp433c2 rfl (by decide) lp433k13
                have s463 := gSg.at xq437 sh434.1 lp433c3 rfl (by decide) lp433k15
                have s464 := gSg.at xq437 sh434.1 lp433c3 rfl (by decide) lp433k16
                have pr465 := gStx.gr xq437 (by decide) (fun x hx => by cases hx) lp433k17
                have pr466 := gPC.gr xq437 sh434.1 (by decide) lp433k18
                have pr467 := gTc.gr xq437 sh434.1 (by decide) (by decide) lp433k19
                have pr468 := gRr.gr xq437 sh434.1 (by decide) (by decide) lp433k20
                have pr469 := gRn.gr xq437 sh434.1 rfl (by decide) (by decide) lp433k21
                have pr470 := gRn.gr xq437 sh434.1 rfl (by decide) (by decide) lp433k22
                have pr471 := gRn.gr xq437 sh434.1 rfl (by decide) (by decide) lp433k23
                have pr472 := gRn.gr xq437 sh434.1 rfl (by decide) (by decide) lp433k24
                have pr473 := gRn.gr xq437 sh434.1 rfl (by decide) (by decide) lp433k25
                have pr474 := gRn.gr xq437 sh434.1 rfl (by decide) (by decide) lp433k26
                have pr475 := gRn.gr xq437 sh434.1 rfl (by decide) (by decide) lp433k27
                have pr476 := gRn.gr xq437 sh434.1 rfl (by decide) (by decide) lp433k28
                have pr477 := gRn.gr xq437 sh434.1 rfl (by decide) (by decide) lp433k29
                have uq478 := gSg.uq xq437 lp433u (by decide)
                have hyst479 := gSta.gr xq437 (by decide) (fun x hx => by cases hx) (gSta.fr sh434.2 (by decide) lp433t)
                have sS480 : gSs rT 1027 tyq437 [50006, 55008, 56000, 56001, 56002, 56003, 64999, 71005, 71006, 71007, 71008, 71009, 71010, 71011, 71012, 71013, 71014, 72999, 73999, 74999, 76999, 77999, 78999, 79999, 80999, 81999, 85999, 91004, 91008, 92004, 92008, 93999, 94999, 95999, 96999, 97999, 98999, 99999, 114999] hq437 hq437 := gSs.rf xq437.1
                have hk481 : eNn qu i0 dw dh n0 S = eeM (eKk qu i0 dw dh n0 S i) 217 := eKk_e (by omega)
                have hk481_1 : (eNn qu i0 dw dh n0 S).1 = (eeM (eKk qu i0 dw dh n0 S i) 217).1 := by rw [hk481]
                have hk481_21 : (eNn qu i0 dw dh n0 S).2.1 = (eeM (eKk qu i0 dw dh n0 S i) 217).2.1 := by rw [hk481]
                have hk481_221 : (eNn qu i0 dw dh n0 S).2.2.1 = (eeM (eKk qu i0 dw dh n0 S i) 217).2.2.1 := by rw [hk481]
                have hsw482 : gSW tyq437 cq437_0 (eNn qu i0 dw dh n0 S) hq437 := by rw [hk481]; exact yq437_0
                have hok483 : eeOk (eNn qu i0 dw dh n0 S) := by rw [hk481]; exact yq437_1
                have hoc484 := hok483.cur
                have hcd9 := hcd
                refine gz_s 1 (pc' := 190) (L' := [some (.ref x), some (.int (zi qu)), some (.int (zi i))]) (S' := [.ref x]) rfl ?_
                refine gs_gtk rfl (by decide) rfl sS480.1 t439 rfl rfl s450 ?_
                refine gz_call rfl (by decide) rfl (by decide) (by decide) (gcal_of rfl rfl rfl (Nat.le_of_ble_eq_true rfl) (gJ.recv (G := gGG) sS480.1 t441 rfl rfl)) (cl_Draft_forgetScans _ sS480.1 dr t441 uq478) (fun q485 _ wq485 => ?_)
                obtain ⟨pq485, oq485, hq485⟩ := q485
                obtain ⟨xq485, fq485_0, gq485, efq485_0, afq485_0, bfq485_0, uq485_0, yq485_0, yq485_1⟩ := wq485
                refine ⟨_, gq485, ?_⟩
                show gz gPP gGG gcn _ _ 196 [some (.ref x), some (.int (zi qu)), some (.int (zi i))] [] hq485 _
                have sq485 : gSs rT 1027 tyq437 [50006, 55008, 56000, 56001, 56002, 56003, 64999, 71005, 71006, 71007, 71008, 71009, 71010, 71011, 71012, 71013, 71014, 72999, 73999, 74999, 76999, 77999, 78999, 79999, 80999, 81999, 85999, 91004, 91008, 92004, 92008, 93999, 94999, 95999, 96999, 97999, 98999, 99999, 114999] hq437 hq485 := gSs.tr sS480 xq485 (by decide)
                have s486 := (xq485.2.2.2.2.2 x 2 (by rw [t439]; decide)).trans s449
                have s487 := (xq485.2.2.2.2.2 x 3 (by rw [t439]; decide)).trans s450
                have s488 := (xq485.2.2.2.2.2 x 4 (by rw [t439]; decide)).trans s451
                have s489 := (xq485.2.2.2.2.2 dr 3 (by rw [t441]; decide)).trans s453
                have s490 := (xq485.2.2.2.2.2 dr 1 (by rw [t441]; decide)).trans s454
                have s491 := (xq485.2.2.2.2.2 dr 2 (by rw [t441]; decide)).trans s455
                have s492 := (xq485.2.2.2.2.2 x 6 (by rw [t439]; decide)).trans s456
                have s493 := (xq485.2.2.2.2.2 x 1 (by rw [t439]; decide)).trans s457
                have s494 := (xq485.2.2.2.2.2 c18 5 (by rw [t443]; decide)).trans s458
                have s495 := (xq485.2.2.2.2.2 c18 0 (by rw [t443]; decide)).trans s459
                have s496 := (xq485.2.2.2.2.2 c18 6 (by rw [t443]; decide)).trans s460
                have s497 := (xq485.2.2.2.2.2 dr 4 (by rw [t441]; decide)).trans s461
                have s498 := (xq485.2.2.2.2.2 dr 5 (by rw [t441]; decide)).trans s462
                have s499 := (xq485.2.2.2.2.2 sk 2 (by rw [t442]; decide)).trans s463
                have s500 := (xq485.2.2.2.2.2 sk 3 (by rw [t442]; decide)).trans s464
                have s501 := (xq485.2.2.2.2.2 sk 0 (by rw [t442]; decide)).trans ecq437_0
                have s502 := (xq485.2.2.2.2.2 sk 1 (by rw [t442]; decide)).trans efq437_0
                have pr503 := gStx.fr xq485.2 (by decide) pr465
                have pr504 := gPC.fr xq485.2 (by decide) pr466
                have pr505 := gRr.fr xq485.2 (by decide) pr468
                have pr506 := gRn.fr xq485.2 (by decide) pr469
                have pr507 := gRn.fr xq485.2 (by decide) pr470
                have pr508 := gRn.fr xq485.2 (by decide) pr471
                have pr509 := gRn.fr xq485.2 (by decide) pr472
                have pr510 := gRn.fr xq485.2 (by decide) pr473
                have pr511 := gRn.fr xq485.2 (by decide) pr474
                have pr512 := gRn.fr xq485.2 (by decide) pr476
                have pr513 := gRn.fr xq485.2 (by decide) pr477
                have pr514 := gSW.fr xq485.2 (by decide) hsw482
                refine gz_s 1 (pc' := 197) (L' := [some (.ref x), some (.int (zi qu)), some (.int (zi i))]) (S' := [.ref x]) rfl ?_
                refine gs_gtk rfl (by decide) rfl sq485.1 t439 rfl rfl s488 ?_
                refine gs_gtk rfl (by decide) rfl sq485.1 t442 rfl rfl s502 ?_
                have k515 := sq485.2.1
                have k515b := sq485.2.2.1
                have hl516 : hq485.2.2.2.1 bv = hq437.2.2.2.1 bv := congrFun sq485.2.2.2.2.1 bv
                have hl517 : hq485.2.2.2.1 cq437_0 = hq437.2.2.2.1 cq437_0 := congrFun sq485.2.2.2.2.1 cq437_0
                have hl518 : 1024 ≤ hq485.2.2.2.1 bv ∧ hq485.2.2.2.1 bv ≤ 1000000 := gJ.rowl (G := gGG) sq485.1 t447 rfl
                have hl519 : 1024 ≤ hq485.2.2.2.1 cq437_0 ∧ hq485.2.2.2.1 cq437_0 ≤ 1000000 := gJ.rowl (G := gGG) sq485.1 tcq437_0 rfl
                have hxr520 : gXr tyq437 (eS3 S (eNn qu i0 dw dh n0 S)) hq485 := ⟨pr506, pr507, pr508, pr509, pr510, pr511, gOy.Rn (by decide) yq485_1⟩
                have hnv : (eNn qu (iv / 262144) (iv / 64 % 64) (iv / 4096 % 64) (iv % 64) S).1 = (eNn qu i0 dw dh n0 S).1 := by rw [hdi, hdw, hdh, hdn]
                have k521 := sq485.2.1
                have k521b := sq485.2.2.1
                have hl522 : hq485.2.2.2.1 bv = hq437.2.2.2.1 bv := congrFun sq485.2.2.2.2.1 bv
                have hl523 : hq485.2.2.2.1 cq437_0 = hq437.2.2.2.1 cq437_0 := congrFun sq485.2.2.2.2.1 cq437_0
                have hix524 : gIx tyq437 x ld (hq485.2.2.2.1 cq437_0 : Int) (64 * dw + fq485_0 + 4096 * dh + 262144 * i0) (eS3 S (eNn qu i0 dw dh n0 S)) hq485 := ⟨pic, b0, b1, b2, dr, sk, cq437_0, fq485_0, fq437_0, i0, dw, dh, ⟨t439, t441, t442, tcq437_0⟩, ⟨s486, s487, s488, s501⟩, pr504, (by rw [(by omega : fq485_0 = 0)]; exact yq485_0), ⟨efq485_0, by omega, by omega⟩, ⟨s489, by omega, by omega⟩, ⟨s502, by omega, by omega⟩, ⟨by omega, by omega⟩, pr505, ⟨t439, Or.inr ⟨c18, s492, t443⟩⟩, ⟨s490, by omega, by omega⟩, ⟨s491, by omega, by omega⟩, by omega, rfl, hxr520, ⟨pr514, (show _ = ((eNn qu i0 dw dh n0 S)).1 by omega)⟩, (by rw [(by omega : fq485_0 = 0)]; exact eTz.zero)⟩
                have hix525 : gIx tyq437 x ld (hq485.2.2.2.1 cq437_0 : Int) (64 * dw + fq485_0 + 4096 * dh + 262144 * i0) (eQ3 qu (iv / 262144) (iv / 64 % 64) (iv / 4096 % 64) (iv % 64) S) hq485 := by rw [hdi, hdw, hdh, hdn, eQ3_y hok]; exact hix524
                have G526 : gSg [71, 72, 73, 74, 75, 76, 77, 78, 79, 80, 81, 85, 91, 92, 93, 94, 95, 96, 97, 98, 99, 114, 200] [] [50006, 55008, 56000, 56001, 56002, 56003, 64999, 71005, 71006, 71007, 71008, 71009, 71010, 71011, 71012, 71013, 71014, 72999, 73999, 74999, 76999, 77999, 78999, 79999, 80999, 81999, 85999, 91004, 91008, 92004, 92008, 93999, 94999, 95999, 96999, 97999, 98999, 99999, 114999] ty h tyq437 hq485 := gSg.ss G438 sq485 (by decide)
                exact gz_end (I := .ireturn) (len := 1) rfl (Or.inl rfl) ⟨tyq437, G526, ld, (hq485.2.2.2.1 cq437_0 : Int), (64 * dw + fq485_0 + 4096 * dh + 262144 * i0), (by omega), (by omega), (by omega), (by omega), (by omega), (by omega), hix525, uq478, Or.inl ⟨fq437_0, rfl, (by omega), (by omega), (by omega), (by omega), (by omega), (by omega), (by omega), (by dsimp only; omega), (by dsimp only; omega), (by omega), (by omega)⟩⟩
            have hl527 : 1024 ≤ hq382.2.2.2.1 bt ∧ hq382.2.2.2.1 bt ≤ 1000000 := gJ.rowl (G := gGG) sS428.1 t391 rfl
            have hl528 : 1024 ≤ hq382.2.2.2.1 cq168_0 ∧ hq382.2.2.2.1 cq168_0 ≤ 1000000 := gJ.rowl (G := gGG) sS428.1 t395 rfl
            have hl529 : 1024 ≤ hq382.2.2.2.1 cq382_0 ∧ hq382.2.2.2.1 cq382_0 ≤ 1000000 := gJ.rowl (G := gGG) sS428.1 tcq382_0 rfl
            have G530 : gSg [71, 72, 73, 74, 75, 76, 77, 78, 79, 80, 81, 85, 91, 92, 93, 94, 95, 96, 97, 98, 99, 114, 200] [] [50006, 55008, 56000, 56001, 56002, 56003, 64999, 71005, 71006, 71007, 71008, 71009, 71010, 71011, 71012, 71013, 71014, 72999, 73999, 74999, 76999, 77999, 78999, 79999, 80999, 81999, 85999, 91004, 91008, 92004, 92008, 93999, 94999, 95999, 96999, 97999, 98999, 99999, 114999] ty h tyq382 hq382 := gSg.ss G383 sS428 (by decide)
            exact gz_wk (lp433 _ tyq382 hq382 cq382_0 0 fq382_0 fq382_1 fq382_2 (Nat.lt_succ_self _) G530 uq426 (gSta.fr sS428.2 (by decide) hyst427) t384 t385 t389 t390 t393 t394 t397 t398 ecq382_0 tcq382_0 ⟨by omega, by omega⟩ ⟨by omega, by omega⟩ ⟨by omega, by omega⟩ ⟨by omega, by omega⟩ (by omega) (by omega) (by omega) (by omega) (by omega) (by omega) (by omega) (by omega) (by omega) s399 s400 s401 s402 s403 s404 s405 s406 s407 s408 s409 s410 s411 s412 efq382_0 efq382_1 efq382_2 pr413 pr414 pr415 pr416 pr417 pr418 pr419 pr420 pr421 pr422 pr423 pr424 pr425 hsw430 hok431) (gLw.s (gLw.s (gLw.s gLw.z)))
        · skip
          refine gz_s 2 (pc' := 65) (L' := [some (.ref x), some (.int (zi qu)), none]) (S' := [.ref x]) rfl ?_
          refine gs_gtk rfl (by decide) rfl hS.1 tx rfl rfl ec15 ?_
          refine gz_s 1 (pc' := 69) (L' := [some (.ref x), some (.int (zi qu)), none]) (S' := [.ref x, .ref c15]) rfl ?_
          refine gs_gtr rfl (by decide) rfl hS.1 tx rfl rfl rfl (fun c531 ec531 tc531 => ?_)
          refine gz_s 1 (pc' := 73) (L' := [some (.ref x), some (.int (zi qu)), none]) (S' := [.int (zi qu), .ref c531, .ref c15]) rfl ?_
          refine gz_call rfl (by decide) rfl (by decide) (by decide) (gcal_of rfl rfl rfl (Nat.le_of_ble_eq_true rfl) (gJ.recv (G := gGG) hS.1 tc15 rfl rfl)) (cw_makeTable _ hS.1 c15 tc15 c531 tc531 qu ⟨by omega, by omega⟩ S.1.1 uq xr8) (fun q532 _ wq532 => ?_)
          obtain ⟨pq532, oq532, hq532⟩ := q532
          obtain ⟨xq532, gq532, yq532_0⟩ := wq532
          refine ⟨_, gq532, ?_⟩
          show gz gPP gGG gcn _ _ 76 [some (.ref x), some (.int (zi qu)), none] [] hq532 _
          have sq532 : gSs rT 1027 ty [50006, 55008, 56000, 56001, 56002, 56003, 64999, 71005, 71006, 71007, 71008, 71009, 71010, 71011, 71012, 71013, 71014, 72999, 73999, 74999, 76999, 77999, 78999, 79999, 80999, 81999, 85999, 91004, 91008, 92004, 92008, 93999, 94999, 95999, 96999, 97999, 98999, 99999, 114999] h hq532 := gSs.tr hS xq532 (by decide)
          have s533 := (xq532.2.2.2.2.2 x 2 (by rw [tx]; decide)).trans ex2
          have s534 := (xq532.2.2.2.2.2 x 3 (by rw [tx]; decide)).trans ex3
          have s535 := (xq532.2.2.2.2.2 x 4 (by rw [tx]; decide)).trans ex4
          have s536 := (xq532.2.2.2.2.2 sk 0 (by rw [tsk]; decide)).trans ex0
          have s537 := (xq532.2.2.2.2.2 dr 8 (by rw [tdr]; decide)).trans en0
          have s538 := (xq532.2.2.2.2.2 dr 3 (by rw [tdr]; decide)).trans eiv
          have s539 := (xq532.2.2.2.2.2 dr 1 (by rw [tdr]; decide)).trans edw
          have s540 := (xq532.2.2.2.2.2 dr 2 (by rw [tdr]; decide)).trans edh
          have s541 := (xq532.2.2.2.2.2 sk 1 (by rw [tsk]; decide)).trans ec0
          have s542 := (xq532.2.2.2.2.2 x 6 (by rw [tx]; decide)).trans ec15
          have s543 := (xq532.2.2.2.2.2 x 1 (by rw [tx]; decide)).trans ec531
          have pr544 := gStx.fr xq532.2 (by decide) hysx
          have pr545 := gSW.fr xq532.2 (by decide) hsw
          have pr546 := gPC.fr xq532.2 (by decide) hpc
          have pr547 := gTc.fr xq532.2 (by decide) htc
          have pr548 := gRr.fr xq532.2 (by decide) hrr
          have pr549 := gRw.fr xq532.2 (by decide) hrw
          have pr550 := gRn.fr xq532.2 (by decide) xr8
          have pr551 := gRn.fr xq532.2 (by decide) xr9
          have pr552 := gRn.fr xq532.2 (by decide) xr10
          have pr553 := gRn.fr xq532.2 (by decide) xr11
          have pr554 := gRn.fr xq532.2 (by decide) xr12
          have pr555 := gRn.fr xq532.2 (by decide) xr13
          have pr556 := gRn.fr xq532.2 (by decide) xr14
          refine gz_s 1 (pc' := 77) (L' := [some (.ref x), some (.int (zi qu)), none]) (S' := [.ref x]) rfl ?_
          refine gs_gtk rfl (by decide) rfl sq532.1 tx rfl rfl s542 ?_
          refine gz_s 1 (pc' := 81) (L' := [some (.ref x), some (.int (zi qu)), none]) (S' := [.ref x, .ref c15]) rfl ?_
          refine gs_gtk rfl (by decide) rfl sq532.1 tx rfl rfl s534 ?_
          refine gz_call rfl (by decide) rfl (by decide) (by decide) (gcal_of rfl rfl rfl (Nat.le_of_ble_eq_true rfl) (gJ.recv (G := gGG) sq532.1 tc15 rfl rfl)) (cw_transformCanvas _ sq532.1 c15 tc15 dr tdr dw s539 ⟨by omega, by omega⟩ dh s540 ⟨by omega, by omega⟩ S.1.2.1 (eTb S.1.1 qu) uq pr551 yq532_0 pr544 eTb_b) (fun q557 _ wq557 => ?_)
          obtain ⟨pq557, oq557, hq557⟩ := q557
          obtain ⟨xq557, fq557_0, gq557, efq557_0, afq557_0, bfq557_0, uq557_0, yq557_0⟩ := wq557
          refine ⟨_, gq557, ?_⟩
          show gz gPP gGG gcn _ _ 87 [some (.ref x), some (.int (zi qu)), none] [] hq557 _
          have sq557 : gSs rT 1027 ty [50006, 55008, 56000, 56001, 56002, 56003, 64999, 71005, 71006, 71007, 71008, 71009, 71010, 71011, 71012, 71013, 71014, 72999, 73999, 74999, 76999, 77999, 78999, 79999, 80999, 81999, 85999, 91004, 91008, 92004, 92008, 93999, 94999, 95999, 96999, 97999, 98999, 99999, 114999] h hq557 := gSs.tr sq532 xq557 (by decide)
          have s558 := (xq557.2.2.2.2.2 x 2 (by rw [tx]; decide)).trans s533
          have s559 := (xq557.2.2.2.2.2 x 3 (by rw [tx]; decide)).trans s534
          have s560 := (xq557.2.2.2.2.2 x 4 (by rw [tx]; decide)).trans s535
          have s561 := (xq557.2.2.2.2.2 sk 0 (by rw [tsk]; decide)).trans s536
          have s562 := (xq557.2.2.2.2.2 dr 8 (by rw [tdr]; decide)).trans s537
          have s563 := (xq557.2.2.2.2.2 dr 3 (by rw [tdr]; decide)).trans s538
          have s564 := (xq557.2.2.2.2.2 dr 1 (by rw [tdr]; decide)).trans s539
          have s565 := (xq557.2.2.2.2.2 dr 2 (by rw [tdr]; decide)).trans s540
          have s566 := (xq557.2.2.2.2.2 sk 1 (by rw [tsk]; decide)).trans s541
          have s567 := (xq557.2.2.2.2.2 x 6 (by rw [tx]; decide)).trans s542
          have s568 := (xq557.2.2.2.2.2 x 1 (by rw [tx]; decide)).trans s543
          have pr569 := gStx.fr xq557.2 (by decide) pr544
          have pr570 := gSW.fr xq557.2 (by decide) pr545
          have pr571 := gPC.fr xq557.2 (by decide) pr546
          have pr572 := gTc.fr xq557.2 (by decide) pr547
          have pr573 := gRr.fr xq557.2 (by decide) pr548
          have pr574 := gRw.fr xq557.2 (by decide) pr549
          have pr575 := gRn.fr xq557.2 (by decide) pr550
          have pr576 := gRn.fr xq557.2 (by decide) pr551
          have pr577 := gRn.fr xq557.2 (by decide) pr552
          have pr578 := gRn.fr xq557.2 (by decide) pr553
          have pr579 := gRn.fr xq557.2 (by decide) pr554
          have pr580 := gRn.fr xq557.2 (by decide) pr555
          have pr581 := gRn.fr xq557.2 (by decide) pr556
          have pr582 := gRn.fr xq557.2 (by decide) yq532_0
          have hmb : fq557_0 = zup dw 8 * zup dh 8 := uq557_0
          have hmn : (fq557_0).toNat = (zup dw 8 * zup dh 8).toNat := by rw [hmb]
          refine gz_s 1 (pc' := 88) (L' := [some (.ref x), some (.int (zi qu)), none]) (S' := [.ref x]) rfl ?_
          refine gs_gtk rfl (by decide) rfl sq557.1 tx rfl rfl s567 ?_
          refine gz_s 1 (pc' := 92) (L' := [some (.ref x), some (.int (zi qu)), none]) (S' := [.ref x, .ref c15]) rfl ?_
          refine gs_gtk rfl (by decide) rfl sq557.1 tx rfl rfl s559 ?_
          have k583 := sq557.2.1
          have k583b := sq557.2.2.1
          have hl584 : hq557.2.2.2.1 bt = h.2.2.2.1 bt := congrFun sq557.2.2.2.2.1 bt
          obtain ⟨c585, ec585, tc585⟩ := gJ.ref (k := 0) (G := gGG) sq557.1 tc15 rfl rfl rfl
          have ee586 : sk = c585 := uq sk c585 (tsk.trans tc585.symm) (by rw [tsk]; decide) (by rw [tsk]; decide)
          subst ee586
          refine gz_call rfl (by decide) rfl (by decide) (by decide) (gcal_of rfl rfl rfl (Nat.le_of_ble_eq_true rfl) (gJ.recv (G := gGG) sq557.1 tc15 rfl rfl)) (cw_putHead _ sq557.1 c15 tc15 dr tdr sk ec585 tsk bt s561 tbt i0 s563 ⟨by omega, by omega⟩ n0 s562 ⟨by omega, by omega⟩ dh s565 ⟨by omega, by omega⟩ dw s564 ⟨by omega, by omega⟩ (eTb S.1.1 qu) uq pr582) (fun q587 _ wq587 => ?_)
          obtain ⟨pq587, oq587, hq587⟩ := q587
          obtain ⟨tyq587, xq587, cq587_0, ttq587, fq587_0, fq587_1, fq587_2, fq587_3, ecq587_0, tcq587_0, gq587, efq587_0, afq587_0, bfq587_0, efq587_1, afq587_1, bfq587_1, efq587_2, afq587_2, bfq587_2, efq587_3, afq587_3, bfq587_3, uq587_0, uq587_1, uq587_2, uq587_3, uq587_4, uq587_5, uq587_6, uq587_7, uq587_8, uq587_9, uq587_10, yq587_0, yq587_1⟩ := wq587
          dsimp only at uq587_7 uq587_8 uq587_9 uq587_10
          refine ⟨_, gq587, ?_⟩
          show gz gPP gGG gcn _ _ 98 [some (.ref x), some (.int (zi qu)), none] [] hq587 _
          have G588 : gSg [71, 72, 73, 74, 75, 76, 77, 78, 79, 80, 81, 85, 91, 92, 93, 94, 95, 96, 97, 98, 99, 114, 200] [] [50006, 55008, 56000, 56001, 56002, 56003, 64999, 71005, 71006, 71007, 71008, 71009, 71010, 71011, 71012, 71013, 71014, 72999, 73999, 74999, 76999, 77999, 78999, 79999, 80999, 81999, 85999, 91004, 91008, 92004, 92008, 93999, 94999, 95999, 96999, 97999, 98999, 99999, 114999] ty h tyq587 hq587 := gSg.tr (gSg.ss G0 sq557 (by decide)) xq587 (by decide) (by decide) (fun x hx => by cases hx)
          have t589 : tyq587 x = 50 := gSg.typ xq587 sq557.1 tx rfl
          have t590 : tyq587 pic = 54 := gSg.typ xq587 sq557.1 tpic rfl
          have t591 : tyq587 b0 = 82 := gSg.typ xq587 sq557.1 tb0 rfl
          have t592 : tyq587 b1 = 83 := gSg.typ xq587 sq557.1 tb1 rfl
          have t593 : tyq587 b2 = 84 := gSg.typ xq587 sq557.1 tb2 rfl
          have t594 : tyq587 dr = 55 := gSg.typ xq587 sq557.1 tdr rfl
          have t595 : tyq587 sk = 56 := gSg.typ xq587 sq557.1 tsk rfl
          have t596 : tyq587 bt = 114 := gSg.typ xq587 sq557.1 tbt rfl
          have hl597 : hq587.2.2.2.1 bt = hq557.2.2.2.1 bt := gSg.len xq587 sq557.1 tbt rfl
          have t598 : tyq587 c15 = 71 := gSg.typ xq587 sq557.1 tc15 rfl
          have t599 : tyq587 c531 = 53 := gSg.typ xq587 sq557.1 tc531 rfl
          have s600 := gSg.at xq587 sq557.1 tx rfl (by decide) s558
          have s601 := gSg.at xq587 sq557.1 tx rfl (by decide) s559
          have s602 := gSg.at xq587 sq557.1 tx rfl (by decide) s560
          have s603 := gSg.at xq587 sq557.1 tdr rfl (by decide) s562
          have s604 := gSg.at xq587 sq557.1 tdr rfl (by decide) s563
          have s605 := gSg.at xq587 sq557.1 tdr rfl (by decide) s564
          have s606 := gSg.at xq587 sq557.1 tdr rfl (by decide) s565
          have s607 := gSg.at xq587 sq557.1 tx rfl (by decide) s567
          have s608 := gSg.at xq587 sq557.1 tx rfl (by decide) s568
          have s609 := gSg.at xq587 sq557.1 tc15 rfl (by decide) efq557_0
          have s610 := gSg.at xq587 sq557.1 tc15 rfl (by decide) ec585
          have pr611 := gStx.gr xq587 (by decide) (fun x hx => by cases hx) pr569
          have pr612 := gPC.gr xq587 sq557.1 (by decide) pr571
          have pr613 := gTc.gr xq587 sq557.1 (by decide) (by decide) pr572
          have pr614 := gRr.gr xq587 sq557.1 (by decide) (by decide) pr573
          have pr615 := gRw.gr xq587 sq557.1 (by decide) (by decide) pr574
          have pr616 := gRn.gr xq587 sq557.1 rfl (by decide) (by decide) pr575
          have pr617 := gRn.gr xq587 sq557.1 rfl (by decide) (by decide) pr576
          have pr618 := gRn.gr xq587 sq557.1 rfl (by decide) (by decide) pr577
          have pr619 := gRn.gr xq587 sq557.1 rfl (by decide) (by decide) pr578
          have pr620 := gRn.gr xq587 sq557.1 rfl (by decide) (by decide) pr579
          have pr621 := gRn.gr xq587 sq557.1 rfl (by decide) (by decide) pr580
          have pr622 := gRn.gr xq587 sq557.1 rfl (by decide) (by decide) pr581
          have pr623 := gRn.gr xq587 sq557.1 rfl (by decide) (by decide) pr582
          have pr624 := gRn.gr xq587 sq557.1 rfl (by decide) (by decide) yq557_0
          have uq625 := gSg.uq xq587 uq (by decide)
          have hyst626 := gSta.gr xq587 (by decide) (fun x hx => by cases hx) (gSta.fr sq557.2 (by decide) hyst)
          have sS627 : gSs rT 1027 tyq587 [50006, 55008, 56000, 56001, 56002, 56003, 64999, 71005, 71006, 71007, 71008, 71009, 71010, 71011, 71012, 71013, 71014, 72999, 73999, 74999, 76999, 77999, 78999, 79999, 80999, 81999, 85999, 91004, 91008, 92004, 92008, 93999, 94999, 95999, 96999, 97999, 98999, 99999, 114999] hq587 hq587 := gSs.rf xq587.1
          have hiw : fq587_3 = i0 := by omega
          obtain ⟨c628, ec628, tc628⟩ := gJ.ref (k := 4) (G := gGG) sS627.1 t594 rfl rfl rfl
          obtain ⟨c629, ec629, tc629⟩ := gJ.ref (k := 5) (G := gGG) sS627.1 t594 rfl rfl rfl
          obtain ⟨tle, tsm⟩ := gTc.fn pr613 pr618 pr619 tc628 tc629 (by omega)
          have hgl0 : gTl S.1.2.2.1 S.1.2.2.2.1 0 = 0 := rfl
          refine gz_s 1 (pc' := 99) (L' := [some (.ref x), some (.int (zi qu)), none]) (S' := [.ref x]) rfl ?_
          refine gs_gtk rfl (by decide) rfl sS627.1 t589 rfl rfl s601 ?_
          refine gs_gtk rfl (by decide) rfl sS627.1 t594 rfl rfl s603 ?_
          by_cases hc630 : ¬ (n0 : Int) = 0
          · refine gy_ifT (pc' := 120) rfl (by decide) (by decide) (by omega) hc630 ?_
            have hk631 : eKk qu i0 dw dh n0 S 0 = eHd (eTb S.1.1 qu) n0 dh dw i0 := eKk_0 (by omega)
            have hk631_1 : (eKk qu i0 dw dh n0 S 0).1 = (eHd (eTb S.1.1 qu) n0 dh dw i0).1 := by rw [hk631]
            have hk631_21 : (eKk qu i0 dw dh n0 S 0).2.1 = (eHd (eTb S.1.1 qu) n0 dh dw i0).2.1 := by rw [hk631]
            have hk631_221 : (eKk qu i0 dw dh n0 S 0).2.2.1 = (eHd (eTb S.1.1 qu) n0 dh dw i0).2.2.1 := by rw [hk631]
            have hsw632 : gSW tyq587 cq587_0 (eKk qu i0 dw dh n0 S 0) hq587 := by rw [hk631]; exact yq587_0
            have hok633 : eeOk (eKk qu i0 dw dh n0 S 0) := by rw [hk631]; exact yq587_1
            have hoc634 := hok633.cur
            refine gz_s 2 (pc' := 122) (L' := [some (.ref x), some (.int (zi qu)), some (.int (zi 0))]) (S' := []) rfl ?_
            have lp635 : ∀ (fu : Nat) (ty637 : Nat → Nat) (h636 : gH) (bv : Nat) (i : Int) (cv : Int) (uv : Int) (hv : Int), (11 - i).toNat < fu → gSg [71, 72, 73, 74, 75, 76, 77, 78, 79, 80, 81, 85, 91, 92, 93, 94, 95, 96, 97, 98, 99, 114, 200] [] [50006, 55008, 56000, 56001, 56002, 56003, 64999, 71005, 71006, 71007, 71008, 71009, 71010, 71011, 71012, 71013, 71014, 72999, 73999, 74999, 76999, 77999, 78999, 79999, 80999, 81999, 85999, 91004, 91008, 92004, 92008, 93999, 94999, 95999, 96999, 97999, 98999, 99999, 114999] ty h ty637 h636 → gUq ty637 → gSta ty637 h636 → ty637 x = 50 → ty637 pic = 54 → ty637 dr = 55 → ty637 sk = 56 → ty637 c15 = 71 → ty637 c531 = 53 → ty637 c628 = 60 → ty637 c629 = 61 → h636.2.2.2.2 sk 0 = .ref bv → ty637 bv = 114 → (0 ≤ i ∧ i ≤ 10) → (0 ≤ cv ∧ cv ≤ 499999) → (0 ≤ uv ∧ uv ≤ 127) → (0 ≤ hv ∧ hv ≤ 7) → ((n0 = 0 ∧ 4 * cv + hv ≤ 336000) ∨ 4 * cv + hv ≤ 400 + 7876 * i + 5120 * gTl S.1.2.2.1 S.1.2.2.2.1 i) → (i ≤ n0) → (cv ≤ (h636.2.2.2.1 bv : Int)) → (1024 * (((h636.1 : Int) - h.1) - 21) ≤ (h636.2.2.2.1 bv : Int) - lb) → (((h636.2.1 : Int) - h.2.1) ≤ 4303 + 2 * ((h636.2.2.2.1 bv : Int) - lb)) → (lb ≤ (h636.2.2.2.1 bv : Int)) → (cv = (eKk qu i0 dw dh n0 S i).1) → (uv = (eKk qu i0 dw dh n0 S i).2.1) → (hv = (eKk qu i0 dw dh n0 S i).2.2.1) → h636.2.2.2.2 x 2 = .ref pic → h636.2.2.2.2 x 3 = .ref dr → h636.2.2.2.2 x 4 = .ref sk → h636.2.2.2.2 dr 8 = .int (zi n0) → h636.2.2.2.2 dr 3 = .int (zi i0) → h636.2.2.2.2 dr 1 = .int (zi dw) → h636.2.2.2.2 dr 2 = .int (zi dh) → h636.2.2.2.2 x 6 = .ref c15 → h636.2.2.2.2 x 1 = .ref c531 → h636.2.2.2.2 c15 5 = .int (zi fq557_0) → h636.2.2.2.2 c15 0 = .ref sk → h636.2.2.2.2 c15 6 = .int (zi fq587_3) → h636.2.2.2.2 dr 4 = .ref c628 → h636.2.2.2.2 dr 5 = .ref c629 → h636.2.2.2.2 sk 1 = .int (zi cv) → h636.2.2.2.2 sk 2 = .int (zi uv) → h636.2.2.2.2 sk 3 = .int (zi hv) → gStx ty637 h636 → gPC ty637 pic b0 b1 b2 ld h636 → gTc ty637 n0 h636 → gRr ty637 x h636 → gRn 256 ty637 53 S.1.1 h636 → gRn 1024 ty637 59 S.1.2.1 h636 → gRn 10 ty637 60 S.1.2.2.1 h636 → gRn 10 ty637 61 S.1.2.2.2.1 h636 → gRn 10 ty637 62 S.1.2.2.2.2.1 h636 → gRn 10 ty637 63 S.1.2.2.2.2.2.1 h636 → gRn 64 ty637 64 S.1.2.2.2.2.2.2 h636 → gRn 64 ty637 72 (eTb S.1.1 qu) h636 → gRn (64 * fq557_0).toNat ty637 73 (eCf S.1.2.1 (eTb S.1.1 qu) dw dh (zup dw 8)) h636 → gSW ty637 bv (eKk qu i0 dw dh n0 S i) h636 → eeOk (eKk qu i0 dw dh n0 S i) → gz gPP gGG gcn (d + 8) gt89 122 [some (.ref x), some (.int (zi qu)), some (.int (zi i))] [] h636 (fun q _ => ∃ ty9 : Nat → Nat, gSg [71, 72, 73, 74, 75, 76, 77, 78, 79, 80, 81, 85, 91, 92, 93, 94, 95, 96, 97, 98, 99, 114, 200] [] [50006, 55008, 56000, 56001, 56002, 56003, 64999, 71005, 71006, 71007, 71008, 71009, 71010, 71011, 71012, 71013, 71014, 72999, 73999, 74999, 76999, 77999, 78999, 79999, 80999, 81999, 85999, 91004, 91008, 92004, 92008, 93999, 94999, 95999, 96999, 97999, 98999, 99999, 114999] ty h ty9 q.2.2 ∧ ∃ ld1 lb1 iv1 : Int, 0 ≤ ld1 ∧ ld1 ≤ 192 ∧ 1024 ≤ lb1 ∧ lb1 ≤ 1000000 ∧ 0 ≤ iv1 ∧ iv1 ≤ 26476544 ∧ (gIx ty9 x ld1 lb1 iv1 (eQ3 qu (iv / 262144) (iv / 64 % 64) (iv / 4096 % 64) (iv % 64) S) q.2.2) ∧ gUq ty9 ∧ ((∃ z : Int, gfin gt89 q.1 q.2.1 = some (some (.int (zi z))) ∧ (-2147483648) ≤ z ∧ z ≤ 2147483647 ∧ (1 ≤ qu) ∧ (qu ≤ 100) ∧ (1 ≤ iv / 64 % 64) ∧ (iv1 = iv - iv % 64) ∧ (z = (eNn qu (iv / 262144) (iv / 64 % 64) (iv / 4096 % 64) (iv % 64) S).1) ∧ (1024 * (((q.2.2.1 : Int) - h.1) - 31 - 2 * (ld1 - ld)) ≤ lb1 - lb) ∧ (((q.2.2.2.1 : Int) - h.2.1) ≤ 4303 + 12480 * (ld1 - ld) + 2 * (lb1 - lb)) ∧ (ld ≤ ld1) ∧ (lb ≤ lb1)) ∨ (q.2.1 = [] ∧ ((q.1 = 11 ∧ (¬ (1 ≤ qu ∧ qu ≤ 100))) ∨ (q.1 = 32 ∧ (1 ≤ qu) ∧ (qu ≤ 100) ∧ (iv / 64 % 64 = 0))) ∧ (iv1 = iv) ∧ (1024 * (((q.2.2.1 : Int) - h.1) - 31 - 2 * (ld1 - ld)) ≤ lb1 - lb) ∧ (((q.2.2.2.1 : Int) - h.2.1) ≤ 4303 + 12480 * (ld1 - ld) + 2 * (lb1 - lb)) ∧ (ld ≤ ld1) ∧ (lb ≤ lb1)))) := by
              intro fu
              induction fu with
              | zero => intro ty637 h636 bv i cv uv hv hm; exact absurd hm (Nat.not_lt_zero _)
              | succ fu ihlp635 =>
                intro ty637 h636 bv i cv uv hv lp635m lp635G lp635u lp635t lp635c0 lp635c1 lp635c2 lp635c3 lp635c4 lp635c5 lp635c6 lp635c7 lp635r0 lp635r1 lp635f0 lp635f1 lp635f2 lp635f3 lp635f4 lp635f5 lp635f6 lp635f7 lp635f8 lp635f9 lp635f10 lp635f11 lp635f12 lp635k0 lp635k1 lp635k2 lp635k3 lp635k4 lp635k5 lp635k6 lp635k7 lp635k8 lp635k9 lp635k10 lp635k11 lp635k12 lp635k13 lp635k14 lp635k15 lp635k16 lp635k17 lp635k18 lp635k19 lp635k20 lp635k21 lp635k22 lp635k23 lp635k24 lp635k25 lp635k26 lp635k27 lp635k28 lp635k29 lp635k30 lp635k31
                have sh636 : gSs rT 1027 ty637 [50006, 55008, 56000, 56001, 56002, 56003, 64999, 71005, 71006, 71007, 71008, 71009, 71010, 71011, 71012, 71013, 71014, 72999, 73999, 74999, 76999, 77999, 78999, 79999, 80999, 81999, 85999, 91004, 91008, 92004, 92008, 93999, 94999, 95999, 96999, 97999, 98999, 99999, 114999] h636 h636 := gSs.rf lp635G.1
                refine gz_s 2 (pc' := 124) (L' := [some (.ref x), some (.int (zi qu)), some (.int (zi i))]) (S' := [.ref x, .int (zi i)]) rfl ?_
                refine gs_gtk rfl (by decide) rfl sh636.1 lp635c0 rfl rfl lp635k1 ?_
                refine gs_gtk rfl (by decide) rfl sh636.1 lp635c2 rfl rfl lp635k3 ?_
                by_cases hc638 : (n0 : Int) ≤ i
                · refine gy_icT (pc' := 182) rfl (by decide) (by decide) (by omega) (by omega) hc638 ?_
                  have hgl9 : gTl S.1.2.2.1 S.1.2.2.2.1 i = gTl S.1.2.2.1 S.1.2.2.2.1 n0 := by rw [show i = n0 from Int.le_antisymm (by omega) (by omega)]
                  refine gz_s 1 (pc' := 183) (L' := [some (.ref x), some (.int (zi qu)), some (.int (zi i))]) (S' := [.ref x]) rfl ?_
                  refine gs_gtk rfl (by decide) rfl sh636.1 lp635c0 rfl rfl lp635k7 ?_
                  have hl639 : h636.2.2.2.1 bv = h636.2.2.2.1 bv := congrFun sh636.2.2.2.2.1 bv
                  refine gz_call rfl (by decide) rfl (by decide) (by decide) (gcal_of rfl rfl rfl (Nat.le_of_ble_eq_true rfl) (gJ.recv (G := gGG) sh636.1 lp635c4 rfl rfl)) (cw_putEnd _ sh636.1 c15 lp635c4 sk lp635k10 lp635c3 bv lp635r0 lp635r1 cv lp635k14 ⟨by omega, by omega⟩ (eKk qu i0 dw dh n0 S i) (by omega) (by omega) lp635u lp635k30 lp635k31) (fun q640 _ wq640 => ?_)
                  obtain ⟨pq640, oq640, hq640⟩ := q640
                  obtain ⟨tyq640, xq640, cq640_0, ttq640, fq640_0, ecq640_0, tcq640_0, gq640, efq640_0, afq640_0, bfq640_0, uq640_0, uq640_1, uq640_2, uq640_3, uq640_4, uq640_5, uq640_6, uq640_7, yq640_0, yq640_1⟩ := wq640
                  dsimp only at uq640_4 uq640_5 uq640_6 uq640_7
                  refine ⟨_, gq640, ?_⟩
                  show gz gPP gGG gcn _ _ 189 [some (.ref x), some (.int (zi qu)), some (.int (zi i))] [] hq640 _
                  have G641 : gSg [71, 72, 73, 74, 75, 76, 77, 78, 79, 80, 81, 85, 91, 92, 93, 94, 95, 96, 97, 98, 99, 114, 200] [] [50006, 55008, 56000, 56001, 56002, 56003, 64999, 71005, 71006, 71007, 71008, 71009, 71010, 71011, 71012, 71013, 71014, 72999, 73999, 74999, 76999, 77999, 78999, 79999, 80999, 81999, 85999, 91004, 91008, 92004, 92008, 93999, 94999, 95999, 96999, 97999, 98999, 99999, 114999] ty h tyq640 hq640 := gSg.tr (gSg.ss lp635G sh636 (by decide)) xq640 (by decide) (by decide) (fun x hx => by cases hx)
                  have t642 : tyq640 x = 50 := gSg.typ xq640 sh636.1 lp635c0 rfl
                  have t643 : tyq640 pic = 54 := gSg.typ xq640 sh636.1 lp635c1 rfl
                  have t644 : tyq640 dr = 55 := gSg.typ xq640 sh636.1 lp635c2 rfl
                  have t645 : tyq640 sk = 56 := gSg.typ xq640 sh636.1 lp635c3 rfl
                  have t646 : tyq640 c15 = 71 := gSg.typ xq640 sh636.1 lp635c4 rfl
                  have t647 : tyq640 c531 = 53 := gSg.typ xq640 sh636.1 lp635c5 rfl
                  have t648 : tyq640 c628 = 60 := gSg.typ xq640 sh636.1 lp635c6 rfl
                  have t649 : tyq640 c629 = 61 := gSg.typ xq640 sh636.1 lp635c7 rfl
                  have t650 : tyq640 bv = 114 := gSg.typ xq640 sh636.1 lp635r1 rfl
                  have hl651 : hq640.2.2.2.1 bv = h636.2.2.2.1 bv := gSg.len xq640 sh636.1 lp635r1 rfl
                  have s652 := gSg.at xq640 sh636.1 lp635c0 rfl (by decide) lp635k0
                  have s653 := gSg.at xq640 sh636.1 lp635c0 rfl (by decide) lp635k1
                  have s654 := gSg.at xq640 sh636.1 lp635c0 rfl (by decide) lp635k2
                  have s655 := gSg.at xq640 sh636.1 lp635c2 rfl (by decide) lp635k3
                  have s656 := gSg.at xq640 sh636.1 lp635c2 rfl (by decide) lp635k4
                  have s657 := gSg.at xq640 sh636.1 lp635c2 rfl (by decide) lp635k5
                  have s658 := gSg.at xq640 sh636.1 lp635c2 rfl (by decide) lp635k6
                  have s659 := gSg.at xq640 sh636.1 lp635c0 rfl (by decide) lp635k7
                  have s660 := gSg.at xq640 sh636.1 lp635c0 rfl (by decide) lp635k8
                  have s661 := gSg.at xq640 sh636.1 lp635c4 rfl (by decide) lp635k9
                  have s662 := gSg.at xq640 sh636.1 lp635c4 rfl (by decide) lp635k10
                  have s663 := gSg.at xq640 sh636.1 lp635c4 rfl (by decide) lp635k11
                  have s664 := gSg.at xq640 sh636.1 lp635c2 rfl (by decide) lp635k12
                  have s665 := gSg.at xq640 sh636.1 lp635c2 rfl (by decide) lp635k13
                  have s666 := gSg.at xq640 sh636.1 lp635c3 rfl (by decide) lp635k15
                  have s667 := gSg.at xq640 sh636.1 lp635c3 rfl (by decide) lp635k16
                  have pr668 := gStx.gr xq640 (by decide) (fun x hx => by cases hx) lp635k17
                  have pr669 := gPC.gr xq640 sh636.1 (by decide) lp635k18
                  have pr670 := gTc.gr xq640 sh636.1 (by decide) (by decide) lp635k19
                  have pr671 := gRr.gr xq640 sh636.1 (by decide) (by decide) lp635k20
                  have pr672 := gRn.gr xq640 sh636.1 rfl (by decide) (by decide) lp635k21
                  have pr673 := gRn.gr xq640 sh636.1 rfl (by decide) (by decide) lp635k22
                  have pr674 := gRn.gr xq640 sh636.1 rfl (by decide) (by decide) lp635k23
                  have pr675 := gRn.gr xq640 sh636.1 rfl (by decide) (by decide) lp635k24
                  have pr676 := gRn.gr xq640 sh636.1 rfl (by decide) (by decide) lp635k25
                  have pr677 := gRn.gr xq640 sh636.1 rfl (by decide) (by decide) lp635k26
                  have pr678 := gRn.gr xq640 sh636.1 rfl (by decide) (by decide) lp635k27
                  have pr679 := gRn.gr xq640 sh636.1 rfl (by decide) (by decide) lp635k28
                  have pr680 := gRn.gr xq640 sh636.1 rfl (by decide) (by decide) lp635k29
                  have uq681 := gSg.uq xq640 lp635u (by decide)
                  have hyst682 := gSta.gr xq640 (by decide) (fun x hx => by cases hx) (gSta.fr sh636.2 (by decide) lp635t)
                  have sS683 : gSs rT 1027 tyq640 [50006, 55008, 56000, 56001, 56002, 56003, 64999, 71005, 71006, 71007, 71008, 71009, 71010, 71011, 71012, 71013, 71014, 72999, 73999, 74999, 76999, 77999, 78999, 79999, 80999, 81999, 85999, 91004, 91008, 92004, 92008, 93999, 94999, 95999, 96999, 97999, 98999, 99999, 114999] hq640 hq640 := gSs.rf xq640.1
                  have hk684 : eNn qu i0 dw dh n0 S = eeM (eKk qu i0 dw dh n0 S i) 217 := eKk_e (by omega)
                  have hk684_1 : (eNn qu i0 dw dh n0 S).1 = (eeM (eKk qu i0 dw dh n0 S i) 217).1 := by rw [hk684]
                  have hk684_21 : (eNn qu i0 dw dh n0 S).2.1 = (eeM (eKk qu i0 dw dh n0 S i) 217).2.1 := by rw [hk684]
                  have hk684_221 : (eNn qu i0 dw dh n0 S).2.2.1 = (eeM (eKk qu i0 dw dh n0 S i) 217).2.2.1 := by rw [hk684]
                  have hsw685 : gSW tyq640 cq640_0 (eNn qu i0 dw dh n0 S) hq640 := by rw [hk684]; exact yq640_0
                  have hok686 : eeOk (eNn qu i0 dw dh n0 S) := by rw [hk684]; exact yq640_1
                  have hoc687 := hok686.cur
                  have hcd9 := hcd
                  refine gz_s 1 (pc' := 190) (L' := [some (.ref x), some (.int (zi qu)), some (.int (zi i))]) (S' := [.ref x]) rfl ?_
                  refine gs_gtk rfl (by decide) rfl sS683.1 t642 rfl rfl s653 ?_
                  refine gz_call rfl (by decide) rfl (by decide) (by decide) (gcal_of rfl rfl rfl (Nat.le_of_ble_eq_true rfl) (gJ.recv (G := gGG) sS683.1 t644 rfl rfl)) (cl_Draft_forgetScans _ sS683.1 dr t644 uq681) (fun q688 _ wq688 => ?_)
                  obtain ⟨pq688, oq688, hq688⟩ := q688
                  obtain ⟨xq688, fq688_0, gq688, efq688_0, afq688_0, bfq688_0, uq688_0, yq688_0, yq688_1⟩ := wq688
                  refine ⟨_, gq688, ?_⟩
                  show gz gPP gGG gcn _ _ 196 [some (.ref x), some (.int (zi qu)), some (.int (zi i))] [] hq688 _
                  have sq688 : gSs rT 1027 tyq640 [50006, 55008, 56000, 56001, 56002, 56003, 64999, 71005, 71006, 71007, 71008, 71009, 71010, 71011, 71012, 71013, 71014, 72999, 73999, 74999, 76999, 77999, 78999, 79999, 80999, 81999, 85999, 91004, 91008, 92004, 92008, 93999, 94999, 95999, 96999, 97999, 98999, 99999, 114999] hq640 hq688 := gSs.tr sS683 xq688 (by decide)
                  have s689 := (xq688.2.2.2.2.2 x 2 (by rw [t642]; decide)).trans s652
                  have s690 := (xq688.2.2.2.2.2 x 3 (by rw [t642]; decide)).trans s653
                  have s691 := (xq688.2.2.2.2.2 x 4 (by rw [t642]; decide)).trans s654
                  have s692 := (xq688.2.2.2.2.2 dr 3 (by rw [t644]; decide)).trans s656
                  have s693 := (xq688.2.2.2.2.2 dr 1 (by rw [t644]; decide)).trans s657
                  have s694 := (xq688.2.2.2.2.2 dr 2 (by rw [t644]; decide)).trans s658
                  have s695 := (xq688.2.2.2.2.2 x 6 (by rw [t642]; decide)).trans s659
                  have s696 := (xq688.2.2.2.2.2 x 1 (by rw [t642]; decide)).trans s660
                  have s697 := (xq688.2.2.2.2.2 c15 5 (by rw [t646]; decide)).trans s661
                  have s698 := (xq688.2.2.2.2.2 c15 0 (by rw [t646]; decide)).trans s662
                  have s699 := (xq688.2.2.2.2.2 c15 6 (by rw [t646]; decide)).trans s663
                  have s700 := (xq688.2.2.2.2.2 dr 4 (by rw [t644]; decide)).trans s664
                  have s701 := (xq688.2.2.2.2.2 dr 5 (by rw [t644]; decide)).trans s665
                  have s702 := (xq688.2.2.2.2.2 sk 2 (by rw [t645]; decide)).trans s666
                  have s703 := (xq688.2.2.2.2.2 sk 3 (by rw [t645]; decide)).trans s667
                  have s704 := (xq688.2.2.2.2.2 sk 0 (by rw [t645]; decide)).trans ecq640_0
                  have s705 := (xq688.2.2.2.2.2 sk 1 (by rw [t645]; decide)).trans efq640_0
                  have pr706 := gStx.fr xq688.2 (by decide) pr668
                  have pr707 := gPC.fr xq688.2 (by decide) pr669
                  have pr708 := gRr.fr xq688.2 (by decide) pr671
                  have pr709 := gRn.fr xq688.2 (by decide) pr672
                  have pr710 := gRn.fr xq688.2 (by decide) pr673
                  have pr711 := gRn.fr xq688.2 (by decide) pr674
                  have pr712 := gRn.fr xq688.2 (by decide) pr675
                  have pr713 := gRn.fr xq688.2 (by decide) pr676
                  have pr714 := gRn.fr xq688.2 (by decide) pr677
                  have pr715 := gRn.fr xq688.2 (by decide) pr679
                  have pr716 := gRn.fr xq688.2 (by decide) pr680
                  have pr717 := gSW.fr xq688.2 (by decide) hsw685
                  refine gz_s 1 (pc' := 197) (L' := [some (.ref x), some (.int (zi qu)), some (.int (zi i))]) (S' := [.ref x]) rfl ?_
                  refine gs_gtk rfl (by decide) rfl sq688.1 t642 rfl rfl s691 ?_
                  refine gs_gtk rfl (by decide) rfl sq688.1 t645 rfl rfl s705 ?_
                  have k718 := sq688.2.1
                  have k718b := sq688.2.2.1
                  have hl719 : hq688.2.2.2.1 bv = hq640.2.2.2.1 bv := congrFun sq688.2.2.2.2.1 bv
                  have hl720 : hq688.2.2.2.1 cq640_0 = hq640.2.2.2.1 cq640_0 := congrFun sq688.2.2.2.2.1 cq640_0
                  have hl721 : 1024 ≤ hq688.2.2.2.1 bv ∧ hq688.2.2.2.1 bv ≤ 1000000 := gJ.rowl (G := gGG) sq688.1 t650 rfl
                  have hl722 : 1024 ≤ hq688.2.2.2.1 cq640_0 ∧ hq688.2.2.2.1 cq640_0 ≤ 1000000 := gJ.rowl (G := gGG) sq688.1 tcq640_0 rfl
                  have hxr723 : gXr tyq640 (eS3 S (eNn qu i0 dw dh n0 S)) hq688 := ⟨pr709, pr710, pr711, pr712, pr713, pr714, gOy.Rn (by decide) yq688_1⟩
                  have hnv : (eNn qu (iv / 262144) (iv / 64 % 64) (iv / 4096 % 64) (iv % 64) S).1 = (eNn qu i0 dw dh n0 S).1 := by rw [hdi, hdw, hdh, hdn]
                  have k724 := sq688.2.1
                  have k724b := sq688.2.2.1
                  have hl725 : hq688.2.2.2.1 bv = hq640.2.2.2.1 bv := congrFun sq688.2.2.2.2.1 bv
                  have hl726 : hq688.2.2.2.1 cq640_0 = hq640.2.2.2.1 cq640_0 := congrFun sq688.2.2.2.2.1 cq640_0
                  have hix727 : gIx tyq640 x ld (hq688.2.2.2.1 cq640_0 : Int) (64 * dw + fq688_0 + 4096 * dh + 262144 * i0) (eS3 S (eNn qu i0 dw dh n0 S)) hq688 := ⟨pic, b0, b1, b2, dr, sk, cq640_0, fq688_0, fq640_0, i0, dw, dh, ⟨t642, t644, t645, tcq640_0⟩, ⟨s689, s690, s691, s704⟩, pr707, (by rw [(by omega : fq688_0 = 0)]; exact yq688_0), ⟨efq688_0, by omega, by omega⟩, ⟨s692, by omega, by omega⟩, ⟨s705, by omega, by omega⟩, ⟨by omega, by omega⟩, pr708, ⟨t642, Or.inr ⟨c15, s695, t646⟩⟩, ⟨s693, by omega, by omega⟩, ⟨s694, by omega, by omega⟩, by omega, rfl, hxr723, ⟨pr717, (show _ = ((eNn qu i0 dw dh n0 S)).1 by omega)⟩, (by rw [(by omega : fq688_0 = 0)]; exact eTz.zero)⟩
                  have hix728 : gIx tyq640 x ld (hq688.2.2.2.1 cq640_0 : Int) (64 * dw + fq688_0 + 4096 * dh + 262144 * i0) (eQ3 qu (iv / 262144) (iv / 64 % 64) (iv / 4096 % 64) (iv % 64) S) hq688 := by rw [hdi, hdw, hdh, hdn, eQ3_y hok]; exact hix727
                  have G729 : gSg [71, 72, 73, 74, 75, 76, 77, 78, 79, 80, 81, 85, 91, 92, 93, 94, 95, 96, 97, 98, 99, 114, 200] [] [50006, 55008, 56000, 56001, 56002, 56003, 64999, 71005, 71006, 71007, 71008, 71009, 71010, 71011, 71012, 71013, 71014, 72999, 73999, 74999, 76999, 77999, 78999, 79999, 80999, 81999, 85999, 91004, 91008, 92004, 92008, 93999, 94999, 95999, 96999, 97999, 98999, 99999, 114999] ty h tyq640 hq688 := gSg.ss G641 sq688 (by decide)
                  exact gz_end (I := .ireturn) (len := 1) rfl (Or.inl rfl) ⟨tyq640, G729, ld, (hq688.2.2.2.1 cq640_0 : Int), (64 * dw + fq688_0 + 4096 * dh + 262144 * i0), (by omega), (by omega), (by omega), (by omega), (by omega), (by omega), hix728, uq681, Or.inl ⟨fq640_0, rfl, (by omega), (by omega), (by omega), (by omega), (by omega), (by omega), (by omega), (by dsimp only; omega), (by dsimp only; omega), (by omega), (by omega)⟩⟩
                · refine gy_icF rfl (by decide) (by decide) (by omega) (by omega) hc638 ?_
                  refine gz_s 1 (pc' := 134) (L' := [some (.ref x), some (.int (zi qu)), some (.int (zi i))]) (S' := [.ref x]) rfl ?_
                  refine gs_gtk rfl (by decide) rfl sh636.1 lp635c0 rfl rfl lp635k7 ?_
                  refine gz_s 1 (pc' := 138) (L' := [some (.ref x), some (.int (zi qu)), some (.int (zi i))]) (S' := [.ref x, .ref c15]) rfl ?_
                  refine gs_gtk rfl (by decide) rfl sh636.1 lp635c0 rfl rfl lp635k1 ?_
                  refine gs_gtk rfl (by decide) rfl sh636.1 lp635c2 rfl rfl lp635k12 ?_
                  refine gz_s 1 (pc' := 145) (L' := [some (.ref x), some (.int (zi qu)), some (.int (zi i))]) (S' := [.int (zi i), .ref c628, .ref c15]) rfl ?_
                  have hl730 : 10 ≤ h636.2.2.2.1 c628 ∧ h636.2.2.2.1 c628 ≤ 10 := gJ.rowl (G := gGG) sh636.1 lp635c6 rfl
                  refine gs_ald rfl (by decide) sh636.1 lp635c6 rfl rfl rfl (by decide) (fun _ => rfl) (by omega) (by omega) (fun z731 ez731 az731 bz731 => ?_)
                  have hf732 := gRn.at (i := i) (z := z731) lp635k23 lp635c6 ez731 (by omega) (by omega) (by omega)
                  refine gz_s 1 (pc' := 147) (L' := [some (.ref x), some (.int (zi qu)), some (.int (zi i))]) (S' := [.ref x, .int (zi z731), .ref c15]) rfl ?_
                  refine gs_gtk rfl (by decide) rfl sh636.1 lp635c0 rfl rfl lp635k1 ?_
                  refine gs_gtk rfl (by decide) rfl sh636.1 lp635c2 rfl rfl lp635k13 ?_
                  refine gz_s 1 (pc' := 154) (L' := [some (.ref x), some (.int (zi qu)), some (.int (zi i))]) (S' := [.int (zi i), .ref c629, .int (zi z731), .ref c15]) rfl ?_
                  have hl733 : 10 ≤ h636.2.2.2.1 c629 ∧ h636.2.2.2.1 c629 ≤ 10 := gJ.rowl (G := gGG) sh636.1 lp635c7 rfl
                  refine gs_ald rfl (by decide) sh636.1 lp635c7 rfl rfl rfl (by decide) (fun _ => rfl) (by omega) (by omega) (fun z734 ez734 az734 bz734 => ?_)
                  have hf735 := gRn.at (i := i) (z := z734) lp635k24 lp635c7 ez734 (by omega) (by omega) (by omega)
                  refine gz_s 1 (pc' := 156) (L' := [some (.ref x), some (.int (zi qu)), some (.int (zi i))]) (S' := [.ref x, .int (zi z734), .int (zi z731), .ref c15]) rfl ?_
                  refine gs_gtk rfl (by decide) rfl sh636.1 lp635c0 rfl rfl lp635k1 ?_
                  refine gs_gtr rfl (by decide) rfl sh636.1 lp635c2 rfl rfl rfl (fun c736 ec736 tc736 => ?_)
                  refine gz_s 1 (pc' := 163) (L' := [some (.ref x), some (.int (zi qu)), some (.int (zi i))]) (S' := [.int (zi i), .ref c736, .int (zi z734), .int (zi z731), .ref c15]) rfl ?_
                  have hl737 : 10 ≤ h636.2.2.2.1 c736 ∧ h636.2.2.2.1 c736 ≤ 10 := gJ.rowl (G := gGG) sh636.1 tc736 rfl
                  refine gs_ald rfl (by decide) sh636.1 tc736 rfl rfl rfl (by decide) (fun _ => rfl) (by omega) (by omega) (fun z738 ez738 az738 bz738 => ?_)
                  have hf739 := gRn.at (i := i) (z := z738) lp635k25 tc736 ez738 (by omega) (by omega) (by omega)
                  refine gz_s 1 (pc' := 165) (L' := [some (.ref x), some (.int (zi qu)), some (.int (zi i))]) (S' := [.ref x, .int (zi z738), .int (zi z734), .int (zi z731), .ref c15]) rfl ?_
                  refine gs_gtk rfl (by decide) rfl sh636.1 lp635c0 rfl rfl lp635k1 ?_
                  refine gs_gtr rfl (by decide) rfl sh636.1 lp635c2 rfl rfl rfl (fun c740 ec740 tc740 => ?_)
                  refine gz_s 1 (pc' := 172) (L' := [some (.ref x), some (.int (zi qu)), some (.int (zi i))]) (S' := [.int (zi i), .ref c740, .int (zi z738), .int (zi z734), .int (zi z731), .ref c15]) rfl ?_
                  have hl741 : 10 ≤ h636.2.2.2.1 c740 ∧ h636.2.2.2.1 c740 ≤ 10 := gJ.rowl (G := gGG) sh636.1 tc740 rfl
                  refine gs_ald rfl (by decide) sh636.1 tc740 rfl rfl rfl (by decide) (fun _ => rfl) (by omega) (by omega) (fun z742 ez742 az742 bz742 => ?_)
                  have hf743 := gRn.at (i := i) (z := z742) lp635k26 tc740 ez742 (by omega) (by omega) (by omega)
                  have htl := tle (i).toNat (by omega)
                  rw [hf732, hf735] at htl
                  have hst := gTl_st (f := S.1.2.2.1) (t := S.1.2.2.2.1) (k := i) (a := z731) (b := z734) (by omega) hf732 hf735
                  have hle := gTl_le (f := S.1.2.2.1) (t := S.1.2.2.2.1) (k := i + 1) (n := n0) tle (by omega)
                  have htz4 := htz (i).toNat (by omega)
                  rw [hf732, hf735] at htz4
                  have hl744 : h636.2.2.2.1 bv = h636.2.2.2.1 bv := congrFun sh636.2.2.2.2.1 bv
                  refine gz_call rfl (by decide) rfl (by decide) (by decide) (gcal_of rfl rfl rfl (Nat.le_of_ble_eq_true rfl) (gJ.recv (G := gGG) sh636.1 lp635c4 rfl rfl)) (cw_putScan _ sh636.1 c15 lp635c4 z731 ⟨by omega, by omega⟩ z734 ⟨by omega, by omega⟩ z738 ⟨by omega, by omega⟩ z742 ⟨by omega, by omega⟩ sk lp635k10 lp635c3 bv lp635r0 lp635r1 cv lp635k14 ⟨by omega, by omega⟩ uv lp635k15 ⟨by omega, by omega⟩ hv lp635k16 ⟨by omega, by omega⟩ fq557_0 lp635k9 ⟨by omega, by omega⟩ fq587_3 lp635k11 ⟨by omega, by omega⟩ (eCf S.1.2.1 (eTb S.1.1 qu) dw dh (zup dw 8)) (eKk qu i0 dw dh n0 S i) (by omega) (by omega) (by omega) (by omega) (by omega) (by omega) (by omega) lp635u lp635k30 lp635k31 lp635k29) (fun q745 _ wq745 => ?_)
                  obtain ⟨pq745, oq745, hq745⟩ := q745
                  obtain ⟨tyq745, xq745, cq745_0, ttq745, fq745_0, fq745_1, fq745_2, ecq745_0, tcq745_0, gq745, efq745_0, afq745_0, bfq745_0, efq745_1, afq745_1, bfq745_1, efq745_2, afq745_2, bfq745_2, uq745_0, uq745_1, uq745_2, uq745_3, uq745_4, uq745_5, uq745_6, uq745_7, uq745_8, yq745_0, yq745_1⟩ := wq745
                  dsimp only at uq745_5 uq745_6 uq745_7 uq745_8
                  refine ⟨_, gq745, ?_⟩
                  show gz gPP gGG gcn _ _ 176 [some (.ref x), some (.int (zi qu)), some (.int (zi i))] [] hq745 _
                  have G746 : gSg [71, 72, 73, 74, 75, 76, 77, 78, 79, 80, 81, 85, 91, 92, 93, 94, 95, 96, 97, 98, 99, 114, 200] [] [50006, 55008, 56000, 56001, 56002, 56003, 64999, 71005, 71006, 71007, 71008, 71009, 71010, 71011, 71012, 71013, 71014, 72999, 73999, 74999, 76999, 77999, 78999, 79999, 80999, 81999, 85999, 91004, 91008, 92004, 92008, 93999, 94999, 95999, 96999, 97999, 98999, 99999, 114999] ty h tyq745 hq745 := gSg.tr (gSg.ss lp635G sh636 (by decide)) xq745 (by decide) (by decide) (fun x hx => by cases hx)
                  have t747 : tyq745 x = 50 := gSg.typ xq745 sh636.1 lp635c0 rfl
                  have t748 : tyq745 pic = 54 := gSg.typ xq745 sh636.1 lp635c1 rfl
                  have t749 : tyq745 dr = 55 := gSg.typ xq745 sh636.1 lp635c2 rfl
                  have t750 : tyq745 sk = 56 := gSg.typ xq745 sh636.1 lp635c3 rfl
                  have t751 : tyq745 c15 = 71 := gSg.typ xq745 sh636.1 lp635c4 rfl
                  have t752 : tyq745 c531 = 53 := gSg.typ xq745 sh636.1 lp635c5 rfl
                  have t753 : tyq745 c628 = 60 := gSg.typ xq745 sh636.1 lp635c6 rfl
                  have t754 : tyq745 c629 = 61 := gSg.typ xq745 sh636.1 lp635c7 rfl
                  have t755 : tyq745 bv = 114 := gSg.typ xq745 sh636.1 lp635r1 rfl
                  have hl756 : hq745.2.2.2.1 bv = h636.2.2.2.1 bv := gSg.len xq745 sh636.1 lp635r1 rfl
                  have t757 : tyq745 c736 = 62 := gSg.typ xq745 sh636.1 tc736 rfl
                  have t758 : tyq745 c740 = 63 := gSg.typ xq745 sh636.1 tc740 rfl
                  have s759 := gSg.at xq745 sh636.1 lp635c0 rfl (by decide) lp635k0
                  have s760 := gSg.at xq745 sh636.1 lp635c0 rfl (by decide) lp635k1
                  have s761 := gSg.at xq745 sh636.1 lp635c0 rfl (by decide) lp635k2
                  have s762 := gSg.at xq745 sh636.1 lp635c2 rfl (by decide) lp635k3
                  have s763 := gSg.at xq745 sh636.1 lp635c2 rfl (by decide) lp635k4
                  have s764 := gSg.at xq745 sh636.1 lp635c2 rfl (by decide) lp635k5
                  have s765 := gSg.at xq745 sh636.1 lp635c2 rfl (by decide) lp635k6
                  have s766 := gSg.at xq745 sh636.1 lp635c0 rfl (by decide) lp635k7
                  have s767 := gSg.at xq745 sh636.1 lp635c0 rfl (by decide) lp635k8
                  have s768 := gSg.at xq745 sh636.1 lp635c4 rfl (by decide) lp635k9
                  have s769 := gSg.at xq745 sh636.1 lp635c4 rfl (by decide) lp635k10
                  have s770 := gSg.at xq745 sh636.1 lp635c4 rfl (by decide) lp635k11
                  have s771 := gSg.at xq745 sh636.1 lp635c2 rfl (by decide) lp635k12
                  have s772 := gSg.at xq745 sh636.1 lp635c2 rfl (by decide) lp635k13
                  have s773 := gSg.at xq745 sh636.1 lp635c2 rfl (by decide) ec736
                  have s774 := gSg.at xq745 sh636.1 lp635c2 rfl (by decide) ec740
                  have pr775 := gStx.gr xq745 (by decide) (fun x hx => by cases hx) lp635k17
                  have pr776 := gPC.gr xq745 sh636.1 (by decide) lp635k18
                  have pr777 := gTc.gr xq745 sh636.1 (by decide) (by decide) lp635k19
                  have pr778 := gRr.gr xq745 sh636.1 (by decide) (by decide) lp635k20
                  have pr779 := gRn.gr xq745 sh636.1 rfl (by decide) (by decide) lp635k21
                  have pr780 := gRn.gr xq745 sh636.1 rfl (by decide) (by decide) lp635k22
                  have pr781 := gRn.gr xq745 sh636.1 rfl (by decide) (by decide) lp635k23
                  have pr782 := gRn.gr xq745 sh636.1 rfl (by decide) (by decide) lp635k24
                  have pr783 := gRn.gr xq745 sh636.1 rfl (by decide) (by decide) lp635k25
                  have pr784 := gRn.gr xq745 sh636.1 rfl (by decide) (by decide) lp635k26
                  have pr785 := gRn.gr xq745 sh636.1 rfl (by decide) (by decide) lp635k27
                  have pr786 := gRn.gr xq745 sh636.1 rfl (by decide) (by decide) lp635k28
                  have pr787 := gRn.gr xq745 sh636.1 rfl (by decide) (by decide) lp635k29
                  have uq788 := gSg.uq xq745 lp635u (by decide)
                  have hyst789 := gSta.gr xq745 (by decide) (fun x hx => by cases hx) (gSta.fr sh636.2 (by decide) lp635t)
                  have sS790 : gSs rT 1027 tyq745 [50006, 55008, 56000, 56001, 56002, 56003, 64999, 71005, 71006, 71007, 71008, 71009, 71010, 71011, 71012, 71013, 71014, 72999, 73999, 74999, 76999, 77999, 78999, 79999, 80999, 81999, 85999, 91004, 91008, 92004, 92008, 93999, 94999, 95999, 96999, 97999, 98999, 99999, 114999] hq745 hq745 := gSs.rf xq745.1
                  have hk791 : eKk qu i0 dw dh n0 S (i + 1) = eSc fq587_3 z731 z734 z738 z742 (eCf S.1.2.1 (eTb S.1.1 qu) dw dh (zup dw 8)) (fq557_0).toNat (eKk qu i0 dw dh n0 S i) := by rw [hmn, hiw]; exact eKk_s (by omega) (by omega) hf732 hf735 hf739 hf743
                  have hk791_1 : (eKk qu i0 dw dh n0 S (i + 1)).1 = (eSc fq587_3 z731 z734 z738 z742 (eCf S.1.2.1 (eTb S.1.1 qu) dw dh (zup dw 8)) (fq557_0).toNat (eKk qu i0 dw dh n0 S i)).1 := by rw [hk791]
                  have hk791_21 : (eKk qu i0 dw dh n0 S (i + 1)).2.1 = (eSc fq587_3 z731 z734 z738 z742 (eCf S.1.2.1 (eTb S.1.1 qu) dw dh (zup dw 8)) (fq557_0).toNat (eKk qu i0 dw dh n0 S i)).2.1 := by rw [hk791]
                  have hk791_221 : (eKk qu i0 dw dh n0 S (i + 1)).2.2.1 = (eSc fq587_3 z731 z734 z738 z742 (eCf S.1.2.1 (eTb S.1.1 qu) dw dh (zup dw 8)) (fq557_0).toNat (eKk qu i0 dw dh n0 S i)).2.2.1 := by rw [hk791]
                  have hsw792 : gSW tyq745 cq745_0 (eKk qu i0 dw dh n0 S (i + 1)) hq745 := by rw [hk791]; exact yq745_0
                  have hok793 : eeOk (eKk qu i0 dw dh n0 S (i + 1)) := by rw [hk791]; exact yq745_1
                  have hoc794 := hok793.cur
                  refine gy_s 2 (pc' := 122) (L' := [some (.ref x), some (.int (zi qu)), some (.int ((zi i) + zi 1))]) (S' := []) (L2 := [some (.ref x), some (.int (zi qu)), some (.int (zi (i + 1)))]) (S2 := []) rfl (by simp only [zi_add, zi_sub, zi_mul, zi_neg, zi_and1, zi_and7, zi_and15, zi_and31, zi_and255]) (by simp only [zi_add, zi_sub, zi_mul, zi_neg, zi_and1, zi_and7, zi_and15, zi_and31, zi_and255]) ?_
                  have hl795 : 1024 ≤ hq745.2.2.2.1 bv ∧ hq745.2.2.2.1 bv ≤ 1000000 := gJ.rowl (G := gGG) sS790.1 t755 rfl
                  have hl796 : 1024 ≤ hq745.2.2.2.1 cq745_0 ∧ hq745.2.2.2.1 cq745_0 ≤ 1000000 := gJ.rowl (G := gGG) sS790.1 tcq745_0 rfl
                  have G797 : gSg [71, 72, 73, 74, 75, 76, 77, 78, 79, 80, 81, 85, 91, 92, 93, 94, 95, 96, 97, 98, 99, 114, 200] [] [50006, 55008, 56000, 56001, 56002, 56003, 64999, 71005, 71006, 71007, 71008, 71009, 71010, 71011, 71012, 71013, 71014, 72999, 73999, 74999, 76999, 77999, 78999, 79999, 80999, 81999, 85999, 91004, 91008, 92004, 92008, 93999, 94999, 95999, 96999, 97999, 98999, 99999, 114999] ty h tyq745 hq745 := gSg.ss G746 sS790 (by decide)
                  exact gz_wk (ihlp635 tyq745 hq745 cq745_0 (i + 1) fq745_0 fq745_1 fq745_2 (gms lp635m (by omega) (by omega)) G797 uq788 (gSta.fr sS790.2 (by decide) hyst789) t747 t748 t749 t750 t751 t752 t753 t754 ecq745_0 tcq745_0 ⟨by omega, by omega⟩ ⟨by omega, by omega⟩ ⟨by omega, by omega⟩ ⟨by omega, by omega⟩ (by omega) (by omega) (by omega) (by omega) (by omega) (by omega) (by omega) (by omega) (by omega) s759 s760 s761 s762 s763 s764 s765 s766 s767 s768 s769 s770 s771 s772 efq745_0 efq745_1 efq745_2 pr775 pr776 pr777 pr778 pr779 pr780 pr781 pr782 pr783 pr784 pr785 pr786 pr787 hsw792 hok793) (gLw.s (gLw.s (gLw.s gLw.z)))
            have hl798 : 1024 ≤ hq587.2.2.2.1 bt ∧ hq587.2.2.2.1 bt ≤ 1000000 := gJ.rowl (G := gGG) sS627.1 t596 rfl
            have hl799 : 1024 ≤ hq587.2.2.2.1 cq587_0 ∧ hq587.2.2.2.1 cq587_0 ≤ 1000000 := gJ.rowl (G := gGG) sS627.1 tcq587_0 rfl
            have G800 : gSg [71, 72, 73, 74, 75, 76, 77, 78, 79, 80, 81, 85, 91, 92, 93, 94, 95, 96, 97, 98, 99, 114, 200] [] [50006, 55008, 56000, 56001, 56002, 56003, 64999, 71005, 71006, 71007, 71008, 71009, 71010, 71011, 71012, 71013, 71014, 72999, 73999, 74999, 76999, 77999, 78999, 79999, 80999, 81999, 85999, 91004, 91008, 92004, 92008, 93999, 94999, 95999, 96999, 97999, 98999, 99999, 114999] ty h tyq587 hq587 := gSg.ss G588 sS627 (by decide)
            exact gz_wk (lp635 _ tyq587 hq587 cq587_0 0 fq587_0 fq587_1 fq587_2 (Nat.lt_succ_self _) G800 uq625 (gSta.fr sS627.2 (by decide) hyst626) t589 t590 t594 t595 t598 t599 tc628 tc629 ecq587_0 tcq587_0 ⟨by omega, by omega⟩ ⟨by omega, by omega⟩ ⟨by omega, by omega⟩ ⟨by omega, by omega⟩ (by omega) (by omega) (by omega) (by omega) (by omega) (by omega) (by omega) (by omega) (by omega) s600 s601 s602 s603 s604 s605 s606 s607 s608 s609 s610 efq587_3 ec628 ec629 efq587_0 efq587_1 efq587_2 pr611 pr612 pr613 pr614 pr616 pr617 pr618 pr619 pr620 pr621 pr622 pr623 pr624 hsw632 hok633) (gLw.s (gLw.s (gLw.s gLw.z)))
          · refine gy_ifF rfl (by decide) (by decide) (by omega) hc630 ?_
            refine gz_s 1 (pc' := 109) (L' := [some (.ref x), some (.int (zi qu)), none]) (S' := [.ref x]) rfl ?_
            refine gs_gtk rfl (by decide) rfl sS627.1 t589 rfl rfl s607 ?_
            refine gz_s 4 (pc' := 117) (L' := [some (.ref x), some (.int (zi qu)), none]) (S' := [.int (zi 0), .int (zi 0), .int (zi 63), .int (zi 0), .ref c15]) rfl ?_
            have hl801 : hq587.2.2.2.1 cq587_0 = hq587.2.2.2.1 cq587_0 := congrFun sS627.2.2.2.2.1 cq587_0
            refine gz_call rfl (by decide) rfl (by decide) (by decide) (gcal_of rfl rfl rfl (Nat.le_of_ble_eq_true rfl) (gJ.recv (G := gGG) sS627.1 t598 rfl rfl)) (cw_putScan _ sS627.1 c15 t598 0 ⟨by omega, by omega⟩ 63 ⟨by omega, by omega⟩ 0 ⟨by omega, by omega⟩ 0 ⟨by omega, by omega⟩ sk s610 t595 cq587_0 ecq587_0 tcq587_0 fq587_0 efq587_0 ⟨by omega, by omega⟩ fq587_1 efq587_1 ⟨by omega, by omega⟩ fq587_2 efq587_2 ⟨by omega, by omega⟩ fq557_0 s609 ⟨by omega, by omega⟩ fq587_3 efq587_3 ⟨by omega, by omega⟩ (eCf S.1.2.1 (eTb S.1.1 qu) dw dh (zup dw 8)) (eHd (eTb S.1.1 qu) n0 dh dw i0) (by omega) (by omega) (by omega) (by omega) (by omega) (by omega) (by omega) uq625 yq587_0 yq587_1 pr624) (fun q802 _ wq802 => ?_)
            obtain ⟨pq802, oq802, hq802⟩ := q802
            obtain ⟨tyq802, xq802, cq802_0, ttq802, fq802_0, fq802_1, fq802_2, ecq802_0, tcq802_0, gq802, efq802_0, afq802_0, bfq802_0, efq802_1, afq802_1, bfq802_1, efq802_2, afq802_2, bfq802_2, uq802_0, uq802_1, uq802_2, uq802_3, uq802_4, uq802_5, uq802_6, uq802_7, uq802_8, yq802_0, yq802_1⟩ := wq802
            dsimp only at uq802_5 uq802_6 uq802_7 uq802_8
            refine ⟨_, gq802, ?_⟩
            show gz gPP gGG gcn _ _ 120 [some (.ref x), some (.int (zi qu)), none] [] hq802 _
            have G803 : gSg [71, 72, 73, 74, 75, 76, 77, 78, 79, 80, 81, 85, 91, 92, 93, 94, 95, 96, 97, 98, 99, 114, 200] [] [50006, 55008, 56000, 56001, 56002, 56003, 64999, 71005, 71006, 71007, 71008, 71009, 71010, 71011, 71012, 71013, 71014, 72999, 73999, 74999, 76999, 77999, 78999, 79999, 80999, 81999, 85999, 91004, 91008, 92004, 92008, 93999, 94999, 95999, 96999, 97999, 98999, 99999, 114999] ty h tyq802 hq802 := gSg.tr (gSg.ss G588 sS627 (by decide)) xq802 (by decide) (by decide) (fun x hx => by cases hx)
            have t804 : tyq802 x = 50 := gSg.typ xq802 sS627.1 t589 rfl
            have t805 : tyq802 pic = 54 := gSg.typ xq802 sS627.1 t590 rfl
            have t806 : tyq802 b0 = 82 := gSg.typ xq802 sS627.1 t591 rfl
            have t807 : tyq802 b1 = 83 := gSg.typ xq802 sS627.1 t592 rfl
            have t808 : tyq802 b2 = 84 := gSg.typ xq802 sS627.1 t593 rfl
            have t809 : tyq802 dr = 55 := gSg.typ xq802 sS627.1 t594 rfl
            have t810 : tyq802 sk = 56 := gSg.typ xq802 sS627.1 t595 rfl
            have t811 : tyq802 bt = 114 := gSg.typ xq802 sS627.1 t596 rfl
            have hl812 : hq802.2.2.2.1 bt = hq587.2.2.2.1 bt := gSg.len xq802 sS627.1 t596 rfl
            have t813 : tyq802 c15 = 71 := gSg.typ xq802 sS627.1 t598 rfl
            have t814 : tyq802 c531 = 53 := gSg.typ xq802 sS627.1 t599 rfl
            have t815 : tyq802 cq587_0 = 114 := gSg.typ xq802 sS627.1 tcq587_0 rfl
            have hl816 : hq802.2.2.2.1 cq587_0 = hq587.2.2.2.1 cq587_0 := gSg.len xq802 sS627.1 tcq587_0 rfl
            have t817 : tyq802 c628 = 60 := gSg.typ xq802 sS627.1 tc628 rfl
            have t818 : tyq802 c629 = 61 := gSg.typ xq802 sS627.1 tc629 rfl
            have s819 := gSg.at xq802 sS627.1 t589 rfl (by decide) s600
            have s820 := gSg.at xq802 sS627.1 t589 rfl (by decide) s601
            have s821 := gSg.at xq802 sS627.1 t589 rfl (by decide) s602
            have s822 := gSg.at xq802 sS627.1 t594 rfl (by decide) s603
            have s823 := gSg.at xq802 sS627.1 t594 rfl (by decide) s604
            have s824 := gSg.at xq802 sS627.1 t594 rfl (by decide) s605
            have s825 := gSg.at xq802 sS627.1 t594 rfl (by decide) s606
            have s826 := gSg.at xq802 sS627.1 t589 rfl (by decide) s607
            have s827 := gSg.at xq802 sS627.1 t589 rfl (by decide) s608
            have s828 := gSg.at xq802 sS627.1 t598 rfl (by decide) s609
            have s829 := gSg.at xq802 sS627.1 t598 rfl (by decide) s610
            have s830 := gSg.at xq802 sS627.1 t598 rfl (by decide) efq587_3
            have s831 := gSg.at xq802 sS627.1 t594 rfl (by decide) ec628
            have s832 := gSg.at xq802 sS627.1 t594 rfl (by decide) ec629
            have pr833 := gStx.gr xq802 (by decide) (fun x hx => by cases hx) pr611
            have pr834 := gPC.gr xq802 sS627.1 (by decide) pr612
            have pr835 := gTc.gr xq802 sS627.1 (by decide) (by decide) pr613
            have pr836 := gRr.gr xq802 sS627.1 (by decide) (by decide) pr614
            have pr837 := gRw.gr xq802 sS627.1 (by decide) (by decide) pr615
            have pr838 := gRn.gr xq802 sS627.1 rfl (by decide) (by decide) pr616
            have pr839 := gRn.gr xq802 sS627.1 rfl (by decide) (by decide) pr617
            have pr840 := gRn.gr xq802 sS627.1 rfl (by decide) (by decide) pr618
            have pr841 := gRn.gr xq802 sS627.1 rfl (by decide) (by decide) pr619
            have pr842 := gRn.gr xq802 sS627.1 rfl (by decide) (by decide) pr620
            have pr843 := gRn.gr xq802 sS627.1 rfl (by decide) (by decide) pr621
            have pr844 := gRn.gr xq802 sS627.1 rfl (by decide) (by decide) pr622
            have pr845 := gRn.gr xq802 sS627.1 rfl (by decide) (by decide) pr623
            have pr846 := gRn.gr xq802 sS627.1 rfl (by decide) (by decide) pr624
            have uq847 := gSg.uq xq802 uq625 (by decide)
            have hyst848 := gSta.gr xq802 (by decide) (fun x hx => by cases hx) (gSta.fr sS627.2 (by decide) hyst626)
            have sS849 : gSs rT 1027 tyq802 [50006, 55008, 56000, 56001, 56002, 56003, 64999, 71005, 71006, 71007, 71008, 71009, 71010, 71011, 71012, 71013, 71014, 72999, 73999, 74999, 76999, 77999, 78999, 79999, 80999, 81999, 85999, 91004, 91008, 92004, 92008, 93999, 94999, 95999, 96999, 97999, 98999, 99999, 114999] hq802 hq802 := gSs.rf xq802.1
            have hk850 : eKk qu i0 dw dh n0 S 0 = eSc fq587_3 0 63 0 0 (eCf S.1.2.1 (eTb S.1.1 qu) dw dh (zup dw 8)) (fq557_0).toNat (eHd (eTb S.1.1 qu) n0 dh dw i0) := by rw [hmn, hiw]; exact eKk_z (by omega)
            have hk850_1 : (eKk qu i0 dw dh n0 S 0).1 = (eSc fq587_3 0 63 0 0 (eCf S.1.2.1 (eTb S.1.1 qu) dw dh (zup dw 8)) (fq557_0).toNat (eHd (eTb S.1.1 qu) n0 dh dw i0)).1 := by rw [hk850]
            have hk850_21 : (eKk qu i0 dw dh n0 S 0).2.1 = (eSc fq587_3 0 63 0 0 (eCf S.1.2.1 (eTb S.1.1 qu) dw dh (zup dw 8)) (fq557_0).toNat (eHd (eTb S.1.1 qu) n0 dh dw i0)).2.1 := by rw [hk850]
            have hk850_221 : (eKk qu i0 dw dh n0 S 0).2.2.1 = (eSc fq587_3 0 63 0 0 (eCf S.1.2.1 (eTb S.1.1 qu) dw dh (zup dw 8)) (fq557_0).toNat (eHd (eTb S.1.1 qu) n0 dh dw i0)).2.2.1 := by rw [hk850]
            have hsw851 : gSW tyq802 cq802_0 (eKk qu i0 dw dh n0 S 0) hq802 := by rw [hk850]; exact yq802_0
            have hok852 : eeOk (eKk qu i0 dw dh n0 S 0) := by rw [hk850]; exact yq802_1
            have hoc853 := hok852.cur
            refine gz_s 2 (pc' := 122) (L' := [some (.ref x), some (.int (zi qu)), some (.int (zi 0))]) (S' := []) rfl ?_
            have lp854 : ∀ (fu : Nat) (ty856 : Nat → Nat) (h855 : gH) (bv : Nat) (i : Int) (cv : Int) (uv : Int) (hv : Int), (11 - i).toNat < fu → gSg [71, 72, 73, 74, 75, 76, 77, 78, 79, 80, 81, 85, 91, 92, 93, 94, 95, 96, 97, 98, 99, 114, 200] [] [50006, 55008, 56000, 56001, 56002, 56003, 64999, 71005, 71006, 71007, 71008, 71009, 71010, 71011, 71012, 71013, 71014, 72999, 73999, 74999, 76999, 77999, 78999, 79999, 80999, 81999, 85999, 91004, 91008, 92004, 92008, 93999, 94999, 95999, 96999, 97999, 98999, 99999, 114999] ty h ty856 h855 → gUq ty856 → gSta ty856 h855 → ty856 x = 50 → ty856 pic = 54 → ty856 dr = 55 → ty856 sk = 56 → ty856 c15 = 71 → ty856 c531 = 53 → ty856 c628 = 60 → ty856 c629 = 61 → h855.2.2.2.2 sk 0 = .ref bv → ty856 bv = 114 → (0 ≤ i ∧ i ≤ 10) → (0 ≤ cv ∧ cv ≤ 499999) → (0 ≤ uv ∧ uv ≤ 127) → (0 ≤ hv ∧ hv ≤ 7) → ((n0 = 0 ∧ 4 * cv + hv ≤ 336000) ∨ 4 * cv + hv ≤ 400 + 7876 * i + 5120 * gTl S.1.2.2.1 S.1.2.2.2.1 i) → (i ≤ n0) → (cv ≤ (h855.2.2.2.1 bv : Int)) → (1024 * (((h855.1 : Int) - h.1) - 21) ≤ (h855.2.2.2.1 bv : Int) - lb) → (((h855.2.1 : Int) - h.2.1) ≤ 4303 + 2 * ((h855.2.2.2.1 bv : Int) - lb)) → (lb ≤ (h855.2.2.2.1 bv : Int)) → (cv = (eKk qu i0 dw dh n0 S i).1) → (uv = (eKk qu i0 dw dh n0 S i).2.1) → (hv = (eKk qu i0 dw dh n0 S i).2.2.1) → h855.2.2.2.2 x 2 = .ref pic → h855.2.2.2.2 x 3 = .ref dr → h855.2.2.2.2 x 4 = .ref sk → h855.2.2.2.2 dr 8 = .int (zi n0) → h855.2.2.2.2 dr 3 = .int (zi i0) → h855.2.2.2.2 dr 1 = .int (zi dw) → h855.2.2.2.2 dr 2 = .int (zi dh) → h855.2.2.2.2 x 6 = .ref c15 → h855.2.2.2.2 x 1 = .ref c531 → h855.2.2.2.2 c15 5 = .int (zi fq557_0) → h855.2.2.2.2 c15 0 = .ref sk → h855.2.2.2.2 c15 6 = .int (zi fq587_3) → h855.2.2.2.2 dr 4 = .ref c628 → h855.2.2.2.2 dr 5 = .ref c629 → h855.2.2.2.2 sk 1 = .int (zi cv) → h855.2.2.2.2 sk 2 = .int (zi uv) → h855.2.2.2.2 sk 3 = .int (zi hv) → gStx ty856 h855 → gPC ty856 pic b0 b1 b2 ld h855 → gTc ty856 n0 h855 → gRr ty856 x h855 → gRn 256 ty856 53 S.1.1 h855 → gRn 1024 ty856 59 S.1.2.1 h855 → gRn 10 ty856 60 S.1.2.2.1 h855 → gRn 10 ty856 61 S.1.2.2.2.1 h855 → gRn 10 ty856 62 S.1.2.2.2.2.1 h855 → gRn 10 ty856 63 S.1.2.2.2.2.2.1 h855 → gRn 64 ty856 64 S.1.2.2.2.2.2.2 h855 → gRn 64 ty856 72 (eTb S.1.1 qu) h855 → gRn (64 * fq557_0).toNat ty856 73 (eCf S.1.2.1 (eTb S.1.1 qu) dw dh (zup dw 8)) h855 → gSW ty856 bv (eKk qu i0 dw dh n0 S i) h855 → eeOk (eKk qu i0 dw dh n0 S i) → gz gPP gGG gcn (d + 8) gt89 122 [some (.ref x), some (.int (zi qu)), some (.int (zi i))] [] h855 (fun q _ => ∃ ty9 : Nat → Nat, gSg [71, 72, 73, 74, 75, 76, 77, 78, 79, 80, 81, 85, 91, 92, 93, 94, 95, 96, 97, 98, 99, 114, 200] [] [50006, 55008, 56000, 56001, 56002, 56003, 64999, 71005, 71006, 71007, 71008, 71009, 71010, 71011, 71012, 71013, 71014, 72999, 73999, 74999, 76999, 77999, 78999, 79999, 80999, 81999, 85999, 91004, 91008, 92004, 92008, 93999, 94999, 95999, 96999, 97999, 98999, 99999, 114999] ty h ty9 q.2.2 ∧ ∃ ld1 lb1 iv1 : Int, 0 ≤ ld1 ∧ ld1 ≤ 192 ∧ 1024 ≤ lb1 ∧ lb1 ≤ 1000000 ∧ 0 ≤ iv1 ∧ iv1 ≤ 26476544 ∧ (gIx ty9 x ld1 lb1 iv1 (eQ3 qu (iv / 262144) (iv / 64 % 64) (iv / 4096 % 64) (iv % 64) S) q.2.2) ∧ gUq ty9 ∧ ((∃ z : Int, gfin gt89 q.1 q.2.1 = some (some (.int (zi z))) ∧ (-2147483648) ≤ z ∧ z ≤ 2147483647 ∧ (1 ≤ qu) ∧ (qu ≤ 100) ∧ (1 ≤ iv / 64 % 64) ∧ (iv1 = iv - iv % 64) ∧ (z = (eNn qu (iv / 262144) (iv / 64 % 64) (iv / 4096 % 64) (iv % 64) S).1) ∧ (1024 * (((q.2.2.1 : Int) - h.1) - 31 - 2 * (ld1 - ld)) ≤ lb1 - lb) ∧ (((q.2.2.2.1 : Int) - h.2.1) ≤ 4303 + 12480 * (ld1 - ld) + 2 * (lb1 - lb)) ∧ (ld ≤ ld1) ∧ (lb ≤ lb1)) ∨ (q.2.1 = [] ∧ ((q.1 = 11 ∧ (¬ (1 ≤ qu ∧ qu ≤ 100))) ∨ (q.1 = 32 ∧ (1 ≤ qu) ∧ (qu ≤ 100) ∧ (iv / 64 % 64 = 0))) ∧ (iv1 = iv) ∧ (1024 * (((q.2.2.1 : Int) - h.1) - 31 - 2 * (ld1 - ld)) ≤ lb1 - lb) ∧ (((q.2.2.2.1 : Int) - h.2.1) ≤ 4303 + 12480 * (ld1 - ld) + 2 * (lb1 - lb)) ∧ (ld ≤ ld1) ∧ (lb ≤ lb1)))) := by
              intro fu
              induction fu with
              | zero => intro ty856 h855 bv i cv uv hv hm; exact absurd hm (Nat.not_lt_zero _)
              | succ fu ihlp854 =>
                intro ty856 h855 bv i cv uv hv lp854m lp854G lp854u lp854t lp854c0 lp854c1 lp854c2 lp854c3 lp854c4 lp854c5 lp854c6 lp854c7 lp854r0 lp854r1 lp854f0 lp854f1 lp854f2 lp854f3 lp854f4 lp854f5 lp854f6 lp854f7 lp854f8 lp854f9 lp854f10 lp854f11 lp854f12 lp854k0 lp854k1 lp854k2 lp854k3 lp854k4 lp854k5 lp854k6 lp854k7 lp854k8 lp854k9 lp854k10 lp854k11 lp854k12 lp854k13 lp854k14 lp854k15 lp854k16 lp854k17 lp854k18 lp854k19 lp854k20 lp854k21 lp854k22 lp854k23 lp854k24 lp854k25 lp854k26 lp854k27 lp854k28 lp854k29 lp854k30 lp854k31
                have sh855 : gSs rT 1027 ty856 [50006, 55008, 56000, 56001, 56002, 56003, 64999, 71005, 71006, 71007, 71008, 71009, 71010, 71011, 71012, 71013, 71014, 72999, 73999, 74999, 76999, 77999, 78999, 79999, 80999, 81999, 85999, 91004, 91008, 92004, 92008, 93999, 94999, 95999, 96999, 97999, 98999, 99999, 114999] h855 h855 := gSs.rf lp854G.1
                refine gz_s 2 (pc' := 124) (L' := [some (.ref x), some (.int (zi qu)), some (.int (zi i))]) (S' := [.ref x, .int (zi i)]) rfl ?_
                refine gs_gtk rfl (by decide) rfl sh855.1 lp854c0 rfl rfl lp854k1 ?_
                refine gs_gtk rfl (by decide) rfl sh855.1 lp854c2 rfl rfl lp854k3 ?_
                refine gy_icT (pc' := 182) rfl (by decide) (by decide) ⟨by omega, by omega⟩ ⟨by omega, by omega⟩ (by first | (simp [zc]; done) | (simp only [zc]; omega)) ?_
                have hgl9 : gTl S.1.2.2.1 S.1.2.2.2.1 i = gTl S.1.2.2.1 S.1.2.2.2.1 n0 := by rw [show i = n0 from Int.le_antisymm (by omega) (by omega)]
                refine gz_s 1 (pc' := 183) (L' := [some (.ref x), some (.int (zi qu)), some (.int (zi i))]) (S' := [.ref x]) rfl ?_
                refine gs_gtk rfl (by decide) rfl sh855.1 lp854c0 rfl rfl lp854k7 ?_
                have hl857 : h855.2.2.2.1 bv = h855.2.2.2.1 bv := congrFun sh855.2.2.2.2.1 bv
                refine gz_call rfl (by decide) rfl (by decide) (by decide) (gcal_of rfl rfl rfl (Nat.le_of_ble_eq_true rfl) (gJ.recv (G := gGG) sh855.1 lp854c4 rfl rfl)) (cw_putEnd _ sh855.1 c15 lp854c4 sk lp854k10 lp854c3 bv lp854r0 lp854r1 cv lp854k14 ⟨by omega, by omega⟩ (eKk qu i0 dw dh n0 S i) (by omega) (by omega) lp854u lp854k30 lp854k31) (fun q858 _ wq858 => ?_)
                obtain ⟨pq858, oq858, hq858⟩ := q858
                obtain ⟨tyq858, xq858, cq858_0, ttq858, fq858_0, ecq858_0, tcq858_0, gq858, efq858_0, afq858_0, bfq858_0, uq858_0, uq858_1, uq858_2, uq858_3, uq858_4, uq858_5, uq858_6, uq858_7, yq858_0, yq858_1⟩ := wq858
                dsimp only at uq858_4 uq858_5 uq858_6 uq858_7
                refine ⟨_, gq858, ?_⟩
                show gz gPP gGG gcn _ _ 189 [some (.ref x), some (.int (zi qu)), some (.int (zi i))] [] hq858 _
                have G859 : gSg [71, 72, 73, 74, 75, 76, 77, 78, 79, 80, 81, 85, 91, 92, 93, 94, 95, 96, 97, 98, 99, 114, 200] [] [50006, 55008, 56000, 56001, 56002, 56003, 64999, 71005, 71006, 71007, 71008, 71009, 71010, 71011, 71012, 71013, 71014, 72999, 73999, 74999, 76999, 77999, 78999, 79999, 80999, 81999, 85999, 91004, 91008, 92004, 92008, 93999, 94999, 95999, 96999, 97999, 98999, 99999, 114999] ty h tyq858 hq858 := gSg.tr (gSg.ss lp854G sh855 (by decide)) xq858 (by decide) (by decide) (fun x hx => by cases hx)
                have t860 : tyq858 x = 50 := gSg.typ xq858 sh855.1 lp854c0 rfl
                have t861 : tyq858 pic = 54 := gSg.typ xq858 sh855.1 lp854c1 rfl
                have t862 : tyq858 dr = 55 := gSg.typ xq858 sh855.1 lp854c2 rfl
                have t863 : tyq858 sk = 56 := gSg.typ xq858 sh855.1 lp854c3 rfl
                have t864 : tyq858 c15 = 71 := gSg.typ xq858 sh855.1 lp854c4 rfl
                have t865 : tyq858 c531 = 53 := gSg.typ xq858 sh855.1 lp854c5 rfl
                have t866 : tyq858 c628 = 60 := gSg.typ xq858 sh855.1 lp854c6 rfl
                have t867 : tyq858 c629 = 61 := gSg.typ xq858 sh855.1 lp854c7 rfl
                have t868 : tyq858 bv = 114 := gSg.typ xq858 sh855.1 lp854r1 rfl
                have hl869 : hq858.2.2.2.1 bv = h855.2.2.2.1 bv := gSg.len xq858 sh855.1 lp854r1 rfl
                have s870 := gSg.at xq858 sh855.1 lp854c0 rfl (by decide) lp854k0
                have s871 := gSg.at xq858 sh855.1 lp854c0 rfl (by decide) lp854k1
                have s872 := gSg.at xq858 sh855.1 lp854c0 rfl (by decide) lp854k2
                have s873 := gSg.at xq858 sh855.1 lp854c2 rfl (by decide) lp854k3
                have s874 := gSg.at xq858 sh855.1 lp854c2 rfl (by decide) lp854k4
                have s875 := gSg.at xq858 sh855.1 lp854c2 rfl (by decide) lp854k5
                have s876 := gSg.at xq858 sh855.1 lp854c2 rfl (by decide) lp854k6
                have s877 := gSg.at xq858 sh855.1 lp854c0 rfl (by decide) lp854k7
                have s878 := gSg.at xq858 sh855.1 lp854c0 rfl (by decide) lp854k8
                have s879 := gSg.at xq858 sh855.1 lp854c4 rfl (by decide) lp854k9
                have s880 := gSg.at xq858 sh855.1 lp854c4 rfl (by decide) lp854k10
                have s881 := gSg.at xq858 sh855.1 lp854c4 rfl (by decide) lp854k11
                have s882 := gSg.at xq858 sh855.1 lp854c2 rfl (by decide) lp854k12
                have s883 := gSg.at xq858 sh855.1 lp854c2 rfl (by decide) lp854k13
                have s884 := gSg.at xq858 sh855.1 lp854c3 rfl (by decide) lp854k15
                have s885 := gSg.at xq858 sh855.1 lp854c3 rfl (by decide) lp854k16
                have pr886 := gStx.gr xq858 (by decide) (fun x hx => by cases hx) lp854k17
                have pr887 := gPC.gr xq858 sh855.1 (by decide) lp854k18
                have pr888 := gTc.gr xq858 sh855.1 (by decide) (by decide) lp854k19
                have pr889 := gRr.gr xq858 sh855.1 (by decide) (by decide) lp854k20
                have pr890 := gRn.gr xq858 sh855.1 rfl (by decide) (by decide) lp854k21
                have pr891 := gRn.gr xq858 sh855.1 rfl (by decide) (by decide) lp854k22
                have pr892 := gRn.gr xq858 sh855.1 rfl (by decide) (by decide) lp854k23
                have pr893 := gRn.gr xq858 sh855.1 rfl (by decide) (by decide) lp854k24
                have pr894 := gRn.gr xq858 sh855.1 rfl (by decide) (by decide) lp854k25
                have pr895 := gRn.gr xq858 sh855.1 rfl (by decide) (by decide) lp854k26
                have pr896 := gRn.gr xq858 sh855.1 rfl (by decide) (by decide) lp854k27
                have pr897 := gRn.gr xq858 sh855.1 rfl (by decide) (by decide) lp854k28
                have pr898 := gRn.gr xq858 sh855.1 rfl (by decide) (by decide) lp854k29
                have uq899 := gSg.uq xq858 lp854u (by decide)
                have hyst900 := gSta.gr xq858 (by decide) (fun x hx => by cases hx) (gSta.fr sh855.2 (by decide) lp854t)
                have sS901 : gSs rT 1027 tyq858 [50006, 55008, 56000, 56001, 56002, 56003, 64999, 71005, 71006, 71007, 71008, 71009, 71010, 71011, 71012, 71013, 71014, 72999, 73999, 74999, 76999, 77999, 78999, 79999, 80999, 81999, 85999, 91004, 91008, 92004, 92008, 93999, 94999, 95999, 96999, 97999, 98999, 99999, 114999] hq858 hq858 := gSs.rf xq858.1
                have hk902 : eNn qu i0 dw dh n0 S = eeM (eKk qu i0 dw dh n0 S i) 217 := eKk_e (by omega)
                have hk902_1 : (eNn qu i0 dw dh n0 S).1 = (eeM (eKk qu i0 dw dh n0 S i) 217).1 := by rw [hk902]
                have hk902_21 : (eNn qu i0 dw dh n0 S).2.1 = (eeM (eKk qu i0 dw dh n0 S i) 217).2.1 := by rw [hk902]
                have hk902_221 : (eNn qu i0 dw dh n0 S).2.2.1 = (eeM (eKk qu i0 dw dh n0 S i) 217).2.2.1 := by rw [hk902]
                have hsw903 : gSW tyq858 cq858_0 (eNn qu i0 dw dh n0 S) hq858 := by rw [hk902]; exact yq858_0
                have hok904 : eeOk (eNn qu i0 dw dh n0 S) := by rw [hk902]; exact yq858_1
                have hoc905 := hok904.cur
                have hcd9 := hcd
                refine gz_s 1 (pc' := 190) (L' := [some (.ref x), some (.int (zi qu)), some (.int (zi i))]) (S' := [.ref x]) rfl ?_
                refine gs_gtk rfl (by decide) rfl sS901.1 t860 rfl rfl s871 ?_
                refine gz_call rfl (by decide) rfl (by decide) (by decide) (gcal_of rfl rfl rfl (Nat.le_of_ble_eq_true rfl) (gJ.recv (G := gGG) sS901.1 t862 rfl rfl)) (cl_Draft_forgetScans _ sS901.1 dr t862 uq899) (fun q906 _ wq906 => ?_)
                obtain ⟨pq906, oq906, hq906⟩ := q906
                obtain ⟨xq906, fq906_0, gq906, efq906_0, afq906_0, bfq906_0, uq906_0, yq906_0, yq906_1⟩ := wq906
                refine ⟨_, gq906, ?_⟩
                show gz gPP gGG gcn _ _ 196 [some (.ref x), some (.int (zi qu)), some (.int (zi i))] [] hq906 _
                have sq906 : gSs rT 1027 tyq858 [50006, 55008, 56000, 56001, 56002, 56003, 64999, 71005, 71006, 71007, 71008, 71009, 71010, 71011, 71012, 71013, 71014, 72999, 73999, 74999, 76999, 77999, 78999, 79999, 80999, 81999, 85999, 91004, 91008, 92004, 92008, 93999, 94999, 95999, 96999, 97999, 98999, 99999, 114999] hq858 hq906 := gSs.tr sS901 xq906 (by decide)
                have s907 := (xq906.2.2.2.2.2 x 2 (by rw [t860]; decide)).trans s870
                have s908 := (xq906.2.2.2.2.2 x 3 (by rw [t860]; decide)).trans s871
                have s909 := (xq906.2.2.2.2.2 x 4 (by rw [t860]; decide)).trans s872
                have s910 := (xq906.2.2.2.2.2 dr 3 (by rw [t862]; decide)).trans s874
                have s911 := (xq906.2.2.2.2.2 dr 1 (by rw [t862]; decide)).trans s875
                have s912 := (xq906.2.2.2.2.2 dr 2 (by rw [t862]; decide)).trans s876
                have s913 := (xq906.2.2.2.2.2 x 6 (by rw [t860]; decide)).trans s877
                have s914 := (xq906.2.2.2.2.2 x 1 (by rw [t860]; decide)).trans s878
                have s915 := (xq906.2.2.2.2.2 c15 5 (by rw [t864]; decide)).trans s879
                have s916 := (xq906.2.2.2.2.2 c15 0 (by rw [t864]; decide)).trans s880
                have s917 := (xq906.2.2.2.2.2 c15 6 (by rw [t864]; decide)).trans s881
                have s918 := (xq906.2.2.2.2.2 dr 4 (by rw [t862]; decide)).trans s882
                have s919 := (xq906.2.2.2.2.2 dr 5 (by rw [t862]; decide)).trans s883
                have s920 := (xq906.2.2.2.2.2 sk 2 (by rw [t863]; decide)).trans s884
                have s921 := (xq906.2.2.2.2.2 sk 3 (by rw [t863]; decide)).trans s885
                have s922 := (xq906.2.2.2.2.2 sk 0 (by rw [t863]; decide)).trans ecq858_0
                have s923 := (xq906.2.2.2.2.2 sk 1 (by rw [t863]; decide)).trans efq858_0
                have pr924 := gStx.fr xq906.2 (by decide) pr886
                have pr925 := gPC.fr xq906.2 (by decide) pr887
                have pr926 := gRr.fr xq906.2 (by decide) pr889
                have pr927 := gRn.fr xq906.2 (by decide) pr890
                have pr928 := gRn.fr xq906.2 (by decide) pr891
                have pr929 := gRn.fr xq906.2 (by decide) pr892
                have pr930 := gRn.fr xq906.2 (by decide) pr893
                have pr931 := gRn.fr xq906.2 (by decide) pr894
                have pr932 := gRn.fr xq906.2 (by decide) pr895
                have pr933 := gRn.fr xq906.2 (by decide) pr897
                have pr934 := gRn.fr xq906.2 (by decide) pr898
                have pr935 := gSW.fr xq906.2 (by decide) hsw903
                refine gz_s 1 (pc' := 197) (L' := [some (.ref x), some (.int (zi qu)), some (.int (zi i))]) (S' := [.ref x]) rfl ?_
                refine gs_gtk rfl (by decide) rfl sq906.1 t860 rfl rfl s909 ?_
                refine gs_gtk rfl (by decide) rfl sq906.1 t863 rfl rfl s923 ?_
                have k936 := sq906.2.1
                have k936b := sq906.2.2.1
                have hl937 : hq906.2.2.2.1 bv = hq858.2.2.2.1 bv := congrFun sq906.2.2.2.2.1 bv
                have hl938 : hq906.2.2.2.1 cq858_0 = hq858.2.2.2.1 cq858_0 := congrFun sq906.2.2.2.2.1 cq858_0
                have hl939 : 1024 ≤ hq906.2.2.2.1 bv ∧ hq906.2.2.2.1 bv ≤ 1000000 := gJ.rowl (G := gGG) sq906.1 t868 rfl
                have hl940 : 1024 ≤ hq906.2.2.2.1 cq858_0 ∧ hq906.2.2.2.1 cq858_0 ≤ 1000000 := gJ.rowl (G := gGG) sq906.1 tcq858_0 rfl
                have hxr941 : gXr tyq858 (eS3 S (eNn qu i0 dw dh n0 S)) hq906 := ⟨pr927, pr928, pr929, pr930, pr931, pr932, gOy.Rn (by decide) yq906_1⟩
                have hnv : (eNn qu (iv / 262144) (iv / 64 % 64) (iv / 4096 % 64) (iv % 64) S).1 = (eNn qu i0 dw dh n0 S).1 := by rw [hdi, hdw, hdh, hdn]
                have k942 := sq906.2.1
                have k942b := sq906.2.2.1
                have hl943 : hq906.2.2.2.1 bv = hq858.2.2.2.1 bv := congrFun sq906.2.2.2.2.1 bv
                have hl944 : hq906.2.2.2.1 cq858_0 = hq858.2.2.2.1 cq858_0 := congrFun sq906.2.2.2.2.1 cq858_0
                have hix945 : gIx tyq858 x ld (hq906.2.2.2.1 cq858_0 : Int) (64 * dw + fq906_0 + 4096 * dh + 262144 * i0) (eS3 S (eNn qu i0 dw dh n0 S)) hq906 := ⟨pic, b0, b1, b2, dr, sk, cq858_0, fq906_0, fq858_0, i0, dw, dh, ⟨t860, t862, t863, tcq858_0⟩, ⟨s907, s908, s909, s922⟩, pr925, (by rw [(by omega : fq906_0 = 0)]; exact yq906_0), ⟨efq906_0, by omega, by omega⟩, ⟨s910, by omega, by omega⟩, ⟨s923, by omega, by omega⟩, ⟨by omega, by omega⟩, pr926, ⟨t860, Or.inr ⟨c15, s913, t864⟩⟩, ⟨s911, by omega, by omega⟩, ⟨s912, by omega, by omega⟩, by omega, rfl, hxr941, ⟨pr935, (show _ = ((eNn qu i0 dw dh n0 S)).1 by omega)⟩, (by rw [(by omega : fq906_0 = 0)]; exact eTz.zero)⟩
                have hix946 : gIx tyq858 x ld (hq906.2.2.2.1 cq858_0 : Int) (64 * dw + fq906_0 + 4096 * dh + 262144 * i0) (eQ3 qu (iv / 262144) (iv / 64 % 64) (iv / 4096 % 64) (iv % 64) S) hq906 := by rw [hdi, hdw, hdh, hdn, eQ3_y hok]; exact hix945
                have G947 : gSg [71, 72, 73, 74, 75, 76, 77, 78, 79, 80, 81, 85, 91, 92, 93, 94, 95, 96, 97, 98, 99, 114, 200] [] [50006, 55008, 56000, 56001, 56002, 56003, 64999, 71005, 71006, 71007, 71008, 71009, 71010, 71011, 71012, 71013, 71014, 72999, 73999, 74999, 76999, 77999, 78999, 79999, 80999, 81999, 85999, 91004, 91008, 92004, 92008, 93999, 94999, 95999, 96999, 97999, 98999, 99999, 114999] ty h tyq858 hq906 := gSg.ss G859 sq906 (by decide)
                exact gz_end (I := .ireturn) (len := 1) rfl (Or.inl rfl) ⟨tyq858, G947, ld, (hq906.2.2.2.1 cq858_0 : Int), (64 * dw + fq906_0 + 4096 * dh + 262144 * i0), (by omega), (by omega), (by omega), (by omega), (by omega), (by omega), hix946, uq899, Or.inl ⟨fq858_0, rfl, (by omega), (by omega), (by omega), (by omega), (by omega), (by omega), (by omega), (by dsimp only; omega), (by dsimp only; omega), (by omega), (by omega)⟩⟩
            have hl948 : 1024 ≤ hq802.2.2.2.1 bt ∧ hq802.2.2.2.1 bt ≤ 1000000 := gJ.rowl (G := gGG) sS849.1 t811 rfl
            have hl949 : 1024 ≤ hq802.2.2.2.1 cq587_0 ∧ hq802.2.2.2.1 cq587_0 ≤ 1000000 := gJ.rowl (G := gGG) sS849.1 t815 rfl
            have hl950 : 1024 ≤ hq802.2.2.2.1 cq802_0 ∧ hq802.2.2.2.1 cq802_0 ≤ 1000000 := gJ.rowl (G := gGG) sS849.1 tcq802_0 rfl
            have G951 : gSg [71, 72, 73, 74, 75, 76, 77, 78, 79, 80, 81, 85, 91, 92, 93, 94, 95, 96, 97, 98, 99, 114, 200] [] [50006, 55008, 56000, 56001, 56002, 56003, 64999, 71005, 71006, 71007, 71008, 71009, 71010, 71011, 71012, 71013, 71014, 72999, 73999, 74999, 76999, 77999, 78999, 79999, 80999, 81999, 85999, 91004, 91008, 92004, 92008, 93999, 94999, 95999, 96999, 97999, 98999, 99999, 114999] ty h tyq802 hq802 := gSg.ss G803 sS849 (by decide)
            exact gz_wk (lp854 _ tyq802 hq802 cq802_0 0 fq802_0 fq802_1 fq802_2 (Nat.lt_succ_self _) G951 uq847 (gSta.fr sS849.2 (by decide) hyst848) t804 t805 t809 t810 t813 t814 t817 t818 ecq802_0 tcq802_0 ⟨by omega, by omega⟩ ⟨by omega, by omega⟩ ⟨by omega, by omega⟩ ⟨by omega, by omega⟩ (by omega) (by omega) (by omega) (by omega) (by omega) (by omega) (by omega) (by omega) (by omega) s819 s820 s821 s822 s823 s824 s825 s826 s827 s828 s829 s830 s831 s832 efq802_0 efq802_1 efq802_2 pr833 pr834 pr835 pr836 pr838 pr839 pr840 pr841 pr842 pr843 pr844 pr845 pr846 hsw851 hok852) (gLw.s (gLw.s (gLw.s gLw.z)))
      · refine gy_icF rfl (by decide) (by decide) (by omega) (by omega) hc7 ?_
        have hl952 : 1024 ≤ h.2.2.2.1 bt ∧ h.2.2.2.1 bt ≤ 1000000 := gJ.rowl (G := gGG) hS.1 tbt rfl
        have hix953 : gIx ty x ld (h.2.2.2.1 bt : Int) (64 * dw + n0 + 4096 * dh + 262144 * i0) S h := ⟨pic, b0, b1, b2, dr, sk, bt, n0, c0, i0, dw, dh, ⟨tx, tdr, tsk, tbt⟩, ⟨ex2, ex3, ex4, ex0⟩, hpc, htc, ⟨en0, by omega, by omega⟩, ⟨eiv, by omega, by omega⟩, ⟨ec0, by omega, by omega⟩, ⟨by omega, by omega⟩, hrr, hrw, ⟨edw, by omega, by omega⟩, ⟨edh, by omega, by omega⟩, by omega, rfl, hxr, ⟨hsw, hc0⟩, htz⟩
        have hix954 : gIx ty x ld (h.2.2.2.1 bt : Int) (64 * dw + n0 + 4096 * dh + 262144 * i0) (eQ3 qu (iv / 262144) (iv / 64 % 64) (iv / 4096 % 64) (iv % 64) S) h := by rw [eQ3_n (by omega)]; exact hix953
        have G955 : gSg [71, 72, 73, 74, 75, 76, 77, 78, 79, 80, 81, 85, 91, 92, 93, 94, 95, 96, 97, 98, 99, 114, 200] [] [50006, 55008, 56000, 56001, 56002, 56003, 64999, 71005, 71006, 71007, 71008, 71009, 71010, 71011, 71012, 71013, 71014, 72999, 73999, 74999, 76999, 77999, 78999, 79999, 80999, 81999, 85999, 91004, 91008, 92004, 92008, 93999, 94999, 95999, 96999, 97999, 98999, 99999, 114999] ty h ty h := gSg.ss G0 hS (by decide)
        exact gz_end (I := .new 157) (len := 3) rfl (Or.inr (by decide)) ⟨ty, G955, ld, (h.2.2.2.1 bt : Int), (64 * dw + n0 + 4096 * dh + 262144 * i0), (by omega), (by omega), (by omega), (by omega), (by omega), (by omega), hix954, uq, Or.inr ⟨rfl, Or.inr (⟨rfl, (by omega), (by omega), (by omega)⟩), (by omega), (by dsimp only; omega), (by dsimp only; omega), (by omega), (by omega)⟩⟩
    · refine gy_icF rfl (by decide) (by decide) (by omega) (by omega) hc6 ?_
      have hl956 : 1024 ≤ h.2.2.2.1 bt ∧ h.2.2.2.1 bt ≤ 1000000 := gJ.rowl (G := gGG) hS.1 tbt rfl
      have hix957 : gIx ty x ld (h.2.2.2.1 bt : Int) (64 * dw + n0 + 4096 * dh + 262144 * i0) S h := ⟨pic, b0, b1, b2, dr, sk, bt, n0, c0, i0, dw, dh, ⟨tx, tdr, tsk, tbt⟩, ⟨ex2, ex3, ex4, ex0⟩, hpc, htc, ⟨en0, by omega, by omega⟩, ⟨eiv, by omega, by omega⟩, ⟨ec0, by omega, by omega⟩, ⟨by omega, by omega⟩, hrr, hrw, ⟨edw, by omega, by omega⟩, ⟨edh, by omega, by omega⟩, by omega, rfl, hxr, ⟨hsw, hc0⟩, htz⟩
      have hix958 : gIx ty x ld (h.2.2.2.1 bt : Int) (64 * dw + n0 + 4096 * dh + 262144 * i0) (eQ3 qu (iv / 262144) (iv / 64 % 64) (iv / 4096 % 64) (iv % 64) S) h := by rw [eQ3_n (by omega)]; exact hix957
      have G959 : gSg [71, 72, 73, 74, 75, 76, 77, 78, 79, 80, 81, 85, 91, 92, 93, 94, 95, 96, 97, 98, 99, 114, 200] [] [50006, 55008, 56000, 56001, 56002, 56003, 64999, 71005, 71006, 71007, 71008, 71009, 71010, 71011, 71012, 71013, 71014, 72999, 73999, 74999, 76999, 77999, 78999, 79999, 80999, 81999, 85999, 91004, 91008, 92004, 92008, 93999, 94999, 95999, 96999, 97999, 98999, 99999, 114999] ty h ty h := gSg.ss G0 hS (by decide)
      exact gz_end (I := .new 134) (len := 3) rfl (Or.inr (by decide)) ⟨ty, G959, ld, (h.2.2.2.1 bt : Int), (64 * dw + n0 + 4096 * dh + 262144 * i0), (by omega), (by omega), (by omega), (by omega), (by omega), (by omega), hix958, uq, Or.inr ⟨rfl, Or.inl ⟨rfl, (by omega)⟩, (by omega), (by dsimp only; omega), (by dsimp only; omega), (by omega), (by omega)⟩⟩
