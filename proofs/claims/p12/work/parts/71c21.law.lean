/-! ===== stretches of the law (by program) ===== -/
set_option maxRecDepth 20000 in
set_option maxHeartbeats 4000000 in
theorem sg_of_encode (d : Nat) {ty : Nat → Nat} {h : gH} {Ln i : Int} {sc : Nat → Int} {x m o : Nat} (hJ : gJ rT 1027 ty h) (uq : gUq ty) (hyst : gSta ty h) (scr : gScr ty Ln sc h) (tx : ty x = 50) (tm : ty m = 1) (to : ty o = 90) (ri : 0 ≤ i ∧ i + 4 ≤ Ln) {S : gSS} (iv : Int) (riv : 0 ≤ iv ∧ iv ≤ 26476544) (iv1 : Int) (riv1 : 0 ≤ iv1 ∧ iv1 ≤ 26476544) (k : Int) (rk : 0 ≤ k ∧ k ≤ 2) (pp0 : ((1 ≤ sc (i + 1).toNat ∧ sc (i + 1).toNat ≤ 100 ∧ 1 ≤ iv / 64 % 64) → iv1 = iv - iv % 64) ∧ (¬ (1 ≤ sc (i + 1).toNat ∧ sc (i + 1).toNat ≤ 100 ∧ 1 ≤ iv / 64 % 64) → iv1 = iv)) (pp1 : (k = 0 ∧ (1 ≤ sc (i + 1).toNat) ∧ (sc (i + 1).toNat ≤ 100) ∧ (1 ≤ iv / 64 % 64)) ∨ (k = 1 ∧ (¬ (1 ≤ sc (i + 1).toNat ∧ sc (i + 1).toNat ≤ 100))) ∨ (k = 2 ∧ (1 ≤ sc (i + 1).toNat) ∧ (sc (i + 1).toNat ≤ 100) ∧ (iv / 64 % 64 = 0))) (pp2 : gIf (k = 0) (h.2.2.2.2 o 0 = .long (zl ((eNn (sc (i + 1).toNat) (iv / 262144) (iv / 64 % 64) (iv / 4096 % 64) (iv % 64) S).1)))) (hyim : gIm ty m iv S h) : gz gPP gGG gcn (d + 7) (gtLlaw [594]) 508 [some (.ref 2), some (.ref x), some (.ref m), some (.ref o), some (.int (zi i)), none, none, none] [.int (zi k)] h (fun q L9 => gSs rT 1027 ty [1000, 1053, 1059, 1061, 1062, 1064, 1067, 1074, 1075, 31999, 32999, 33999, 34999, 36999, 37999, 38999, 39999, 40999, 41999, 42999] h q.2.2 ∧ (gIm ty m iv1 (eQ3 (sc (i + 1).toNat) (iv / 262144) (iv / 64 % 64) (iv / 4096 % 64) (iv % 64) S) q.2.2) ∧ q.1 = 594 ∧ q.2.1 = [] ∧ gLw [some (.ref 2), some (.ref x), some (.ref m), some (.ref o), some (.int (zi i)), none, none, none] L9) := by
  have hln := scr.2.2.2.2.1
  have hS : gSs rT 1027 ty [1000, 1053, 1059, 1061, 1062, 1064, 1067, 1074, 1075, 31999, 32999, 33999, 34999, 36999, 37999, 38999, 39999, 40999, 41999, 42999] h h := gSs.rf hJ
  obtain ⟨ip, wi, hh, wd, hg, bs, nm0, cw, ch, i0m, wr0, _, ⟨eip, rip⟩, ⟨ewi, rwi⟩, ⟨ehh, rhh⟩, ⟨ewd, rwd⟩, ⟨ehg, rhg⟩, ⟨ebs, rbs⟩, hpi, ⟨enm0, rnm0⟩, hts, ⟨ecw, rcw⟩, ⟨ech, rch⟩, hcc, ⟨eivm, rivm⟩, ⟨ewr0, rwr0⟩, hcdm, hmw, hzz9, ⟨hso, hwr⟩, htzm⟩ := hyim
  have hmcw : iv / 64 % 64 = cw := by omega
  have hmch : iv / 4096 % 64 = ch := by omega
  have hmn0 : iv % 64 = nm0 := by omega
  have hmi0 : iv / 262144 = i0m := by omega
  obtain ⟨xr1, xr2, xr3, xr4, xr5, xr6, xr7⟩ := hmw
  refine gy_s 6 (pc' := 516) (L' := [some (.ref 2), some (.ref x), some (.ref m), some (.ref o), some (.int (zi i)), some (.int (zi k)), none, none]) (S' := [.int ((zi i) + (zi 1)), .ref 2, .ref m]) (L2 := [some (.ref 2), some (.ref x), some (.ref m), some (.ref o), some (.int (zi i)), some (.int (zi k)), none, none]) (S2 := [.int (zi (i + 1)), .ref 2, .ref m]) rfl (by simp only [zi_add, zi_sub, zi_mul, zi_neg, zi_and1, zi_and7, zi_and15, zi_and31, zi_and255]) (by simp only [zi_add, zi_sub, zi_mul, zi_neg, zi_and1, zi_and7, zi_and15, zi_and31, zi_and255]) ?_
  refine gs_st2 rfl (by decide) rfl (gScr.fr hS.2 (by decide) scr) (by omega) (by omega) (fun rs8 => ?_)
  refine gz_call rfl (by decide) rfl (by decide) (by decide) (gcal_of rfl rfl rfl (Nat.le_of_ble_eq_true rfl) (gJ.recv (G := gGG) hS.1 tm rfl rfl)) (mw_encode _ hS.1 m tm (sc (i + 1).toNat) (by omega) nm0 enm0 (by omega) cw ecw (by omega) ch ech (by omega) i0m eivm (by omega) wr0 ewr0 (by omega) S.1.2.1 S.1.1 S.1.2.2.1 S.1.2.2.2.1 S.1.2.2.2.2.1 S.1.2.2.2.2.2.1 S.1.2.2.2.2.2.2 S.2 (by omega) (by omega) uq hts hso xr2 xr1 hzz9 xr3 xr4 xr5 xr6 xr7 htzm) (fun q9 _ wq9 => ?_)
  obtain ⟨pq9, oq9, hq9⟩ := q9
  obtain ⟨xq9, zq9, fq9_0, fq9_1, fq9_2, gq9, aq9, bq9, efq9_0, afq9_0, bfq9_0, efq9_1, afq9_1, bfq9_1, efq9_2, afq9_2, bfq9_2, uq9_0, uq9_1, uq9_2, uq9_3, uq9_4, yq9_0, yq9_1, yq9_2⟩ := wq9
  refine ⟨_, gq9, ?_⟩
  show gz gPP gGG gcn _ _ 520 [some (.ref 2), some (.ref x), some (.ref m), some (.ref o), some (.int (zi i)), some (.int (zi k)), none, none] [.int (zi zq9)] hq9 _
  have sq9 : gSs rT 1027 ty [1000, 1053, 1059, 1061, 1062, 1064, 1067, 1074, 1075, 31999, 32999, 33999, 34999, 36999, 37999, 38999, 39999, 40999, 41999, 42999] h hq9 := gSs.tr hS xq9 (by decide)
  have s10 := (xq9.2.2.2.2.2 m 16 (by rw [tm]; decide)).trans eip
  have s11 := (xq9.2.2.2.2.2 m 18 (by rw [tm]; decide)).trans ewi
  have s12 := (xq9.2.2.2.2.2 m 19 (by rw [tm]; decide)).trans ehh
  have s13 := (xq9.2.2.2.2.2 m 21 (by rw [tm]; decide)).trans ewd
  have s14 := (xq9.2.2.2.2.2 m 22 (by rw [tm]; decide)).trans ehg
  have s15 := (xq9.2.2.2.2.2 m 20 (by rw [tm]; decide)).trans ebs
  have s16 := (xq9.2.2.2.2.2 m 50 (by rw [tm]; decide)).trans ecw
  have s17 := (xq9.2.2.2.2.2 m 51 (by rw [tm]; decide)).trans ech
  have s18 := (xq9.2.2.2.2.2 m 52 (by rw [tm]; decide)).trans eivm
  have pr19 := gRn.fr xq9.2 (by decide) hzz9
  have pr20 := gPi.fr xq9.2 (by decide) hpi
  have pr21 := gRn.fr xq9.2 (by decide) xr1
  have pr22 := gRn.fr xq9.2 (by decide) xr2
  have pr23 := gRn.fr xq9.2 (by decide) xr3
  have pr24 := gRn.fr xq9.2 (by decide) xr4
  have pr25 := gRn.fr xq9.2 (by decide) xr5
  have pr26 := gRn.fr xq9.2 (by decide) xr6
  refine gz_s 2 (pc' := 523) (L' := [some (.ref 2), some (.ref x), some (.ref m), some (.ref o), some (.int (zi i)), some (.int (zi k)), some (.int (zi zq9)), none]) (S' := [.ref m]) rfl ?_
  refine gz_call rfl (by decide) rfl (by decide) (by decide) (gcal_of rfl rfl rfl (Nat.le_of_ble_eq_true rfl) (gJ.recv (G := gGG) sq9.1 tm rfl rfl)) (mm_thrown2 _ sq9.1 m tm fq9_2 efq9_2 (by omega)) (fun q27 _ wq27 => ?_)
  obtain ⟨pq27, oq27, hq27⟩ := q27
  obtain ⟨xq27, zq27, gq27, aq27, bq27, uq27_0⟩ := wq27
  refine ⟨_, gq27, ?_⟩
  show gz gPP gGG gcn _ _ 526 [some (.ref 2), some (.ref x), some (.ref m), some (.ref o), some (.int (zi i)), some (.int (zi k)), some (.int (zi zq9)), none] [.int (zi zq27)] hq27 _
  have sq27 : gSs rT 1027 ty [1000, 1053, 1059, 1061, 1062, 1064, 1067, 1074, 1075, 31999, 32999, 33999, 34999, 36999, 37999, 38999, 39999, 40999, 41999, 42999] h hq27 := gSs.tr sq9 xq27 (by decide)
  have s28 := (xq27.2.2.2.2.2 m 16 (by rw [tm]; decide)).trans s10
  have s29 := (xq27.2.2.2.2.2 m 18 (by rw [tm]; decide)).trans s11
  have s30 := (xq27.2.2.2.2.2 m 19 (by rw [tm]; decide)).trans s12
  have s31 := (xq27.2.2.2.2.2 m 21 (by rw [tm]; decide)).trans s13
  have s32 := (xq27.2.2.2.2.2 m 22 (by rw [tm]; decide)).trans s14
  have s33 := (xq27.2.2.2.2.2 m 20 (by rw [tm]; decide)).trans s15
  have s34 := (xq27.2.2.2.2.2 m 50 (by rw [tm]; decide)).trans s16
  have s35 := (xq27.2.2.2.2.2 m 51 (by rw [tm]; decide)).trans s17
  have s36 := (xq27.2.2.2.2.2 m 52 (by rw [tm]; decide)).trans s18
  have s37 := (xq27.2.2.2.2.2 m 53 (by rw [tm]; decide)).trans efq9_0
  have s38 := (xq27.2.2.2.2.2 m 59 (by rw [tm]; decide)).trans efq9_1
  have s39 := (xq27.2.2.2.2.2 m 0 (by rw [tm]; decide)).trans efq9_2
  have pr40 := gRn.fr xq27.2 (by decide) pr19
  have pr41 := gPi.fr xq27.2 (by decide) pr20
  have pr42 := gRn.fr xq27.2 (by decide) pr21
  have pr43 := gRn.fr xq27.2 (by decide) pr22
  have pr44 := gRn.fr xq27.2 (by decide) pr23
  have pr45 := gRn.fr xq27.2 (by decide) pr24
  have pr46 := gRn.fr xq27.2 (by decide) pr25
  have pr47 := gRn.fr xq27.2 (by decide) pr26
  have pr48 := gTs.fr xq27.2 (by decide) yq9_0
  have pr49 := gSO.fr xq27.2 (by decide) yq9_1
  have pr50 := gRn.fr xq27.2 (by decide) yq9_2
  refine gz_s 1 (pc' := 528) (L' := [some (.ref 2), some (.ref x), some (.ref m), some (.ref o), some (.int (zi i)), some (.int (zi k)), some (.int (zi zq9)), none]) (S' := [.int (zi k), .int (zi zq27)]) rfl ?_
  by_cases hc51 : (zq27 : Int) = k
  · refine gy_icT (pc' := 533) rfl (by decide) (by decide) (by omega) (by omega) hc51 ?_
    refine gz_s 1 (pc' := 535) (L' := [some (.ref 2), some (.ref x), some (.ref m), some (.ref o), some (.int (zi i)), some (.int (zi k)), some (.int (zi zq9)), none]) (S' := [.int (zi k)]) rfl ?_
    by_cases hc52 : ¬ (k : Int) = 0
    · refine gy_ifT (pc' := 550) rfl (by decide) (by decide) (by omega) hc52 ?_
      refine gz_s 1 (pc' := 594) (L' := [some (.ref 2), some (.ref x), some (.ref m), some (.ref o), some (.int (zi i)), some (.int (zi k)), some (.int (zi zq9)), none]) (S' := []) rfl ?_
      have hmw53 : gMw ty (eQ3 (sc (i + 1).toNat) i0m cw ch nm0 S) hq27 ∧ (eQ3 (sc (i + 1).toNat) i0m cw ch nm0 S).2 = eEx (sc (i + 1).toNat) cw (eNn (sc (i + 1).toNat) i0m cw ch nm0 S) S.2 ∧ eTz fq9_0 (eQ3 (sc (i + 1).toNat) i0m cw ch nm0 S) := by
        by_cases k9 : 1 ≤ sc (i + 1).toNat ∧ sc (i + 1).toNat ≤ 100 ∧ ¬ cw = 0
        · rw [eQ3_y k9, eEx_y k9, show fq9_0 = 0 by omega]
          exact ⟨⟨pr42, pr43, pr44, pr45, pr46, pr47, (by have e9 := pr50; rw [eCm_y k9] at e9; exact e9)⟩, rfl, eTz.zero⟩
        · rw [eQ3_n k9, eEx_n k9, show fq9_0 = nm0 by omega]
          exact ⟨⟨pr42, pr43, pr44, pr45, pr46, pr47, (by have e9 := pr50; rw [eCm_n k9] at e9; exact e9)⟩, rfl, htzm⟩
      have hmw53s : gSO ty (eQ3 (sc (i + 1).toNat) i0m cw ch nm0 S).2 hq27 := by rw [hmw53.2.1]; exact pr49
      have hmw53w := congrArg Prod.fst hmw53.2.1
      have him54 : gIm ty m iv1 (eQ3 (sc (i + 1).toNat) i0m cw ch nm0 S) hq27 := ⟨ip, wi, hh, wd, hg, bs, fq9_0, cw, ch, i0m, fq9_1, tm, ⟨s28, by omega, by omega⟩, ⟨s29, by omega, by omega⟩, ⟨s30, by omega, by omega⟩, ⟨s31, by omega, by omega⟩, ⟨s32, by omega, by omega⟩, ⟨s33, by omega, by omega⟩, pr41, ⟨s37, by omega, by omega⟩, pr48, ⟨s34, by omega, by omega⟩, ⟨s35, by omega, by omega⟩, by omega, ⟨s36, by omega, by omega⟩, ⟨s38, by omega, by omega⟩, by omega, hmw53.1, pr40, ⟨hmw53s, by rw [hmw53w]; exact uq9_4⟩, hmw53.2.2⟩
      have him55 : gIm ty m iv1 (eQ3 (sc (i + 1).toNat) (iv / 262144) (iv / 64 % 64) (iv / 4096 % 64) (iv % 64) S) hq27 := by rw [hmi0, hmcw, hmch, hmn0]; exact him54
      exact gz_end (I := .iinc 4 4) (len := 3) rfl (Or.inr (by decide)) ⟨sq27, him55, rfl, rfl, (gLw.s (gLw.s (gLw.s (gLw.s (gLw.s (gLw.n (gLw.n (gLw.n gLw.z))))))))⟩
    · refine gy_ifF rfl (by decide) (by decide) (by omega) hc52 ?_
      refine gz_s 2 (pc' := 540) (L' := [some (.ref 2), some (.ref x), some (.ref m), some (.ref o), some (.int (zi i)), some (.int (zi k)), some (.int (zi zq9)), none]) (S' := [.int (zi 0), .ref o]) rfl ?_
      have hl56 : 1 ≤ hq27.2.2.2.1 o ∧ hq27.2.2.2.1 o ≤ 1 := gJ.rowl (G := gGG) sq27.1 to rfl
      refine gs_lald rfl (by decide) sq27.1 to rfl rfl rfl (by decide) (fun _ => rfl) (by omega) (by omega) (fun z57 ez57 az57 bz57 => ?_)
      have hw8 : fq9_1 = (eNn (sc (i + 1).toNat) i0m cw ch nm0 S).1 := by have h9 := uq9_4; rw [eEx_y ⟨by omega, by omega, by omega⟩] at h9; exact h9
      have hov : (eNn (sc (i + 1).toNat) (iv / 262144) (iv / 64 % 64) (iv / 4096 % 64) (iv % 64) S).1 = (eNn (sc (i + 1).toNat) i0m cw ch nm0 S).1 := by rw [hmi0, hmcw, hmch, hmn0]
      have hz9 : z57 = (eNn (sc (i + 1).toNat) (iv / 262144) (iv / 64 % 64) (iv / 4096 % 64) (iv % 64) S).1 := gv_l ez57 ((sq27.2.2.2.2.2 o 0 (by rw [to]; decide)).trans (pp2 (by omega))) ⟨by omega, by omega⟩ ⟨by omega, by omega⟩
      refine gz_s 1 (pc' := 543) (L' := [some (.ref 2), some (.ref x), some (.ref m), some (.ref o), some (.int (zi i)), some (.int (zi k)), some (.int (zi zq9)), none]) (S' := [.int (zi zq9), .long (zl z57)]) rfl ?_
      refine gy_i2l rfl (by decide) (by omega) ?_
      refine gy_lcmp rfl (by decide) (by omega) (by omega) (fun z58 az58 bz58 cz58 => ?_)
      by_cases hc59 : (z58 : Int) = 0
      · refine gy_ifT (pc' := 550) rfl (by decide) (by decide) (by omega) hc59 ?_
        refine gz_s 1 (pc' := 594) (L' := [some (.ref 2), some (.ref x), some (.ref m), some (.ref o), some (.int (zi i)), some (.int (zi k)), some (.int (zi zq9)), none]) (S' := []) rfl ?_
        have hmw60 : gMw ty (eQ3 (sc (i + 1).toNat) i0m cw ch nm0 S) hq27 ∧ (eQ3 (sc (i + 1).toNat) i0m cw ch nm0 S).2 = eEx (sc (i + 1).toNat) cw (eNn (sc (i + 1).toNat) i0m cw ch nm0 S) S.2 ∧ eTz fq9_0 (eQ3 (sc (i + 1).toNat) i0m cw ch nm0 S) := by
          by_cases k9 : 1 ≤ sc (i + 1).toNat ∧ sc (i + 1).toNat ≤ 100 ∧ ¬ cw = 0
          · rw [eQ3_y k9, eEx_y k9, show fq9_0 = 0 by omega]
            exact ⟨⟨pr42, pr43, pr44, pr45, pr46, pr47, (by have e9 := pr50; rw [eCm_y k9] at e9; exact e9)⟩, rfl, eTz.zero⟩
          · rw [eQ3_n k9, eEx_n k9, show fq9_0 = nm0 by omega]
            exact ⟨⟨pr42, pr43, pr44, pr45, pr46, pr47, (by have e9 := pr50; rw [eCm_n k9] at e9; exact e9)⟩, rfl, htzm⟩
        have hmw60s : gSO ty (eQ3 (sc (i + 1).toNat) i0m cw ch nm0 S).2 hq27 := by rw [hmw60.2.1]; exact pr49
        have hmw60w := congrArg Prod.fst hmw60.2.1
        have him61 : gIm ty m iv1 (eQ3 (sc (i + 1).toNat) i0m cw ch nm0 S) hq27 := ⟨ip, wi, hh, wd, hg, bs, fq9_0, cw, ch, i0m, fq9_1, tm, ⟨s28, by omega, by omega⟩, ⟨s29, by omega, by omega⟩, ⟨s30, by omega, by omega⟩, ⟨s31, by omega, by omega⟩, ⟨s32, by omega, by omega⟩, ⟨s33, by omega, by omega⟩, pr41, ⟨s37, by omega, by omega⟩, pr48, ⟨s34, by omega, by omega⟩, ⟨s35, by omega, by omega⟩, by omega, ⟨s36, by omega, by omega⟩, ⟨s38, by omega, by omega⟩, by omega, hmw60.1, pr40, ⟨hmw60s, by rw [hmw60w]; exact uq9_4⟩, hmw60.2.2⟩
        have him62 : gIm ty m iv1 (eQ3 (sc (i + 1).toNat) (iv / 262144) (iv / 64 % 64) (iv / 4096 % 64) (iv % 64) S) hq27 := by rw [hmi0, hmcw, hmch, hmn0]; exact him61
        exact gz_end (I := .iinc 4 4) (len := 3) rfl (Or.inr (by decide)) ⟨sq27, him62, rfl, rfl, (gLw.s (gLw.s (gLw.s (gLw.s (gLw.s (gLw.n (gLw.n (gLw.n gLw.z))))))))⟩
      · refine gy_ifF rfl (by decide) (by decide) (by omega) hc59 ?_
        exact False.elim (by omega)
  · refine gy_icF rfl (by decide) (by decide) (by omega) (by omega) hc51 ?_
    exact False.elim (by omega)
