/-! ===== stretches of the law (by program) ===== -/
set_option maxRecDepth 20000 in
set_option maxHeartbeats 4000000 in
theorem sg_all_take (d : Nat) {ty : Nat → Nat} {h : gH} {Ln i : Int} {sc : Nat → Int} {x m o : Nat} (hJ : gJ rT 1027 ty h) (uq : gUq ty) (hyst : gSta ty h) (scr : gScr ty Ln sc h) (tx : ty x = 50) (tm : ty m = 1) (to : ty o = 90) (ri : 0 ≤ i ∧ i + 4 ≤ Ln) {S : gSS} (ld : Int) (rld : 0 ≤ ld ∧ ld ≤ 192) (lb : Int) (rlb : 1024 ≤ lb ∧ lb ≤ 1000000) (iv : Int) (riv : 0 ≤ iv ∧ iv ≤ 26476544) (hyix : gIx ty x ld lb iv S h) (hyim : gIm ty m iv S h) : gz gPP gGG gcn (d + 2) (gtLlaw [566]) 553 [some (.ref 2), some (.ref x), some (.ref m), some (.ref o), some (.int (zi i)), none, none, none] [] h (fun q L9 => ∃ ty9 : Nat → Nat, gSg [] [] [1000, 1001, 2999, 51001, 52999] ty h ty9 q.2.2 ∧ ∃ ld1 lb1 iv1 : Int, 0 ≤ ld1 ∧ ld1 ≤ 192 ∧ 1024 ≤ lb1 ∧ lb1 ≤ 1000000 ∧ 0 ≤ iv1 ∧ iv1 ≤ 26476544 ∧ (gIx ty9 x ld1 lb1 iv1 S q.2.2) ∧ (gIm ty9 m iv S q.2.2) ∧ (iv1 = iv) ∧ (1024 * (((q.2.2.1 : Int) - h.1) - 31 - 2 * (ld1 - ld)) ≤ lb1 - lb) ∧ (((q.2.2.2.1 : Int) - h.2.1) ≤ 4303 + 12480 * (ld1 - ld) + 2 * (lb1 - lb)) ∧ (ld ≤ ld1) ∧ (lb ≤ lb1) ∧ gUq ty9 ∧ q.1 = 566 ∧ q.2.1 = [] ∧ gLw [some (.ref 2), some (.ref x), some (.ref m), some (.ref o), some (.int (zi i)), none, none, none] L9) := by
  have hln := scr.2.2.2.2.1
  have hS : gSs rT 1027 ty [1000, 1001, 2999, 51001, 52999] h h := gSs.rf hJ
  have G0 : gSg [] [] [1000, 1001, 2999, 51001, 52999] ty h ty h := gSg.rf hJ (fun x hx => by cases hx)
  refine gz_s 1 (pc' := 554) (L' := [some (.ref 2), some (.ref x), some (.ref m), some (.ref o), some (.int (zi i)), none, none, none]) (S' := [.ref x]) rfl ?_
  refine gz_call rfl (by decide) rfl (by decide) (by decide) (gcal_of rfl rfl rfl (Nat.le_of_ble_eq_true rfl) (gJ.recv (G := gGG) hS.1 tx rfl rfl)) (cl_DctFilter_take _ hS.1 x tx S ld (by omega) lb (by omega) iv (by omega) uq hyix) (fun q1 _ wq1 => ?_)
  obtain ⟨pq1, oq1, hq1⟩ := q1
  obtain ⟨tyq1, xq1, zq1, xq1_0, xq1_1, xq1_2, gq1, aq1, bq1, axq1_0, bxq1_0, axq1_1, bxq1_1, axq1_2, bxq1_2, uq1_0, uq1_1, uq1_2, uq1_3, uq1_4, uq1_5, yq1_0⟩ := wq1
  dsimp only at uq1_2 uq1_3
  refine ⟨_, gq1, ?_⟩
  show gz gPP gGG gcn _ _ 557 [some (.ref 2), some (.ref x), some (.ref m), some (.ref o), some (.int (zi i)), none, none, none] [.int (zi zq1)] hq1 _
  have G2 : gSg [] [] [1000, 1001, 2999, 51001, 52999] ty h tyq1 hq1 := gSg.tr (gSg.ss G0 hS (by decide)) xq1 (by decide) (by decide) (fun x hx => by cases hx)
  have t3 : tyq1 x = 50 := gSg.typ xq1 hS.1 tx rfl
  have t4 : tyq1 m = 1 := gSg.typ xq1 hS.1 tm rfl
  have t5 : tyq1 o = 90 := gSg.typ xq1 hS.1 to rfl
  have pr6 := gIm.gr xq1 hS.1 (by decide) (by decide) hyim
  have uq7 := gSg.uq xq1 uq (by decide)
  have scr8 := gScr.gr xq1 (by decide) (fun x hx => by cases hx) (gScr.fr hS.2 (by decide) scr)
  have hyst9 := gSta.gr xq1 (by decide) (fun x hx => by cases hx) (gSta.fr hS.2 (by decide) hyst)
  have sS10 : gSs rT 1027 tyq1 [1000, 1001, 2999, 51001, 52999] hq1 hq1 := gSs.rf xq1.1
  obtain ⟨ip, wi, hh, wd, hg, bs, nm0, cw, ch, i0m, wr0, _, ⟨eip, rip⟩, ⟨ewi, rwi⟩, ⟨ehh, rhh⟩, ⟨ewd, rwd⟩, ⟨ehg, rhg⟩, ⟨ebs, rbs⟩, hpi, ⟨enm0, rnm0⟩, hts, ⟨ecw, rcw⟩, ⟨ech, rch⟩, hcc, ⟨eivm, rivm⟩, ⟨ewr0, rwr0⟩, hcdm, hmw, hzz9, ⟨hso, hwr⟩, htzm⟩ := pr6
  have hmcw : iv / 64 % 64 = cw := by omega
  have hmch : iv / 4096 % 64 = ch := by omega
  have hmn0 : iv % 64 = nm0 := by omega
  have hmi0 : iv / 262144 = i0m := by omega
  refine gz_s 1 (pc' := 558) (L' := [some (.ref 2), some (.ref x), some (.ref m), some (.ref o), some (.int (zi i)), none, none, none]) (S' := [.ref m, .int (zi zq1)]) rfl ?_
  refine gz_call rfl (by decide) rfl (by decide) (by decide) (gcal_of rfl rfl rfl (Nat.le_of_ble_eq_true rfl) (gJ.recv (G := gGG) sS10.1 t4 rfl rfl)) (mm_take2 _ sS10.1 m t4 wr0 ewr0 (by omega)) (fun q11 _ wq11 => ?_)
  obtain ⟨pq11, oq11, hq11⟩ := q11
  obtain ⟨xq11, zq11, gq11, aq11, bq11, uq11_0⟩ := wq11
  refine ⟨_, gq11, ?_⟩
  show gz gPP gGG gcn _ _ 561 [some (.ref 2), some (.ref x), some (.ref m), some (.ref o), some (.int (zi i)), none, none, none] [.int (zi zq11), .int (zi zq1)] hq11 _
  have sq11 : gSs rT 1027 tyq1 [1000, 1001, 2999, 51001, 52999] hq1 hq11 := gSs.tr sS10 xq11 (by decide)
  have s12 := (xq11.2.2.2.2.2 m 16 (by rw [t4]; decide)).trans eip
  have s13 := (xq11.2.2.2.2.2 m 18 (by rw [t4]; decide)).trans ewi
  have s14 := (xq11.2.2.2.2.2 m 19 (by rw [t4]; decide)).trans ehh
  have s15 := (xq11.2.2.2.2.2 m 21 (by rw [t4]; decide)).trans ewd
  have s16 := (xq11.2.2.2.2.2 m 22 (by rw [t4]; decide)).trans ehg
  have s17 := (xq11.2.2.2.2.2 m 20 (by rw [t4]; decide)).trans ebs
  have s18 := (xq11.2.2.2.2.2 m 53 (by rw [t4]; decide)).trans enm0
  have s19 := (xq11.2.2.2.2.2 m 50 (by rw [t4]; decide)).trans ecw
  have s20 := (xq11.2.2.2.2.2 m 51 (by rw [t4]; decide)).trans ech
  have s21 := (xq11.2.2.2.2.2 m 59 (by rw [t4]; decide)).trans ewr0
  have s22 := (xq11.2.2.2.2.2 m 52 (by rw [t4]; decide)).trans eivm
  have pr23 := gIx.fr xq11.2 (by decide) yq1_0
  have pr24 := gMw.fr xq11.2 (by decide) hmw
  have pr25 := gRn.fr xq11.2 (by decide) hzz9
  have pr26 := gSO.fr xq11.2 (by decide) hso
  have pr27 := gPi.fr xq11.2 (by decide) hpi
  have pr28 := gTs.fr xq11.2 (by decide) hts
  by_cases hc29 : (zq1 : Int) = zq11
  · refine gy_icT (pc' := 566) rfl (by decide) (by decide) (by omega) (by omega) hc29 ?_
    have k30 := sq11.2.1
    have k30b := sq11.2.2.1
    have him31 : gIm tyq1 m iv S hq11 := ⟨ip, wi, hh, wd, hg, bs, nm0, cw, ch, i0m, wr0, t4, ⟨s12, by omega, by omega⟩, ⟨s13, by omega, by omega⟩, ⟨s14, by omega, by omega⟩, ⟨s15, by omega, by omega⟩, ⟨s16, by omega, by omega⟩, ⟨s17, by omega, by omega⟩, pr27, ⟨s18, by omega, by omega⟩, pr28, ⟨s19, by omega, by omega⟩, ⟨s20, by omega, by omega⟩, by omega, ⟨s22, by omega, by omega⟩, ⟨s21, by omega, by omega⟩, by omega, pr24, pr25, ⟨pr26, by omega⟩, htzm⟩
    have G32 : gSg [] [] [1000, 1001, 2999, 51001, 52999] ty h tyq1 hq11 := gSg.ss G2 sq11 (by decide)
    exact gz_end (I := .iinc 4 4) (len := 3) rfl (Or.inr (by decide)) ⟨tyq1, G32, xq1_0, xq1_1, xq1_2, (by omega), (by omega), (by omega), (by omega), (by omega), (by omega), pr23, him31, (by omega), (by dsimp only; omega), (by dsimp only; omega), (by omega), (by omega), uq7, rfl, rfl, (gLw.s (gLw.s (gLw.s (gLw.s (gLw.s (gLw.n (gLw.n (gLw.n gLw.z))))))))⟩
  · refine gy_icF rfl (by decide) (by decide) (by omega) (by omega) hc29 ?_
    exact False.elim (by omega)
