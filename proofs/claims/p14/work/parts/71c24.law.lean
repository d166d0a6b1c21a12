/-! ===== stretches of the law (by program) ===== -/
set_option maxRecDepth 20000 in
set_option maxHeartbeats 4000000 in
theorem sg_all_scan (d : Nat) {ty : Nat → Nat} {h : gH} {Ln i : Int} {sc : Nat → Int} {x m o : Nat} (hJ : gJ rT 1027 ty h) (uq : gUq ty) (hyst : gSta ty h) (scr : gScr ty Ln sc h) (tx : ty x = 50) (tm : ty m = 1) (to : ty o = 90) (ri : 0 ≤ i ∧ i + 4 ≤ Ln) {S : gSS} (ld : Int) (rld : 0 ≤ ld ∧ ld ≤ 192) (lb : Int) (rlb : 1024 ≤ lb ∧ lb ≤ 1000000) (iv : Int) (riv : 0 ≤ iv ∧ iv ≤ 26476544) (hyix : gIx ty x ld lb iv S h) (hyim : gIm ty m iv S h) : gz gPP gGG gcn (d + 4) (gtLlaw [566]) 420 [some (.ref 2), some (.ref x), some (.ref m), some (.ref o), some (.int (zi i)), none, none, none] [] h (fun q L9 => ∃ ty9 : Nat → Nat, gSg [] [] [1000, 1053, 27999, 28999, 29999, 30999, 31999, 55008, 60999, 61999, 62999, 63999, 64999] ty h ty9 q.2.2 ∧ ∃ ld1 lb1 iv1 : Int, 0 ≤ ld1 ∧ ld1 ≤ 192 ∧ 1024 ≤ lb1 ∧ lb1 ≤ 1000000 ∧ 0 ≤ iv1 ∧ iv1 ≤ 26476544 ∧ (gIx ty9 x ld1 lb1 iv1 (eQ2 (iv % 64) S (sc (i + 1).toNat) (sc (i + 2).toNat) (sc (i + 3).toNat)) q.2.2) ∧ (gIm ty9 m iv1 (eQ2 (iv % 64) S (sc (i + 1).toNat) (sc (i + 2).toNat) (sc (i + 3).toNat)) q.2.2) ∧ (1024 * (((q.2.2.1 : Int) - h.1) - 31 - 2 * (ld1 - ld)) ≤ lb1 - lb) ∧ (((q.2.2.2.1 : Int) - h.2.1) ≤ 4303 + 12480 * (ld1 - ld) + 2 * (lb1 - lb)) ∧ (ld ≤ ld1) ∧ (lb ≤ lb1) ∧ gUq ty9 ∧ q.1 = 566 ∧ q.2.1 = [] ∧ gLw [some (.ref 2), some (.ref x), some (.ref m), some (.ref o), some (.int (zi i)), none, none, none] L9) := by
  have hln := scr.2.2.2.2.1
  have hS : gSs rT 1027 ty [1000, 1053, 27999, 28999, 29999, 30999, 31999, 55008, 60999, 61999, 62999, 63999, 64999] h h := gSs.rf hJ
  have G0 : gSg [] [] [1000, 1053, 27999, 28999, 29999, 30999, 31999, 55008, 60999, 61999, 62999, 63999, 64999] ty h ty h := gSg.rf hJ (fun x hx => by cases hx)
  refine gy_s 5 (pc' := 426) (L' := [some (.ref 2), some (.ref x), some (.ref m), some (.ref o), some (.int (zi i)), none, none, none]) (S' := [.int ((zi i) + (zi 1)), .ref 2, .ref x]) (L2 := [some (.ref 2), some (.ref x), some (.ref m), some (.ref o), some (.int (zi i)), none, none, none]) (S2 := [.int (zi (i + 1)), .ref 2, .ref x]) rfl (by simp only [zi_add, zi_sub, zi_mul, zi_neg, zi_and1, zi_and7, zi_and15, zi_and31, zi_and255]) (by simp only [zi_add, zi_sub, zi_mul, zi_neg, zi_and1, zi_and7, zi_and15, zi_and31, zi_and255]) ?_
  refine gs_st2 rfl (by decide) rfl (gScr.fr hS.2 (by decide) scr) (by omega) (by omega) (fun rs1 => ?_)
  refine gy_s 4 (pc' := 432) (L' := [some (.ref 2), some (.ref x), some (.ref m), some (.ref o), some (.int (zi i)), none, none, none]) (S' := [.int ((zi i) + (zi 2)), .ref 2, .int (zi (sc (i + 1).toNat)), .ref x]) (L2 := [some (.ref 2), some (.ref x), some (.ref m), some (.ref o), some (.int (zi i)), none, none, none]) (S2 := [.int (zi (i + 2)), .ref 2, .int (zi (sc (i + 1).toNat)), .ref x]) rfl (by simp only [zi_add, zi_sub, zi_mul, zi_neg, zi_and1, zi_and7, zi_and15, zi_and31, zi_and255]) (by simp only [zi_add, zi_sub, zi_mul, zi_neg, zi_and1, zi_and7, zi_and15, zi_and31, zi_and255]) ?_
  refine gs_st2 rfl (by decide) rfl (gScr.fr hS.2 (by decide) scr) (by omega) (by omega) (fun rs2 => ?_)
  refine gy_s 4 (pc' := 438) (L' := [some (.ref 2), some (.ref x), some (.ref m), some (.ref o), some (.int (zi i)), none, none, none]) (S' := [.int ((zi i) + (zi 3)), .ref 2, .int (zi (sc (i + 2).toNat)), .int (zi (sc (i + 1).toNat)), .ref x]) (L2 := [some (.ref 2), some (.ref x), some (.ref m), some (.ref o), some (.int (zi i)), none, none, none]) (S2 := [.int (zi (i + 3)), .ref 2, .int (zi (sc (i + 2).toNat)), .int (zi (sc (i + 1).toNat)), .ref x]) rfl (by simp only [zi_add, zi_sub, zi_mul, zi_neg, zi_and1, zi_and7, zi_and15, zi_and31, zi_and255]) (by simp only [zi_add, zi_sub, zi_mul, zi_neg, zi_and1, zi_and7, zi_and15, zi_and31, zi_and255]) ?_
  refine gs_st2 rfl (by decide) rfl (gScr.fr hS.2 (by decide) scr) (by omega) (by omega) (fun rs3 => ?_)
  refine gz_call rfl (by decide) rfl (by decide) (by decide) (gcal_of rfl rfl rfl (Nat.le_of_ble_eq_true rfl) (gJ.recv (G := gGG) hS.1 tx rfl rfl)) (cl_DctFilter_scan _ hS.1 x tx (sc (i + 1).toNat) (by omega) (sc (i + 2).toNat) (by omega) (sc (i + 3).toNat) (by omega) S ld (by omega) lb (by omega) iv (by omega) uq hyix) (fun q4 _ wq4 => ?_)
  obtain ⟨pq4, oq4, hq4⟩ := q4
  obtain ⟨tyq4, xq4, zq4, xq4_0, xq4_1, xq4_2, gq4, aq4, bq4, axq4_0, bxq4_0, axq4_1, bxq4_1, axq4_2, bxq4_2, uq4_0, uq4_1, uq4_2, uq4_3, uq4_4, yq4_0, yq4_1⟩ := wq4
  dsimp only at uq4_1 uq4_2
  refine ⟨_, gq4, ?_⟩
  show gz gPP gGG gcn _ _ 442 [some (.ref 2), some (.ref x), some (.ref m), some (.ref o), some (.int (zi i)), none, none, none] [.int (zi zq4)] hq4 _
  have G5 : gSg [] [] [1000, 1053, 27999, 28999, 29999, 30999, 31999, 55008, 60999, 61999, 62999, 63999, 64999] ty h tyq4 hq4 := gSg.tr (gSg.ss G0 hS (by decide)) xq4 (by decide) (by decide) (fun x hx => by cases hx)
  have t6 : tyq4 x = 50 := gSg.typ xq4 hS.1 tx rfl
  have t7 : tyq4 m = 1 := gSg.typ xq4 hS.1 tm rfl
  have t8 : tyq4 o = 90 := gSg.typ xq4 hS.1 to rfl
  have pr9 := gIm.gr xq4 hS.1 (by decide) (by decide) hyim
  have uq10 := gSg.uq xq4 uq (by decide)
  have scr11 := gScr.gr xq4 (by decide) (fun x hx => by cases hx) (gScr.fr hS.2 (by decide) scr)
  have hyst12 := gSta.gr xq4 (by decide) (fun x hx => by cases hx) (gSta.fr hS.2 (by decide) hyst)
  have sS13 : gSs rT 1027 tyq4 [1000, 1053, 27999, 28999, 29999, 30999, 31999, 55008, 60999, 61999, 62999, 63999, 64999] hq4 hq4 := gSs.rf xq4.1
  refine gz_s 1 (pc' := 443) (L' := [some (.ref 2), some (.ref x), some (.ref m), some (.ref o), some (.int (zi i)), none, none, none]) (S' := []) rfl ?_
  obtain ⟨ip, wi, hh, wd, hg, bs, nm0, cw, ch, i0m, wr0, _, ⟨eip, rip⟩, ⟨ewi, rwi⟩, ⟨ehh, rhh⟩, ⟨ewd, rwd⟩, ⟨ehg, rhg⟩, ⟨ebs, rbs⟩, hpi, ⟨enm0, rnm0⟩, hts, ⟨ecw, rcw⟩, ⟨ech, rch⟩, hcc, ⟨eivm, rivm⟩, ⟨ewr0, rwr0⟩, hcdm, hmw, hzz9, ⟨hso, hwr⟩, htzm⟩ := pr9
  have hmcw : iv / 64 % 64 = cw := by omega
  have hmch : iv / 4096 % 64 = ch := by omega
  have hmn0 : iv % 64 = nm0 := by omega
  have hmi0 : iv / 262144 = i0m := by omega
  refine gy_s 5 (pc' := 449) (L' := [some (.ref 2), some (.ref x), some (.ref m), some (.ref o), some (.int (zi i)), none, none, none]) (S' := [.int ((zi i) + (zi 1)), .ref 2, .ref m]) (L2 := [some (.ref 2), some (.ref x), some (.ref m), some (.ref o), some (.int (zi i)), none, none, none]) (S2 := [.int (zi (i + 1)), .ref 2, .ref m]) rfl (by simp only [zi_add, zi_sub, zi_mul, zi_neg, zi_and1, zi_and7, zi_and15, zi_and31, zi_and255]) (by simp only [zi_add, zi_sub, zi_mul, zi_neg, zi_and1, zi_and7, zi_and15, zi_and31, zi_and255]) ?_
  refine gs_st2 rfl (by decide) rfl (gScr.fr sS13.2 (by decide) scr11) (by omega) (by omega) (fun rs14 => ?_)
  refine gy_s 4 (pc' := 455) (L' := [some (.ref 2), some (.ref x), some (.ref m), some (.ref o), some (.int (zi i)), none, none, none]) (S' := [.int ((zi i) + (zi 2)), .ref 2, .int (zi (sc (i + 1).toNat)), .ref m]) (L2 := [some (.ref 2), some (.ref x), some (.ref m), some (.ref o), some (.int (zi i)), none, none, none]) (S2 := [.int (zi (i + 2)), .ref 2, .int (zi (sc (i + 1).toNat)), .ref m]) rfl (by simp only [zi_add, zi_sub, zi_mul, zi_neg, zi_and1, zi_and7, zi_and15, zi_and31, zi_and255]) (by simp only [zi_add, zi_sub, zi_mul, zi_neg, zi_and1, zi_and7, zi_and15, zi_and31, zi_and255]) ?_
  refine gs_st2 rfl (by decide) rfl (gScr.fr sS13.2 (by decide) scr11) (by omega) (by omega) (fun rs15 => ?_)
  refine gy_s 4 (pc' := 461) (L' := [some (.ref 2), some (.ref x), some (.ref m), some (.ref o), some (.int (zi i)), none, none, none]) (S' := [.int ((zi i) + (zi 3)), .ref 2, .int (zi (sc (i + 2).toNat)), .int (zi (sc (i + 1).toNat)), .ref m]) (L2 := [some (.ref 2), some (.ref x), some (.ref m), some (.ref o), some (.int (zi i)), none, none, none]) (S2 := [.int (zi (i + 3)), .ref 2, .int (zi (sc (i + 2).toNat)), .int (zi (sc (i + 1).toNat)), .ref m]) rfl (by simp only [zi_add, zi_sub, zi_mul, zi_neg, zi_and1, zi_and7, zi_and15, zi_and31, zi_and255]) (by simp only [zi_add, zi_sub, zi_mul, zi_neg, zi_and1, zi_and7, zi_and15, zi_and31, zi_and255]) ?_
  refine gs_st2 rfl (by decide) rfl (gScr.fr sS13.2 (by decide) scr11) (by omega) (by omega) (fun rs16 => ?_)
  refine gz_call rfl (by decide) rfl (by decide) (by decide) (gcal_of rfl rfl rfl (Nat.le_of_ble_eq_true rfl) (gJ.recv (G := gGG) sS13.1 t7 rfl rfl)) (mm_scan3 _ sS13.1 m t7 (sc (i + 1).toNat) (by omega) (sc (i + 2).toNat) (by omega) (sc (i + 3).toNat) (by omega) nm0 enm0 (by omega) S uq10 hts hmw) (fun q17 _ wq17 => ?_)
  obtain ⟨pq17, oq17, hq17⟩ := q17
  obtain ⟨xq17, zq17, fq17_0, gq17, aq17, bq17, efq17_0, afq17_0, bfq17_0, yq17_0, yq17_1, yq17_2⟩ := wq17
  refine ⟨_, gq17, ?_⟩
  show gz gPP gGG gcn _ _ 465 [some (.ref 2), some (.ref x), some (.ref m), some (.ref o), some (.int (zi i)), none, none, none] [.int (zi zq17)] hq17 _
  have sq17 : gSs rT 1027 tyq4 [1000, 1053, 27999, 28999, 29999, 30999, 31999, 55008, 60999, 61999, 62999, 63999, 64999] hq4 hq17 := gSs.tr sS13 xq17 (by decide)
  have s18 := (xq17.2.2.2.2.2 m 16 (by rw [t7]; decide)).trans eip
  have s19 := (xq17.2.2.2.2.2 m 18 (by rw [t7]; decide)).trans ewi
  have s20 := (xq17.2.2.2.2.2 m 19 (by rw [t7]; decide)).trans ehh
  have s21 := (xq17.2.2.2.2.2 m 21 (by rw [t7]; decide)).trans ewd
  have s22 := (xq17.2.2.2.2.2 m 22 (by rw [t7]; decide)).trans ehg
  have s23 := (xq17.2.2.2.2.2 m 20 (by rw [t7]; decide)).trans ebs
  have s24 := (xq17.2.2.2.2.2 m 50 (by rw [t7]; decide)).trans ecw
  have s25 := (xq17.2.2.2.2.2 m 51 (by rw [t7]; decide)).trans ech
  have s26 := (xq17.2.2.2.2.2 m 59 (by rw [t7]; decide)).trans ewr0
  have s27 := (xq17.2.2.2.2.2 m 52 (by rw [t7]; decide)).trans eivm
  have pr28 := gIx.fr xq17.2 (by decide) yq4_1
  have pr29 := gRn.fr xq17.2 (by decide) hzz9
  have pr30 := gSO.fr xq17.2 (by decide) hso
  have pr31 := gPi.fr xq17.2 (by decide) hpi
  have hz8 : gSz S.1.2.2.2.2.2.2 nm0 (sc (i + 1).toNat) (sc (i + 2).toNat) (sc (i + 3).toNat) zq4 (xq4_2 % 64) := by rw [← hmn0]; exact yq4_0
  have hzz := gSz.eq hz8 yq17_1
  refine gz_s 2 (pc' := 566) (L' := [some (.ref 2), some (.ref x), some (.ref m), some (.ref o), some (.int (zi i)), none, none, none]) (S' := []) rfl ?_
  have k32 := sq17.2.1
  have k32b := sq17.2.2.1
  have hmw33 : (eQ2 nm0 S (sc (i + 1).toNat) (sc (i + 2).toNat) (sc (i + 3).toNat)).2 = S.2 ∧ eTz fq17_0 (eQ2 nm0 S (sc (i + 1).toNat) (sc (i + 2).toNat) (sc (i + 3).toNat)) := by
    have e9 := yq17_1
    by_cases k9 : gSk S.1.2.2.2.2.2.2 nm0 (sc (i + 1).toNat) (sc (i + 2).toNat) (sc (i + 3).toNat)
    · rw [eQ2_y k9, (e9.1 k9).2]; exact ⟨rfl, htzm.tell (by omega) k9⟩
    · rw [eQ2_n k9, (e9.2 k9).2]; exact ⟨rfl, htzm⟩
  have hmw33s : gSO tyq4 (eQ2 nm0 S (sc (i + 1).toNat) (sc (i + 2).toNat) (sc (i + 3).toNat)).2 hq17 := by rw [hmw33.1]; exact pr30
  have hmw33w := congrArg Prod.fst hmw33.1
  have him34 : gIm tyq4 m xq4_2 (eQ2 nm0 S (sc (i + 1).toNat) (sc (i + 2).toNat) (sc (i + 3).toNat)) hq17 := ⟨ip, wi, hh, wd, hg, bs, fq17_0, cw, ch, i0m, wr0, t7, ⟨s18, by omega, by omega⟩, ⟨s19, by omega, by omega⟩, ⟨s20, by omega, by omega⟩, ⟨s21, by omega, by omega⟩, ⟨s22, by omega, by omega⟩, ⟨s23, by omega, by omega⟩, pr31, ⟨efq17_0, by omega, by omega⟩, yq17_0, ⟨s24, by omega, by omega⟩, ⟨s25, by omega, by omega⟩, by omega, ⟨s27, by omega, by omega⟩, ⟨s26, by omega, by omega⟩, by omega, yq17_2, pr29, ⟨hmw33s, by rw [hmw33w]; omega⟩, hmw33.2⟩
  have him35 : gIm tyq4 m xq4_2 (eQ2 (iv % 64) S (sc (i + 1).toNat) (sc (i + 2).toNat) (sc (i + 3).toNat)) hq17 := by rw [hmn0]; exact him34
  have G36 : gSg [] [] [1000, 1053, 27999, 28999, 29999, 30999, 31999, 55008, 60999, 61999, 62999, 63999, 64999] ty h tyq4 hq17 := gSg.ss G5 sq17 (by decide)
  exact gz_end (I := .iinc 4 4) (len := 3) rfl (Or.inr (by decide)) ⟨tyq4, G36, xq4_0, xq4_1, xq4_2, (by omega), (by omega), (by omega), (by omega), (by omega), (by omega), pr28, him35, (by dsimp only; omega), (by dsimp only; omega), (by omega), (by omega), uq10, rfl, rfl, (gLw.s (gLw.s (gLw.s (gLw.s (gLw.s (gLw.n (gLw.n (gLw.n gLw.z))))))))⟩
