/-! ===== stretches of the law (by program) ===== -/
set_option maxRecDepth 20000 in
set_option maxHeartbeats 4000000 in
theorem sg_all_scan (d : Nat) {ty : Nat → Nat} {h : gH} {Ln i : Int} {sc : Nat → Int} {x m o : Nat} (hJ : gJ rT 1027 ty h) (uq : gUq ty) (hyst : gSta ty h) (scr : gScr ty Ln sc h) (tx : ty x = 50) (tm : ty m = 1) (to : ty o = 90) (ri : 0 ≤ i ∧ i + 4 ≤ Ln) {f g : Nat → Int} (ld : Int) (rld : 0 ≤ ld ∧ ld ≤ 192) (lb : Int) (rlb : 1024 ≤ lb ∧ lb ≤ 1000000) (iv : Int) (riv : 0 ≤ iv ∧ iv ≤ 2058) (pp0 : gEq 64 f g) (hyix : gIx ty x ld lb iv h) (hyim : gIm ty m iv h) (hyf64 : gRow ty 64 f h) (hyf31 : gRow ty 31 g h) : gz gPP gGG gcn (d + 4) (gtLlaw [566]) 420 [some (.ref 2), some (.ref x), some (.ref m), some (.ref o), some (.int (zi i)), none, none, none] [] h (fun q L9 => ∃ ty9 : Nat → Nat, gSg [] [] [1000, 1053, 27999, 28999, 29999, 30999, 31999, 55008, 60999, 61999, 62999, 63999, 64999] ty h ty9 q.2.2 ∧ ∃ ld1 lb1 iv1 : Int, 0 ≤ ld1 ∧ ld1 ≤ 192 ∧ 1024 ≤ lb1 ∧ lb1 ≤ 1000000 ∧ 0 ≤ iv1 ∧ iv1 ≤ 2058 ∧ (gIx ty9 x ld1 lb1 iv1 q.2.2) ∧ (gIm ty9 m iv1 q.2.2) ∧ (gRe ty9 q.2.2) ∧ (1024 * (((q.2.2.1 : Int) - h.1) - 31 - 2 * (ld1 - ld)) ≤ lb1 - lb) ∧ (((q.2.2.2.1 : Int) - h.2.1) ≤ 4303 + 12480 * (ld1 - ld) + 2 * (lb1 - lb)) ∧ (ld ≤ ld1) ∧ (lb ≤ lb1) ∧ gUq ty9 ∧ q.1 = 566 ∧ q.2.1 = [] ∧ gLw [some (.ref 2), some (.ref x), some (.ref m), some (.ref o), some (.int (zi i)), none, none, none] L9) := by
  have hln := scr.2.2.2.2.1
  have hS : gSs rT 1027 ty [1000, 1053, 27999, 28999, 29999, 30999, 31999, 55008, 60999, 61999, 62999, 63999, 64999] h h := gSs.rf hJ
  have G0 : gSg [] [] [1000, 1053, 27999, 28999, 29999, 30999, 31999, 55008, 60999, 61999, 62999, 63999, 64999] ty h ty h := gSg.rf hJ (fun x hx => by cases hx)
  refine gy_s 5 (pc' := 426) (L' := [some (.ref 2), some (.ref x), some (.ref m), some (.ref o), some (.int (zi i)), none, none, none]) (S' := [.int ((zi i) + (zi 1)), .ref 2, .ref x]) (L2 := [some (.ref 2), some (.ref x), some (.ref m), some (.ref o), some (.int (zi i)), none, none, none]) (S2 := [.int (zi (i + 1)), .ref 2, .ref x]) rfl (by simp only [zi_add, zi_sub, zi_mul, zi_neg, zi_and1, zi_and7, zi_and15, zi_and31, zi_and255]) (by simp only [zi_add, zi_sub, zi_mul, zi_neg, zi_and1, zi_and7, zi_and15, zi_and31, zi_and255]) ?_
  refine gs_st2 rfl (by decide) rfl (gScr.fr hS.2 (by decide) scr) (by omega) (by omega) (fun rs1 => ?_)
  refine gy_s 4 (pc' := 432) (L' := [some (.ref 2), some (.ref x), some (.ref m), some (.ref o), some (.int (zi i)), none, none, none]) (S' := [.int ((zi i) + (zi 2)), .ref 2, .int (zi (sc (i + 1).toNat)), .ref x]) (L2 := [some (.ref 2), some (.ref x), some (.ref m), some (.ref o), some (.int (zi i)), none, none, none]) (S2 := [.int (zi (i + 2)), .ref 2, .int (zi (sc (i + 1).toNat)), .ref x]) rfl (by simp only [zi_add, zi_sub, zi_mul, zi_neg, zi_and1, zi_and7, zi_and15, zi_and31, zi_and255]) (by simp only [zi_add, zi_sub, zi_mul, zi_neg, zi_and1, zi_and7, zi_and15, zi_and31, zi_and255]) ?_
  refine gs_st2 rfl (by decide) rfl (gScr.fr hS.2 (by decide) scr) (by omega) (by omega) (fun rs2 => ?_)
  refine gy_s 4 (pc' := 438) (L' := [some (.ref 2), some (.ref x), some (.ref m), some (.ref o), some (.int (zi i)), none, none, none]) (S' := [.int ((zi i) + (zi 3)), .ref 2, .int (zi (sc (i + 2).toNat)), .int (zi (sc (i + 1).toNat)), .ref x]) (L2 := [some (.ref 2), some (.ref x), some (.ref m), some (.ref o), some (.int (zi i)), none, none, none]) (S2 := [.int (zi (i + 3)), .ref 2, .int (zi (sc (i + 2).toNat)), .int (zi (sc (i + 1).toNat)), .ref x]) rfl (by simp only [zi_add, zi_sub, zi_mul, zi_neg, zi_and1, zi_and7, zi_and15, zi_and31, zi_and255]) (by simp only [zi_add, zi_sub, zi_mul, zi_neg, zi_and1, zi_and7, zi_and15, zi_and31, zi_and255]) ?_
  refine gs_st2 rfl (by decide) rfl (gScr.fr hS.2 (by decide) scr) (by omega) (by omega) (fun rs3 => ?_)
  refine gz_call rfl (by decide) rfl (by decide) (by decide) (gcal_of rfl rfl rfl (Nat.le_of_ble_eq_true rfl) (gJ.recv (G := gGG) hS.1 tx rfl rfl)) (cl_DctFilter_scan _ hS.1 x tx (sc (i + 1).toNat) (by omega) (sc (i + 2).toNat) (by omega) (sc (i + 3).toNat) (by omega) f ld (by omega) lb (by omega) iv (by omega) uq hyix hyf64) (fun q4 _ wq4 => ?_)
  obtain ⟨pq4, oq4, hq4⟩ := q4
  obtain ⟨tyq4, xq4, zq4, xq4_0, xq4_1, xq4_2, gq4, aq4, bq4, axq4_0, bxq4_0, axq4_1, bxq4_1, axq4_2, bxq4_2, uq4_0, uq4_1, uq4_2, uq4_3, uq4_4, yq4_0, yq4_1, yq4_2⟩ := wq4
  dsimp only at uq4_1 uq4_2
  refine ⟨_, gq4, ?_⟩
  show gz gPP gGG gcn _ _ 442 [some (.ref 2), some (.ref x), some (.ref m), some (.ref o), some (.int (zi i)), none, none, none] [.int (zi zq4)] hq4 _
  have G5 : gSg [] [] [1000, 1053, 27999, 28999, 29999, 30999, 31999, 55008, 60999, 61999, 62999, 63999, 64999] ty h tyq4 hq4 := gSg.tr (gSg.ss G0 hS (by decide)) xq4 (by decide) (by decide) (fun x hx => by cases hx)
  have t6 : tyq4 x = 50 := gSg.typ xq4 hS.1 tx rfl
  have t7 : tyq4 m = 1 := gSg.typ xq4 hS.1 tm rfl
  have t8 : tyq4 o = 90 := gSg.typ xq4 hS.1 to rfl
  have pr9 := gIm.gr xq4 hS.1 (by decide) (by decide) hyim
  have pr10 := gRow.gr xq4 hS.1 rfl (by decide) (by decide) hyf31
  have uq11 := gSg.uq xq4 uq (by decide)
  have scr12 := gScr.gr xq4 (by decide) (fun x hx => by cases hx) (gScr.fr hS.2 (by decide) scr)
  have hyst13 := gSta.gr xq4 (by decide) (fun x hx => by cases hx) (gSta.fr hS.2 (by decide) hyst)
  have sS14 : gSs rT 1027 tyq4 [1000, 1053, 27999, 28999, 29999, 30999, 31999, 55008, 60999, 61999, 62999, 63999, 64999] hq4 hq4 := gSs.rf xq4.1
  obtain ⟨ip, wi, hh, wd, hg, bs, nm0, cw, ch, i0m, _, ⟨eip, rip⟩, ⟨ewi, rwi⟩, ⟨ehh, rhh⟩, ⟨ewd, rwd⟩, ⟨ehg, rhg⟩, ⟨ebs, rbs⟩, hpi, ⟨enm0, rnm0⟩, hts, ⟨ecw, rcw⟩, ⟨ech, rch⟩, hcc, ⟨eivm, rivm⟩, hcdm⟩ := pr9
  refine gy_s 5 (pc' := 448) (L' := [some (.ref 2), some (.ref x), some (.ref m), some (.ref o), some (.int (zi i)), none, none, none]) (S' := [.int ((zi i) + (zi 1)), .ref 2, .ref m, .int (zi zq4)]) (L2 := [some (.ref 2), some (.ref x), some (.ref m), some (.ref o), some (.int (zi i)), none, none, none]) (S2 := [.int (zi (i + 1)), .ref 2, .ref m, .int (zi zq4)]) rfl (by simp only [zi_add, zi_sub, zi_mul, zi_neg, zi_and1, zi_and7, zi_and15, zi_and31, zi_and255]) (by simp only [zi_add, zi_sub, zi_mul, zi_neg, zi_and1, zi_and7, zi_and15, zi_and31, zi_and255]) ?_
  refine gs_st2 rfl (by decide) rfl (gScr.fr sS14.2 (by decide) scr12) (by omega) (by omega) (fun rs15 => ?_)
  refine gy_s 4 (pc' := 454) (L' := [some (.ref 2), some (.ref x), some (.ref m), some (.ref o), some (.int (zi i)), none, none, none]) (S' := [.int ((zi i) + (zi 2)), .ref 2, .int (zi (sc (i + 1).toNat)), .ref m, .int (zi zq4)]) (L2 := [some (.ref 2), some (.ref x), some (.ref m), some (.ref o), some (.int (zi i)), none, none, none]) (S2 := [.int (zi (i + 2)), .ref 2, .int (zi (sc (i + 1).toNat)), .ref m, .int (zi zq4)]) rfl (by simp only [zi_add, zi_sub, zi_mul, zi_neg, zi_and1, zi_and7, zi_and15, zi_and31, zi_and255]) (by simp only [zi_add, zi_sub, zi_mul, zi_neg, zi_and1, zi_and7, zi_and15, zi_and31, zi_and255]) ?_
  refine gs_st2 rfl (by decide) rfl (gScr.fr sS14.2 (by decide) scr12) (by omega) (by omega) (fun rs16 => ?_)
  refine gy_s 4 (pc' := 460) (L' := [some (.ref 2), some (.ref x), some (.ref m), some (.ref o), some (.int (zi i)), none, none, none]) (S' := [.int ((zi i) + (zi 3)), .ref 2, .int (zi (sc (i + 2).toNat)), .int (zi (sc (i + 1).toNat)), .ref m, .int (zi zq4)]) (L2 := [some (.ref 2), some (.ref x), some (.ref m), some (.ref o), some (.int (zi i)), none, none, none]) (S2 := [.int (zi (i + 3)), .ref 2, .int (zi (sc (i + 2).toNat)), .int (zi (sc (i + 1).toNat)), .ref m, .int (zi zq4)]) rfl (by simp only [zi_add, zi_sub, zi_mul, zi_neg, zi_and1, zi_and7, zi_and15, zi_and31, zi_and255]) (by simp only [zi_add, zi_sub, zi_mul, zi_neg, zi_and1, zi_and7, zi_and15, zi_and31, zi_and255]) ?_
  refine gs_st2 rfl (by decide) rfl (gScr.fr sS14.2 (by decide) scr12) (by omega) (by omega) (fun rs17 => ?_)
  refine gz_call rfl (by decide) rfl (by decide) (by decide) (gcal_of rfl rfl rfl (Nat.le_of_ble_eq_true rfl) (gJ.recv (G := gGG) sS14.1 t7 rfl rfl)) (mm_scan3 _ sS14.1 m t7 (sc (i + 1).toNat) (by omega) (sc (i + 2).toNat) (by omega) (sc (i + 3).toNat) (by omega) nm0 enm0 (by omega) g uq11 hts pr10) (fun q18 _ wq18 => ?_)
  obtain ⟨pq18, oq18, hq18⟩ := q18
  obtain ⟨xq18, zq18, fq18_0, gq18, aq18, bq18, efq18_0, afq18_0, bfq18_0, yq18_0, yq18_1, yq18_2⟩ := wq18
  refine ⟨_, gq18, ?_⟩
  show gz gPP gGG gcn _ _ 464 [some (.ref 2), some (.ref x), some (.ref m), some (.ref o), some (.int (zi i)), none, none, none] [.int (zi zq18), .int (zi zq4)] hq18 _
  have sq18 : gSs rT 1027 tyq4 [1000, 1053, 27999, 28999, 29999, 30999, 31999, 55008, 60999, 61999, 62999, 63999, 64999] hq4 hq18 := gSs.tr sS14 xq18 (by decide)
  have s19 := (xq18.2.2.2.2.2 m 16 (by rw [t7]; decide)).trans eip
  have s20 := (xq18.2.2.2.2.2 m 18 (by rw [t7]; decide)).trans ewi
  have s21 := (xq18.2.2.2.2.2 m 19 (by rw [t7]; decide)).trans ehh
  have s22 := (xq18.2.2.2.2.2 m 21 (by rw [t7]; decide)).trans ewd
  have s23 := (xq18.2.2.2.2.2 m 22 (by rw [t7]; decide)).trans ehg
  have s24 := (xq18.2.2.2.2.2 m 20 (by rw [t7]; decide)).trans ebs
  have s25 := (xq18.2.2.2.2.2 m 50 (by rw [t7]; decide)).trans ecw
  have s26 := (xq18.2.2.2.2.2 m 51 (by rw [t7]; decide)).trans ech
  have s27 := (xq18.2.2.2.2.2 m 52 (by rw [t7]; decide)).trans eivm
  have pr28 := gIx.fr xq18.2 (by decide) yq4_0
  have pr29 := gSx.fr xq18.2 (by decide) yq4_2
  have pr30 := gPi.fr xq18.2 (by decide) hpi
  have hzz := gSz.eq pp0 yq4_1 (by rw [(by omega : iv % 64 = nm0)]; exact yq18_1)
  by_cases hc31 : (zq4 : Int) = zq18
  · refine gy_icT (pc' := 566) rfl (by decide) (by decide) (by omega) (by omega) hc31 ?_
    have k32 := sq18.2.1
    have k32b := sq18.2.2.1
    have him33 : gIm tyq4 m xq4_2 hq18 := ⟨ip, wi, hh, wd, hg, bs, fq18_0, cw, ch, i0m, t7, ⟨s19, by omega, by omega⟩, ⟨s20, by omega, by omega⟩, ⟨s21, by omega, by omega⟩, ⟨s22, by omega, by omega⟩, ⟨s23, by omega, by omega⟩, ⟨s24, by omega, by omega⟩, pr30, ⟨efq18_0, by omega, by omega⟩, yq18_0, ⟨s25, by omega, by omega⟩, ⟨s26, by omega, by omega⟩, by omega, ⟨s27, by omega, by omega⟩, by omega⟩
    have hre34 : gRe tyq4 hq18 := gRe.sx pp0 pr29 (by rw [(by omega : iv % 64 = nm0)]; exact yq18_2)
    have G35 : gSg [] [] [1000, 1053, 27999, 28999, 29999, 30999, 31999, 55008, 60999, 61999, 62999, 63999, 64999] ty h tyq4 hq18 := gSg.ss G5 sq18 (by decide)
    exact gz_end (I := .iinc 4 4) (len := 3) rfl (Or.inr (by decide)) ⟨tyq4, G35, xq4_0, xq4_1, xq4_2, (by omega), (by omega), (by omega), (by omega), (by omega), (by omega), pr28, him33, hre34, (by dsimp only; omega), (by dsimp only; omega), (by omega), (by omega), uq11, rfl, rfl, (gLw.s (gLw.s (gLw.s (gLw.s (gLw.s (gLw.n (gLw.n (gLw.n gLw.z))))))))⟩
  · refine gy_icF rfl (by decide) (by decide) (by omega) (by omega) hc31 ?_
    exact False.elim (by omega)
