set_option maxRecDepth 20000 in
set_option maxHeartbeats 4000000 in
theorem sg_of_restart (d : Nat) {ty : Nat → Nat} {h : gH} {Ln i : Int} {sc : Nat → Int} {x m o : Nat} (hJ : gJ rT 1027 ty h) (uq : gUq ty) (hyst : gSta ty h) (scr : gScr ty Ln sc h) (tx : ty x = 50) (tm : ty m = 1) (to : ty o = 90) (ri : 0 ≤ i ∧ i + 4 ≤ Ln) (iv : Int) (riv : 0 ≤ iv ∧ iv ≤ 100) (iv1 : Int) (riv1 : 0 ≤ iv1 ∧ iv1 ≤ 100) (k : Int) (rk : 0 ≤ k ∧ k ≤ 2) (pp0 : (k = 0 ∧ iv1 = sc (i + 1).toNat ∧ 0 ≤ sc (i + 1).toNat ∧ sc (i + 1).toNat ≤ 100) ∨ (k = 1 ∧ iv1 = iv ∧ ¬ (0 ≤ sc (i + 1).toNat ∧ sc (i + 1).toNat ≤ 100))) (pp1 : gIf (k = 0) (h.2.2.2.2 o 0 = .long (zl iv))) (hyim : gIm ty m iv h) : gz gPP gGG gcn (d + 1) (gtLlaw [594]) 480 [some (.ref 2), some (.ref x), some (.ref m), some (.ref o), some (.int (zi i)), none, none, none] [.int (zi k)] h (fun q L9 => gSs rT 1027 ty [1000, 1052] h q.2.2 ∧ (gIm ty m iv1 q.2.2) ∧ q.1 = 594 ∧ q.2.1 = [] ∧ gLw [some (.ref 2), some (.ref x), some (.ref m), some (.ref o), some (.int (zi i)), none, none, none] L9) := by
  have hln := scr.2.2.2.2.1
  have hS : gSs rT 1027 ty [1000, 1052] h h := gSs.rf hJ
  obtain ⟨ip, wi, hh, wd, hg, bs, nm0, cw, ch, _, ⟨eip, rip⟩, ⟨ewi, rwi⟩, ⟨ehh, rhh⟩, ⟨ewd, rwd⟩, ⟨ehg, rhg⟩, ⟨ebs, rbs⟩, hpi, ⟨enm0, rnm0⟩, hts, ⟨ecw, rcw⟩, ⟨ech, rch⟩, hcc, ⟨eivm, rivm⟩⟩ := hyim
  refine gy_s 6 (pc' := 488) (L' := [some (.ref 2), some (.ref x), some (.ref m), some (.ref o), some (.int (zi i)), some (.int (zi k)), none, none]) (S' := [.int ((zi i) + (zi 1)), .ref 2, .ref m]) (L2 := [some (.ref 2), some (.ref x), some (.ref m), some (.ref o), some (.int (zi i)), some (.int (zi k)), none, none]) (S2 := [.int (zi (i + 1)), .ref 2, .ref m]) rfl (by simp only [zi_add, zi_sub, zi_mul, zi_neg, zi_and1, zi_and7, zi_and15, zi_and31, zi_and255]) (by simp only [zi_add, zi_sub, zi_mul, zi_neg, zi_and1, zi_and7, zi_and15, zi_and31, zi_and255]) ?_
  refine gs_st2 rfl (by decide) rfl (gScr.fr hS.2 (by decide) scr) (by omega) (by omega) (fun rs1 => ?_)
  refine gz_call rfl (by decide) rfl (by decide) (by decide) (gcal_of rfl rfl rfl (Nat.le_of_ble_eq_true rfl) (gJ.recv (G := gGG) hS.1 tm rfl rfl)) (mm_restart2 _ hS.1 m tm (sc (i + 1).toNat) (by omega) iv eivm (by omega)) (fun q2 _ wq2 => ?_)
  obtain ⟨pq2, oq2, hq2⟩ := q2
  obtain ⟨xq2, zq2, fq2_0, fq2_1, gq2, aq2, bq2, efq2_0, afq2_0, bfq2_0, efq2_1, afq2_1, bfq2_1, uq2_0, uq2_1⟩ := wq2
  refine ⟨_, gq2, ?_⟩
  show gz gPP gGG gcn _ _ 492 [some (.ref 2), some (.ref x), some (.ref m), some (.ref o), some (.int (zi i)), some (.int (zi k)), none, none] [.int (zi zq2)] hq2 _
  have sq2 : gSs rT 1027 ty [1000, 1052] h hq2 := gSs.tr hS xq2 (by decide)
  have s3 := (xq2.2.2.2.2.2 m 16 (by rw [tm]; decide)).trans eip
  have s4 := (xq2.2.2.2.2.2 m 18 (by rw [tm]; decide)).trans ewi
  have s5 := (xq2.2.2.2.2.2 m 19 (by rw [tm]; decide)).trans ehh
  have s6 := (xq2.2.2.2.2.2 m 21 (by rw [tm]; decide)).trans ewd
  have s7 := (xq2.2.2.2.2.2 m 22 (by rw [tm]; decide)).trans ehg
  have s8 := (xq2.2.2.2.2.2 m 20 (by rw [tm]; decide)).trans ebs
  have s9 := (xq2.2.2.2.2.2 m 53 (by rw [tm]; decide)).trans enm0
  have s10 := (xq2.2.2.2.2.2 m 50 (by rw [tm]; decide)).trans ecw
  have s11 := (xq2.2.2.2.2.2 m 51 (by rw [tm]; decide)).trans ech
  have pr12 := gPi.fr xq2.2 (by decide) hpi
  have pr13 := gTs.fr xq2.2 (by decide) hts
  refine gz_s 2 (pc' := 495) (L' := [some (.ref 2), some (.ref x), some (.ref m), some (.ref o), some (.int (zi i)), some (.int (zi k)), some (.int (zi zq2)), none]) (S' := [.ref m]) rfl ?_
  refine gz_call rfl (by decide) rfl (by decide) (by decide) (gcal_of rfl rfl rfl (Nat.le_of_ble_eq_true rfl) (gJ.recv (G := gGG) sq2.1 tm rfl rfl)) (mm_thrown2 _ sq2.1 m tm fq2_1 efq2_1 (by omega)) (fun q14 _ wq14 => ?_)
  obtain ⟨pq14, oq14, hq14⟩ := q14
  obtain ⟨xq14, zq14, gq14, aq14, bq14, uq14_0⟩ := wq14
  refine ⟨_, gq14, ?_⟩
  show gz gPP gGG gcn _ _ 498 [some (.ref 2), some (.ref x), some (.ref m), some (.ref o), some (.int (zi i)), some (.int (zi k)), some (.int (zi zq2)), none] [.int (zi zq14)] hq14 _
  have sq14 : gSs rT 1027 ty [1000, 1052] h hq14 := gSs.tr sq2 xq14 (by decide)
  have s15 := (xq14.2.2.2.2.2 m 16 (by rw [tm]; decide)).trans s3
  have s16 := (xq14.2.2.2.2.2 m 18 (by rw [tm]; decide)).trans s4
  have s17 := (xq14.2.2.2.2.2 m 19 (by rw [tm]; decide)).trans s5
  have s18 := (xq14.2.2.2.2.2 m 21 (by rw [tm]; decide)).trans s6
  have s19 := (xq14.2.2.2.2.2 m 22 (by rw [tm]; decide)).trans s7
  have s20 := (xq14.2.2.2.2.2 m 20 (by rw [tm]; decide)).trans s8
  have s21 := (xq14.2.2.2.2.2 m 53 (by rw [tm]; decide)).trans s9
  have s22 := (xq14.2.2.2.2.2 m 50 (by rw [tm]; decide)).trans s10
  have s23 := (xq14.2.2.2.2.2 m 51 (by rw [tm]; decide)).trans s11
  have s24 := (xq14.2.2.2.2.2 m 52 (by rw [tm]; decide)).trans efq2_0
  have s25 := (xq14.2.2.2.2.2 m 0 (by rw [tm]; decide)).trans efq2_1
  have pr26 := gPi.fr xq14.2 (by decide) pr12
  have pr27 := gTs.fr xq14.2 (by decide) pr13
  refine gz_s 1 (pc' := 500) (L' := [some (.ref 2), some (.ref x), some (.ref m), some (.ref o), some (.int (zi i)), some (.int (zi k)), some (.int (zi zq2)), none]) (S' := [.int (zi k), .int (zi zq14)]) rfl ?_
  by_cases hc28 : (zq14 : Int) = k
  · refine gy_icT (pc' := 505) rfl (by decide) (by decide) (by omega) (by omega) hc28 ?_
    refine gz_s 1 (pc' := 507) (L' := [some (.ref 2), some (.ref x), some (.ref m), some (.ref o), some (.int (zi i)), some (.int (zi k)), some (.int (zi zq2)), none]) (S' := [.int (zi k)]) rfl ?_
    by_cases hc29 : ¬ (k : Int) = 0
    · refine gy_ifT (pc' := 522) rfl (by decide) (by decide) (by omega) hc29 ?_
      refine gz_s 1 (pc' := 594) (L' := [some (.ref 2), some (.ref x), some (.ref m), some (.ref o), some (.int (zi i)), some (.int (zi k)), some (.int (zi zq2)), none]) (S' := []) rfl ?_
      have him30 : gIm ty m fq2_0 hq14 := ⟨ip, wi, hh, wd, hg, bs, nm0, cw, ch, tm, ⟨s15, by omega, by omega⟩, ⟨s16, by omega, by omega⟩, ⟨s17, by omega, by omega⟩, ⟨s18, by omega, by omega⟩, ⟨s19, by omega, by omega⟩, ⟨s20, by omega, by omega⟩, pr26, ⟨s21, by omega, by omega⟩, pr27, ⟨s22, by omega, by omega⟩, ⟨s23, by omega, by omega⟩, by omega, ⟨s24, by omega, by omega⟩⟩
      have him30r : gIm ty m iv1 hq14 := by rw [← (by omega : fq2_0 = iv1)]; exact him30
      exact gz_end (I := .iinc 4 4) (len := 3) rfl (Or.inr (by decide)) ⟨sq14, him30r, rfl, rfl, (gLw.s (gLw.s (gLw.s (gLw.s (gLw.s (gLw.n (gLw.n (gLw.n gLw.z))))))))⟩
    · refine gy_ifF rfl (by decide) (by decide) (by omega) hc29 ?_
      refine gz_s 2 (pc' := 512) (L' := [some (.ref 2), some (.ref x), some (.ref m), some (.ref o), some (.int (zi i)), some (.int (zi k)), some (.int (zi zq2)), none]) (S' := [.int (zi 0), .ref o]) rfl ?_
      have hl31 : 1 ≤ hq14.2.2.2.1 o ∧ hq14.2.2.2.1 o ≤ 1 := gJ.rowl (G := gGG) sq14.1 to rfl
      refine gs_lald rfl (by decide) sq14.1 to rfl rfl rfl (by decide) (fun _ => rfl) (by omega) (by omega) (fun z32 ez32 az32 bz32 => ?_)
      have hz9 : z32 = iv := gv_l ez32 ((sq14.2.2.2.2.2 o 0 (by rw [to]; decide)).trans (pp1 (by omega))) ⟨by omega, by omega⟩ ⟨by omega, by omega⟩
      refine gz_s 1 (pc' := 515) (L' := [some (.ref 2), some (.ref x), some (.ref m), some (.ref o), some (.int (zi i)), some (.int (zi k)), some (.int (zi zq2)), none]) (S' := [.int (zi zq2), .long (zl z32)]) rfl ?_
      refine gy_i2l rfl (by decide) (by omega) ?_
      refine gy_lcmp rfl (by decide) (by omega) (by omega) (fun z33 az33 bz33 cz33 => ?_)
      by_cases hc34 : (z33 : Int) = 0
      · refine gy_ifT (pc' := 522) rfl (by decide) (by decide) (by omega) hc34 ?_
        refine gz_s 1 (pc' := 594) (L' := [some (.ref 2), some (.ref x), some (.ref m), some (.ref o), some (.int (zi i)), some (.int (zi k)), some (.int (zi zq2)), none]) (S' := []) rfl ?_
        have him35 : gIm ty m fq2_0 hq14 := ⟨ip, wi, hh, wd, hg, bs, nm0, cw, ch, tm, ⟨s15, by omega, by omega⟩, ⟨s16, by omega, by omega⟩, ⟨s17, by omega, by omega⟩, ⟨s18, by omega, by omega⟩, ⟨s19, by omega, by omega⟩, ⟨s20, by omega, by omega⟩, pr26, ⟨s21, by omega, by omega⟩, pr27, ⟨s22, by omega, by omega⟩, ⟨s23, by omega, by omega⟩, by omega, ⟨s24, by omega, by omega⟩⟩
        have him35r : gIm ty m iv1 hq14 := by rw [← (by omega : fq2_0 = iv1)]; exact him35
        exact gz_end (I := .iinc 4 4) (len := 3) rfl (Or.inr (by decide)) ⟨sq14, him35r, rfl, rfl, (gLw.s (gLw.s (gLw.s (gLw.s (gLw.s (gLw.n (gLw.n (gLw.n gLw.z))))))))⟩
      · refine gy_ifF rfl (by decide) (by decide) (by omega) hc34 ?_
        exact False.elim (by omega)
  · refine gy_icF rfl (by decide) (by decide) (by omega) (by omega) hc28 ?_
    exact False.elim (by omega)
