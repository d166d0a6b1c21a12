/-! ===== stretches of the law (by program) ===== -/
set_option maxRecDepth 20000 in
set_option maxHeartbeats 4000000 in
theorem sg_of_point (d : Nat) {ty : Nat → Nat} {h : gH} {Ln i : Int} {sc : Nat → Int} {x m o : Nat} (hJ : gJ rT 1027 ty h) (uq : gUq ty) (hyst : gSta ty h) (scr : gScr ty Ln sc h) (tx : ty x = 50) (tm : ty m = 1) (to : ty o = 90) (ri : 0 ≤ i ∧ i + 4 ≤ Ln) {S : gSS} (iv : Int) (riv : 0 ≤ iv ∧ iv ≤ 26476544) (iv1 : Int) (riv1 : 0 ≤ iv1 ∧ iv1 ≤ 26476544) (k : Int) (rk : 0 ≤ k ∧ k ≤ 2) (pp0 : ((0 ≤ sc (i + 1).toNat ∧ sc (i + 1).toNat ≤ 31 ∧ 0 ≤ sc (i + 2).toNat ∧ sc (i + 2).toNat ≤ 31 ∧ 0 ≤ sc (i + 3).toNat ∧ sc (i + 3).toNat ≤ 255) → iv1 = iv + 64 * (if iv / 64 % 64 ≤ sc (i + 1).toNat then sc (i + 1).toNat + 1 - iv / 64 % 64 else 0) + 4096 * (if iv / 4096 % 64 ≤ sc (i + 2).toNat then sc (i + 2).toNat + 1 - iv / 4096 % 64 else 0)) ∧ (¬ (0 ≤ sc (i + 1).toNat ∧ sc (i + 1).toNat ≤ 31 ∧ 0 ≤ sc (i + 2).toNat ∧ sc (i + 2).toNat ≤ 31 ∧ 0 ≤ sc (i + 3).toNat ∧ sc (i + 3).toNat ≤ 255) → iv1 = iv)) (hyim : gIm ty m iv S h) : gz gPP gGG gcn (d + 1) (gtLlaw [566]) 391 [some (.ref 2), some (.ref x), some (.ref m), some (.ref o), some (.int (zi i)), none, none, none] [.int (zi k)] h (fun q L9 => gSs rT 1027 ty [1000, 1050, 1051, 26999] h q.2.2 ∧ (gIm ty m iv1 (eQ1 S (sc (i + 1).toNat) (sc (i + 2).toNat) (sc (i + 3).toNat)) q.2.2) ∧ q.1 = 566 ∧ q.2.1 = [] ∧ gLw [some (.ref 2), some (.ref x), some (.ref m), some (.ref o), some (.int (zi i)), none, none, none] L9) := by
  have hln := scr.2.2.2.2.1
  have hS : gSs rT 1027 ty [1000, 1050, 1051, 26999] h h := gSs.rf hJ
  obtain ⟨ip, wi, hh, wd, hg, bs, nm0, cw, ch, i0m, wr0, _, ⟨eip, rip⟩, ⟨ewi, rwi⟩, ⟨ehh, rhh⟩, ⟨ewd, rwd⟩, ⟨ehg, rhg⟩, ⟨ebs, rbs⟩, hpi, ⟨enm0, rnm0⟩, hts, ⟨ecw, rcw⟩, ⟨ech, rch⟩, hcc, ⟨eivm, rivm⟩, ⟨ewr0, rwr0⟩, hcdm, hmw, hzz9, ⟨hso, hwr⟩, htzm⟩ := hyim
  have hmcw : iv / 64 % 64 = cw := by omega
  have hmch : iv / 4096 % 64 = ch := by omega
  have hmn0 : iv % 64 = nm0 := by omega
  have hmi0 : iv / 262144 = i0m := by omega
  obtain ⟨xr1, xr2, xr3, xr4, xr5, xr6, xr7⟩ := hmw
  refine gy_s 6 (pc' := 399) (L' := [some (.ref 2), some (.ref x), some (.ref m), some (.ref o), some (.int (zi i)), some (.int (zi k)), none, none]) (S' := [.int ((zi i) + (zi 1)), .ref 2, .ref m]) (L2 := [some (.ref 2), some (.ref x), some (.ref m), some (.ref o), some (.int (zi i)), some (.int (zi k)), none, none]) (S2 := [.int (zi (i + 1)), .ref 2, .ref m]) rfl (by simp only [zi_add, zi_sub, zi_mul, zi_neg, zi_and1, zi_and7, zi_and15, zi_and31, zi_and255]) (by simp only [zi_add, zi_sub, zi_mul, zi_neg, zi_and1, zi_and7, zi_and15, zi_and31, zi_and255]) ?_
  refine gs_st2 rfl (by decide) rfl (gScr.fr hS.2 (by decide) scr) (by omega) (by omega) (fun rs8 => ?_)
  refine gy_s 4 (pc' := 405) (L' := [some (.ref 2), some (.ref x), some (.ref m), some (.ref o), some (.int (zi i)), some (.int (zi k)), none, none]) (S' := [.int ((zi i) + (zi 2)), .ref 2, .int (zi (sc (i + 1).toNat)), .ref m]) (L2 := [some (.ref 2), some (.ref x), some (.ref m), some (.ref o), some (.int (zi i)), some (.int (zi k)), none, none]) (S2 := [.int (zi (i + 2)), .ref 2, .int (zi (sc (i + 1).toNat)), .ref m]) rfl (by simp only [zi_add, zi_sub, zi_mul, zi_neg, zi_and1, zi_and7, zi_and15, zi_and31, zi_and255]) (by simp only [zi_add, zi_sub, zi_mul, zi_neg, zi_and1, zi_and7, zi_and15, zi_and31, zi_and255]) ?_
  refine gs_st2 rfl (by decide) rfl (gScr.fr hS.2 (by decide) scr) (by omega) (by omega) (fun rs9 => ?_)
  refine gy_s 4 (pc' := 411) (L' := [some (.ref 2), some (.ref x), some (.ref m), some (.ref o), some (.int (zi i)), some (.int (zi k)), none, none]) (S' := [.int ((zi i) + (zi 3)), .ref 2, .int (zi (sc (i + 2).toNat)), .int (zi (sc (i + 1).toNat)), .ref m]) (L2 := [some (.ref 2), some (.ref x), some (.ref m), some (.ref o), some (.int (zi i)), some (.int (zi k)), none, none]) (S2 := [.int (zi (i + 3)), .ref 2, .int (zi (sc (i + 2).toNat)), .int (zi (sc (i + 1).toNat)), .ref m]) rfl (by simp only [zi_add, zi_sub, zi_mul, zi_neg, zi_and1, zi_and7, zi_and15, zi_and31, zi_and255]) (by simp only [zi_add, zi_sub, zi_mul, zi_neg, zi_and1, zi_and7, zi_and15, zi_and31, zi_and255]) ?_
  refine gs_st2 rfl (by decide) rfl (gScr.fr hS.2 (by decide) scr) (by omega) (by omega) (fun rs10 => ?_)
  refine gz_call rfl (by decide) rfl (by decide) (by decide) (gcal_of rfl rfl rfl (Nat.le_of_ble_eq_true rfl) (gJ.recv (G := gGG) hS.1 tm rfl rfl)) (mm_point3 _ hS.1 m tm (sc (i + 1).toNat) (by omega) (sc (i + 2).toNat) (by omega) (sc (i + 3).toNat) (by omega) cw ecw (by omega) ch ech (by omega) S.1.2.1 (by omega) uq xr2) (fun q11 _ wq11 => ?_)
  obtain ⟨pq11, oq11, hq11⟩ := q11
  obtain ⟨xq11, zq11, fq11_0, fq11_1, fq11_2, gq11, aq11, bq11, efq11_0, afq11_0, bfq11_0, efq11_1, afq11_1, bfq11_1, efq11_2, afq11_2, bfq11_2, uq11_0, uq11_1, uq11_2, uq11_3, uq11_4, uq11_5, yq11_0⟩ := wq11
  refine ⟨_, gq11, ?_⟩
  show gz gPP gGG gcn _ _ 415 [some (.ref 2), some (.ref x), some (.ref m), some (.ref o), some (.int (zi i)), some (.int (zi k)), none, none] [.int (zi zq11)] hq11 _
  have sq11 : gSs rT 1027 ty [1000, 1050, 1051, 26999] h hq11 := gSs.tr hS xq11 (by decide)
  have s12 := (xq11.2.2.2.2.2 m 16 (by rw [tm]; decide)).trans eip
  have s13 := (xq11.2.2.2.2.2 m 18 (by rw [tm]; decide)).trans ewi
  have s14 := (xq11.2.2.2.2.2 m 19 (by rw [tm]; decide)).trans ehh
  have s15 := (xq11.2.2.2.2.2 m 21 (by rw [tm]; decide)).trans ewd
  have s16 := (xq11.2.2.2.2.2 m 22 (by rw [tm]; decide)).trans ehg
  have s17 := (xq11.2.2.2.2.2 m 20 (by rw [tm]; decide)).trans ebs
  have s18 := (xq11.2.2.2.2.2 m 53 (by rw [tm]; decide)).trans enm0
  have s19 := (xq11.2.2.2.2.2 m 59 (by rw [tm]; decide)).trans ewr0
  have s20 := (xq11.2.2.2.2.2 m 52 (by rw [tm]; decide)).trans eivm
  have pr21 := gRn.fr xq11.2 (by decide) hzz9
  have pr22 := gSO.fr xq11.2 (by decide) hso
  have pr23 := gPi.fr xq11.2 (by decide) hpi
  have pr24 := gTs.fr xq11.2 (by decide) hts
  have pr25 := gRn.fr xq11.2 (by decide) xr1
  have pr26 := gRn.fr xq11.2 (by decide) xr3
  have pr27 := gRn.fr xq11.2 (by decide) xr4
  have pr28 := gRn.fr xq11.2 (by decide) xr5
  have pr29 := gRn.fr xq11.2 (by decide) xr6
  have pr30 := gRn.fr xq11.2 (by decide) xr7
  refine gz_s 2 (pc' := 566) (L' := [some (.ref 2), some (.ref x), some (.ref m), some (.ref o), some (.int (zi i)), some (.int (zi k)), some (.int (zi zq11)), none]) (S' := []) rfl ?_
  have hmw31 : gMw ty (eQ1 S (sc (i + 1).toNat) (sc (i + 2).toNat) (sc (i + 3).toNat)) hq11 := ⟨pr25, yq11_0, pr26, pr27, pr28, pr29, pr30⟩
  have him32 : gIm ty m iv1 (eQ1 S (sc (i + 1).toNat) (sc (i + 2).toNat) (sc (i + 3).toNat)) hq11 := ⟨ip, wi, hh, wd, hg, bs, nm0, fq11_0, fq11_1, i0m, wr0, tm, ⟨s12, by omega, by omega⟩, ⟨s13, by omega, by omega⟩, ⟨s14, by omega, by omega⟩, ⟨s15, by omega, by omega⟩, ⟨s16, by omega, by omega⟩, ⟨s17, by omega, by omega⟩, pr23, ⟨s18, by omega, by omega⟩, pr24, ⟨efq11_0, by omega, by omega⟩, ⟨efq11_1, by omega, by omega⟩, by omega, ⟨s20, by omega, by omega⟩, ⟨s19, by omega, by omega⟩, by omega, hmw31, pr21, ⟨pr22, hwr⟩, htzm⟩
  exact gz_end (I := .iinc 4 4) (len := 3) rfl (Or.inr (by decide)) ⟨sq11, him32, rfl, rfl, (gLw.s (gLw.s (gLw.s (gLw.s (gLw.s (gLw.n (gLw.n (gLw.n gLw.z))))))))⟩
