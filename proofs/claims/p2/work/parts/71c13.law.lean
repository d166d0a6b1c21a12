/-! ===== stretches of the law (by program) ===== -/
set_option maxRecDepth 20000 in
set_option maxHeartbeats 4000000 in
theorem sg_of_add (d : Nat) {ty : Nat → Nat} {h : gH} {Ln i : Int} {sc : Nat → Int} {x m o : Nat} (hJ : gJ rT 1027 ty h) (uq : gUq ty) (hyst : gSta ty h) (scr : gScr ty Ln sc h) (tx : ty x = 50) (tm : ty m = 1) (to : ty o = 90) (ri : 0 ≤ i ∧ i + 4 ≤ Ln) {S : gSS} (iv : Int) (riv : 0 ≤ iv ∧ iv ≤ 54223962112) (iv1 : Int) (riv1 : 0 ≤ iv1 ∧ iv1 ≤ 54223962112) (k : Int) (rk : 0 ≤ k ∧ k ≤ 2) (pp0 : (iv / 262144 % 2048 < 2000 → iv1 = iv + 262144) ∧ (¬ iv / 262144 % 2048 < 2000 → iv1 = iv)) (pp1 : (k = 0 ∧ (iv / 262144 % 2048 < 2000)) ∨ (k = 1 ∧ (¬ iv / 262144 % 2048 < 2000))) (hyim : gIm ty m iv S h) : gz gPP gGG gcn (d + 1) (gtLlaw [577]) 115 [some (.ref 2), some (.ref x), some (.ref m), some (.ref o), some (.int (zi i)), none, none, none] [.int (zi k)] h (fun q L9 => gSs rT 1027 ty [1000, 1001, 2999] h q.2.2 ∧ (gIm ty m iv1 S q.2.2) ∧ q.1 = 577 ∧ q.2.1 = [] ∧ gLw [some (.ref 2), some (.ref x), some (.ref m), some (.ref o), some (.int (zi i)), none, none, none] L9) := by
  have hln := scr.2.2.2.2.1
  have hS : gSs rT 1027 ty [1000, 1001, 2999] h h := gSs.rf hJ
  obtain ⟨ip, wi, hh, wd, hg, bs, nm0, cw, ch, i0m, wr0, s9m, _, ⟨eip, rip⟩, ⟨ewi, rwi⟩, ⟨ehh, rhh⟩, ⟨ewd, rwd⟩, ⟨ehg, rhg⟩, ⟨ebs, rbs⟩, hpi, ⟨enm0, rnm0⟩, hts, ⟨ecw, rcw⟩, ⟨ech, rch⟩, hcc, ⟨eivm, rivm⟩, ⟨ewr0, rwr0⟩, hcdm, hmw, hzz9, ⟨hso, hwr⟩, htzm, ⟨es9m, rs9m⟩⟩ := hyim
  have hmcw : iv / 64 % 64 = cw := by omega
  have hmch : iv / 4096 % 64 = ch := by omega
  have hmn0 : iv % 64 = nm0 := by omega
  have hmi0 : iv / 536870912 = i0m := by omega
  refine gy_s 6 (pc' := 123) (L' := [some (.ref 2), some (.ref x), some (.ref m), some (.ref o), some (.int (zi i)), some (.int (zi k)), none, none]) (S' := [.int ((zi i) + (zi 1)), .ref 2, .ref m]) (L2 := [some (.ref 2), some (.ref x), some (.ref m), some (.ref o), some (.int (zi i)), some (.int (zi k)), none, none]) (S2 := [.int (zi (i + 1)), .ref 2, .ref m]) rfl (by simp only [zi_add, zi_sub, zi_mul, zi_neg, zi_and1, zi_and7, zi_and15, zi_and31, zi_and255]) (by simp only [zi_add, zi_sub, zi_mul, zi_neg, zi_and1, zi_and7, zi_and15, zi_and31, zi_and255]) ?_
  refine gs_st2 rfl (by decide) rfl (gScr.fr hS.2 (by decide) scr) (by omega) (by omega) (fun rs1 => ?_)
  refine gy_i2b rfl (by decide) (fun z2 az2 bz2 ez2 => ?_)
  refine gz_call rfl (by decide) rfl (by decide) (by decide) (gcal_of rfl rfl rfl (Nat.le_of_ble_eq_true rfl) (gJ.recv (G := gGG) hS.1 tm rfl rfl)) (mm_add2 _ hS.1 m tm z2 (by omega) s9m es9m (by omega)) (fun q3 _ wq3 => ?_)
  obtain ⟨pq3, oq3, hq3⟩ := q3
  obtain ⟨xq3, fq3_0, fq3_1, gq3, efq3_0, afq3_0, bfq3_0, efq3_1, afq3_1, bfq3_1, uq3_0, uq3_1⟩ := wq3
  refine ⟨_, gq3, ?_⟩
  show gz gPP gGG gcn _ _ 128 [some (.ref 2), some (.ref x), some (.ref m), some (.ref o), some (.int (zi i)), some (.int (zi k)), none, none] [] hq3 _
  have sq3 : gSs rT 1027 ty [1000, 1001, 2999] h hq3 := gSs.tr hS xq3 (by decide)
  have s4 := (xq3.2.2.2.2.2 m 16 (by rw [tm]; decide)).trans eip
  have s5 := (xq3.2.2.2.2.2 m 18 (by rw [tm]; decide)).trans ewi
  have s6 := (xq3.2.2.2.2.2 m 19 (by rw [tm]; decide)).trans ehh
  have s7 := (xq3.2.2.2.2.2 m 21 (by rw [tm]; decide)).trans ewd
  have s8 := (xq3.2.2.2.2.2 m 22 (by rw [tm]; decide)).trans ehg
  have s9 := (xq3.2.2.2.2.2 m 20 (by rw [tm]; decide)).trans ebs
  have s10 := (xq3.2.2.2.2.2 m 53 (by rw [tm]; decide)).trans enm0
  have s11 := (xq3.2.2.2.2.2 m 50 (by rw [tm]; decide)).trans ecw
  have s12 := (xq3.2.2.2.2.2 m 51 (by rw [tm]; decide)).trans ech
  have s13 := (xq3.2.2.2.2.2 m 59 (by rw [tm]; decide)).trans ewr0
  have s14 := (xq3.2.2.2.2.2 m 52 (by rw [tm]; decide)).trans eivm
  have pr15 := gMw.fr xq3.2 (by decide) hmw
  have pr16 := gRn.fr xq3.2 (by decide) hzz9
  have pr17 := gSO.fr xq3.2 (by decide) hso
  have pr18 := gPi.fr xq3.2 (by decide) hpi
  have pr19 := gTs.fr xq3.2 (by decide) hts
  refine gz_s 1 (pc' := 129) (L' := [some (.ref 2), some (.ref x), some (.ref m), some (.ref o), some (.int (zi i)), some (.int (zi k)), none, none]) (S' := [.ref m]) rfl ?_
  refine gz_call rfl (by decide) rfl (by decide) (by decide) (gcal_of rfl rfl rfl (Nat.le_of_ble_eq_true rfl) (gJ.recv (G := gGG) sq3.1 tm rfl rfl)) (mm_thrown2 _ sq3.1 m tm fq3_1 efq3_1 (by omega)) (fun q20 _ wq20 => ?_)
  obtain ⟨pq20, oq20, hq20⟩ := q20
  obtain ⟨xq20, zq20, gq20, aq20, bq20, uq20_0⟩ := wq20
  refine ⟨_, gq20, ?_⟩
  show gz gPP gGG gcn _ _ 132 [some (.ref 2), some (.ref x), some (.ref m), some (.ref o), some (.int (zi i)), some (.int (zi k)), none, none] [.int (zi zq20)] hq20 _
  have sq20 : gSs rT 1027 ty [1000, 1001, 2999] h hq20 := gSs.tr sq3 xq20 (by decide)
  have s21 := (xq20.2.2.2.2.2 m 16 (by rw [tm]; decide)).trans s4
  have s22 := (xq20.2.2.2.2.2 m 18 (by rw [tm]; decide)).trans s5
  have s23 := (xq20.2.2.2.2.2 m 19 (by rw [tm]; decide)).trans s6
  have s24 := (xq20.2.2.2.2.2 m 21 (by rw [tm]; decide)).trans s7
  have s25 := (xq20.2.2.2.2.2 m 22 (by rw [tm]; decide)).trans s8
  have s26 := (xq20.2.2.2.2.2 m 20 (by rw [tm]; decide)).trans s9
  have s27 := (xq20.2.2.2.2.2 m 53 (by rw [tm]; decide)).trans s10
  have s28 := (xq20.2.2.2.2.2 m 50 (by rw [tm]; decide)).trans s11
  have s29 := (xq20.2.2.2.2.2 m 51 (by rw [tm]; decide)).trans s12
  have s30 := (xq20.2.2.2.2.2 m 59 (by rw [tm]; decide)).trans s13
  have s31 := (xq20.2.2.2.2.2 m 52 (by rw [tm]; decide)).trans s14
  have s32 := (xq20.2.2.2.2.2 m 1 (by rw [tm]; decide)).trans efq3_0
  have s33 := (xq20.2.2.2.2.2 m 0 (by rw [tm]; decide)).trans efq3_1
  have pr34 := gMw.fr xq20.2 (by decide) pr15
  have pr35 := gRn.fr xq20.2 (by decide) pr16
  have pr36 := gSO.fr xq20.2 (by decide) pr17
  have pr37 := gPi.fr xq20.2 (by decide) pr18
  have pr38 := gTs.fr xq20.2 (by decide) pr19
  refine gz_s 1 (pc' := 134) (L' := [some (.ref 2), some (.ref x), some (.ref m), some (.ref o), some (.int (zi i)), some (.int (zi k)), none, none]) (S' := [.int (zi k), .int (zi zq20)]) rfl ?_
  by_cases hc39 : (zq20 : Int) = k
  · refine gy_icT (pc' := 139) rfl (by decide) (by decide) (by omega) (by omega) hc39 ?_
    refine gz_s 1 (pc' := 577) (L' := [some (.ref 2), some (.ref x), some (.ref m), some (.ref o), some (.int (zi i)), some (.int (zi k)), none, none]) (S' := []) rfl ?_
    have him40 : gIm ty m iv1 S hq20 := ⟨ip, wi, hh, wd, hg, bs, nm0, cw, ch, i0m, wr0, fq3_0, tm, ⟨s21, by omega, by omega⟩, ⟨s22, by omega, by omega⟩, ⟨s23, by omega, by omega⟩, ⟨s24, by omega, by omega⟩, ⟨s25, by omega, by omega⟩, ⟨s26, by omega, by omega⟩, pr37, ⟨s27, by omega, by omega⟩, pr38, ⟨s28, by omega, by omega⟩, ⟨s29, by omega, by omega⟩, by omega, ⟨s31, by omega, by omega⟩, ⟨s30, by omega, by omega⟩, by omega, pr34, pr35, ⟨pr36, by omega⟩, htzm, ⟨s32, by omega, by omega⟩⟩
    exact gz_end (I := .iinc 4 4) (len := 3) rfl (Or.inr (by decide)) ⟨sq20, him40, rfl, rfl, (gLw.s (gLw.s (gLw.s (gLw.s (gLw.s (gLw.n (gLw.n (gLw.n gLw.z))))))))⟩
  · refine gy_icF rfl (by decide) (by decide) (by omega) (by omega) hc39 ?_
    exact False.elim (by omega)
