/-! ===== stretches of the law (by program) ===== -/
set_option maxRecDepth 20000 in
set_option maxHeartbeats 4000000 in
theorem sg_of_octet (d : Nat) {ty : Nat → Nat} {h : gH} {Ln i : Int} {sc : Nat → Int} {x m o : Nat} (hJ : gJ rT 1027 ty h) (uq : gUq ty) (hyst : gSta ty h) (scr : gScr ty Ln sc h) (tx : ty x = 50) (tm : ty m = 1) (to : ty o = 90) (ri : 0 ≤ i ∧ i + 4 ≤ Ln) {S : gSS} (iv : Int) (riv : 0 ≤ iv ∧ iv ≤ 26476544) (k : Int) (rk : 0 ≤ k ∧ k ≤ 2) (hyim : gIm ty m iv S h) : gz gPP gGG gcn (d + 1) (gtLlaw [566]) 536 [some (.ref 2), some (.ref x), some (.ref m), some (.ref o), some (.int (zi i)), none, none, none] [.int (zi k)] h (fun q L9 => gSs rT 1027 ty [1000] h q.2.2 ∧ (gIm ty m iv S q.2.2) ∧ q.1 = 566 ∧ q.2.1 = [] ∧ gLw [some (.ref 2), some (.ref x), some (.ref m), some (.ref o), some (.int (zi i)), none, none, none] L9) := by
  have hln := scr.2.2.2.2.1
  have hS : gSs rT 1027 ty [1000] h h := gSs.rf hJ
  obtain ⟨ip, wi, hh, wd, hg, bs, nm0, cw, ch, i0m, wr0, _, ⟨eip, rip⟩, ⟨ewi, rwi⟩, ⟨ehh, rhh⟩, ⟨ewd, rwd⟩, ⟨ehg, rhg⟩, ⟨ebs, rbs⟩, hpi, ⟨enm0, rnm0⟩, hts, ⟨ecw, rcw⟩, ⟨ech, rch⟩, hcc, ⟨eivm, rivm⟩, ⟨ewr0, rwr0⟩, hcdm, hmw, hzz9, ⟨hso, hwr⟩, htzm⟩ := hyim
  have hmcw : iv / 64 % 64 = cw := by omega
  have hmch : iv / 4096 % 64 = ch := by omega
  have hmn0 : iv % 64 = nm0 := by omega
  have hmi0 : iv / 262144 = i0m := by omega
  refine gy_s 6 (pc' := 544) (L' := [some (.ref 2), some (.ref x), some (.ref m), some (.ref o), some (.int (zi i)), some (.int (zi k)), none, none]) (S' := [.int ((zi i) + (zi 1)), .ref 2, .ref m]) (L2 := [some (.ref 2), some (.ref x), some (.ref m), some (.ref o), some (.int (zi i)), some (.int (zi k)), none, none]) (S2 := [.int (zi (i + 1)), .ref 2, .ref m]) rfl (by simp only [zi_add, zi_sub, zi_mul, zi_neg, zi_and1, zi_and7, zi_and15, zi_and31, zi_and255]) (by simp only [zi_add, zi_sub, zi_mul, zi_neg, zi_and1, zi_and7, zi_and15, zi_and31, zi_and255]) ?_
  refine gs_st2 rfl (by decide) rfl (gScr.fr hS.2 (by decide) scr) (by omega) (by omega) (fun rs1 => ?_)
  refine gz_call rfl (by decide) rfl (by decide) (by decide) (gcal_of rfl rfl rfl (Nat.le_of_ble_eq_true rfl) (gJ.recv (G := gGG) hS.1 tm rfl rfl)) (mm_octet2 _ hS.1 m tm (sc (i + 1).toNat) (by omega) wr0 ewr0 (by omega) S.2 (by omega) hso) (fun q2 _ wq2 => ?_)
  obtain ⟨pq2, oq2, hq2⟩ := q2
  obtain ⟨xq2, zq2, fq2_0, gq2, aq2, bq2, efq2_0, afq2_0, bfq2_0, uq2_0, uq2_1⟩ := wq2
  refine ⟨_, gq2, ?_⟩
  show gz gPP gGG gcn _ _ 548 [some (.ref 2), some (.ref x), some (.ref m), some (.ref o), some (.int (zi i)), some (.int (zi k)), none, none] [.int (zi zq2)] hq2 _
  have sq2 : gSs rT 1027 ty [1000] h hq2 := gSs.tr hS xq2 (by decide)
  have s3 := (xq2.2.2.2.2.2 m 16 (by rw [tm]; decide)).trans eip
  have s4 := (xq2.2.2.2.2.2 m 18 (by rw [tm]; decide)).trans ewi
  have s5 := (xq2.2.2.2.2.2 m 19 (by rw [tm]; decide)).trans ehh
  have s6 := (xq2.2.2.2.2.2 m 21 (by rw [tm]; decide)).trans ewd
  have s7 := (xq2.2.2.2.2.2 m 22 (by rw [tm]; decide)).trans ehg
  have s8 := (xq2.2.2.2.2.2 m 20 (by rw [tm]; decide)).trans ebs
  have s9 := (xq2.2.2.2.2.2 m 53 (by rw [tm]; decide)).trans enm0
  have s10 := (xq2.2.2.2.2.2 m 50 (by rw [tm]; decide)).trans ecw
  have s11 := (xq2.2.2.2.2.2 m 51 (by rw [tm]; decide)).trans ech
  have s12 := (xq2.2.2.2.2.2 m 59 (by rw [tm]; decide)).trans ewr0
  have s13 := (xq2.2.2.2.2.2 m 52 (by rw [tm]; decide)).trans eivm
  have pr14 := gMw.fr xq2.2 (by decide) hmw
  have pr15 := gRn.fr xq2.2 (by decide) hzz9
  have pr16 := gSO.fr xq2.2 (by decide) hso
  have pr17 := gPi.fr xq2.2 (by decide) hpi
  have pr18 := gTs.fr xq2.2 (by decide) hts
  refine gz_s 2 (pc' := 566) (L' := [some (.ref 2), some (.ref x), some (.ref m), some (.ref o), some (.int (zi i)), some (.int (zi k)), some (.int (zi zq2)), none]) (S' := []) rfl ?_
  have him19 : gIm ty m iv S hq2 := ⟨ip, wi, hh, wd, hg, bs, nm0, cw, ch, i0m, wr0, tm, ⟨s3, by omega, by omega⟩, ⟨s4, by omega, by omega⟩, ⟨s5, by omega, by omega⟩, ⟨s6, by omega, by omega⟩, ⟨s7, by omega, by omega⟩, ⟨s8, by omega, by omega⟩, pr17, ⟨s9, by omega, by omega⟩, pr18, ⟨s10, by omega, by omega⟩, ⟨s11, by omega, by omega⟩, by omega, ⟨s13, by omega, by omega⟩, ⟨s12, by omega, by omega⟩, by omega, pr14, pr15, ⟨pr16, by omega⟩, htzm⟩
  exact gz_end (I := .iinc 4 4) (len := 3) rfl (Or.inr (by decide)) ⟨sq2, him19, rfl, rfl, (gLw.s (gLw.s (gLw.s (gLw.s (gLw.s (gLw.n (gLw.n (gLw.n gLw.z))))))))⟩
