/-! ===== stretches of the law (by program) ===== -/
set_option maxRecDepth 20000 in
set_option maxHeartbeats 4000000 in
theorem sg_of_encode (d : Nat) {ty : Nat → Nat} {h : gH} {Ln i : Int} {sc : Nat → Int} {x m o : Nat} (hJ : gJ rT 1027 ty h) (uq : gUq ty) (hyst : gSta ty h) (scr : gScr ty Ln sc h) (tx : ty x = 50) (tm : ty m = 1) (to : ty o = 90) (ri : 0 ≤ i ∧ i + 4 ≤ Ln) {S : gSS} (iv : Int) (riv : 0 ≤ iv ∧ iv ≤ 26476544) (iv1 : Int) (riv1 : 0 ≤ iv1 ∧ iv1 ≤ 26476544) (k : Int) (rk : 0 ≤ k ∧ k ≤ 2) (pp0 : ((1 ≤ sc (i + 1).toNat ∧ sc (i + 1).toNat ≤ 100 ∧ 1 ≤ iv / 64 % 64) → iv1 = iv - iv % 64) ∧ (¬ (1 ≤ sc (i + 1).toNat ∧ sc (i + 1).toNat ≤ 100 ∧ 1 ≤ iv / 64 % 64) → iv1 = iv)) (hyim : gIm ty m iv S h) : gz gPP gGG gcn (d + 7) (gtLlaw [566]) 508 [some (.ref 2), some (.ref x), some (.ref m), some (.ref o), some (.int (zi i)), none, none, none] [.int (zi k)] h (fun q L9 => gSs rT 1027 ty [1000, 1053, 1059, 1061, 1062, 1064, 1067, 1074, 1075, 31999, 32999, 33999, 34999, 36999, 37999, 38999, 39999, 40999, 41999, 42999] h q.2.2 ∧ (gIm ty m iv1 (eQ3 (sc (i + 1).toNat) (iv / 262144) (iv / 64 % 64) (iv / 4096 % 64) (iv % 64) S) q.2.2) ∧ q.1 = 566 ∧ q.2.1 = [] ∧ gLw [some (.ref 2), some (.ref x), some (.ref m), some (.ref o), some (.int (zi i)), none, none, none] L9) := by
  have hln := scr.2.2.2.2.1
  have hS : gSs rT 1027 ty [1000, 1053, 1059, 1061, 1062, 1064, 1067, 1074, 1075, 31999, 32999, 33999, 34999, 36999, 37999, 38999, 39999, 40999, 41999, 42999] h h := gSs.rf hJ
  obtain ⟨ip, wi, hh, wd, hg, bs, nm0, cw, ch, i0m, wr0, _, ⟨eip, rip⟩, ⟨ewi, rwi⟩, ⟨ehh, rhh⟩, ⟨ewd, rwd⟩, ⟨ehg, rhg⟩, ⟨ebs, rbs⟩, hpi, ⟨enm0, rnm0⟩, hts, ⟨ecw, rcw⟩, ⟨ech, rch⟩, hcc, ⟨eivm, rivm⟩, ⟨ewr0, rwr0⟩, hcdm, hmw, hzz9, ⟨hso, hwr⟩, htzm⟩ := hyim
  have hmcw : iv / 64 % 64 = cw := by omega
  have hmch : iv / 4096 % 64 = ch := by omega
  have hmn0 : iv % 64 = nm0 := by omega
  have hmi0 : iv / 262144 = i0m := by omega
  obtain ⟨xr1, xr2, xr3, xr4, xr5, xr6, xr7⟩ := hmw
  refine gy_s 6 (pc' := 516) (L' := [some (.ref 2), some (.ref x), some (.ref m), some (.ref o), some (.int (zi i)), some (.int (zi k)), none, none]) (S' := [.int ((zi i) + (zi 1)), .ref 2, .ref m]) (L2 := [some (.ref 2), some (.ref x), some (.ref m), some (.ref o), some (.int (zi i)), some (.int (zi k)), none, none]) (S2 := [.int (zi (i + 1)), .ref 2, .ref m]) rfl (by simp only [zi_add, zi_sub, zi_mul, zi_neg, zi_and1, zi_and7, zi_and15, zi_and31, zi_and255]) (by simp only [zi_add, zi_sub, zi_mul, zi_neg, zi_and1, zi_and7, zi_and15, zi_and31, zi_and255]) ?_
  refine gs_st2 rfl (by decide) rfl (gScr.fr hS.2 (by decide) scr) (by omega) (by omega) (fun rs8 => ?_)
  refine gz_call rfl (by decide) rfl (by decide) (by decide) (gcal_of rfl rfl rfl (Nat.le_of_ble_eq_true rfl) (gJ.recv (G := gGG) hS.1 tm rfl rfl)) (mw_encode _ hS.1 m tm (sc (i + 1).toNat) (by omega) nm0 enm0 (by omega) cw ecw (by omega) ch ech (by omega) i0m eivm (by omega) wr0 ewr0 (by omega) S.1.2.1 S.1.1 S.1.2.2.1 S.1.2.2.2.1 S.1.2.2.2.2.1 S.1.2.2.2.2.2.1 S.1.2.2.2.2.2.2 S.2 (by omega) (by omega) uq hts hso xr2 xr1 hzz9 xr3 xr4 xr5 xr6 xr7 htzm) (fun q9 _ wq9 => ?_)
  obtain ⟨pq9, oq9, hq9⟩ := q9
  obtain ⟨xq9, zq9, fq9_0, fq9_1, fq9_2, gq9, aq9, bq9, efq9_0, afq9_0, bfq9_0, efq9_1, afq9_1, bfq9_1, efq9_2, afq9_2, bfq9_2, uq9_0, uq9_1, uq9_2, uq9_3, uq9_4, yq9_0, yq9_1, yq9_2⟩ := wq9
  refine ⟨_, gq9, ?_⟩
  show gz gPP gGG gcn _ _ 520 [some (.ref 2), some (.ref x), some (.ref m), some (.ref o), some (.int (zi i)), some (.int (zi k)), none, none] [.int (zi zq9)] hq9 _
  have sq9 : gSs rT 1027 ty [1000, 1053, 1059, 1061, 1062, 1064, 1067, 1074, 1075, 31999, 32999, 33999, 34999, 36999, 37999, 38999, 39999, 40999, 41999, 42999] h hq9 := gSs.tr hS xq9 (by decide)
  have s10 := (xq9.2.2.2.2.2 m 16 (by rw [tm]; decide)).trans eip
  have s11 := (xq9.2.2.2.2.2 m 18 (by rw [tm]; decide)).trans ewi
  have s12 := (xq9.2.2.2.2.2 m 19 (by rw [tm]; decide)).trans ehh
  have s13 := (xq9.2.2.2.2.2 m 21 (by rw [tm]; decide)).trans ewd
  have s14 := (xq9.2.2.2.2.2 m 22 (by rw [tm]; decide)).trans ehg
  have s15 := (xq9.2.2.2.2.2 m 20 (by rw [tm]; decide)).trans ebs
  have s16 := (xq9.2.2.2.2.2 m 50 (by rw [tm]; decide)).trans ecw
  have s17 := (xq9.2.2.2.2.2 m 51 (by rw [tm]; decide)).trans ech
  have s18 := (xq9.2.2.2.2.2 m 52 (by rw [tm]; decide)).trans eivm
  have pr19 := gRn.fr xq9.2 (by decide) hzz9
  have pr20 := gPi.fr xq9.2 (by decide) hpi
  have pr21 := gRn.fr xq9.2 (by decide) xr1
  have pr22 := gRn.fr xq9.2 (by decide) xr2
  have pr23 := gRn.fr xq9.2 (by decide) xr3
  have pr24 := gRn.fr xq9.2 (by decide) xr4
  have pr25 := gRn.fr xq9.2 (by decide) xr5
  have pr26 := gRn.fr xq9.2 (by decide) xr6
  refine gz_s 2 (pc' := 566) (L' := [some (.ref 2), some (.ref x), some (.ref m), some (.ref o), some (.int (zi i)), some (.int (zi k)), some (.int (zi zq9)), none]) (S' := []) rfl ?_
  have hmw27 : gMw ty (eQ3 (sc (i + 1).toNat) i0m cw ch nm0 S) hq9 ∧ (eQ3 (sc (i + 1).toNat) i0m cw ch nm0 S).2 = eEx (sc (i + 1).toNat) cw (eNn (sc (i + 1).toNat) i0m cw ch nm0 S) S.2 ∧ eTz fq9_0 (eQ3 (sc (i + 1).toNat) i0m cw ch nm0 S) := by
    by_cases k9 : 1 ≤ sc (i + 1).toNat ∧ sc (i + 1).toNat ≤ 100 ∧ ¬ cw = 0
    · rw [eQ3_y k9, eEx_y k9, show fq9_0 = 0 by omega]
      exact ⟨⟨pr21, pr22, pr23, pr24, pr25, pr26, (by have e9 := yq9_2; rw [eCm_y k9] at e9; exact e9)⟩, rfl, eTz.zero⟩
    · rw [eQ3_n k9, eEx_n k9, show fq9_0 = nm0 by omega]
      exact ⟨⟨pr21, pr22, pr23, pr24, pr25, pr26, (by have e9 := yq9_2; rw [eCm_n k9] at e9; exact e9)⟩, rfl, htzm⟩
  have hmw27s : gSO ty (eQ3 (sc (i + 1).toNat) i0m cw ch nm0 S).2 hq9 := by rw [hmw27.2.1]; exact yq9_1
  have hmw27w := congrArg Prod.fst hmw27.2.1
  have him28 : gIm ty m iv1 (eQ3 (sc (i + 1).toNat) i0m cw ch nm0 S) hq9 := ⟨ip, wi, hh, wd, hg, bs, fq9_0, cw, ch, i0m, fq9_1, tm, ⟨s10, by omega, by omega⟩, ⟨s11, by omega, by omega⟩, ⟨s12, by omega, by omega⟩, ⟨s13, by omega, by omega⟩, ⟨s14, by omega, by omega⟩, ⟨s15, by omega, by omega⟩, pr20, ⟨efq9_0, by omega, by omega⟩, yq9_0, ⟨s16, by omega, by omega⟩, ⟨s17, by omega, by omega⟩, by omega, ⟨s18, by omega, by omega⟩, ⟨efq9_1, by omega, by omega⟩, by omega, hmw27.1, pr19, ⟨hmw27s, by rw [hmw27w]; exact uq9_4⟩, hmw27.2.2⟩
  have him29 : gIm ty m iv1 (eQ3 (sc (i + 1).toNat) (iv / 262144) (iv / 64 % 64) (iv / 4096 % 64) (iv % 64) S) hq9 := by rw [hmi0, hmcw, hmch, hmn0]; exact him28
  exact gz_end (I := .iinc 4 4) (len := 3) rfl (Or.inr (by decide)) ⟨sq9, him29, rfl, rfl, (gLw.s (gLw.s (gLw.s (gLw.s (gLw.s (gLw.n (gLw.n (gLw.n gLw.z))))))))⟩
