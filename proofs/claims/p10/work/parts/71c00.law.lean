/-! ===== stretches of the law (by program) ===== -/
set_option maxRecDepth 20000 in
set_option maxHeartbeats 4000000 in
theorem sg_turn (d : Nat) {ty : Nat → Nat} {h : gH} {Ln i : Int} {sc : Nat → Int} {x m o : Nat} (hJ : gJ rT 1027 ty h) (uq : gUq ty) (hyst : gSta ty h) (scr : gScr ty Ln sc h) (tx : ty x = 50) (tm : ty m = 1) (to : ty o = 90) (ri : 0 ≤ i ∧ i ≤ 2048) : gz gPP gGG gcn (d + 0) (gtLlaw [104, 131, 144, 196, 236, 276, 316, 368, 420, 469, 497, 525, 553, 566, 572]) 23 [some (.ref 2), some (.ref x), some (.ref m), some (.ref o), some (.int (zi i)), none, none, none] [] h (fun q L9 => q.2.2 = h ∧ q.2.1 = [] ∧ gLw [some (.ref 2), some (.ref x), some (.ref m), some (.ref o), some (.int (zi i)), none, none, none] L9 ∧ ((q.1 = 572) ∨ (i + 4 ≤ Ln ∧ (q.1 = 104 ∨ q.1 = 131 ∨ q.1 = 144 ∨ q.1 = 196 ∨ q.1 = 236 ∨ q.1 = 276 ∨ q.1 = 316 ∨ q.1 = 368 ∨ q.1 = 420 ∨ q.1 = 469 ∨ q.1 = 497 ∨ q.1 = 525 ∨ q.1 = 553 ∨ q.1 = 566)))) := by
  have hln := scr.2.2.2.2.1
  have hS : gSs rT 1027 ty [] h h := gSs.rf hJ
  refine gz_s 2 (pc' := 26) (L' := [some (.ref 2), some (.ref x), some (.ref m), some (.ref o), some (.int (zi i)), none, none, none]) (S' := [.ref 2, .int (zi i)]) rfl ?_
  refine gs_sl2 rfl (by decide) rfl (gScr.fr hS.2 (by decide) scr) ?_
  refine gy_s 2 (pc' := 29) (L' := [some (.ref 2), some (.ref x), some (.ref m), some (.ref o), some (.int (zi i)), none, none, none]) (S' := [.int ((zi Ln) - (zi 4)), .int (zi i)]) (L2 := [some (.ref 2), some (.ref x), some (.ref m), some (.ref o), some (.int (zi i)), none, none, none]) (S2 := [.int (zi (Ln - 4)), .int (zi i)]) rfl (by simp only [zi_add, zi_sub, zi_mul, zi_neg, zi_and1, zi_and7, zi_and15, zi_and31, zi_and255]) (by simp only [zi_add, zi_sub, zi_mul, zi_neg, zi_and1, zi_and7, zi_and15, zi_and31, zi_and255]) ?_
  by_cases hc1 : (Ln - 4 : Int) < i
  · refine gy_icT (pc' := 572) rfl (by decide) (by decide) (by omega) (by omega) hc1 ?_
    exact gz_end (I := .iconst 1) (len := 1) rfl (Or.inr (by decide)) ⟨rfl, rfl, (gLw.s (gLw.s (gLw.s (gLw.s (gLw.s (gLw.n (gLw.n (gLw.n gLw.z)))))))), Or.inl rfl⟩
  · refine gy_icF rfl (by decide) (by decide) (by omega) (by omega) hc1 ?_
    refine gz_s 2 (pc' := 35) (L' := [some (.ref 2), some (.ref x), some (.ref m), some (.ref o), some (.int (zi i)), none, none, none]) (S' := [.int (zi i), .ref 2]) rfl ?_
    refine gs_st2 rfl (by decide) rfl (gScr.fr hS.2 (by decide) scr) (by omega) (by omega) (fun rs2 => ?_)
    refine gy_s 2 (pc' := 39) (L' := [some (.ref 2), some (.ref x), some (.ref m), some (.ref o), some (.int (zi i)), none, none, none]) (S' := [.int ((zi (sc (i).toNat)) &&& (zi 15))]) (L2 := [some (.ref 2), some (.ref x), some (.ref m), some (.ref o), some (.int (zi i)), none, none, none]) (S2 := [.int (zi ((sc (i).toNat) % 16))]) rfl (by simp only [zi_add, zi_sub, zi_mul, zi_neg, zi_and1, zi_and7, zi_and15, zi_and31, zi_and255]) (by simp only [zi_add, zi_sub, zi_mul, zi_neg, zi_and1, zi_and7, zi_and15, zi_and31, zi_and255]) ?_
    rcases (by omega : (sc (i).toNat) % 16 = 0 ∨ (sc (i).toNat) % 16 = 1 ∨ (sc (i).toNat) % 16 = 2 ∨ (sc (i).toNat) % 16 = 3 ∨ (sc (i).toNat) % 16 = 4 ∨ (sc (i).toNat) % 16 = 5 ∨ (sc (i).toNat) % 16 = 6 ∨ (sc (i).toNat) % 16 = 7 ∨ (sc (i).toNat) % 16 = 8 ∨ (sc (i).toNat) % 16 = 9 ∨ (sc (i).toNat) % 16 = 10 ∨ (sc (i).toNat) % 16 = 11 ∨ (sc (i).toNat) % 16 = 12 ∨ (¬ (sc (i).toNat) % 16 = 0 ∧ ¬ (sc (i).toNat) % 16 = 1 ∧ ¬ (sc (i).toNat) % 16 = 2 ∧ ¬ (sc (i).toNat) % 16 = 3 ∧ ¬ (sc (i).toNat) % 16 = 4 ∧ ¬ (sc (i).toNat) % 16 = 5 ∧ ¬ (sc (i).toNat) % 16 = 6 ∧ ¬ (sc (i).toNat) % 16 = 7 ∧ ¬ (sc (i).toNat) % 16 = 8 ∧ ¬ (sc (i).toNat) % 16 = 9 ∧ ¬ (sc (i).toNat) % 16 = 10 ∧ ¬ (sc (i).toNat) % 16 = 11 ∧ ¬ (sc (i).toNat) % 16 = 12)) with he3 | he3 | he3 | he3 | he3 | he3 | he3 | he3 | he3 | he3 | he3 | he3 | he3 | he3
    · refine gy_tab (pc' := 104) (v := 0) (off := 65) rfl (by decide) (by decide) he3 (by decide) rfl (by decide) ?_
      exact gz_end (I := .aload_n 1) (len := 1) rfl (Or.inr (by decide)) ⟨rfl, rfl, (gLw.s (gLw.s (gLw.s (gLw.s (gLw.s (gLw.n (gLw.n (gLw.n gLw.z)))))))), Or.inr ⟨by omega, Or.inl rfl⟩⟩
    · refine gy_tab (pc' := 131) (v := 1) (off := 92) rfl (by decide) (by decide) he3 (by decide) rfl (by decide) ?_
      exact gz_end (I := .aload_n 1) (len := 1) rfl (Or.inr (by decide)) ⟨rfl, rfl, (gLw.s (gLw.s (gLw.s (gLw.s (gLw.s (gLw.n (gLw.n (gLw.n gLw.z)))))))), Or.inr ⟨by omega, Or.inr (Or.inl rfl)⟩⟩
    · refine gy_tab (pc' := 144) (v := 2) (off := 105) rfl (by decide) (by decide) he3 (by decide) rfl (by decide) ?_
      exact gz_end (I := .aload_n 1) (len := 1) rfl (Or.inr (by decide)) ⟨rfl, rfl, (gLw.s (gLw.s (gLw.s (gLw.s (gLw.s (gLw.n (gLw.n (gLw.n gLw.z)))))))), Or.inr ⟨by omega, Or.inr (Or.inr (Or.inl rfl))⟩⟩
    · refine gy_tab (pc' := 196) (v := 3) (off := 157) rfl (by decide) (by decide) he3 (by decide) rfl (by decide) ?_
      exact gz_end (I := .aload_n 1) (len := 1) rfl (Or.inr (by decide)) ⟨rfl, rfl, (gLw.s (gLw.s (gLw.s (gLw.s (gLw.s (gLw.n (gLw.n (gLw.n gLw.z)))))))), Or.inr ⟨by omega, Or.inr (Or.inr (Or.inr (Or.inl rfl)))⟩⟩
    · refine gy_tab (pc' := 236) (v := 4) (off := 197) rfl (by decide) (by decide) he3 (by decide) rfl (by decide) ?_
      exact gz_end (I := .aload_n 1) (len := 1) rfl (Or.inr (by decide)) ⟨rfl, rfl, (gLw.s (gLw.s (gLw.s (gLw.s (gLw.s (gLw.n (gLw.n (gLw.n gLw.z)))))))), Or.inr ⟨by omega, Or.inr (Or.inr (Or.inr (Or.inr (Or.inl rfl))))⟩⟩
    · refine gy_tab (pc' := 276) (v := 5) (off := 237) rfl (by decide) (by decide) he3 (by decide) rfl (by decide) ?_
      exact gz_end (I := .aload_n 1) (len := 1) rfl (Or.inr (by decide)) ⟨rfl, rfl, (gLw.s (gLw.s (gLw.s (gLw.s (gLw.s (gLw.n (gLw.n (gLw.n gLw.z)))))))), Or.inr ⟨by omega, Or.inr (Or.inr (Or.inr (Or.inr (Or.inr (Or.inl rfl)))))⟩⟩
    · refine gy_tab (pc' := 316) (v := 6) (off := 277) rfl (by decide) (by decide) he3 (by decide) rfl (by decide) ?_
      exact gz_end (I := .aload_n 1) (len := 1) rfl (Or.inr (by decide)) ⟨rfl, rfl, (gLw.s (gLw.s (gLw.s (gLw.s (gLw.s (gLw.n (gLw.n (gLw.n gLw.z)))))))), Or.inr ⟨by omega, Or.inr (Or.inr (Or.inr (Or.inr (Or.inr (Or.inr (Or.inl rfl))))))⟩⟩
    · refine gy_tab (pc' := 368) (v := 7) (off := 329) rfl (by decide) (by decide) he3 (by decide) rfl (by decide) ?_
      exact gz_end (I := .aload_n 1) (len := 1) rfl (Or.inr (by decide)) ⟨rfl, rfl, (gLw.s (gLw.s (gLw.s (gLw.s (gLw.s (gLw.n (gLw.n (gLw.n gLw.z)))))))), Or.inr ⟨by omega, Or.inr (Or.inr (Or.inr (Or.inr (Or.inr (Or.inr (Or.inr (Or.inl rfl)))))))⟩⟩
    · refine gy_tab (pc' := 420) (v := 8) (off := 381) rfl (by decide) (by decide) he3 (by decide) rfl (by decide) ?_
      exact gz_end (I := .aload_n 1) (len := 1) rfl (Or.inr (by decide)) ⟨rfl, rfl, (gLw.s (gLw.s (gLw.s (gLw.s (gLw.s (gLw.n (gLw.n (gLw.n gLw.z)))))))), Or.inr ⟨by omega, Or.inr (Or.inr (Or.inr (Or.inr (Or.inr (Or.inr (Or.inr (Or.inr (Or.inl rfl))))))))⟩⟩
    · refine gy_tab (pc' := 469) (v := 9) (off := 430) rfl (by decide) (by decide) he3 (by decide) rfl (by decide) ?_
      exact gz_end (I := .aload_n 1) (len := 1) rfl (Or.inr (by decide)) ⟨rfl, rfl, (gLw.s (gLw.s (gLw.s (gLw.s (gLw.s (gLw.n (gLw.n (gLw.n gLw.z)))))))), Or.inr ⟨by omega, Or.inr (Or.inr (Or.inr (Or.inr (Or.inr (Or.inr (Or.inr (Or.inr (Or.inr (Or.inl rfl)))))))))⟩⟩
    · refine gy_tab (pc' := 497) (v := 10) (off := 458) rfl (by decide) (by decide) he3 (by decide) rfl (by decide) ?_
      exact gz_end (I := .aload_n 1) (len := 1) rfl (Or.inr (by decide)) ⟨rfl, rfl, (gLw.s (gLw.s (gLw.s (gLw.s (gLw.s (gLw.n (gLw.n (gLw.n gLw.z)))))))), Or.inr ⟨by omega, Or.inr (Or.inr (Or.inr (Or.inr (Or.inr (Or.inr (Or.inr (Or.inr (Or.inr (Or.inr (Or.inl rfl))))))))))⟩⟩
    · refine gy_tab (pc' := 525) (v := 11) (off := 486) rfl (by decide) (by decide) he3 (by decide) rfl (by decide) ?_
      exact gz_end (I := .aload_n 1) (len := 1) rfl (Or.inr (by decide)) ⟨rfl, rfl, (gLw.s (gLw.s (gLw.s (gLw.s (gLw.s (gLw.n (gLw.n (gLw.n gLw.z)))))))), Or.inr ⟨by omega, Or.inr (Or.inr (Or.inr (Or.inr (Or.inr (Or.inr (Or.inr (Or.inr (Or.inr (Or.inr (Or.inr (Or.inl rfl)))))))))))⟩⟩
    · refine gy_tab (pc' := 553) (v := 12) (off := 514) rfl (by decide) (by decide) he3 (by decide) rfl (by decide) ?_
      exact gz_end (I := .aload_n 1) (len := 1) rfl (Or.inr (by decide)) ⟨rfl, rfl, (gLw.s (gLw.s (gLw.s (gLw.s (gLw.s (gLw.n (gLw.n (gLw.n gLw.z)))))))), Or.inr ⟨by omega, Or.inr (Or.inr (Or.inr (Or.inr (Or.inr (Or.inr (Or.inr (Or.inr (Or.inr (Or.inr (Or.inr (Or.inr (Or.inl rfl))))))))))))⟩⟩
    · refine gy_tabD (pc' := 566) rfl (by decide) (by omega) (by omega) (by decide) ?_
      exact gz_end (I := .iinc 4 4) (len := 3) rfl (Or.inr (by decide)) ⟨rfl, rfl, (gLw.s (gLw.s (gLw.s (gLw.s (gLw.s (gLw.n (gLw.n (gLw.n gLw.z)))))))), Or.inr ⟨by omega, Or.inr (Or.inr (Or.inr (Or.inr (Or.inr (Or.inr (Or.inr (Or.inr (Or.inr (Or.inr (Or.inr (Or.inr (Or.inr (rfl)))))))))))))⟩⟩
set_option maxRecDepth 20000 in
set_option maxHeartbeats 4000000 in
theorem sg_to_add (d : Nat) {ty : Nat → Nat} {h : gH} {Ln i : Int} {sc : Nat → Int} {x m o : Nat} (hJ : gJ rT 1027 ty h) (uq : gUq ty) (hyst : gSta ty h) (scr : gScr ty Ln sc h) (tx : ty x = 50) (tm : ty m = 1) (to : ty o = 90) (ri : 0 ≤ i ∧ i + 4 ≤ Ln) : gz gPP gGG gcn (d + 0) (gtLlaw [112]) 104 [some (.ref 2), some (.ref x), some (.ref m), some (.ref o), some (.int (zi i)), none, none, none] [] h (fun q L9 => q.2.2 = h ∧ gLw [some (.ref 2), some (.ref x), some (.ref m), some (.ref o), some (.int (zi i)), none, none, none] L9 ∧ q.1 = 112 ∧ ∃ b : Int, -128 ≤ b ∧ b ≤ 127 ∧ q.2.1 = [.int (zi b), .ref x]) := by
  have hln := scr.2.2.2.2.1
  have hS : gSs rT 1027 ty [] h h := gSs.rf hJ
  refine gy_s 5 (pc' := 110) (L' := [some (.ref 2), some (.ref x), some (.ref m), some (.ref o), some (.int (zi i)), none, none, none]) (S' := [.int ((zi i) + (zi 1)), .ref 2, .ref x]) (L2 := [some (.ref 2), some (.ref x), some (.ref m), some (.ref o), some (.int (zi i)), none, none, none]) (S2 := [.int (zi (i + 1)), .ref 2, .ref x]) rfl (by simp only [zi_add, zi_sub, zi_mul, zi_neg, zi_and1, zi_and7, zi_and15, zi_and31, zi_and255]) (by simp only [zi_add, zi_sub, zi_mul, zi_neg, zi_and1, zi_and7, zi_and15, zi_and31, zi_and255]) ?_
  refine gs_st2 rfl (by decide) rfl (gScr.fr hS.2 (by decide) scr) (by omega) (by omega) (fun rs1 => ?_)
  refine gy_i2b rfl (by decide) (fun z2 az2 bz2 ez2 => ?_)
  exact gz_end (I := .invokestatic 59) (len := 3) rfl (Or.inr (by decide)) ⟨rfl, (gLw.s (gLw.s (gLw.s (gLw.s (gLw.s (gLw.n (gLw.n (gLw.n gLw.z)))))))), rfl, z2, by omega, by omega, rfl⟩
set_option maxRecDepth 20000 in
set_option maxHeartbeats 4000000 in
theorem sg_to_sample (d : Nat) {ty : Nat → Nat} {h : gH} {Ln i : Int} {sc : Nat → Int} {x m o : Nat} (hJ : gJ rT 1027 ty h) (uq : gUq ty) (hyst : gSta ty h) (scr : gScr ty Ln sc h) (tx : ty x = 50) (tm : ty m = 1) (to : ty o = 90) (ri : 0 ≤ i ∧ i + 4 ≤ Ln) : gz gPP gGG gcn (d + 0) (gtLlaw [164]) 144 [some (.ref 2), some (.ref x), some (.ref m), some (.ref o), some (.int (zi i)), none, none, none] [] h (fun q L9 => q.2.2 = h ∧ gLw [some (.ref 2), some (.ref x), some (.ref m), some (.ref o), some (.int (zi i)), none, none, none] L9 ∧ q.1 = 164 ∧ q.2.1 = [.ref o, .int (zi (sc (i + 3).toNat)), .int (zi (sc (i + 2).toNat)), .int (zi (sc (i + 1).toNat)), .ref x]) := by
  have hln := scr.2.2.2.2.1
  have hS : gSs rT 1027 ty [] h h := gSs.rf hJ
  refine gy_s 5 (pc' := 150) (L' := [some (.ref 2), some (.ref x), some (.ref m), some (.ref o), some (.int (zi i)), none, none, none]) (S' := [.int ((zi i) + (zi 1)), .ref 2, .ref x]) (L2 := [some (.ref 2), some (.ref x), some (.ref m), some (.ref o), some (.int (zi i)), none, none, none]) (S2 := [.int (zi (i + 1)), .ref 2, .ref x]) rfl (by simp only [zi_add, zi_sub, zi_mul, zi_neg, zi_and1, zi_and7, zi_and15, zi_and31, zi_and255]) (by simp only [zi_add, zi_sub, zi_mul, zi_neg, zi_and1, zi_and7, zi_and15, zi_and31, zi_and255]) ?_
  refine gs_st2 rfl (by decide) rfl (gScr.fr hS.2 (by decide) scr) (by omega) (by omega) (fun rs1 => ?_)
  refine gy_s 4 (pc' := 156) (L' := [some (.ref 2), some (.ref x), some (.ref m), some (.ref o), some (.int (zi i)), none, none, none]) (S' := [.int ((zi i) + (zi 2)), .ref 2, .int (zi (sc (i + 1).toNat)), .ref x]) (L2 := [some (.ref 2), some (.ref x), some (.ref m), some (.ref o), some (.int (zi i)), none, none, none]) (S2 := [.int (zi (i + 2)), .ref 2, .int (zi (sc (i + 1).toNat)), .ref x]) rfl (by simp only [zi_add, zi_sub, zi_mul, zi_neg, zi_and1, zi_and7, zi_and15, zi_and31, zi_and255]) (by simp only [zi_add, zi_sub, zi_mul, zi_neg, zi_and1, zi_and7, zi_and15, zi_and31, zi_and255]) ?_
  refine gs_st2 rfl (by decide) rfl (gScr.fr hS.2 (by decide) scr) (by omega) (by omega) (fun rs2 => ?_)
  refine gy_s 4 (pc' := 162) (L' := [some (.ref 2), some (.ref x), some (.ref m), some (.ref o), some (.int (zi i)), none, none, none]) (S' := [.int ((zi i) + (zi 3)), .ref 2, .int (zi (sc (i + 2).toNat)), .int (zi (sc (i + 1).toNat)), .ref x]) (L2 := [some (.ref 2), some (.ref x), some (.ref m), some (.ref o), some (.int (zi i)), none, none, none]) (S2 := [.int (zi (i + 3)), .ref 2, .int (zi (sc (i + 2).toNat)), .int (zi (sc (i + 1).toNat)), .ref x]) rfl (by simp only [zi_add, zi_sub, zi_mul, zi_neg, zi_and1, zi_and7, zi_and15, zi_and31, zi_and255]) (by simp only [zi_add, zi_sub, zi_mul, zi_neg, zi_and1, zi_and7, zi_and15, zi_and31, zi_and255]) ?_
  refine gs_st2 rfl (by decide) rfl (gScr.fr hS.2 (by decide) scr) (by omega) (by omega) (fun rs3 => ?_)
  refine gz_s 1 (pc' := 164) (L' := [some (.ref 2), some (.ref x), some (.ref m), some (.ref o), some (.int (zi i)), none, none, none]) (S' := [.ref o, .int (zi (sc (i + 3).toNat)), .int (zi (sc (i + 2).toNat)), .int (zi (sc (i + 1).toNat)), .ref x]) rfl ?_
  exact gz_end (I := .invokestatic 70) (len := 3) rfl (Or.inr (by decide)) ⟨rfl, (gLw.s (gLw.s (gLw.s (gLw.s (gLw.s (gLw.n (gLw.n (gLw.n gLw.z)))))))), rfl, rfl⟩
set_option maxRecDepth 20000 in
set_option maxHeartbeats 4000000 in
theorem sg_to_coefficient (d : Nat) {ty : Nat → Nat} {h : gH} {Ln i : Int} {sc : Nat → Int} {x m o : Nat} (hJ : gJ rT 1027 ty h) (uq : gUq ty) (hyst : gSta ty h) (scr : gScr ty Ln sc h) (tx : ty x = 50) (tm : ty m = 1) (to : ty o = 90) (ri : 0 ≤ i ∧ i + 4 ≤ Ln) : gz gPP gGG gcn (d + 0) (gtLlaw [210]) 196 [some (.ref 2), some (.ref x), some (.ref m), some (.ref o), some (.int (zi i)), none, none, none] [] h (fun q L9 => q.2.2 = h ∧ gLw [some (.ref 2), some (.ref x), some (.ref m), some (.ref o), some (.int (zi i)), none, none, none] L9 ∧ q.1 = 210 ∧ q.2.1 = [.ref o, .int (zi (sc (i + 2).toNat)), .int (zi (sc (i + 1).toNat)), .ref x]) := by
  have hln := scr.2.2.2.2.1
  have hS : gSs rT 1027 ty [] h h := gSs.rf hJ
  refine gy_s 5 (pc' := 202) (L' := [some (.ref 2), some (.ref x), some (.ref m), some (.ref o), some (.int (zi i)), none, none, none]) (S' := [.int ((zi i) + (zi 1)), .ref 2, .ref x]) (L2 := [some (.ref 2), some (.ref x), some (.ref m), some (.ref o), some (.int (zi i)), none, none, none]) (S2 := [.int (zi (i + 1)), .ref 2, .ref x]) rfl (by simp only [zi_add, zi_sub, zi_mul, zi_neg, zi_and1, zi_and7, zi_and15, zi_and31, zi_and255]) (by simp only [zi_add, zi_sub, zi_mul, zi_neg, zi_and1, zi_and7, zi_and15, zi_and31, zi_and255]) ?_
  refine gs_st2 rfl (by decide) rfl (gScr.fr hS.2 (by decide) scr) (by omega) (by omega) (fun rs1 => ?_)
  refine gy_s 4 (pc' := 208) (L' := [some (.ref 2), some (.ref x), some (.ref m), some (.ref o), some (.int (zi i)), none, none, none]) (S' := [.int ((zi i) + (zi 2)), .ref 2, .int (zi (sc (i + 1).toNat)), .ref x]) (L2 := [some (.ref 2), some (.ref x), some (.ref m), some (.ref o), some (.int (zi i)), none, none, none]) (S2 := [.int (zi (i + 2)), .ref 2, .int (zi (sc (i + 1).toNat)), .ref x]) rfl (by simp only [zi_add, zi_sub, zi_mul, zi_neg, zi_and1, zi_and7, zi_and15, zi_and31, zi_and255]) (by simp only [zi_add, zi_sub, zi_mul, zi_neg, zi_and1, zi_and7, zi_and15, zi_and31, zi_and255]) ?_
  refine gs_st2 rfl (by decide) rfl (gScr.fr hS.2 (by decide) scr) (by omega) (by omega) (fun rs2 => ?_)
  refine gz_s 1 (pc' := 210) (L' := [some (.ref 2), some (.ref x), some (.ref m), some (.ref o), some (.int (zi i)), none, none, none]) (S' := [.ref o, .int (zi (sc (i + 2).toNat)), .int (zi (sc (i + 1).toNat)), .ref x]) rfl ?_
  exact gz_end (I := .invokestatic 74) (len := 3) rfl (Or.inr (by decide)) ⟨rfl, (gLw.s (gLw.s (gLw.s (gLw.s (gLw.s (gLw.n (gLw.n (gLw.n gLw.z)))))))), rfl, rfl⟩
set_option maxRecDepth 20000 in
set_option maxHeartbeats 4000000 in
theorem sg_to_exact (d : Nat) {ty : Nat → Nat} {h : gH} {Ln i : Int} {sc : Nat → Int} {x m o : Nat} (hJ : gJ rT 1027 ty h) (uq : gUq ty) (hyst : gSta ty h) (scr : gScr ty Ln sc h) (tx : ty x = 50) (tm : ty m = 1) (to : ty o = 90) (ri : 0 ≤ i ∧ i + 4 ≤ Ln) : gz gPP gGG gcn (d + 0) (gtLlaw [250]) 236 [some (.ref 2), some (.ref x), some (.ref m), some (.ref o), some (.int (zi i)), none, none, none] [] h (fun q L9 => q.2.2 = h ∧ gLw [some (.ref 2), some (.ref x), some (.ref m), some (.ref o), some (.int (zi i)), none, none, none] L9 ∧ q.1 = 250 ∧ q.2.1 = [.ref o, .int (zi (sc (i + 2).toNat)), .int (zi (sc (i + 1).toNat)), .ref x]) := by
  have hln := scr.2.2.2.2.1
  have hS : gSs rT 1027 ty [] h h := gSs.rf hJ
  refine gy_s 5 (pc' := 242) (L' := [some (.ref 2), some (.ref x), some (.ref m), some (.ref o), some (.int (zi i)), none, none, none]) (S' := [.int ((zi i) + (zi 1)), .ref 2, .ref x]) (L2 := [some (.ref 2), some (.ref x), some (.ref m), some (.ref o), some (.int (zi i)), none, none, none]) (S2 := [.int (zi (i + 1)), .ref 2, .ref x]) rfl (by simp only [zi_add, zi_sub, zi_mul, zi_neg, zi_and1, zi_and7, zi_and15, zi_and31, zi_and255]) (by simp only [zi_add, zi_sub, zi_mul, zi_neg, zi_and1, zi_and7, zi_and15, zi_and31, zi_and255]) ?_
  refine gs_st2 rfl (by decide) rfl (gScr.fr hS.2 (by decide) scr) (by omega) (by omega) (fun rs1 => ?_)
  refine gy_s 4 (pc' := 248) (L' := [some (.ref 2), some (.ref x), some (.ref m), some (.ref o), some (.int (zi i)), none, none, none]) (S' := [.int ((zi i) + (zi 2)), .ref 2, .int (zi (sc (i + 1).toNat)), .ref x]) (L2 := [some (.ref 2), some (.ref x), some (.ref m), some (.ref o), some (.int (zi i)), none, none, none]) (S2 := [.int (zi (i + 2)), .ref 2, .int (zi (sc (i + 1).toNat)), .ref x]) rfl (by simp only [zi_add, zi_sub, zi_mul, zi_neg, zi_and1, zi_and7, zi_and15, zi_and31, zi_and255]) (by simp only [zi_add, zi_sub, zi_mul, zi_neg, zi_and1, zi_and7, zi_and15, zi_and31, zi_and255]) ?_
  refine gs_st2 rfl (by decide) rfl (gScr.fr hS.2 (by decide) scr) (by omega) (by omega) (fun rs2 => ?_)
  refine gz_s 1 (pc' := 250) (L' := [some (.ref 2), some (.ref x), some (.ref m), some (.ref o), some (.int (zi i)), none, none, none]) (S' := [.ref o, .int (zi (sc (i + 2).toNat)), .int (zi (sc (i + 1).toNat)), .ref x]) rfl ?_
  exact gz_end (I := .invokestatic 78) (len := 3) rfl (Or.inr (by decide)) ⟨rfl, (gLw.s (gLw.s (gLw.s (gLw.s (gLw.s (gLw.n (gLw.n (gLw.n gLw.z)))))))), rfl, rfl⟩
set_option maxRecDepth 20000 in
set_option maxHeartbeats 4000000 in
theorem sg_to_told (d : Nat) {ty : Nat → Nat} {h : gH} {Ln i : Int} {sc : Nat → Int} {x m o : Nat} (hJ : gJ rT 1027 ty h) (uq : gUq ty) (hyst : gSta ty h) (scr : gScr ty Ln sc h) (tx : ty x = 50) (tm : ty m = 1) (to : ty o = 90) (ri : 0 ≤ i ∧ i + 4 ≤ Ln) : gz gPP gGG gcn (d + 0) (gtLlaw [290]) 276 [some (.ref 2), some (.ref x), some (.ref m), some (.ref o), some (.int (zi i)), none, none, none] [] h (fun q L9 => q.2.2 = h ∧ gLw [some (.ref 2), some (.ref x), some (.ref m), some (.ref o), some (.int (zi i)), none, none, none] L9 ∧ q.1 = 290 ∧ q.2.1 = [.ref o, .int (zi (sc (i + 2).toNat)), .int (zi (sc (i + 1).toNat)), .ref x]) := by
  have hln := scr.2.2.2.2.1
  have hS : gSs rT 1027 ty [] h h := gSs.rf hJ
  refine gy_s 5 (pc' := 282) (L' := [some (.ref 2), some (.ref x), some (.ref m), some (.ref o), some (.int (zi i)), none, none, none]) (S' := [.int ((zi i) + (zi 1)), .ref 2, .ref x]) (L2 := [some (.ref 2), some (.ref x), some (.ref m), some (.ref o), some (.int (zi i)), none, none, none]) (S2 := [.int (zi (i + 1)), .ref 2, .ref x]) rfl (by simp only [zi_add, zi_sub, zi_mul, zi_neg, zi_and1, zi_and7, zi_and15, zi_and31, zi_and255]) (by simp only [zi_add, zi_sub, zi_mul, zi_neg, zi_and1, zi_and7, zi_and15, zi_and31, zi_and255]) ?_
  refine gs_st2 rfl (by decide) rfl (gScr.fr hS.2 (by decide) scr) (by omega) (by omega) (fun rs1 => ?_)
  refine gy_s 4 (pc' := 288) (L' := [some (.ref 2), some (.ref x), some (.ref m), some (.ref o), some (.int (zi i)), none, none, none]) (S' := [.int ((zi i) + (zi 2)), .ref 2, .int (zi (sc (i + 1).toNat)), .ref x]) (L2 := [some (.ref 2), some (.ref x), some (.ref m), some (.ref o), some (.int (zi i)), none, none, none]) (S2 := [.int (zi (i + 2)), .ref 2, .int (zi (sc (i + 1).toNat)), .ref x]) rfl (by simp only [zi_add, zi_sub, zi_mul, zi_neg, zi_and1, zi_and7, zi_and15, zi_and31, zi_and255]) (by simp only [zi_add, zi_sub, zi_mul, zi_neg, zi_and1, zi_and7, zi_and15, zi_and31, zi_and255]) ?_
  refine gs_st2 rfl (by decide) rfl (gScr.fr hS.2 (by decide) scr) (by omega) (by omega) (fun rs2 => ?_)
  refine gz_s 1 (pc' := 290) (L' := [some (.ref 2), some (.ref x), some (.ref m), some (.ref o), some (.int (zi i)), none, none, none]) (S' := [.ref o, .int (zi (sc (i + 2).toNat)), .int (zi (sc (i + 1).toNat)), .ref x]) rfl ?_
  exact gz_end (I := .invokestatic 81) (len := 3) rfl (Or.inr (by decide)) ⟨rfl, (gLw.s (gLw.s (gLw.s (gLw.s (gLw.s (gLw.n (gLw.n (gLw.n gLw.z)))))))), rfl, rfl⟩
set_option maxRecDepth 20000 in
set_option maxHeartbeats 4000000 in
theorem sg_to_table (d : Nat) {ty : Nat → Nat} {h : gH} {Ln i : Int} {sc : Nat → Int} {x m o : Nat} (hJ : gJ rT 1027 ty h) (uq : gUq ty) (hyst : gSta ty h) (scr : gScr ty Ln sc h) (tx : ty x = 50) (tm : ty m = 1) (to : ty o = 90) (ri : 0 ≤ i ∧ i + 4 ≤ Ln) : gz gPP gGG gcn (d + 0) (gtLlaw [336]) 316 [some (.ref 2), some (.ref x), some (.ref m), some (.ref o), some (.int (zi i)), none, none, none] [] h (fun q L9 => q.2.2 = h ∧ gLw [some (.ref 2), some (.ref x), some (.ref m), some (.ref o), some (.int (zi i)), none, none, none] L9 ∧ q.1 = 336 ∧ q.2.1 = [.ref o, .int (zi (sc (i + 3).toNat)), .int (zi (sc (i + 2).toNat)), .int (zi (sc (i + 1).toNat)), .ref x]) := by
  have hln := scr.2.2.2.2.1
  have hS : gSs rT 1027 ty [] h h := gSs.rf hJ
  refine gy_s 5 (pc' := 322) (L' := [some (.ref 2), some (.ref x), some (.ref m), some (.ref o), some (.int (zi i)), none, none, none]) (S' := [.int ((zi i) + (zi 1)), .ref 2, .ref x]) (L2 := [some (.ref 2), some (.ref x), some (.ref m), some (.ref o), some (.int (zi i)), none, none, none]) (S2 := [.int (zi (i + 1)), .ref 2, .ref x]) rfl (by simp only [zi_add, zi_sub, zi_mul, zi_neg, zi_and1, zi_and7, zi_and15, zi_and31, zi_and255]) (by simp only [zi_add, zi_sub, zi_mul, zi_neg, zi_and1, zi_and7, zi_and15, zi_and31, zi_and255]) ?_
  refine gs_st2 rfl (by decide) rfl (gScr.fr hS.2 (by decide) scr) (by omega) (by omega) (fun rs1 => ?_)
  refine gy_s 4 (pc' := 328) (L' := [some (.ref 2), some (.ref x), some (.ref m), some (.ref o), some (.int (zi i)), none, none, none]) (S' := [.int ((zi i) + (zi 2)), .ref 2, .int (zi (sc (i + 1).toNat)), .ref x]) (L2 := [some (.ref 2), some (.ref x), some (.ref m), some (.ref o), some (.int (zi i)), none, none, none]) (S2 := [.int (zi (i + 2)), .ref 2, .int (zi (sc (i + 1).toNat)), .ref x]) rfl (by simp only [zi_add, zi_sub, zi_mul, zi_neg, zi_and1, zi_and7, zi_and15, zi_and31, zi_and255]) (by simp only [zi_add, zi_sub, zi_mul, zi_neg, zi_and1, zi_and7, zi_and15, zi_and31, zi_and255]) ?_
  refine gs_st2 rfl (by decide) rfl (gScr.fr hS.2 (by decide) scr) (by omega) (by omega) (fun rs2 => ?_)
  refine gy_s 4 (pc' := 334) (L' := [some (.ref 2), some (.ref x), some (.ref m), some (.ref o), some (.int (zi i)), none, none, none]) (S' := [.int ((zi i) + (zi 3)), .ref 2, .int (zi (sc (i + 2).toNat)), .int (zi (sc (i + 1).toNat)), .ref x]) (L2 := [some (.ref 2), some (.ref x), some (.ref m), some (.ref o), some (.int (zi i)), none, none, none]) (S2 := [.int (zi (i + 3)), .ref 2, .int (zi (sc (i + 2).toNat)), .int (zi (sc (i + 1).toNat)), .ref x]) rfl (by simp only [zi_add, zi_sub, zi_mul, zi_neg, zi_and1, zi_and7, zi_and15, zi_and31, zi_and255]) (by simp only [zi_add, zi_sub, zi_mul, zi_neg, zi_and1, zi_and7, zi_and15, zi_and31, zi_and255]) ?_
  refine gs_st2 rfl (by decide) rfl (gScr.fr hS.2 (by decide) scr) (by omega) (by omega) (fun rs3 => ?_)
  refine gz_s 1 (pc' := 336) (L' := [some (.ref 2), some (.ref x), some (.ref m), some (.ref o), some (.int (zi i)), none, none, none]) (S' := [.ref o, .int (zi (sc (i + 3).toNat)), .int (zi (sc (i + 2).toNat)), .int (zi (sc (i + 1).toNat)), .ref x]) rfl ?_
  exact gz_end (I := .invokestatic 84) (len := 3) rfl (Or.inr (by decide)) ⟨rfl, (gLw.s (gLw.s (gLw.s (gLw.s (gLw.s (gLw.n (gLw.n (gLw.n gLw.z)))))))), rfl, rfl⟩
set_option maxRecDepth 20000 in
set_option maxHeartbeats 4000000 in
theorem sg_to_point (d : Nat) {ty : Nat → Nat} {h : gH} {Ln i : Int} {sc : Nat → Int} {x m o : Nat} (hJ : gJ rT 1027 ty h) (uq : gUq ty) (hyst : gSta ty h) (scr : gScr ty Ln sc h) (tx : ty x = 50) (tm : ty m = 1) (to : ty o = 90) (ri : 0 ≤ i ∧ i + 4 ≤ Ln) : gz gPP gGG gcn (d + 0) (gtLlaw [388]) 368 [some (.ref 2), some (.ref x), some (.ref m), some (.ref o), some (.int (zi i)), none, none, none] [] h (fun q L9 => q.2.2 = h ∧ gLw [some (.ref 2), some (.ref x), some (.ref m), some (.ref o), some (.int (zi i)), none, none, none] L9 ∧ q.1 = 388 ∧ q.2.1 = [.ref o, .int (zi (sc (i + 3).toNat)), .int (zi (sc (i + 2).toNat)), .int (zi (sc (i + 1).toNat)), .ref x]) := by
  have hln := scr.2.2.2.2.1
  have hS : gSs rT 1027 ty [] h h := gSs.rf hJ
  refine gy_s 5 (pc' := 374) (L' := [some (.ref 2), some (.ref x), some (.ref m), some (.ref o), some (.int (zi i)), none, none, none]) (S' := [.int ((zi i) + (zi 1)), .ref 2, .ref x]) (L2 := [some (.ref 2), some (.ref x), some (.ref m), some (.ref o), some (.int (zi i)), none, none, none]) (S2 := [.int (zi (i + 1)), .ref 2, .ref x]) rfl (by simp only [zi_add, zi_sub, zi_mul, zi_neg, zi_and1, zi_and7, zi_and15, zi_and31, zi_and255]) (by simp only [zi_add, zi_sub, zi_mul, zi_neg, zi_and1, zi_and7, zi_and15, zi_and31, zi_and255]) ?_
  refine gs_st2 rfl (by decide) rfl (gScr.fr hS.2 (by decide) scr) (by omega) (by omega) (fun rs1 => ?_)
  refine gy_s 4 (pc' := 380) (L' := [some (.ref 2), some (.ref x), some (.ref m), some (.ref o), some (.int (zi i)), none, none, none]) (S' := [.int ((zi i) + (zi 2)), .ref 2, .int (zi (sc (i + 1).toNat)), .ref x]) (L2 := [some (.ref 2), some (.ref x), some (.ref m), some (.ref o), some (.int (zi i)), none, none, none]) (S2 := [.int (zi (i + 2)), .ref 2, .int (zi (sc (i + 1).toNat)), .ref x]) rfl (by simp only [zi_add, zi_sub, zi_mul, zi_neg, zi_and1, zi_and7, zi_and15, zi_and31, zi_and255]) (by simp only [zi_add, zi_sub, zi_mul, zi_neg, zi_and1, zi_and7, zi_and15, zi_and31, zi_and255]) ?_
  refine gs_st2 rfl (by decide) rfl (gScr.fr hS.2 (by decide) scr) (by omega) (by omega) (fun rs2 => ?_)
  refine gy_s 4 (pc' := 386) (L' := [some (.ref 2), some (.ref x), some (.ref m), some (.ref o), some (.int (zi i)), none, none, none]) (S' := [.int ((zi i) + (zi 3)), .ref 2, .int (zi (sc (i + 2).toNat)), .int (zi (sc (i + 1).toNat)), .ref x]) (L2 := [some (.ref 2), some (.ref x), some (.ref m), some (.ref o), some (.int (zi i)), none, none, none]) (S2 := [.int (zi (i + 3)), .ref 2, .int (zi (sc (i + 2).toNat)), .int (zi (sc (i + 1).toNat)), .ref x]) rfl (by simp only [zi_add, zi_sub, zi_mul, zi_neg, zi_and1, zi_and7, zi_and15, zi_and31, zi_and255]) (by simp only [zi_add, zi_sub, zi_mul, zi_neg, zi_and1, zi_and7, zi_and15, zi_and31, zi_and255]) ?_
  refine gs_st2 rfl (by decide) rfl (gScr.fr hS.2 (by decide) scr) (by omega) (by omega) (fun rs3 => ?_)
  refine gz_s 1 (pc' := 388) (L' := [some (.ref 2), some (.ref x), some (.ref m), some (.ref o), some (.int (zi i)), none, none, none]) (S' := [.ref o, .int (zi (sc (i + 3).toNat)), .int (zi (sc (i + 2).toNat)), .int (zi (sc (i + 1).toNat)), .ref x]) rfl ?_
  exact gz_end (I := .invokestatic 87) (len := 3) rfl (Or.inr (by decide)) ⟨rfl, (gLw.s (gLw.s (gLw.s (gLw.s (gLw.s (gLw.n (gLw.n (gLw.n gLw.z)))))))), rfl, rfl⟩
set_option maxRecDepth 20000 in
set_option maxHeartbeats 4000000 in
theorem sg_to_restart (d : Nat) {ty : Nat → Nat} {h : gH} {Ln i : Int} {sc : Nat → Int} {x m o : Nat} (hJ : gJ rT 1027 ty h) (uq : gUq ty) (hyst : gSta ty h) (scr : gScr ty Ln sc h) (tx : ty x = 50) (tm : ty m = 1) (to : ty o = 90) (ri : 0 ≤ i ∧ i + 4 ≤ Ln) : gz gPP gGG gcn (d + 0) (gtLlaw [477]) 469 [some (.ref 2), some (.ref x), some (.ref m), some (.ref o), some (.int (zi i)), none, none, none] [] h (fun q L9 => q.2.2 = h ∧ gLw [some (.ref 2), some (.ref x), some (.ref m), some (.ref o), some (.int (zi i)), none, none, none] L9 ∧ q.1 = 477 ∧ q.2.1 = [.ref o, .int (zi (sc (i + 1).toNat)), .ref x]) := by
  have hln := scr.2.2.2.2.1
  have hS : gSs rT 1027 ty [] h h := gSs.rf hJ
  refine gy_s 5 (pc' := 475) (L' := [some (.ref 2), some (.ref x), some (.ref m), some (.ref o), some (.int (zi i)), none, none, none]) (S' := [.int ((zi i) + (zi 1)), .ref 2, .ref x]) (L2 := [some (.ref 2), some (.ref x), some (.ref m), some (.ref o), some (.int (zi i)), none, none, none]) (S2 := [.int (zi (i + 1)), .ref 2, .ref x]) rfl (by simp only [zi_add, zi_sub, zi_mul, zi_neg, zi_and1, zi_and7, zi_and15, zi_and31, zi_and255]) (by simp only [zi_add, zi_sub, zi_mul, zi_neg, zi_and1, zi_and7, zi_and15, zi_and31, zi_and255]) ?_
  refine gs_st2 rfl (by decide) rfl (gScr.fr hS.2 (by decide) scr) (by omega) (by omega) (fun rs1 => ?_)
  refine gz_s 1 (pc' := 477) (L' := [some (.ref 2), some (.ref x), some (.ref m), some (.ref o), some (.int (zi i)), none, none, none]) (S' := [.ref o, .int (zi (sc (i + 1).toNat)), .ref x]) rfl ?_
  exact gz_end (I := .invokestatic 94) (len := 3) rfl (Or.inr (by decide)) ⟨rfl, (gLw.s (gLw.s (gLw.s (gLw.s (gLw.s (gLw.n (gLw.n (gLw.n gLw.z)))))))), rfl, rfl⟩
set_option maxRecDepth 20000 in
set_option maxHeartbeats 4000000 in
theorem sg_to_encode (d : Nat) {ty : Nat → Nat} {h : gH} {Ln i : Int} {sc : Nat → Int} {x m o : Nat} (hJ : gJ rT 1027 ty h) (uq : gUq ty) (hyst : gSta ty h) (scr : gScr ty Ln sc h) (tx : ty x = 50) (tm : ty m = 1) (to : ty o = 90) (ri : 0 ≤ i ∧ i + 4 ≤ Ln) : gz gPP gGG gcn (d + 0) (gtLlaw [505]) 497 [some (.ref 2), some (.ref x), some (.ref m), some (.ref o), some (.int (zi i)), none, none, none] [] h (fun q L9 => q.2.2 = h ∧ gLw [some (.ref 2), some (.ref x), some (.ref m), some (.ref o), some (.int (zi i)), none, none, none] L9 ∧ q.1 = 505 ∧ q.2.1 = [.ref o, .int (zi (sc (i + 1).toNat)), .ref x]) := by
  have hln := scr.2.2.2.2.1
  have hS : gSs rT 1027 ty [] h h := gSs.rf hJ
  refine gy_s 5 (pc' := 503) (L' := [some (.ref 2), some (.ref x), some (.ref m), some (.ref o), some (.int (zi i)), none, none, none]) (S' := [.int ((zi i) + (zi 1)), .ref 2, .ref x]) (L2 := [some (.ref 2), some (.ref x), some (.ref m), some (.ref o), some (.int (zi i)), none, none, none]) (S2 := [.int (zi (i + 1)), .ref 2, .ref x]) rfl (by simp only [zi_add, zi_sub, zi_mul, zi_neg, zi_and1, zi_and7, zi_and15, zi_and31, zi_and255]) (by simp only [zi_add, zi_sub, zi_mul, zi_neg, zi_and1, zi_and7, zi_and15, zi_and31, zi_and255]) ?_
  refine gs_st2 rfl (by decide) rfl (gScr.fr hS.2 (by decide) scr) (by omega) (by omega) (fun rs1 => ?_)
  refine gz_s 1 (pc' := 505) (L' := [some (.ref 2), some (.ref x), some (.ref m), some (.ref o), some (.int (zi i)), none, none, none]) (S' := [.ref o, .int (zi (sc (i + 1).toNat)), .ref x]) rfl ?_
  exact gz_end (I := .invokestatic 98) (len := 3) rfl (Or.inr (by decide)) ⟨rfl, (gLw.s (gLw.s (gLw.s (gLw.s (gLw.s (gLw.n (gLw.n (gLw.n gLw.z)))))))), rfl, rfl⟩
set_option maxRecDepth 20000 in
set_option maxHeartbeats 4000000 in
theorem sg_to_octet (d : Nat) {ty : Nat → Nat} {h : gH} {Ln i : Int} {sc : Nat → Int} {x m o : Nat} (hJ : gJ rT 1027 ty h) (uq : gUq ty) (hyst : gSta ty h) (scr : gScr ty Ln sc h) (tx : ty x = 50) (tm : ty m = 1) (to : ty o = 90) (ri : 0 ≤ i ∧ i + 4 ≤ Ln) : gz gPP gGG gcn (d + 0) (gtLlaw [533]) 525 [some (.ref 2), some (.ref x), some (.ref m), some (.ref o), some (.int (zi i)), none, none, none] [] h (fun q L9 => q.2.2 = h ∧ gLw [some (.ref 2), some (.ref x), some (.ref m), some (.ref o), some (.int (zi i)), none, none, none] L9 ∧ q.1 = 533 ∧ q.2.1 = [.ref o, .int (zi (sc (i + 1).toNat)), .ref x]) := by
  have hln := scr.2.2.2.2.1
  have hS : gSs rT 1027 ty [] h h := gSs.rf hJ
  refine gy_s 5 (pc' := 531) (L' := [some (.ref 2), some (.ref x), some (.ref m), some (.ref o), some (.int (zi i)), none, none, none]) (S' := [.int ((zi i) + (zi 1)), .ref 2, .ref x]) (L2 := [some (.ref 2), some (.ref x), some (.ref m), some (.ref o), some (.int (zi i)), none, none, none]) (S2 := [.int (zi (i + 1)), .ref 2, .ref x]) rfl (by simp only [zi_add, zi_sub, zi_mul, zi_neg, zi_and1, zi_and7, zi_and15, zi_and31, zi_and255]) (by simp only [zi_add, zi_sub, zi_mul, zi_neg, zi_and1, zi_and7, zi_and15, zi_and31, zi_and255]) ?_
  refine gs_st2 rfl (by decide) rfl (gScr.fr hS.2 (by decide) scr) (by omega) (by omega) (fun rs1 => ?_)
  refine gz_s 1 (pc' := 533) (L' := [some (.ref 2), some (.ref x), some (.ref m), some (.ref o), some (.int (zi i)), none, none, none]) (S' := [.ref o, .int (zi (sc (i + 1).toNat)), .ref x]) rfl ?_
  exact gz_end (I := .invokestatic 101) (len := 3) rfl (Or.inr (by decide)) ⟨rfl, (gLw.s (gLw.s (gLw.s (gLw.s (gLw.s (gLw.n (gLw.n (gLw.n gLw.z)))))))), rfl, rfl⟩
set_option maxRecDepth 20000 in
set_option maxHeartbeats 4000000 in
theorem sg_next (d : Nat) {ty : Nat → Nat} {h : gH} {Ln i : Int} {sc : Nat → Int} {x m o : Nat} (hJ : gJ rT 1027 ty h) (uq : gUq ty) (hyst : gSta ty h) (scr : gScr ty Ln sc h) (tx : ty x = 50) (tm : ty m = 1) (to : ty o = 90) (ri : 0 ≤ i ∧ i + 4 ≤ Ln) : gz gPP gGG gcn (d + 0) (gtLlaw [23]) 566 [some (.ref 2), some (.ref x), some (.ref m), some (.ref o), some (.int (zi i)), none, none, none] [] h (fun q L9 => q.2.2 = h ∧ gLw [some (.ref 2), some (.ref x), some (.ref m), some (.ref o), some (.int (zi (i + 4))), none, none, none] L9 ∧ q.1 = 23 ∧ q.2.1 = []) := by
  have hln := scr.2.2.2.2.1
  have hS : gSs rT 1027 ty [] h h := gSs.rf hJ
  refine gy_s 2 (pc' := 23) (L' := [some (.ref 2), some (.ref x), some (.ref m), some (.ref o), some (.int ((zi i) + zi 4)), none, none, none]) (S' := []) (L2 := [some (.ref 2), some (.ref x), some (.ref m), some (.ref o), some (.int (zi (i + 4))), none, none, none]) (S2 := []) rfl (by simp only [zi_add, zi_sub, zi_mul, zi_neg, zi_and1, zi_and7, zi_and15, zi_and31, zi_and255]) (by simp only [zi_add, zi_sub, zi_mul, zi_neg, zi_and1, zi_and7, zi_and15, zi_and31, zi_and255]) ?_
  exact gz_end (I := .iload 4) (len := 2) rfl (Or.inr (by decide)) ⟨rfl, (gLw.s (gLw.s (gLw.s (gLw.s (gLw.s (gLw.n (gLw.n (gLw.n gLw.z)))))))), rfl, rfl⟩
set_option maxRecDepth 20000 in
set_option maxHeartbeats 4000000 in
theorem sg_end (d : Nat) {ty : Nat → Nat} {h : gH} {Ln i : Int} {sc : Nat → Int} {x m o : Nat} (hJ : gJ rT 1027 ty h) (uq : gUq ty) (hyst : gSta ty h) (scr : gScr ty Ln sc h) (tx : ty x = 50) (tm : ty m = 1) (to : ty o = 90) (ri : 0 ≤ i ∧ i ≤ 2048) : gz gPP gGG gcn (d + 0) (gtLlaw []) 572 [some (.ref 2), some (.ref x), some (.ref m), some (.ref o), some (.int (zi i)), none, none, none] [] h (fun q L9 => q.2.2 = h ∧ q.1 = 573 ∧ q.2.1 = [.int (zi 1)]) := by
  have hln := scr.2.2.2.2.1
  have hS : gSs rT 1027 ty [] h h := gSs.rf hJ
  refine gz_s 1 (pc' := 573) (L' := [some (.ref 2), some (.ref x), some (.ref m), some (.ref o), some (.int (zi i)), none, none, none]) (S' := [.int (zi 1)]) rfl ?_
  exact gz_end (I := .ireturn) (len := 1) rfl (Or.inl rfl) ⟨rfl, rfl, rfl⟩
set_option maxRecDepth 20000 in
set_option maxHeartbeats 4000000 in
theorem sg_of_add (d : Nat) {ty : Nat → Nat} {h : gH} {Ln i : Int} {sc : Nat → Int} {x m o : Nat} (hJ : gJ rT 1027 ty h) (uq : gUq ty) (hyst : gSta ty h) (scr : gScr ty Ln sc h) (tx : ty x = 50) (tm : ty m = 1) (to : ty o = 90) (ri : 0 ≤ i ∧ i + 4 ≤ Ln) (iv : Int) (riv : 0 ≤ iv ∧ iv ≤ 2058) (k : Int) (rk : 0 ≤ k ∧ k ≤ 2) (hyim : gIm ty m iv h) : gz gPP gGG gcn (d + 1) (gtLlaw [566]) 115 [some (.ref 2), some (.ref x), some (.ref m), some (.ref o), some (.int (zi i)), none, none, none] [.int (zi k)] h (fun q L9 => gSs rT 1027 ty [1000, 1001, 2999] h q.2.2 ∧ (gIm ty m iv q.2.2) ∧ q.1 = 566 ∧ q.2.1 = [] ∧ gLw [some (.ref 2), some (.ref x), some (.ref m), some (.ref o), some (.int (zi i)), none, none, none] L9) := by
  have hln := scr.2.2.2.2.1
  have hS : gSs rT 1027 ty [1000, 1001, 2999] h h := gSs.rf hJ
  obtain ⟨ip, wi, hh, wd, hg, bs, nm0, cw, ch, i0m, _, ⟨eip, rip⟩, ⟨ewi, rwi⟩, ⟨ehh, rhh⟩, ⟨ewd, rwd⟩, ⟨ehg, rhg⟩, ⟨ebs, rbs⟩, hpi, ⟨enm0, rnm0⟩, hts, ⟨ecw, rcw⟩, ⟨ech, rch⟩, hcc, ⟨eivm, rivm⟩, hcdm⟩ := hyim
  refine gy_s 6 (pc' := 123) (L' := [some (.ref 2), some (.ref x), some (.ref m), some (.ref o), some (.int (zi i)), some (.int (zi k)), none, none]) (S' := [.int ((zi i) + (zi 1)), .ref 2, .ref m]) (L2 := [some (.ref 2), some (.ref x), some (.ref m), some (.ref o), some (.int (zi i)), some (.int (zi k)), none, none]) (S2 := [.int (zi (i + 1)), .ref 2, .ref m]) rfl (by simp only [zi_add, zi_sub, zi_mul, zi_neg, zi_and1, zi_and7, zi_and15, zi_and31, zi_and255]) (by simp only [zi_add, zi_sub, zi_mul, zi_neg, zi_and1, zi_and7, zi_and15, zi_and31, zi_and255]) ?_
  refine gs_st2 rfl (by decide) rfl (gScr.fr hS.2 (by decide) scr) (by omega) (by omega) (fun rs1 => ?_)
  refine gy_i2b rfl (by decide) (fun z2 az2 bz2 ez2 => ?_)
  refine gz_call rfl (by decide) rfl (by decide) (by decide) (gcal_of rfl rfl rfl (Nat.le_of_ble_eq_true rfl) (gJ.recv (G := gGG) hS.1 tm rfl rfl)) (mm_add _ hS.1 m tm z2 (by omega) ) (fun q3 _ wq3 => ?_)
  obtain ⟨pq3, oq3, hq3⟩ := q3
  obtain ⟨xq3, gq3⟩ := wq3
  refine ⟨_, gq3, ?_⟩
  show gz gPP gGG gcn _ _ 128 [some (.ref 2), some (.ref x), some (.ref m), some (.ref o), some (.int (zi i)), some (.int (zi k)), none, none] [] hq3 _
  have sq3 : gSs rT 1027 ty [1000, 1001, 2999] h hq3 := gSs.tr hS xq3 (by decide)
  have s4 := (xq3.2.2.2.2.2 m 16 (by rw [tm]; decide)).trans eip
  have s5 := (xq3.2.2.2.2.2 m 18 (by rw [tm]; decide)).trans ewi
  have s6 := (xq3.2.2.2.2.2 m 19 (by rw [tm]; decide)).trans ehh
  have s7 := (xq3.2.2.2.2.2 m 21 (by rw [tm]; decide)).trans ewd
  have s8 := (xq3.2.2.2.2.2 m 22 (by rw [tm]; decide)).trans ehg
  have s9 := (xq3.2.2.2.2.2 m 20 (by rw [tm]; decide)).trans ebs
  have s10 := (xq3.2.2.2.2.2 m 53 (by rw [tm]; decide)).trans enm0
  have s11 := (xq3.2.2.2.2.2 m 50 (by rw [tm]; decide)).trans ecw
  have s12 := (xq3.2.2.2.2.2 m 51 (by rw [tm]; decide)).trans ech
  have s13 := (xq3.2.2.2.2.2 m 52 (by rw [tm]; decide)).trans eivm
  have pr14 := gPi.fr xq3.2 (by decide) hpi
  have pr15 := gTs.fr xq3.2 (by decide) hts
  refine gz_s 1 (pc' := 566) (L' := [some (.ref 2), some (.ref x), some (.ref m), some (.ref o), some (.int (zi i)), some (.int (zi k)), none, none]) (S' := []) rfl ?_
  have him16 : gIm ty m iv hq3 := ⟨ip, wi, hh, wd, hg, bs, nm0, cw, ch, i0m, tm, ⟨s4, by omega, by omega⟩, ⟨s5, by omega, by omega⟩, ⟨s6, by omega, by omega⟩, ⟨s7, by omega, by omega⟩, ⟨s8, by omega, by omega⟩, ⟨s9, by omega, by omega⟩, pr14, ⟨s10, by omega, by omega⟩, pr15, ⟨s11, by omega, by omega⟩, ⟨s12, by omega, by omega⟩, by omega, ⟨s13, by omega, by omega⟩, by omega⟩
  exact gz_end (I := .iinc 4 4) (len := 3) rfl (Or.inr (by decide)) ⟨sq3, him16, rfl, rfl, (gLw.s (gLw.s (gLw.s (gLw.s (gLw.s (gLw.n (gLw.n (gLw.n gLw.z))))))))⟩
set_option maxRecDepth 20000 in
set_option maxHeartbeats 4000000 in
theorem sg_of_sample (d : Nat) {ty : Nat → Nat} {h : gH} {Ln i : Int} {sc : Nat → Int} {x m o : Nat} (hJ : gJ rT 1027 ty h) (uq : gUq ty) (hyst : gSta ty h) (scr : gScr ty Ln sc h) (tx : ty x = 50) (tm : ty m = 1) (to : ty o = 90) (ri : 0 ≤ i ∧ i + 4 ≤ Ln) (iv : Int) (riv : 0 ≤ iv ∧ iv ≤ 2058) (k : Int) (rk : 0 ≤ k ∧ k ≤ 2) (hyim : gIm ty m iv h) : gz gPP gGG gcn (d + 4) (gtLlaw [566]) 167 [some (.ref 2), some (.ref x), some (.ref m), some (.ref o), some (.int (zi i)), none, none, none] [.int (zi k)] h (fun q L9 => gSs rT 1027 ty [1000] h q.2.2 ∧ (gIm ty m iv q.2.2) ∧ q.1 = 566 ∧ q.2.1 = [] ∧ gLw [some (.ref 2), some (.ref x), some (.ref m), some (.ref o), some (.int (zi i)), none, none, none] L9) := by
  have hln := scr.2.2.2.2.1
  have hS : gSs rT 1027 ty [1000] h h := gSs.rf hJ
  obtain ⟨ip, wi, hh, wd, hg, bs, nm0, cw, ch, i0m, _, ⟨eip, rip⟩, ⟨ewi, rwi⟩, ⟨ehh, rhh⟩, ⟨ewd, rwd⟩, ⟨ehg, rhg⟩, ⟨ebs, rbs⟩, hpi, ⟨enm0, rnm0⟩, hts, ⟨ecw, rcw⟩, ⟨ech, rch⟩, hcc, ⟨eivm, rivm⟩, hcdm⟩ := hyim
  refine gy_s 6 (pc' := 175) (L' := [some (.ref 2), some (.ref x), some (.ref m), some (.ref o), some (.int (zi i)), some (.int (zi k)), none, none]) (S' := [.int ((zi i) + (zi 1)), .ref 2, .ref m]) (L2 := [some (.ref 2), some (.ref x), some (.ref m), some (.ref o), some (.int (zi i)), some (.int (zi k)), none, none]) (S2 := [.int (zi (i + 1)), .ref 2, .ref m]) rfl (by simp only [zi_add, zi_sub, zi_mul, zi_neg, zi_and1, zi_and7, zi_and15, zi_and31, zi_and255]) (by simp only [zi_add, zi_sub, zi_mul, zi_neg, zi_and1, zi_and7, zi_and15, zi_and31, zi_and255]) ?_
  refine gs_st2 rfl (by decide) rfl (gScr.fr hS.2 (by decide) scr) (by omega) (by omega) (fun rs1 => ?_)
  refine gy_s 4 (pc' := 181) (L' := [some (.ref 2), some (.ref x), some (.ref m), some (.ref o), some (.int (zi i)), some (.int (zi k)), none, none]) (S' := [.int ((zi i) + (zi 2)), .ref 2, .int (zi (sc (i + 1).toNat)), .ref m]) (L2 := [some (.ref 2), some (.ref x), some (.ref m), some (.ref o), some (.int (zi i)), some (.int (zi k)), none, none]) (S2 := [.int (zi (i + 2)), .ref 2, .int (zi (sc (i + 1).toNat)), .ref m]) rfl (by simp only [zi_add, zi_sub, zi_mul, zi_neg, zi_and1, zi_and7, zi_and15, zi_and31, zi_and255]) (by simp only [zi_add, zi_sub, zi_mul, zi_neg, zi_and1, zi_and7, zi_and15, zi_and31, zi_and255]) ?_
  refine gs_st2 rfl (by decide) rfl (gScr.fr hS.2 (by decide) scr) (by omega) (by omega) (fun rs2 => ?_)
  refine gy_s 4 (pc' := 187) (L' := [some (.ref 2), some (.ref x), some (.ref m), some (.ref o), some (.int (zi i)), some (.int (zi k)), none, none]) (S' := [.int ((zi i) + (zi 3)), .ref 2, .int (zi (sc (i + 2).toNat)), .int (zi (sc (i + 1).toNat)), .ref m]) (L2 := [some (.ref 2), some (.ref x), some (.ref m), some (.ref o), some (.int (zi i)), some (.int (zi k)), none, none]) (S2 := [.int (zi (i + 3)), .ref 2, .int (zi (sc (i + 2).toNat)), .int (zi (sc (i + 1).toNat)), .ref m]) rfl (by simp only [zi_add, zi_sub, zi_mul, zi_neg, zi_and1, zi_and7, zi_and15, zi_and31, zi_and255]) (by simp only [zi_add, zi_sub, zi_mul, zi_neg, zi_and1, zi_and7, zi_and15, zi_and31, zi_and255]) ?_
  refine gs_st2 rfl (by decide) rfl (gScr.fr hS.2 (by decide) scr) (by omega) (by omega) (fun rs3 => ?_)
  refine gz_call rfl (by decide) rfl (by decide) (by decide) (gcal_of rfl rfl rfl (Nat.le_of_ble_eq_true rfl) (gJ.recv (G := gGG) hS.1 tm rfl rfl)) (mm_sample _ hS.1 m tm (sc (i + 1).toNat) (by omega) (sc (i + 2).toNat) (by omega) (sc (i + 3).toNat) (by omega) ip eip (by omega) wi ewi (by omega) hh ehh (by omega) wd ewd (by omega) hg ehg (by omega) bs ebs (by omega) hpi) (fun q4 _ wq4 => ?_)
  obtain ⟨pq4, oq4, hq4⟩ := q4
  obtain ⟨xq4, zq4, gq4, aq4, bq4⟩ := wq4
  refine ⟨_, gq4, ?_⟩
  show gz gPP gGG gcn _ _ 191 [some (.ref 2), some (.ref x), some (.ref m), some (.ref o), some (.int (zi i)), some (.int (zi k)), none, none] [.int (zi zq4)] hq4 _
  have sq4 : gSs rT 1027 ty [1000] h hq4 := gSs.tr hS xq4 (by decide)
  have s5 := (xq4.2.2.2.2.2 m 16 (by rw [tm]; decide)).trans eip
  have s6 := (xq4.2.2.2.2.2 m 18 (by rw [tm]; decide)).trans ewi
  have s7 := (xq4.2.2.2.2.2 m 19 (by rw [tm]; decide)).trans ehh
  have s8 := (xq4.2.2.2.2.2 m 21 (by rw [tm]; decide)).trans ewd
  have s9 := (xq4.2.2.2.2.2 m 22 (by rw [tm]; decide)).trans ehg
  have s10 := (xq4.2.2.2.2.2 m 20 (by rw [tm]; decide)).trans ebs
  have s11 := (xq4.2.2.2.2.2 m 53 (by rw [tm]; decide)).trans enm0
  have s12 := (xq4.2.2.2.2.2 m 50 (by rw [tm]; decide)).trans ecw
  have s13 := (xq4.2.2.2.2.2 m 51 (by rw [tm]; decide)).trans ech
  have s14 := (xq4.2.2.2.2.2 m 52 (by rw [tm]; decide)).trans eivm
  have pr15 := gPi.fr xq4.2 (by decide) hpi
  have pr16 := gTs.fr xq4.2 (by decide) hts
  refine gz_s 2 (pc' := 566) (L' := [some (.ref 2), some (.ref x), some (.ref m), some (.ref o), some (.int (zi i)), some (.int (zi k)), some (.int (zi zq4)), none]) (S' := []) rfl ?_
  have him17 : gIm ty m iv hq4 := ⟨ip, wi, hh, wd, hg, bs, nm0, cw, ch, i0m, tm, ⟨s5, by omega, by omega⟩, ⟨s6, by omega, by omega⟩, ⟨s7, by omega, by omega⟩, ⟨s8, by omega, by omega⟩, ⟨s9, by omega, by omega⟩, ⟨s10, by omega, by omega⟩, pr15, ⟨s11, by omega, by omega⟩, pr16, ⟨s12, by omega, by omega⟩, ⟨s13, by omega, by omega⟩, by omega, ⟨s14, by omega, by omega⟩, by omega⟩
  exact gz_end (I := .iinc 4 4) (len := 3) rfl (Or.inr (by decide)) ⟨sq4, him17, rfl, rfl, (gLw.s (gLw.s (gLw.s (gLw.s (gLw.s (gLw.n (gLw.n (gLw.n gLw.z))))))))⟩
set_option maxRecDepth 20000 in
set_option maxHeartbeats 4000000 in
theorem sg_of_coefficient (d : Nat) {ty : Nat → Nat} {h : gH} {Ln i : Int} {sc : Nat → Int} {x m o : Nat} (hJ : gJ rT 1027 ty h) (uq : gUq ty) (hyst : gSta ty h) (scr : gScr ty Ln sc h) (tx : ty x = 50) (tm : ty m = 1) (to : ty o = 90) (ri : 0 ≤ i ∧ i + 4 ≤ Ln) (iv : Int) (riv : 0 ≤ iv ∧ iv ≤ 2058) (k : Int) (rk : 0 ≤ k ∧ k ≤ 2) (hyim : gIm ty m iv h) : gz gPP gGG gcn (d + 2) (gtLlaw [566]) 213 [some (.ref 2), some (.ref x), some (.ref m), some (.ref o), some (.int (zi i)), none, none, none] [.int (zi k)] h (fun q L9 => gSs rT 1027 ty [1000] h q.2.2 ∧ (gIm ty m iv q.2.2) ∧ q.1 = 566 ∧ q.2.1 = [] ∧ gLw [some (.ref 2), some (.ref x), some (.ref m), some (.ref o), some (.int (zi i)), none, none, none] L9) := by
  have hln := scr.2.2.2.2.1
  have hS : gSs rT 1027 ty [1000] h h := gSs.rf hJ
  obtain ⟨ip, wi, hh, wd, hg, bs, nm0, cw, ch, i0m, _, ⟨eip, rip⟩, ⟨ewi, rwi⟩, ⟨ehh, rhh⟩, ⟨ewd, rwd⟩, ⟨ehg, rhg⟩, ⟨ebs, rbs⟩, hpi, ⟨enm0, rnm0⟩, hts, ⟨ecw, rcw⟩, ⟨ech, rch⟩, hcc, ⟨eivm, rivm⟩, hcdm⟩ := hyim
  refine gy_s 6 (pc' := 221) (L' := [some (.ref 2), some (.ref x), some (.ref m), some (.ref o), some (.int (zi i)), some (.int (zi k)), none, none]) (S' := [.int ((zi i) + (zi 1)), .ref 2, .ref m]) (L2 := [some (.ref 2), some (.ref x), some (.ref m), some (.ref o), some (.int (zi i)), some (.int (zi k)), none, none]) (S2 := [.int (zi (i + 1)), .ref 2, .ref m]) rfl (by simp only [zi_add, zi_sub, zi_mul, zi_neg, zi_and1, zi_and7, zi_and15, zi_and31, zi_and255]) (by simp only [zi_add, zi_sub, zi_mul, zi_neg, zi_and1, zi_and7, zi_and15, zi_and31, zi_and255]) ?_
  refine gs_st2 rfl (by decide) rfl (gScr.fr hS.2 (by decide) scr) (by omega) (by omega) (fun rs1 => ?_)
  refine gy_s 4 (pc' := 227) (L' := [some (.ref 2), some (.ref x), some (.ref m), some (.ref o), some (.int (zi i)), some (.int (zi k)), none, none]) (S' := [.int ((zi i) + (zi 2)), .ref 2, .int (zi (sc (i + 1).toNat)), .ref m]) (L2 := [some (.ref 2), some (.ref x), some (.ref m), some (.ref o), some (.int (zi i)), some (.int (zi k)), none, none]) (S2 := [.int (zi (i + 2)), .ref 2, .int (zi (sc (i + 1).toNat)), .ref m]) rfl (by simp only [zi_add, zi_sub, zi_mul, zi_neg, zi_and1, zi_and7, zi_and15, zi_and31, zi_and255]) (by simp only [zi_add, zi_sub, zi_mul, zi_neg, zi_and1, zi_and7, zi_and15, zi_and31, zi_and255]) ?_
  refine gs_st2 rfl (by decide) rfl (gScr.fr hS.2 (by decide) scr) (by omega) (by omega) (fun rs2 => ?_)
  refine gz_call rfl (by decide) rfl (by decide) (by decide) (gcal_of rfl rfl rfl (Nat.le_of_ble_eq_true rfl) (gJ.recv (G := gGG) hS.1 tm rfl rfl)) (mm_coefficient _ hS.1 m tm (sc (i + 1).toNat) (by omega) (sc (i + 2).toNat) (by omega) ) (fun q3 _ wq3 => ?_)
  obtain ⟨pq3, oq3, hq3⟩ := q3
  obtain ⟨xq3, zq3, gq3, aq3, bq3⟩ := wq3
  refine ⟨_, gq3, ?_⟩
  show gz gPP gGG gcn _ _ 231 [some (.ref 2), some (.ref x), some (.ref m), some (.ref o), some (.int (zi i)), some (.int (zi k)), none, none] [.int (zi zq3)] hq3 _
  have sq3 : gSs rT 1027 ty [1000] h hq3 := gSs.tr hS xq3 (by decide)
  have s4 := (xq3.2.2.2.2.2 m 16 (by rw [tm]; decide)).trans eip
  have s5 := (xq3.2.2.2.2.2 m 18 (by rw [tm]; decide)).trans ewi
  have s6 := (xq3.2.2.2.2.2 m 19 (by rw [tm]; decide)).trans ehh
  have s7 := (xq3.2.2.2.2.2 m 21 (by rw [tm]; decide)).trans ewd
  have s8 := (xq3.2.2.2.2.2 m 22 (by rw [tm]; decide)).trans ehg
  have s9 := (xq3.2.2.2.2.2 m 20 (by rw [tm]; decide)).trans ebs
  have s10 := (xq3.2.2.2.2.2 m 53 (by rw [tm]; decide)).trans enm0
  have s11 := (xq3.2.2.2.2.2 m 50 (by rw [tm]; decide)).trans ecw
  have s12 := (xq3.2.2.2.2.2 m 51 (by rw [tm]; decide)).trans ech
  have s13 := (xq3.2.2.2.2.2 m 52 (by rw [tm]; decide)).trans eivm
  have pr14 := gPi.fr xq3.2 (by decide) hpi
  have pr15 := gTs.fr xq3.2 (by decide) hts
  refine gz_s 2 (pc' := 566) (L' := [some (.ref 2), some (.ref x), some (.ref m), some (.ref o), some (.int (zi i)), some (.int (zi k)), some (.int (zi zq3)), none]) (S' := []) rfl ?_
  have him16 : gIm ty m iv hq3 := ⟨ip, wi, hh, wd, hg, bs, nm0, cw, ch, i0m, tm, ⟨s4, by omega, by omega⟩, ⟨s5, by omega, by omega⟩, ⟨s6, by omega, by omega⟩, ⟨s7, by omega, by omega⟩, ⟨s8, by omega, by omega⟩, ⟨s9, by omega, by omega⟩, pr14, ⟨s10, by omega, by omega⟩, pr15, ⟨s11, by omega, by omega⟩, ⟨s12, by omega, by omega⟩, by omega, ⟨s13, by omega, by omega⟩, by omega⟩
  exact gz_end (I := .iinc 4 4) (len := 3) rfl (Or.inr (by decide)) ⟨sq3, him16, rfl, rfl, (gLw.s (gLw.s (gLw.s (gLw.s (gLw.s (gLw.n (gLw.n (gLw.n gLw.z))))))))⟩
set_option maxRecDepth 20000 in
set_option maxHeartbeats 4000000 in
theorem sg_of_exact (d : Nat) {ty : Nat → Nat} {h : gH} {Ln i : Int} {sc : Nat → Int} {x m o : Nat} (hJ : gJ rT 1027 ty h) (uq : gUq ty) (hyst : gSta ty h) (scr : gScr ty Ln sc h) (tx : ty x = 50) (tm : ty m = 1) (to : ty o = 90) (ri : 0 ≤ i ∧ i + 4 ≤ Ln) (iv : Int) (riv : 0 ≤ iv ∧ iv ≤ 2058) (k : Int) (rk : 0 ≤ k ∧ k ≤ 2) (hyim : gIm ty m iv h) : gz gPP gGG gcn (d + 3) (gtLlaw [566]) 253 [some (.ref 2), some (.ref x), some (.ref m), some (.ref o), some (.int (zi i)), none, none, none] [.int (zi k)] h (fun q L9 => gSs rT 1027 ty [1000] h q.2.2 ∧ (gIm ty m iv q.2.2) ∧ q.1 = 566 ∧ q.2.1 = [] ∧ gLw [some (.ref 2), some (.ref x), some (.ref m), some (.ref o), some (.int (zi i)), none, none, none] L9) := by
  have hln := scr.2.2.2.2.1
  have hS : gSs rT 1027 ty [1000] h h := gSs.rf hJ
  obtain ⟨ip, wi, hh, wd, hg, bs, nm0, cw, ch, i0m, _, ⟨eip, rip⟩, ⟨ewi, rwi⟩, ⟨ehh, rhh⟩, ⟨ewd, rwd⟩, ⟨ehg, rhg⟩, ⟨ebs, rbs⟩, hpi, ⟨enm0, rnm0⟩, hts, ⟨ecw, rcw⟩, ⟨ech, rch⟩, hcc, ⟨eivm, rivm⟩, hcdm⟩ := hyim
  refine gy_s 6 (pc' := 261) (L' := [some (.ref 2), some (.ref x), some (.ref m), some (.ref o), some (.int (zi i)), some (.int (zi k)), none, none]) (S' := [.int ((zi i) + (zi 1)), .ref 2, .ref m]) (L2 := [some (.ref 2), some (.ref x), some (.ref m), some (.ref o), some (.int (zi i)), some (.int (zi k)), none, none]) (S2 := [.int (zi (i + 1)), .ref 2, .ref m]) rfl (by simp only [zi_add, zi_sub, zi_mul, zi_neg, zi_and1, zi_and7, zi_and15, zi_and31, zi_and255]) (by simp only [zi_add, zi_sub, zi_mul, zi_neg, zi_and1, zi_and7, zi_and15, zi_and31, zi_and255]) ?_
  refine gs_st2 rfl (by decide) rfl (gScr.fr hS.2 (by decide) scr) (by omega) (by omega) (fun rs1 => ?_)
  refine gy_s 4 (pc' := 267) (L' := [some (.ref 2), some (.ref x), some (.ref m), some (.ref o), some (.int (zi i)), some (.int (zi k)), none, none]) (S' := [.int ((zi i) + (zi 2)), .ref 2, .int (zi (sc (i + 1).toNat)), .ref m]) (L2 := [some (.ref 2), some (.ref x), some (.ref m), some (.ref o), some (.int (zi i)), some (.int (zi k)), none, none]) (S2 := [.int (zi (i + 2)), .ref 2, .int (zi (sc (i + 1).toNat)), .ref m]) rfl (by simp only [zi_add, zi_sub, zi_mul, zi_neg, zi_and1, zi_and7, zi_and15, zi_and31, zi_and255]) (by simp only [zi_add, zi_sub, zi_mul, zi_neg, zi_and1, zi_and7, zi_and15, zi_and31, zi_and255]) ?_
  refine gs_st2 rfl (by decide) rfl (gScr.fr hS.2 (by decide) scr) (by omega) (by omega) (fun rs2 => ?_)
  obtain ⟨z3, ez3, az3, bz3⟩ := gJ.int (k := 23) (G := gGG) hS.1 tm rfl rfl rfl
  refine gz_call rfl (by decide) rfl (by decide) (by decide) (gcal_of rfl rfl rfl (Nat.le_of_ble_eq_true rfl) (gJ.recv (G := gGG) hS.1 tm rfl rfl)) (mm_exact _ hS.1 m tm (sc (i + 1).toNat) (by omega) (sc (i + 2).toNat) (by omega) ip eip (by omega) wi ewi (by omega) hh ehh (by omega) wd ewd (by omega) hg ehg (by omega) bs ebs (by omega) z3 ez3 (by omega) hpi) (fun q4 _ wq4 => ?_)
  obtain ⟨pq4, oq4, hq4⟩ := q4
  obtain ⟨xq4, zq4, gq4, aq4, bq4⟩ := wq4
  refine ⟨_, gq4, ?_⟩
  show gz gPP gGG gcn _ _ 271 [some (.ref 2), some (.ref x), some (.ref m), some (.ref o), some (.int (zi i)), some (.int (zi k)), none, none] [.long (zl zq4)] hq4 _
  have sq4 : gSs rT 1027 ty [1000] h hq4 := gSs.tr hS xq4 (by decide)
  have s5 := (xq4.2.2.2.2.2 m 16 (by rw [tm]; decide)).trans eip
  have s6 := (xq4.2.2.2.2.2 m 18 (by rw [tm]; decide)).trans ewi
  have s7 := (xq4.2.2.2.2.2 m 19 (by rw [tm]; decide)).trans ehh
  have s8 := (xq4.2.2.2.2.2 m 21 (by rw [tm]; decide)).trans ewd
  have s9 := (xq4.2.2.2.2.2 m 22 (by rw [tm]; decide)).trans ehg
  have s10 := (xq4.2.2.2.2.2 m 20 (by rw [tm]; decide)).trans ebs
  have s11 := (xq4.2.2.2.2.2 m 53 (by rw [tm]; decide)).trans enm0
  have s12 := (xq4.2.2.2.2.2 m 50 (by rw [tm]; decide)).trans ecw
  have s13 := (xq4.2.2.2.2.2 m 51 (by rw [tm]; decide)).trans ech
  have s14 := (xq4.2.2.2.2.2 m 52 (by rw [tm]; decide)).trans eivm
  have s15 := (xq4.2.2.2.2.2 m 23 (by rw [tm]; decide)).trans ez3
  have pr16 := gPi.fr xq4.2 (by decide) hpi
  have pr17 := gTs.fr xq4.2 (by decide) hts
  refine gz_s 2 (pc' := 566) (L' := [some (.ref 2), some (.ref x), some (.ref m), some (.ref o), some (.int (zi i)), some (.int (zi k)), some (.long (zl zq4)), none]) (S' := []) rfl ?_
  have him18 : gIm ty m iv hq4 := ⟨ip, wi, hh, wd, hg, bs, nm0, cw, ch, i0m, tm, ⟨s5, by omega, by omega⟩, ⟨s6, by omega, by omega⟩, ⟨s7, by omega, by omega⟩, ⟨s8, by omega, by omega⟩, ⟨s9, by omega, by omega⟩, ⟨s10, by omega, by omega⟩, pr16, ⟨s11, by omega, by omega⟩, pr17, ⟨s12, by omega, by omega⟩, ⟨s13, by omega, by omega⟩, by omega, ⟨s14, by omega, by omega⟩, by omega⟩
  exact gz_end (I := .iinc 4 4) (len := 3) rfl (Or.inr (by decide)) ⟨sq4, him18, rfl, rfl, (gLw.s (gLw.s (gLw.s (gLw.s (gLw.s (gLw.n (gLw.n (gLw.n gLw.z))))))))⟩
set_option maxRecDepth 20000 in
set_option maxHeartbeats 4000000 in
theorem sg_of_told (d : Nat) {ty : Nat → Nat} {h : gH} {Ln i : Int} {sc : Nat → Int} {x m o : Nat} (hJ : gJ rT 1027 ty h) (uq : gUq ty) (hyst : gSta ty h) (scr : gScr ty Ln sc h) (tx : ty x = 50) (tm : ty m = 1) (to : ty o = 90) (ri : 0 ≤ i ∧ i + 4 ≤ Ln) (iv : Int) (riv : 0 ≤ iv ∧ iv ≤ 2058) (k : Int) (rk : 0 ≤ k ∧ k ≤ 2) (hyim : gIm ty m iv h) : gz gPP gGG gcn (d + 2) (gtLlaw [566]) 293 [some (.ref 2), some (.ref x), some (.ref m), some (.ref o), some (.int (zi i)), none, none, none] [.int (zi k)] h (fun q L9 => gSs rT 1027 ty [1000] h q.2.2 ∧ (gIm ty m iv q.2.2) ∧ q.1 = 566 ∧ q.2.1 = [] ∧ gLw [some (.ref 2), some (.ref x), some (.ref m), some (.ref o), some (.int (zi i)), none, none, none] L9) := by
  have hln := scr.2.2.2.2.1
  have hS : gSs rT 1027 ty [1000] h h := gSs.rf hJ
  obtain ⟨ip, wi, hh, wd, hg, bs, nm0, cw, ch, i0m, _, ⟨eip, rip⟩, ⟨ewi, rwi⟩, ⟨ehh, rhh⟩, ⟨ewd, rwd⟩, ⟨ehg, rhg⟩, ⟨ebs, rbs⟩, hpi, ⟨enm0, rnm0⟩, hts, ⟨ecw, rcw⟩, ⟨ech, rch⟩, hcc, ⟨eivm, rivm⟩, hcdm⟩ := hyim
  refine gy_s 6 (pc' := 301) (L' := [some (.ref 2), some (.ref x), some (.ref m), some (.ref o), some (.int (zi i)), some (.int (zi k)), none, none]) (S' := [.int ((zi i) + (zi 1)), .ref 2, .ref m]) (L2 := [some (.ref 2), some (.ref x), some (.ref m), some (.ref o), some (.int (zi i)), some (.int (zi k)), none, none]) (S2 := [.int (zi (i + 1)), .ref 2, .ref m]) rfl (by simp only [zi_add, zi_sub, zi_mul, zi_neg, zi_and1, zi_and7, zi_and15, zi_and31, zi_and255]) (by simp only [zi_add, zi_sub, zi_mul, zi_neg, zi_and1, zi_and7, zi_and15, zi_and31, zi_and255]) ?_
  refine gs_st2 rfl (by decide) rfl (gScr.fr hS.2 (by decide) scr) (by omega) (by omega) (fun rs1 => ?_)
  refine gy_s 4 (pc' := 307) (L' := [some (.ref 2), some (.ref x), some (.ref m), some (.ref o), some (.int (zi i)), some (.int (zi k)), none, none]) (S' := [.int ((zi i) + (zi 2)), .ref 2, .int (zi (sc (i + 1).toNat)), .ref m]) (L2 := [some (.ref 2), some (.ref x), some (.ref m), some (.ref o), some (.int (zi i)), some (.int (zi k)), none, none]) (S2 := [.int (zi (i + 2)), .ref 2, .int (zi (sc (i + 1).toNat)), .ref m]) rfl (by simp only [zi_add, zi_sub, zi_mul, zi_neg, zi_and1, zi_and7, zi_and15, zi_and31, zi_and255]) (by simp only [zi_add, zi_sub, zi_mul, zi_neg, zi_and1, zi_and7, zi_and15, zi_and31, zi_and255]) ?_
  refine gs_st2 rfl (by decide) rfl (gScr.fr hS.2 (by decide) scr) (by omega) (by omega) (fun rs2 => ?_)
  obtain ⟨z3, ez3, az3, bz3⟩ := gJ.int (k := 23) (G := gGG) hS.1 tm rfl rfl rfl
  refine gz_call rfl (by decide) rfl (by decide) (by decide) (gcal_of rfl rfl rfl (Nat.le_of_ble_eq_true rfl) (gJ.recv (G := gGG) hS.1 tm rfl rfl)) (mm_told _ hS.1 m tm (sc (i + 1).toNat) (by omega) (sc (i + 2).toNat) (by omega) ip eip (by omega) wi ewi (by omega) hh ehh (by omega) wd ewd (by omega) hg ehg (by omega) bs ebs (by omega) z3 ez3 (by omega) hpi) (fun q4 _ wq4 => ?_)
  obtain ⟨pq4, oq4, hq4⟩ := q4
  obtain ⟨xq4, zq4, gq4, aq4, bq4⟩ := wq4
  refine ⟨_, gq4, ?_⟩
  show gz gPP gGG gcn _ _ 311 [some (.ref 2), some (.ref x), some (.ref m), some (.ref o), some (.int (zi i)), some (.int (zi k)), none, none] [.int (zi zq4)] hq4 _
  have sq4 : gSs rT 1027 ty [1000] h hq4 := gSs.tr hS xq4 (by decide)
  have s5 := (xq4.2.2.2.2.2 m 16 (by rw [tm]; decide)).trans eip
  have s6 := (xq4.2.2.2.2.2 m 18 (by rw [tm]; decide)).trans ewi
  have s7 := (xq4.2.2.2.2.2 m 19 (by rw [tm]; decide)).trans ehh
  have s8 := (xq4.2.2.2.2.2 m 21 (by rw [tm]; decide)).trans ewd
  have s9 := (xq4.2.2.2.2.2 m 22 (by rw [tm]; decide)).trans ehg
  have s10 := (xq4.2.2.2.2.2 m 20 (by rw [tm]; decide)).trans ebs
  have s11 := (xq4.2.2.2.2.2 m 53 (by rw [tm]; decide)).trans enm0
  have s12 := (xq4.2.2.2.2.2 m 50 (by rw [tm]; decide)).trans ecw
  have s13 := (xq4.2.2.2.2.2 m 51 (by rw [tm]; decide)).trans ech
  have s14 := (xq4.2.2.2.2.2 m 52 (by rw [tm]; decide)).trans eivm
  have s15 := (xq4.2.2.2.2.2 m 23 (by rw [tm]; decide)).trans ez3
  have pr16 := gPi.fr xq4.2 (by decide) hpi
  have pr17 := gTs.fr xq4.2 (by decide) hts
  refine gz_s 2 (pc' := 566) (L' := [some (.ref 2), some (.ref x), some (.ref m), some (.ref o), some (.int (zi i)), some (.int (zi k)), some (.int (zi zq4)), none]) (S' := []) rfl ?_
  have him18 : gIm ty m iv hq4 := ⟨ip, wi, hh, wd, hg, bs, nm0, cw, ch, i0m, tm, ⟨s5, by omega, by omega⟩, ⟨s6, by omega, by omega⟩, ⟨s7, by omega, by omega⟩, ⟨s8, by omega, by omega⟩, ⟨s9, by omega, by omega⟩, ⟨s10, by omega, by omega⟩, pr16, ⟨s11, by omega, by omega⟩, pr17, ⟨s12, by omega, by omega⟩, ⟨s13, by omega, by omega⟩, by omega, ⟨s14, by omega, by omega⟩, by omega⟩
  exact gz_end (I := .iinc 4 4) (len := 3) rfl (Or.inr (by decide)) ⟨sq4, him18, rfl, rfl, (gLw.s (gLw.s (gLw.s (gLw.s (gLw.s (gLw.n (gLw.n (gLw.n gLw.z))))))))⟩
set_option maxRecDepth 20000 in
set_option maxHeartbeats 4000000 in
theorem sg_of_table (d : Nat) {ty : Nat → Nat} {h : gH} {Ln i : Int} {sc : Nat → Int} {x m o : Nat} (hJ : gJ rT 1027 ty h) (uq : gUq ty) (hyst : gSta ty h) (scr : gScr ty Ln sc h) (tx : ty x = 50) (tm : ty m = 1) (to : ty o = 90) (ri : 0 ≤ i ∧ i + 4 ≤ Ln) (iv : Int) (riv : 0 ≤ iv ∧ iv ≤ 2058) (k : Int) (rk : 0 ≤ k ∧ k ≤ 2) (hyim : gIm ty m iv h) : gz gPP gGG gcn (d + 1) (gtLlaw [566]) 339 [some (.ref 2), some (.ref x), some (.ref m), some (.ref o), some (.int (zi i)), none, none, none] [.int (zi k)] h (fun q L9 => gSs rT 1027 ty [1000, 8999] h q.2.2 ∧ (gIm ty m iv q.2.2) ∧ q.1 = 566 ∧ q.2.1 = [] ∧ gLw [some (.ref 2), some (.ref x), some (.ref m), some (.ref o), some (.int (zi i)), none, none, none] L9) := by
  have hln := scr.2.2.2.2.1
  have hS : gSs rT 1027 ty [1000, 8999] h h := gSs.rf hJ
  obtain ⟨ip, wi, hh, wd, hg, bs, nm0, cw, ch, i0m, _, ⟨eip, rip⟩, ⟨ewi, rwi⟩, ⟨ehh, rhh⟩, ⟨ewd, rwd⟩, ⟨ehg, rhg⟩, ⟨ebs, rbs⟩, hpi, ⟨enm0, rnm0⟩, hts, ⟨ecw, rcw⟩, ⟨ech, rch⟩, hcc, ⟨eivm, rivm⟩, hcdm⟩ := hyim
  refine gy_s 6 (pc' := 347) (L' := [some (.ref 2), some (.ref x), some (.ref m), some (.ref o), some (.int (zi i)), some (.int (zi k)), none, none]) (S' := [.int ((zi i) + (zi 1)), .ref 2, .ref m]) (L2 := [some (.ref 2), some (.ref x), some (.ref m), some (.ref o), some (.int (zi i)), some (.int (zi k)), none, none]) (S2 := [.int (zi (i + 1)), .ref 2, .ref m]) rfl (by simp only [zi_add, zi_sub, zi_mul, zi_neg, zi_and1, zi_and7, zi_and15, zi_and31, zi_and255]) (by simp only [zi_add, zi_sub, zi_mul, zi_neg, zi_and1, zi_and7, zi_and15, zi_and31, zi_and255]) ?_
  refine gs_st2 rfl (by decide) rfl (gScr.fr hS.2 (by decide) scr) (by omega) (by omega) (fun rs1 => ?_)
  refine gy_s 4 (pc' := 353) (L' := [some (.ref 2), some (.ref x), some (.ref m), some (.ref o), some (.int (zi i)), some (.int (zi k)), none, none]) (S' := [.int ((zi i) + (zi 2)), .ref 2, .int (zi (sc (i + 1).toNat)), .ref m]) (L2 := [some (.ref 2), some (.ref x), some (.ref m), some (.ref o), some (.int (zi i)), some (.int (zi k)), none, none]) (S2 := [.int (zi (i + 2)), .ref 2, .int (zi (sc (i + 1).toNat)), .ref m]) rfl (by simp only [zi_add, zi_sub, zi_mul, zi_neg, zi_and1, zi_and7, zi_and15, zi_and31, zi_and255]) (by simp only [zi_add, zi_sub, zi_mul, zi_neg, zi_and1, zi_and7, zi_and15, zi_and31, zi_and255]) ?_
  refine gs_st2 rfl (by decide) rfl (gScr.fr hS.2 (by decide) scr) (by omega) (by omega) (fun rs2 => ?_)
  refine gy_s 4 (pc' := 359) (L' := [some (.ref 2), some (.ref x), some (.ref m), some (.ref o), some (.int (zi i)), some (.int (zi k)), none, none]) (S' := [.int ((zi i) + (zi 3)), .ref 2, .int (zi (sc (i + 2).toNat)), .int (zi (sc (i + 1).toNat)), .ref m]) (L2 := [some (.ref 2), some (.ref x), some (.ref m), some (.ref o), some (.int (zi i)), some (.int (zi k)), none, none]) (S2 := [.int (zi (i + 3)), .ref 2, .int (zi (sc (i + 2).toNat)), .int (zi (sc (i + 1).toNat)), .ref m]) rfl (by simp only [zi_add, zi_sub, zi_mul, zi_neg, zi_and1, zi_and7, zi_and15, zi_and31, zi_and255]) (by simp only [zi_add, zi_sub, zi_mul, zi_neg, zi_and1, zi_and7, zi_and15, zi_and31, zi_and255]) ?_
  refine gs_st2 rfl (by decide) rfl (gScr.fr hS.2 (by decide) scr) (by omega) (by omega) (fun rs3 => ?_)
  refine gz_call rfl (by decide) rfl (by decide) (by decide) (gcal_of rfl rfl rfl (Nat.le_of_ble_eq_true rfl) (gJ.recv (G := gGG) hS.1 tm rfl rfl)) (mm_table _ hS.1 m tm (sc (i + 1).toNat) (by omega) (sc (i + 2).toNat) (by omega) (sc (i + 3).toNat) (by omega) ) (fun q4 _ wq4 => ?_)
  obtain ⟨pq4, oq4, hq4⟩ := q4
  obtain ⟨xq4, zq4, gq4, aq4, bq4⟩ := wq4
  refine ⟨_, gq4, ?_⟩
  show gz gPP gGG gcn _ _ 363 [some (.ref 2), some (.ref x), some (.ref m), some (.ref o), some (.int (zi i)), some (.int (zi k)), none, none] [.int (zi zq4)] hq4 _
  have sq4 : gSs rT 1027 ty [1000, 8999] h hq4 := gSs.tr hS xq4 (by decide)
  have s5 := (xq4.2.2.2.2.2 m 16 (by rw [tm]; decide)).trans eip
  have s6 := (xq4.2.2.2.2.2 m 18 (by rw [tm]; decide)).trans ewi
  have s7 := (xq4.2.2.2.2.2 m 19 (by rw [tm]; decide)).trans ehh
  have s8 := (xq4.2.2.2.2.2 m 21 (by rw [tm]; decide)).trans ewd
  have s9 := (xq4.2.2.2.2.2 m 22 (by rw [tm]; decide)).trans ehg
  have s10 := (xq4.2.2.2.2.2 m 20 (by rw [tm]; decide)).trans ebs
  have s11 := (xq4.2.2.2.2.2 m 53 (by rw [tm]; decide)).trans enm0
  have s12 := (xq4.2.2.2.2.2 m 50 (by rw [tm]; decide)).trans ecw
  have s13 := (xq4.2.2.2.2.2 m 51 (by rw [tm]; decide)).trans ech
  have s14 := (xq4.2.2.2.2.2 m 52 (by rw [tm]; decide)).trans eivm
  have pr15 := gPi.fr xq4.2 (by decide) hpi
  have pr16 := gTs.fr xq4.2 (by decide) hts
  refine gz_s 2 (pc' := 566) (L' := [some (.ref 2), some (.ref x), some (.ref m), some (.ref o), some (.int (zi i)), some (.int (zi k)), some (.int (zi zq4)), none]) (S' := []) rfl ?_
  have him17 : gIm ty m iv hq4 := ⟨ip, wi, hh, wd, hg, bs, nm0, cw, ch, i0m, tm, ⟨s5, by omega, by omega⟩, ⟨s6, by omega, by omega⟩, ⟨s7, by omega, by omega⟩, ⟨s8, by omega, by omega⟩, ⟨s9, by omega, by omega⟩, ⟨s10, by omega, by omega⟩, pr15, ⟨s11, by omega, by omega⟩, pr16, ⟨s12, by omega, by omega⟩, ⟨s13, by omega, by omega⟩, by omega, ⟨s14, by omega, by omega⟩, by omega⟩
  exact gz_end (I := .iinc 4 4) (len := 3) rfl (Or.inr (by decide)) ⟨sq4, him17, rfl, rfl, (gLw.s (gLw.s (gLw.s (gLw.s (gLw.s (gLw.n (gLw.n (gLw.n gLw.z))))))))⟩
set_option maxRecDepth 20000 in
set_option maxHeartbeats 4000000 in
theorem sg_of_point (d : Nat) {ty : Nat → Nat} {h : gH} {Ln i : Int} {sc : Nat → Int} {x m o : Nat} (hJ : gJ rT 1027 ty h) (uq : gUq ty) (hyst : gSta ty h) (scr : gScr ty Ln sc h) (tx : ty x = 50) (tm : ty m = 1) (to : ty o = 90) (ri : 0 ≤ i ∧ i + 4 ≤ Ln) (iv : Int) (riv : 0 ≤ iv ∧ iv ≤ 2058) (iv1 : Int) (riv1 : 0 ≤ iv1 ∧ iv1 ≤ 2058) (k : Int) (rk : 0 ≤ k ∧ k ≤ 2) (pp0 : ((0 ≤ sc (i + 1).toNat ∧ sc (i + 1).toNat ≤ 31 ∧ 0 ≤ sc (i + 2).toNat ∧ sc (i + 2).toNat ≤ 31 ∧ 0 ≤ sc (i + 3).toNat ∧ sc (i + 3).toNat ≤ 255) → ((sc (i + 1).toNat < iv / 64 → iv1 = iv) ∧ (iv / 64 ≤ sc (i + 1).toNat → iv1 = 64 * (sc (i + 1).toNat + 1) + iv % 64))) ∧ (¬ (0 ≤ sc (i + 1).toNat ∧ sc (i + 1).toNat ≤ 31 ∧ 0 ≤ sc (i + 2).toNat ∧ sc (i + 2).toNat ≤ 31 ∧ 0 ≤ sc (i + 3).toNat ∧ sc (i + 3).toNat ≤ 255) → iv1 = iv)) (hyim : gIm ty m iv h) : gz gPP gGG gcn (d + 1) (gtLlaw [566]) 391 [some (.ref 2), some (.ref x), some (.ref m), some (.ref o), some (.int (zi i)), none, none, none] [.int (zi k)] h (fun q L9 => gSs rT 1027 ty [1000, 1050, 1051, 26999] h q.2.2 ∧ (gIm ty m iv1 q.2.2) ∧ q.1 = 566 ∧ q.2.1 = [] ∧ gLw [some (.ref 2), some (.ref x), some (.ref m), some (.ref o), some (.int (zi i)), none, none, none] L9) := by
  have hln := scr.2.2.2.2.1
  have hS : gSs rT 1027 ty [1000, 1050, 1051, 26999] h h := gSs.rf hJ
  obtain ⟨ip, wi, hh, wd, hg, bs, nm0, cw, ch, i0m, _, ⟨eip, rip⟩, ⟨ewi, rwi⟩, ⟨ehh, rhh⟩, ⟨ewd, rwd⟩, ⟨ehg, rhg⟩, ⟨ebs, rbs⟩, hpi, ⟨enm0, rnm0⟩, hts, ⟨ecw, rcw⟩, ⟨ech, rch⟩, hcc, ⟨eivm, rivm⟩, hcdm⟩ := hyim
  refine gy_s 6 (pc' := 399) (L' := [some (.ref 2), some (.ref x), some (.ref m), some (.ref o), some (.int (zi i)), some (.int (zi k)), none, none]) (S' := [.int ((zi i) + (zi 1)), .ref 2, .ref m]) (L2 := [some (.ref 2), some (.ref x), some (.ref m), some (.ref o), some (.int (zi i)), some (.int (zi k)), none, none]) (S2 := [.int (zi (i + 1)), .ref 2, .ref m]) rfl (by simp only [zi_add, zi_sub, zi_mul, zi_neg, zi_and1, zi_and7, zi_and15, zi_and31, zi_and255]) (by simp only [zi_add, zi_sub, zi_mul, zi_neg, zi_and1, zi_and7, zi_and15, zi_and31, zi_and255]) ?_
  refine gs_st2 rfl (by decide) rfl (gScr.fr hS.2 (by decide) scr) (by omega) (by omega) (fun rs1 => ?_)
  refine gy_s 4 (pc' := 405) (L' := [some (.ref 2), some (.ref x), some (.ref m), some (.ref o), some (.int (zi i)), some (.int (zi k)), none, none]) (S' := [.int ((zi i) + (zi 2)), .ref 2, .int (zi (sc (i + 1).toNat)), .ref m]) (L2 := [some (.ref 2), some (.ref x), some (.ref m), some (.ref o), some (.int (zi i)), some (.int (zi k)), none, none]) (S2 := [.int (zi (i + 2)), .ref 2, .int (zi (sc (i + 1).toNat)), .ref m]) rfl (by simp only [zi_add, zi_sub, zi_mul, zi_neg, zi_and1, zi_and7, zi_and15, zi_and31, zi_and255]) (by simp only [zi_add, zi_sub, zi_mul, zi_neg, zi_and1, zi_and7, zi_and15, zi_and31, zi_and255]) ?_
  refine gs_st2 rfl (by decide) rfl (gScr.fr hS.2 (by decide) scr) (by omega) (by omega) (fun rs2 => ?_)
  refine gy_s 4 (pc' := 411) (L' := [some (.ref 2), some (.ref x), some (.ref m), some (.ref o), some (.int (zi i)), some (.int (zi k)), none, none]) (S' := [.int ((zi i) + (zi 3)), .ref 2, .int (zi (sc (i + 2).toNat)), .int (zi (sc (i + 1).toNat)), .ref m]) (L2 := [some (.ref 2), some (.ref x), some (.ref m), some (.ref o), some (.int (zi i)), some (.int (zi k)), none, none]) (S2 := [.int (zi (i + 3)), .ref 2, .int (zi (sc (i + 2).toNat)), .int (zi (sc (i + 1).toNat)), .ref m]) rfl (by simp only [zi_add, zi_sub, zi_mul, zi_neg, zi_and1, zi_and7, zi_and15, zi_and31, zi_and255]) (by simp only [zi_add, zi_sub, zi_mul, zi_neg, zi_and1, zi_and7, zi_and15, zi_and31, zi_and255]) ?_
  refine gs_st2 rfl (by decide) rfl (gScr.fr hS.2 (by decide) scr) (by omega) (by omega) (fun rs3 => ?_)
  refine gz_call rfl (by decide) rfl (by decide) (by decide) (gcal_of rfl rfl rfl (Nat.le_of_ble_eq_true rfl) (gJ.recv (G := gGG) hS.1 tm rfl rfl)) (mm_point4 _ hS.1 m tm (sc (i + 1).toNat) (by omega) (sc (i + 2).toNat) (by omega) (sc (i + 3).toNat) (by omega) cw ecw (by omega) ch ech (by omega) (by omega)) (fun q4 _ wq4 => ?_)
  obtain ⟨pq4, oq4, hq4⟩ := q4
  obtain ⟨xq4, zq4, fq4_0, fq4_1, gq4, aq4, bq4, efq4_0, afq4_0, bfq4_0, efq4_1, afq4_1, bfq4_1, uq4_0, uq4_1, uq4_2⟩ := wq4
  refine ⟨_, gq4, ?_⟩
  show gz gPP gGG gcn _ _ 415 [some (.ref 2), some (.ref x), some (.ref m), some (.ref o), some (.int (zi i)), some (.int (zi k)), none, none] [.int (zi zq4)] hq4 _
  have sq4 : gSs rT 1027 ty [1000, 1050, 1051, 26999] h hq4 := gSs.tr hS xq4 (by decide)
  have s5 := (xq4.2.2.2.2.2 m 16 (by rw [tm]; decide)).trans eip
  have s6 := (xq4.2.2.2.2.2 m 18 (by rw [tm]; decide)).trans ewi
  have s7 := (xq4.2.2.2.2.2 m 19 (by rw [tm]; decide)).trans ehh
  have s8 := (xq4.2.2.2.2.2 m 21 (by rw [tm]; decide)).trans ewd
  have s9 := (xq4.2.2.2.2.2 m 22 (by rw [tm]; decide)).trans ehg
  have s10 := (xq4.2.2.2.2.2 m 20 (by rw [tm]; decide)).trans ebs
  have s11 := (xq4.2.2.2.2.2 m 53 (by rw [tm]; decide)).trans enm0
  have s12 := (xq4.2.2.2.2.2 m 52 (by rw [tm]; decide)).trans eivm
  have pr13 := gPi.fr xq4.2 (by decide) hpi
  have pr14 := gTs.fr xq4.2 (by decide) hts
  refine gz_s 2 (pc' := 566) (L' := [some (.ref 2), some (.ref x), some (.ref m), some (.ref o), some (.int (zi i)), some (.int (zi k)), some (.int (zi zq4)), none]) (S' := []) rfl ?_
  have him15 : gIm ty m iv1 hq4 := ⟨ip, wi, hh, wd, hg, bs, nm0, fq4_0, fq4_1, i0m, tm, ⟨s5, by omega, by omega⟩, ⟨s6, by omega, by omega⟩, ⟨s7, by omega, by omega⟩, ⟨s8, by omega, by omega⟩, ⟨s9, by omega, by omega⟩, ⟨s10, by omega, by omega⟩, pr13, ⟨s11, by omega, by omega⟩, pr14, ⟨efq4_0, by omega, by omega⟩, ⟨efq4_1, by omega, by omega⟩, by omega, ⟨s12, by omega, by omega⟩, by omega⟩
  exact gz_end (I := .iinc 4 4) (len := 3) rfl (Or.inr (by decide)) ⟨sq4, him15, rfl, rfl, (gLw.s (gLw.s (gLw.s (gLw.s (gLw.s (gLw.n (gLw.n (gLw.n gLw.z))))))))⟩
