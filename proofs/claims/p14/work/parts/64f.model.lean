/-! ===== the model: methods (by program) ===== -/
set_option maxRecDepth 20000 in
set_option maxHeartbeats 4000000 in
theorem mm_damagedBlocks (d : Nat) {ty : Nat → Nat} {h : gH} (hJ : gJ rT 1027 ty h) (m : Nat) (tm : ty m = 1) : gz gPP gGG gcn (d + 0) gt178 0 (gent [.ref m] 3) [] h (fun q _ => gSs rT 1027 ty [] h q.2.2 ∧ ∃ z : Int, gfin gt178 q.1 q.2.1 = some (some (.int (zi z))) ∧ 0 ≤ z ∧ z ≤ 192) := by
  have hS : gSs rT 1027 ty [] h h := gSs.rf hJ
  refine gz_s 4 (pc' := 4) (L' := [some (.ref m), some (.int (zi 0)), some (.int (zi 0))]) (S' := []) rfl ?_
  have lp1 : ∀ (fu : Nat) (h2 : gH) (n : Int) (k : Int), (193 - k).toNat < fu → gSs rT 1027 ty [] h h2 → (0 ≤ n ∧ n ≤ 192) → (0 ≤ k ∧ k ≤ 192) → (n ≤ k) → gz gPP gGG gcn (d + 0) gt178 4 [some (.ref m), some (.int (zi n)), some (.int (zi k))] [] h2 (fun q _ => gSs rT 1027 ty [] h q.2.2 ∧ ∃ z : Int, gfin gt178 q.1 q.2.1 = some (some (.int (zi z))) ∧ 0 ≤ z ∧ z ≤ 192) := by
    intro fu
    induction fu with
    | zero => intro h2 n k hm; exact absurd hm (Nat.not_lt_zero _)
    | succ fu ihlp1 =>
      intro h2 n k lp1m sh2 lp1f0 lp1f1 lp1f2 
      refine gz_s 2 (pc' := 6) (L' := [some (.ref m), some (.int (zi n)), some (.int (zi k))]) (S' := [.ref m, .int (zi k)]) rfl ?_
      refine gs_get rfl (by decide) rfl sh2.1 tm rfl rfl rfl (fun z3 ez3 az3 bz3 => ?_)
      by_cases hc4 : (z3 : Int) ≤ k
      · refine gy_icT (pc' := 35) rfl (by decide) (by decide) (by omega) (by omega) hc4 ?_
        refine gz_s 1 (pc' := 36) (L' := [some (.ref m), some (.int (zi n)), some (.int (zi k))]) (S' := [.int (zi n)]) rfl ?_
        exact gz_end (I := .ireturn) (len := 1) rfl (Or.inl rfl) ⟨sh2, n, rfl, (by omega), (by omega)⟩
      · refine gy_icF rfl (by decide) (by decide) (by omega) (by omega) hc4 ?_
        refine gz_s 1 (pc' := 13) (L' := [some (.ref m), some (.int (zi n)), some (.int (zi k))]) (S' := [.ref m]) rfl ?_
        refine gs_gtr rfl (by decide) rfl sh2.1 tm rfl rfl rfl (fun c5 ec5 tc5 => ?_)
        refine gz_s 1 (pc' := 17) (L' := [some (.ref m), some (.int (zi n)), some (.int (zi k))]) (S' := [.int (zi k), .ref c5]) rfl ?_
        have hl6 : 192 ≤ h2.2.2.2.1 c5 ∧ h2.2.2.2.1 c5 ≤ 192 := gJ.rowl (G := gGG) sh2.1 tc5 rfl
        refine gs_bald rfl (by decide) sh2.1 tc5 rfl rfl (Or.inr rfl) (by decide) (fun _ => rfl) (by omega) (by omega) (fun z7 ez7 az7 bz7 => ?_)
        by_cases hc8 : (z7 : Int) = 0
        · refine gy_ifT (pc' := 27) rfl (by decide) (by decide) (by omega) hc8 ?_
          refine gy_s 4 (pc' := 4) (L' := [some (.ref m), some (.int (zi n)), some (.int ((zi k) + zi 1))]) (S' := []) (L2 := [some (.ref m), some (.int (zi n)), some (.int (zi (k + 1)))]) (S2 := []) rfl (by simp only [zi_add, zi_sub, zi_mul, zi_neg, zi_and1, zi_and7, zi_and15, zi_and31, zi_and255]) (by simp only [zi_add, zi_sub, zi_mul, zi_neg, zi_and1, zi_and7, zi_and15, zi_and31, zi_and255]) ?_
          exact gz_wk (ihlp1 h2 n (k + 1) (by omega) sh2 (by omega) (by omega) (by omega) ) (gLw.s (gLw.s (gLw.s gLw.z)))
        · refine gy_ifF rfl (by decide) (by decide) (by omega) hc8 ?_
          refine gy_s 7 (pc' := 4) (L' := [some (.ref m), some (.int ((zi n) + (zi 1))), some (.int ((zi k) + zi 1))]) (S' := []) (L2 := [some (.ref m), some (.int (zi (n + 1))), some (.int (zi (k + 1)))]) (S2 := []) rfl (by simp only [zi_add, zi_sub, zi_mul, zi_neg, zi_and1, zi_and7, zi_and15, zi_and31, zi_and255]) (by simp only [zi_add, zi_sub, zi_mul, zi_neg, zi_and1, zi_and7, zi_and15, zi_and31, zi_and255]) ?_
          exact gz_wk (ihlp1 h2 (n + 1) (k + 1) (by omega) sh2 (by omega) (by omega) (by omega) ) (gLw.s (gLw.s (gLw.s gLw.z)))
  exact gz_wk (lp1 _ h 0 0 (Nat.lt_succ_self _) hS (by omega) (by omega) (by omega) ) (gLw.s (gLw.s (gLw.s gLw.z)))
