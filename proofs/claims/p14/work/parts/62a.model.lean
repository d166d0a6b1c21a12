/-! ===== the model: methods (by program) ===== -/
set_option maxRecDepth 20000 in
set_option maxHeartbeats 4000000 in
theorem mm_add (d : Nat) {ty : Nat → Nat} {h : gH} (hJ : gJ rT 1027 ty h) (m : Nat) (tm : ty m = 1) (b : Int) (rb : (-128) ≤ b ∧ b ≤ 127) : gz gPP gGG gcn (d + 0) gt131 0 (gent [.ref m, .int (zi b)] 2) [] h (fun q _ => gSs rT 1027 ty [1000, 1001, 2999] h q.2.2 ∧ gfin gt131 q.1 q.2.1 = some none) := by
  have hS : gSs rT 1027 ty [1000, 1001, 2999] h h := gSs.rf hJ
  refine gz_s 2 (pc' := 2) (L' := [some (.ref m), some (.int (zi b))]) (S' := [.ref m, .ref m]) rfl ?_
  refine gs_get rfl (by decide) rfl hS.1 tm rfl rfl rfl (fun z1 ez1 az1 bz1 => ?_)
  refine gz_s 1 (pc' := 8) (L' := [some (.ref m), some (.int (zi b))]) (S' := [.int (zi 2000), .int (zi z1), .ref m]) rfl ?_
  by_cases hc2 : ¬ (z1 : Int) = 2000
  · refine gy_icT (pc' := 15) rfl (by decide) (by decide) (by omega) (by omega) hc2 ?_
    refine gz_s 1 (pc' := 16) (L' := [some (.ref m), some (.int (zi b))]) (S' := [.int (zi 0), .ref m]) rfl ?_
    refine gs_put rfl (by decide) rfl hS tm rfl rfl rfl rfl (Or.inl rfl) (by decide) (by omega) (by omega) (fun h3 sh3 eh3 fh3 => ?_)
    have s4 := (fh3 m 1 (fun q => absurd q.2 (by decide))).trans ez1
    refine gz_s 1 (pc' := 20) (L' := [some (.ref m), some (.int (zi b))]) (S' := [.ref m]) rfl ?_
    refine gs_gtk rfl (by decide) rfl sh3.1 tm rfl rfl eh3 ?_
    refine gy_ifF rfl (by decide) (by decide) (by omega) (by first | (simp [zc]; done) | (simp only [zc]; omega)) ?_
    refine gz_s 1 (pc' := 27) (L' := [some (.ref m), some (.int (zi b))]) (S' := [.ref m]) rfl ?_
    refine gs_gtr rfl (by decide) rfl sh3.1 tm rfl rfl rfl (fun c5 ec5 tc5 => ?_)
    refine gz_s 1 (pc' := 31) (L' := [some (.ref m), some (.int (zi b))]) (S' := [.ref m, .ref c5]) rfl ?_
    refine gs_gtk rfl (by decide) rfl sh3.1 tm rfl rfl s4 ?_
    refine gy_s 3 (pc' := 39) (L' := [some (.ref m), some (.int (zi b))]) (S' := [.int ((zi b) &&& (zi 255)), .int (zi z1), .ref c5]) (L2 := [some (.ref m), some (.int (zi b))]) (S2 := [.int (zi (b % 256)), .int (zi z1), .ref c5]) rfl (by simp only [zi_add, zi_sub, zi_mul, zi_neg, zi_and1, zi_and7, zi_and15, zi_and31, zi_and255]) (by simp only [zi_add, zi_sub, zi_mul, zi_neg, zi_and1, zi_and7, zi_and15, zi_and31, zi_and255]) ?_
    have hl6 : 2000 ≤ h3.2.2.2.1 c5 ∧ h3.2.2.2.1 c5 ≤ 2000 := gJ.rowl (G := gGG) sh3.1 tc5 rfl
    refine gs_ast rfl (by decide) sh3 tc5 rfl rfl rfl (by decide) (fun _ => rfl) (by omega) (by omega) (fun _ => (by decide : (2999 : Nat) ∈ ([1000, 1001, 2999] : List Nat))) (by omega) (by omega) (fun h7 sh7 eh7 fh7 => ?_)
    have s8 := (fh7 m 1 (fun q => absurd (((tm).symm.trans (congrArg ty q.1)).trans tc5) (by decide))).trans s4
    have s9 := (fh7 m 0 (fun q => absurd (((tm).symm.trans (congrArg ty q.1)).trans tc5) (by decide))).trans eh3
    have s10 := (fh7 m 2 (fun q => absurd (((tm).symm.trans (congrArg ty q.1)).trans tc5) (by decide))).trans ec5
    refine gz_s 2 (pc' := 42) (L' := [some (.ref m), some (.int (zi b))]) (S' := [.ref m, .ref m]) rfl ?_
    refine gs_gtk rfl (by decide) rfl sh7.1 tm rfl rfl s8 ?_
    refine gy_s 2 (pc' := 47) (L' := [some (.ref m), some (.int (zi b))]) (S' := [.int ((zi z1) + (zi 1)), .ref m]) (L2 := [some (.ref m), some (.int (zi b))]) (S2 := [.int (zi (z1 + 1)), .ref m]) rfl (by simp only [zi_add, zi_sub, zi_mul, zi_neg, zi_and1, zi_and7, zi_and15, zi_and31, zi_and255]) (by simp only [zi_add, zi_sub, zi_mul, zi_neg, zi_and1, zi_and7, zi_and15, zi_and31, zi_and255]) ?_
    refine gs_put rfl (by decide) rfl sh7 tm rfl rfl rfl rfl (Or.inl rfl) (by decide) (by omega) (by omega) (fun h11 sh11 eh11 fh11 => ?_)
    have s12 := (fh11 m 0 (fun q => absurd q.2 (by decide))).trans s9
    have s13 := (fh11 m 2 (fun q => absurd q.2 (by decide))).trans s10
    exact gz_end (I := .return_) (len := 1) rfl (Or.inl rfl) ⟨sh11, rfl⟩
  · refine gy_icF rfl (by decide) (by decide) (by omega) (by omega) hc2 ?_
    refine gz_s 2 (pc' := 16) (L' := [some (.ref m), some (.int (zi b))]) (S' := [.int (zi 1), .ref m]) rfl ?_
    refine gs_put rfl (by decide) rfl hS tm rfl rfl rfl rfl (Or.inl rfl) (by decide) (by omega) (by omega) (fun h14 sh14 eh14 fh14 => ?_)
    have s15 := (fh14 m 1 (fun q => absurd q.2 (by decide))).trans ez1
    refine gz_s 1 (pc' := 20) (L' := [some (.ref m), some (.int (zi b))]) (S' := [.ref m]) rfl ?_
    refine gs_gtk rfl (by decide) rfl sh14.1 tm rfl rfl eh14 ?_
    refine gy_ifT (pc' := 50) rfl (by decide) (by decide) (by omega) (by first | (simp [zc]; done) | (simp only [zc]; omega)) ?_
    exact gz_end (I := .return_) (len := 1) rfl (Or.inl rfl) ⟨sh14, rfl⟩
set_option maxRecDepth 20000 in
set_option maxHeartbeats 4000000 in
theorem mm_begin (d : Nat) {ty : Nat → Nat} {h : gH} (hJ : gJ rT 1027 ty h) (m : Nat) (tm : ty m = 1) : gz gPP gGG gcn (d + 0) gt144 0 (gent [.ref m] 2) [] h (fun q _ => gSs rT 1027 ty [1045, 20999] h q.2.2 ∧ gfin gt144 q.1 q.2.1 = some none) := by
  have hS : gSs rT 1027 ty [1045, 20999] h h := gSs.rf hJ
  refine gz_s 2 (pc' := 2) (L' := [some (.ref m), none]) (S' := [.int (zi 0), .ref m]) rfl ?_
  refine gs_put rfl (by decide) rfl hS tm rfl rfl rfl rfl (Or.inl rfl) (by decide) (by omega) (by omega) (fun h1 sh1 eh1 fh1 => ?_)
  refine gz_s 2 (pc' := 7) (L' := [some (.ref m), some (.int (zi 0))]) (S' := []) rfl ?_
  have lp2 : ∀ (fu : Nat) (h3 : gH) (k : Int), (3 - k).toNat < fu → gSs rT 1027 ty [1045, 20999] h h3 → (0 ≤ k ∧ k ≤ 3) → h3.2.2.2.2 m 45 = .int (zi 0) → gz gPP gGG gcn (d + 0) gt144 7 [some (.ref m), some (.int (zi k))] [] h3 (fun q _ => gSs rT 1027 ty [1045, 20999] h q.2.2 ∧ gfin gt144 q.1 q.2.1 = some none) := by
    intro fu
    induction fu with
    | zero => intro h3 k hm; exact absurd hm (Nat.not_lt_zero _)
    | succ fu ihlp2 =>
      intro h3 k lp2m sh3 lp2f0 lp2k0
      refine gz_s 2 (pc' := 9) (L' := [some (.ref m), some (.int (zi k))]) (S' := [.int (zi 3), .int (zi k)]) rfl ?_
      by_cases hc4 : (3 : Int) ≤ k
      · refine gy_icT (pc' := 25) rfl (by decide) (by decide) (by omega) (by omega) hc4 ?_
        exact gz_end (I := .return_) (len := 1) rfl (Or.inl rfl) ⟨sh3, rfl⟩
      · refine gy_icF rfl (by decide) (by decide) (by omega) (by omega) hc4 ?_
        refine gz_s 1 (pc' := 13) (L' := [some (.ref m), some (.int (zi k))]) (S' := [.ref m]) rfl ?_
        refine gs_gtr rfl (by decide) rfl sh3.1 tm rfl rfl rfl (fun c5 ec5 tc5 => ?_)
        refine gz_s 2 (pc' := 18) (L' := [some (.ref m), some (.int (zi k))]) (S' := [.int (zi 0), .int (zi k), .ref c5]) rfl ?_
        have hl6 : 3 ≤ h3.2.2.2.1 c5 ∧ h3.2.2.2.1 c5 ≤ 3 := gJ.rowl (G := gGG) sh3.1 tc5 rfl
        refine gs_ast rfl (by decide) sh3 tc5 rfl rfl rfl (by decide) (fun _ => rfl) (by omega) (by omega) (fun _ => (by decide : (20999 : Nat) ∈ ([1045, 20999] : List Nat))) (by omega) (by omega) (fun h7 sh7 eh7 fh7 => ?_)
        have s8 := (fh7 m 45 (fun q => absurd (((tm).symm.trans (congrArg ty q.1)).trans tc5) (by decide))).trans lp2k0
        have s9 := (fh7 m 34 (fun q => absurd (((tm).symm.trans (congrArg ty q.1)).trans tc5) (by decide))).trans ec5
        refine gy_s 2 (pc' := 7) (L' := [some (.ref m), some (.int ((zi k) + zi 1))]) (S' := []) (L2 := [some (.ref m), some (.int (zi (k + 1)))]) (S2 := []) rfl (by simp only [zi_add, zi_sub, zi_mul, zi_neg, zi_and1, zi_and7, zi_and15, zi_and31, zi_and255]) (by simp only [zi_add, zi_sub, zi_mul, zi_neg, zi_and1, zi_and7, zi_and15, zi_and31, zi_and255]) ?_
        exact gz_wk (ihlp2 h7 (k + 1) (by omega) sh7 (by omega) s8) (gLw.s (gLw.s gLw.z))
  exact gz_wk (lp2 _ h1 0 (Nat.lt_succ_self _) sh1 (by omega) eh1) (gLw.s (gLw.s gLw.z))
set_option maxRecDepth 20000 in
set_option maxHeartbeats 4000000 in
theorem mm_named (d : Nat) {ty : Nat → Nat} {h : gH} (hJ : gJ rT 1027 ty h) (m : Nat) (tm : ty m = 1) (w : Int) (rw : 0 ≤ w ∧ w ≤ 255) (bs : Int) (ebs : h.2.2.2.2 m 20 = .int (zi bs)) (rbs : 0 ≤ bs ∧ bs ≤ 3) : gz gPP gGG gcn (d + 0) gt142 0 (gent [.ref m, .int (zi w)] 4) [] h (fun q _ => gSs rT 1027 ty [] h q.2.2 ∧ ∃ z : Int, gfin gt142 q.1 q.2.1 = some (some (.int (zi z))) ∧ (-1) ≤ z ∧ z ≤ 2 ∧ (z < bs)) := by
  have hS : gSs rT 1027 ty [] h h := gSs.rf hJ
  refine gz_s 4 (pc' := 4) (L' := [some (.ref m), some (.int (zi w)), some (.int (zi (-1))), some (.int (zi 0))]) (S' := []) rfl ?_
  have lp1 : ∀ (fu : Nat) (h2 : gH) (it : Int) (k : Int), (3 - k).toNat < fu → gSs rT 1027 ty [] h h2 → ((-1) ≤ it ∧ it ≤ 2) → (0 ≤ k ∧ k ≤ 3) → (it < bs) → h2.2.2.2.2 m 20 = .int (zi bs) → gz gPP gGG gcn (d + 0) gt142 4 [some (.ref m), some (.int (zi w)), some (.int (zi it)), some (.int (zi k))] [] h2 (fun q _ => gSs rT 1027 ty [] h q.2.2 ∧ ∃ z : Int, gfin gt142 q.1 q.2.1 = some (some (.int (zi z))) ∧ (-1) ≤ z ∧ z ≤ 2 ∧ (z < bs)) := by
    intro fu
    induction fu with
    | zero => intro h2 it k hm; exact absurd hm (Nat.not_lt_zero _)
    | succ fu ihlp1 =>
      intro h2 it k lp1m sh2 lp1f0 lp1f1 lp1f2 lp1k0
      refine gz_s 2 (pc' := 6) (L' := [some (.ref m), some (.int (zi w)), some (.int (zi it)), some (.int (zi k))]) (S' := [.ref m, .int (zi k)]) rfl ?_
      refine gs_gtk rfl (by decide) rfl sh2.1 tm rfl rfl lp1k0 ?_
      by_cases hc3 : (bs : Int) ≤ k
      · refine gy_icT (pc' := 34) rfl (by decide) (by decide) (by omega) (by omega) hc3 ?_
        refine gz_s 1 (pc' := 35) (L' := [some (.ref m), some (.int (zi w)), some (.int (zi it)), some (.int (zi k))]) (S' := [.int (zi it)]) rfl ?_
        exact gz_end (I := .ireturn) (len := 1) rfl (Or.inl rfl) ⟨sh2, it, rfl, (by omega), (by omega), (by omega)⟩
      · refine gy_icF rfl (by decide) (by decide) (by omega) (by omega) hc3 ?_
        refine gz_s 1 (pc' := 13) (L' := [some (.ref m), some (.int (zi w)), some (.int (zi it)), some (.int (zi k))]) (S' := [.ref m]) rfl ?_
        refine gs_gtr rfl (by decide) rfl sh2.1 tm rfl rfl rfl (fun c4 ec4 tc4 => ?_)
        refine gz_s 1 (pc' := 17) (L' := [some (.ref m), some (.int (zi w)), some (.int (zi it)), some (.int (zi k))]) (S' := [.int (zi k), .ref c4]) rfl ?_
        have hl5 : 3 ≤ h2.2.2.2.1 c4 ∧ h2.2.2.2.1 c4 ≤ 3 := gJ.rowl (G := gGG) sh2.1 tc4 rfl
        refine gs_ald rfl (by decide) sh2.1 tc4 rfl rfl rfl (by decide) (fun _ => rfl) (by omega) (by omega) (fun z6 ez6 az6 bz6 => ?_)
        refine gz_s 1 (pc' := 19) (L' := [some (.ref m), some (.int (zi w)), some (.int (zi it)), some (.int (zi k))]) (S' := [.int (zi w), .int (zi z6)]) rfl ?_
        by_cases hc7 : ¬ (z6 : Int) = w
        · refine gy_icT (pc' := 26) rfl (by decide) (by decide) (by omega) (by omega) hc7 ?_
          refine gy_s 4 (pc' := 4) (L' := [some (.ref m), some (.int (zi w)), some (.int (zi it)), some (.int ((zi k) + zi 1))]) (S' := []) (L2 := [some (.ref m), some (.int (zi w)), some (.int (zi it)), some (.int (zi (k + 1)))]) (S2 := []) rfl (by simp only [zi_add, zi_sub, zi_mul, zi_neg, zi_and1, zi_and7, zi_and15, zi_and31, zi_and255]) (by simp only [zi_add, zi_sub, zi_mul, zi_neg, zi_and1, zi_and7, zi_and15, zi_and31, zi_and255]) ?_
          exact gz_wk (ihlp1 h2 it (k + 1) (by omega) sh2 (by omega) (by omega) (by omega) lp1k0) (gLw.s (gLw.s (gLw.s (gLw.s gLw.z))))
        · refine gy_icF rfl (by decide) (by decide) (by omega) (by omega) hc7 ?_
          refine gy_s 5 (pc' := 4) (L' := [some (.ref m), some (.int (zi w)), some (.int (zi k)), some (.int ((zi k) + zi 1))]) (S' := []) (L2 := [some (.ref m), some (.int (zi w)), some (.int (zi k)), some (.int (zi (k + 1)))]) (S2 := []) rfl (by simp only [zi_add, zi_sub, zi_mul, zi_neg, zi_and1, zi_and7, zi_and15, zi_and31, zi_and255]) (by simp only [zi_add, zi_sub, zi_mul, zi_neg, zi_and1, zi_and7, zi_and15, zi_and31, zi_and255]) ?_
          exact gz_wk (ihlp1 h2 k (k + 1) (by omega) sh2 (by omega) (by omega) (by omega) lp1k0) (gLw.s (gLw.s (gLw.s (gLw.s gLw.z))))
  exact gz_wk (lp1 _ h (-1) 0 (Nat.lt_succ_self _) hS (by omega) (by omega) (by omega) ebs) (gLw.s (gLw.s (gLw.s (gLw.s gLw.z))))
set_option maxRecDepth 20000 in
set_option maxHeartbeats 4000000 in
theorem mm_isBlock (d : Nat) {ty : Nat → Nat} {h : gH} (hJ : gJ rT 1027 ty h) (m : Nat) (tm : ty m = 1) (b : Int) (rb : (-2147483648) ≤ b ∧ b ≤ 2147483647) (i : Int) (ri : (-2147483648) ≤ i ∧ i ≤ 2147483647) (ip : Int) (eip : h.2.2.2.2 m 16 = .int (zi ip)) (rip : 0 ≤ ip ∧ ip ≤ 1) (bl : Int) (ebl : h.2.2.2.2 m 23 = .int (zi bl)) (rbl : 0 ≤ bl ∧ bl ≤ 192) : gz gPP gGG gcn (d + 0) gt175 0 (gent [.ref m, .int (zi b), .int (zi i)] 3) [] h (fun q _ => gSs rT 1027 ty [] h q.2.2 ∧ ∃ z : Int, gfin gt175 q.1 q.2.1 = some (some (.int (zi z))) ∧ 0 ≤ z ∧ z ≤ 1 ∧ (z = 1 ↔ (ip = 1 ∧ 0 ≤ b ∧ b < bl ∧ 0 ≤ i ∧ i < 64))) := by
  have hS : gSs rT 1027 ty [] h h := gSs.rf hJ
  refine gz_s 1 (pc' := 1) (L' := [some (.ref m), some (.int (zi b)), some (.int (zi i))]) (S' := [.ref m]) rfl ?_
  refine gs_gtk rfl (by decide) rfl hS.1 tm rfl rfl eip ?_
  by_cases hc1 : (ip : Int) = 0
  · refine gy_ifT (pc' := 33) rfl (by decide) (by decide) (by omega) hc1 ?_
    refine gz_s 1 (pc' := 34) (L' := [some (.ref m), some (.int (zi b)), some (.int (zi i))]) (S' := [.int (zi 0)]) rfl ?_
    exact gz_end (I := .ireturn) (len := 1) rfl (Or.inl rfl) ⟨hS, 0, gfin_z rfl rfl (by omega), (by omega), (by omega), (by omega)⟩
  · refine gy_ifF rfl (by decide) (by decide) (by omega) hc1 ?_
    refine gz_s 1 (pc' := 8) (L' := [some (.ref m), some (.int (zi b)), some (.int (zi i))]) (S' := [.int (zi b)]) rfl ?_
    by_cases hc2 : (b : Int) < 0
    · refine gy_ifT (pc' := 33) rfl (by decide) (by decide) (by omega) hc2 ?_
      refine gz_s 1 (pc' := 34) (L' := [some (.ref m), some (.int (zi b)), some (.int (zi i))]) (S' := [.int (zi 0)]) rfl ?_
      exact gz_end (I := .ireturn) (len := 1) rfl (Or.inl rfl) ⟨hS, 0, gfin_z rfl rfl (by omega), (by omega), (by omega), (by omega)⟩
    · refine gy_ifF rfl (by decide) (by decide) (by omega) hc2 ?_
      refine gz_s 2 (pc' := 13) (L' := [some (.ref m), some (.int (zi b)), some (.int (zi i))]) (S' := [.ref m, .int (zi b)]) rfl ?_
      refine gs_gtk rfl (by decide) rfl hS.1 tm rfl rfl ebl ?_
      by_cases hc3 : (bl : Int) ≤ b
      · refine gy_icT (pc' := 33) rfl (by decide) (by decide) (by omega) (by omega) hc3 ?_
        refine gz_s 1 (pc' := 34) (L' := [some (.ref m), some (.int (zi b)), some (.int (zi i))]) (S' := [.int (zi 0)]) rfl ?_
        exact gz_end (I := .ireturn) (len := 1) rfl (Or.inl rfl) ⟨hS, 0, gfin_z rfl rfl (by omega), (by omega), (by omega), (by omega)⟩
      · refine gy_icF rfl (by decide) (by decide) (by omega) (by omega) hc3 ?_
        refine gz_s 1 (pc' := 20) (L' := [some (.ref m), some (.int (zi b)), some (.int (zi i))]) (S' := [.int (zi i)]) rfl ?_
        by_cases hc4 : (i : Int) < 0
        · refine gy_ifT (pc' := 33) rfl (by decide) (by decide) (by omega) hc4 ?_
          refine gz_s 1 (pc' := 34) (L' := [some (.ref m), some (.int (zi b)), some (.int (zi i))]) (S' := [.int (zi 0)]) rfl ?_
          exact gz_end (I := .ireturn) (len := 1) rfl (Or.inl rfl) ⟨hS, 0, gfin_z rfl rfl (by omega), (by omega), (by omega), (by omega)⟩
        · refine gy_ifF rfl (by decide) (by decide) (by omega) hc4 ?_
          refine gz_s 2 (pc' := 26) (L' := [some (.ref m), some (.int (zi b)), some (.int (zi i))]) (S' := [.int (zi 64), .int (zi i)]) rfl ?_
          by_cases hc5 : (64 : Int) ≤ i
          · refine gy_icT (pc' := 33) rfl (by decide) (by decide) (by omega) (by omega) hc5 ?_
            refine gz_s 1 (pc' := 34) (L' := [some (.ref m), some (.int (zi b)), some (.int (zi i))]) (S' := [.int (zi 0)]) rfl ?_
            exact gz_end (I := .ireturn) (len := 1) rfl (Or.inl rfl) ⟨hS, 0, gfin_z rfl rfl (by omega), (by omega), (by omega), (by omega)⟩
          · refine gy_icF rfl (by decide) (by decide) (by omega) (by omega) hc5 ?_
            refine gz_s 2 (pc' := 34) (L' := [some (.ref m), some (.int (zi b)), some (.int (zi i))]) (S' := [.int (zi 1)]) rfl ?_
            exact gz_end (I := .ireturn) (len := 1) rfl (Or.inl rfl) ⟨hS, 1, gfin_z rfl rfl (by omega), (by omega), (by omega), (by omega)⟩
set_option maxRecDepth 20000 in
set_option maxHeartbeats 4000000 in
theorem mm_up (d : Nat) {ty : Nat → Nat} {h : gH} (hJ : gJ rT 1027 ty h) (a : Int) (ra : 0 ≤ a ∧ a ≤ 4096) (b : Int) (rb : 1 ≤ b ∧ b ≤ 4096) : gz gPP gGG gcn (d + 0) gt146 0 (gent [.int (zi a), .int (zi b)] 2) [] h (fun q _ => gSs rT 1027 ty [] h q.2.2 ∧ ∃ z : Int, gfin gt146 q.1 q.2.1 = some (some (.int (zi z))) ∧ 0 ≤ z ∧ z ≤ 4097 ∧ (z = zup a b)) := by
  have hS : gSs rT 1027 ty [] h h := gSs.rf hJ
  have hzu : zup a b = if a % b = 0 then a / b else a / b + 1 := rfl
  refine gz_s 2 (pc' := 2) (L' := [some (.int (zi a)), some (.int (zi b))]) (S' := [.int (zi b), .int (zi a)]) rfl ?_
  refine gy_rem rfl (by decide) (by omega) (by omega) ?_
  have hd1 := zm_f (x := a) (y := b) (by omega) (by omega)
  by_cases hc2 : ¬ (a % b : Int) = 0
  · refine gy_ifT (pc' := 12) rfl (by decide) (by decide) (by omega) hc2 ?_
    refine gz_s 2 (pc' := 14) (L' := [some (.int (zi a)), some (.int (zi b))]) (S' := [.int (zi b), .int (zi a)]) rfl ?_
    refine gy_div rfl (by decide) (by omega) (by omega) ?_
    have hd3 := zd_f (x := a) (y := b) (by omega) (by omega)
    refine gy_s 2 (pc' := 17) (L' := [some (.int (zi a)), some (.int (zi b))]) (S' := [.int ((zi (a / b)) + (zi 1))]) (L2 := [some (.int (zi a)), some (.int (zi b))]) (S2 := [.int (zi ((a / b) + 1))]) rfl (by simp only [zi_add, zi_sub, zi_mul, zi_neg, zi_and1, zi_and7, zi_and15, zi_and31, zi_and255]) (by simp only [zi_add, zi_sub, zi_mul, zi_neg, zi_and1, zi_and7, zi_and15, zi_and31, zi_and255]) ?_
    exact gz_end (I := .ireturn) (len := 1) rfl (Or.inl rfl) ⟨hS, (a / b) + 1, rfl, (by omega), (by omega), (by omega)⟩
  · refine gy_ifF rfl (by decide) (by decide) (by omega) hc2 ?_
    refine gz_s 2 (pc' := 8) (L' := [some (.int (zi a)), some (.int (zi b))]) (S' := [.int (zi b), .int (zi a)]) rfl ?_
    refine gy_div rfl (by decide) (by omega) (by omega) ?_
    have hd4 := zd_f (x := a) (y := b) (by omega) (by omega)
    refine gz_s 1 (pc' := 17) (L' := [some (.int (zi a)), some (.int (zi b))]) (S' := [.int (zi (a / b))]) rfl ?_
    exact gz_end (I := .ireturn) (len := 1) rfl (Or.inl rfl) ⟨hS, a / b, rfl, (by omega), (by omega), (by omega)⟩
set_option maxRecDepth 20000 in
set_option maxHeartbeats 4000000 in
theorem mm_must (d : Nat) {ty : Nat → Nat} {h : gH} (hJ : gJ rT 1027 ty h) (m : Nat) (tm : ty m = 1) (ok : Int) (rok : 0 ≤ ok ∧ ok ≤ 1) (wh : Int) (rwh : 0 ≤ wh ∧ wh ≤ 4000) (f0 : Int) (ef0 : h.2.2.2.2 m 7 = .int (zi f0)) (rf0 : (-1) ≤ f0 ∧ f0 ≤ 4000) : gz gPP gGG gcn (d + 0) gt134 0 (gent [.ref m, .int (zi ok), .int (zi wh)] 3) [] h (fun q _ => gSs rT 1027 ty [1007] h q.2.2 ∧ ∃ z f1 : Int, gfin gt134 q.1 q.2.1 = some (some (.int (zi z))) ∧ 0 ≤ z ∧ z ≤ 1 ∧ q.2.2.2.2.2.2 m 7 = .int (zi f1) ∧ (-1) ≤ f1 ∧ f1 ≤ 4000 ∧ (z = 1 ↔ f1 = -1) ∧ (f1 = -1 ↔ (ok = 1 ∧ f0 = -1))) := by
  have hS : gSs rT 1027 ty [1007] h h := gSs.rf hJ
  refine gz_s 1 (pc' := 1) (L' := [some (.ref m), some (.int (zi ok)), some (.int (zi wh))]) (S' := [.int (zi ok)]) rfl ?_
  by_cases hc1 : ¬ (ok : Int) = 0
  · refine gy_ifT (pc' := 17) rfl (by decide) (by decide) (by omega) hc1 ?_
    refine gz_s 1 (pc' := 18) (L' := [some (.ref m), some (.int (zi ok)), some (.int (zi wh))]) (S' := [.ref m]) rfl ?_
    refine gs_gtk rfl (by decide) rfl hS.1 tm rfl rfl ef0 ?_
    refine gz_s 1 (pc' := 22) (L' := [some (.ref m), some (.int (zi ok)), some (.int (zi wh))]) (S' := [.int (zi (-1)), .int (zi f0)]) rfl ?_
    by_cases hc2 : ¬ (f0 : Int) = (-1)
    · refine gy_icT (pc' := 29) rfl (by decide) (by decide) (by omega) (by omega) hc2 ?_
      refine gz_s 1 (pc' := 30) (L' := [some (.ref m), some (.int (zi ok)), some (.int (zi wh))]) (S' := [.int (zi 0)]) rfl ?_
      exact gz_end (I := .ireturn) (len := 1) rfl (Or.inl rfl) ⟨hS, 0, f0, gfin_z rfl rfl (by omega), (by omega), (by omega), ef0, (by omega), (by omega), (by omega), (by omega)⟩
    · refine gy_icF rfl (by decide) (by decide) (by omega) (by omega) hc2 ?_
      refine gz_s 2 (pc' := 30) (L' := [some (.ref m), some (.int (zi ok)), some (.int (zi wh))]) (S' := [.int (zi 1)]) rfl ?_
      exact gz_end (I := .ireturn) (len := 1) rfl (Or.inl rfl) ⟨hS, 1, f0, gfin_z rfl rfl (by omega), (by omega), (by omega), ef0, (by omega), (by omega), (by omega), (by omega)⟩
  · refine gy_ifF rfl (by decide) (by decide) (by omega) hc1 ?_
    refine gz_s 1 (pc' := 5) (L' := [some (.ref m), some (.int (zi ok)), some (.int (zi wh))]) (S' := [.ref m]) rfl ?_
    refine gs_gtk rfl (by decide) rfl hS.1 tm rfl rfl ef0 ?_
    refine gz_s 1 (pc' := 9) (L' := [some (.ref m), some (.int (zi ok)), some (.int (zi wh))]) (S' := [.int (zi (-1)), .int (zi f0)]) rfl ?_
    by_cases hc3 : ¬ (f0 : Int) = (-1)
    · refine gy_icT (pc' := 17) rfl (by decide) (by decide) (by omega) (by omega) hc3 ?_
      refine gz_s 1 (pc' := 18) (L' := [some (.ref m), some (.int (zi ok)), some (.int (zi wh))]) (S' := [.ref m]) rfl ?_
      refine gs_gtk rfl (by decide) rfl hS.1 tm rfl rfl ef0 ?_
      refine gz_s 1 (pc' := 22) (L' := [some (.ref m), some (.int (zi ok)), some (.int (zi wh))]) (S' := [.int (zi (-1)), .int (zi f0)]) rfl ?_
      refine gy_icT (pc' := 29) rfl (by decide) (by decide) (by omega) (by omega) (by first | (simp [zc]; done) | (simp only [zc]; omega)) ?_
      refine gz_s 1 (pc' := 30) (L' := [some (.ref m), some (.int (zi ok)), some (.int (zi wh))]) (S' := [.int (zi 0)]) rfl ?_
      exact gz_end (I := .ireturn) (len := 1) rfl (Or.inl rfl) ⟨hS, 0, f0, gfin_z rfl rfl (by omega), (by omega), (by omega), ef0, (by omega), (by omega), (by omega), (by omega)⟩
    · refine gy_icF rfl (by decide) (by decide) (by omega) (by omega) hc3 ?_
      refine gz_s 2 (pc' := 14) (L' := [some (.ref m), some (.int (zi ok)), some (.int (zi wh))]) (S' := [.int (zi wh), .ref m]) rfl ?_
      refine gs_put rfl (by decide) rfl hS tm rfl rfl rfl rfl (Or.inl rfl) (by decide) (by omega) (by omega) (fun h4 sh4 eh4 fh4 => ?_)
      refine gz_s 1 (pc' := 18) (L' := [some (.ref m), some (.int (zi ok)), some (.int (zi wh))]) (S' := [.ref m]) rfl ?_
      refine gs_gtk rfl (by decide) rfl sh4.1 tm rfl rfl eh4 ?_
      refine gz_s 1 (pc' := 22) (L' := [some (.ref m), some (.int (zi ok)), some (.int (zi wh))]) (S' := [.int (zi (-1)), .int (zi wh)]) rfl ?_
      refine gy_icT (pc' := 29) rfl (by decide) (by decide) (by omega) (by omega) (by first | (simp [zc]; done) | (simp only [zc]; omega)) ?_
      refine gz_s 1 (pc' := 30) (L' := [some (.ref m), some (.int (zi ok)), some (.int (zi wh))]) (S' := [.int (zi 0)]) rfl ?_
      exact gz_end (I := .ireturn) (len := 1) rfl (Or.inl rfl) ⟨sh4, 0, wh, gfin_z rfl rfl (by omega), (by omega), (by omega), eh4, (by omega), (by omega), (by omega), (by omega)⟩
set_option maxRecDepth 20000 in
set_option maxHeartbeats 4000000 in
theorem mm_keep (d : Nat) {ty : Nat → Nat} {h : gH} (hJ : gJ rT 1027 ty h) (m : Nat) (tm : ty m = 1) (ok : Int) (rok : 0 ≤ ok ∧ ok ≤ 1) (u0 : Int) (eu0 : h.2.2.2.2 m 46 = .int (zi u0)) (ru0 : 0 ≤ u0 ∧ u0 ≤ 1) : gz gPP gGG gcn (d + 0) gt149 0 (gent [.ref m, .int (zi ok)] 2) [] h (fun q _ => gSs rT 1027 ty [1046] h q.2.2 ∧ ∃ u1 : Int, gfin gt149 q.1 q.2.1 = some none ∧ q.2.2.2.2.2.2 m 46 = .int (zi u1) ∧ 0 ≤ u1 ∧ u1 ≤ 1 ∧ (u1 = 0 ↔ (u0 = 0 ∧ ok = 1))) := by
  have hS : gSs rT 1027 ty [1046] h h := gSs.rf hJ
  refine gz_s 2 (pc' := 2) (L' := [some (.ref m), some (.int (zi ok))]) (S' := [.ref m, .ref m]) rfl ?_
  refine gs_gtk rfl (by decide) rfl hS.1 tm rfl rfl eu0 ?_
  by_cases hc1 : ¬ (u0 : Int) = 0
  · refine gy_ifT (pc' := 12) rfl (by decide) (by decide) (by omega) hc1 ?_
    refine gz_s 2 (pc' := 17) (L' := [some (.ref m), some (.int (zi ok))]) (S' := [.int (zi 1), .ref m]) rfl ?_
    refine gs_put rfl (by decide) rfl hS tm rfl rfl rfl rfl (Or.inl rfl) (by decide) (by omega) (by omega) (fun h2 sh2 eh2 fh2 => ?_)
    exact gz_end (I := .return_) (len := 1) rfl (Or.inl rfl) ⟨sh2, 1, rfl, eh2, (by omega), (by omega), (by omega)⟩
  · refine gy_ifF rfl (by decide) (by decide) (by omega) hc1 ?_
    refine gz_s 1 (pc' := 9) (L' := [some (.ref m), some (.int (zi ok))]) (S' := [.int (zi ok), .ref m]) rfl ?_
    by_cases hc3 : ¬ (ok : Int) = 0
    · refine gy_ifT (pc' := 16) rfl (by decide) (by decide) (by omega) hc3 ?_
      refine gz_s 1 (pc' := 17) (L' := [some (.ref m), some (.int (zi ok))]) (S' := [.int (zi 0), .ref m]) rfl ?_
      refine gs_put rfl (by decide) rfl hS tm rfl rfl rfl rfl (Or.inl rfl) (by decide) (by omega) (by omega) (fun h4 sh4 eh4 fh4 => ?_)
      exact gz_end (I := .return_) (len := 1) rfl (Or.inl rfl) ⟨sh4, 0, rfl, eh4, (by omega), (by omega), (by omega)⟩
    · refine gy_ifF rfl (by decide) (by decide) (by omega) hc3 ?_
      refine gz_s 2 (pc' := 17) (L' := [some (.ref m), some (.int (zi ok))]) (S' := [.int (zi 1), .ref m]) rfl ?_
      refine gs_put rfl (by decide) rfl hS tm rfl rfl rfl rfl (Or.inl rfl) (by decide) (by omega) (by omega) (fun h5 sh5 eh5 fh5 => ?_)
      exact gz_end (I := .return_) (len := 1) rfl (Or.inl rfl) ⟨sh5, 1, rfl, eh5, (by omega), (by omega), (by omega)⟩
set_option maxRecDepth 20000 in
set_option maxHeartbeats 4000000 in
theorem mm_byteAt (d : Nat) {ty : Nat → Nat} {h : gH} (hJ : gJ rT 1027 ty h) (m : Nat) (tm : ty m = 1) (p : Int) (rp : 0 ≤ p ∧ p ≤ 4001) (f0 : Int) (ef0 : h.2.2.2.2 m 7 = .int (zi f0)) (rf0 : (-1) ≤ f0 ∧ f0 ≤ 4000) (sz : Int) (esz : h.2.2.2.2 m 3 = .int (zi sz)) (rsz : 0 ≤ sz ∧ sz ≤ 2000) : gz gPP gGG gcn (d + 1) gt136 0 (gent [.ref m, .int (zi p)] 2) [] h (fun q _ => gSs rT 1027 ty [1007] h q.2.2 ∧ ∃ z f1 : Int, gfin gt136 q.1 q.2.1 = some (some (.int (zi z))) ∧ 0 ≤ z ∧ z ≤ 255 ∧ q.2.2.2.2.2.2 m 7 = .int (zi f1) ∧ (-1) ≤ f1 ∧ f1 ≤ 4000 ∧ (f1 = -1 ↔ (p < sz ∧ f0 = -1))) := by
  have hS : gSs rT 1027 ty [1007] h h := gSs.rf hJ
  refine gz_s 3 (pc' := 3) (L' := [some (.ref m), some (.int (zi p))]) (S' := [.ref m, .int (zi p), .ref m]) rfl ?_
  refine gs_gtk rfl (by decide) rfl hS.1 tm rfl rfl esz ?_
  by_cases hc1 : (sz : Int) ≤ p
  · refine gy_icT (pc' := 13) rfl (by decide) (by decide) (by omega) (by omega) hc1 ?_
    refine gz_s 2 (pc' := 15) (L' := [some (.ref m), some (.int (zi p))]) (S' := [.ref m, .int (zi 0), .ref m]) rfl ?_
    refine gs_gtk rfl (by decide) rfl hS.1 tm rfl rfl esz ?_
    refine gz_call rfl (by decide) rfl (by decide) (by decide) (gcal_of rfl rfl rfl (Nat.le_of_ble_eq_true rfl) (gJ.recv (G := gGG) hS.1 tm rfl rfl)) (mm_must _ hS.1 m tm 0 (by omega) sz (by omega) f0 ef0 (by omega)) (fun q2 _ wq2 => ?_)
    obtain ⟨pq2, oq2, hq2⟩ := q2
    obtain ⟨xq2, zq2, fq2_0, gq2, aq2, bq2, efq2_0, afq2_0, bfq2_0, uq2_0, uq2_1⟩ := wq2
    refine ⟨_, gq2, ?_⟩
    show gz gPP gGG gcn _ _ 21 [some (.ref m), some (.int (zi p))] [.int (zi zq2)] hq2 _
    have sq2 := gSs.tr hS xq2 (by decide)
    have s3 := (xq2.2.2.2.2.2 m 3 (by rw [tm]; decide)).trans esz
    by_cases hc4 : (zq2 : Int) = 0
    · refine gy_ifT (pc' := 33) rfl (by decide) (by decide) (by omega) hc4 ?_
      refine gz_s 1 (pc' := 34) (L' := [some (.ref m), some (.int (zi p))]) (S' := [.int (zi 0)]) rfl ?_
      exact gz_end (I := .ireturn) (len := 1) rfl (Or.inl rfl) ⟨sq2, 0, fq2_0, rfl, (by omega), (by omega), efq2_0, (by omega), (by omega), (by omega)⟩
    · refine gy_ifF rfl (by decide) (by decide) (by omega) hc4 ?_
      refine gz_s 1 (pc' := 25) (L' := [some (.ref m), some (.int (zi p))]) (S' := [.ref m]) rfl ?_
      refine gs_gtr rfl (by decide) rfl sq2.1 tm rfl rfl rfl (fun c5 ec5 tc5 => ?_)
      refine gz_s 1 (pc' := 29) (L' := [some (.ref m), some (.int (zi p))]) (S' := [.int (zi p), .ref c5]) rfl ?_
      have hl6 : 2000 ≤ hq2.2.2.2.1 c5 ∧ hq2.2.2.2.1 c5 ≤ 2000 := gJ.rowl (G := gGG) sq2.1 tc5 rfl
      refine gs_ald rfl (by decide) sq2.1 tc5 rfl rfl rfl (by decide) (fun _ => rfl) (by omega) (by omega) (fun z7 ez7 az7 bz7 => ?_)
      refine gz_s 1 (pc' := 34) (L' := [some (.ref m), some (.int (zi p))]) (S' := [.int (zi z7)]) rfl ?_
      exact gz_end (I := .ireturn) (len := 1) rfl (Or.inl rfl) ⟨sq2, z7, fq2_0, rfl, (by omega), (by omega), efq2_0, (by omega), (by omega), (by omega)⟩
  · refine gy_icF rfl (by decide) (by decide) (by omega) (by omega) hc1 ?_
    refine gz_s 3 (pc' := 15) (L' := [some (.ref m), some (.int (zi p))]) (S' := [.ref m, .int (zi 1), .ref m]) rfl ?_
    refine gs_gtk rfl (by decide) rfl hS.1 tm rfl rfl esz ?_
    refine gz_call rfl (by decide) rfl (by decide) (by decide) (gcal_of rfl rfl rfl (Nat.le_of_ble_eq_true rfl) (gJ.recv (G := gGG) hS.1 tm rfl rfl)) (mm_must _ hS.1 m tm 1 (by omega) sz (by omega) f0 ef0 (by omega)) (fun q8 _ wq8 => ?_)
    obtain ⟨pq8, oq8, hq8⟩ := q8
    obtain ⟨xq8, zq8, fq8_0, gq8, aq8, bq8, efq8_0, afq8_0, bfq8_0, uq8_0, uq8_1⟩ := wq8
    refine ⟨_, gq8, ?_⟩
    show gz gPP gGG gcn _ _ 21 [some (.ref m), some (.int (zi p))] [.int (zi zq8)] hq8 _
    have sq8 := gSs.tr hS xq8 (by decide)
    have s9 := (xq8.2.2.2.2.2 m 3 (by rw [tm]; decide)).trans esz
    by_cases hc10 : (zq8 : Int) = 0
    · refine gy_ifT (pc' := 33) rfl (by decide) (by decide) (by omega) hc10 ?_
      refine gz_s 1 (pc' := 34) (L' := [some (.ref m), some (.int (zi p))]) (S' := [.int (zi 0)]) rfl ?_
      exact gz_end (I := .ireturn) (len := 1) rfl (Or.inl rfl) ⟨sq8, 0, fq8_0, rfl, (by omega), (by omega), efq8_0, (by omega), (by omega), (by omega)⟩
    · refine gy_ifF rfl (by decide) (by decide) (by omega) hc10 ?_
      refine gz_s 1 (pc' := 25) (L' := [some (.ref m), some (.int (zi p))]) (S' := [.ref m]) rfl ?_
      refine gs_gtr rfl (by decide) rfl sq8.1 tm rfl rfl rfl (fun c11 ec11 tc11 => ?_)
      refine gz_s 1 (pc' := 29) (L' := [some (.ref m), some (.int (zi p))]) (S' := [.int (zi p), .ref c11]) rfl ?_
      have hl12 : 2000 ≤ hq8.2.2.2.1 c11 ∧ hq8.2.2.2.1 c11 ≤ 2000 := gJ.rowl (G := gGG) sq8.1 tc11 rfl
      refine gs_ald rfl (by decide) sq8.1 tc11 rfl rfl rfl (by decide) (fun _ => rfl) (by omega) (by omega) (fun z13 ez13 az13 bz13 => ?_)
      refine gz_s 1 (pc' := 34) (L' := [some (.ref m), some (.int (zi p))]) (S' := [.int (zi z13)]) rfl ?_
      exact gz_end (I := .ireturn) (len := 1) rfl (Or.inl rfl) ⟨sq8, z13, fq8_0, rfl, (by omega), (by omega), efq8_0, (by omega), (by omega), (by omega)⟩
set_option maxRecDepth 20000 in
set_option maxHeartbeats 4000000 in
theorem mm_two (d : Nat) {ty : Nat → Nat} {h : gH} (hJ : gJ rT 1027 ty h) (m : Nat) (tm : ty m = 1) (p : Int) (rp : 0 ≤ p ∧ p ≤ 4000) (f0 : Int) (ef0 : h.2.2.2.2 m 7 = .int (zi f0)) (rf0 : (-1) ≤ f0 ∧ f0 ≤ 4000) (sz : Int) (esz : h.2.2.2.2 m 3 = .int (zi sz)) (rsz : 0 ≤ sz ∧ sz ≤ 2000) : gz gPP gGG gcn (d + 2) gt138 0 (gent [.ref m, .int (zi p)] 3) [] h (fun q _ => gSs rT 1027 ty [1007] h q.2.2 ∧ ∃ z f1 : Int, gfin gt138 q.1 q.2.1 = some (some (.int (zi z))) ∧ 0 ≤ z ∧ z ≤ 65535 ∧ q.2.2.2.2.2.2 m 7 = .int (zi f1) ∧ (-1) ≤ f1 ∧ f1 ≤ 4000 ∧ (f1 = -1 ↔ (p + 1 < sz ∧ f0 = -1))) := by
  have hS : gSs rT 1027 ty [1007] h h := gSs.rf hJ
  refine gz_s 2 (pc' := 2) (L' := [some (.ref m), some (.int (zi p)), none]) (S' := [.int (zi p), .ref m]) rfl ?_
  refine gz_call rfl (by decide) rfl (by decide) (by decide) (gcal_of rfl rfl rfl (Nat.le_of_ble_eq_true rfl) (gJ.recv (G := gGG) hS.1 tm rfl rfl)) (mm_byteAt _ hS.1 m tm p (by omega) f0 ef0 (by omega) sz esz (by omega)) (fun q1 _ wq1 => ?_)
  obtain ⟨pq1, oq1, hq1⟩ := q1
  obtain ⟨xq1, zq1, fq1_0, gq1, aq1, bq1, efq1_0, afq1_0, bfq1_0, uq1_0⟩ := wq1
  refine ⟨_, gq1, ?_⟩
  show gz gPP gGG gcn _ _ 5 [some (.ref m), some (.int (zi p)), none] [.int (zi zq1)] hq1 _
  have sq1 := gSs.tr hS xq1 (by decide)
  have s2 := (xq1.2.2.2.2.2 m 3 (by rw [tm]; decide)).trans esz
  refine gy_s 8 (pc' := 15) (L' := [some (.ref m), some (.int (zi p)), some (.int (zi zq1))]) (S' := [.int ((zi p) + (zi 1)), .ref m, .int ((zi 256) * (zi zq1))]) (L2 := [some (.ref m), some (.int (zi p)), some (.int (zi zq1))]) (S2 := [.int (zi (p + 1)), .ref m, .int (zi (256 * zq1))]) rfl (by simp only [zi_add, zi_sub, zi_mul, zi_neg, zi_and1, zi_and7, zi_and15, zi_and31, zi_and255]) (by simp only [zi_add, zi_sub, zi_mul, zi_neg, zi_and1, zi_and7, zi_and15, zi_and31, zi_and255]) ?_
  refine gz_call rfl (by decide) rfl (by decide) (by decide) (gcal_of rfl rfl rfl (Nat.le_of_ble_eq_true rfl) (gJ.recv (G := gGG) sq1.1 tm rfl rfl)) (mm_byteAt _ sq1.1 m tm (p + 1) (by omega) fq1_0 efq1_0 (by omega) sz s2 (by omega)) (fun q3 _ wq3 => ?_)
  obtain ⟨pq3, oq3, hq3⟩ := q3
  obtain ⟨xq3, zq3, fq3_0, gq3, aq3, bq3, efq3_0, afq3_0, bfq3_0, uq3_0⟩ := wq3
  refine ⟨_, gq3, ?_⟩
  show gz gPP gGG gcn _ _ 18 [some (.ref m), some (.int (zi p)), some (.int (zi zq1))] [.int (zi zq3), .int (zi (256 * zq1))] hq3 _
  have sq3 := gSs.tr sq1 xq3 (by decide)
  have s4 := (xq3.2.2.2.2.2 m 3 (by rw [tm]; decide)).trans s2
  refine gy_s 1 (pc' := 19) (L' := [some (.ref m), some (.int (zi p)), some (.int (zi zq1))]) (S' := [.int ((zi (256 * zq1)) + (zi zq3))]) (L2 := [some (.ref m), some (.int (zi p)), some (.int (zi zq1))]) (S2 := [.int (zi ((256 * zq1) + zq3))]) rfl (by simp only [zi_add, zi_sub, zi_mul, zi_neg, zi_and1, zi_and7, zi_and15, zi_and31, zi_and255]) (by simp only [zi_add, zi_sub, zi_mul, zi_neg, zi_and1, zi_and7, zi_and15, zi_and31, zi_and255]) ?_
  exact gz_end (I := .ireturn) (len := 1) rfl (Or.inl rfl) ⟨sq3, (256 * zq1) + zq3, fq3_0, rfl, (by omega), (by omega), efq3_0, (by omega), (by omega), (by omega)⟩
set_option maxRecDepth 20000 in
set_option maxHeartbeats 4000000 in
theorem mm_marker (d : Nat) {ty : Nat → Nat} {h : gH} (hJ : gJ rT 1027 ty h) (m : Nat) (tm : ty m = 1) (f0 : Int) (ef0 : h.2.2.2.2 m 7 = .int (zi f0)) (rf0 : (-1) ≤ f0 ∧ f0 ≤ 4000) (sz : Int) (esz : h.2.2.2.2 m 3 = .int (zi sz)) (rsz : 0 ≤ sz ∧ sz ≤ 2000) (p0 : Int) (ep0 : h.2.2.2.2 m 5 = .int (zi p0)) (rp0 : 0 ≤ p0 ∧ p0 ≤ 2000) : gz gPP gGG gcn (d + 2) gt135 0 (gent [.ref m] 2) [] h (fun q _ => gSs rT 1027 ty [1005, 1007] h q.2.2 ∧ ∃ z f1 p1 : Int, gfin gt135 q.1 q.2.1 = some (some (.int (zi z))) ∧ 0 ≤ z ∧ z ≤ 255 ∧ q.2.2.2.2.2.2 m 7 = .int (zi f1) ∧ (-1) ≤ f1 ∧ f1 ≤ 4000 ∧ q.2.2.2.2.2.2 m 5 = .int (zi p1) ∧ 0 ≤ p1 ∧ p1 ≤ 4000 ∧ (f1 = -1 → (f0 = -1 ∧ p0 + 2 ≤ p1 ∧ p1 ≤ sz))) := by
  have hS : gSs rT 1027 ty [1005, 1007] h h := gSs.rf hJ
  refine gz_s 2 (pc' := 2) (L' := [some (.ref m), none]) (S' := [.ref m, .ref m]) rfl ?_
  refine gs_gtk rfl (by decide) rfl hS.1 tm rfl rfl ep0 ?_
  refine gz_call rfl (by decide) rfl (by decide) (by decide) (gcal_of rfl rfl rfl (Nat.le_of_ble_eq_true rfl) (gJ.recv (G := gGG) hS.1 tm rfl rfl)) (mm_byteAt _ hS.1 m tm p0 (by omega) f0 ef0 (by omega) sz esz (by omega)) (fun q1 _ wq1 => ?_)
  obtain ⟨pq1, oq1, hq1⟩ := q1
  obtain ⟨xq1, zq1, fq1_0, gq1, aq1, bq1, efq1_0, afq1_0, bfq1_0, uq1_0⟩ := wq1
  refine ⟨_, gq1, ?_⟩
  show gz gPP gGG gcn _ _ 8 [some (.ref m), none] [.int (zi zq1)] hq1 _
  have sq1 := gSs.tr hS xq1 (by decide)
  have s2 := (xq1.2.2.2.2.2 m 3 (by rw [tm]; decide)).trans esz
  have s3 := (xq1.2.2.2.2.2 m 5 (by rw [tm]; decide)).trans ep0
  refine gz_s 4 (pc' := 14) (L' := [some (.ref m), some (.int (zi zq1))]) (S' := [.int (zi 255), .int (zi zq1), .ref m]) rfl ?_
  by_cases hc4 : ¬ (zq1 : Int) = 255
  · refine gy_icT (pc' := 21) rfl (by decide) (by decide) (by omega) (by omega) hc4 ?_
    refine gz_s 2 (pc' := 23) (L' := [some (.ref m), some (.int (zi zq1))]) (S' := [.ref m, .int (zi 0), .ref m]) rfl ?_
    refine gs_gtk rfl (by decide) rfl sq1.1 tm rfl rfl s3 ?_
    refine gz_call rfl (by decide) rfl (by decide) (by decide) (gcal_of rfl rfl rfl (Nat.le_of_ble_eq_true rfl) (gJ.recv (G := gGG) sq1.1 tm rfl rfl)) (mm_must _ sq1.1 m tm 0 (by omega) p0 (by omega) fq1_0 efq1_0 (by omega)) (fun q5 _ wq5 => ?_)
    obtain ⟨pq5, oq5, hq5⟩ := q5
    obtain ⟨xq5, zq5, fq5_0, gq5, aq5, bq5, efq5_0, afq5_0, bfq5_0, uq5_0, uq5_1⟩ := wq5
    refine ⟨_, gq5, ?_⟩
    show gz gPP gGG gcn _ _ 29 [some (.ref m), some (.int (zi zq1))] [.int (zi zq5)] hq5 _
    have sq5 := gSs.tr sq1 xq5 (by decide)
    have s6 := (xq5.2.2.2.2.2 m 3 (by rw [tm]; decide)).trans s2
    have s7 := (xq5.2.2.2.2.2 m 5 (by rw [tm]; decide)).trans s3
    by_cases hc8 : ¬ (zq5 : Int) = 0
    · refine gy_ifT (pc' := 34) rfl (by decide) (by decide) (by omega) hc8 ?_
      have lp9 : ∀ (fu : Nat) (h10 : gH) (c : Int) (fv : Int) (pv : Int), (3000 - pv).toNat < fu → gSs rT 1027 ty [1005, 1007] h h10 → (0 ≤ c ∧ c ≤ 255) → ((-1) ≤ fv ∧ fv ≤ 4000) → (0 ≤ pv ∧ pv ≤ 2000) → (p0 ≤ pv) → (fv = -1 → (f0 = -1 ∧ pv < sz)) → (c = 255 ∨ p0 < pv) → h10.2.2.2.2 m 3 = .int (zi sz) → h10.2.2.2.2 m 7 = .int (zi fv) → h10.2.2.2.2 m 5 = .int (zi pv) → gz gPP gGG gcn (d + 2) gt135 34 [some (.ref m), some (.int (zi c))] [] h10 (fun q _ => gSs rT 1027 ty [1005, 1007] h q.2.2 ∧ ∃ z f1 p1 : Int, gfin gt135 q.1 q.2.1 = some (some (.int (zi z))) ∧ 0 ≤ z ∧ z ≤ 255 ∧ q.2.2.2.2.2.2 m 7 = .int (zi f1) ∧ (-1) ≤ f1 ∧ f1 ≤ 4000 ∧ q.2.2.2.2.2.2 m 5 = .int (zi p1) ∧ 0 ≤ p1 ∧ p1 ≤ 4000 ∧ (f1 = -1 → (f0 = -1 ∧ p0 + 2 ≤ p1 ∧ p1 ≤ sz))) := by
        intro fu
        induction fu with
        | zero => intro h10 c fv pv hm; exact absurd hm (Nat.not_lt_zero _)
        | succ fu ihlp9 =>
          intro h10 c fv pv lp9m sh10 lp9f0 lp9f1 lp9f2 lp9f3 lp9f4 lp9f5 lp9k0 lp9k1 lp9k2
          refine gz_s 1 (pc' := 35) (L' := [some (.ref m), some (.int (zi c))]) (S' := [.ref m]) rfl ?_
          refine gs_gtk rfl (by decide) rfl sh10.1 tm rfl rfl lp9k1 ?_
          refine gz_s 1 (pc' := 39) (L' := [some (.ref m), some (.int (zi c))]) (S' := [.int (zi (-1)), .int (zi fv)]) rfl ?_
          by_cases hc11 : ¬ (fv : Int) = (-1)
          · refine gy_icT (pc' := 71) rfl (by decide) (by decide) (by omega) (by omega) hc11 ?_
            refine gz_s 2 (pc' := 73) (L' := [some (.ref m), some (.int (zi c))]) (S' := [.int (zi c), .ref m]) rfl ?_
            by_cases hc12 : (c : Int) = 0
            · refine gy_ifT (pc' := 87) rfl (by decide) (by decide) (by omega) hc12 ?_
              refine gz_s 2 (pc' := 89) (L' := [some (.ref m), some (.int (zi c))]) (S' := [.ref m, .int (zi 0), .ref m]) rfl ?_
              refine gs_gtk rfl (by decide) rfl sh10.1 tm rfl rfl lp9k2 ?_
              refine gz_call rfl (by decide) rfl (by decide) (by decide) (gcal_of rfl rfl rfl (Nat.le_of_ble_eq_true rfl) (gJ.recv (G := gGG) sh10.1 tm rfl rfl)) (mm_must _ sh10.1 m tm 0 (by omega) pv (by omega) fv lp9k1 (by omega)) (fun q13 _ wq13 => ?_)
              obtain ⟨pq13, oq13, hq13⟩ := q13
              obtain ⟨xq13, zq13, fq13_0, gq13, aq13, bq13, efq13_0, afq13_0, bfq13_0, uq13_0, uq13_1⟩ := wq13
              refine ⟨_, gq13, ?_⟩
              show gz gPP gGG gcn _ _ 95 [some (.ref m), some (.int (zi c))] [.int (zi zq13)] hq13 _
              have sq13 := gSs.tr sh10 xq13 (by decide)
              have s14 := (xq13.2.2.2.2.2 m 3 (by rw [tm]; decide)).trans lp9k0
              have s15 := (xq13.2.2.2.2.2 m 5 (by rw [tm]; decide)).trans lp9k2
              by_cases hc16 : ¬ (zq13 : Int) = 0
              · refine gy_ifT (pc' := 100) rfl (by decide) (by decide) (by omega) hc16 ?_
                refine gz_s 2 (pc' := 102) (L' := [some (.ref m), some (.int (zi c))]) (S' := [.ref m, .ref m]) rfl ?_
                refine gs_gtk rfl (by decide) rfl sq13.1 tm rfl rfl s15 ?_
                refine gy_s 2 (pc' := 107) (L' := [some (.ref m), some (.int (zi c))]) (S' := [.int ((zi pv) + (zi 1)), .ref m]) (L2 := [some (.ref m), some (.int (zi c))]) (S2 := [.int (zi (pv + 1)), .ref m]) rfl (by simp only [zi_add, zi_sub, zi_mul, zi_neg, zi_and1, zi_and7, zi_and15, zi_and31, zi_and255]) (by simp only [zi_add, zi_sub, zi_mul, zi_neg, zi_and1, zi_and7, zi_and15, zi_and31, zi_and255]) ?_
                refine gs_put rfl (by decide) rfl sq13 tm rfl rfl rfl rfl (Or.inl rfl) (by decide) (by omega) (by omega) (fun h17 sh17 eh17 fh17 => ?_)
                have s18 := (fh17 m 3 (fun q => absurd q.2 (by decide))).trans s14
                have s19 := (fh17 m 7 (fun q => absurd q.2 (by decide))).trans efq13_0
                refine gz_s 1 (pc' := 111) (L' := [some (.ref m), some (.int (zi c))]) (S' := [.int (zi c)]) rfl ?_
                exact gz_end (I := .ireturn) (len := 1) rfl (Or.inl rfl) ⟨sh17, c, fq13_0, pv + 1, rfl, (by omega), (by omega), s19, (by omega), (by omega), eh17, (by omega), (by omega), (by omega)⟩
              · refine gy_ifF rfl (by decide) (by decide) (by omega) hc16 ?_
                refine gz_s 1 (pc' := 99) (L' := [some (.ref m), some (.int (zi c))]) (S' := [.int (zi 0)]) rfl ?_
                exact gz_end (I := .ireturn) (len := 1) rfl (Or.inl rfl) ⟨sq13, 0, fq13_0, pv, rfl, (by omega), (by omega), efq13_0, (by omega), (by omega), s15, (by omega), (by omega), (by omega)⟩
            · refine gy_ifF rfl (by decide) (by decide) (by omega) hc12 ?_
              refine gz_s 2 (pc' := 80) (L' := [some (.ref m), some (.int (zi c))]) (S' := [.int (zi 216), .int (zi c), .ref m]) rfl ?_
              by_cases hc20 : (c : Int) = 216
              · refine gy_icT (pc' := 87) rfl (by decide) (by decide) (by omega) (by omega) hc20 ?_
                refine gz_s 2 (pc' := 89) (L' := [some (.ref m), some (.int (zi c))]) (S' := [.ref m, .int (zi 0), .ref m]) rfl ?_
                refine gs_gtk rfl (by decide) rfl sh10.1 tm rfl rfl lp9k2 ?_
                refine gz_call rfl (by decide) rfl (by decide) (by decide) (gcal_of rfl rfl rfl (Nat.le_of_ble_eq_true rfl) (gJ.recv (G := gGG) sh10.1 tm rfl rfl)) (mm_must _ sh10.1 m tm 0 (by omega) pv (by omega) fv lp9k1 (by omega)) (fun q21 _ wq21 => ?_)
                obtain ⟨pq21, oq21, hq21⟩ := q21
                obtain ⟨xq21, zq21, fq21_0, gq21, aq21, bq21, efq21_0, afq21_0, bfq21_0, uq21_0, uq21_1⟩ := wq21
                refine ⟨_, gq21, ?_⟩
                show gz gPP gGG gcn _ _ 95 [some (.ref m), some (.int (zi c))] [.int (zi zq21)] hq21 _
                have sq21 := gSs.tr sh10 xq21 (by decide)
                have s22 := (xq21.2.2.2.2.2 m 3 (by rw [tm]; decide)).trans lp9k0
                have s23 := (xq21.2.2.2.2.2 m 5 (by rw [tm]; decide)).trans lp9k2
                by_cases hc24 : ¬ (zq21 : Int) = 0
                · refine gy_ifT (pc' := 100) rfl (by decide) (by decide) (by omega) hc24 ?_
                  refine gz_s 2 (pc' := 102) (L' := [some (.ref m), some (.int (zi c))]) (S' := [.ref m, .ref m]) rfl ?_
                  refine gs_gtk rfl (by decide) rfl sq21.1 tm rfl rfl s23 ?_
                  refine gy_s 2 (pc' := 107) (L' := [some (.ref m), some (.int (zi c))]) (S' := [.int ((zi pv) + (zi 1)), .ref m]) (L2 := [some (.ref m), some (.int (zi c))]) (S2 := [.int (zi (pv + 1)), .ref m]) rfl (by simp only [zi_add, zi_sub, zi_mul, zi_neg, zi_and1, zi_and7, zi_and15, zi_and31, zi_and255]) (by simp only [zi_add, zi_sub, zi_mul, zi_neg, zi_and1, zi_and7, zi_and15, zi_and31, zi_and255]) ?_
                  refine gs_put rfl (by decide) rfl sq21 tm rfl rfl rfl rfl (Or.inl rfl) (by decide) (by omega) (by omega) (fun h25 sh25 eh25 fh25 => ?_)
                  have s26 := (fh25 m 3 (fun q => absurd q.2 (by decide))).trans s22
                  have s27 := (fh25 m 7 (fun q => absurd q.2 (by decide))).trans efq21_0
                  refine gz_s 1 (pc' := 111) (L' := [some (.ref m), some (.int (zi c))]) (S' := [.int (zi c)]) rfl ?_
                  exact gz_end (I := .ireturn) (len := 1) rfl (Or.inl rfl) ⟨sh25, c, fq21_0, pv + 1, rfl, (by omega), (by omega), s27, (by omega), (by omega), eh25, (by omega), (by omega), (by omega)⟩
                · refine gy_ifF rfl (by decide) (by decide) (by omega) hc24 ?_
                  refine gz_s 1 (pc' := 99) (L' := [some (.ref m), some (.int (zi c))]) (S' := [.int (zi 0)]) rfl ?_
                  exact gz_end (I := .ireturn) (len := 1) rfl (Or.inl rfl) ⟨sq21, 0, fq21_0, pv, rfl, (by omega), (by omega), efq21_0, (by omega), (by omega), s23, (by omega), (by omega), (by omega)⟩
              · refine gy_icF rfl (by decide) (by decide) (by omega) (by omega) hc20 ?_
                refine gz_s 3 (pc' := 89) (L' := [some (.ref m), some (.int (zi c))]) (S' := [.ref m, .int (zi 1), .ref m]) rfl ?_
                refine gs_gtk rfl (by decide) rfl sh10.1 tm rfl rfl lp9k2 ?_
                refine gz_call rfl (by decide) rfl (by decide) (by decide) (gcal_of rfl rfl rfl (Nat.le_of_ble_eq_true rfl) (gJ.recv (G := gGG) sh10.1 tm rfl rfl)) (mm_must _ sh10.1 m tm 1 (by omega) pv (by omega) fv lp9k1 (by omega)) (fun q28 _ wq28 => ?_)
                obtain ⟨pq28, oq28, hq28⟩ := q28
                obtain ⟨xq28, zq28, fq28_0, gq28, aq28, bq28, efq28_0, afq28_0, bfq28_0, uq28_0, uq28_1⟩ := wq28
                refine ⟨_, gq28, ?_⟩
                show gz gPP gGG gcn _ _ 95 [some (.ref m), some (.int (zi c))] [.int (zi zq28)] hq28 _
                have sq28 := gSs.tr sh10 xq28 (by decide)
                have s29 := (xq28.2.2.2.2.2 m 3 (by rw [tm]; decide)).trans lp9k0
                have s30 := (xq28.2.2.2.2.2 m 5 (by rw [tm]; decide)).trans lp9k2
                by_cases hc31 : ¬ (zq28 : Int) = 0
                · refine gy_ifT (pc' := 100) rfl (by decide) (by decide) (by omega) hc31 ?_
                  refine gz_s 2 (pc' := 102) (L' := [some (.ref m), some (.int (zi c))]) (S' := [.ref m, .ref m]) rfl ?_
                  refine gs_gtk rfl (by decide) rfl sq28.1 tm rfl rfl s30 ?_
                  refine gy_s 2 (pc' := 107) (L' := [some (.ref m), some (.int (zi c))]) (S' := [.int ((zi pv) + (zi 1)), .ref m]) (L2 := [some (.ref m), some (.int (zi c))]) (S2 := [.int (zi (pv + 1)), .ref m]) rfl (by simp only [zi_add, zi_sub, zi_mul, zi_neg, zi_and1, zi_and7, zi_and15, zi_and31, zi_and255]) (by simp only [zi_add, zi_sub, zi_mul, zi_neg, zi_and1, zi_and7, zi_and15, zi_and31, zi_and255]) ?_
                  refine gs_put rfl (by decide) rfl sq28 tm rfl rfl rfl rfl (Or.inl rfl) (by decide) (by omega) (by omega) (fun h32 sh32 eh32 fh32 => ?_)
                  have s33 := (fh32 m 3 (fun q => absurd q.2 (by decide))).trans s29
                  have s34 := (fh32 m 7 (fun q => absurd q.2 (by decide))).trans efq28_0
                  refine gz_s 1 (pc' := 111) (L' := [some (.ref m), some (.int (zi c))]) (S' := [.int (zi c)]) rfl ?_
                  exact gz_end (I := .ireturn) (len := 1) rfl (Or.inl rfl) ⟨sh32, c, fq28_0, pv + 1, rfl, (by omega), (by omega), s34, (by omega), (by omega), eh32, (by omega), (by omega), (by omega)⟩
                · refine gy_ifF rfl (by decide) (by decide) (by omega) hc31 ?_
                  refine gz_s 1 (pc' := 99) (L' := [some (.ref m), some (.int (zi c))]) (S' := [.int (zi 0)]) rfl ?_
                  exact gz_end (I := .ireturn) (len := 1) rfl (Or.inl rfl) ⟨sq28, 0, fq28_0, pv, rfl, (by omega), (by omega), efq28_0, (by omega), (by omega), s30, (by omega), (by omega), (by omega)⟩
          · refine gy_icF rfl (by decide) (by decide) (by omega) (by omega) hc11 ?_
            refine gz_s 2 (pc' := 46) (L' := [some (.ref m), some (.int (zi c))]) (S' := [.int (zi 255), .int (zi c)]) rfl ?_
            by_cases hc35 : ¬ (c : Int) = 255
            · refine gy_icT (pc' := 71) rfl (by decide) (by decide) (by omega) (by omega) hc35 ?_
              refine gz_s 2 (pc' := 73) (L' := [some (.ref m), some (.int (zi c))]) (S' := [.int (zi c), .ref m]) rfl ?_
              by_cases hc36 : (c : Int) = 0
              · refine gy_ifT (pc' := 87) rfl (by decide) (by decide) (by omega) hc36 ?_
                refine gz_s 2 (pc' := 89) (L' := [some (.ref m), some (.int (zi c))]) (S' := [.ref m, .int (zi 0), .ref m]) rfl ?_
                refine gs_gtk rfl (by decide) rfl sh10.1 tm rfl rfl lp9k2 ?_
                refine gz_call rfl (by decide) rfl (by decide) (by decide) (gcal_of rfl rfl rfl (Nat.le_of_ble_eq_true rfl) (gJ.recv (G := gGG) sh10.1 tm rfl rfl)) (mm_must _ sh10.1 m tm 0 (by omega) pv (by omega) fv lp9k1 (by omega)) (fun q37 _ wq37 => ?_)
                obtain ⟨pq37, oq37, hq37⟩ := q37
                obtain ⟨xq37, zq37, fq37_0, gq37, aq37, bq37, efq37_0, afq37_0, bfq37_0, uq37_0, uq37_1⟩ := wq37
                refine ⟨_, gq37, ?_⟩
                show gz gPP gGG gcn _ _ 95 [some (.ref m), some (.int (zi c))] [.int (zi zq37)] hq37 _
                have sq37 := gSs.tr sh10 xq37 (by decide)
                have s38 := (xq37.2.2.2.2.2 m 3 (by rw [tm]; decide)).trans lp9k0
                have s39 := (xq37.2.2.2.2.2 m 5 (by rw [tm]; decide)).trans lp9k2
                by_cases hc40 : ¬ (zq37 : Int) = 0
                · refine gy_ifT (pc' := 100) rfl (by decide) (by decide) (by omega) hc40 ?_
                  refine gz_s 2 (pc' := 102) (L' := [some (.ref m), some (.int (zi c))]) (S' := [.ref m, .ref m]) rfl ?_
                  refine gs_gtk rfl (by decide) rfl sq37.1 tm rfl rfl s39 ?_
                  refine gy_s 2 (pc' := 107) (L' := [some (.ref m), some (.int (zi c))]) (S' := [.int ((zi pv) + (zi 1)), .ref m]) (L2 := [some (.ref m), some (.int (zi c))]) (S2 := [.int (zi (pv + 1)), .ref m]) rfl (by simp only [zi_add, zi_sub, zi_mul, zi_neg, zi_and1, zi_and7, zi_and15, zi_and31, zi_and255]) (by simp only [zi_add, zi_sub, zi_mul, zi_neg, zi_and1, zi_and7, zi_and15, zi_and31, zi_and255]) ?_
                  refine gs_put rfl (by decide) rfl sq37 tm rfl rfl rfl rfl (Or.inl rfl) (by decide) (by omega) (by omega) (fun h41 sh41 eh41 fh41 => ?_)
                  have s42 := (fh41 m 3 (fun q => absurd q.2 (by decide))).trans s38
                  have s43 := (fh41 m 7 (fun q => absurd q.2 (by decide))).trans efq37_0
                  refine gz_s 1 (pc' := 111) (L' := [some (.ref m), some (.int (zi c))]) (S' := [.int (zi c)]) rfl ?_
                  exact gz_end (I := .ireturn) (len := 1) rfl (Or.inl rfl) ⟨sh41, c, fq37_0, pv + 1, rfl, (by omega), (by omega), s43, (by omega), (by omega), eh41, (by omega), (by omega), (by omega)⟩
                · refine gy_ifF rfl (by decide) (by decide) (by omega) hc40 ?_
                  refine gz_s 1 (pc' := 99) (L' := [some (.ref m), some (.int (zi c))]) (S' := [.int (zi 0)]) rfl ?_
                  exact gz_end (I := .ireturn) (len := 1) rfl (Or.inl rfl) ⟨sq37, 0, fq37_0, pv, rfl, (by omega), (by omega), efq37_0, (by omega), (by omega), s39, (by omega), (by omega), (by omega)⟩
              · refine gy_ifF rfl (by decide) (by decide) (by omega) hc36 ?_
                refine gz_s 2 (pc' := 80) (L' := [some (.ref m), some (.int (zi c))]) (S' := [.int (zi 216), .int (zi c), .ref m]) rfl ?_
                by_cases hc44 : (c : Int) = 216
                · refine gy_icT (pc' := 87) rfl (by decide) (by decide) (by omega) (by omega) hc44 ?_
                  refine gz_s 2 (pc' := 89) (L' := [some (.ref m), some (.int (zi c))]) (S' := [.ref m, .int (zi 0), .ref m]) rfl ?_
                  refine gs_gtk rfl (by decide) rfl sh10.1 tm rfl rfl lp9k2 ?_
                  refine gz_call rfl (by decide) rfl (by decide) (by decide) (gcal_of rfl rfl rfl (Nat.le_of_ble_eq_true rfl) (gJ.recv (G := gGG) sh10.1 tm rfl rfl)) (mm_must _ sh10.1 m tm 0 (by omega) pv (by omega) fv lp9k1 (by omega)) (fun q45 _ wq45 => ?_)
                  obtain ⟨pq45, oq45, hq45⟩ := q45
                  obtain ⟨xq45, zq45, fq45_0, gq45, aq45, bq45, efq45_0, afq45_0, bfq45_0, uq45_0, uq45_1⟩ := wq45
                  refine ⟨_, gq45, ?_⟩
                  show gz gPP gGG gcn _ _ 95 [some (.ref m), some (.int (zi c))] [.int (zi zq45)] hq45 _
                  have sq45 := gSs.tr sh10 xq45 (by decide)
                  have s46 := (xq45.2.2.2.2.2 m 3 (by rw [tm]; decide)).trans lp9k0
                  have s47 := (xq45.2.2.2.2.2 m 5 (by rw [tm]; decide)).trans lp9k2
                  by_cases hc48 : ¬ (zq45 : Int) = 0
                  · refine gy_ifT (pc' := 100) rfl (by decide) (by decide) (by omega) hc48 ?_
                    refine gz_s 2 (pc' := 102) (L' := [some (.ref m), some (.int (zi c))]) (S' := [.ref m, .ref m]) rfl ?_
                    refine gs_gtk rfl (by decide) rfl sq45.1 tm rfl rfl s47 ?_
                    refine gy_s 2 (pc' := 107) (L' := [some (.ref m), some (.int (zi c))]) (S' := [.int ((zi pv) + (zi 1)), .ref m]) (L2 := [some (.ref m), some (.int (zi c))]) (S2 := [.int (zi (pv + 1)), .ref m]) rfl (by simp only [zi_add, zi_sub, zi_mul, zi_neg, zi_and1, zi_and7, zi_and15, zi_and31, zi_and255]) (by simp only [zi_add, zi_sub, zi_mul, zi_neg, zi_and1, zi_and7, zi_and15, zi_and31, zi_and255]) ?_
                    refine gs_put rfl (by decide) rfl sq45 tm rfl rfl rfl rfl (Or.inl rfl) (by decide) (by omega) (by omega) (fun h49 sh49 eh49 fh49 => ?_)
                    have s50 := (fh49 m 3 (fun q => absurd q.2 (by decide))).trans s46
                    have s51 := (fh49 m 7 (fun q => absurd q.2 (by decide))).trans efq45_0
                    refine gz_s 1 (pc' := 111) (L' := [some (.ref m), some (.int (zi c))]) (S' := [.int (zi c)]) rfl ?_
                    exact gz_end (I := .ireturn) (len := 1) rfl (Or.inl rfl) ⟨sh49, c, fq45_0, pv + 1, rfl, (by omega), (by omega), s51, (by omega), (by omega), eh49, (by omega), (by omega), (by omega)⟩
                  · refine gy_ifF rfl (by decide) (by decide) (by omega) hc48 ?_
                    refine gz_s 1 (pc' := 99) (L' := [some (.ref m), some (.int (zi c))]) (S' := [.int (zi 0)]) rfl ?_
                    exact gz_end (I := .ireturn) (len := 1) rfl (Or.inl rfl) ⟨sq45, 0, fq45_0, pv, rfl, (by omega), (by omega), efq45_0, (by omega), (by omega), s47, (by omega), (by omega), (by omega)⟩
                · refine gy_icF rfl (by decide) (by decide) (by omega) (by omega) hc44 ?_
                  refine gz_s 3 (pc' := 89) (L' := [some (.ref m), some (.int (zi c))]) (S' := [.ref m, .int (zi 1), .ref m]) rfl ?_
                  refine gs_gtk rfl (by decide) rfl sh10.1 tm rfl rfl lp9k2 ?_
                  refine gz_call rfl (by decide) rfl (by decide) (by decide) (gcal_of rfl rfl rfl (Nat.le_of_ble_eq_true rfl) (gJ.recv (G := gGG) sh10.1 tm rfl rfl)) (mm_must _ sh10.1 m tm 1 (by omega) pv (by omega) fv lp9k1 (by omega)) (fun q52 _ wq52 => ?_)
                  obtain ⟨pq52, oq52, hq52⟩ := q52
                  obtain ⟨xq52, zq52, fq52_0, gq52, aq52, bq52, efq52_0, afq52_0, bfq52_0, uq52_0, uq52_1⟩ := wq52
                  refine ⟨_, gq52, ?_⟩
                  show gz gPP gGG gcn _ _ 95 [some (.ref m), some (.int (zi c))] [.int (zi zq52)] hq52 _
                  have sq52 := gSs.tr sh10 xq52 (by decide)
                  have s53 := (xq52.2.2.2.2.2 m 3 (by rw [tm]; decide)).trans lp9k0
                  have s54 := (xq52.2.2.2.2.2 m 5 (by rw [tm]; decide)).trans lp9k2
                  by_cases hc55 : ¬ (zq52 : Int) = 0
                  · refine gy_ifT (pc' := 100) rfl (by decide) (by decide) (by omega) hc55 ?_
                    refine gz_s 2 (pc' := 102) (L' := [some (.ref m), some (.int (zi c))]) (S' := [.ref m, .ref m]) rfl ?_
                    refine gs_gtk rfl (by decide) rfl sq52.1 tm rfl rfl s54 ?_
                    refine gy_s 2 (pc' := 107) (L' := [some (.ref m), some (.int (zi c))]) (S' := [.int ((zi pv) + (zi 1)), .ref m]) (L2 := [some (.ref m), some (.int (zi c))]) (S2 := [.int (zi (pv + 1)), .ref m]) rfl (by simp only [zi_add, zi_sub, zi_mul, zi_neg, zi_and1, zi_and7, zi_and15, zi_and31, zi_and255]) (by simp only [zi_add, zi_sub, zi_mul, zi_neg, zi_and1, zi_and7, zi_and15, zi_and31, zi_and255]) ?_
                    refine gs_put rfl (by decide) rfl sq52 tm rfl rfl rfl rfl (Or.inl rfl) (by decide) (by omega) (by omega) (fun h56 sh56 eh56 fh56 => ?_)
                    have s57 := (fh56 m 3 (fun q => absurd q.2 (by decide))).trans s53
                    have s58 := (fh56 m 7 (fun q => absurd q.2 (by decide))).trans efq52_0
                    refine gz_s 1 (pc' := 111) (L' := [some (.ref m), some (.int (zi c))]) (S' := [.int (zi c)]) rfl ?_
                    exact gz_end (I := .ireturn) (len := 1) rfl (Or.inl rfl) ⟨sh56, c, fq52_0, pv + 1, rfl, (by omega), (by omega), s58, (by omega), (by omega), eh56, (by omega), (by omega), (by omega)⟩
                  · refine gy_ifF rfl (by decide) (by decide) (by omega) hc55 ?_
                    refine gz_s 1 (pc' := 99) (L' := [some (.ref m), some (.int (zi c))]) (S' := [.int (zi 0)]) rfl ?_
                    exact gz_end (I := .ireturn) (len := 1) rfl (Or.inl rfl) ⟨sq52, 0, fq52_0, pv, rfl, (by omega), (by omega), efq52_0, (by omega), (by omega), s54, (by omega), (by omega), (by omega)⟩
            · refine gy_icF rfl (by decide) (by decide) (by omega) (by omega) hc35 ?_
              refine gz_s 2 (pc' := 51) (L' := [some (.ref m), some (.int (zi c))]) (S' := [.ref m, .ref m]) rfl ?_
              refine gs_gtk rfl (by decide) rfl sh10.1 tm rfl rfl lp9k2 ?_
              refine gy_s 2 (pc' := 56) (L' := [some (.ref m), some (.int (zi c))]) (S' := [.int ((zi pv) + (zi 1)), .ref m]) (L2 := [some (.ref m), some (.int (zi c))]) (S2 := [.int (zi (pv + 1)), .ref m]) rfl (by simp only [zi_add, zi_sub, zi_mul, zi_neg, zi_and1, zi_and7, zi_and15, zi_and31, zi_and255]) (by simp only [zi_add, zi_sub, zi_mul, zi_neg, zi_and1, zi_and7, zi_and15, zi_and31, zi_and255]) ?_
              refine gs_put rfl (by decide) rfl sh10 tm rfl rfl rfl rfl (Or.inl rfl) (by decide) (by omega) (by omega) (fun h59 sh59 eh59 fh59 => ?_)
              have s60 := (fh59 m 3 (fun q => absurd q.2 (by decide))).trans lp9k0
              have s61 := (fh59 m 7 (fun q => absurd q.2 (by decide))).trans lp9k1
              refine gz_s 2 (pc' := 61) (L' := [some (.ref m), some (.int (zi c))]) (S' := [.ref m, .ref m]) rfl ?_
              refine gs_gtk rfl (by decide) rfl sh59.1 tm rfl rfl eh59 ?_
              refine gz_call rfl (by decide) rfl (by decide) (by decide) (gcal_of rfl rfl rfl (Nat.le_of_ble_eq_true rfl) (gJ.recv (G := gGG) sh59.1 tm rfl rfl)) (mm_byteAt _ sh59.1 m tm (pv + 1) (by omega) fv s61 (by omega) sz s60 (by omega)) (fun q62 _ wq62 => ?_)
              obtain ⟨pq62, oq62, hq62⟩ := q62
              obtain ⟨xq62, zq62, fq62_0, gq62, aq62, bq62, efq62_0, afq62_0, bfq62_0, uq62_0⟩ := wq62
              refine ⟨_, gq62, ?_⟩
              show gz gPP gGG gcn _ _ 67 [some (.ref m), some (.int (zi c))] [.int (zi zq62)] hq62 _
              have sq62 := gSs.tr sh59 xq62 (by decide)
              have s63 := (xq62.2.2.2.2.2 m 3 (by rw [tm]; decide)).trans s60
              have s64 := (xq62.2.2.2.2.2 m 5 (by rw [tm]; decide)).trans eh59
              refine gz_s 2 (pc' := 34) (L' := [some (.ref m), some (.int (zi zq62))]) (S' := []) rfl ?_
              exact gz_wk (ihlp9 hq62 zq62 fq62_0 (pv + 1) (by omega) sq62 (by omega) (by omega) (by omega) (by omega) (by omega) (by omega) s63 efq62_0 s64) (gLw.s (gLw.s gLw.z))
      exact gz_wk (lp9 _ hq5 zq1 fq5_0 p0 (Nat.lt_succ_self _) sq5 (by omega) (by omega) (by omega) (by omega) (by omega) (by omega) s6 efq5_0 s7) (gLw.s (gLw.s gLw.z))
    · refine gy_ifF rfl (by decide) (by decide) (by omega) hc8 ?_
      refine gz_s 1 (pc' := 33) (L' := [some (.ref m), some (.int (zi zq1))]) (S' := [.int (zi 0)]) rfl ?_
      exact gz_end (I := .ireturn) (len := 1) rfl (Or.inl rfl) ⟨sq5, 0, fq5_0, p0, rfl, (by omega), (by omega), efq5_0, (by omega), (by omega), s7, (by omega), (by omega), (by omega)⟩
  · refine gy_icF rfl (by decide) (by decide) (by omega) (by omega) hc4 ?_
    refine gz_s 3 (pc' := 23) (L' := [some (.ref m), some (.int (zi zq1))]) (S' := [.ref m, .int (zi 1), .ref m]) rfl ?_
    refine gs_gtk rfl (by decide) rfl sq1.1 tm rfl rfl s3 ?_
    refine gz_call rfl (by decide) rfl (by decide) (by decide) (gcal_of rfl rfl rfl (Nat.le_of_ble_eq_true rfl) (gJ.recv (G := gGG) sq1.1 tm rfl rfl)) (mm_must _ sq1.1 m tm 1 (by omega) p0 (by omega) fq1_0 efq1_0 (by omega)) (fun q65 _ wq65 => ?_)
    obtain ⟨pq65, oq65, hq65⟩ := q65
    obtain ⟨xq65, zq65, fq65_0, gq65, aq65, bq65, efq65_0, afq65_0, bfq65_0, uq65_0, uq65_1⟩ := wq65
    refine ⟨_, gq65, ?_⟩
    show gz gPP gGG gcn _ _ 29 [some (.ref m), some (.int (zi zq1))] [.int (zi zq65)] hq65 _
    have sq65 := gSs.tr sq1 xq65 (by decide)
    have s66 := (xq65.2.2.2.2.2 m 3 (by rw [tm]; decide)).trans s2
    have s67 := (xq65.2.2.2.2.2 m 5 (by rw [tm]; decide)).trans s3
    by_cases hc68 : ¬ (zq65 : Int) = 0
    · refine gy_ifT (pc' := 34) rfl (by decide) (by decide) (by omega) hc68 ?_
      have lp69 : ∀ (fu : Nat) (h70 : gH) (c : Int) (fv : Int) (pv : Int), (3000 - pv).toNat < fu → gSs rT 1027 ty [1005, 1007] h h70 → (0 ≤ c ∧ c ≤ 255) → ((-1) ≤ fv ∧ fv ≤ 4000) → (0 ≤ pv ∧ pv ≤ 2000) → (p0 ≤ pv) → (fv = -1 → (f0 = -1 ∧ pv < sz)) → (c = 255 ∨ p0 < pv) → h70.2.2.2.2 m 3 = .int (zi sz) → h70.2.2.2.2 m 7 = .int (zi fv) → h70.2.2.2.2 m 5 = .int (zi pv) → gz gPP gGG gcn (d + 2) gt135 34 [some (.ref m), some (.int (zi c))] [] h70 (fun q _ => gSs rT 1027 ty [1005, 1007] h q.2.2 ∧ ∃ z f1 p1 : Int, gfin gt135 q.1 q.2.1 = some (some (.int (zi z))) ∧ 0 ≤ z ∧ z ≤ 255 ∧ q.2.2.2.2.2.2 m 7 = .int (zi f1) ∧ (-1) ≤ f1 ∧ f1 ≤ 4000 ∧ q.2.2.2.2.2.2 m 5 = .int (zi p1) ∧ 0 ≤ p1 ∧ p1 ≤ 4000 ∧ (f1 = -1 → (f0 = -1 ∧ p0 + 2 ≤ p1 ∧ p1 ≤ sz))) := by
        intro fu
        induction fu with
        | zero => intro h70 c fv pv hm; exact absurd hm (Nat.not_lt_zero _)
        | succ fu ihlp69 =>
          intro h70 c fv pv lp69m sh70 lp69f0 lp69f1 lp69f2 lp69f3 lp69f4 lp69f5 lp69k0 lp69k1 lp69k2
          refine gz_s 1 (pc' := 35) (L' := [some (.ref m), some (.int (zi c))]) (S' := [.ref m]) rfl ?_
          refine gs_gtk rfl (by decide) rfl sh70.1 tm rfl rfl lp69k1 ?_
          refine gz_s 1 (pc' := 39) (L' := [some (.ref m), some (.int (zi c))]) (S' := [.int (zi (-1)), .int (zi fv)]) rfl ?_
          by_cases hc71 : ¬ (fv : Int) = (-1)
          · refine gy_icT (pc' := 71) rfl (by decide) (by decide) (by omega) (by omega) hc71 ?_
            refine gz_s 2 (pc' := 73) (L' := [some (.ref m), some (.int (zi c))]) (S' := [.int (zi c), .ref m]) rfl ?_
            by_cases hc72 : (c : Int) = 0
            · refine gy_ifT (pc' := 87) rfl (by decide) (by decide) (by omega) hc72 ?_
              refine gz_s 2 (pc' := 89) (L' := [some (.ref m), some (.int (zi c))]) (S' := [.ref m, .int (zi 0), .ref m]) rfl ?_
              refine gs_gtk rfl (by decide) rfl sh70.1 tm rfl rfl lp69k2 ?_
              refine gz_call rfl (by decide) rfl (by decide) (by decide) (gcal_of rfl rfl rfl (Nat.le_of_ble_eq_true rfl) (gJ.recv (G := gGG) sh70.1 tm rfl rfl)) (mm_must _ sh70.1 m tm 0 (by omega) pv (by omega) fv lp69k1 (by omega)) (fun q73 _ wq73 => ?_)
              obtain ⟨pq73, oq73, hq73⟩ := q73
              obtain ⟨xq73, zq73, fq73_0, gq73, aq73, bq73, efq73_0, afq73_0, bfq73_0, uq73_0, uq73_1⟩ := wq73
              refine ⟨_, gq73, ?_⟩
              show gz gPP gGG gcn _ _ 95 [some (.ref m), some (.int (zi c))] [.int (zi zq73)] hq73 _
              have sq73 := gSs.tr sh70 xq73 (by decide)
              have s74 := (xq73.2.2.2.2.2 m 3 (by rw [tm]; decide)).trans lp69k0
              have s75 := (xq73.2.2.2.2.2 m 5 (by rw [tm]; decide)).trans lp69k2
              by_cases hc76 : ¬ (zq73 : Int) = 0
              · refine gy_ifT (pc' := 100) rfl (by decide) (by decide) (by omega) hc76 ?_
                refine gz_s 2 (pc' := 102) (L' := [some (.ref m), some (.int (zi c))]) (S' := [.ref m, .ref m]) rfl ?_
                refine gs_gtk rfl (by decide) rfl sq73.1 tm rfl rfl s75 ?_
                refine gy_s 2 (pc' := 107) (L' := [some (.ref m), some (.int (zi c))]) (S' := [.int ((zi pv) + (zi 1)), .ref m]) (L2 := [some (.ref m), some (.int (zi c))]) (S2 := [.int (zi (pv + 1)), .ref m]) rfl (by simp only [zi_add, zi_sub, zi_mul, zi_neg, zi_and1, zi_and7, zi_and15, zi_and31, zi_and255]) (by simp only [zi_add, zi_sub, zi_mul, zi_neg, zi_and1, zi_and7, zi_and15, zi_and31, zi_and255]) ?_
                refine gs_put rfl (by decide) rfl sq73 tm rfl rfl rfl rfl (Or.inl rfl) (by decide) (by omega) (by omega) (fun h77 sh77 eh77 fh77 => ?_)
                have s78 := (fh77 m 3 (fun q => absurd q.2 (by decide))).trans s74
                have s79 := (fh77 m 7 (fun q => absurd q.2 (by decide))).trans efq73_0
                refine gz_s 1 (pc' := 111) (L' := [some (.ref m), some (.int (zi c))]) (S' := [.int (zi c)]) rfl ?_
                exact gz_end (I := .ireturn) (len := 1) rfl (Or.inl rfl) ⟨sh77, c, fq73_0, pv + 1, rfl, (by omega), (by omega), s79, (by omega), (by omega), eh77, (by omega), (by omega), (by omega)⟩
              · refine gy_ifF rfl (by decide) (by decide) (by omega) hc76 ?_
                refine gz_s 1 (pc' := 99) (L' := [some (.ref m), some (.int (zi c))]) (S' := [.int (zi 0)]) rfl ?_
                exact gz_end (I := .ireturn) (len := 1) rfl (Or.inl rfl) ⟨sq73, 0, fq73_0, pv, rfl, (by omega), (by omega), efq73_0, (by omega), (by omega), s75, (by omega), (by omega), (by omega)⟩
            · refine gy_ifF rfl (by decide) (by decide) (by omega) hc72 ?_
              refine gz_s 2 (pc' := 80) (L' := [some (.ref m), some (.int (zi c))]) (S' := [.int (zi 216), .int (zi c), .ref m]) rfl ?_
              by_cases hc80 : (c : Int) = 216
              · refine gy_icT (pc' := 87) rfl (by decide) (by decide) (by omega) (by omega) hc80 ?_
                refine gz_s 2 (pc' := 89) (L' := [some (.ref m), some (.int (zi c))]) (S' := [.ref m, .int (zi 0), .ref m]) rfl ?_
                refine gs_gtk rfl (by decide) rfl sh70.1 tm rfl rfl lp69k2 ?_
                refine gz_call rfl (by decide) rfl (by decide) (by decide) (gcal_of rfl rfl rfl (Nat.le_of_ble_eq_true rfl) (gJ.recv (G := gGG) sh70.1 tm rfl rfl)) (mm_must _ sh70.1 m tm 0 (by omega) pv (by omega) fv lp69k1 (by omega)) (fun q81 _ wq81 => ?_)
                obtain ⟨pq81, oq81, hq81⟩ := q81
                obtain ⟨xq81, zq81, fq81_0, gq81, aq81, bq81, efq81_0, afq81_0, bfq81_0, uq81_0, uq81_1⟩ := wq81
                refine ⟨_, gq81, ?_⟩
                show gz gPP gGG gcn _ _ 95 [some (.ref m), some (.int (zi c))] [.int (zi zq81)] hq81 _
                have sq81 := gSs.tr sh70 xq81 (by decide)
                have s82 := (xq81.2.2.2.2.2 m 3 (by rw [tm]; decide)).trans lp69k0
                have s83 := (xq81.2.2.2.2.2 m 5 (by rw [tm]; decide)).trans lp69k2
                by_cases hc84 : ¬ (zq81 : Int) = 0
                · refine gy_ifT (pc' := 100) rfl (by decide) (by decide) (by omega) hc84 ?_
                  refine gz_s 2 (pc' := 102) (L' := [some (.ref m), some (.int (zi c))]) (S' := [.ref m, .ref m]) rfl ?_
                  refine gs_gtk rfl (by decide) rfl sq81.1 tm rfl rfl s83 ?_
                  refine gy_s 2 (pc' := 107) (L' := [some (.ref m), some (.int (zi c))]) (S' := [.int ((zi pv) + (zi 1)), .ref m]) (L2 := [some (.ref m), some (.int (zi c))]) (S2 := [.int (zi (pv + 1)), .ref m]) rfl (by simp only [zi_add, zi_sub, zi_mul, zi_neg, zi_and1, zi_and7, zi_and15, zi_and31, zi_and255]) (by simp only [zi_add, zi_sub, zi_mul, zi_neg, zi_and1, zi_and7, zi_and15, zi_and31, zi_and255]) ?_
                  refine gs_put rfl (by decide) rfl sq81 tm rfl rfl rfl rfl (Or.inl rfl) (by decide) (by omega) (by omega) (fun h85 sh85 eh85 fh85 => ?_)
                  have s86 := (fh85 m 3 (fun q => absurd q.2 (by decide))).trans s82
                  have s87 := (fh85 m 7 (fun q => absurd q.2 (by decide))).trans efq81_0
                  refine gz_s 1 (pc' := 111) (L' := [some (.ref m), some (.int (zi c))]) (S' := [.int (zi c)]) rfl ?_
                  exact gz_end (I := .ireturn) (len := 1) rfl (Or.inl rfl) ⟨sh85, c, fq81_0, pv + 1, rfl, (by omega), (by omega), s87, (by omega), (by omega), eh85, (by omega), (by omega), (by omega)⟩
                · refine gy_ifF rfl (by decide) (by decide) (by omega) hc84 ?_
                  refine gz_s 1 (pc' := 99) (L' := [some (.ref m), some (.int (zi c))]) (S' := [.int (zi 0)]) rfl ?_
                  exact gz_end (I := .ireturn) (len := 1) rfl (Or.inl rfl) ⟨sq81, 0, fq81_0, pv, rfl, (by omega), (by omega), efq81_0, (by omega), (by omega), s83, (by omega), (by omega), (by omega)⟩
              · refine gy_icF rfl (by decide) (by decide) (by omega) (by omega) hc80 ?_
                refine gz_s 3 (pc' := 89) (L' := [some (.ref m), some (.int (zi c))]) (S' := [.ref m, .int (zi 1), .ref m]) rfl ?_
                refine gs_gtk rfl (by decide) rfl sh70.1 tm rfl rfl lp69k2 ?_
                refine gz_call rfl (by decide) rfl (by decide) (by decide) (gcal_of rfl rfl rfl (Nat.le_of_ble_eq_true rfl) (gJ.recv (G := gGG) sh70.1 tm rfl rfl)) (mm_must _ sh70.1 m tm 1 (by omega) pv (by omega) fv lp69k1 (by omega)) (fun q88 _ wq88 => ?_)
                obtain ⟨pq88, oq88, hq88⟩ := q88
                obtain ⟨xq88, zq88, fq88_0, gq88, aq88, bq88, efq88_0, afq88_0, bfq88_0, uq88_0, uq88_1⟩ := wq88
                refine ⟨_, gq88, ?_⟩
                show gz gPP gGG gcn _ _ 95 [some (.ref m), some (.int (zi c))] [.int (zi zq88)] hq88 _
                have sq88 := gSs.tr sh70 xq88 (by decide)
                have s89 := (xq88.2.2.2.2.2 m 3 (by rw [tm]; decide)).trans lp69k0
                have s90 := (xq88.2.2.2.2.2 m 5 (by rw [tm]; decide)).trans lp69k2
                by_cases hc91 : ¬ (zq88 : Int) = 0
                · refine gy_ifT (pc' := 100) rfl (by decide) (by decide) (by omega) hc91 ?_
                  refine gz_s 2 (pc' := 102) (L' := [some (.ref m), some (.int (zi c))]) (S' := [.ref m, .ref m]) rfl ?_
                  refine gs_gtk rfl (by decide) rfl sq88.1 tm rfl rfl s90 ?_
                  refine gy_s 2 (pc' := 107) (L' := [some (.ref m), some (.int (zi c))]) (S' := [.int ((zi pv) + (zi 1)), .ref m]) (L2 := [some (.ref m), some (.int (zi c))]) (S2 := [.int (zi (pv + 1)), .ref m]) rfl (by simp only [zi_add, zi_sub, zi_mul, zi_neg, zi_and1, zi_and7, zi_and15, zi_and31, zi_and255]) (by simp only [zi_add, zi_sub, zi_mul, zi_neg, zi_and1, zi_and7, zi_and15, zi_and31, zi_and255]) ?_
                  refine gs_put rfl (by decide) rfl sq88 tm rfl rfl rfl rfl (Or.inl rfl) (by decide) (by omega) (by omega) (fun h92 sh92 eh92 fh92 => ?_)
                  have s93 := (fh92 m 3 (fun q => absurd q.2 (by decide))).trans s89
                  have s94 := (fh92 m 7 (fun q => absurd q.2 (by decide))).trans efq88_0
                  refine gz_s 1 (pc' := 111) (L' := [some (.ref m), some (.int (zi c))]) (S' := [.int (zi c)]) rfl ?_
                  exact gz_end (I := .ireturn) (len := 1) rfl (Or.inl rfl) ⟨sh92, c, fq88_0, pv + 1, rfl, (by omega), (by omega), s94, (by omega), (by omega), eh92, (by omega), (by omega), (by omega)⟩
                · refine gy_ifF rfl (by decide) (by decide) (by omega) hc91 ?_
                  refine gz_s 1 (pc' := 99) (L' := [some (.ref m), some (.int (zi c))]) (S' := [.int (zi 0)]) rfl ?_
                  exact gz_end (I := .ireturn) (len := 1) rfl (Or.inl rfl) ⟨sq88, 0, fq88_0, pv, rfl, (by omega), (by omega), efq88_0, (by omega), (by omega), s90, (by omega), (by omega), (by omega)⟩
          · refine gy_icF rfl (by decide) (by decide) (by omega) (by omega) hc71 ?_
            refine gz_s 2 (pc' := 46) (L' := [some (.ref m), some (.int (zi c))]) (S' := [.int (zi 255), .int (zi c)]) rfl ?_
            by_cases hc95 : ¬ (c : Int) = 255
            · refine gy_icT (pc' := 71) rfl (by decide) (by decide) (by omega) (by omega) hc95 ?_
              refine gz_s 2 (pc' := 73) (L' := [some (.ref m), some (.int (zi c))]) (S' := [.int (zi c), .ref m]) rfl ?_
              by_cases hc96 : (c : Int) = 0
              · refine gy_ifT (pc' := 87) rfl (by decide) (by decide) (by omega) hc96 ?_
                refine gz_s 2 (pc' := 89) (L' := [some (.ref m), some (.int (zi c))]) (S' := [.ref m, .int (zi 0), .ref m]) rfl ?_
                refine gs_gtk rfl (by decide) rfl sh70.1 tm rfl rfl lp69k2 ?_
                refine gz_call rfl (by decide) rfl (by decide) (by decide) (gcal_of rfl rfl rfl (Nat.le_of_ble_eq_true rfl) (gJ.recv (G := gGG) sh70.1 tm rfl rfl)) (mm_must _ sh70.1 m tm 0 (by omega) pv (by omega) fv lp69k1 (by omega)) (fun q97 _ wq97 => ?_)
                obtain ⟨pq97, oq97, hq97⟩ := q97
                obtain ⟨xq97, zq97, fq97_0, gq97, aq97, bq97, efq97_0, afq97_0, bfq97_0, uq97_0, uq97_1⟩ := wq97
                refine ⟨_, gq97, ?_⟩
                show gz gPP gGG gcn _ _ 95 [some (.ref m), some (.int (zi c))] [.int (zi zq97)] hq97 _
                have sq97 := gSs.tr sh70 xq97 (by decide)
                have s98 := (xq97.2.2.2.2.2 m 3 (by rw [tm]; decide)).trans lp69k0
                have s99 := (xq97.2.2.2.2.2 m 5 (by rw [tm]; decide)).trans lp69k2
                by_cases hc100 : ¬ (zq97 : Int) = 0
                · refine gy_ifT (pc' := 100) rfl (by decide) (by decide) (by omega) hc100 ?_
                  refine gz_s 2 (pc' := 102) (L' := [some (.ref m), some (.int (zi c))]) (S' := [.ref m, .ref m]) rfl ?_
                  refine gs_gtk rfl (by decide) rfl sq97.1 tm rfl rfl s99 ?_
                  refine gy_s 2 (pc' := 107) (L' := [some (.ref m), some (.int (zi c))]) (S' := [.int ((zi pv) + (zi 1)), .ref m]) (L2 := [some (.ref m), some (.int (zi c))]) (S2 := [.int (zi (pv + 1)), .ref m]) rfl (by simp only [zi_add, zi_sub, zi_mul, zi_neg, zi_and1, zi_and7, zi_and15, zi_and31, zi_and255]) (by simp only [zi_add, zi_sub, zi_mul, zi_neg, zi_and1, zi_and7, zi_and15, zi_and31, zi_and255]) ?_
                  refine gs_put rfl (by decide) rfl sq97 tm rfl rfl rfl rfl (Or.inl rfl) (by decide) (by omega) (by omega) (fun h101 sh101 eh101 fh101 => ?_)
                  have s102 := (fh101 m 3 (fun q => absurd q.2 (by decide))).trans s98
                  have s103 := (fh101 m 7 (fun q => absurd q.2 (by decide))).trans efq97_0
                  refine gz_s 1 (pc' := 111) (L' := [some (.ref m), some (.int (zi c))]) (S' := [.int (zi c)]) rfl ?_
                  exact gz_end (I := .ireturn) (len := 1) rfl (Or.inl rfl) ⟨sh101, c, fq97_0, pv + 1, rfl, (by omega), (by omega), s103, (by omega), (by omega), eh101, (by omega), (by omega), (by omega)⟩
                · refine gy_ifF rfl (by decide) (by decide) (by omega) hc100 ?_
                  refine gz_s 1 (pc' := 99) (L' := [some (.ref m), some (.int (zi c))]) (S' := [.int (zi 0)]) rfl ?_
                  exact gz_end (I := .ireturn) (len := 1) rfl (Or.inl rfl) ⟨sq97, 0, fq97_0, pv, rfl, (by omega), (by omega), efq97_0, (by omega), (by omega), s99, (by omega), (by omega), (by omega)⟩
              · refine gy_ifF rfl (by decide) (by decide) (by omega) hc96 ?_
                refine gz_s 2 (pc' := 80) (L' := [some (.ref m), some (.int (zi c))]) (S' := [.int (zi 216), .int (zi c), .ref m]) rfl ?_
                by_cases hc104 : (c : Int) = 216
                · refine gy_icT (pc' := 87) rfl (by decide) (by decide) (by omega) (by omega) hc104 ?_
                  refine gz_s 2 (pc' := 89) (L' := [some (.ref m), some (.int (zi c))]) (S' := [.ref m, .int (zi 0), .ref m]) rfl ?_
                  refine gs_gtk rfl (by decide) rfl sh70.1 tm rfl rfl lp69k2 ?_
                  refine gz_call rfl (by decide) rfl (by decide) (by decide) (gcal_of rfl rfl rfl (Nat.le_of_ble_eq_true rfl) (gJ.recv (G := gGG) sh70.1 tm rfl rfl)) (mm_must _ sh70.1 m tm 0 (by omega) pv (by omega) fv lp69k1 (by omega)) (fun q105 _ wq105 => ?_)
                  obtain ⟨pq105, oq105, hq105⟩ := q105
                  obtain ⟨xq105, zq105, fq105_0, gq105, aq105, bq105, efq105_0, afq105_0, bfq105_0, uq105_0, uq105_1⟩ := wq105
                  refine ⟨_, gq105, ?_⟩
                  show gz gPP gGG gcn _ _ 95 [some (.ref m), some (.int (zi c))] [.int (zi zq105)] hq105 _
                  have sq105 := gSs.tr sh70 xq105 (by decide)
                  have s106 := (xq105.2.2.2.2.2 m 3 (by rw [tm]; decide)).trans lp69k0
                  have s107 := (xq105.2.2.2.2.2 m 5 (by rw [tm]; decide)).trans lp69k2
                  by_cases hc108 : ¬ (zq105 : Int) = 0
                  · refine gy_ifT (pc' := 100) rfl (by decide) (by decide) (by omega) hc108 ?_
                    refine gz_s 2 (pc' := 102) (L' := [some (.ref m), some (.int (zi c))]) (S' := [.ref m, .ref m]) rfl ?_
                    refine gs_gtk rfl (by decide) rfl sq105.1 tm rfl rfl s107 ?_
                    refine gy_s 2 (pc' := 107) (L' := [some (.ref m), some (.int (zi c))]) (S' := [.int ((zi pv) + (zi 1)), .ref m]) (L2 := [some (.ref m), some (.int (zi c))]) (S2 := [.int (zi (pv + 1)), .ref m]) rfl (by simp only [zi_add, zi_sub, zi_mul, zi_neg, zi_and1, zi_and7, zi_and15, zi_and31, zi_and255]) (by simp only [zi_add, zi_sub, zi_mul, zi_neg, zi_and1, zi_and7, zi_and15, zi_and31, zi_and255]) ?_
                    refine gs_put rfl (by decide) rfl sq105 tm rfl rfl rfl rfl (Or.inl rfl) (by decide) (by omega) (by omega) (fun h109 sh109 eh109 fh109 => ?_)
                    have s110 := (fh109 m 3 (fun q => absurd q.2 (by decide))).trans s106
                    have s111 := (fh109 m 7 (fun q => absurd q.2 (by decide))).trans efq105_0
                    refine gz_s 1 (pc' := 111) (L' := [some (.ref m), some (.int (zi c))]) (S' := [.int (zi c)]) rfl ?_
                    exact gz_end (I := .ireturn) (len := 1) rfl (Or.inl rfl) ⟨sh109, c, fq105_0, pv + 1, rfl, (by omega), (by omega), s111, (by omega), (by omega), eh109, (by omega), (by omega), (by omega)⟩
                  · refine gy_ifF rfl (by decide) (by decide) (by omega) hc108 ?_
                    refine gz_s 1 (pc' := 99) (L' := [some (.ref m), some (.int (zi c))]) (S' := [.int (zi 0)]) rfl ?_
                    exact gz_end (I := .ireturn) (len := 1) rfl (Or.inl rfl) ⟨sq105, 0, fq105_0, pv, rfl, (by omega), (by omega), efq105_0, (by omega), (by omega), s107, (by omega), (by omega), (by omega)⟩
                · refine gy_icF rfl (by decide) (by decide) (by omega) (by omega) hc104 ?_
                  refine gz_s 3 (pc' := 89) (L' := [some (.ref m), some (.int (zi c))]) (S' := [.ref m, .int (zi 1), .ref m]) rfl ?_
                  refine gs_gtk rfl (by decide) rfl sh70.1 tm rfl rfl lp69k2 ?_
                  refine gz_call rfl (by decide) rfl (by decide) (by decide) (gcal_of rfl rfl rfl (Nat.le_of_ble_eq_true rfl) (gJ.recv (G := gGG) sh70.1 tm rfl rfl)) (mm_must _ sh70.1 m tm 1 (by omega) pv (by omega) fv lp69k1 (by omega)) (fun q112 _ wq112 => ?_)
                  obtain ⟨pq112, oq112, hq112⟩ := q112
                  obtain ⟨xq112, zq112, fq112_0, gq112, aq112, bq112, efq112_0, afq112_0, bfq112_0, uq112_0, uq112_1⟩ := wq112
                  refine ⟨_, gq112, ?_⟩
                  show gz gPP gGG gcn _ _ 95 [some (.ref m), some (.int (zi c))] [.int (zi zq112)] hq112 _
                  have sq112 := gSs.tr sh70 xq112 (by decide)
                  have s113 := (xq112.2.2.2.2.2 m 3 (by rw [tm]; decide)).trans lp69k0
                  have s114 := (xq112.2.2.2.2.2 m 5 (by rw [tm]; decide)).trans lp69k2
                  by_cases hc115 : ¬ (zq112 : Int) = 0
                  · refine gy_ifT (pc' := 100) rfl (by decide) (by decide) (by omega) hc115 ?_
                    refine gz_s 2 (pc' := 102) (L' := [some (.ref m), some (.int (zi c))]) (S' := [.ref m, .ref m]) rfl ?_
                    refine gs_gtk rfl (by decide) rfl sq112.1 tm rfl rfl s114 ?_
                    refine gy_s 2 (pc' := 107) (L' := [some (.ref m), some (.int (zi c))]) (S' := [.int ((zi pv) + (zi 1)), .ref m]) (L2 := [some (.ref m), some (.int (zi c))]) (S2 := [.int (zi (pv + 1)), .ref m]) rfl (by simp only [zi_add, zi_sub, zi_mul, zi_neg, zi_and1, zi_and7, zi_and15, zi_and31, zi_and255]) (by simp only [zi_add, zi_sub, zi_mul, zi_neg, zi_and1, zi_and7, zi_and15, zi_and31, zi_and255]) ?_
                    refine gs_put rfl (by decide) rfl sq112 tm rfl rfl rfl rfl (Or.inl rfl) (by decide) (by omega) (by omega) (fun h116 sh116 eh116 fh116 => ?_)
                    have s117 := (fh116 m 3 (fun q => absurd q.2 (by decide))).trans s113
                    have s118 := (fh116 m 7 (fun q => absurd q.2 (by decide))).trans efq112_0
                    refine gz_s 1 (pc' := 111) (L' := [some (.ref m), some (.int (zi c))]) (S' := [.int (zi c)]) rfl ?_
                    exact gz_end (I := .ireturn) (len := 1) rfl (Or.inl rfl) ⟨sh116, c, fq112_0, pv + 1, rfl, (by omega), (by omega), s118, (by omega), (by omega), eh116, (by omega), (by omega), (by omega)⟩
                  · refine gy_ifF rfl (by decide) (by decide) (by omega) hc115 ?_
                    refine gz_s 1 (pc' := 99) (L' := [some (.ref m), some (.int (zi c))]) (S' := [.int (zi 0)]) rfl ?_
                    exact gz_end (I := .ireturn) (len := 1) rfl (Or.inl rfl) ⟨sq112, 0, fq112_0, pv, rfl, (by omega), (by omega), efq112_0, (by omega), (by omega), s114, (by omega), (by omega), (by omega)⟩
            · refine gy_icF rfl (by decide) (by decide) (by omega) (by omega) hc95 ?_
              refine gz_s 2 (pc' := 51) (L' := [some (.ref m), some (.int (zi c))]) (S' := [.ref m, .ref m]) rfl ?_
              refine gs_gtk rfl (by decide) rfl sh70.1 tm rfl rfl lp69k2 ?_
              refine gy_s 2 (pc' := 56) (L' := [some (.ref m), some (.int (zi c))]) (S' := [.int ((zi pv) + (zi 1)), .ref m]) (L2 := [some (.ref m), some (.int (zi c))]) (S2 := [.int (zi (pv + 1)), .ref m]) rfl (by simp only [zi_add, zi_sub, zi_mul, zi_neg, zi_and1, zi_and7, zi_and15, zi_and31, zi_and255]) (by simp only [zi_add, zi_sub, zi_mul, zi_neg, zi_and1, zi_and7, zi_and15, zi_and31, zi_and255]) ?_
              refine gs_put rfl (by decide) rfl sh70 tm rfl rfl rfl rfl (Or.inl rfl) (by decide) (by omega) (by omega) (fun h119 sh119 eh119 fh119 => ?_)
              have s120 := (fh119 m 3 (fun q => absurd q.2 (by decide))).trans lp69k0
              have s121 := (fh119 m 7 (fun q => absurd q.2 (by decide))).trans lp69k1
              refine gz_s 2 (pc' := 61) (L' := [some (.ref m), some (.int (zi c))]) (S' := [.ref m, .ref m]) rfl ?_
              refine gs_gtk rfl (by decide) rfl sh119.1 tm rfl rfl eh119 ?_
              refine gz_call rfl (by decide) rfl (by decide) (by decide) (gcal_of rfl rfl rfl (Nat.le_of_ble_eq_true rfl) (gJ.recv (G := gGG) sh119.1 tm rfl rfl)) (mm_byteAt _ sh119.1 m tm (pv + 1) (by omega) fv s121 (by omega) sz s120 (by omega)) (fun q122 _ wq122 => ?_)
              obtain ⟨pq122, oq122, hq122⟩ := q122
              obtain ⟨xq122, zq122, fq122_0, gq122, aq122, bq122, efq122_0, afq122_0, bfq122_0, uq122_0⟩ := wq122
              refine ⟨_, gq122, ?_⟩
              show gz gPP gGG gcn _ _ 67 [some (.ref m), some (.int (zi c))] [.int (zi zq122)] hq122 _
              have sq122 := gSs.tr sh119 xq122 (by decide)
              have s123 := (xq122.2.2.2.2.2 m 3 (by rw [tm]; decide)).trans s120
              have s124 := (xq122.2.2.2.2.2 m 5 (by rw [tm]; decide)).trans eh119
              refine gz_s 2 (pc' := 34) (L' := [some (.ref m), some (.int (zi zq122))]) (S' := []) rfl ?_
              exact gz_wk (ihlp69 hq122 zq122 fq122_0 (pv + 1) (by omega) sq122 (by omega) (by omega) (by omega) (by omega) (by omega) (by omega) s123 efq122_0 s124) (gLw.s (gLw.s gLw.z))
      exact gz_wk (lp69 _ hq65 zq1 fq65_0 p0 (Nat.lt_succ_self _) sq65 (by omega) (by omega) (by omega) (by omega) (by omega) (by omega) s66 efq65_0 s67) (gLw.s (gLw.s gLw.z))
    · refine gy_ifF rfl (by decide) (by decide) (by omega) hc68 ?_
      refine gz_s 1 (pc' := 33) (L' := [some (.ref m), some (.int (zi zq1))]) (S' := [.int (zi 0)]) rfl ?_
      exact gz_end (I := .ireturn) (len := 1) rfl (Or.inl rfl) ⟨sq65, 0, fq65_0, p0, rfl, (by omega), (by omega), efq65_0, (by omega), (by omega), s67, (by omega), (by omega), (by omega)⟩
set_option maxRecDepth 20000 in
set_option maxHeartbeats 4000000 in
theorem mm_nextByte (d : Nat) {ty : Nat → Nat} {h : gH} (hJ : gJ rT 1027 ty h) (m : Nat) (tm : ty m = 1) (a0 : Int) (ea0 : h.2.2.2.2 m 47 = .int (zi a0)) (ra0 : 0 ≤ a0 ∧ a0 ≤ 2001) (k0 : Int) (ek0 : h.2.2.2.2 m 48 = .int (zi k0)) (rk0 : 0 ≤ k0 ∧ k0 ≤ 8) (sz : Int) (esz : h.2.2.2.2 m 3 = .int (zi sz)) (rsz : 0 ≤ sz ∧ sz ≤ 2000) (p0 : k0 = 0 ∨ a0 < sz) : gz gPP gGG gcn (d + 0) gt148 0 (gent [.ref m] 1) [] h (fun q _ => gSs rT 1027 ty [] h q.2.2 ∧ ∃ z : Int, gfin gt148 q.1 q.2.1 = some (some (.int (zi z))) ∧ 0 ≤ z ∧ z ≤ 2003 ∧ (a0 ≤ z) ∧ (z ≤ a0 + 2) ∧ (k0 = 0 → z = a0) ∧ (k0 ≠ 0 → z ≤ sz + 1)) := by
  have hS : gSs rT 1027 ty [] h h := gSs.rf hJ
  refine gz_s 1 (pc' := 1) (L' := [some (.ref m)]) (S' := [.ref m]) rfl ?_
  refine gs_gtk rfl (by decide) rfl hS.1 tm rfl rfl ek0 ?_
  by_cases hc1 : ¬ (k0 : Int) = 0
  · refine gy_ifT (pc' := 14) rfl (by decide) (by decide) (by omega) hc1 ?_
    refine gz_s 1 (pc' := 15) (L' := [some (.ref m)]) (S' := [.ref m]) rfl ?_
    refine gs_gtr rfl (by decide) rfl hS.1 tm rfl rfl rfl (fun c2 ec2 tc2 => ?_)
    refine gz_s 1 (pc' := 19) (L' := [some (.ref m)]) (S' := [.ref m, .ref c2]) rfl ?_
    refine gs_gtk rfl (by decide) rfl hS.1 tm rfl rfl ea0 ?_
    have hl3 : 2000 ≤ h.2.2.2.1 c2 ∧ h.2.2.2.1 c2 ≤ 2000 := gJ.rowl (G := gGG) hS.1 tc2 rfl
    refine gs_ald rfl (by decide) hS.1 tc2 rfl rfl rfl (by decide) (fun _ => rfl) (by omega) (by omega) (fun z4 ez4 az4 bz4 => ?_)
    refine gz_s 1 (pc' := 26) (L' := [some (.ref m)]) (S' := [.int (zi 255), .int (zi z4)]) rfl ?_
    by_cases hc5 : ¬ (z4 : Int) = 255
    · refine gy_icT (pc' := 38) rfl (by decide) (by decide) (by omega) (by omega) hc5 ?_
      refine gz_s 1 (pc' := 39) (L' := [some (.ref m)]) (S' := [.ref m]) rfl ?_
      refine gs_gtk rfl (by decide) rfl hS.1 tm rfl rfl ea0 ?_
      refine gy_s 2 (pc' := 44) (L' := [some (.ref m)]) (S' := [.int ((zi a0) + (zi 1))]) (L2 := [some (.ref m)]) (S2 := [.int (zi (a0 + 1))]) rfl (by simp only [zi_add, zi_sub, zi_mul, zi_neg, zi_and1, zi_and7, zi_and15, zi_and31, zi_and255]) (by simp only [zi_add, zi_sub, zi_mul, zi_neg, zi_and1, zi_and7, zi_and15, zi_and31, zi_and255]) ?_
      exact gz_end (I := .ireturn) (len := 1) rfl (Or.inl rfl) ⟨hS, a0 + 1, rfl, (by omega), (by omega), (by omega), (by omega), (by omega), (by omega)⟩
    · refine gy_icF rfl (by decide) (by decide) (by omega) (by omega) hc5 ?_
      refine gz_s 1 (pc' := 30) (L' := [some (.ref m)]) (S' := [.ref m]) rfl ?_
      refine gs_gtk rfl (by decide) rfl hS.1 tm rfl rfl ea0 ?_
      refine gy_s 3 (pc' := 44) (L' := [some (.ref m)]) (S' := [.int ((zi a0) + (zi 2))]) (L2 := [some (.ref m)]) (S2 := [.int (zi (a0 + 2))]) rfl (by simp only [zi_add, zi_sub, zi_mul, zi_neg, zi_and1, zi_and7, zi_and15, zi_and31, zi_and255]) (by simp only [zi_add, zi_sub, zi_mul, zi_neg, zi_and1, zi_and7, zi_and15, zi_and31, zi_and255]) ?_
      exact gz_end (I := .ireturn) (len := 1) rfl (Or.inl rfl) ⟨hS, a0 + 2, rfl, (by omega), (by omega), (by omega), (by omega), (by omega), (by omega)⟩
  · refine gy_ifF rfl (by decide) (by decide) (by omega) hc1 ?_
    refine gz_s 1 (pc' := 8) (L' := [some (.ref m)]) (S' := [.ref m]) rfl ?_
    refine gs_gtk rfl (by decide) rfl hS.1 tm rfl rfl ea0 ?_
    refine gz_s 1 (pc' := 44) (L' := [some (.ref m)]) (S' := [.int (zi a0)]) rfl ?_
    exact gz_end (I := .ireturn) (len := 1) rfl (Or.inl rfl) ⟨hS, a0, rfl, (by omega), (by omega), (by omega), (by omega), (by omega), (by omega)⟩
