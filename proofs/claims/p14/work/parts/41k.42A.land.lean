/-! ===== methods of the landed text (by program) ===== -/
set_option maxRecDepth 20000 in
set_option maxHeartbeats 4000000 in
theorem cl_Math_max (d : Nat) {ty : Nat → Nat} {h : gH} (hJ : gJ rT 1027 ty h) (a : Int) (ra : (-2147483648) ≤ a ∧ a ≤ 2147483647) (b : Int) (rb : (-2147483648) ≤ b ∧ b ≤ 2147483647) : gz gPP gGG gcn (d + 0) gt32 0 (gent [.int (zi a), .int (zi b)] 2) [] h (fun q _ => gSs rT 1027 ty [] h q.2.2 ∧ ∃ z : Int, gfin gt32 q.1 q.2.1 = some (some (.int (zi z))) ∧ (-2147483648) ≤ z ∧ z ≤ 2147483647 ∧ (a ≤ z) ∧ (b ≤ z) ∧ (z = a ∨ z = b)) := by
  have hS : gSs rT 1027 ty [] h h := gSs.rf hJ
  refine gz_s 2 (pc' := 2) (L' := [some (.int (zi a)), some (.int (zi b))]) (S' := [.int (zi b), .int (zi a)]) rfl ?_
  by_cases hc1 : (a : Int) < b
  · refine gy_icT (pc' := 9) rfl (by decide) (by decide) (by omega) (by omega) hc1 ?_
    refine gz_s 1 (pc' := 10) (L' := [some (.int (zi a)), some (.int (zi b))]) (S' := [.int (zi b)]) rfl ?_
    exact gz_end (I := .ireturn) (len := 1) rfl (Or.inl rfl) ⟨hS, b, rfl, (by omega), (by omega), (by omega), (by omega), (by omega)⟩
  · refine gy_icF rfl (by decide) (by decide) (by omega) (by omega) hc1 ?_
    refine gz_s 2 (pc' := 10) (L' := [some (.int (zi a)), some (.int (zi b))]) (S' := [.int (zi a)]) rfl ?_
    exact gz_end (I := .ireturn) (len := 1) rfl (Or.inl rfl) ⟨hS, a, rfl, (by omega), (by omega), (by omega), (by omega), (by omega)⟩
set_option maxRecDepth 20000 in
set_option maxHeartbeats 4000000 in
theorem cl_Math_min (d : Nat) {ty : Nat → Nat} {h : gH} (hJ : gJ rT 1027 ty h) (a : Int) (ra : (-2147483648) ≤ a ∧ a ≤ 2147483647) (b : Int) (rb : (-2147483648) ≤ b ∧ b ≤ 2147483647) : gz gPP gGG gcn (d + 0) gt66 0 (gent [.int (zi a), .int (zi b)] 2) [] h (fun q _ => gSs rT 1027 ty [] h q.2.2 ∧ ∃ z : Int, gfin gt66 q.1 q.2.1 = some (some (.int (zi z))) ∧ (-2147483648) ≤ z ∧ z ≤ 2147483647 ∧ (z ≤ a) ∧ (z ≤ b) ∧ (z = a ∨ z = b)) := by
  have hS : gSs rT 1027 ty [] h h := gSs.rf hJ
  refine gz_s 2 (pc' := 2) (L' := [some (.int (zi a)), some (.int (zi b))]) (S' := [.int (zi b), .int (zi a)]) rfl ?_
  by_cases hc1 : (b : Int) < a
  · refine gy_icT (pc' := 9) rfl (by decide) (by decide) (by omega) (by omega) hc1 ?_
    refine gz_s 1 (pc' := 10) (L' := [some (.int (zi a)), some (.int (zi b))]) (S' := [.int (zi b)]) rfl ?_
    exact gz_end (I := .ireturn) (len := 1) rfl (Or.inl rfl) ⟨hS, b, rfl, (by omega), (by omega), (by omega), (by omega), (by omega)⟩
  · refine gy_icF rfl (by decide) (by decide) (by omega) (by omega) hc1 ?_
    refine gz_s 2 (pc' := 10) (L' := [some (.int (zi a)), some (.int (zi b))]) (S' := [.int (zi a)]) rfl ?_
    exact gz_end (I := .ireturn) (len := 1) rfl (Or.inl rfl) ⟨hS, a, rfl, (by omega), (by omega), (by omega), (by omega), (by omega)⟩
set_option maxRecDepth 20000 in
set_option maxHeartbeats 4000000 in
theorem cl_Math_abs (d : Nat) {ty : Nat → Nat} {h : gH} (hJ : gJ rT 1027 ty h) (a : Int) (ra : (-2147483647) ≤ a ∧ a ≤ 2147483647) : gz gPP gGG gcn (d + 0) gt113 0 (gent [.int (zi a)] 1) [] h (fun q _ => gSs rT 1027 ty [] h q.2.2 ∧ ∃ z : Int, gfin gt113 q.1 q.2.1 = some (some (.int (zi z))) ∧ 0 ≤ z ∧ z ≤ 2147483647 ∧ (0 ≤ a → z = a) ∧ (a < 0 → z = -a)) := by
  have hS : gSs rT 1027 ty [] h h := gSs.rf hJ
  refine gz_s 1 (pc' := 1) (L' := [some (.int (zi a))]) (S' := [.int (zi a)]) rfl ?_
  by_cases hc1 : (0 : Int) ≤ a
  · refine gy_ifT (pc' := 9) rfl (by decide) (by decide) (by omega) hc1 ?_
    refine gz_s 1 (pc' := 10) (L' := [some (.int (zi a))]) (S' := [.int (zi a)]) rfl ?_
    exact gz_end (I := .ireturn) (len := 1) rfl (Or.inl rfl) ⟨hS, a, rfl, (by omega), (by omega), (by omega), (by omega)⟩
  · refine gy_ifF rfl (by decide) (by decide) (by omega) hc1 ?_
    refine gy_s 3 (pc' := 10) (L' := [some (.int (zi a))]) (S' := [.int (-(zi a))]) (L2 := [some (.int (zi a))]) (S2 := [.int (zi (-a))]) rfl (by simp only [zi_add, zi_sub, zi_mul, zi_neg, zi_and1, zi_and7, zi_and15, zi_and31, zi_and255]) (by simp only [zi_add, zi_sub, zi_mul, zi_neg, zi_and1, zi_and7, zi_and15, zi_and31, zi_and255]) ?_
    exact gz_end (I := .ireturn) (len := 1) rfl (Or.inl rfl) ⟨hS, -a, rfl, (by omega), (by omega), (by omega), (by omega)⟩
set_option maxRecDepth 20000 in
set_option maxHeartbeats 4000000 in
theorem cl_Math_minL (d : Nat) {ty : Nat → Nat} {h : gH} (hJ : gJ rT 1027 ty h) (a : Int) (ra : (-9223372036854775808) ≤ a ∧ a ≤ 9223372036854775807) (b : Int) (rb : (-9223372036854775808) ≤ b ∧ b ≤ 9223372036854775807) : gz gPP gGG gcn (d + 0) gt75 0 (gent [.long (zl a), .long (zl b)] 4) [] h (fun q _ => gSs rT 1027 ty [] h q.2.2 ∧ ∃ z : Int, gfin gt75 q.1 q.2.1 = some (some (.long (zl z))) ∧ (-9223372036854775808) ≤ z ∧ z ≤ 9223372036854775807 ∧ (z ≤ a) ∧ (z ≤ b) ∧ (z = a ∨ z = b)) := by
  have hS : gSs rT 1027 ty [] h h := gSs.rf hJ
  refine gz_s 2 (pc' := 2) (L' := [some (.long (zl a)), none, some (.long (zl b)), none]) (S' := [.long (zl b), .long (zl a)]) rfl ?_
  refine gy_lcmp rfl (by decide) (by omega) (by omega) (fun z1 az1 bz1 cz1 => ?_)
  by_cases hc2 : (0 : Int) < z1
  · refine gy_ifT (pc' := 10) rfl (by decide) (by decide) (by omega) hc2 ?_
    refine gz_s 1 (pc' := 11) (L' := [some (.long (zl a)), none, some (.long (zl b)), none]) (S' := [.long (zl b)]) rfl ?_
    exact gz_end (I := .lreturn) (len := 1) rfl (Or.inl rfl) ⟨hS, b, rfl, (by omega), (by omega), (by omega), (by omega), (by omega)⟩
  · refine gy_ifF rfl (by decide) (by decide) (by omega) hc2 ?_
    refine gz_s 2 (pc' := 11) (L' := [some (.long (zl a)), none, some (.long (zl b)), none]) (S' := [.long (zl a)]) rfl ?_
    exact gz_end (I := .lreturn) (len := 1) rfl (Or.inl rfl) ⟨hS, a, rfl, (by omega), (by omega), (by omega), (by omega), (by omega)⟩
set_option maxRecDepth 20000 in
set_option maxHeartbeats 4000000 in
theorem cl_Math_maxL (d : Nat) {ty : Nat → Nat} {h : gH} (hJ : gJ rT 1027 ty h) (a : Int) (ra : (-9223372036854775808) ≤ a ∧ a ≤ 9223372036854775807) (b : Int) (rb : (-9223372036854775808) ≤ b ∧ b ≤ 9223372036854775807) : gz gPP gGG gcn (d + 0) gt76 0 (gent [.long (zl a), .long (zl b)] 4) [] h (fun q _ => gSs rT 1027 ty [] h q.2.2 ∧ ∃ z : Int, gfin gt76 q.1 q.2.1 = some (some (.long (zl z))) ∧ (-9223372036854775808) ≤ z ∧ z ≤ 9223372036854775807 ∧ (a ≤ z) ∧ (b ≤ z) ∧ (z = a ∨ z = b)) := by
  have hS : gSs rT 1027 ty [] h h := gSs.rf hJ
  refine gz_s 2 (pc' := 2) (L' := [some (.long (zl a)), none, some (.long (zl b)), none]) (S' := [.long (zl b), .long (zl a)]) rfl ?_
  refine gy_lcmp rfl (by decide) (by omega) (by omega) (fun z1 az1 bz1 cz1 => ?_)
  by_cases hc2 : (z1 : Int) < 0
  · refine gy_ifT (pc' := 10) rfl (by decide) (by decide) (by omega) hc2 ?_
    refine gz_s 1 (pc' := 11) (L' := [some (.long (zl a)), none, some (.long (zl b)), none]) (S' := [.long (zl b)]) rfl ?_
    exact gz_end (I := .lreturn) (len := 1) rfl (Or.inl rfl) ⟨hS, b, rfl, (by omega), (by omega), (by omega), (by omega), (by omega)⟩
  · refine gy_ifF rfl (by decide) (by decide) (by omega) hc2 ?_
    refine gz_s 2 (pc' := 11) (L' := [some (.long (zl a)), none, some (.long (zl b)), none]) (S' := [.long (zl a)]) rfl ?_
    exact gz_end (I := .lreturn) (len := 1) rfl (Or.inl rfl) ⟨hS, a, rfl, (by omega), (by omega), (by omega), (by omega), (by omega)⟩
set_option maxRecDepth 20000 in
set_option maxHeartbeats 4000000 in
theorem cl_Math_absL (d : Nat) {ty : Nat → Nat} {h : gH} (hJ : gJ rT 1027 ty h) (a : Int) (ra : (-9223372036854775807) ≤ a ∧ a ≤ 9223372036854775807) : gz gPP gGG gcn (d + 0) gt98 0 (gent [.long (zl a)] 2) [] h (fun q _ => gSs rT 1027 ty [] h q.2.2 ∧ ∃ z : Int, gfin gt98 q.1 q.2.1 = some (some (.long (zl z))) ∧ 0 ≤ z ∧ z ≤ 9223372036854775807 ∧ (0 ≤ a → z = a) ∧ (a < 0 → z = -a)) := by
  have hS : gSs rT 1027 ty [] h h := gSs.rf hJ
  refine gz_s 2 (pc' := 2) (L' := [some (.long (zl a)), none]) (S' := [.long (zl 0), .long (zl a)]) rfl ?_
  refine gy_lcmp rfl (by decide) (by omega) (by omega) (fun z1 az1 bz1 cz1 => ?_)
  by_cases hc2 : (0 : Int) ≤ z1
  · refine gy_ifT (pc' := 11) rfl (by decide) (by decide) (by omega) hc2 ?_
    refine gz_s 1 (pc' := 12) (L' := [some (.long (zl a)), none]) (S' := [.long (zl a)]) rfl ?_
    exact gz_end (I := .lreturn) (len := 1) rfl (Or.inl rfl) ⟨hS, a, rfl, (by omega), (by omega), (by omega), (by omega)⟩
  · refine gy_ifF rfl (by decide) (by decide) (by omega) hc2 ?_
    refine gy_s 3 (pc' := 12) (L' := [some (.long (zl a)), none]) (S' := [.long (-(zl a))]) (L2 := [some (.long (zl a)), none]) (S2 := [.long (zl (-a))]) rfl (by simp only [zi_add, zi_sub, zi_mul, zi_neg, zi_and1, zi_and7, zi_and15, zi_and31, zi_and255, zl_add, zl_sub, zl_mul, zl_neg]) (by simp only [zi_add, zi_sub, zi_mul, zi_neg, zi_and1, zi_and7, zi_and15, zi_and31, zi_and255, zl_add, zl_sub, zl_mul, zl_neg]) ?_
    exact gz_end (I := .lreturn) (len := 1) rfl (Or.inl rfl) ⟨hS, -a, rfl, (by omega), (by omega), (by omega), (by omega)⟩
set_option maxRecDepth 20000 in
set_option maxHeartbeats 4000000 in
theorem cl_fill_counts (d : Nat) {ty : Nat → Nat} {h : gH} (hJ : gJ rT 1027 ty h) (a : Nat) (ta : ty a = 102) (v : Int) (rv : (-1) ≤ v ∧ v ≤ 255) : gz gPP gGG gcn (d + 0) gt5 0 (gent [.ref a, .int (zi v)] 4) [] h (fun q _ => gSs rT 1027 ty [102999] h q.2.2 ∧ gfin gt5 q.1 q.2.1 = some none) := by
  have hS : gSs rT 1027 ty [102999] h h := gSs.rf hJ
  refine gz_s 3 (pc' := 3) (L' := [some (.ref a), some (.int (zi v)), some (.int (zi 0)), none]) (S' := [.ref a]) rfl ?_
  refine gs_len rfl (by decide) hS.1 ta rfl rfl rfl (fun z1 ez1 az1 bz1 => ?_)
  have cz1 : 17 ≤ z1 ∧ z1 ≤ 17 := ⟨az1, bz1⟩
  refine gz_s 1 (pc' := 5) (L' := [some (.ref a), some (.int (zi v)), some (.int (zi 0)), some (.int (zi z1))]) (S' := []) rfl ?_
  have lp2 : ∀ (fu : Nat) (h3 : gH) (k : Int), (1000001 - k).toNat < fu → gSs rT 1027 ty [102999] h h3 → (0 ≤ k ∧ k ≤ 1000000) → gz gPP gGG gcn (d + 0) gt5 5 [some (.ref a), some (.int (zi v)), some (.int (zi k)), some (.int (zi z1))] [] h3 (fun q _ => gSs rT 1027 ty [102999] h q.2.2 ∧ gfin gt5 q.1 q.2.1 = some none) := by
    intro fu
    induction fu with
    | zero => intro h3 k hm; exact absurd hm (Nat.not_lt_zero _)
    | succ fu ihlp2 =>
      intro h3 k lp2m sh3 lp2f0 
      have hln : h3.2.2.2.1 a = h.2.2.2.1 a := congrFun sh3.2.2.2.2.1 a
      refine gz_s 2 (pc' := 7) (L' := [some (.ref a), some (.int (zi v)), some (.int (zi k)), some (.int (zi z1))]) (S' := [.int (zi z1), .int (zi k)]) rfl ?_
      by_cases hc4 : (z1 : Int) ≤ k
      · refine gy_icT (pc' := 20) rfl (by decide) (by decide) (by omega) (by omega) hc4 ?_
        exact gz_end (I := .return_) (len := 1) rfl (Or.inl rfl) ⟨sh3, rfl⟩
      · refine gy_icF rfl (by decide) (by decide) (by omega) (by omega) hc4 ?_
        refine gz_s 3 (pc' := 13) (L' := [some (.ref a), some (.int (zi v)), some (.int (zi k)), some (.int (zi z1))]) (S' := [.int (zi v), .int (zi k), .ref a]) rfl ?_
        have hl5 : 17 ≤ h3.2.2.2.1 a ∧ h3.2.2.2.1 a ≤ 17 := gJ.rowl (G := gGG) sh3.1 ta rfl
        refine gs_ast rfl (by decide) sh3 ta rfl rfl rfl (by decide) (fun _ => rfl) (by omega) (by omega) (fun _ => (by decide : (102999 : Nat) ∈ ([102999] : List Nat))) (by omega) (by omega) (fun h6 sh6 eh6 fh6 => ?_)
        refine gy_s 2 (pc' := 5) (L' := [some (.ref a), some (.int (zi v)), some (.int ((zi k) + zi 1)), some (.int (zi z1))]) (S' := []) (L2 := [some (.ref a), some (.int (zi v)), some (.int (zi (k + 1))), some (.int (zi z1))]) (S2 := []) rfl (by simp only [zi_add, zi_sub, zi_mul, zi_neg, zi_and1, zi_and7, zi_and15, zi_and31, zi_and255]) (by simp only [zi_add, zi_sub, zi_mul, zi_neg, zi_and1, zi_and7, zi_and15, zi_and31, zi_and255]) ?_
        exact gz_wk (ihlp2 h6 (k + 1) (by omega) sh6 (by omega) ) (gLw.s (gLw.s (gLw.s (gLw.s gLw.z))))
  exact gz_wk (lp2 _ h 0 (Nat.lt_succ_self _) hS (by omega) ) (gLw.s (gLw.s (gLw.s (gLw.s gLw.z))))
set_option maxRecDepth 20000 in
set_option maxHeartbeats 4000000 in
theorem cl_fill_damaged (d : Nat) {ty : Nat → Nat} {h : gH} (hJ : gJ rT 1027 ty h) (a : Nat) (ta : ty a = 113) (v : Int) (rv : 0 ≤ v ∧ v ≤ 1) : gz gPP gGG gcn (d + 0) gt5 0 (gent [.ref a, .int (zi v)] 4) [] h (fun q _ => gSs rT 1027 ty [113999] h q.2.2 ∧ gfin gt5 q.1 q.2.1 = some none) := by
  have hS : gSs rT 1027 ty [113999] h h := gSs.rf hJ
  refine gz_s 3 (pc' := 3) (L' := [some (.ref a), some (.int (zi v)), some (.int (zi 0)), none]) (S' := [.ref a]) rfl ?_
  refine gs_len rfl (by decide) hS.1 ta rfl rfl rfl (fun z1 ez1 az1 bz1 => ?_)
  have cz1 : 0 ≤ z1 ∧ z1 ≤ 192 := ⟨az1, bz1⟩
  refine gz_s 1 (pc' := 5) (L' := [some (.ref a), some (.int (zi v)), some (.int (zi 0)), some (.int (zi z1))]) (S' := []) rfl ?_
  have lp2 : ∀ (fu : Nat) (h3 : gH) (k : Int), (1000001 - k).toNat < fu → gSs rT 1027 ty [113999] h h3 → (0 ≤ k ∧ k ≤ 1000000) → gz gPP gGG gcn (d + 0) gt5 5 [some (.ref a), some (.int (zi v)), some (.int (zi k)), some (.int (zi z1))] [] h3 (fun q _ => gSs rT 1027 ty [113999] h q.2.2 ∧ gfin gt5 q.1 q.2.1 = some none) := by
    intro fu
    induction fu with
    | zero => intro h3 k hm; exact absurd hm (Nat.not_lt_zero _)
    | succ fu ihlp2 =>
      intro h3 k lp2m sh3 lp2f0 
      have hln : h3.2.2.2.1 a = h.2.2.2.1 a := congrFun sh3.2.2.2.2.1 a
      refine gz_s 2 (pc' := 7) (L' := [some (.ref a), some (.int (zi v)), some (.int (zi k)), some (.int (zi z1))]) (S' := [.int (zi z1), .int (zi k)]) rfl ?_
      by_cases hc4 : (z1 : Int) ≤ k
      · refine gy_icT (pc' := 20) rfl (by decide) (by decide) (by omega) (by omega) hc4 ?_
        exact gz_end (I := .return_) (len := 1) rfl (Or.inl rfl) ⟨sh3, rfl⟩
      · refine gy_icF rfl (by decide) (by decide) (by omega) (by omega) hc4 ?_
        refine gz_s 3 (pc' := 13) (L' := [some (.ref a), some (.int (zi v)), some (.int (zi k)), some (.int (zi z1))]) (S' := [.int (zi v), .int (zi k), .ref a]) rfl ?_
        have hl5 : 0 ≤ h3.2.2.2.1 a ∧ h3.2.2.2.1 a ≤ 192 := gJ.rowl (G := gGG) sh3.1 ta rfl
        have hl6 : h3.2.2.2.1 a = h.2.2.2.1 a := congrFun sh3.2.2.2.2.1 a
        refine gs_ast rfl (by decide) sh3 ta rfl rfl rfl (by decide) (fun _ => rfl) (by omega) (by omega) (fun _ => (by decide : (113999 : Nat) ∈ ([113999] : List Nat))) (by omega) (by omega) (fun h7 sh7 eh7 fh7 => ?_)
        refine gy_s 2 (pc' := 5) (L' := [some (.ref a), some (.int (zi v)), some (.int ((zi k) + zi 1)), some (.int (zi z1))]) (S' := []) (L2 := [some (.ref a), some (.int (zi v)), some (.int (zi (k + 1))), some (.int (zi z1))]) (S2 := []) rfl (by simp only [zi_add, zi_sub, zi_mul, zi_neg, zi_and1, zi_and7, zi_and15, zi_and31, zi_and255]) (by simp only [zi_add, zi_sub, zi_mul, zi_neg, zi_and1, zi_and7, zi_and15, zi_and31, zi_and255]) ?_
        exact gz_wk (ihlp2 h7 (k + 1) (by omega) sh7 (by omega) ) (gLw.s (gLw.s (gLw.s (gLw.s gLw.z))))
  exact gz_wk (lp2 _ h 0 (Nat.lt_succ_self _) hS (by omega) ) (gLw.s (gLw.s (gLw.s (gLw.s gLw.z))))
set_option maxRecDepth 20000 in
set_option maxHeartbeats 4000000 in
theorem cl_fill_coefficients (d : Nat) {ty : Nat → Nat} {h : gH} (hJ : gJ rT 1027 ty h) (a : Nat) (ta : ty a = 112) (v : Int) (rv : (-2147483648) ≤ v ∧ v ≤ 2147483647) : gz gPP gGG gcn (d + 0) gt5 0 (gent [.ref a, .int (zi v)] 4) [] h (fun q _ => gSs rT 1027 ty [112999] h q.2.2 ∧ gfin gt5 q.1 q.2.1 = some none) := by
  have hS : gSs rT 1027 ty [112999] h h := gSs.rf hJ
  refine gz_s 3 (pc' := 3) (L' := [some (.ref a), some (.int (zi v)), some (.int (zi 0)), none]) (S' := [.ref a]) rfl ?_
  refine gs_len rfl (by decide) hS.1 ta rfl rfl rfl (fun z1 ez1 az1 bz1 => ?_)
  have cz1 : 0 ≤ z1 ∧ z1 ≤ 12288 := ⟨az1, bz1⟩
  refine gz_s 1 (pc' := 5) (L' := [some (.ref a), some (.int (zi v)), some (.int (zi 0)), some (.int (zi z1))]) (S' := []) rfl ?_
  have lp2 : ∀ (fu : Nat) (h3 : gH) (k : Int), (1000001 - k).toNat < fu → gSs rT 1027 ty [112999] h h3 → (0 ≤ k ∧ k ≤ 1000000) → gz gPP gGG gcn (d + 0) gt5 5 [some (.ref a), some (.int (zi v)), some (.int (zi k)), some (.int (zi z1))] [] h3 (fun q _ => gSs rT 1027 ty [112999] h q.2.2 ∧ gfin gt5 q.1 q.2.1 = some none) := by
    intro fu
    induction fu with
    | zero => intro h3 k hm; exact absurd hm (Nat.not_lt_zero _)
    | succ fu ihlp2 =>
      intro h3 k lp2m sh3 lp2f0 
      have hln : h3.2.2.2.1 a = h.2.2.2.1 a := congrFun sh3.2.2.2.2.1 a
      refine gz_s 2 (pc' := 7) (L' := [some (.ref a), some (.int (zi v)), some (.int (zi k)), some (.int (zi z1))]) (S' := [.int (zi z1), .int (zi k)]) rfl ?_
      by_cases hc4 : (z1 : Int) ≤ k
      · refine gy_icT (pc' := 20) rfl (by decide) (by decide) (by omega) (by omega) hc4 ?_
        exact gz_end (I := .return_) (len := 1) rfl (Or.inl rfl) ⟨sh3, rfl⟩
      · refine gy_icF rfl (by decide) (by decide) (by omega) (by omega) hc4 ?_
        refine gz_s 3 (pc' := 13) (L' := [some (.ref a), some (.int (zi v)), some (.int (zi k)), some (.int (zi z1))]) (S' := [.int (zi v), .int (zi k), .ref a]) rfl ?_
        have hl5 : 0 ≤ h3.2.2.2.1 a ∧ h3.2.2.2.1 a ≤ 12288 := gJ.rowl (G := gGG) sh3.1 ta rfl
        have hl6 : h3.2.2.2.1 a = h.2.2.2.1 a := congrFun sh3.2.2.2.2.1 a
        refine gs_ast rfl (by decide) sh3 ta rfl rfl rfl (by decide) (fun _ => rfl) (by omega) (by omega) (fun _ => (by decide : (112999 : Nat) ∈ ([112999] : List Nat))) (by omega) (by omega) (fun h7 sh7 eh7 fh7 => ?_)
        refine gy_s 2 (pc' := 5) (L' := [some (.ref a), some (.int (zi v)), some (.int ((zi k) + zi 1)), some (.int (zi z1))]) (S' := []) (L2 := [some (.ref a), some (.int (zi v)), some (.int (zi (k + 1))), some (.int (zi z1))]) (S2 := []) rfl (by simp only [zi_add, zi_sub, zi_mul, zi_neg, zi_and1, zi_and7, zi_and15, zi_and31, zi_and255]) (by simp only [zi_add, zi_sub, zi_mul, zi_neg, zi_and1, zi_and7, zi_and15, zi_and31, zi_and255]) ?_
        exact gz_wk (ihlp2 h7 (k + 1) (by omega) sh7 (by omega) ) (gLw.s (gLw.s (gLw.s (gLw.s gLw.z))))
  exact gz_wk (lp2 _ h 0 (Nat.lt_succ_self _) hS (by omega) ) (gLw.s (gLw.s (gLw.s (gLw.s gLw.z))))
set_option maxRecDepth 20000 in
set_option maxHeartbeats 4000000 in
theorem cl_fill_weights0 (d : Nat) {ty : Nat → Nat} {h : gH} (hJ : gJ rT 1027 ty h) (a : Nat) (ta : ty a = 97) (v : Int) (rv : (-2147483648) ≤ v ∧ v ≤ 2147483647) : gz gPP gGG gcn (d + 0) gt5 0 (gent [.ref a, .int (zi v)] 4) [] h (fun q _ => gSs rT 1027 ty [97999] h q.2.2 ∧ gfin gt5 q.1 q.2.1 = some none) := by
  have hS : gSs rT 1027 ty [97999] h h := gSs.rf hJ
  refine gz_s 3 (pc' := 3) (L' := [some (.ref a), some (.int (zi v)), some (.int (zi 0)), none]) (S' := [.ref a]) rfl ?_
  refine gs_len rfl (by decide) hS.1 ta rfl rfl rfl (fun z1 ez1 az1 bz1 => ?_)
  have cz1 : 257 ≤ z1 ∧ z1 ≤ 257 := ⟨az1, bz1⟩
  refine gz_s 1 (pc' := 5) (L' := [some (.ref a), some (.int (zi v)), some (.int (zi 0)), some (.int (zi z1))]) (S' := []) rfl ?_
  have lp2 : ∀ (fu : Nat) (h3 : gH) (k : Int), (1000001 - k).toNat < fu → gSs rT 1027 ty [97999] h h3 → (0 ≤ k ∧ k ≤ 1000000) → gz gPP gGG gcn (d + 0) gt5 5 [some (.ref a), some (.int (zi v)), some (.int (zi k)), some (.int (zi z1))] [] h3 (fun q _ => gSs rT 1027 ty [97999] h q.2.2 ∧ gfin gt5 q.1 q.2.1 = some none) := by
    intro fu
    induction fu with
    | zero => intro h3 k hm; exact absurd hm (Nat.not_lt_zero _)
    | succ fu ihlp2 =>
      intro h3 k lp2m sh3 lp2f0 
      have hln : h3.2.2.2.1 a = h.2.2.2.1 a := congrFun sh3.2.2.2.2.1 a
      refine gz_s 2 (pc' := 7) (L' := [some (.ref a), some (.int (zi v)), some (.int (zi k)), some (.int (zi z1))]) (S' := [.int (zi z1), .int (zi k)]) rfl ?_
      by_cases hc4 : (z1 : Int) ≤ k
      · refine gy_icT (pc' := 20) rfl (by decide) (by decide) (by omega) (by omega) hc4 ?_
        exact gz_end (I := .return_) (len := 1) rfl (Or.inl rfl) ⟨sh3, rfl⟩
      · refine gy_icF rfl (by decide) (by decide) (by omega) (by omega) hc4 ?_
        refine gz_s 3 (pc' := 13) (L' := [some (.ref a), some (.int (zi v)), some (.int (zi k)), some (.int (zi z1))]) (S' := [.int (zi v), .int (zi k), .ref a]) rfl ?_
        have hl5 : 257 ≤ h3.2.2.2.1 a ∧ h3.2.2.2.1 a ≤ 257 := gJ.rowl (G := gGG) sh3.1 ta rfl
        refine gs_ast rfl (by decide) sh3 ta rfl rfl rfl (by decide) (fun _ => rfl) (by omega) (by omega) (fun _ => (by decide : (97999 : Nat) ∈ ([97999] : List Nat))) (by omega) (by omega) (fun h6 sh6 eh6 fh6 => ?_)
        refine gy_s 2 (pc' := 5) (L' := [some (.ref a), some (.int (zi v)), some (.int ((zi k) + zi 1)), some (.int (zi z1))]) (S' := []) (L2 := [some (.ref a), some (.int (zi v)), some (.int (zi (k + 1))), some (.int (zi z1))]) (S2 := []) rfl (by simp only [zi_add, zi_sub, zi_mul, zi_neg, zi_and1, zi_and7, zi_and15, zi_and31, zi_and255]) (by simp only [zi_add, zi_sub, zi_mul, zi_neg, zi_and1, zi_and7, zi_and15, zi_and31, zi_and255]) ?_
        exact gz_wk (ihlp2 h6 (k + 1) (by omega) sh6 (by omega) ) (gLw.s (gLw.s (gLw.s (gLw.s gLw.z))))
  exact gz_wk (lp2 _ h 0 (Nat.lt_succ_self _) hS (by omega) ) (gLw.s (gLw.s (gLw.s (gLw.s gLw.z))))
set_option maxRecDepth 20000 in
set_option maxHeartbeats 4000000 in
theorem cl_fill_weights1 (d : Nat) {ty : Nat → Nat} {h : gH} (hJ : gJ rT 1027 ty h) (a : Nat) (ta : ty a = 80) (v : Int) (rv : (-2147483648) ≤ v ∧ v ≤ 2147483647) : gz gPP gGG gcn (d + 0) gt5 0 (gent [.ref a, .int (zi v)] 4) [] h (fun q _ => gSs rT 1027 ty [80999] h q.2.2 ∧ gfin gt5 q.1 q.2.1 = some none) := by
  have hS : gSs rT 1027 ty [80999] h h := gSs.rf hJ
  refine gz_s 3 (pc' := 3) (L' := [some (.ref a), some (.int (zi v)), some (.int (zi 0)), none]) (S' := [.ref a]) rfl ?_
  refine gs_len rfl (by decide) hS.1 ta rfl rfl rfl (fun z1 ez1 az1 bz1 => ?_)
  have cz1 : 257 ≤ z1 ∧ z1 ≤ 257 := ⟨az1, bz1⟩
  refine gz_s 1 (pc' := 5) (L' := [some (.ref a), some (.int (zi v)), some (.int (zi 0)), some (.int (zi z1))]) (S' := []) rfl ?_
  have lp2 : ∀ (fu : Nat) (h3 : gH) (k : Int), (1000001 - k).toNat < fu → gSs rT 1027 ty [80999] h h3 → (0 ≤ k ∧ k ≤ 1000000) → gz gPP gGG gcn (d + 0) gt5 5 [some (.ref a), some (.int (zi v)), some (.int (zi k)), some (.int (zi z1))] [] h3 (fun q _ => gSs rT 1027 ty [80999] h q.2.2 ∧ gfin gt5 q.1 q.2.1 = some none) := by
    intro fu
    induction fu with
    | zero => intro h3 k hm; exact absurd hm (Nat.not_lt_zero _)
    | succ fu ihlp2 =>
      intro h3 k lp2m sh3 lp2f0 
      have hln : h3.2.2.2.1 a = h.2.2.2.1 a := congrFun sh3.2.2.2.2.1 a
      refine gz_s 2 (pc' := 7) (L' := [some (.ref a), some (.int (zi v)), some (.int (zi k)), some (.int (zi z1))]) (S' := [.int (zi z1), .int (zi k)]) rfl ?_
      by_cases hc4 : (z1 : Int) ≤ k
      · refine gy_icT (pc' := 20) rfl (by decide) (by decide) (by omega) (by omega) hc4 ?_
        exact gz_end (I := .return_) (len := 1) rfl (Or.inl rfl) ⟨sh3, rfl⟩
      · refine gy_icF rfl (by decide) (by decide) (by omega) (by omega) hc4 ?_
        refine gz_s 3 (pc' := 13) (L' := [some (.ref a), some (.int (zi v)), some (.int (zi k)), some (.int (zi z1))]) (S' := [.int (zi v), .int (zi k), .ref a]) rfl ?_
        have hl5 : 257 ≤ h3.2.2.2.1 a ∧ h3.2.2.2.1 a ≤ 257 := gJ.rowl (G := gGG) sh3.1 ta rfl
        refine gs_ast rfl (by decide) sh3 ta rfl rfl rfl (by decide) (fun _ => rfl) (by omega) (by omega) (fun _ => (by decide : (80999 : Nat) ∈ ([80999] : List Nat))) (by omega) (by omega) (fun h6 sh6 eh6 fh6 => ?_)
        refine gy_s 2 (pc' := 5) (L' := [some (.ref a), some (.int (zi v)), some (.int ((zi k) + zi 1)), some (.int (zi z1))]) (S' := []) (L2 := [some (.ref a), some (.int (zi v)), some (.int (zi (k + 1))), some (.int (zi z1))]) (S2 := []) rfl (by simp only [zi_add, zi_sub, zi_mul, zi_neg, zi_and1, zi_and7, zi_and15, zi_and31, zi_and255]) (by simp only [zi_add, zi_sub, zi_mul, zi_neg, zi_and1, zi_and7, zi_and15, zi_and31, zi_and255]) ?_
        exact gz_wk (ihlp2 h6 (k + 1) (by omega) sh6 (by omega) ) (gLw.s (gLw.s (gLw.s (gLw.s gLw.z))))
  exact gz_wk (lp2 _ h 0 (Nat.lt_succ_self _) hS (by omega) ) (gLw.s (gLw.s (gLw.s (gLw.s gLw.z))))
set_option maxRecDepth 20000 in
set_option maxHeartbeats 4000000 in
theorem cl_Collected_byteAt (d : Nat) {ty : Nat → Nat} {h : gH} (hJ : gJ rT 1027 ty h) (x : Nat) (tx : ty x = 51) (p : Int) (rp : (-2147483648) ≤ p ∧ p ≤ 2147483647) (sz : Int) (esz : h.2.2.2.2 x 1 = .int (zi sz)) (rsz : 0 ≤ sz ∧ sz ≤ 2000) (uq : gUq ty) : gz gPP gGG gcn (d + 0) gt17 0 (gent [.ref x, .int (zi p)] 2) [] h (fun q _ => gSs rT 1027 ty [] h q.2.2 ∧ ∃ z : Int, gfin gt17 q.1 q.2.1 = some (some (.int (zi z))) ∧ (-1) ≤ z ∧ z ≤ 255 ∧ (0 ≤ z ↔ (0 ≤ p ∧ p < sz))) := by
  have hS : gSs rT 1027 ty [] h h := gSs.rf hJ
  refine gz_s 1 (pc' := 1) (L' := [some (.ref x), some (.int (zi p))]) (S' := [.int (zi p)]) rfl ?_
  by_cases hc1 : (p : Int) < 0
  · refine gy_ifT (pc' := 12) rfl (by decide) (by decide) (by omega) hc1 ?_
    refine gz_s 2 (pc' := 26) (L' := [some (.ref x), some (.int (zi p))]) (S' := [.int (zi (-1))]) rfl ?_
    exact gz_end (I := .ireturn) (len := 1) rfl (Or.inl rfl) ⟨hS, (-1), rfl, (by omega), (by omega), (by omega)⟩
  · refine gy_ifF rfl (by decide) (by decide) (by omega) hc1 ?_
    refine gz_s 2 (pc' := 6) (L' := [some (.ref x), some (.int (zi p))]) (S' := [.ref x, .int (zi p)]) rfl ?_
    refine gs_gtk rfl (by decide) rfl hS.1 tx rfl rfl esz ?_
    by_cases hc2 : (p : Int) < sz
    · refine gy_icT (pc' := 16) rfl (by decide) (by decide) (by omega) (by omega) hc2 ?_
      refine gz_s 1 (pc' := 17) (L' := [some (.ref x), some (.int (zi p))]) (S' := [.ref x]) rfl ?_
      refine gs_gtr rfl (by decide) rfl hS.1 tx rfl rfl rfl (fun c3 ec3 tc3 => ?_)
      refine gz_s 1 (pc' := 21) (L' := [some (.ref x), some (.int (zi p))]) (S' := [.int (zi p), .ref c3]) rfl ?_
      have hl4 : 2000 ≤ h.2.2.2.1 c3 ∧ h.2.2.2.1 c3 ≤ 2000 := gJ.rowl (G := gGG) hS.1 tc3 rfl
      refine gs_bald rfl (by decide) hS.1 tc3 rfl rfl (Or.inl rfl) (by decide) (fun _ => rfl) (by omega) (by omega) (fun z5 ez5 az5 bz5 => ?_)
      refine gy_s 2 (pc' := 26) (L' := [some (.ref x), some (.int (zi p))]) (S' := [.int ((zi z5) &&& (zi 255))]) (L2 := [some (.ref x), some (.int (zi p))]) (S2 := [.int (zi (z5 % 256))]) rfl (by simp only [zi_add, zi_sub, zi_mul, zi_neg, zi_and1, zi_and7, zi_and15, zi_and31, zi_and255]) (by simp only [zi_add, zi_sub, zi_mul, zi_neg, zi_and1, zi_and7, zi_and15, zi_and31, zi_and255]) ?_
      exact gz_end (I := .ireturn) (len := 1) rfl (Or.inl rfl) ⟨hS, z5 % 256, rfl, (by omega), (by omega), (by omega)⟩
    · refine gy_icF rfl (by decide) (by decide) (by omega) (by omega) hc2 ?_
      refine gz_s 2 (pc' := 26) (L' := [some (.ref x), some (.int (zi p))]) (S' := [.int (zi (-1))]) rfl ?_
      exact gz_end (I := .ireturn) (len := 1) rfl (Or.inl rfl) ⟨hS, (-1), rfl, (by omega), (by omega), (by omega)⟩
set_option maxRecDepth 20000 in
set_option maxHeartbeats 4000000 in
theorem cl_Collected_twoAt (d : Nat) {ty : Nat → Nat} {h : gH} (hJ : gJ rT 1027 ty h) (x : Nat) (tx : ty x = 51) (p : Int) (rp : (-1) ≤ p ∧ p ≤ 100000) (sz : Int) (esz : h.2.2.2.2 x 1 = .int (zi sz)) (rsz : 0 ≤ sz ∧ sz ≤ 2000) (uq : gUq ty) : gz gPP gGG gcn (d + 1) gt16 0 (gent [.ref x, .int (zi p)] 4) [] h (fun q _ => gSs rT 1027 ty [] h q.2.2 ∧ ∃ z : Int, gfin gt16 q.1 q.2.1 = some (some (.int (zi z))) ∧ (-1) ≤ z ∧ z ≤ 65535 ∧ (0 ≤ z ↔ (0 ≤ p ∧ p + 1 < sz))) := by
  have hS : gSs rT 1027 ty [] h h := gSs.rf hJ
  refine gz_s 2 (pc' := 2) (L' := [some (.ref x), some (.int (zi p)), none, none]) (S' := [.int (zi p), .ref x]) rfl ?_
  refine gz_call rfl (by decide) rfl (by decide) (by decide) (gcal_of rfl rfl rfl (Nat.le_of_ble_eq_true rfl) (gJ.recv (G := gGG) hS.1 tx rfl rfl)) (cl_Collected_byteAt _ hS.1 x tx p (by omega) sz esz (by omega) uq) (fun q1 _ wq1 => ?_)
  obtain ⟨pq1, oq1, hq1⟩ := q1
  obtain ⟨xq1, zq1, gq1, aq1, bq1, uq1_0⟩ := wq1
  refine ⟨_, gq1, ?_⟩
  show gz gPP gGG gcn _ _ 5 [some (.ref x), some (.int (zi p)), none, none] [.int (zi zq1)] hq1 _
  have sq1 : gSs rT 1027 ty [] h hq1 := gSs.tr hS xq1 (by decide)
  have s2 := (xq1.2.2.2.2.2 x 1 (by rw [tx]; decide)).trans esz
  refine gy_s 5 (pc' := 10) (L' := [some (.ref x), some (.int (zi p)), some (.int (zi zq1)), none]) (S' := [.int ((zi p) + (zi 1)), .ref x]) (L2 := [some (.ref x), some (.int (zi p)), some (.int (zi zq1)), none]) (S2 := [.int (zi (p + 1)), .ref x]) rfl (by simp only [zi_add, zi_sub, zi_mul, zi_neg, zi_and1, zi_and7, zi_and15, zi_and31, zi_and255]) (by simp only [zi_add, zi_sub, zi_mul, zi_neg, zi_and1, zi_and7, zi_and15, zi_and31, zi_and255]) ?_
  refine gz_call rfl (by decide) rfl (by decide) (by decide) (gcal_of rfl rfl rfl (Nat.le_of_ble_eq_true rfl) (gJ.recv (G := gGG) sq1.1 tx rfl rfl)) (cl_Collected_byteAt _ sq1.1 x tx (p + 1) (by omega) sz s2 (by omega) uq) (fun q3 _ wq3 => ?_)
  obtain ⟨pq3, oq3, hq3⟩ := q3
  obtain ⟨xq3, zq3, gq3, aq3, bq3, uq3_0⟩ := wq3
  refine ⟨_, gq3, ?_⟩
  show gz gPP gGG gcn _ _ 13 [some (.ref x), some (.int (zi p)), some (.int (zi zq1)), none] [.int (zi zq3)] hq3 _
  have sq3 : gSs rT 1027 ty [] h hq3 := gSs.tr sq1 xq3 (by decide)
  have s4 := (xq3.2.2.2.2.2 x 1 (by rw [tx]; decide)).trans s2
  refine gz_s 2 (pc' := 15) (L' := [some (.ref x), some (.int (zi p)), some (.int (zi zq1)), some (.int (zi zq3))]) (S' := [.int (zi zq1)]) rfl ?_
  by_cases hc5 : (zq1 : Int) < 0
  · refine gy_ifT (pc' := 22) rfl (by decide) (by decide) (by omega) hc5 ?_
    refine gz_s 2 (pc' := 33) (L' := [some (.ref x), some (.int (zi p)), some (.int (zi zq1)), some (.int (zi zq3))]) (S' := [.int (zi (-1))]) rfl ?_
    exact gz_end (I := .ireturn) (len := 1) rfl (Or.inl rfl) ⟨sq3, (-1), rfl, (by omega), (by omega), (by omega)⟩
  · refine gy_ifF rfl (by decide) (by decide) (by omega) hc5 ?_
    refine gz_s 1 (pc' := 19) (L' := [some (.ref x), some (.int (zi p)), some (.int (zi zq1)), some (.int (zi zq3))]) (S' := [.int (zi zq3)]) rfl ?_
    by_cases hc6 : (0 : Int) ≤ zq3
    · refine gy_ifT (pc' := 26) rfl (by decide) (by decide) (by omega) hc6 ?_
      refine gy_s 5 (pc' := 33) (L' := [some (.ref x), some (.int (zi p)), some (.int (zi zq1)), some (.int (zi zq3))]) (S' := [.int (((zi 256) * (zi zq1)) + (zi zq3))]) (L2 := [some (.ref x), some (.int (zi p)), some (.int (zi zq1)), some (.int (zi zq3))]) (S2 := [.int (zi ((256 * zq1) + zq3))]) rfl (by simp only [zi_add, zi_sub, zi_mul, zi_neg, zi_and1, zi_and7, zi_and15, zi_and31, zi_and255]) (by simp only [zi_add, zi_sub, zi_mul, zi_neg, zi_and1, zi_and7, zi_and15, zi_and31, zi_and255]) ?_
      exact gz_end (I := .ireturn) (len := 1) rfl (Or.inl rfl) ⟨sq3, (256 * zq1) + zq3, rfl, (by omega), (by omega), (by omega)⟩
    · refine gy_ifF rfl (by decide) (by decide) (by omega) hc6 ?_
      refine gz_s 2 (pc' := 33) (L' := [some (.ref x), some (.int (zi p)), some (.int (zi zq1)), some (.int (zi zq3))]) (S' := [.int (zi (-1))]) rfl ?_
      exact gz_end (I := .ireturn) (len := 1) rfl (Or.inl rfl) ⟨sq3, (-1), rfl, (by omega), (by omega), (by omega)⟩
set_option maxRecDepth 20000 in
set_option maxHeartbeats 4000000 in
theorem cl_Collected_markerAt (d : Nat) {ty : Nat → Nat} {h : gH} (hJ : gJ rT 1027 ty h) (x : Nat) (tx : ty x = 51) (f : Int) (rf : 0 ≤ f ∧ f ≤ 100000) (sz : Int) (esz : h.2.2.2.2 x 1 = .int (zi sz)) (rsz : 0 ≤ sz ∧ sz ≤ 2000) (uq : gUq ty) : gz gPP gGG gcn (d + 1) gt19 0 (gent [.ref x, .int (zi f)] 3) [] h (fun q _ => gSs rT 1027 ty [] h q.2.2 ∧ ∃ z : Int, gfin gt19 q.1 q.2.1 = some (some (.int (zi z))) ∧ 0 ≤ z ∧ z ≤ 100000 ∧ (f ≤ z) ∧ (z = f ∨ z ≤ sz)) := by
  have hS : gSs rT 1027 ty [] h h := gSs.rf hJ
  refine gz_s 2 (pc' := 2) (L' := [some (.ref x), some (.int (zi f)), some (.int (zi f))]) (S' := []) rfl ?_
  have lp1 : ∀ (fu : Nat) (h2 : gH) (p : Int), (100001 - p).toNat < fu → gSs rT 1027 ty [] h h2 → (0 ≤ p ∧ p ≤ 100000) → (f ≤ p) → (p = f ∨ p ≤ sz) → h2.2.2.2.2 x 1 = .int (zi sz) → gz gPP gGG gcn (d + 1) gt19 2 [some (.ref x), some (.int (zi f)), some (.int (zi p))] [] h2 (fun q _ => gSs rT 1027 ty [] h q.2.2 ∧ ∃ z : Int, gfin gt19 q.1 q.2.1 = some (some (.int (zi z))) ∧ 0 ≤ z ∧ z ≤ 100000 ∧ (f ≤ z) ∧ (z = f ∨ z ≤ sz)) := by
    intro fu
    induction fu with
    | zero => intro h2 p hm; exact absurd hm (Nat.not_lt_zero _)
    | succ fu ihlp1 =>
      intro h2 p lp1m sh2 lp1f0 lp1f1 lp1f2 lp1k0
      refine gz_s 2 (pc' := 4) (L' := [some (.ref x), some (.int (zi f)), some (.int (zi p))]) (S' := [.ref x, .int (zi p)]) rfl ?_
      refine gs_gtk rfl (by decide) rfl sh2.1 tx rfl rfl lp1k0 ?_
      by_cases hc3 : (sz : Int) ≤ p
      · refine gy_icT (pc' := 27) rfl (by decide) (by decide) (by omega) (by omega) hc3 ?_
        refine gz_s 1 (pc' := 28) (L' := [some (.ref x), some (.int (zi f)), some (.int (zi p))]) (S' := [.int (zi p)]) rfl ?_
        exact gz_end (I := .ireturn) (len := 1) rfl (Or.inl rfl) ⟨sh2, p, rfl, (by omega), (by omega), (by omega), (by omega)⟩
      · refine gy_icF rfl (by decide) (by decide) (by omega) (by omega) hc3 ?_
        refine gz_s 2 (pc' := 12) (L' := [some (.ref x), some (.int (zi f)), some (.int (zi p))]) (S' := [.int (zi p), .ref x]) rfl ?_
        refine gz_call rfl (by decide) rfl (by decide) (by decide) (gcal_of rfl rfl rfl (Nat.le_of_ble_eq_true rfl) (gJ.recv (G := gGG) sh2.1 tx rfl rfl)) (cl_Collected_byteAt _ sh2.1 x tx p (by omega) sz lp1k0 (by omega) uq) (fun q4 _ wq4 => ?_)
        obtain ⟨pq4, oq4, hq4⟩ := q4
        obtain ⟨xq4, zq4, gq4, aq4, bq4, uq4_0⟩ := wq4
        refine ⟨_, gq4, ?_⟩
        show gz gPP gGG gcn _ _ 15 [some (.ref x), some (.int (zi f)), some (.int (zi p))] [.int (zi zq4)] hq4 _
        have sq4 : gSs rT 1027 ty [] h hq4 := gSs.tr sh2 xq4 (by decide)
        have s5 := (xq4.2.2.2.2.2 x 1 (by rw [tx]; decide)).trans lp1k0
        refine gz_s 1 (pc' := 18) (L' := [some (.ref x), some (.int (zi f)), some (.int (zi p))]) (S' := [.int (zi 255), .int (zi zq4)]) rfl ?_
        by_cases hc6 : ¬ (zq4 : Int) = 255
        · refine gy_icT (pc' := 27) rfl (by decide) (by decide) (by omega) (by omega) hc6 ?_
          refine gz_s 1 (pc' := 28) (L' := [some (.ref x), some (.int (zi f)), some (.int (zi p))]) (S' := [.int (zi p)]) rfl ?_
          exact gz_end (I := .ireturn) (len := 1) rfl (Or.inl rfl) ⟨sq4, p, rfl, (by omega), (by omega), (by omega), (by omega)⟩
        · refine gy_icF rfl (by decide) (by decide) (by omega) (by omega) hc6 ?_
          refine gy_s 2 (pc' := 2) (L' := [some (.ref x), some (.int (zi f)), some (.int ((zi p) + zi 1))]) (S' := []) (L2 := [some (.ref x), some (.int (zi f)), some (.int (zi (p + 1)))]) (S2 := []) rfl (by simp only [zi_add, zi_sub, zi_mul, zi_neg, zi_and1, zi_and7, zi_and15, zi_and31, zi_and255]) (by simp only [zi_add, zi_sub, zi_mul, zi_neg, zi_and1, zi_and7, zi_and15, zi_and31, zi_and255]) ?_
          exact gz_wk (ihlp1 hq4 (p + 1) (by omega) sq4 (by omega) (by omega) (by omega) s5) (gLw.s (gLw.s (gLw.s gLw.z)))
  exact gz_wk (lp1 _ h f (Nat.lt_succ_self _) hS (by omega) (by omega) (by omega) esz) (gLw.s (gLw.s (gLw.s gLw.z)))
set_option maxRecDepth 20000 in
set_option maxHeartbeats 4000000 in
theorem cl_Collected_append (d : Nat) {ty : Nat → Nat} {h : gH} (hJ : gJ rT 1027 ty h) (x : Nat) (tx : ty x = 51) (b : Int) (rb : (-128) ≤ b ∧ b ≤ 127) (sz : Int) (esz : h.2.2.2.2 x 1 = .int (zi sz)) (rsz : 0 ≤ sz ∧ sz ≤ 2000) (uq : gUq ty) : gz gPP gGG gcn (d + 0) gt69 0 (gent [.ref x, .int (zi b)] 2) [] h (fun q _ => gSs rT 1027 ty [51001, 52999] h q.2.2 ∧ gfin gt69 q.1 q.2.1 = some none) := by
  have hS : gSs rT 1027 ty [51001, 52999] h h := gSs.rf hJ
  refine gz_s 1 (pc' := 1) (L' := [some (.ref x), some (.int (zi b))]) (S' := [.ref x]) rfl ?_
  refine gs_gtk rfl (by decide) rfl hS.1 tx rfl rfl esz ?_
  refine gz_s 1 (pc' := 5) (L' := [some (.ref x), some (.int (zi b))]) (S' := [.ref x, .int (zi sz)]) rfl ?_
  refine gs_gtr rfl (by decide) rfl hS.1 tx rfl rfl rfl (fun c1 ec1 tc1 => ?_)
  refine gs_len rfl (by decide) hS.1 tc1 rfl rfl rfl (fun z2 ez2 az2 bz2 => ?_)
  have cz2 : 2000 ≤ z2 ∧ z2 ≤ 2000 := ⟨az2, bz2⟩
  by_cases hc3 : (z2 : Int) ≤ sz
  · refine gy_icT (pc' := 32) rfl (by decide) (by decide) (by omega) (by omega) hc3 ?_
    exact gz_end (I := .return_) (len := 1) rfl (Or.inl rfl) ⟨hS, rfl⟩
  · refine gy_icF rfl (by decide) (by decide) (by omega) (by omega) hc3 ?_
    refine gz_s 1 (pc' := 13) (L' := [some (.ref x), some (.int (zi b))]) (S' := [.ref x]) rfl ?_
    refine gs_gtk rfl (by decide) rfl hS.1 tx rfl rfl ec1 ?_
    refine gz_s 1 (pc' := 17) (L' := [some (.ref x), some (.int (zi b))]) (S' := [.ref x, .ref c1]) rfl ?_
    refine gs_gtk rfl (by decide) rfl hS.1 tx rfl rfl esz ?_
    refine gz_s 1 (pc' := 21) (L' := [some (.ref x), some (.int (zi b))]) (S' := [.int (zi b), .int (zi sz), .ref c1]) rfl ?_
    have hl4 : 2000 ≤ h.2.2.2.1 c1 ∧ h.2.2.2.1 c1 ≤ 2000 := gJ.rowl (G := gGG) hS.1 tc1 rfl
    refine gs_bast rfl (by decide) hS tc1 rfl rfl rfl (by decide) (fun _ => rfl) (by decide) (by omega) (by omega) (fun _ => (by decide : (52999 : Nat) ∈ ([51001, 52999] : List Nat))) (fun h5 sh5 fh5 => ?_)
    have s6 := (fh5 x 1 (fun q => absurd (((tx).symm.trans (congrArg ty q.1)).trans tc1) (by decide))).trans esz
    have s7 := (fh5 x 0 (fun q => absurd (((tx).symm.trans (congrArg ty q.1)).trans tc1) (by decide))).trans ec1
    refine gz_s 2 (pc' := 24) (L' := [some (.ref x), some (.int (zi b))]) (S' := [.ref x, .ref x]) rfl ?_
    refine gs_gtk rfl (by decide) rfl sh5.1 tx rfl rfl s6 ?_
    refine gy_s 2 (pc' := 29) (L' := [some (.ref x), some (.int (zi b))]) (S' := [.int ((zi sz) + (zi 1)), .ref x]) (L2 := [some (.ref x), some (.int (zi b))]) (S2 := [.int (zi (sz + 1)), .ref x]) rfl (by simp only [zi_add, zi_sub, zi_mul, zi_neg, zi_and1, zi_and7, zi_and15, zi_and31, zi_and255]) (by simp only [zi_add, zi_sub, zi_mul, zi_neg, zi_and1, zi_and7, zi_and15, zi_and31, zi_and255]) ?_
    refine gs_put rfl (by decide) rfl sh5 tx rfl rfl rfl rfl (Or.inl rfl) (by decide) (by omega) (by omega) (fun h8 sh8 eh8 fh8 => ?_)
    have s9 := (fh8 x 0 (fun q => absurd q.2 (by decide))).trans s7
    exact gz_end (I := .return_) (len := 1) rfl (Or.inl rfl) ⟨sh8, rfl⟩
