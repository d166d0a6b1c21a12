/-! ===== methods of the landed text (by program) ===== -/
set_option maxRecDepth 20000 in
set_option maxHeartbeats 4000000 in
theorem cl_putCodes0 (d : Nat) {ty : Nat → Nat} {h : gH} (hJ : gJ rT 1027 ty h) (x : Nat) (tx : ty x = 71) (kd : Int) (rkd : 0 ≤ kd ∧ kd ≤ 0) (sk : Nat) (esk : h.2.2.2.2 x 0 = .ref sk) (tsk : ty sk = 56) (bt : Nat) (ebt : h.2.2.2.2 sk 0 = .ref bt) (tbt : ty bt = 114) (c0 : Int) (ec0 : h.2.2.2.2 sk 1 = .int (zi c0)) (rc0 : 0 ≤ c0 ∧ c0 ≤ 499000) (pp0 : c0 ≤ (h.2.2.2.1 bt : Int)) (uq : gUq ty) : gz gPP gGG gcn (d + 4) gt121 0 (gent [.ref x, .int (zi kd)] 4) [] h (fun q _ => ∃ ty9 : Nat → Nat, gSg [114] [] [56000, 56001, 91004, 91008, 93999, 94999, 95999, 96999, 97999, 98999, 99999, 114999] ty h ty9 q.2.2 ∧ ∃ bt2 : Nat, True ∧ ∃ c1 : Int, q.2.2.2.2.2.2 sk 0 = .ref bt2 ∧ ty9 bt2 = 114 ∧ gfin gt121 q.1 q.2.1 = some none ∧ q.2.2.2.2.2.2 sk 1 = .int (zi c1) ∧ 0 ≤ c1 ∧ c1 ≤ 500000 ∧ (c0 ≤ c1) ∧ (c1 ≤ c0 + 300) ∧ (1024 * ((q.2.2.1 : Int) - h.1) ≤ (q.2.2.2.2.2.1 bt2 : Int) - h.2.2.2.1 bt) ∧ (((q.2.2.2.1 : Int) - h.2.1) ≤ 2 * ((q.2.2.2.2.2.1 bt2 : Int) - h.2.2.2.1 bt)) ∧ ((h.2.2.2.1 bt : Int) ≤ (q.2.2.2.2.2.1 bt2 : Int)) ∧ (c1 ≤ (q.2.2.2.2.2.1 bt2 : Int))) := by
  have hS : gSs rT 1027 ty [56000, 56001, 91004, 91008, 93999, 94999, 95999, 96999, 97999, 98999, 99999, 114999] h h := gSs.rf hJ
  have G0 : gSg [114] [] [56000, 56001, 91004, 91008, 93999, 94999, 95999, 96999, 97999, 98999, 99999, 114999] ty h ty h := gSg.rf hJ (fun x hx => by cases hx)
  refine gz_s 1 (pc' := 1) (L' := [some (.ref x), some (.int (zi kd)), none, none]) (S' := [.ref x]) rfl ?_
  refine gs_gtr rfl (by decide) rfl hS.1 tx rfl rfl rfl (fun c1 ec1 tc1 => ?_)
  refine gz_s 1 (pc' := 5) (L' := [some (.ref x), some (.int (zi kd)), none, none]) (S' := [.int (zi kd), .ref c1]) rfl ?_
  have he4 : (kd : Int) = 0 := by omega
  refine gs_aal (j := 0) (q2 := 91) rfl (by decide) hS.1 tc1 rfl rfl rfl (by decide) he4 rfl (by decide) (fun c5 ec5 tc5 => ?_)
  refine gz_s 2 (pc' := 8) (L' := [some (.ref x), some (.int (zi kd)), some (.ref c5), none]) (S' := [.ref c5]) rfl ?_
  refine gz_call rfl (by decide) rfl (by decide) (by decide) (gcal_of rfl rfl rfl (Nat.le_of_ble_eq_true rfl) (gJ.recv (G := gGG) hS.1 tc5 rfl rfl)) (cl_Suited0_suit _ hS.1 c5 tc5 uq) (fun q6 _ wq6 => ?_)
  obtain ⟨pq6, oq6, hq6⟩ := q6
  obtain ⟨xq6, fq6_0, gq6, efq6_0, afq6_0, bfq6_0⟩ := wq6
  refine ⟨_, gq6, ?_⟩
  show gz gPP gGG gcn _ _ 11 [some (.ref x), some (.int (zi kd)), some (.ref c5), none] [] hq6 _
  have sq6 : gSs rT 1027 ty [56000, 56001, 91004, 91008, 93999, 94999, 95999, 96999, 97999, 98999, 99999, 114999] h hq6 := gSs.tr hS xq6 (by decide)
  have s7 := (xq6.2.2.2.2.2 x 0 (by rw [tx]; decide)).trans esk
  have s8 := (xq6.2.2.2.2.2 sk 0 (by rw [tsk]; decide)).trans ebt
  have s9 := (xq6.2.2.2.2.2 sk 1 (by rw [tsk]; decide)).trans ec0
  have s10 := (xq6.2.2.2.2.2 x 4 (by rw [tx]; decide)).trans ec1
  have s11 := (xq6.2.2.2.2.2 c1 0 (by rw [tc1]; decide)).trans ec5
  refine gz_s 1 (pc' := 12) (L' := [some (.ref x), some (.int (zi kd)), some (.ref c5), none]) (S' := [.ref x]) rfl ?_
  refine gs_gtk rfl (by decide) rfl sq6.1 tx rfl rfl s7 ?_
  refine gz_s 1 (pc' := 18) (L' := [some (.ref x), some (.int (zi kd)), some (.ref c5), none]) (S' := [.int (zi 196), .ref sk]) rfl ?_
  have k12 := sq6.2.1
  have k12b := sq6.2.2.1
  have hl13 : hq6.2.2.2.1 bt = h.2.2.2.1 bt := congrFun sq6.2.2.2.2.1 bt
  have hl14 : hq6.2.2.2.1 bt = h.2.2.2.1 bt := congrFun sq6.2.2.2.2.1 bt
  refine gz_call rfl (by decide) rfl (by decide) (by decide) (gcal_of rfl rfl rfl (Nat.le_of_ble_eq_true rfl) (gJ.recv (G := gGG) sq6.1 tsk rfl rfl)) (cl_Sink_putMarker _ sq6.1 sk tsk 196 ⟨by omega, by omega⟩ bt s8 tbt c0 s9 ⟨by omega, by omega⟩ (by omega) uq) (fun q15 _ wq15 => ?_)
  obtain ⟨pq15, oq15, hq15⟩ := q15
  obtain ⟨tyq15, xq15, cq15_0, ttq15, fq15_0, ecq15_0, tcq15_0, gq15, efq15_0, afq15_0, bfq15_0, uq15_0, uq15_1, uq15_2, uq15_3, uq15_4⟩ := wq15
  dsimp only at uq15_1 uq15_2 uq15_3 uq15_4
  refine ⟨_, gq15, ?_⟩
  show gz gPP gGG gcn _ _ 21 [some (.ref x), some (.int (zi kd)), some (.ref c5), none] [] hq15 _
  have G16 : gSg [114] [] [56000, 56001, 91004, 91008, 93999, 94999, 95999, 96999, 97999, 98999, 99999, 114999] ty h tyq15 hq15 := gSg.tr (gSg.ss G0 sq6 (by decide)) xq15 (by decide) (by decide) (fun x hx => by cases hx)
  have t17 : tyq15 x = 71 := gSg.typ xq15 sq6.1 tx rfl
  have t18 : tyq15 sk = 56 := gSg.typ xq15 sq6.1 tsk rfl
  have t19 : tyq15 bt = 114 := gSg.typ xq15 sq6.1 tbt rfl
  have hl20 : hq15.2.2.2.1 bt = hq6.2.2.2.1 bt := gSg.len xq15 sq6.1 tbt rfl
  have t21 : tyq15 c1 = 75 := gSg.typ xq15 sq6.1 tc1 rfl
  have t22 : tyq15 c5 = 91 := gSg.typ xq15 sq6.1 tc5 rfl
  have s23 := gSg.at xq15 sq6.1 tx rfl (by decide) s7
  have s24 := gSg.at xq15 sq6.1 tx rfl (by decide) s10
  have s25 := gSg.at xq15 sq6.1 tc1 rfl (by decide) s11
  have s26 := gSg.at xq15 sq6.1 tc5 rfl (by decide) efq6_0
  have uq27 := gSg.uq xq15 uq (by decide)
  have sS28 : gSs rT 1027 tyq15 [56000, 56001, 91004, 91008, 93999, 94999, 95999, 96999, 97999, 98999, 99999, 114999] hq15 hq15 := gSs.rf xq15.1
  refine gz_s 1 (pc' := 22) (L' := [some (.ref x), some (.int (zi kd)), some (.ref c5), none]) (S' := [.ref x]) rfl ?_
  refine gs_gtk rfl (by decide) rfl sS28.1 t17 rfl rfl s23 ?_
  refine gz_s 2 (pc' := 28) (L' := [some (.ref x), some (.int (zi kd)), some (.ref c5), none]) (S' := [.ref c5, .int (zi 19), .ref sk]) rfl ?_
  refine gs_gtk rfl (by decide) rfl sS28.1 t22 rfl rfl s26 ?_
  refine gy_s 1 (pc' := 32) (L' := [some (.ref x), some (.int (zi kd)), some (.ref c5), none]) (S' := [.int ((zi 19) + (zi fq6_0)), .ref sk]) (L2 := [some (.ref x), some (.int (zi kd)), some (.ref c5), none]) (S2 := [.int (zi (19 + fq6_0)), .ref sk]) rfl (by simp only [zi_add, zi_sub, zi_mul, zi_neg, zi_and1, zi_and7, zi_and15, zi_and31, zi_and255]) (by simp only [zi_add, zi_sub, zi_mul, zi_neg, zi_and1, zi_and7, zi_and15, zi_and31, zi_and255]) ?_
  have hl29 : hq15.2.2.2.1 cq15_0 = hq15.2.2.2.1 cq15_0 := congrFun sS28.2.2.2.2.1 cq15_0
  refine gz_call rfl (by decide) rfl (by decide) (by decide) (gcal_of rfl rfl rfl (Nat.le_of_ble_eq_true rfl) (gJ.recv (G := gGG) sS28.1 t18 rfl rfl)) (cl_Sink_putTwo _ sS28.1 sk t18 (19 + fq6_0) ⟨by omega, by omega⟩ cq15_0 ecq15_0 tcq15_0 fq15_0 efq15_0 ⟨by omega, by omega⟩ (by omega) uq27) (fun q30 _ wq30 => ?_)
  obtain ⟨pq30, oq30, hq30⟩ := q30
  obtain ⟨tyq30, xq30, cq30_0, ttq30, fq30_0, ecq30_0, tcq30_0, gq30, efq30_0, afq30_0, bfq30_0, uq30_0, uq30_1, uq30_2, uq30_3, uq30_4⟩ := wq30
  dsimp only at uq30_1 uq30_2 uq30_3 uq30_4
  refine ⟨_, gq30, ?_⟩
  show gz gPP gGG gcn _ _ 35 [some (.ref x), some (.int (zi kd)), some (.ref c5), none] [] hq30 _
  have G31 : gSg [114] [] [56000, 56001, 91004, 91008, 93999, 94999, 95999, 96999, 97999, 98999, 99999, 114999] ty h tyq30 hq30 := gSg.tr (gSg.ss G16 sS28 (by decide)) xq30 (by decide) (by decide) (fun x hx => by cases hx)
  have t32 : tyq30 x = 71 := gSg.typ xq30 sS28.1 t17 rfl
  have t33 : tyq30 sk = 56 := gSg.typ xq30 sS28.1 t18 rfl
  have t34 : tyq30 bt = 114 := gSg.typ xq30 sS28.1 t19 rfl
  have hl35 : hq30.2.2.2.1 bt = hq15.2.2.2.1 bt := gSg.len xq30 sS28.1 t19 rfl
  have t36 : tyq30 c1 = 75 := gSg.typ xq30 sS28.1 t21 rfl
  have t37 : tyq30 c5 = 91 := gSg.typ xq30 sS28.1 t22 rfl
  have t38 : tyq30 cq15_0 = 114 := gSg.typ xq30 sS28.1 tcq15_0 rfl
  have hl39 : hq30.2.2.2.1 cq15_0 = hq15.2.2.2.1 cq15_0 := gSg.len xq30 sS28.1 tcq15_0 rfl
  have s40 := gSg.at xq30 sS28.1 t17 rfl (by decide) s23
  have s41 := gSg.at xq30 sS28.1 t17 rfl (by decide) s24
  have s42 := gSg.at xq30 sS28.1 t21 rfl (by decide) s25
  have s43 := gSg.at xq30 sS28.1 t22 rfl (by decide) s26
  have uq44 := gSg.uq xq30 uq27 (by decide)
  have sS45 : gSs rT 1027 tyq30 [56000, 56001, 91004, 91008, 93999, 94999, 95999, 96999, 97999, 98999, 99999, 114999] hq30 hq30 := gSs.rf xq30.1
  refine gz_s 1 (pc' := 36) (L' := [some (.ref x), some (.int (zi kd)), some (.ref c5), none]) (S' := [.ref x]) rfl ?_
  refine gs_gtk rfl (by decide) rfl sS45.1 t32 rfl rfl s40 ?_
  refine gy_s 3 (pc' := 43) (L' := [some (.ref x), some (.int (zi kd)), some (.ref c5), none]) (S' := [.int ((zi 16) * (zi kd)), .ref sk]) (L2 := [some (.ref x), some (.int (zi kd)), some (.ref c5), none]) (S2 := [.int (zi (16 * kd)), .ref sk]) rfl (by simp only [zi_add, zi_sub, zi_mul, zi_neg, zi_and1, zi_and7, zi_and15, zi_and31, zi_and255]) (by simp only [zi_add, zi_sub, zi_mul, zi_neg, zi_and1, zi_and7, zi_and15, zi_and31, zi_and255]) ?_
  have hl46 : hq30.2.2.2.1 cq30_0 = hq30.2.2.2.1 cq30_0 := congrFun sS45.2.2.2.2.1 cq30_0
  refine gz_call rfl (by decide) rfl (by decide) (by decide) (gcal_of rfl rfl rfl (Nat.le_of_ble_eq_true rfl) (gJ.recv (G := gGG) sS45.1 t33 rfl rfl)) (cl_Sink_putByte _ sS45.1 sk t33 (16 * kd) ⟨by omega, by omega⟩ cq30_0 ecq30_0 tcq30_0 fq30_0 efq30_0 ⟨by omega, by omega⟩ (by omega) uq44) (fun q47 _ wq47 => ?_)
  obtain ⟨pq47, oq47, hq47⟩ := q47
  obtain ⟨tyq47, xq47, cq47_0, ttq47, fq47_0, ecq47_0, tcq47_0, gq47, efq47_0, afq47_0, bfq47_0, uq47_0, uq47_1, uq47_2, uq47_3, uq47_4⟩ := wq47
  dsimp only at uq47_1 uq47_2 uq47_3 uq47_4
  refine ⟨_, gq47, ?_⟩
  show gz gPP gGG gcn _ _ 46 [some (.ref x), some (.int (zi kd)), some (.ref c5), none] [] hq47 _
  have G48 : gSg [114] [] [56000, 56001, 91004, 91008, 93999, 94999, 95999, 96999, 97999, 98999, 99999, 114999] ty h tyq47 hq47 := gSg.tr (gSg.ss G31 sS45 (by decide)) xq47 (by decide) (by decide) (fun x hx => by cases hx)
  have t49 : tyq47 x = 71 := gSg.typ xq47 sS45.1 t32 rfl
  have t50 : tyq47 sk = 56 := gSg.typ xq47 sS45.1 t33 rfl
  have t51 : tyq47 bt = 114 := gSg.typ xq47 sS45.1 t34 rfl
  have hl52 : hq47.2.2.2.1 bt = hq30.2.2.2.1 bt := gSg.len xq47 sS45.1 t34 rfl
  have t53 : tyq47 c1 = 75 := gSg.typ xq47 sS45.1 t36 rfl
  have t54 : tyq47 c5 = 91 := gSg.typ xq47 sS45.1 t37 rfl
  have t55 : tyq47 cq15_0 = 114 := gSg.typ xq47 sS45.1 t38 rfl
  have hl56 : hq47.2.2.2.1 cq15_0 = hq30.2.2.2.1 cq15_0 := gSg.len xq47 sS45.1 t38 rfl
  have t57 : tyq47 cq30_0 = 114 := gSg.typ xq47 sS45.1 tcq30_0 rfl
  have hl58 : hq47.2.2.2.1 cq30_0 = hq30.2.2.2.1 cq30_0 := gSg.len xq47 sS45.1 tcq30_0 rfl
  have s59 := gSg.at xq47 sS45.1 t32 rfl (by decide) s40
  have s60 := gSg.at xq47 sS45.1 t32 rfl (by decide) s41
  have s61 := gSg.at xq47 sS45.1 t36 rfl (by decide) s42
  have s62 := gSg.at xq47 sS45.1 t37 rfl (by decide) s43
  have uq63 := gSg.uq xq47 uq44 (by decide)
  have sS64 : gSs rT 1027 tyq47 [56000, 56001, 91004, 91008, 93999, 94999, 95999, 96999, 97999, 98999, 99999, 114999] hq47 hq47 := gSs.rf xq47.1
  refine gz_s 2 (pc' := 48) (L' := [some (.ref x), some (.int (zi kd)), some (.ref c5), some (.int (zi 1))]) (S' := []) rfl ?_
  have lp65 : ∀ (fu : Nat) (ty67 : Nat → Nat) (h66 : gH) (bv : Nat) (i : Int) (cv : Int), (18 - i).toNat < fu → gSg [114] [] [56000, 56001, 91004, 91008, 93999, 94999, 95999, 96999, 97999, 98999, 99999, 114999] ty h ty67 h66 → gUq ty67 → ty67 x = 71 → ty67 c5 = 91 → ty67 sk = 56 → ty67 c1 = 75 → h66.2.2.2.2 sk 0 = .ref bv → ty67 bv = 114 → (1 ≤ i ∧ i ≤ 17) → (0 ≤ cv ∧ cv ≤ 499999) → (c0 ≤ cv) → (cv ≤ c0 + 4 + i) → (1024 * ((h66.1 : Int) - h.1) ≤ (h66.2.2.2.1 bv : Int) - h.2.2.2.1 bt) → (((h66.2.1 : Int) - h.2.1) ≤ 2 * ((h66.2.2.2.1 bv : Int) - h.2.2.2.1 bt)) → ((h.2.2.2.1 bt : Int) ≤ (h66.2.2.2.1 bv : Int)) → (cv ≤ (h66.2.2.2.1 bv : Int)) → h66.2.2.2.2 x 0 = .ref sk → h66.2.2.2.2 x 4 = .ref c1 → h66.2.2.2.2 c1 0 = .ref c5 → h66.2.2.2.2 c5 4 = .int (zi fq6_0) → h66.2.2.2.2 sk 1 = .int (zi cv) → gz gPP gGG gcn (d + 4) gt121 48 [some (.ref x), some (.int (zi kd)), some (.ref c5), some (.int (zi i))] [] h66 (fun q _ => ∃ ty9 : Nat → Nat, gSg [114] [] [56000, 56001, 91004, 91008, 93999, 94999, 95999, 96999, 97999, 98999, 99999, 114999] ty h ty9 q.2.2 ∧ ∃ bt2 : Nat, True ∧ ∃ c1 : Int, q.2.2.2.2.2.2 sk 0 = .ref bt2 ∧ ty9 bt2 = 114 ∧ gfin gt121 q.1 q.2.1 = some none ∧ q.2.2.2.2.2.2 sk 1 = .int (zi c1) ∧ 0 ≤ c1 ∧ c1 ≤ 500000 ∧ (c0 ≤ c1) ∧ (c1 ≤ c0 + 300) ∧ (1024 * ((q.2.2.1 : Int) - h.1) ≤ (q.2.2.2.2.2.1 bt2 : Int) - h.2.2.2.1 bt) ∧ (((q.2.2.2.1 : Int) - h.2.1) ≤ 2 * ((q.2.2.2.2.2.1 bt2 : Int) - h.2.2.2.1 bt)) ∧ ((h.2.2.2.1 bt : Int) ≤ (q.2.2.2.2.2.1 bt2 : Int)) ∧ (c1 ≤ (q.2.2.2.2.2.1 bt2 : Int))) := by
    intro fu
    induction fu with
    | zero => intro ty67 h66 bv i cv hm; exact absurd hm (Nat.not_lt_zero _)
    | succ fu ihlp65 =>
      intro ty67 h66 bv i cv lp65m lp65G lp65u lp65c0 lp65c1 lp65c2 lp65c3 lp65r0 lp65r1 lp65f0 lp65f1 lp65f2 lp65f3 lp65f4 lp65f5 lp65f6 lp65f7 lp65k0 lp65k1 lp65k2 lp65k3 lp65k4
      have sh66 : gSs rT 1027 ty67 [56000, 56001, 91004, 91008, 93999, 94999, 95999, 96999, 97999, 98999, 99999, 114999] h66 h66 := gSs.rf lp65G.1
      refine gz_s 2 (pc' := 51) (L' := [some (.ref x), some (.int (zi kd)), some (.ref c5), some (.int (zi i))]) (S' := [.int (zi 16), .int (zi i)]) rfl ?_
      by_cases hc68 : (16 : Int) < i
      · refine gy_icT (pc' := 73) rfl (by decide) (by decide) (by omega) (by omega) hc68 ?_
        refine gz_s 2 (pc' := 75) (L' := [some (.ref x), some (.int (zi kd)), some (.ref c5), some (.int (zi 0))]) (S' := []) rfl ?_
        have lp69 : ∀ (fu : Nat) (ty71 : Nat → Nat) (h70 : gH) (bv2 : Nat) (k : Int) (cv2 : Int), (257 - k).toNat < fu → gSg [114] [] [56000, 56001, 91004, 91008, 93999, 94999, 95999, 96999, 97999, 98999, 99999, 114999] ty h ty71 h70 → gUq ty71 → ty71 x = 71 → ty71 c5 = 91 → ty71 sk = 56 → ty71 c1 = 75 → h70.2.2.2.2 sk 0 = .ref bv2 → ty71 bv2 = 114 → (0 ≤ k ∧ k ≤ 256) → (0 ≤ cv2 ∧ cv2 ≤ 499999) → (c0 ≤ cv2) → (cv2 ≤ c0 + 21 + k) → (1024 * ((h70.1 : Int) - h.1) ≤ (h70.2.2.2.1 bv2 : Int) - h.2.2.2.1 bt) → (((h70.2.1 : Int) - h.2.1) ≤ 2 * ((h70.2.2.2.1 bv2 : Int) - h.2.2.2.1 bt)) → ((h.2.2.2.1 bt : Int) ≤ (h70.2.2.2.1 bv2 : Int)) → (cv2 ≤ (h70.2.2.2.1 bv2 : Int)) → h70.2.2.2.2 x 0 = .ref sk → h70.2.2.2.2 x 4 = .ref c1 → h70.2.2.2.2 c1 0 = .ref c5 → h70.2.2.2.2 c5 4 = .int (zi fq6_0) → h70.2.2.2.2 sk 1 = .int (zi cv2) → gz gPP gGG gcn (d + 4) gt121 75 [some (.ref x), some (.int (zi kd)), some (.ref c5), some (.int (zi k))] [] h70 (fun q _ => ∃ ty9 : Nat → Nat, gSg [114] [] [56000, 56001, 91004, 91008, 93999, 94999, 95999, 96999, 97999, 98999, 99999, 114999] ty h ty9 q.2.2 ∧ ∃ bt2 : Nat, True ∧ ∃ c1 : Int, q.2.2.2.2.2.2 sk 0 = .ref bt2 ∧ ty9 bt2 = 114 ∧ gfin gt121 q.1 q.2.1 = some none ∧ q.2.2.2.2.2.2 sk 1 = .int (zi c1) ∧ 0 ≤ c1 ∧ c1 ≤ 500000 ∧ (c0 ≤ c1) ∧ (c1 ≤ c0 + 300) ∧ (1024 * ((q.2.2.1 : Int) - h.1) ≤ (q.2.2.2.2.2.1 bt2 : Int) - h.2.2.2.1 bt) ∧ (((q.2.2.2.1 : Int) - h.2.1) ≤ 2 * ((q.2.2.2.2.2.1 bt2 : Int) - h.2.2.2.1 bt)) ∧ ((h.2.2.2.1 bt : Int) ≤ (q.2.2.2.2.2.1 bt2 : Int)) ∧ (c1 ≤ (q.2.2.2.2.2.1 bt2 : Int))) := by
          intro fu
          induction fu with
          | zero => intro ty71 h70 bv2 k cv2 hm; exact absurd hm (Nat.not_lt_zero _)
          | succ fu ihlp69 =>
            intro ty71 h70 bv2 k cv2 lp69m lp69G lp69u lp69c0 lp69c1 lp69c2 lp69c3 lp69r0 lp69r1 lp69f0 lp69f1 lp69f2 lp69f3 lp69f4 lp69f5 lp69f6 lp69f7 lp69k0 lp69k1 lp69k2 lp69k3 lp69k4
            have sh70 : gSs rT 1027 ty71 [56000, 56001, 91004, 91008, 93999, 94999, 95999, 96999, 97999, 98999, 99999, 114999] h70 h70 := gSs.rf lp69G.1
            refine gz_s 2 (pc' := 77) (L' := [some (.ref x), some (.int (zi kd)), some (.ref c5), some (.int (zi k))]) (S' := [.ref c5, .int (zi k)]) rfl ?_
            refine gs_gtk rfl (by decide) rfl sh70.1 lp69c1 rfl rfl lp69k3 ?_
            by_cases hc72 : (fq6_0 : Int) ≤ k
            · refine gy_icT (pc' := 102) rfl (by decide) (by decide) (by omega) (by omega) hc72 ?_
              have hl73 : 1024 ≤ h70.2.2.2.1 bv2 ∧ h70.2.2.2.1 bv2 ≤ 1000000 := gJ.rowl (G := gGG) sh70.1 lp69r1 rfl
              have G74 : gSg [114] [] [56000, 56001, 91004, 91008, 93999, 94999, 95999, 96999, 97999, 98999, 99999, 114999] ty h ty71 h70 := gSg.ss lp69G sh70 (by decide)
              exact gz_end (I := .return_) (len := 1) rfl (Or.inl rfl) ⟨ty71, G74, bv2, trivial, cv2, lp69r0, lp69r1, rfl, lp69k4, (by omega), (by omega), (by omega), (by omega), (by dsimp only; omega), (by dsimp only; omega), (by dsimp only; omega), (by dsimp only; omega)⟩
            · refine gy_icF rfl (by decide) (by decide) (by omega) (by omega) hc72 ?_
              refine gz_s 1 (pc' := 84) (L' := [some (.ref x), some (.int (zi kd)), some (.ref c5), some (.int (zi k))]) (S' := [.ref x]) rfl ?_
              refine gs_gtk rfl (by decide) rfl sh70.1 lp69c0 rfl rfl lp69k0 ?_
              refine gz_s 1 (pc' := 88) (L' := [some (.ref x), some (.int (zi kd)), some (.ref c5), some (.int (zi k))]) (S' := [.ref c5, .ref sk]) rfl ?_
              refine gs_gtr rfl (by decide) rfl sh70.1 lp69c1 rfl rfl rfl (fun c75 ec75 tc75 => ?_)
              refine gz_s 1 (pc' := 92) (L' := [some (.ref x), some (.int (zi kd)), some (.ref c5), some (.int (zi k))]) (S' := [.int (zi k), .ref c75, .ref sk]) rfl ?_
              have hl76 : 256 ≤ h70.2.2.2.1 c75 ∧ h70.2.2.2.1 c75 ≤ 256 := gJ.rowl (G := gGG) sh70.1 tc75 rfl
              refine gs_ald rfl (by decide) sh70.1 tc75 rfl rfl rfl (by decide) (fun _ => rfl) (by omega) (by omega) (fun z77 ez77 az77 bz77 => ?_)
              have hl78 : h70.2.2.2.1 bv2 = h70.2.2.2.1 bv2 := congrFun sh70.2.2.2.2.1 bv2
              refine gz_call rfl (by decide) rfl (by decide) (by decide) (gcal_of rfl rfl rfl (Nat.le_of_ble_eq_true rfl) (gJ.recv (G := gGG) sh70.1 lp69c2 rfl rfl)) (cl_Sink_putByte _ sh70.1 sk lp69c2 z77 ⟨by omega, by omega⟩ bv2 lp69r0 lp69r1 cv2 lp69k4 ⟨by omega, by omega⟩ (by omega) lp69u) (fun q79 _ wq79 => ?_)
              obtain ⟨pq79, oq79, hq79⟩ := q79
              obtain ⟨tyq79, xq79, cq79_0, ttq79, fq79_0, ecq79_0, tcq79_0, gq79, efq79_0, afq79_0, bfq79_0, uq79_0, uq79_1, uq79_2, uq79_3, uq79_4⟩ := wq79
              dsimp only at uq79_1 uq79_2 uq79_3 uq79_4
              refine ⟨_, gq79, ?_⟩
              show gz gPP gGG gcn _ _ 96 [some (.ref x), some (.int (zi kd)), some (.ref c5), some (.int (zi k))] [] hq79 _
              have G80 : gSg [114] [] [56000, 56001, 91004, 91008, 93999, 94999, 95999, 96999, 97999, 98999, 99999, 114999] ty h tyq79 hq79 := gSg.tr (gSg.ss lp69G sh70 (by decide)) xq79 (by decide) (by decide) (fun x hx => by cases hx)
              have t81 : tyq79 x = 71 := gSg.typ xq79 sh70.1 lp69c0 rfl
              have t82 : tyq79 c5 = 91 := gSg.typ xq79 sh70.1 lp69c1 rfl
              have t83 : tyq79 sk = 56 := gSg.typ xq79 sh70.1 lp69c2 rfl
              have t84 : tyq79 c1 = 75 := gSg.typ xq79 sh70.1 lp69c3 rfl
              have t85 : tyq79 bv2 = 114 := gSg.typ xq79 sh70.1 lp69r1 rfl
              have hl86 : hq79.2.2.2.1 bv2 = h70.2.2.2.1 bv2 := gSg.len xq79 sh70.1 lp69r1 rfl
              have t87 : tyq79 c75 = 94 := gSg.typ xq79 sh70.1 tc75 rfl
              have s88 := gSg.at xq79 sh70.1 lp69c0 rfl (by decide) lp69k0
              have s89 := gSg.at xq79 sh70.1 lp69c0 rfl (by decide) lp69k1
              have s90 := gSg.at xq79 sh70.1 lp69c3 rfl (by decide) lp69k2
              have s91 := gSg.at xq79 sh70.1 lp69c1 rfl (by decide) lp69k3
              have s92 := gSg.at xq79 sh70.1 lp69c1 rfl (by decide) ec75
              have uq93 := gSg.uq xq79 lp69u (by decide)
              have sS94 : gSs rT 1027 tyq79 [56000, 56001, 91004, 91008, 93999, 94999, 95999, 96999, 97999, 98999, 99999, 114999] hq79 hq79 := gSs.rf xq79.1
              refine gy_s 2 (pc' := 75) (L' := [some (.ref x), some (.int (zi kd)), some (.ref c5), some (.int ((zi k) + zi 1))]) (S' := []) (L2 := [some (.ref x), some (.int (zi kd)), some (.ref c5), some (.int (zi (k + 1)))]) (S2 := []) rfl (by simp only [zi_add, zi_sub, zi_mul, zi_neg, zi_and1, zi_and7, zi_and15, zi_and31, zi_and255]) (by simp only [zi_add, zi_sub, zi_mul, zi_neg, zi_and1, zi_and7, zi_and15, zi_and31, zi_and255]) ?_
              have hl95 : 1024 ≤ hq79.2.2.2.1 bv2 ∧ hq79.2.2.2.1 bv2 ≤ 1000000 := gJ.rowl (G := gGG) sS94.1 t85 rfl
              have hl96 : 1024 ≤ hq79.2.2.2.1 cq79_0 ∧ hq79.2.2.2.1 cq79_0 ≤ 1000000 := gJ.rowl (G := gGG) sS94.1 tcq79_0 rfl
              have G97 : gSg [114] [] [56000, 56001, 91004, 91008, 93999, 94999, 95999, 96999, 97999, 98999, 99999, 114999] ty h tyq79 hq79 := gSg.ss G80 sS94 (by decide)
              exact gz_wk (ihlp69 tyq79 hq79 cq79_0 (k + 1) fq79_0 (gms lp69m (by omega) (by omega)) G97 uq93 t81 t82 t83 t84 ecq79_0 tcq79_0 ⟨by omega, by omega⟩ ⟨by omega, by omega⟩ (by omega) (by omega) (by omega) (by omega) (by omega) (by omega) s88 s89 s90 s91 efq79_0) (gLw.s (gLw.s (gLw.s (gLw.s gLw.z))))
        have hl98 : 1024 ≤ h66.2.2.2.1 bv ∧ h66.2.2.2.1 bv ≤ 1000000 := gJ.rowl (G := gGG) sh66.1 lp65r1 rfl
        have G99 : gSg [114] [] [56000, 56001, 91004, 91008, 93999, 94999, 95999, 96999, 97999, 98999, 99999, 114999] ty h ty67 h66 := gSg.ss lp65G sh66 (by decide)
        exact gz_wk (lp69 _ ty67 h66 bv 0 cv (Nat.lt_succ_self _) G99 lp65u lp65c0 lp65c1 lp65c2 lp65c3 lp65r0 lp65r1 ⟨by omega, by omega⟩ ⟨by omega, by omega⟩ (by omega) (by omega) (by omega) (by omega) (by omega) (by omega) lp65k0 lp65k1 lp65k2 lp65k3 lp65k4) (gLw.s (gLw.s (gLw.s (gLw.s gLw.z))))
      · refine gy_icF rfl (by decide) (by decide) (by omega) (by omega) hc68 ?_
        refine gz_s 1 (pc' := 55) (L' := [some (.ref x), some (.int (zi kd)), some (.ref c5), some (.int (zi i))]) (S' := [.ref x]) rfl ?_
        refine gs_gtk rfl (by decide) rfl sh66.1 lp65c0 rfl rfl lp65k0 ?_
        refine gz_s 1 (pc' := 59) (L' := [some (.ref x), some (.int (zi kd)), some (.ref c5), some (.int (zi i))]) (S' := [.ref c5, .ref sk]) rfl ?_
        refine gs_gtr rfl (by decide) rfl sh66.1 lp65c1 rfl rfl rfl (fun c100 ec100 tc100 => ?_)
        refine gz_s 1 (pc' := 63) (L' := [some (.ref x), some (.int (zi kd)), some (.ref c5), some (.int (zi i))]) (S' := [.int (zi i), .ref c100, .ref sk]) rfl ?_
        have hl101 : 17 ≤ h66.2.2.2.1 c100 ∧ h66.2.2.2.1 c100 ≤ 17 := gJ.rowl (G := gGG) sh66.1 tc100 rfl
        refine gs_ald rfl (by decide) sh66.1 tc100 rfl rfl rfl (by decide) (fun _ => rfl) (by omega) (by omega) (fun z102 ez102 az102 bz102 => ?_)
        have hl103 : h66.2.2.2.1 bv = h66.2.2.2.1 bv := congrFun sh66.2.2.2.2.1 bv
        refine gz_call rfl (by decide) rfl (by decide) (by decide) (gcal_of rfl rfl rfl (Nat.le_of_ble_eq_true rfl) (gJ.recv (G := gGG) sh66.1 lp65c2 rfl rfl)) (cl_Sink_putByte _ sh66.1 sk lp65c2 z102 ⟨by omega, by omega⟩ bv lp65r0 lp65r1 cv lp65k4 ⟨by omega, by omega⟩ (by omega) lp65u) (fun q104 _ wq104 => ?_)
        obtain ⟨pq104, oq104, hq104⟩ := q104
        obtain ⟨tyq104, xq104, cq104_0, ttq104, fq104_0, ecq104_0, tcq104_0, gq104, efq104_0, afq104_0, bfq104_0, uq104_0, uq104_1, uq104_2, uq104_3, uq104_4⟩ := wq104
        dsimp only at uq104_1 uq104_2 uq104_3 uq104_4
        refine ⟨_, gq104, ?_⟩
        show gz gPP gGG gcn _ _ 67 [some (.ref x), some (.int (zi kd)), some (.ref c5), some (.int (zi i))] [] hq104 _
        have G105 : gSg [114] [] [56000, 56001, 91004, 91008, 93999, 94999, 95999, 96999, 97999, 98999, 99999, 114999] ty h tyq104 hq104 := gSg.tr (gSg.ss lp65G sh66 (by decide)) xq104 (by decide) (by decide) (fun x hx => by cases hx)
        have t106 : tyq104 x = 71 := gSg.typ xq104 sh66.1 lp65c0 rfl
        have t107 : tyq104 c5 = 91 := gSg.typ xq104 sh66.1 lp65c1 rfl
        have t108 : tyq104 sk = 56 := gSg.typ xq104 sh66.1 lp65c2 rfl
        have t109 : tyq104 c1 = 75 := gSg.typ xq104 sh66.1 lp65c3 rfl
        have t110 : tyq104 bv = 114 := gSg.typ xq104 sh66.1 lp65r1 rfl
        have hl111 : hq104.2.2.2.1 bv = h66.2.2.2.1 bv := gSg.len xq104 sh66.1 lp65r1 rfl
        have t112 : tyq104 c100 = 93 := gSg.typ xq104 sh66.1 tc100 rfl
        have s113 := gSg.at xq104 sh66.1 lp65c0 rfl (by decide) lp65k0
        have s114 := gSg.at xq104 sh66.1 lp65c0 rfl (by decide) lp65k1
        have s115 := gSg.at xq104 sh66.1 lp65c3 rfl (by decide) lp65k2
        have s116 := gSg.at xq104 sh66.1 lp65c1 rfl (by decide) lp65k3
        have s117 := gSg.at xq104 sh66.1 lp65c1 rfl (by decide) ec100
        have uq118 := gSg.uq xq104 lp65u (by decide)
        have sS119 : gSs rT 1027 tyq104 [56000, 56001, 91004, 91008, 93999, 94999, 95999, 96999, 97999, 98999, 99999, 114999] hq104 hq104 := gSs.rf xq104.1
        refine gy_s 2 (pc' := 48) (L' := [some (.ref x), some (.int (zi kd)), some (.ref c5), some (.int ((zi i) + zi 1))]) (S' := []) (L2 := [some (.ref x), some (.int (zi kd)), some (.ref c5), some (.int (zi (i + 1)))]) (S2 := []) rfl (by simp only [zi_add, zi_sub, zi_mul, zi_neg, zi_and1, zi_and7, zi_and15, zi_and31, zi_and255]) (by simp only [zi_add, zi_sub, zi_mul, zi_neg, zi_and1, zi_and7, zi_and15, zi_and31, zi_and255]) ?_
        have hl120 : 1024 ≤ hq104.2.2.2.1 bv ∧ hq104.2.2.2.1 bv ≤ 1000000 := gJ.rowl (G := gGG) sS119.1 t110 rfl
        have hl121 : 1024 ≤ hq104.2.2.2.1 cq104_0 ∧ hq104.2.2.2.1 cq104_0 ≤ 1000000 := gJ.rowl (G := gGG) sS119.1 tcq104_0 rfl
        have G122 : gSg [114] [] [56000, 56001, 91004, 91008, 93999, 94999, 95999, 96999, 97999, 98999, 99999, 114999] ty h tyq104 hq104 := gSg.ss G105 sS119 (by decide)
        exact gz_wk (ihlp65 tyq104 hq104 cq104_0 (i + 1) fq104_0 (gms lp65m (by omega) (by omega)) G122 uq118 t106 t107 t108 t109 ecq104_0 tcq104_0 ⟨by omega, by omega⟩ ⟨by omega, by omega⟩ (by omega) (by omega) (by omega) (by omega) (by omega) (by omega) s113 s114 s115 s116 efq104_0) (gLw.s (gLw.s (gLw.s (gLw.s gLw.z))))
  have hl123 : 1024 ≤ hq47.2.2.2.1 bt ∧ hq47.2.2.2.1 bt ≤ 1000000 := gJ.rowl (G := gGG) sS64.1 t51 rfl
  have hl124 : 1024 ≤ hq47.2.2.2.1 cq15_0 ∧ hq47.2.2.2.1 cq15_0 ≤ 1000000 := gJ.rowl (G := gGG) sS64.1 t55 rfl
  have hl125 : 1024 ≤ hq47.2.2.2.1 cq30_0 ∧ hq47.2.2.2.1 cq30_0 ≤ 1000000 := gJ.rowl (G := gGG) sS64.1 t57 rfl
  have hl126 : 1024 ≤ hq47.2.2.2.1 cq47_0 ∧ hq47.2.2.2.1 cq47_0 ≤ 1000000 := gJ.rowl (G := gGG) sS64.1 tcq47_0 rfl
  have G127 : gSg [114] [] [56000, 56001, 91004, 91008, 93999, 94999, 95999, 96999, 97999, 98999, 99999, 114999] ty h tyq47 hq47 := gSg.ss G48 sS64 (by decide)
  exact gz_wk (lp65 _ tyq47 hq47 cq47_0 1 fq47_0 (Nat.lt_succ_self _) G127 uq63 t49 t54 t50 t53 ecq47_0 tcq47_0 ⟨by omega, by omega⟩ ⟨by omega, by omega⟩ (by omega) (by omega) (by omega) (by omega) (by omega) (by omega) s59 s60 s61 s62 efq47_0) (gLw.s (gLw.s (gLw.s (gLw.s gLw.z))))
set_option maxRecDepth 20000 in
set_option maxHeartbeats 4000000 in
theorem cl_putCodes1 (d : Nat) {ty : Nat → Nat} {h : gH} (hJ : gJ rT 1027 ty h) (x : Nat) (tx : ty x = 71) (kd : Int) (rkd : 1 ≤ kd ∧ kd ≤ 1) (sk : Nat) (esk : h.2.2.2.2 x 0 = .ref sk) (tsk : ty sk = 56) (bt : Nat) (ebt : h.2.2.2.2 sk 0 = .ref bt) (tbt : ty bt = 114) (c0 : Int) (ec0 : h.2.2.2.2 sk 1 = .int (zi c0)) (rc0 : 0 ≤ c0 ∧ c0 ≤ 499000) (pp0 : c0 ≤ (h.2.2.2.1 bt : Int)) (uq : gUq ty) : gz gPP gGG gcn (d + 4) gt121 0 (gent [.ref x, .int (zi kd)] 4) [] h (fun q _ => ∃ ty9 : Nat → Nat, gSg [114] [] [56000, 56001, 76999, 77999, 78999, 79999, 80999, 81999, 85999, 92004, 92008, 114999] ty h ty9 q.2.2 ∧ ∃ bt2 : Nat, True ∧ ∃ c1 : Int, q.2.2.2.2.2.2 sk 0 = .ref bt2 ∧ ty9 bt2 = 114 ∧ gfin gt121 q.1 q.2.1 = some none ∧ q.2.2.2.2.2.2 sk 1 = .int (zi c1) ∧ 0 ≤ c1 ∧ c1 ≤ 500000 ∧ (c0 ≤ c1) ∧ (c1 ≤ c0 + 300) ∧ (1024 * ((q.2.2.1 : Int) - h.1) ≤ (q.2.2.2.2.2.1 bt2 : Int) - h.2.2.2.1 bt) ∧ (((q.2.2.2.1 : Int) - h.2.1) ≤ 2 * ((q.2.2.2.2.2.1 bt2 : Int) - h.2.2.2.1 bt)) ∧ ((h.2.2.2.1 bt : Int) ≤ (q.2.2.2.2.2.1 bt2 : Int)) ∧ (c1 ≤ (q.2.2.2.2.2.1 bt2 : Int))) := by
  have hS : gSs rT 1027 ty [56000, 56001, 76999, 77999, 78999, 79999, 80999, 81999, 85999, 92004, 92008, 114999] h h := gSs.rf hJ
  have G0 : gSg [114] [] [56000, 56001, 76999, 77999, 78999, 79999, 80999, 81999, 85999, 92004, 92008, 114999] ty h ty h := gSg.rf hJ (fun x hx => by cases hx)
  refine gz_s 1 (pc' := 1) (L' := [some (.ref x), some (.int (zi kd)), none, none]) (S' := [.ref x]) rfl ?_
  refine gs_gtr rfl (by decide) rfl hS.1 tx rfl rfl rfl (fun c1 ec1 tc1 => ?_)
  refine gz_s 1 (pc' := 5) (L' := [some (.ref x), some (.int (zi kd)), none, none]) (S' := [.int (zi kd), .ref c1]) rfl ?_
  have he4 : (kd : Int) = 1 := by omega
  refine gs_aal (j := 1) (q2 := 92) rfl (by decide) hS.1 tc1 rfl rfl rfl (by decide) he4 rfl (by decide) (fun c5 ec5 tc5 => ?_)
  refine gz_s 2 (pc' := 8) (L' := [some (.ref x), some (.int (zi kd)), some (.ref c5), none]) (S' := [.ref c5]) rfl ?_
  refine gz_call rfl (by decide) rfl (by decide) (by decide) (gcal_of rfl rfl rfl (Nat.le_of_ble_eq_true rfl) (gJ.recv (G := gGG) hS.1 tc5 rfl rfl)) (cl_Suited1_suit _ hS.1 c5 tc5 uq) (fun q6 _ wq6 => ?_)
  obtain ⟨pq6, oq6, hq6⟩ := q6
  obtain ⟨xq6, fq6_0, gq6, efq6_0, afq6_0, bfq6_0⟩ := wq6
  refine ⟨_, gq6, ?_⟩
  show gz gPP gGG gcn _ _ 11 [some (.ref x), some (.int (zi kd)), some (.ref c5), none] [] hq6 _
  have sq6 : gSs rT 1027 ty [56000, 56001, 76999, 77999, 78999, 79999, 80999, 81999, 85999, 92004, 92008, 114999] h hq6 := gSs.tr hS xq6 (by decide)
  have s7 := (xq6.2.2.2.2.2 x 0 (by rw [tx]; decide)).trans esk
  have s8 := (xq6.2.2.2.2.2 sk 0 (by rw [tsk]; decide)).trans ebt
  have s9 := (xq6.2.2.2.2.2 sk 1 (by rw [tsk]; decide)).trans ec0
  have s10 := (xq6.2.2.2.2.2 x 4 (by rw [tx]; decide)).trans ec1
  have s11 := (xq6.2.2.2.2.2 c1 1 (by rw [tc1]; decide)).trans ec5
  refine gz_s 1 (pc' := 12) (L' := [some (.ref x), some (.int (zi kd)), some (.ref c5), none]) (S' := [.ref x]) rfl ?_
  refine gs_gtk rfl (by decide) rfl sq6.1 tx rfl rfl s7 ?_
  refine gz_s 1 (pc' := 18) (L' := [some (.ref x), some (.int (zi kd)), some (.ref c5), none]) (S' := [.int (zi 196), .ref sk]) rfl ?_
  have k12 := sq6.2.1
  have k12b := sq6.2.2.1
  have hl13 : hq6.2.2.2.1 bt = h.2.2.2.1 bt := congrFun sq6.2.2.2.2.1 bt
  have hl14 : hq6.2.2.2.1 bt = h.2.2.2.1 bt := congrFun sq6.2.2.2.2.1 bt
  refine gz_call rfl (by decide) rfl (by decide) (by decide) (gcal_of rfl rfl rfl (Nat.le_of_ble_eq_true rfl) (gJ.recv (G := gGG) sq6.1 tsk rfl rfl)) (cl_Sink_putMarker _ sq6.1 sk tsk 196 ⟨by omega, by omega⟩ bt s8 tbt c0 s9 ⟨by omega, by omega⟩ (by omega) uq) (fun q15 _ wq15 => ?_)
  obtain ⟨pq15, oq15, hq15⟩ := q15
  obtain ⟨tyq15, xq15, cq15_0, ttq15, fq15_0, ecq15_0, tcq15_0, gq15, efq15_0, afq15_0, bfq15_0, uq15_0, uq15_1, uq15_2, uq15_3, uq15_4⟩ := wq15
  dsimp only at uq15_1 uq15_2 uq15_3 uq15_4
  refine ⟨_, gq15, ?_⟩
  show gz gPP gGG gcn _ _ 21 [some (.ref x), some (.int (zi kd)), some (.ref c5), none] [] hq15 _
  have G16 : gSg [114] [] [56000, 56001, 76999, 77999, 78999, 79999, 80999, 81999, 85999, 92004, 92008, 114999] ty h tyq15 hq15 := gSg.tr (gSg.ss G0 sq6 (by decide)) xq15 (by decide) (by decide) (fun x hx => by cases hx)
  have t17 : tyq15 x = 71 := gSg.typ xq15 sq6.1 tx rfl
  have t18 : tyq15 sk = 56 := gSg.typ xq15 sq6.1 tsk rfl
  have t19 : tyq15 bt = 114 := gSg.typ xq15 sq6.1 tbt rfl
  have hl20 : hq15.2.2.2.1 bt = hq6.2.2.2.1 bt := gSg.len xq15 sq6.1 tbt rfl
  have t21 : tyq15 c1 = 75 := gSg.typ xq15 sq6.1 tc1 rfl
  have t22 : tyq15 c5 = 92 := gSg.typ xq15 sq6.1 tc5 rfl
  have s23 := gSg.at xq15 sq6.1 tx rfl (by decide) s7
  have s24 := gSg.at xq15 sq6.1 tx rfl (by decide) s10
  have s25 := gSg.at xq15 sq6.1 tc1 rfl (by decide) s11
  have s26 := gSg.at xq15 sq6.1 tc5 rfl (by decide) efq6_0
  have uq27 := gSg.uq xq15 uq (by decide)
  have sS28 : gSs rT 1027 tyq15 [56000, 56001, 76999, 77999, 78999, 79999, 80999, 81999, 85999, 92004, 92008, 114999] hq15 hq15 := gSs.rf xq15.1
  refine gz_s 1 (pc' := 22) (L' := [some (.ref x), some (.int (zi kd)), some (.ref c5), none]) (S' := [.ref x]) rfl ?_
  refine gs_gtk rfl (by decide) rfl sS28.1 t17 rfl rfl s23 ?_
  refine gz_s 2 (pc' := 28) (L' := [some (.ref x), some (.int (zi kd)), some (.ref c5), none]) (S' := [.ref c5, .int (zi 19), .ref sk]) rfl ?_
  refine gs_gtk rfl (by decide) rfl sS28.1 t22 rfl rfl s26 ?_
  refine gy_s 1 (pc' := 32) (L' := [some (.ref x), some (.int (zi kd)), some (.ref c5), none]) (S' := [.int ((zi 19) + (zi fq6_0)), .ref sk]) (L2 := [some (.ref x), some (.int (zi kd)), some (.ref c5), none]) (S2 := [.int (zi (19 + fq6_0)), .ref sk]) rfl (by simp only [zi_add, zi_sub, zi_mul, zi_neg, zi_and1, zi_and7, zi_and15, zi_and31, zi_and255]) (by simp only [zi_add, zi_sub, zi_mul, zi_neg, zi_and1, zi_and7, zi_and15, zi_and31, zi_and255]) ?_
  have hl29 : hq15.2.2.2.1 cq15_0 = hq15.2.2.2.1 cq15_0 := congrFun sS28.2.2.2.2.1 cq15_0
  refine gz_call rfl (by decide) rfl (by decide) (by decide) (gcal_of rfl rfl rfl (Nat.le_of_ble_eq_true rfl) (gJ.recv (G := gGG) sS28.1 t18 rfl rfl)) (cl_Sink_putTwo _ sS28.1 sk t18 (19 + fq6_0) ⟨by omega, by omega⟩ cq15_0 ecq15_0 tcq15_0 fq15_0 efq15_0 ⟨by omega, by omega⟩ (by omega) uq27) (fun q30 _ wq30 => ?_)
  obtain ⟨pq30, oq30, hq30⟩ := q30
  obtain ⟨tyq30, xq30, cq30_0, ttq30, fq30_0, ecq30_0, tcq30_0, gq30, efq30_0, afq30_0, bfq30_0, uq30_0, uq30_1, uq30_2, uq30_3, uq30_4⟩ := wq30
  dsimp only at uq30_1 uq30_2 uq30_3 uq30_4
  refine ⟨_, gq30, ?_⟩
  show gz gPP gGG gcn _ _ 35 [some (.ref x), some (.int (zi kd)), some (.ref c5), none] [] hq30 _
  have G31 : gSg [114] [] [56000, 56001, 76999, 77999, 78999, 79999, 80999, 81999, 85999, 92004, 92008, 114999] ty h tyq30 hq30 := gSg.tr (gSg.ss G16 sS28 (by decide)) xq30 (by decide) (by decide) (fun x hx => by cases hx)
  have t32 : tyq30 x = 71 := gSg.typ xq30 sS28.1 t17 rfl
  have t33 : tyq30 sk = 56 := gSg.typ xq30 sS28.1 t18 rfl
  have t34 : tyq30 bt = 114 := gSg.typ xq30 sS28.1 t19 rfl
  have hl35 : hq30.2.2.2.1 bt = hq15.2.2.2.1 bt := gSg.len xq30 sS28.1 t19 rfl
  have t36 : tyq30 c1 = 75 := gSg.typ xq30 sS28.1 t21 rfl
  have t37 : tyq30 c5 = 92 := gSg.typ xq30 sS28.1 t22 rfl
  have t38 : tyq30 cq15_0 = 114 := gSg.typ xq30 sS28.1 tcq15_0 rfl
  have hl39 : hq30.2.2.2.1 cq15_0 = hq15.2.2.2.1 cq15_0 := gSg.len xq30 sS28.1 tcq15_0 rfl
  have s40 := gSg.at xq30 sS28.1 t17 rfl (by decide) s23
  have s41 := gSg.at xq30 sS28.1 t17 rfl (by decide) s24
  have s42 := gSg.at xq30 sS28.1 t21 rfl (by decide) s25
  have s43 := gSg.at xq30 sS28.1 t22 rfl (by decide) s26
  have uq44 := gSg.uq xq30 uq27 (by decide)
  have sS45 : gSs rT 1027 tyq30 [56000, 56001, 76999, 77999, 78999, 79999, 80999, 81999, 85999, 92004, 92008, 114999] hq30 hq30 := gSs.rf xq30.1
  refine gz_s 1 (pc' := 36) (L' := [some (.ref x), some (.int (zi kd)), some (.ref c5), none]) (S' := [.ref x]) rfl ?_
  refine gs_gtk rfl (by decide) rfl sS45.1 t32 rfl rfl s40 ?_
  refine gy_s 3 (pc' := 43) (L' := [some (.ref x), some (.int (zi kd)), some (.ref c5), none]) (S' := [.int ((zi 16) * (zi kd)), .ref sk]) (L2 := [some (.ref x), some (.int (zi kd)), some (.ref c5), none]) (S2 := [.int (zi (16 * kd)), .ref sk]) rfl (by simp only [zi_add, zi_sub, zi_mul, zi_neg, zi_and1, zi_and7, zi_and15, zi_and31, zi_and255]) (by simp only [zi_add, zi_sub, zi_mul, zi_neg, zi_and1, zi_and7, zi_and15, zi_and31, zi_and255]) ?_
  have hl46 : hq30.2.2.2.1 cq30_0 = hq30.2.2.2.1 cq30_0 := congrFun sS45.2.2.2.2.1 cq30_0
  refine gz_call rfl (by decide) rfl (by decide) (by decide) (gcal_of rfl rfl rfl (Nat.le_of_ble_eq_true rfl) (gJ.recv (G := gGG) sS45.1 t33 rfl rfl)) (cl_Sink_putByte _ sS45.1 sk t33 (16 * kd) ⟨by omega, by omega⟩ cq30_0 ecq30_0 tcq30_0 fq30_0 efq30_0 ⟨by omega, by omega⟩ (by omega) uq44) (fun q47 _ wq47 => ?_)
  obtain ⟨pq47, oq47, hq47⟩ := q47
  obtain ⟨tyq47, xq47, cq47_0, ttq47, fq47_0, ecq47_0, tcq47_0, gq47, efq47_0, afq47_0, bfq47_0, uq47_0, uq47_1, uq47_2, uq47_3, uq47_4⟩ := wq47
  dsimp only at uq47_1 uq47_2 uq47_3 uq47_4
  refine ⟨_, gq47, ?_⟩
  show gz gPP gGG gcn _ _ 46 [some (.ref x), some (.int (zi kd)), some (.ref c5), none] [] hq47 _
  have G48 : gSg [114] [] [56000, 56001, 76999, 77999, 78999, 79999, 80999, 81999, 85999, 92004, 92008, 114999] ty h tyq47 hq47 := gSg.tr (gSg.ss G31 sS45 (by decide)) xq47 (by decide) (by decide) (fun x hx => by cases hx)
  have t49 : tyq47 x = 71 := gSg.typ xq47 sS45.1 t32 rfl
  have t50 : tyq47 sk = 56 := gSg.typ xq47 sS45.1 t33 rfl
  have t51 : tyq47 bt = 114 := gSg.typ xq47 sS45.1 t34 rfl
  have hl52 : hq47.2.2.2.1 bt = hq30.2.2.2.1 bt := gSg.len xq47 sS45.1 t34 rfl
  have t53 : tyq47 c1 = 75 := gSg.typ xq47 sS45.1 t36 rfl
  have t54 : tyq47 c5 = 92 := gSg.typ xq47 sS45.1 t37 rfl
  have t55 : tyq47 cq15_0 = 114 := gSg.typ xq47 sS45.1 t38 rfl
  have hl56 : hq47.2.2.2.1 cq15_0 = hq30.2.2.2.1 cq15_0 := gSg.len xq47 sS45.1 t38 rfl
  have t57 : tyq47 cq30_0 = 114 := gSg.typ xq47 sS45.1 tcq30_0 rfl
  have hl58 : hq47.2.2.2.1 cq30_0 = hq30.2.2.2.1 cq30_0 := gSg.len xq47 sS45.1 tcq30_0 rfl
  have s59 := gSg.at xq47 sS45.1 t32 rfl (by decide) s40
  have s60 := gSg.at xq47 sS45.1 t32 rfl (by decide) s41
  have s61 := gSg.at xq47 sS45.1 t36 rfl (by decide) s42
  have s62 := gSg.at xq47 sS45.1 t37 rfl (by decide) s43
  have uq63 := gSg.uq xq47 uq44 (by decide)
  have sS64 : gSs rT 1027 tyq47 [56000, 56001, 76999, 77999, 78999, 79999, 80999, 81999, 85999, 92004, 92008, 114999] hq47 hq47 := gSs.rf xq47.1
  refine gz_s 2 (pc' := 48) (L' := [some (.ref x), some (.int (zi kd)), some (.ref c5), some (.int (zi 1))]) (S' := []) rfl ?_
  have lp65 : ∀ (fu : Nat) (ty67 : Nat → Nat) (h66 : gH) (bv : Nat) (i : Int) (cv : Int), (18 - i).toNat < fu → gSg [114] [] [56000, 56001, 76999, 77999, 78999, 79999, 80999, 81999, 85999, 92004, 92008, 114999] ty h ty67 h66 → gUq ty67 → ty67 x = 71 → ty67 c5 = 92 → ty67 sk = 56 → ty67 c1 = 75 → h66.2.2.2.2 sk 0 = .ref bv → ty67 bv = 114 → (1 ≤ i ∧ i ≤ 17) → (0 ≤ cv ∧ cv ≤ 499999) → (c0 ≤ cv) → (cv ≤ c0 + 4 + i) → (1024 * ((h66.1 : Int) - h.1) ≤ (h66.2.2.2.1 bv : Int) - h.2.2.2.1 bt) → (((h66.2.1 : Int) - h.2.1) ≤ 2 * ((h66.2.2.2.1 bv : Int) - h.2.2.2.1 bt)) → ((h.2.2.2.1 bt : Int) ≤ (h66.2.2.2.1 bv : Int)) → (cv ≤ (h66.2.2.2.1 bv : Int)) → h66.2.2.2.2 x 0 = .ref sk → h66.2.2.2.2 x 4 = .ref c1 → h66.2.2.2.2 c1 1 = .ref c5 → h66.2.2.2.2 c5 4 = .int (zi fq6_0) → h66.2.2.2.2 sk 1 = .int (zi cv) → gz gPP gGG gcn (d + 4) gt121 48 [some (.ref x), some (.int (zi kd)), some (.ref c5), some (.int (zi i))] [] h66 (fun q _ => ∃ ty9 : Nat → Nat, gSg [114] [] [56000, 56001, 76999, 77999, 78999, 79999, 80999, 81999, 85999, 92004, 92008, 114999] ty h ty9 q.2.2 ∧ ∃ bt2 : Nat, True ∧ ∃ c1 : Int, q.2.2.2.2.2.2 sk 0 = .ref bt2 ∧ ty9 bt2 = 114 ∧ gfin gt121 q.1 q.2.1 = some none ∧ q.2.2.2.2.2.2 sk 1 = .int (zi c1) ∧ 0 ≤ c1 ∧ c1 ≤ 500000 ∧ (c0 ≤ c1) ∧ (c1 ≤ c0 + 300) ∧ (1024 * ((q.2.2.1 : Int) - h.1) ≤ (q.2.2.2.2.2.1 bt2 : Int) - h.2.2.2.1 bt) ∧ (((q.2.2.2.1 : Int) - h.2.1) ≤ 2 * ((q.2.2.2.2.2.1 bt2 : Int) - h.2.2.2.1 bt)) ∧ ((h.2.2.2.1 bt : Int) ≤ (q.2.2.2.2.2.1 bt2 : Int)) ∧ (c1 ≤ (q.2.2.2.2.2.1 bt2 : Int))) := by
    intro fu
    induction fu with
    | zero => intro ty67 h66 bv i cv hm; exact absurd hm (Nat.not_lt_zero _)
    | succ fu ihlp65 =>
      intro ty67 h66 bv i cv lp65m lp65G lp65u lp65c0 lp65c1 lp65c2 lp65c3 lp65r0 lp65r1 lp65f0 lp65f1 lp65f2 lp65f3 lp65f4 lp65f5 lp65f6 lp65f7 lp65k0 lp65k1 lp65k2 lp65k3 lp65k4
      have sh66 : gSs rT 1027 ty67 [56000, 56001, 76999, 77999, 78999, 79999, 80999, 81999, 85999, 92004, 92008, 114999] h66 h66 := gSs.rf lp65G.1
      refine gz_s 2 (pc' := 51) (L' := [some (.ref x), some (.int (zi kd)), some (.ref c5), some (.int (zi i))]) (S' := [.int (zi 16), .int (zi i)]) rfl ?_
      by_cases hc68 : (16 : Int) < i
      · refine gy_icT (pc' := 73) rfl (by decide) (by decide) (by omega) (by omega) hc68 ?_
        refine gz_s 2 (pc' := 75) (L' := [some (.ref x), some (.int (zi kd)), some (.ref c5), some (.int (zi 0))]) (S' := []) rfl ?_
        have lp69 : ∀ (fu : Nat) (ty71 : Nat → Nat) (h70 : gH) (bv2 : Nat) (k : Int) (cv2 : Int), (257 - k).toNat < fu → gSg [114] [] [56000, 56001, 76999, 77999, 78999, 79999, 80999, 81999, 85999, 92004, 92008, 114999] ty h ty71 h70 → gUq ty71 → ty71 x = 71 → ty71 c5 = 92 → ty71 sk = 56 → ty71 c1 = 75 → h70.2.2.2.2 sk 0 = .ref bv2 → ty71 bv2 = 114 → (0 ≤ k ∧ k ≤ 256) → (0 ≤ cv2 ∧ cv2 ≤ 499999) → (c0 ≤ cv2) → (cv2 ≤ c0 + 21 + k) → (1024 * ((h70.1 : Int) - h.1) ≤ (h70.2.2.2.1 bv2 : Int) - h.2.2.2.1 bt) → (((h70.2.1 : Int) - h.2.1) ≤ 2 * ((h70.2.2.2.1 bv2 : Int) - h.2.2.2.1 bt)) → ((h.2.2.2.1 bt : Int) ≤ (h70.2.2.2.1 bv2 : Int)) → (cv2 ≤ (h70.2.2.2.1 bv2 : Int)) → h70.2.2.2.2 x 0 = .ref sk → h70.2.2.2.2 x 4 = .ref c1 → h70.2.2.2.2 c1 1 = .ref c5 → h70.2.2.2.2 c5 4 = .int (zi fq6_0) → h70.2.2.2.2 sk 1 = .int (zi cv2) → gz gPP gGG gcn (d + 4) gt121 75 [some (.ref x), some (.int (zi kd)), some (.ref c5), some (.int (zi k))] [] h70 (fun q _ => ∃ ty9 : Nat → Nat, gSg [114] [] [56000, 56001, 76999, 77999, 78999, 79999, 80999, 81999, 85999, 92004, 92008, 114999] ty h ty9 q.2.2 ∧ ∃ bt2 : Nat, True ∧ ∃ c1 : Int, q.2.2.2.2.2.2 sk 0 = .ref bt2 ∧ ty9 bt2 = 114 ∧ gfin gt121 q.1 q.2.1 = some none ∧ q.2.2.2.2.2.2 sk 1 = .int (zi c1) ∧ 0 ≤ c1 ∧ c1 ≤ 500000 ∧ (c0 ≤ c1) ∧ (c1 ≤ c0 + 300) ∧ (1024 * ((q.2.2.1 : Int) - h.1) ≤ (q.2.2.2.2.2.1 bt2 : Int) - h.2.2.2.1 bt) ∧ (((q.2.2.2.1 : Int) - h.2.1) ≤ 2 * ((q.2.2.2.2.2.1 bt2 : Int) - h.2.2.2.1 bt)) ∧ ((h.2.2.2.1 bt : Int) ≤ (q.2.2.2.2.2.1 bt2 : Int)) ∧ (c1 ≤ (q.2.2.2.2.2.1 bt2 : Int))) := by
          intro fu
          induction fu with
          | zero => intro ty71 h70 bv2 k cv2 hm; exact absurd hm (Nat.not_lt_zero _)
          | succ fu ihlp69 =>
            intro ty71 h70 bv2 k cv2 lp69m lp69G lp69u lp69c0 lp69c1 lp69c2 lp69c3 lp69r0 lp69r1 lp69f0 lp69f1 lp69f2 lp69f3 lp69f4 lp69f5 lp69f6 lp69f7 lp69k0 lp69k1 lp69k2 lp69k3 lp69k4
            have sh70 : gSs rT 1027 ty71 [56000, 56001, 76999, 77999, 78999, 79999, 80999, 81999, 85999, 92004, 92008, 114999] h70 h70 := gSs.rf lp69G.1
            refine gz_s 2 (pc' := 77) (L' := [some (.ref x), some (.int (zi kd)), some (.ref c5), some (.int (zi k))]) (S' := [.ref c5, .int (zi k)]) rfl ?_
            refine gs_gtk rfl (by decide) rfl sh70.1 lp69c1 rfl rfl lp69k3 ?_
            by_cases hc72 : (fq6_0 : Int) ≤ k
            · refine gy_icT (pc' := 102) rfl (by decide) (by decide) (by omega) (by omega) hc72 ?_
              have hl73 : 1024 ≤ h70.2.2.2.1 bv2 ∧ h70.2.2.2.1 bv2 ≤ 1000000 := gJ.rowl (G := gGG) sh70.1 lp69r1 rfl
              have G74 : gSg [114] [] [56000, 56001, 76999, 77999, 78999, 79999, 80999, 81999, 85999, 92004, 92008, 114999] ty h ty71 h70 := gSg.ss lp69G sh70 (by decide)
              exact gz_end (I := .return_) (len := 1) rfl (Or.inl rfl) ⟨ty71, G74, bv2, trivial, cv2, lp69r0, lp69r1, rfl, lp69k4, (by omega), (by omega), (by omega), (by omega), (by dsimp only; omega), (by dsimp only; omega), (by dsimp only; omega), (by dsimp only; omega)⟩
            · refine gy_icF rfl (by decide) (by decide) (by omega) (by omega) hc72 ?_
              refine gz_s 1 (pc' := 84) (L' := [some (.ref x), some (.int (zi kd)), some (.ref c5), some (.int (zi k))]) (S' := [.ref x]) rfl ?_
              refine gs_gtk rfl (by decide) rfl sh70.1 lp69c0 rfl rfl lp69k0 ?_
              refine gz_s 1 (pc' := 88) (L' := [some (.ref x), some (.int (zi kd)), some (.ref c5), some (.int (zi k))]) (S' := [.ref c5, .ref sk]) rfl ?_
              refine gs_gtr rfl (by decide) rfl sh70.1 lp69c1 rfl rfl rfl (fun c75 ec75 tc75 => ?_)
              refine gz_s 1 (pc' := 92) (L' := [some (.ref x), some (.int (zi kd)), some (.ref c5), some (.int (zi k))]) (S' := [.int (zi k), .ref c75, .ref sk]) rfl ?_
              have hl76 : 256 ≤ h70.2.2.2.1 c75 ∧ h70.2.2.2.1 c75 ≤ 256 := gJ.rowl (G := gGG) sh70.1 tc75 rfl
              refine gs_ald rfl (by decide) sh70.1 tc75 rfl rfl rfl (by decide) (fun _ => rfl) (by omega) (by omega) (fun z77 ez77 az77 bz77 => ?_)
              have hl78 : h70.2.2.2.1 bv2 = h70.2.2.2.1 bv2 := congrFun sh70.2.2.2.2.1 bv2
              refine gz_call rfl (by decide) rfl (by decide) (by decide) (gcal_of rfl rfl rfl (Nat.le_of_ble_eq_true rfl) (gJ.recv (G := gGG) sh70.1 lp69c2 rfl rfl)) (cl_Sink_putByte _ sh70.1 sk lp69c2 z77 ⟨by omega, by omega⟩ bv2 lp69r0 lp69r1 cv2 lp69k4 ⟨by omega, by omega⟩ (by omega) lp69u) (fun q79 _ wq79 => ?_)
              obtain ⟨pq79, oq79, hq79⟩ := q79
              obtain ⟨tyq79, xq79, cq79_0, ttq79, fq79_0, ecq79_0, tcq79_0, gq79, efq79_0, afq79_0, bfq79_0, uq79_0, uq79_1, uq79_2, uq79_3, uq79_4⟩ := wq79
              dsimp only at uq79_1 uq79_2 uq79_3 uq79_4
              refine ⟨_, gq79, ?_⟩
              show gz gPP gGG gcn _ _ 96 [some (.ref x), some (.int (zi kd)), some (.ref c5), some (.int (zi k))] [] hq79 _
              have G80 : gSg [114] [] [56000, 56001, 76999, 77999, 78999, 79999, 80999, 81999, 85999, 92004, 92008, 114999] ty h tyq79 hq79 := gSg.tr (gSg.ss lp69G sh70 (by decide)) xq79 (by decide) (by decide) (fun x hx => by cases hx)
              have t81 : tyq79 x = 71 := gSg.typ xq79 sh70.1 lp69c0 rfl
              have t82 : tyq79 c5 = 92 := gSg.typ xq79 sh70.1 lp69c1 rfl
              have t83 : tyq79 sk = 56 := gSg.typ xq79 sh70.1 lp69c2 rfl
              have t84 : tyq79 c1 = 75 := gSg.typ xq79 sh70.1 lp69c3 rfl
              have t85 : tyq79 bv2 = 114 := gSg.typ xq79 sh70.1 lp69r1 rfl
              have hl86 : hq79.2.2.2.1 bv2 = h70.2.2.2.1 bv2 := gSg.len xq79 sh70.1 lp69r1 rfl
              have t87 : tyq79 c75 = 77 := gSg.typ xq79 sh70.1 tc75 rfl
              have s88 := gSg.at xq79 sh70.1 lp69c0 rfl (by decide) lp69k0
              have s89 := gSg.at xq79 sh70.1 lp69c0 rfl (by decide) lp69k1
              have s90 := gSg.at xq79 sh70.1 lp69c3 rfl (by decide) lp69k2
              have s91 := gSg.at xq79 sh70.1 lp69c1 rfl (by decide) lp69k3
              have s92 := gSg.at xq79 sh70.1 lp69c1 rfl (by decide) ec75
              have uq93 := gSg.uq xq79 lp69u (by decide)
              have sS94 : gSs rT 1027 tyq79 [56000, 56001, 76999, 77999, 78999, 79999, 80999, 81999, 85999, 92004, 92008, 114999] hq79 hq79 := gSs.rf xq79.1
              refine gy_s 2 (pc' := 75) (L' := [some (.ref x), some (.int (zi kd)), some (.ref c5), some (.int ((zi k) + zi 1))]) (S' := []) (L2 := [some (.ref x), some (.int (zi kd)), some (.ref c5), some (.int (zi (k + 1)))]) (S2 := []) rfl (by simp only [zi_add, zi_sub, zi_mul, zi_neg, zi_and1, zi_and7, zi_and15, zi_and31, zi_and255]) (by simp only [zi_add, zi_sub, zi_mul, zi_neg, zi_and1, zi_and7, zi_and15, zi_and31, zi_and255]) ?_
              have hl95 : 1024 ≤ hq79.2.2.2.1 bv2 ∧ hq79.2.2.2.1 bv2 ≤ 1000000 := gJ.rowl (G := gGG) sS94.1 t85 rfl
              have hl96 : 1024 ≤ hq79.2.2.2.1 cq79_0 ∧ hq79.2.2.2.1 cq79_0 ≤ 1000000 := gJ.rowl (G := gGG) sS94.1 tcq79_0 rfl
              have G97 : gSg [114] [] [56000, 56001, 76999, 77999, 78999, 79999, 80999, 81999, 85999, 92004, 92008, 114999] ty h tyq79 hq79 := gSg.ss G80 sS94 (by decide)
              exact gz_wk (ihlp69 tyq79 hq79 cq79_0 (k + 1) fq79_0 (gms lp69m (by omega) (by omega)) G97 uq93 t81 t82 t83 t84 ecq79_0 tcq79_0 ⟨by omega, by omega⟩ ⟨by omega, by omega⟩ (by omega) (by omega) (by omega) (by omega) (by omega) (by omega) s88 s89 s90 s91 efq79_0) (gLw.s (gLw.s (gLw.s (gLw.s gLw.z))))
        have hl98 : 1024 ≤ h66.2.2.2.1 bv ∧ h66.2.2.2.1 bv ≤ 1000000 := gJ.rowl (G := gGG) sh66.1 lp65r1 rfl
        have G99 : gSg [114] [] [56000, 56001, 76999, 77999, 78999, 79999, 80999, 81999, 85999, 92004, 92008, 114999] ty h ty67 h66 := gSg.ss lp65G sh66 (by decide)
        exact gz_wk (lp69 _ ty67 h66 bv 0 cv (Nat.lt_succ_self _) G99 lp65u lp65c0 lp65c1 lp65c2 lp65c3 lp65r0 lp65r1 ⟨by omega, by omega⟩ ⟨by omega, by omega⟩ (by omega) (by omega) (by omega) (by omega) (by omega) (by omega) lp65k0 lp65k1 lp65k2 lp65k3 lp65k4) (gLw.s (gLw.s (gLw.s (gLw.s gLw.z))))
      · refine gy_icF rfl (by decide) (by decide) (by omega) (by omega) hc68 ?_
        refine gz_s 1 (pc' := 55) (L' := [some (.ref x), some (.int (zi kd)), some (.ref c5), some (.int (zi i))]) (S' := [.ref x]) rfl ?_
        refine gs_gtk rfl (by decide) rfl sh66.1 lp65c0 rfl rfl lp65k0 ?_
        refine gz_s 1 (pc' := 59) (L' := [some (.ref x), some (.int (zi kd)), some (.ref c5), some (.int (zi i))]) (S' := [.ref c5, .ref sk]) rfl ?_
        refine gs_gtr rfl (by decide) rfl sh66.1 lp65c1 rfl rfl rfl (fun c100 ec100 tc100 => ?_)
        refine gz_s 1 (pc' := 63) (L' := [some (.ref x), some (.int (zi kd)), some (.ref c5), some (.int (zi i))]) (S' := [.int (zi i), .ref c100, .ref sk]) rfl ?_
        have hl101 : 17 ≤ h66.2.2.2.1 c100 ∧ h66.2.2.2.1 c100 ≤ 17 := gJ.rowl (G := gGG) sh66.1 tc100 rfl
        refine gs_ald rfl (by decide) sh66.1 tc100 rfl rfl rfl (by decide) (fun _ => rfl) (by omega) (by omega) (fun z102 ez102 az102 bz102 => ?_)
        have hl103 : h66.2.2.2.1 bv = h66.2.2.2.1 bv := congrFun sh66.2.2.2.2.1 bv
        refine gz_call rfl (by decide) rfl (by decide) (by decide) (gcal_of rfl rfl rfl (Nat.le_of_ble_eq_true rfl) (gJ.recv (G := gGG) sh66.1 lp65c2 rfl rfl)) (cl_Sink_putByte _ sh66.1 sk lp65c2 z102 ⟨by omega, by omega⟩ bv lp65r0 lp65r1 cv lp65k4 ⟨by omega, by omega⟩ (by omega) lp65u) (fun q104 _ wq104 => ?_)
        obtain ⟨pq104, oq104, hq104⟩ := q104
        obtain ⟨tyq104, xq104, cq104_0, ttq104, fq104_0, ecq104_0, tcq104_0, gq104, efq104_0, afq104_0, bfq104_0, uq104_0, uq104_1, uq104_2, uq104_3, uq104_4⟩ := wq104
        dsimp only at uq104_1 uq104_2 uq104_3 uq104_4
        refine ⟨_, gq104, ?_⟩
        show gz gPP gGG gcn _ _ 67 [some (.ref x), some (.int (zi kd)), some (.ref c5), some (.int (zi i))] [] hq104 _
        have G105 : gSg [114] [] [56000, 56001, 76999, 77999, 78999, 79999, 80999, 81999, 85999, 92004, 92008, 114999] ty h tyq104 hq104 := gSg.tr (gSg.ss lp65G sh66 (by decide)) xq104 (by decide) (by decide) (fun x hx => by cases hx)
        have t106 : tyq104 x = 71 := gSg.typ xq104 sh66.1 lp65c0 rfl
        have t107 : tyq104 c5 = 92 := gSg.typ xq104 sh66.1 lp65c1 rfl
        have t108 : tyq104 sk = 56 := gSg.typ xq104 sh66.1 lp65c2 rfl
        have t109 : tyq104 c1 = 75 := gSg.typ xq104 sh66.1 lp65c3 rfl
        have t110 : tyq104 bv = 114 := gSg.typ xq104 sh66.1 lp65r1 rfl
        have hl111 : hq104.2.2.2.1 bv = h66.2.2.2.1 bv := gSg.len xq104 sh66.1 lp65r1 rfl
        have t112 : tyq104 c100 = 76 := gSg.typ xq104 sh66.1 tc100 rfl
        have s113 := gSg.at xq104 sh66.1 lp65c0 rfl (by decide) lp65k0
        have s114 := gSg.at xq104 sh66.1 lp65c0 rfl (by decide) lp65k1
        have s115 := gSg.at xq104 sh66.1 lp65c3 rfl (by decide) lp65k2
        have s116 := gSg.at xq104 sh66.1 lp65c1 rfl (by decide) lp65k3
        have s117 := gSg.at xq104 sh66.1 lp65c1 rfl (by decide) ec100
        have uq118 := gSg.uq xq104 lp65u (by decide)
        have sS119 : gSs rT 1027 tyq104 [56000, 56001, 76999, 77999, 78999, 79999, 80999, 81999, 85999, 92004, 92008, 114999] hq104 hq104 := gSs.rf xq104.1
        refine gy_s 2 (pc' := 48) (L' := [some (.ref x), some (.int (zi kd)), some (.ref c5), some (.int ((zi i) + zi 1))]) (S' := []) (L2 := [some (.ref x), some (.int (zi kd)), some (.ref c5), some (.int (zi (i + 1)))]) (S2 := []) rfl (by simp only [zi_add, zi_sub, zi_mul, zi_neg, zi_and1, zi_and7, zi_and15, zi_and31, zi_and255]) (by simp only [zi_add, zi_sub, zi_mul, zi_neg, zi_and1, zi_and7, zi_and15, zi_and31, zi_and255]) ?_
        have hl120 : 1024 ≤ hq104.2.2.2.1 bv ∧ hq104.2.2.2.1 bv ≤ 1000000 := gJ.rowl (G := gGG) sS119.1 t110 rfl
        have hl121 : 1024 ≤ hq104.2.2.2.1 cq104_0 ∧ hq104.2.2.2.1 cq104_0 ≤ 1000000 := gJ.rowl (G := gGG) sS119.1 tcq104_0 rfl
        have G122 : gSg [114] [] [56000, 56001, 76999, 77999, 78999, 79999, 80999, 81999, 85999, 92004, 92008, 114999] ty h tyq104 hq104 := gSg.ss G105 sS119 (by decide)
        exact gz_wk (ihlp65 tyq104 hq104 cq104_0 (i + 1) fq104_0 (gms lp65m (by omega) (by omega)) G122 uq118 t106 t107 t108 t109 ecq104_0 tcq104_0 ⟨by omega, by omega⟩ ⟨by omega, by omega⟩ (by omega) (by omega) (by omega) (by omega) (by omega) (by omega) s113 s114 s115 s116 efq104_0) (gLw.s (gLw.s (gLw.s (gLw.s gLw.z))))
  have hl123 : 1024 ≤ hq47.2.2.2.1 bt ∧ hq47.2.2.2.1 bt ≤ 1000000 := gJ.rowl (G := gGG) sS64.1 t51 rfl
  have hl124 : 1024 ≤ hq47.2.2.2.1 cq15_0 ∧ hq47.2.2.2.1 cq15_0 ≤ 1000000 := gJ.rowl (G := gGG) sS64.1 t55 rfl
  have hl125 : 1024 ≤ hq47.2.2.2.1 cq30_0 ∧ hq47.2.2.2.1 cq30_0 ≤ 1000000 := gJ.rowl (G := gGG) sS64.1 t57 rfl
  have hl126 : 1024 ≤ hq47.2.2.2.1 cq47_0 ∧ hq47.2.2.2.1 cq47_0 ≤ 1000000 := gJ.rowl (G := gGG) sS64.1 tcq47_0 rfl
  have G127 : gSg [114] [] [56000, 56001, 76999, 77999, 78999, 79999, 80999, 81999, 85999, 92004, 92008, 114999] ty h tyq47 hq47 := gSg.ss G48 sS64 (by decide)
  exact gz_wk (lp65 _ tyq47 hq47 cq47_0 1 fq47_0 (Nat.lt_succ_self _) G127 uq63 t49 t54 t50 t53 ecq47_0 tcq47_0 ⟨by omega, by omega⟩ ⟨by omega, by omega⟩ (by omega) (by omega) (by omega) (by omega) (by omega) (by omega) s59 s60 s61 s62 efq47_0) (gLw.s (gLw.s (gLw.s (gLw.s gLw.z))))
set_option maxRecDepth 20000 in
set_option maxHeartbeats 4000000 in
theorem cl_Writer_putScanHead (d : Nat) {ty : Nat → Nat} {h : gH} (hJ : gJ rT 1027 ty h) (x : Nat) (tx : ty x = 71) (sk : Nat) (esk : h.2.2.2.2 x 0 = .ref sk) (tsk : ty sk = 56) (bt : Nat) (ebt : h.2.2.2.2 sk 0 = .ref bt) (tbt : ty bt = 114) (c0 : Int) (ec0 : h.2.2.2.2 sk 1 = .int (zi c0)) (rc0 : 0 ≤ c0 ∧ c0 ≤ 499000) (pp0 : c0 ≤ (h.2.2.2.1 bt : Int)) (uq : gUq ty) : gz gPP gGG gcn (d + 4) gt126 0 (gent [.ref x] 1) [] h (fun q _ => ∃ ty9 : Nat → Nat, gSg [114] [] [56000, 56001, 114999] ty h ty9 q.2.2 ∧ ∃ bt2 : Nat, True ∧ ∃ c1 : Int, q.2.2.2.2.2.2 sk 0 = .ref bt2 ∧ ty9 bt2 = 114 ∧ gfin gt126 q.1 q.2.1 = some none ∧ q.2.2.2.2.2.2 sk 1 = .int (zi c1) ∧ 0 ≤ c1 ∧ c1 ≤ 500000 ∧ (c1 = c0 + 10) ∧ (1024 * ((q.2.2.1 : Int) - h.1) ≤ (q.2.2.2.2.2.1 bt2 : Int) - h.2.2.2.1 bt) ∧ (((q.2.2.2.1 : Int) - h.2.1) ≤ 2 * ((q.2.2.2.2.2.1 bt2 : Int) - h.2.2.2.1 bt)) ∧ ((h.2.2.2.1 bt : Int) ≤ (q.2.2.2.2.2.1 bt2 : Int)) ∧ (c1 ≤ (q.2.2.2.2.2.1 bt2 : Int))) := by
  have hS : gSs rT 1027 ty [56000, 56001, 114999] h h := gSs.rf hJ
  have G0 : gSg [114] [] [56000, 56001, 114999] ty h ty h := gSg.rf hJ (fun x hx => by cases hx)
  refine gz_s 1 (pc' := 1) (L' := [some (.ref x)]) (S' := [.ref x]) rfl ?_
  refine gs_gtk rfl (by decide) rfl hS.1 tx rfl rfl esk ?_
  refine gz_s 1 (pc' := 7) (L' := [some (.ref x)]) (S' := [.int (zi 218), .ref sk]) rfl ?_
  have hl1 : h.2.2.2.1 bt = h.2.2.2.1 bt := congrFun hS.2.2.2.2.1 bt
  refine gz_call rfl (by decide) rfl (by decide) (by decide) (gcal_of rfl rfl rfl (Nat.le_of_ble_eq_true rfl) (gJ.recv (G := gGG) hS.1 tsk rfl rfl)) (cl_Sink_putMarker _ hS.1 sk tsk 218 ⟨by omega, by omega⟩ bt ebt tbt c0 ec0 ⟨by omega, by omega⟩ (by omega) uq) (fun q2 _ wq2 => ?_)
  obtain ⟨pq2, oq2, hq2⟩ := q2
  obtain ⟨tyq2, xq2, cq2_0, ttq2, fq2_0, ecq2_0, tcq2_0, gq2, efq2_0, afq2_0, bfq2_0, uq2_0, uq2_1, uq2_2, uq2_3, uq2_4⟩ := wq2
  dsimp only at uq2_1 uq2_2 uq2_3 uq2_4
  refine ⟨_, gq2, ?_⟩
  show gz gPP gGG gcn _ _ 10 [some (.ref x)] [] hq2 _
  have G3 : gSg [114] [] [56000, 56001, 114999] ty h tyq2 hq2 := gSg.tr (gSg.ss G0 hS (by decide)) xq2 (by decide) (by decide) (fun x hx => by cases hx)
  have t4 : tyq2 x = 71 := gSg.typ xq2 hS.1 tx rfl
  have t5 : tyq2 sk = 56 := gSg.typ xq2 hS.1 tsk rfl
  have t6 : tyq2 bt = 114 := gSg.typ xq2 hS.1 tbt rfl
  have hl7 : hq2.2.2.2.1 bt = h.2.2.2.1 bt := gSg.len xq2 hS.1 tbt rfl
  have s8 := gSg.at xq2 hS.1 tx rfl (by decide) esk
  have uq9 := gSg.uq xq2 uq (by decide)
  have sS10 : gSs rT 1027 tyq2 [56000, 56001, 114999] hq2 hq2 := gSs.rf xq2.1
  refine gz_s 1 (pc' := 11) (L' := [some (.ref x)]) (S' := [.ref x]) rfl ?_
  refine gs_gtk rfl (by decide) rfl sS10.1 t4 rfl rfl s8 ?_
  refine gz_s 1 (pc' := 16) (L' := [some (.ref x)]) (S' := [.int (zi 8), .ref sk]) rfl ?_
  have hl11 : hq2.2.2.2.1 cq2_0 = hq2.2.2.2.1 cq2_0 := congrFun sS10.2.2.2.2.1 cq2_0
  refine gz_call rfl (by decide) rfl (by decide) (by decide) (gcal_of rfl rfl rfl (Nat.le_of_ble_eq_true rfl) (gJ.recv (G := gGG) sS10.1 t5 rfl rfl)) (cl_Sink_putTwo _ sS10.1 sk t5 8 ⟨by omega, by omega⟩ cq2_0 ecq2_0 tcq2_0 fq2_0 efq2_0 ⟨by omega, by omega⟩ (by omega) uq9) (fun q12 _ wq12 => ?_)
  obtain ⟨pq12, oq12, hq12⟩ := q12
  obtain ⟨tyq12, xq12, cq12_0, ttq12, fq12_0, ecq12_0, tcq12_0, gq12, efq12_0, afq12_0, bfq12_0, uq12_0, uq12_1, uq12_2, uq12_3, uq12_4⟩ := wq12
  dsimp only at uq12_1 uq12_2 uq12_3 uq12_4
  refine ⟨_, gq12, ?_⟩
  show gz gPP gGG gcn _ _ 19 [some (.ref x)] [] hq12 _
  have G13 : gSg [114] [] [56000, 56001, 114999] ty h tyq12 hq12 := gSg.tr (gSg.ss G3 sS10 (by decide)) xq12 (by decide) (by decide) (fun x hx => by cases hx)
  have t14 : tyq12 x = 71 := gSg.typ xq12 sS10.1 t4 rfl
  have t15 : tyq12 sk = 56 := gSg.typ xq12 sS10.1 t5 rfl
  have t16 : tyq12 bt = 114 := gSg.typ xq12 sS10.1 t6 rfl
  have hl17 : hq12.2.2.2.1 bt = hq2.2.2.2.1 bt := gSg.len xq12 sS10.1 t6 rfl
  have t18 : tyq12 cq2_0 = 114 := gSg.typ xq12 sS10.1 tcq2_0 rfl
  have hl19 : hq12.2.2.2.1 cq2_0 = hq2.2.2.2.1 cq2_0 := gSg.len xq12 sS10.1 tcq2_0 rfl
  have s20 := gSg.at xq12 sS10.1 t4 rfl (by decide) s8
  have uq21 := gSg.uq xq12 uq9 (by decide)
  have sS22 : gSs rT 1027 tyq12 [56000, 56001, 114999] hq12 hq12 := gSs.rf xq12.1
  refine gz_s 1 (pc' := 20) (L' := [some (.ref x)]) (S' := [.ref x]) rfl ?_
  refine gs_gtk rfl (by decide) rfl sS22.1 t14 rfl rfl s20 ?_
  refine gz_s 1 (pc' := 24) (L' := [some (.ref x)]) (S' := [.int (zi 1), .ref sk]) rfl ?_
  have hl23 : hq12.2.2.2.1 cq12_0 = hq12.2.2.2.1 cq12_0 := congrFun sS22.2.2.2.2.1 cq12_0
  refine gz_call rfl (by decide) rfl (by decide) (by decide) (gcal_of rfl rfl rfl (Nat.le_of_ble_eq_true rfl) (gJ.recv (G := gGG) sS22.1 t15 rfl rfl)) (cl_Sink_putByte _ sS22.1 sk t15 1 ⟨by omega, by omega⟩ cq12_0 ecq12_0 tcq12_0 fq12_0 efq12_0 ⟨by omega, by omega⟩ (by omega) uq21) (fun q24 _ wq24 => ?_)
  obtain ⟨pq24, oq24, hq24⟩ := q24
  obtain ⟨tyq24, xq24, cq24_0, ttq24, fq24_0, ecq24_0, tcq24_0, gq24, efq24_0, afq24_0, bfq24_0, uq24_0, uq24_1, uq24_2, uq24_3, uq24_4⟩ := wq24
  dsimp only at uq24_1 uq24_2 uq24_3 uq24_4
  refine ⟨_, gq24, ?_⟩
  show gz gPP gGG gcn _ _ 27 [some (.ref x)] [] hq24 _
  have G25 : gSg [114] [] [56000, 56001, 114999] ty h tyq24 hq24 := gSg.tr (gSg.ss G13 sS22 (by decide)) xq24 (by decide) (by decide) (fun x hx => by cases hx)
  have t26 : tyq24 x = 71 := gSg.typ xq24 sS22.1 t14 rfl
  have t27 : tyq24 sk = 56 := gSg.typ xq24 sS22.1 t15 rfl
  have t28 : tyq24 bt = 114 := gSg.typ xq24 sS22.1 t16 rfl
  have hl29 : hq24.2.2.2.1 bt = hq12.2.2.2.1 bt := gSg.len xq24 sS22.1 t16 rfl
  have t30 : tyq24 cq2_0 = 114 := gSg.typ xq24 sS22.1 t18 rfl
  have hl31 : hq24.2.2.2.1 cq2_0 = hq12.2.2.2.1 cq2_0 := gSg.len xq24 sS22.1 t18 rfl
  have t32 : tyq24 cq12_0 = 114 := gSg.typ xq24 sS22.1 tcq12_0 rfl
  have hl33 : hq24.2.2.2.1 cq12_0 = hq12.2.2.2.1 cq12_0 := gSg.len xq24 sS22.1 tcq12_0 rfl
  have s34 := gSg.at xq24 sS22.1 t14 rfl (by decide) s20
  have uq35 := gSg.uq xq24 uq21 (by decide)
  have sS36 : gSs rT 1027 tyq24 [56000, 56001, 114999] hq24 hq24 := gSs.rf xq24.1
  refine gz_s 1 (pc' := 28) (L' := [some (.ref x)]) (S' := [.ref x]) rfl ?_
  refine gs_gtk rfl (by decide) rfl sS36.1 t26 rfl rfl s34 ?_
  refine gz_s 1 (pc' := 32) (L' := [some (.ref x)]) (S' := [.int (zi 1), .ref sk]) rfl ?_
  have hl37 : hq24.2.2.2.1 cq24_0 = hq24.2.2.2.1 cq24_0 := congrFun sS36.2.2.2.2.1 cq24_0
  refine gz_call rfl (by decide) rfl (by decide) (by decide) (gcal_of rfl rfl rfl (Nat.le_of_ble_eq_true rfl) (gJ.recv (G := gGG) sS36.1 t27 rfl rfl)) (cl_Sink_putByte _ sS36.1 sk t27 1 ⟨by omega, by omega⟩ cq24_0 ecq24_0 tcq24_0 fq24_0 efq24_0 ⟨by omega, by omega⟩ (by omega) uq35) (fun q38 _ wq38 => ?_)
  obtain ⟨pq38, oq38, hq38⟩ := q38
  obtain ⟨tyq38, xq38, cq38_0, ttq38, fq38_0, ecq38_0, tcq38_0, gq38, efq38_0, afq38_0, bfq38_0, uq38_0, uq38_1, uq38_2, uq38_3, uq38_4⟩ := wq38
  dsimp only at uq38_1 uq38_2 uq38_3 uq38_4
  refine ⟨_, gq38, ?_⟩
  show gz gPP gGG gcn _ _ 35 [some (.ref x)] [] hq38 _
  have G39 : gSg [114] [] [56000, 56001, 114999] ty h tyq38 hq38 := gSg.tr (gSg.ss G25 sS36 (by decide)) xq38 (by decide) (by decide) (fun x hx => by cases hx)
  have t40 : tyq38 x = 71 := gSg.typ xq38 sS36.1 t26 rfl
  have t41 : tyq38 sk = 56 := gSg.typ xq38 sS36.1 t27 rfl
  have t42 : tyq38 bt = 114 := gSg.typ xq38 sS36.1 t28 rfl
  have hl43 : hq38.2.2.2.1 bt = hq24.2.2.2.1 bt := gSg.len xq38 sS36.1 t28 rfl
  have t44 : tyq38 cq2_0 = 114 := gSg.typ xq38 sS36.1 t30 rfl
  have hl45 : hq38.2.2.2.1 cq2_0 = hq24.2.2.2.1 cq2_0 := gSg.len xq38 sS36.1 t30 rfl
  have t46 : tyq38 cq12_0 = 114 := gSg.typ xq38 sS36.1 t32 rfl
  have hl47 : hq38.2.2.2.1 cq12_0 = hq24.2.2.2.1 cq12_0 := gSg.len xq38 sS36.1 t32 rfl
  have t48 : tyq38 cq24_0 = 114 := gSg.typ xq38 sS36.1 tcq24_0 rfl
  have hl49 : hq38.2.2.2.1 cq24_0 = hq24.2.2.2.1 cq24_0 := gSg.len xq38 sS36.1 tcq24_0 rfl
  have s50 := gSg.at xq38 sS36.1 t26 rfl (by decide) s34
  have uq51 := gSg.uq xq38 uq35 (by decide)
  have sS52 : gSs rT 1027 tyq38 [56000, 56001, 114999] hq38 hq38 := gSs.rf xq38.1
  refine gz_s 1 (pc' := 36) (L' := [some (.ref x)]) (S' := [.ref x]) rfl ?_
  refine gs_gtk rfl (by decide) rfl sS52.1 t40 rfl rfl s50 ?_
  refine gz_s 1 (pc' := 40) (L' := [some (.ref x)]) (S' := [.int (zi 0), .ref sk]) rfl ?_
  have hl53 : hq38.2.2.2.1 cq38_0 = hq38.2.2.2.1 cq38_0 := congrFun sS52.2.2.2.2.1 cq38_0
  refine gz_call rfl (by decide) rfl (by decide) (by decide) (gcal_of rfl rfl rfl (Nat.le_of_ble_eq_true rfl) (gJ.recv (G := gGG) sS52.1 t41 rfl rfl)) (cl_Sink_putByte _ sS52.1 sk t41 0 ⟨by omega, by omega⟩ cq38_0 ecq38_0 tcq38_0 fq38_0 efq38_0 ⟨by omega, by omega⟩ (by omega) uq51) (fun q54 _ wq54 => ?_)
  obtain ⟨pq54, oq54, hq54⟩ := q54
  obtain ⟨tyq54, xq54, cq54_0, ttq54, fq54_0, ecq54_0, tcq54_0, gq54, efq54_0, afq54_0, bfq54_0, uq54_0, uq54_1, uq54_2, uq54_3, uq54_4⟩ := wq54
  dsimp only at uq54_1 uq54_2 uq54_3 uq54_4
  refine ⟨_, gq54, ?_⟩
  show gz gPP gGG gcn _ _ 43 [some (.ref x)] [] hq54 _
  have G55 : gSg [114] [] [56000, 56001, 114999] ty h tyq54 hq54 := gSg.tr (gSg.ss G39 sS52 (by decide)) xq54 (by decide) (by decide) (fun x hx => by cases hx)
  have t56 : tyq54 x = 71 := gSg.typ xq54 sS52.1 t40 rfl
  have t57 : tyq54 sk = 56 := gSg.typ xq54 sS52.1 t41 rfl
  have t58 : tyq54 bt = 114 := gSg.typ xq54 sS52.1 t42 rfl
  have hl59 : hq54.2.2.2.1 bt = hq38.2.2.2.1 bt := gSg.len xq54 sS52.1 t42 rfl
  have t60 : tyq54 cq2_0 = 114 := gSg.typ xq54 sS52.1 t44 rfl
  have hl61 : hq54.2.2.2.1 cq2_0 = hq38.2.2.2.1 cq2_0 := gSg.len xq54 sS52.1 t44 rfl
  have t62 : tyq54 cq12_0 = 114 := gSg.typ xq54 sS52.1 t46 rfl
  have hl63 : hq54.2.2.2.1 cq12_0 = hq38.2.2.2.1 cq12_0 := gSg.len xq54 sS52.1 t46 rfl
  have t64 : tyq54 cq24_0 = 114 := gSg.typ xq54 sS52.1 t48 rfl
  have hl65 : hq54.2.2.2.1 cq24_0 = hq38.2.2.2.1 cq24_0 := gSg.len xq54 sS52.1 t48 rfl
  have t66 : tyq54 cq38_0 = 114 := gSg.typ xq54 sS52.1 tcq38_0 rfl
  have hl67 : hq54.2.2.2.1 cq38_0 = hq38.2.2.2.1 cq38_0 := gSg.len xq54 sS52.1 tcq38_0 rfl
  have s68 := gSg.at xq54 sS52.1 t40 rfl (by decide) s50
  have uq69 := gSg.uq xq54 uq51 (by decide)
  have sS70 : gSs rT 1027 tyq54 [56000, 56001, 114999] hq54 hq54 := gSs.rf xq54.1
  refine gz_s 1 (pc' := 44) (L' := [some (.ref x)]) (S' := [.ref x]) rfl ?_
  refine gs_gtk rfl (by decide) rfl sS70.1 t56 rfl rfl s68 ?_
  refine gz_s 1 (pc' := 48) (L' := [some (.ref x)]) (S' := [.ref x, .ref sk]) rfl ?_
  refine gs_get rfl (by decide) rfl sS70.1 t56 rfl rfl rfl (fun z71 ez71 az71 bz71 => ?_)
  have hl72 : hq54.2.2.2.1 cq54_0 = hq54.2.2.2.1 cq54_0 := congrFun sS70.2.2.2.2.1 cq54_0
  refine gz_call rfl (by decide) rfl (by decide) (by decide) (gcal_of rfl rfl rfl (Nat.le_of_ble_eq_true rfl) (gJ.recv (G := gGG) sS70.1 t57 rfl rfl)) (cl_Sink_putByte _ sS70.1 sk t57 z71 ⟨by omega, by omega⟩ cq54_0 ecq54_0 tcq54_0 fq54_0 efq54_0 ⟨by omega, by omega⟩ (by omega) uq69) (fun q73 _ wq73 => ?_)
  obtain ⟨pq73, oq73, hq73⟩ := q73
  obtain ⟨tyq73, xq73, cq73_0, ttq73, fq73_0, ecq73_0, tcq73_0, gq73, efq73_0, afq73_0, bfq73_0, uq73_0, uq73_1, uq73_2, uq73_3, uq73_4⟩ := wq73
  dsimp only at uq73_1 uq73_2 uq73_3 uq73_4
  refine ⟨_, gq73, ?_⟩
  show gz gPP gGG gcn _ _ 54 [some (.ref x)] [] hq73 _
  have G74 : gSg [114] [] [56000, 56001, 114999] ty h tyq73 hq73 := gSg.tr (gSg.ss G55 sS70 (by decide)) xq73 (by decide) (by decide) (fun x hx => by cases hx)
  have t75 : tyq73 x = 71 := gSg.typ xq73 sS70.1 t56 rfl
  have t76 : tyq73 sk = 56 := gSg.typ xq73 sS70.1 t57 rfl
  have t77 : tyq73 bt = 114 := gSg.typ xq73 sS70.1 t58 rfl
  have hl78 : hq73.2.2.2.1 bt = hq54.2.2.2.1 bt := gSg.len xq73 sS70.1 t58 rfl
  have t79 : tyq73 cq2_0 = 114 := gSg.typ xq73 sS70.1 t60 rfl
  have hl80 : hq73.2.2.2.1 cq2_0 = hq54.2.2.2.1 cq2_0 := gSg.len xq73 sS70.1 t60 rfl
  have t81 : tyq73 cq12_0 = 114 := gSg.typ xq73 sS70.1 t62 rfl
  have hl82 : hq73.2.2.2.1 cq12_0 = hq54.2.2.2.1 cq12_0 := gSg.len xq73 sS70.1 t62 rfl
  have t83 : tyq73 cq24_0 = 114 := gSg.typ xq73 sS70.1 t64 rfl
  have hl84 : hq73.2.2.2.1 cq24_0 = hq54.2.2.2.1 cq24_0 := gSg.len xq73 sS70.1 t64 rfl
  have t85 : tyq73 cq38_0 = 114 := gSg.typ xq73 sS70.1 t66 rfl
  have hl86 : hq73.2.2.2.1 cq38_0 = hq54.2.2.2.1 cq38_0 := gSg.len xq73 sS70.1 t66 rfl
  have t87 : tyq73 cq54_0 = 114 := gSg.typ xq73 sS70.1 tcq54_0 rfl
  have hl88 : hq73.2.2.2.1 cq54_0 = hq54.2.2.2.1 cq54_0 := gSg.len xq73 sS70.1 tcq54_0 rfl
  have s89 := gSg.at xq73 sS70.1 t56 rfl (by decide) s68
  have s90 := gSg.at xq73 sS70.1 t56 rfl (by decide) ez71
  have uq91 := gSg.uq xq73 uq69 (by decide)
  have sS92 : gSs rT 1027 tyq73 [56000, 56001, 114999] hq73 hq73 := gSs.rf xq73.1
  refine gz_s 1 (pc' := 55) (L' := [some (.ref x)]) (S' := [.ref x]) rfl ?_
  refine gs_gtk rfl (by decide) rfl sS92.1 t75 rfl rfl s89 ?_
  refine gz_s 1 (pc' := 59) (L' := [some (.ref x)]) (S' := [.ref x, .ref sk]) rfl ?_
  refine gs_get rfl (by decide) rfl sS92.1 t75 rfl rfl rfl (fun z93 ez93 az93 bz93 => ?_)
  have hl94 : hq73.2.2.2.1 cq73_0 = hq73.2.2.2.1 cq73_0 := congrFun sS92.2.2.2.2.1 cq73_0
  refine gz_call rfl (by decide) rfl (by decide) (by decide) (gcal_of rfl rfl rfl (Nat.le_of_ble_eq_true rfl) (gJ.recv (G := gGG) sS92.1 t76 rfl rfl)) (cl_Sink_putByte _ sS92.1 sk t76 z93 ⟨by omega, by omega⟩ cq73_0 ecq73_0 tcq73_0 fq73_0 efq73_0 ⟨by omega, by omega⟩ (by omega) uq91) (fun q95 _ wq95 => ?_)
  obtain ⟨pq95, oq95, hq95⟩ := q95
  obtain ⟨tyq95, xq95, cq95_0, ttq95, fq95_0, ecq95_0, tcq95_0, gq95, efq95_0, afq95_0, bfq95_0, uq95_0, uq95_1, uq95_2, uq95_3, uq95_4⟩ := wq95
  dsimp only at uq95_1 uq95_2 uq95_3 uq95_4
  refine ⟨_, gq95, ?_⟩
  show gz gPP gGG gcn _ _ 65 [some (.ref x)] [] hq95 _
  have G96 : gSg [114] [] [56000, 56001, 114999] ty h tyq95 hq95 := gSg.tr (gSg.ss G74 sS92 (by decide)) xq95 (by decide) (by decide) (fun x hx => by cases hx)
  have t97 : tyq95 x = 71 := gSg.typ xq95 sS92.1 t75 rfl
  have t98 : tyq95 sk = 56 := gSg.typ xq95 sS92.1 t76 rfl
  have t99 : tyq95 bt = 114 := gSg.typ xq95 sS92.1 t77 rfl
  have hl100 : hq95.2.2.2.1 bt = hq73.2.2.2.1 bt := gSg.len xq95 sS92.1 t77 rfl
  have t101 : tyq95 cq2_0 = 114 := gSg.typ xq95 sS92.1 t79 rfl
  have hl102 : hq95.2.2.2.1 cq2_0 = hq73.2.2.2.1 cq2_0 := gSg.len xq95 sS92.1 t79 rfl
  have t103 : tyq95 cq12_0 = 114 := gSg.typ xq95 sS92.1 t81 rfl
  have hl104 : hq95.2.2.2.1 cq12_0 = hq73.2.2.2.1 cq12_0 := gSg.len xq95 sS92.1 t81 rfl
  have t105 : tyq95 cq24_0 = 114 := gSg.typ xq95 sS92.1 t83 rfl
  have hl106 : hq95.2.2.2.1 cq24_0 = hq73.2.2.2.1 cq24_0 := gSg.len xq95 sS92.1 t83 rfl
  have t107 : tyq95 cq38_0 = 114 := gSg.typ xq95 sS92.1 t85 rfl
  have hl108 : hq95.2.2.2.1 cq38_0 = hq73.2.2.2.1 cq38_0 := gSg.len xq95 sS92.1 t85 rfl
  have t109 : tyq95 cq54_0 = 114 := gSg.typ xq95 sS92.1 t87 rfl
  have hl110 : hq95.2.2.2.1 cq54_0 = hq73.2.2.2.1 cq54_0 := gSg.len xq95 sS92.1 t87 rfl
  have t111 : tyq95 cq73_0 = 114 := gSg.typ xq95 sS92.1 tcq73_0 rfl
  have hl112 : hq95.2.2.2.1 cq73_0 = hq73.2.2.2.1 cq73_0 := gSg.len xq95 sS92.1 tcq73_0 rfl
  have s113 := gSg.at xq95 sS92.1 t75 rfl (by decide) s89
  have s114 := gSg.at xq95 sS92.1 t75 rfl (by decide) s90
  have s115 := gSg.at xq95 sS92.1 t75 rfl (by decide) ez93
  have uq116 := gSg.uq xq95 uq91 (by decide)
  have sS117 : gSs rT 1027 tyq95 [56000, 56001, 114999] hq95 hq95 := gSs.rf xq95.1
  refine gz_s 1 (pc' := 66) (L' := [some (.ref x)]) (S' := [.ref x]) rfl ?_
  refine gs_gtk rfl (by decide) rfl sS117.1 t97 rfl rfl s113 ?_
  refine gz_s 2 (pc' := 72) (L' := [some (.ref x)]) (S' := [.ref x, .int (zi 16), .ref sk]) rfl ?_
  refine gs_get rfl (by decide) rfl sS117.1 t97 rfl rfl rfl (fun z118 ez118 az118 bz118 => ?_)
  refine gy_s 2 (pc' := 77) (L' := [some (.ref x)]) (S' := [.ref x, .int ((zi 16) * (zi z118)), .ref sk]) (L2 := [some (.ref x)]) (S2 := [.ref x, .int (zi (16 * z118)), .ref sk]) rfl (by simp only [zi_add, zi_sub, zi_mul, zi_neg, zi_and1, zi_and7, zi_and15, zi_and31, zi_and255]) (by simp only [zi_add, zi_sub, zi_mul, zi_neg, zi_and1, zi_and7, zi_and15, zi_and31, zi_and255]) ?_
  refine gs_get rfl (by decide) rfl sS117.1 t97 rfl rfl rfl (fun z119 ez119 az119 bz119 => ?_)
  refine gy_s 1 (pc' := 81) (L' := [some (.ref x)]) (S' := [.int ((zi (16 * z118)) + (zi z119)), .ref sk]) (L2 := [some (.ref x)]) (S2 := [.int (zi ((16 * z118) + z119)), .ref sk]) rfl (by simp only [zi_add, zi_sub, zi_mul, zi_neg, zi_and1, zi_and7, zi_and15, zi_and31, zi_and255]) (by simp only [zi_add, zi_sub, zi_mul, zi_neg, zi_and1, zi_and7, zi_and15, zi_and31, zi_and255]) ?_
  have hl120 : hq95.2.2.2.1 cq95_0 = hq95.2.2.2.1 cq95_0 := congrFun sS117.2.2.2.2.1 cq95_0
  refine gz_call rfl (by decide) rfl (by decide) (by decide) (gcal_of rfl rfl rfl (Nat.le_of_ble_eq_true rfl) (gJ.recv (G := gGG) sS117.1 t98 rfl rfl)) (cl_Sink_putByte _ sS117.1 sk t98 ((16 * z118) + z119) ⟨by omega, by omega⟩ cq95_0 ecq95_0 tcq95_0 fq95_0 efq95_0 ⟨by omega, by omega⟩ (by omega) uq116) (fun q121 _ wq121 => ?_)
  obtain ⟨pq121, oq121, hq121⟩ := q121
  obtain ⟨tyq121, xq121, cq121_0, ttq121, fq121_0, ecq121_0, tcq121_0, gq121, efq121_0, afq121_0, bfq121_0, uq121_0, uq121_1, uq121_2, uq121_3, uq121_4⟩ := wq121
  dsimp only at uq121_1 uq121_2 uq121_3 uq121_4
  refine ⟨_, gq121, ?_⟩
  show gz gPP gGG gcn _ _ 84 [some (.ref x)] [] hq121 _
  have G122 : gSg [114] [] [56000, 56001, 114999] ty h tyq121 hq121 := gSg.tr (gSg.ss G96 sS117 (by decide)) xq121 (by decide) (by decide) (fun x hx => by cases hx)
  have t123 : tyq121 x = 71 := gSg.typ xq121 sS117.1 t97 rfl
  have t124 : tyq121 sk = 56 := gSg.typ xq121 sS117.1 t98 rfl
  have t125 : tyq121 bt = 114 := gSg.typ xq121 sS117.1 t99 rfl
  have hl126 : hq121.2.2.2.1 bt = hq95.2.2.2.1 bt := gSg.len xq121 sS117.1 t99 rfl
  have t127 : tyq121 cq2_0 = 114 := gSg.typ xq121 sS117.1 t101 rfl
  have hl128 : hq121.2.2.2.1 cq2_0 = hq95.2.2.2.1 cq2_0 := gSg.len xq121 sS117.1 t101 rfl
  have t129 : tyq121 cq12_0 = 114 := gSg.typ xq121 sS117.1 t103 rfl
  have hl130 : hq121.2.2.2.1 cq12_0 = hq95.2.2.2.1 cq12_0 := gSg.len xq121 sS117.1 t103 rfl
  have t131 : tyq121 cq24_0 = 114 := gSg.typ xq121 sS117.1 t105 rfl
  have hl132 : hq121.2.2.2.1 cq24_0 = hq95.2.2.2.1 cq24_0 := gSg.len xq121 sS117.1 t105 rfl
  have t133 : tyq121 cq38_0 = 114 := gSg.typ xq121 sS117.1 t107 rfl
  have hl134 : hq121.2.2.2.1 cq38_0 = hq95.2.2.2.1 cq38_0 := gSg.len xq121 sS117.1 t107 rfl
  have t135 : tyq121 cq54_0 = 114 := gSg.typ xq121 sS117.1 t109 rfl
  have hl136 : hq121.2.2.2.1 cq54_0 = hq95.2.2.2.1 cq54_0 := gSg.len xq121 sS117.1 t109 rfl
  have t137 : tyq121 cq73_0 = 114 := gSg.typ xq121 sS117.1 t111 rfl
  have hl138 : hq121.2.2.2.1 cq73_0 = hq95.2.2.2.1 cq73_0 := gSg.len xq121 sS117.1 t111 rfl
  have t139 : tyq121 cq95_0 = 114 := gSg.typ xq121 sS117.1 tcq95_0 rfl
  have hl140 : hq121.2.2.2.1 cq95_0 = hq95.2.2.2.1 cq95_0 := gSg.len xq121 sS117.1 tcq95_0 rfl
  have s141 := gSg.at xq121 sS117.1 t97 rfl (by decide) s113
  have s142 := gSg.at xq121 sS117.1 t97 rfl (by decide) s114
  have s143 := gSg.at xq121 sS117.1 t97 rfl (by decide) s115
  have s144 := gSg.at xq121 sS117.1 t97 rfl (by decide) ez118
  have s145 := gSg.at xq121 sS117.1 t97 rfl (by decide) ez119
  have uq146 := gSg.uq xq121 uq116 (by decide)
  have sS147 : gSs rT 1027 tyq121 [56000, 56001, 114999] hq121 hq121 := gSs.rf xq121.1
  have hl148 : 1024 ≤ hq121.2.2.2.1 bt ∧ hq121.2.2.2.1 bt ≤ 1000000 := gJ.rowl (G := gGG) sS147.1 t125 rfl
  have hl149 : 1024 ≤ hq121.2.2.2.1 cq2_0 ∧ hq121.2.2.2.1 cq2_0 ≤ 1000000 := gJ.rowl (G := gGG) sS147.1 t127 rfl
  have hl150 : 1024 ≤ hq121.2.2.2.1 cq12_0 ∧ hq121.2.2.2.1 cq12_0 ≤ 1000000 := gJ.rowl (G := gGG) sS147.1 t129 rfl
  have hl151 : 1024 ≤ hq121.2.2.2.1 cq24_0 ∧ hq121.2.2.2.1 cq24_0 ≤ 1000000 := gJ.rowl (G := gGG) sS147.1 t131 rfl
  have hl152 : 1024 ≤ hq121.2.2.2.1 cq38_0 ∧ hq121.2.2.2.1 cq38_0 ≤ 1000000 := gJ.rowl (G := gGG) sS147.1 t133 rfl
  have hl153 : 1024 ≤ hq121.2.2.2.1 cq54_0 ∧ hq121.2.2.2.1 cq54_0 ≤ 1000000 := gJ.rowl (G := gGG) sS147.1 t135 rfl
  have hl154 : 1024 ≤ hq121.2.2.2.1 cq73_0 ∧ hq121.2.2.2.1 cq73_0 ≤ 1000000 := gJ.rowl (G := gGG) sS147.1 t137 rfl
  have hl155 : 1024 ≤ hq121.2.2.2.1 cq95_0 ∧ hq121.2.2.2.1 cq95_0 ≤ 1000000 := gJ.rowl (G := gGG) sS147.1 t139 rfl
  have hl156 : 1024 ≤ hq121.2.2.2.1 cq121_0 ∧ hq121.2.2.2.1 cq121_0 ≤ 1000000 := gJ.rowl (G := gGG) sS147.1 tcq121_0 rfl
  have G157 : gSg [114] [] [56000, 56001, 114999] ty h tyq121 hq121 := gSg.ss G122 sS147 (by decide)
  exact gz_end (I := .return_) (len := 1) rfl (Or.inl rfl) ⟨tyq121, G157, cq121_0, trivial, fq121_0, ecq121_0, tcq121_0, rfl, efq121_0, (by omega), (by omega), (by omega), (by dsimp only; omega), (by dsimp only; omega), (by dsimp only; omega), (by dsimp only; omega)⟩
set_option maxRecDepth 20000 in
set_option maxHeartbeats 4000000 in
theorem cl_Writer_putEnd (d : Nat) {ty : Nat → Nat} {h : gH} (hJ : gJ rT 1027 ty h) (x : Nat) (tx : ty x = 71) (sk : Nat) (esk : h.2.2.2.2 x 0 = .ref sk) (tsk : ty sk = 56) (bt : Nat) (ebt : h.2.2.2.2 sk 0 = .ref bt) (tbt : ty bt = 114) (c0 : Int) (ec0 : h.2.2.2.2 sk 1 = .int (zi c0)) (rc0 : 0 ≤ c0 ∧ c0 ≤ 499000) (pp0 : c0 ≤ (h.2.2.2.1 bt : Int)) (uq : gUq ty) : gz gPP gGG gcn (d + 4) gt127 0 (gent [.ref x] 1) [] h (fun q _ => ∃ ty9 : Nat → Nat, gSg [114] [] [56000, 56001, 114999] ty h ty9 q.2.2 ∧ ∃ bt2 : Nat, True ∧ ∃ c1 : Int, q.2.2.2.2.2.2 sk 0 = .ref bt2 ∧ ty9 bt2 = 114 ∧ gfin gt127 q.1 q.2.1 = some none ∧ q.2.2.2.2.2.2 sk 1 = .int (zi c1) ∧ 0 ≤ c1 ∧ c1 ≤ 500000 ∧ (c1 = c0 + 2) ∧ (1024 * ((q.2.2.1 : Int) - h.1) ≤ (q.2.2.2.2.2.1 bt2 : Int) - h.2.2.2.1 bt) ∧ (((q.2.2.2.1 : Int) - h.2.1) ≤ 2 * ((q.2.2.2.2.2.1 bt2 : Int) - h.2.2.2.1 bt)) ∧ ((h.2.2.2.1 bt : Int) ≤ (q.2.2.2.2.2.1 bt2 : Int)) ∧ (c1 ≤ (q.2.2.2.2.2.1 bt2 : Int))) := by
  have hS : gSs rT 1027 ty [56000, 56001, 114999] h h := gSs.rf hJ
  have G0 : gSg [114] [] [56000, 56001, 114999] ty h ty h := gSg.rf hJ (fun x hx => by cases hx)
  refine gz_s 1 (pc' := 1) (L' := [some (.ref x)]) (S' := [.ref x]) rfl ?_
  refine gs_gtk rfl (by decide) rfl hS.1 tx rfl rfl esk ?_
  refine gz_s 1 (pc' := 7) (L' := [some (.ref x)]) (S' := [.int (zi 217), .ref sk]) rfl ?_
  have hl1 : h.2.2.2.1 bt = h.2.2.2.1 bt := congrFun hS.2.2.2.2.1 bt
  refine gz_call rfl (by decide) rfl (by decide) (by decide) (gcal_of rfl rfl rfl (Nat.le_of_ble_eq_true rfl) (gJ.recv (G := gGG) hS.1 tsk rfl rfl)) (cl_Sink_putMarker _ hS.1 sk tsk 217 ⟨by omega, by omega⟩ bt ebt tbt c0 ec0 ⟨by omega, by omega⟩ (by omega) uq) (fun q2 _ wq2 => ?_)
  obtain ⟨pq2, oq2, hq2⟩ := q2
  obtain ⟨tyq2, xq2, cq2_0, ttq2, fq2_0, ecq2_0, tcq2_0, gq2, efq2_0, afq2_0, bfq2_0, uq2_0, uq2_1, uq2_2, uq2_3, uq2_4⟩ := wq2
  dsimp only at uq2_1 uq2_2 uq2_3 uq2_4
  refine ⟨_, gq2, ?_⟩
  show gz gPP gGG gcn _ _ 10 [some (.ref x)] [] hq2 _
  have G3 : gSg [114] [] [56000, 56001, 114999] ty h tyq2 hq2 := gSg.tr (gSg.ss G0 hS (by decide)) xq2 (by decide) (by decide) (fun x hx => by cases hx)
  have t4 : tyq2 x = 71 := gSg.typ xq2 hS.1 tx rfl
  have t5 : tyq2 sk = 56 := gSg.typ xq2 hS.1 tsk rfl
  have t6 : tyq2 bt = 114 := gSg.typ xq2 hS.1 tbt rfl
  have hl7 : hq2.2.2.2.1 bt = h.2.2.2.1 bt := gSg.len xq2 hS.1 tbt rfl
  have s8 := gSg.at xq2 hS.1 tx rfl (by decide) esk
  have uq9 := gSg.uq xq2 uq (by decide)
  have sS10 : gSs rT 1027 tyq2 [56000, 56001, 114999] hq2 hq2 := gSs.rf xq2.1
  have hl11 : 1024 ≤ hq2.2.2.2.1 bt ∧ hq2.2.2.2.1 bt ≤ 1000000 := gJ.rowl (G := gGG) sS10.1 t6 rfl
  have hl12 : 1024 ≤ hq2.2.2.2.1 cq2_0 ∧ hq2.2.2.2.1 cq2_0 ≤ 1000000 := gJ.rowl (G := gGG) sS10.1 tcq2_0 rfl
  have G13 : gSg [114] [] [56000, 56001, 114999] ty h tyq2 hq2 := gSg.ss G3 sS10 (by decide)
  exact gz_end (I := .return_) (len := 1) rfl (Or.inl rfl) ⟨tyq2, G13, cq2_0, trivial, fq2_0, ecq2_0, tcq2_0, rfl, efq2_0, (by omega), (by omega), (by omega), (by dsimp only; omega), (by dsimp only; omega), (by dsimp only; omega), (by dsimp only; omega)⟩
