/-! ===== methods of the landed text (by program) ===== -/
set_option maxRecDepth 20000 in
set_option maxHeartbeats 4000000 in
theorem cl_Writer_putOthers (d : Nat) {ty : Nat → Nat} {h : gH} (hJ : gJ rT 1027 ty h) (x : Nat) (tx : ty x = 71) (p : Int) (rp : 0 ≤ p ∧ p ≤ 960) (sk : Nat) (esk : h.2.2.2.2 x 0 = .ref sk) (tsk : ty sk = 56) (bt : Nat) (ebt : h.2.2.2.2 sk 0 = .ref bt) (tbt : ty bt = 114) (c0 : Int) (ec0 : h.2.2.2.2 sk 1 = .int (zi c0)) (rc0 : 0 ≤ c0 ∧ c0 ≤ 499999) (h0 : Int) (eh0 : h.2.2.2.2 sk 3 = .int (zi h0)) (rh0 : 0 ≤ h0 ∧ h0 ≤ 7) (cg : Int) (ecg : h.2.2.2.2 x 11 = .int (zi cg)) (rcg : 0 ≤ cg ∧ cg ≤ 1) (fr : Int) (efr : h.2.2.2.2 x 7 = .int (zi fr)) (rfr : 0 ≤ fr ∧ fr ≤ 63) (tt : Int) (ett : h.2.2.2.2 x 8 = .int (zi tt)) (rtt : 0 ≤ tt ∧ tt ≤ 63) (pp0 : 4 * c0 + h0 + 320 * (tt - fr + 2) ≤ 1999990) (pp1 : fr ≤ tt) (pp2 : 1 ≤ tt) (pp3 : c0 ≤ (h.2.2.2.1 bt : Int)) (uq : gUq ty) : gz gPP gGG gcn (d + 5) gt120 0 (gent [.ref x, .int (zi p)] 7) [] h (fun q _ => ∃ ty9 : Nat → Nat, gSg [114] [] [56000, 56001, 56002, 56003, 80999, 114999] ty h ty9 q.2.2 ∧ ∃ bt2 : Nat, True ∧ ∃ c1 h1 : Int, q.2.2.2.2.2.2 sk 0 = .ref bt2 ∧ ty9 bt2 = 114 ∧ gfin gt120 q.1 q.2.1 = some none ∧ q.2.2.2.2.2.2 sk 1 = .int (zi c1) ∧ 0 ≤ c1 ∧ c1 ≤ 500000 ∧ q.2.2.2.2.2.2 sk 3 = .int (zi h1) ∧ 0 ≤ h1 ∧ h1 ≤ 7 ∧ (4 * c1 + h1 ≤ 4 * c0 + h0 + 320 * (tt - fr + 1)) ∧ (c0 ≤ c1) ∧ (cg = 1 → (c1 = c0 ∧ h1 = h0)) ∧ (1024 * ((q.2.2.1 : Int) - h.1) ≤ (q.2.2.2.2.2.1 bt2 : Int) - h.2.2.2.1 bt) ∧ (((q.2.2.2.1 : Int) - h.2.1) ≤ 2 * ((q.2.2.2.2.2.1 bt2 : Int) - h.2.2.2.1 bt)) ∧ ((h.2.2.2.1 bt : Int) ≤ (q.2.2.2.2.2.1 bt2 : Int)) ∧ (c1 ≤ (q.2.2.2.2.2.1 bt2 : Int))) := by
  have hS : gSs rT 1027 ty [56000, 56001, 56002, 56003, 80999, 114999] h h := gSs.rf hJ
  have G0 : gSg [114] [] [56000, 56001, 56002, 56003, 80999, 114999] ty h ty h := gSg.rf hJ (fun x hx => by cases hx)
  refine gz_s 4 (pc' := 4) (L' := [some (.ref x), some (.int (zi p)), some (.int (zi 0)), none, none, none, none]) (S' := [.ref x, .int (zi 1)]) rfl ?_
  refine gs_gtk rfl (by decide) rfl hS.1 tx rfl rfl efr ?_
  refine gz_call rfl (by decide) rfl (by decide) (by decide) (gcal_of rfl rfl rfl (Nat.le_of_ble_eq_true rfl) rfl) (cl_Math_max _ hS.1 1 (by omega) fr (by omega) ) (fun q1 _ wq1 => ?_)
  obtain ⟨pq1, oq1, hq1⟩ := q1
  obtain ⟨xq1, zq1, gq1, aq1, bq1, uq1_0, uq1_1, uq1_2⟩ := wq1
  refine ⟨_, gq1, ?_⟩
  show gz gPP gGG gcn _ _ 10 [some (.ref x), some (.int (zi p)), some (.int (zi 0)), none, none, none, none] [.int (zi zq1)] hq1 _
  have sq1 : gSs rT 1027 ty [56000, 56001, 56002, 56003, 80999, 114999] h hq1 := gSs.tr hS xq1 (by decide)
  have s2 := (xq1.2.2.2.2.2 x 0 (by rw [tx]; decide)).trans esk
  have s3 := (xq1.2.2.2.2.2 sk 0 (by rw [tsk]; decide)).trans ebt
  have s4 := (xq1.2.2.2.2.2 sk 1 (by rw [tsk]; decide)).trans ec0
  have s5 := (xq1.2.2.2.2.2 sk 3 (by rw [tsk]; decide)).trans eh0
  have s6 := (xq1.2.2.2.2.2 x 11 (by rw [tx]; decide)).trans ecg
  have s7 := (xq1.2.2.2.2.2 x 7 (by rw [tx]; decide)).trans efr
  have s8 := (xq1.2.2.2.2.2 x 8 (by rw [tx]; decide)).trans ett
  refine gz_s 1 (pc' := 11) (L' := [some (.ref x), some (.int (zi p)), some (.int (zi 0)), some (.int (zi zq1)), none, none, none]) (S' := []) rfl ?_
  have lp9 : ∀ (fu : Nat) (ty11 : Nat → Nat) (h10 : gH) (bv : Nat) (rn : Int) (k : Int) (cv : Int) (hv : Int), (65 - k).toNat < fu → gSg [114] [] [56000, 56001, 56002, 56003, 80999, 114999] ty h ty11 h10 → gUq ty11 → ty11 x = 71 → ty11 sk = 56 → h10.2.2.2.2 sk 0 = .ref bv → ty11 bv = 114 → (0 ≤ rn ∧ rn ≤ 63) → (1 ≤ k ∧ k ≤ 64) → (0 ≤ cv ∧ cv ≤ 499999) → (0 ≤ hv ∧ hv ≤ 7) → (4 * cv + hv + 320 * rn ≤ 4 * c0 + h0 + 320 * (k - zq1)) → (c0 ≤ cv) → (cg = 1 → (cv = c0 ∧ hv = h0)) → (rn ≤ k - zq1) → (k ≤ tt + 1) → (1024 * ((h10.1 : Int) - h.1) ≤ (h10.2.2.2.1 bv : Int) - h.2.2.2.1 bt) → (((h10.2.1 : Int) - h.2.1) ≤ 2 * ((h10.2.2.2.1 bv : Int) - h.2.2.2.1 bt)) → ((h.2.2.2.1 bt : Int) ≤ (h10.2.2.2.1 bv : Int)) → (cv ≤ (h10.2.2.2.1 bv : Int)) → h10.2.2.2.2 x 0 = .ref sk → h10.2.2.2.2 x 11 = .int (zi cg) → h10.2.2.2.2 x 7 = .int (zi fr) → h10.2.2.2.2 x 8 = .int (zi tt) → h10.2.2.2.2 sk 1 = .int (zi cv) → h10.2.2.2.2 sk 3 = .int (zi hv) → gz gPP gGG gcn (d + 5) gt120 11 [some (.ref x), some (.int (zi p)), some (.int (zi rn)), some (.int (zi k)), none, none, none] [] h10 (fun q _ => ∃ ty9 : Nat → Nat, gSg [114] [] [56000, 56001, 56002, 56003, 80999, 114999] ty h ty9 q.2.2 ∧ ∃ bt2 : Nat, True ∧ ∃ c1 h1 : Int, q.2.2.2.2.2.2 sk 0 = .ref bt2 ∧ ty9 bt2 = 114 ∧ gfin gt120 q.1 q.2.1 = some none ∧ q.2.2.2.2.2.2 sk 1 = .int (zi c1) ∧ 0 ≤ c1 ∧ c1 ≤ 500000 ∧ q.2.2.2.2.2.2 sk 3 = .int (zi h1) ∧ 0 ≤ h1 ∧ h1 ≤ 7 ∧ (4 * c1 + h1 ≤ 4 * c0 + h0 + 320 * (tt - fr + 1)) ∧ (c0 ≤ c1) ∧ (cg = 1 → (c1 = c0 ∧ h1 = h0)) ∧ (1024 * ((q.2.2.1 : Int) - h.1) ≤ (q.2.2.2.2.2.1 bt2 : Int) - h.2.2.2.1 bt) ∧ (((q.2.2.2.1 : Int) - h.2.1) ≤ 2 * ((q.2.2.2.2.2.1 bt2 : Int) - h.2.2.2.1 bt)) ∧ ((h.2.2.2.1 bt : Int) ≤ (q.2.2.2.2.2.1 bt2 : Int)) ∧ (c1 ≤ (q.2.2.2.2.2.1 bt2 : Int))) := by
    intro fu
    induction fu with
    | zero => intro ty11 h10 bv rn k cv hv hm; exact absurd hm (Nat.not_lt_zero _)
    | succ fu ihlp9 =>
      intro ty11 h10 bv rn k cv hv lp9m lp9G lp9u lp9c0 lp9c1 lp9r0 lp9r1 lp9f0 lp9f1 lp9f2 lp9f3 lp9f4 lp9f5 lp9f6 lp9f7 lp9f8 lp9f9 lp9f10 lp9f11 lp9f12 lp9k0 lp9k1 lp9k2 lp9k3 lp9k4 lp9k5
      have sh10 : gSs rT 1027 ty11 [56000, 56001, 56002, 56003, 80999, 114999] h10 h10 := gSs.rf lp9G.1
      refine gz_s 2 (pc' := 13) (L' := [some (.ref x), some (.int (zi p)), some (.int (zi rn)), some (.int (zi k)), none, none, none]) (S' := [.ref x, .int (zi k)]) rfl ?_
      refine gs_gtk rfl (by decide) rfl sh10.1 lp9c0 rfl rfl lp9k3 ?_
      by_cases hc12 : (tt : Int) < k
      · refine gy_icT (pc' := 120) rfl (by decide) (by decide) (by omega) (by omega) hc12 ?_
        refine gz_s 1 (pc' := 121) (L' := [some (.ref x), some (.int (zi p)), some (.int (zi rn)), some (.int (zi k)), none, none, none]) (S' := [.int (zi rn)]) rfl ?_
        by_cases hc13 : (rn : Int) ≤ 0
        · refine gy_ifT (pc' := 130) rfl (by decide) (by decide) (by omega) hc13 ?_
          have hl14 : 1024 ≤ h10.2.2.2.1 bv ∧ h10.2.2.2.1 bv ≤ 1000000 := gJ.rowl (G := gGG) sh10.1 lp9r1 rfl
          have G15 : gSg [114] [] [56000, 56001, 56002, 56003, 80999, 114999] ty h ty11 h10 := gSg.ss lp9G sh10 (by decide)
          exact gz_end (I := .return_) (len := 1) rfl (Or.inl rfl) ⟨ty11, G15, bv, trivial, cv, hv, lp9r0, lp9r1, rfl, lp9k4, (by omega), (by omega), lp9k5, (by omega), (by omega), (by omega), (by omega), (by omega), (by dsimp only; omega), (by dsimp only; omega), (by dsimp only; omega), (by dsimp only; omega)⟩
        · refine gy_ifF rfl (by decide) (by decide) (by omega) hc13 ?_
          refine gz_s 3 (pc' := 127) (L' := [some (.ref x), some (.int (zi p)), some (.int (zi rn)), some (.int (zi k)), none, none, none]) (S' := [.int (zi 0), .int (zi 1), .ref x]) rfl ?_
          have hl16 : h10.2.2.2.1 bv = h10.2.2.2.1 bv := congrFun sh10.2.2.2.2.1 bv
          refine gz_call rfl (by decide) rfl (by decide) (by decide) (gcal_of rfl rfl rfl (Nat.le_of_ble_eq_true rfl) (gJ.recv (G := gGG) sh10.1 lp9c0 rfl rfl)) (cl_putSymbol1 _ sh10.1 x lp9c0 1 (by omega) 0 (by omega) sk lp9k0 lp9c1 bv lp9r0 lp9r1 cv lp9k4 (by omega) hv lp9k5 (by omega) cg lp9k1 (by omega) (by omega) (by omega) lp9u) (fun q17 _ wq17 => ?_)
          obtain ⟨pq17, oq17, hq17⟩ := q17
          obtain ⟨tyq17, xq17, cq17_0, ttq17, fq17_0, fq17_1, ecq17_0, tcq17_0, gq17, efq17_0, afq17_0, bfq17_0, efq17_1, afq17_1, bfq17_1, uq17_0, uq17_1, uq17_2, uq17_3, uq17_4, uq17_5, uq17_6⟩ := wq17
          dsimp only at uq17_3 uq17_4 uq17_5 uq17_6
          refine ⟨_, gq17, ?_⟩
          show gz gPP gGG gcn _ _ 130 [some (.ref x), some (.int (zi p)), some (.int (zi rn)), some (.int (zi k)), none, none, none] [] hq17 _
          have G18 : gSg [114] [] [56000, 56001, 56002, 56003, 80999, 114999] ty h tyq17 hq17 := gSg.tr (gSg.ss lp9G sh10 (by decide)) xq17 (by decide) (by decide) (fun x hx => by cases hx)
          have t19 : tyq17 x = 71 := gSg.typ xq17 sh10.1 lp9c0 rfl
          have t20 : tyq17 sk = 56 := gSg.typ xq17 sh10.1 lp9c1 rfl
          have t21 : tyq17 bv = 114 := gSg.typ xq17 sh10.1 lp9r1 rfl
          have hl22 : hq17.2.2.2.1 bv = h10.2.2.2.1 bv := gSg.len xq17 sh10.1 lp9r1 rfl
          have s23 := gSg.at xq17 sh10.1 lp9c0 rfl (by decide) lp9k0
          have s24 := gSg.at xq17 sh10.1 lp9c0 rfl (by decide) lp9k1
          have s25 := gSg.at xq17 sh10.1 lp9c0 rfl (by decide) lp9k2
          have s26 := gSg.at xq17 sh10.1 lp9c0 rfl (by decide) lp9k3
          have uq27 := gSg.uq xq17 lp9u (by decide)
          have sS28 : gSs rT 1027 tyq17 [56000, 56001, 56002, 56003, 80999, 114999] hq17 hq17 := gSs.rf xq17.1
          have hl29 : 1024 ≤ hq17.2.2.2.1 bv ∧ hq17.2.2.2.1 bv ≤ 1000000 := gJ.rowl (G := gGG) sS28.1 t21 rfl
          have hl30 : 1024 ≤ hq17.2.2.2.1 cq17_0 ∧ hq17.2.2.2.1 cq17_0 ≤ 1000000 := gJ.rowl (G := gGG) sS28.1 tcq17_0 rfl
          have G31 : gSg [114] [] [56000, 56001, 56002, 56003, 80999, 114999] ty h tyq17 hq17 := gSg.ss G18 sS28 (by decide)
          exact gz_end (I := .return_) (len := 1) rfl (Or.inl rfl) ⟨tyq17, G31, cq17_0, trivial, fq17_0, fq17_1, ecq17_0, tcq17_0, rfl, efq17_0, (by omega), (by omega), efq17_1, (by omega), (by omega), (by omega), (by omega), (by omega), (by dsimp only; omega), (by dsimp only; omega), (by dsimp only; omega), (by dsimp only; omega)⟩
      · refine gy_icF rfl (by decide) (by decide) (by omega) (by omega) hc12 ?_
        refine gz_s 1 (pc' := 20) (L' := [some (.ref x), some (.int (zi p)), some (.int (zi rn)), some (.int (zi k)), none, none, none]) (S' := [.ref x]) rfl ?_
        refine gs_gtr rfl (by decide) rfl sh10.1 lp9c0 rfl rfl rfl (fun c32 ec32 tc32 => ?_)
        refine gy_s 3 (pc' := 26) (L' := [some (.ref x), some (.int (zi p)), some (.int (zi rn)), some (.int (zi k)), none, none, none]) (S' := [.int ((zi p) + (zi k)), .ref c32]) (L2 := [some (.ref x), some (.int (zi p)), some (.int (zi rn)), some (.int (zi k)), none, none, none]) (S2 := [.int (zi (p + k)), .ref c32]) rfl (by simp only [zi_add, zi_sub, zi_mul, zi_neg, zi_and1, zi_and7, zi_and15, zi_and31, zi_and255]) (by simp only [zi_add, zi_sub, zi_mul, zi_neg, zi_and1, zi_and7, zi_and15, zi_and31, zi_and255]) ?_
        have hl33 : 1024 ≤ h10.2.2.2.1 c32 ∧ h10.2.2.2.1 c32 ≤ 1024 := gJ.rowl (G := gGG) sh10.1 tc32 rfl
        refine gs_ald rfl (by decide) sh10.1 tc32 rfl rfl rfl (by decide) (fun _ => rfl) (by omega) (by omega) (fun z34 ez34 az34 bz34 => ?_)
        refine gz_s 2 (pc' := 31) (L' := [some (.ref x), some (.int (zi p)), some (.int (zi rn)), some (.int (zi k)), some (.int (zi z34)), none, none]) (S' := [.int (zi z34)]) rfl ?_
        refine gz_call rfl (by decide) rfl (by decide) (by decide) (gcal_of rfl rfl rfl (Nat.le_of_ble_eq_true rfl) rfl) (cl_Math_abs _ sh10.1 z34 (by omega) ) (fun q35 _ wq35 => ?_)
        obtain ⟨pq35, oq35, hq35⟩ := q35
        obtain ⟨xq35, zq35, gq35, aq35, bq35, uq35_0, uq35_1⟩ := wq35
        refine ⟨_, gq35, ?_⟩
        show gz gPP gGG gcn _ _ 34 [some (.ref x), some (.int (zi p)), some (.int (zi rn)), some (.int (zi k)), some (.int (zi z34)), none, none] [.int (zi zq35)] hq35 _
        have sq35 : gSs rT 1027 ty11 [56000, 56001, 56002, 56003, 80999, 114999] h10 hq35 := gSs.tr sh10 xq35 (by decide)
        have s36 := (xq35.2.2.2.2.2 x 0 (by rw [lp9c0]; decide)).trans lp9k0
        have s37 := (xq35.2.2.2.2.2 x 11 (by rw [lp9c0]; decide)).trans lp9k1
        have s38 := (xq35.2.2.2.2.2 x 7 (by rw [lp9c0]; decide)).trans lp9k2
        have s39 := (xq35.2.2.2.2.2 x 8 (by rw [lp9c0]; decide)).trans lp9k3
        have s40 := (xq35.2.2.2.2.2 sk 1 (by rw [lp9c1]; decide)).trans lp9k4
        have s41 := (xq35.2.2.2.2.2 sk 3 (by rw [lp9c1]; decide)).trans lp9k5
        have s42 := (xq35.2.2.2.2.2 sk 0 (by rw [lp9c1]; decide)).trans lp9r0
        have s43 := (xq35.2.2.2.2.2 x 2 (by rw [lp9c0]; decide)).trans ec32
        refine gz_s 1 (pc' := 35) (L' := [some (.ref x), some (.int (zi p)), some (.int (zi rn)), some (.int (zi k)), some (.int (zi z34)), none, none]) (S' := [.ref x, .int (zi zq35)]) rfl ?_
        refine gs_get rfl (by decide) rfl sq35.1 lp9c0 rfl rfl rfl (fun z44 ez44 az44 bz44 => ?_)
        refine gy_shv rfl (by decide) (by omega) (by omega) (fun z45 az45 bz45 => ?_)
        refine gz_s 2 (pc' := 43) (L' := [some (.ref x), some (.int (zi p)), some (.int (zi rn)), some (.int (zi k)), some (.int (zi z34)), some (.int (zi z45)), none]) (S' := [.int (zi z45)]) rfl ?_
        by_cases hc46 : ¬ (z45 : Int) = 0
        · refine gy_ifT (pc' := 52) rfl (by decide) (by decide) (by omega) hc46 ?_
          have lp47 : ∀ (fu : Nat) (ty49 : Nat → Nat) (h48 : gH) (bv2 : Nat) (rn2 : Int) (cv2 : Int) (hv2 : Int), (rn2).toNat < fu → gSg [114] [] [56000, 56001, 56002, 56003, 80999, 114999] ty h ty49 h48 → gUq ty49 → ty49 x = 71 → ty49 sk = 56 → ty49 c32 = 73 → h48.2.2.2.2 sk 0 = .ref bv2 → ty49 bv2 = 114 → (0 ≤ rn2 ∧ rn2 ≤ 63) → (0 ≤ cv2 ∧ cv2 ≤ 499999) → (0 ≤ hv2 ∧ hv2 ≤ 7) → (4 * cv2 + hv2 + 320 * rn2 ≤ 4 * c0 + h0 + 320 * (k - zq1)) → (c0 ≤ cv2) → (cg = 1 → (cv2 = c0 ∧ hv2 = h0)) → (rn2 ≤ rn) → (1024 * ((h48.1 : Int) - h.1) ≤ (h48.2.2.2.1 bv2 : Int) - h.2.2.2.1 bt) → (((h48.2.1 : Int) - h.2.1) ≤ 2 * ((h48.2.2.2.1 bv2 : Int) - h.2.2.2.1 bt)) → ((h.2.2.2.1 bt : Int) ≤ (h48.2.2.2.1 bv2 : Int)) → (cv2 ≤ (h48.2.2.2.1 bv2 : Int)) → h48.2.2.2.2 x 0 = .ref sk → h48.2.2.2.2 x 11 = .int (zi cg) → h48.2.2.2.2 x 7 = .int (zi fr) → h48.2.2.2.2 x 8 = .int (zi tt) → h48.2.2.2.2 x 2 = .ref c32 → h48.2.2.2.2 x 10 = .int (zi z44) → h48.2.2.2.2 sk 1 = .int (zi cv2) → h48.2.2.2.2 sk 3 = .int (zi hv2) → gz gPP gGG gcn (d + 5) gt120 52 [some (.ref x), some (.int (zi p)), some (.int (zi rn2)), some (.int (zi k)), some (.int (zi z34)), some (.int (zi z45)), none] [] h48 (fun q _ => ∃ ty9 : Nat → Nat, gSg [114] [] [56000, 56001, 56002, 56003, 80999, 114999] ty h ty9 q.2.2 ∧ ∃ bt2 : Nat, True ∧ ∃ c1 h1 : Int, q.2.2.2.2.2.2 sk 0 = .ref bt2 ∧ ty9 bt2 = 114 ∧ gfin gt120 q.1 q.2.1 = some none ∧ q.2.2.2.2.2.2 sk 1 = .int (zi c1) ∧ 0 ≤ c1 ∧ c1 ≤ 500000 ∧ q.2.2.2.2.2.2 sk 3 = .int (zi h1) ∧ 0 ≤ h1 ∧ h1 ≤ 7 ∧ (4 * c1 + h1 ≤ 4 * c0 + h0 + 320 * (tt - fr + 1)) ∧ (c0 ≤ c1) ∧ (cg = 1 → (c1 = c0 ∧ h1 = h0)) ∧ (1024 * ((q.2.2.1 : Int) - h.1) ≤ (q.2.2.2.2.2.1 bt2 : Int) - h.2.2.2.1 bt) ∧ (((q.2.2.2.1 : Int) - h.2.1) ≤ 2 * ((q.2.2.2.2.2.1 bt2 : Int) - h.2.2.2.1 bt)) ∧ ((h.2.2.2.1 bt : Int) ≤ (q.2.2.2.2.2.1 bt2 : Int)) ∧ (c1 ≤ (q.2.2.2.2.2.1 bt2 : Int))) := by
            intro fu
            induction fu with
            | zero => intro ty49 h48 bv2 rn2 cv2 hv2 hm; exact absurd hm (Nat.not_lt_zero _)
            | succ fu ihlp47 =>
              intro ty49 h48 bv2 rn2 cv2 hv2 lp47m lp47G lp47u lp47c0 lp47c1 lp47c2 lp47r0 lp47r1 lp47f0 lp47f1 lp47f2 lp47f3 lp47f4 lp47f5 lp47f6 lp47f7 lp47f8 lp47f9 lp47f10 lp47k0 lp47k1 lp47k2 lp47k3 lp47k4 lp47k5 lp47k6 lp47k7
              have sh48 : gSs rT 1027 ty49 [56000, 56001, 56002, 56003, 80999, 114999] h48 h48 := gSs.rf lp47G.1
              refine gz_s 2 (pc' := 55) (L' := [some (.ref x), some (.int (zi p)), some (.int (zi rn2)), some (.int (zi k)), some (.int (zi z34)), some (.int (zi z45)), none]) (S' := [.int (zi 15), .int (zi rn2)]) rfl ?_
              by_cases hc50 : (rn2 : Int) ≤ 15
              · refine gy_icT (pc' := 72) rfl (by decide) (by decide) (by omega) (by omega) hc50 ?_
                refine gz_s 1 (pc' := 74) (L' := [some (.ref x), some (.int (zi p)), some (.int (zi rn2)), some (.int (zi k)), some (.int (zi z34)), some (.int (zi z45)), none]) (S' := [.int (zi z45)]) rfl ?_
                refine gz_call rfl (by decide) rfl (by decide) (by decide) (gcal_of rfl rfl rfl (Nat.le_of_ble_eq_true rfl) rfl) (cl_Writer_bitsOf _ sh48.1 z45 (by omega) lp47u) (fun q51 _ wq51 => ?_)
                obtain ⟨pq51, oq51, hq51⟩ := q51
                obtain ⟨xq51, zq51, gq51, aq51, bq51⟩ := wq51
                refine ⟨_, gq51, ?_⟩
                show gz gPP gGG gcn _ _ 77 [some (.ref x), some (.int (zi p)), some (.int (zi rn2)), some (.int (zi k)), some (.int (zi z34)), some (.int (zi z45)), none] [.int (zi zq51)] hq51 _
                have sq51 : gSs rT 1027 ty49 [56000, 56001, 56002, 56003, 80999, 114999] h48 hq51 := gSs.tr sh48 xq51 (by decide)
                have s52 := (xq51.2.2.2.2.2 x 0 (by rw [lp47c0]; decide)).trans lp47k0
                have s53 := (xq51.2.2.2.2.2 x 11 (by rw [lp47c0]; decide)).trans lp47k1
                have s54 := (xq51.2.2.2.2.2 x 7 (by rw [lp47c0]; decide)).trans lp47k2
                have s55 := (xq51.2.2.2.2.2 x 8 (by rw [lp47c0]; decide)).trans lp47k3
                have s56 := (xq51.2.2.2.2.2 x 2 (by rw [lp47c0]; decide)).trans lp47k4
                have s57 := (xq51.2.2.2.2.2 x 10 (by rw [lp47c0]; decide)).trans lp47k5
                have s58 := (xq51.2.2.2.2.2 sk 1 (by rw [lp47c1]; decide)).trans lp47k6
                have s59 := (xq51.2.2.2.2.2 sk 3 (by rw [lp47c1]; decide)).trans lp47k7
                have s60 := (xq51.2.2.2.2.2 sk 0 (by rw [lp47c1]; decide)).trans lp47r0
                refine gy_s 8 (pc' := 88) (L' := [some (.ref x), some (.int (zi p)), some (.int (zi rn2)), some (.int (zi k)), some (.int (zi z34)), some (.int (zi z45)), some (.int (zi zq51))]) (S' := [.int (((zi 16) * (zi rn2)) + (zi zq51)), .int (zi 1), .ref x]) (L2 := [some (.ref x), some (.int (zi p)), some (.int (zi rn2)), some (.int (zi k)), some (.int (zi z34)), some (.int (zi z45)), some (.int (zi zq51))]) (S2 := [.int (zi ((16 * rn2) + zq51)), .int (zi 1), .ref x]) rfl (by simp only [zi_add, zi_sub, zi_mul, zi_neg, zi_and1, zi_and7, zi_and15, zi_and31, zi_and255]) (by simp only [zi_add, zi_sub, zi_mul, zi_neg, zi_and1, zi_and7, zi_and15, zi_and31, zi_and255]) ?_
                have k61 := sq51.2.1
                have k61b := sq51.2.2.1
                have hl62 : hq51.2.2.2.1 bv2 = h48.2.2.2.1 bv2 := congrFun sq51.2.2.2.2.1 bv2
                have hl63 : hq51.2.2.2.1 bv2 = h48.2.2.2.1 bv2 := congrFun sq51.2.2.2.2.1 bv2
                refine gz_call rfl (by decide) rfl (by decide) (by decide) (gcal_of rfl rfl rfl (Nat.le_of_ble_eq_true rfl) (gJ.recv (G := gGG) sq51.1 lp47c0 rfl rfl)) (cl_putSymbol1 _ sq51.1 x lp47c0 1 (by omega) ((16 * rn2) + zq51) (by omega) sk s52 lp47c1 bv2 s60 lp47r1 cv2 s58 (by omega) hv2 s59 (by omega) cg s53 (by omega) (by omega) (by omega) lp47u) (fun q64 _ wq64 => ?_)
                obtain ⟨pq64, oq64, hq64⟩ := q64
                obtain ⟨tyq64, xq64, cq64_0, ttq64, fq64_0, fq64_1, ecq64_0, tcq64_0, gq64, efq64_0, afq64_0, bfq64_0, efq64_1, afq64_1, bfq64_1, uq64_0, uq64_1, uq64_2, uq64_3, uq64_4, uq64_5, uq64_6⟩ := wq64
                dsimp only at uq64_3 uq64_4 uq64_5 uq64_6
                refine ⟨_, gq64, ?_⟩
                show gz gPP gGG gcn _ _ 91 [some (.ref x), some (.int (zi p)), some (.int (zi rn2)), some (.int (zi k)), some (.int (zi z34)), some (.int (zi z45)), some (.int (zi zq51))] [] hq64 _
                have G65 : gSg [114] [] [56000, 56001, 56002, 56003, 80999, 114999] ty h tyq64 hq64 := gSg.tr (gSg.ss lp47G sq51 (by decide)) xq64 (by decide) (by decide) (fun x hx => by cases hx)
                have t66 : tyq64 x = 71 := gSg.typ xq64 sq51.1 lp47c0 rfl
                have t67 : tyq64 sk = 56 := gSg.typ xq64 sq51.1 lp47c1 rfl
                have t68 : tyq64 c32 = 73 := gSg.typ xq64 sq51.1 lp47c2 rfl
                have t69 : tyq64 bv2 = 114 := gSg.typ xq64 sq51.1 lp47r1 rfl
                have hl70 : hq64.2.2.2.1 bv2 = hq51.2.2.2.1 bv2 := gSg.len xq64 sq51.1 lp47r1 rfl
                have s71 := gSg.at xq64 sq51.1 lp47c0 rfl (by decide) s52
                have s72 := gSg.at xq64 sq51.1 lp47c0 rfl (by decide) s53
                have s73 := gSg.at xq64 sq51.1 lp47c0 rfl (by decide) s54
                have s74 := gSg.at xq64 sq51.1 lp47c0 rfl (by decide) s55
                have s75 := gSg.at xq64 sq51.1 lp47c0 rfl (by decide) s56
                have s76 := gSg.at xq64 sq51.1 lp47c0 rfl (by decide) s57
                have uq77 := gSg.uq xq64 lp47u (by decide)
                have sS78 : gSs rT 1027 tyq64 [56000, 56001, 56002, 56003, 80999, 114999] hq64 hq64 := gSs.rf xq64.1
                refine gz_s 2 (pc' := 94) (L' := [some (.ref x), some (.int (zi p)), some (.int (zi rn2)), some (.int (zi k)), some (.int (zi z34)), some (.int (zi z45)), some (.int (zi zq51))]) (S' := [.int (zi z34), .ref x]) rfl ?_
                by_cases hc79 : (0 : Int) ≤ z34
                · refine gy_ifT (pc' := 105) rfl (by decide) (by decide) (by omega) hc79 ?_
                  refine gz_s 2 (pc' := 109) (L' := [some (.ref x), some (.int (zi p)), some (.int (zi rn2)), some (.int (zi k)), some (.int (zi z34)), some (.int (zi z45)), some (.int (zi zq51))]) (S' := [.int (zi zq51), .int (zi z45), .ref x]) rfl ?_
                  have hl80 : hq64.2.2.2.1 cq64_0 = hq64.2.2.2.1 cq64_0 := congrFun sS78.2.2.2.2.1 cq64_0
                  refine gz_call rfl (by decide) rfl (by decide) (by decide) (gcal_of rfl rfl rfl (Nat.le_of_ble_eq_true rfl) (gJ.recv (G := gGG) sS78.1 t66 rfl rfl)) (cl_Writer_putPlain _ sS78.1 x t66 z45 (by omega) zq51 (by omega) sk s71 t67 cq64_0 ecq64_0 tcq64_0 fq64_0 efq64_0 (by omega) fq64_1 efq64_1 (by omega) cg s72 (by omega) (by omega) (by omega) uq77) (fun q81 _ wq81 => ?_)
                  obtain ⟨pq81, oq81, hq81⟩ := q81
                  obtain ⟨tyq81, xq81, cq81_0, ttq81, fq81_0, fq81_1, ecq81_0, tcq81_0, gq81, efq81_0, afq81_0, bfq81_0, efq81_1, afq81_1, bfq81_1, uq81_0, uq81_1, uq81_2, uq81_3, uq81_4, uq81_5, uq81_6⟩ := wq81
                  dsimp only at uq81_3 uq81_4 uq81_5 uq81_6
                  refine ⟨_, gq81, ?_⟩
                  show gz gPP gGG gcn _ _ 112 [some (.ref x), some (.int (zi p)), some (.int (zi rn2)), some (.int (zi k)), some (.int (zi z34)), some (.int (zi z45)), some (.int (zi zq51))] [] hq81 _
                  have G82 : gSg [114] [] [56000, 56001, 56002, 56003, 80999, 114999] ty h tyq81 hq81 := gSg.tr (gSg.ss G65 sS78 (by decide)) xq81 (by decide) (by decide) (fun x hx => by cases hx)
                  have t83 : tyq81 x = 71 := gSg.typ xq81 sS78.1 t66 rfl
                  have t84 : tyq81 sk = 56 := gSg.typ xq81 sS78.1 t67 rfl
                  have t85 : tyq81 c32 = 73 := gSg.typ xq81 sS78.1 t68 rfl
                  have t86 : tyq81 bv2 = 114 := gSg.typ xq81 sS78.1 t69 rfl
                  have hl87 : hq81.2.2.2.1 bv2 = hq64.2.2.2.1 bv2 := gSg.len xq81 sS78.1 t69 rfl
                  have t88 : tyq81 cq64_0 = 114 := gSg.typ xq81 sS78.1 tcq64_0 rfl
                  have hl89 : hq81.2.2.2.1 cq64_0 = hq64.2.2.2.1 cq64_0 := gSg.len xq81 sS78.1 tcq64_0 rfl
                  have s90 := gSg.at xq81 sS78.1 t66 rfl (by decide) s71
                  have s91 := gSg.at xq81 sS78.1 t66 rfl (by decide) s72
                  have s92 := gSg.at xq81 sS78.1 t66 rfl (by decide) s73
                  have s93 := gSg.at xq81 sS78.1 t66 rfl (by decide) s74
                  have s94 := gSg.at xq81 sS78.1 t66 rfl (by decide) s75
                  have s95 := gSg.at xq81 sS78.1 t66 rfl (by decide) s76
                  have uq96 := gSg.uq xq81 uq77 (by decide)
                  have sS97 : gSs rT 1027 tyq81 [56000, 56001, 56002, 56003, 80999, 114999] hq81 hq81 := gSs.rf xq81.1
                  refine gy_s 4 (pc' := 11) (L' := [some (.ref x), some (.int (zi p)), some (.int (zi 0)), some (.int ((zi k) + zi 1)), some (.int (zi z34)), some (.int (zi z45)), some (.int (zi zq51))]) (S' := []) (L2 := [some (.ref x), some (.int (zi p)), some (.int (zi 0)), some (.int (zi (k + 1))), some (.int (zi z34)), some (.int (zi z45)), some (.int (zi zq51))]) (S2 := []) rfl (by simp only [zi_add, zi_sub, zi_mul, zi_neg, zi_and1, zi_and7, zi_and15, zi_and31, zi_and255]) (by simp only [zi_add, zi_sub, zi_mul, zi_neg, zi_and1, zi_and7, zi_and15, zi_and31, zi_and255]) ?_
                  have hl98 : 1024 ≤ hq81.2.2.2.1 bv2 ∧ hq81.2.2.2.1 bv2 ≤ 1000000 := gJ.rowl (G := gGG) sS97.1 t86 rfl
                  have hl99 : 1024 ≤ hq81.2.2.2.1 cq64_0 ∧ hq81.2.2.2.1 cq64_0 ≤ 1000000 := gJ.rowl (G := gGG) sS97.1 t88 rfl
                  have hl100 : 1024 ≤ hq81.2.2.2.1 cq81_0 ∧ hq81.2.2.2.1 cq81_0 ≤ 1000000 := gJ.rowl (G := gGG) sS97.1 tcq81_0 rfl
                  have G101 : gSg [114] [] [56000, 56001, 56002, 56003, 80999, 114999] ty h tyq81 hq81 := gSg.ss G82 sS97 (by decide)
                  exact gz_wk (ihlp9 tyq81 hq81 cq81_0 0 (k + 1) fq81_0 fq81_1 (by omega) G101 uq96 t83 t84 ecq81_0 tcq81_0 (by omega) (by omega) (by omega) (by omega) (by omega) (by omega) (by omega) (by omega) (by omega) (by omega) (by omega) (by omega) (by omega) s90 s91 s92 s93 efq81_0 efq81_1) (gLw.s (gLw.s (gLw.s (gLw.s (gLw.n (gLw.n (gLw.n gLw.z)))))))
                · refine gy_ifF rfl (by decide) (by decide) (by omega) hc79 ?_
                  refine gy_s 6 (pc' := 109) (L' := [some (.ref x), some (.int (zi p)), some (.int (zi rn2)), some (.int (zi k)), some (.int (zi z34)), some (.int (zi z45)), some (.int (zi zq51))]) (S' := [.int (zi zq51), .int ((-(zi z45)) - (zi 1)), .ref x]) (L2 := [some (.ref x), some (.int (zi p)), some (.int (zi rn2)), some (.int (zi k)), some (.int (zi z34)), some (.int (zi z45)), some (.int (zi zq51))]) (S2 := [.int (zi zq51), .int (zi ((-z45) - 1)), .ref x]) rfl (by simp only [zi_add, zi_sub, zi_mul, zi_neg, zi_and1, zi_and7, zi_and15, zi_and31, zi_and255]) (by simp only [zi_add, zi_sub, zi_mul, zi_neg, zi_and1, zi_and7, zi_and15, zi_and31, zi_and255]) ?_
                  have hl102 : hq64.2.2.2.1 cq64_0 = hq64.2.2.2.1 cq64_0 := congrFun sS78.2.2.2.2.1 cq64_0
                  refine gz_call rfl (by decide) rfl (by decide) (by decide) (gcal_of rfl rfl rfl (Nat.le_of_ble_eq_true rfl) (gJ.recv (G := gGG) sS78.1 t66 rfl rfl)) (cl_Writer_putPlain _ sS78.1 x t66 ((-z45) - 1) (by omega) zq51 (by omega) sk s71 t67 cq64_0 ecq64_0 tcq64_0 fq64_0 efq64_0 (by omega) fq64_1 efq64_1 (by omega) cg s72 (by omega) (by omega) (by omega) uq77) (fun q103 _ wq103 => ?_)
                  obtain ⟨pq103, oq103, hq103⟩ := q103
                  obtain ⟨tyq103, xq103, cq103_0, ttq103, fq103_0, fq103_1, ecq103_0, tcq103_0, gq103, efq103_0, afq103_0, bfq103_0, efq103_1, afq103_1, bfq103_1, uq103_0, uq103_1, uq103_2, uq103_3, uq103_4, uq103_5, uq103_6⟩ := wq103
                  dsimp only at uq103_3 uq103_4 uq103_5 uq103_6
                  refine ⟨_, gq103, ?_⟩
                  show gz gPP gGG gcn _ _ 112 [some (.ref x), some (.int (zi p)), some (.int (zi rn2)), some (.int (zi k)), some (.int (zi z34)), some (.int (zi z45)), some (.int (zi zq51))] [] hq103 _
                  have G104 : gSg [114] [] [56000, 56001, 56002, 56003, 80999, 114999] ty h tyq103 hq103 := gSg.tr (gSg.ss G65 sS78 (by decide)) xq103 (by decide) (by decide) (fun x hx => by cases hx)
                  have t105 : tyq103 x = 71 := gSg.typ xq103 sS78.1 t66 rfl
                  have t106 : tyq103 sk = 56 := gSg.typ xq103 sS78.1 t67 rfl
                  have t107 : tyq103 c32 = 73 := gSg.typ xq103 sS78.1 t68 rfl
                  have t108 : tyq103 bv2 = 114 := gSg.typ xq103 sS78.1 t69 rfl
                  have hl109 : hq103.2.2.2.1 bv2 = hq64.2.2.2.1 bv2 := gSg.len xq103 sS78.1 t69 rfl
                  have t110 : tyq103 cq64_0 = 114 := gSg.typ xq103 sS78.1 tcq64_0 rfl
                  have hl111 : hq103.2.2.2.1 cq64_0 = hq64.2.2.2.1 cq64_0 := gSg.len xq103 sS78.1 tcq64_0 rfl
                  have s112 := gSg.at xq103 sS78.1 t66 rfl (by decide) s71
                  have s113 := gSg.at xq103 sS78.1 t66 rfl (by decide) s72
                  have s114 := gSg.at xq103 sS78.1 t66 rfl (by decide) s73
                  have s115 := gSg.at xq103 sS78.1 t66 rfl (by decide) s74
                  have s116 := gSg.at xq103 sS78.1 t66 rfl (by decide) s75
                  have s117 := gSg.at xq103 sS78.1 t66 rfl (by decide) s76
                  have uq118 := gSg.uq xq103 uq77 (by decide)
                  have sS119 : gSs rT 1027 tyq103 [56000, 56001, 56002, 56003, 80999, 114999] hq103 hq103 := gSs.rf xq103.1
                  refine gy_s 4 (pc' := 11) (L' := [some (.ref x), some (.int (zi p)), some (.int (zi 0)), some (.int ((zi k) + zi 1)), some (.int (zi z34)), some (.int (zi z45)), some (.int (zi zq51))]) (S' := []) (L2 := [some (.ref x), some (.int (zi p)), some (.int (zi 0)), some (.int (zi (k + 1))), some (.int (zi z34)), some (.int (zi z45)), some (.int (zi zq51))]) (S2 := []) rfl (by simp only [zi_add, zi_sub, zi_mul, zi_neg, zi_and1, zi_and7, zi_and15, zi_and31, zi_and255]) (by simp only [zi_add, zi_sub, zi_mul, zi_neg, zi_and1, zi_and7, zi_and15, zi_and31, zi_and255]) ?_
                  have hl120 : 1024 ≤ hq103.2.2.2.1 bv2 ∧ hq103.2.2.2.1 bv2 ≤ 1000000 := gJ.rowl (G := gGG) sS119.1 t108 rfl
                  have hl121 : 1024 ≤ hq103.2.2.2.1 cq64_0 ∧ hq103.2.2.2.1 cq64_0 ≤ 1000000 := gJ.rowl (G := gGG) sS119.1 t110 rfl
                  have hl122 : 1024 ≤ hq103.2.2.2.1 cq103_0 ∧ hq103.2.2.2.1 cq103_0 ≤ 1000000 := gJ.rowl (G := gGG) sS119.1 tcq103_0 rfl
                  have G123 : gSg [114] [] [56000, 56001, 56002, 56003, 80999, 114999] ty h tyq103 hq103 := gSg.ss G104 sS119 (by decide)
                  exact gz_wk (ihlp9 tyq103 hq103 cq103_0 0 (k + 1) fq103_0 fq103_1 (by omega) G123 uq118 t105 t106 ecq103_0 tcq103_0 (by omega) (by omega) (by omega) (by omega) (by omega) (by omega) (by omega) (by omega) (by omega) (by omega) (by omega) (by omega) (by omega) s112 s113 s114 s115 efq103_0 efq103_1) (gLw.s (gLw.s (gLw.s (gLw.s (gLw.n (gLw.n (gLw.n gLw.z)))))))
              · refine gy_icF rfl (by decide) (by decide) (by omega) (by omega) hc50 ?_
                refine gz_s 3 (pc' := 63) (L' := [some (.ref x), some (.int (zi p)), some (.int (zi rn2)), some (.int (zi k)), some (.int (zi z34)), some (.int (zi z45)), none]) (S' := [.int (zi 240), .int (zi 1), .ref x]) rfl ?_
                have hl124 : h48.2.2.2.1 bv2 = h48.2.2.2.1 bv2 := congrFun sh48.2.2.2.2.1 bv2
                refine gz_call rfl (by decide) rfl (by decide) (by decide) (gcal_of rfl rfl rfl (Nat.le_of_ble_eq_true rfl) (gJ.recv (G := gGG) sh48.1 lp47c0 rfl rfl)) (cl_putSymbol1 _ sh48.1 x lp47c0 1 (by omega) 240 (by omega) sk lp47k0 lp47c1 bv2 lp47r0 lp47r1 cv2 lp47k6 (by omega) hv2 lp47k7 (by omega) cg lp47k1 (by omega) (by omega) (by omega) lp47u) (fun q125 _ wq125 => ?_)
                obtain ⟨pq125, oq125, hq125⟩ := q125
                obtain ⟨tyq125, xq125, cq125_0, ttq125, fq125_0, fq125_1, ecq125_0, tcq125_0, gq125, efq125_0, afq125_0, bfq125_0, efq125_1, afq125_1, bfq125_1, uq125_0, uq125_1, uq125_2, uq125_3, uq125_4, uq125_5, uq125_6⟩ := wq125
                dsimp only at uq125_3 uq125_4 uq125_5 uq125_6
                refine ⟨_, gq125, ?_⟩
                show gz gPP gGG gcn _ _ 66 [some (.ref x), some (.int (zi p)), some (.int (zi rn2)), some (.int (zi k)), some (.int (zi z34)), some (.int (zi z45)), none] [] hq125 _
                have G126 : gSg [114] [] [56000, 56001, 56002, 56003, 80999, 114999] ty h tyq125 hq125 := gSg.tr (gSg.ss lp47G sh48 (by decide)) xq125 (by decide) (by decide) (fun x hx => by cases hx)
                have t127 : tyq125 x = 71 := gSg.typ xq125 sh48.1 lp47c0 rfl
                have t128 : tyq125 sk = 56 := gSg.typ xq125 sh48.1 lp47c1 rfl
                have t129 : tyq125 c32 = 73 := gSg.typ xq125 sh48.1 lp47c2 rfl
                have t130 : tyq125 bv2 = 114 := gSg.typ xq125 sh48.1 lp47r1 rfl
                have hl131 : hq125.2.2.2.1 bv2 = h48.2.2.2.1 bv2 := gSg.len xq125 sh48.1 lp47r1 rfl
                have s132 := gSg.at xq125 sh48.1 lp47c0 rfl (by decide) lp47k0
                have s133 := gSg.at xq125 sh48.1 lp47c0 rfl (by decide) lp47k1
                have s134 := gSg.at xq125 sh48.1 lp47c0 rfl (by decide) lp47k2
                have s135 := gSg.at xq125 sh48.1 lp47c0 rfl (by decide) lp47k3
                have s136 := gSg.at xq125 sh48.1 lp47c0 rfl (by decide) lp47k4
                have s137 := gSg.at xq125 sh48.1 lp47c0 rfl (by decide) lp47k5
                have uq138 := gSg.uq xq125 lp47u (by decide)
                have sS139 : gSs rT 1027 tyq125 [56000, 56001, 56002, 56003, 80999, 114999] hq125 hq125 := gSs.rf xq125.1
                refine gy_s 2 (pc' := 52) (L' := [some (.ref x), some (.int (zi p)), some (.int ((zi rn2) + zi (-16))), some (.int (zi k)), some (.int (zi z34)), some (.int (zi z45)), none]) (S' := []) (L2 := [some (.ref x), some (.int (zi p)), some (.int (zi (rn2 + (-16)))), some (.int (zi k)), some (.int (zi z34)), some (.int (zi z45)), none]) (S2 := []) rfl (by simp only [zi_add, zi_sub, zi_mul, zi_neg, zi_and1, zi_and7, zi_and15, zi_and31, zi_and255]) (by simp only [zi_add, zi_sub, zi_mul, zi_neg, zi_and1, zi_and7, zi_and15, zi_and31, zi_and255]) ?_
                have hl140 : 1024 ≤ hq125.2.2.2.1 bv2 ∧ hq125.2.2.2.1 bv2 ≤ 1000000 := gJ.rowl (G := gGG) sS139.1 t130 rfl
                have hl141 : 1024 ≤ hq125.2.2.2.1 cq125_0 ∧ hq125.2.2.2.1 cq125_0 ≤ 1000000 := gJ.rowl (G := gGG) sS139.1 tcq125_0 rfl
                have G142 : gSg [114] [] [56000, 56001, 56002, 56003, 80999, 114999] ty h tyq125 hq125 := gSg.ss G126 sS139 (by decide)
                exact gz_wk (ihlp47 tyq125 hq125 cq125_0 (rn2 + (-16)) fq125_0 fq125_1 (by omega) G142 uq138 t127 t128 t129 ecq125_0 tcq125_0 (by omega) (by omega) (by omega) (by omega) (by omega) (by omega) (by omega) (by omega) (by omega) (by omega) (by omega) s132 s133 s134 s135 s136 s137 efq125_0 efq125_1) (gLw.s (gLw.s (gLw.s (gLw.s (gLw.s (gLw.s (gLw.n gLw.z)))))))
          have k143 := sq35.2.1
          have k143b := sq35.2.2.1
          have hl144 : hq35.2.2.2.1 bv = h10.2.2.2.1 bv := congrFun sq35.2.2.2.2.1 bv
          have hl145 : 1024 ≤ hq35.2.2.2.1 bv ∧ hq35.2.2.2.1 bv ≤ 1000000 := gJ.rowl (G := gGG) sq35.1 lp9r1 rfl
          have G146 : gSg [114] [] [56000, 56001, 56002, 56003, 80999, 114999] ty h ty11 hq35 := gSg.ss lp9G sq35 (by decide)
          exact gz_wk (lp47 _ ty11 hq35 bv rn cv hv (Nat.lt_succ_self _) G146 lp9u lp9c0 lp9c1 tc32 s42 lp9r1 (by omega) (by omega) (by omega) (by omega) (by omega) (by omega) (by omega) (by omega) (by omega) (by omega) (by omega) s36 s37 s38 s39 s43 ez44 s40 s41) (gLw.s (gLw.s (gLw.s (gLw.s (gLw.s (gLw.s (gLw.n gLw.z)))))))
        · refine gy_ifF rfl (by decide) (by decide) (by omega) hc46 ?_
          refine gy_s 4 (pc' := 11) (L' := [some (.ref x), some (.int (zi p)), some (.int ((zi rn) + zi 1)), some (.int ((zi k) + zi 1)), some (.int (zi z34)), some (.int (zi z45)), none]) (S' := []) (L2 := [some (.ref x), some (.int (zi p)), some (.int (zi (rn + 1))), some (.int (zi (k + 1))), some (.int (zi z34)), some (.int (zi z45)), none]) (S2 := []) rfl (by simp only [zi_add, zi_sub, zi_mul, zi_neg, zi_and1, zi_and7, zi_and15, zi_and31, zi_and255]) (by simp only [zi_add, zi_sub, zi_mul, zi_neg, zi_and1, zi_and7, zi_and15, zi_and31, zi_and255]) ?_
          have k147 := sq35.2.1
          have k147b := sq35.2.2.1
          have hl148 : hq35.2.2.2.1 bv = h10.2.2.2.1 bv := congrFun sq35.2.2.2.2.1 bv
          have hl149 : 1024 ≤ hq35.2.2.2.1 bv ∧ hq35.2.2.2.1 bv ≤ 1000000 := gJ.rowl (G := gGG) sq35.1 lp9r1 rfl
          have G150 : gSg [114] [] [56000, 56001, 56002, 56003, 80999, 114999] ty h ty11 hq35 := gSg.ss lp9G sq35 (by decide)
          exact gz_wk (ihlp9 ty11 hq35 bv (rn + 1) (k + 1) cv hv (by omega) G150 lp9u lp9c0 lp9c1 s42 lp9r1 (by omega) (by omega) (by omega) (by omega) (by omega) (by omega) (by omega) (by omega) (by omega) (by omega) (by omega) (by omega) (by omega) s36 s37 s38 s39 s40 s41) (gLw.s (gLw.s (gLw.s (gLw.s (gLw.n (gLw.n (gLw.n gLw.z)))))))
  have k151 := sq1.2.1
  have k151b := sq1.2.2.1
  have hl152 : hq1.2.2.2.1 bt = h.2.2.2.1 bt := congrFun sq1.2.2.2.2.1 bt
  have hl153 : 1024 ≤ hq1.2.2.2.1 bt ∧ hq1.2.2.2.1 bt ≤ 1000000 := gJ.rowl (G := gGG) sq1.1 tbt rfl
  have G154 : gSg [114] [] [56000, 56001, 56002, 56003, 80999, 114999] ty h ty hq1 := gSg.ss G0 sq1 (by decide)
  exact gz_wk (lp9 _ ty hq1 bt 0 zq1 c0 h0 (Nat.lt_succ_self _) G154 uq tx tsk s3 tbt (by omega) (by omega) (by omega) (by omega) (by omega) (by omega) (by omega) (by omega) (by omega) (by omega) (by omega) (by omega) (by omega) s2 s6 s7 s8 s4 s5) (gLw.s (gLw.s (gLw.s (gLw.s (gLw.n (gLw.n (gLw.n gLw.z)))))))
set_option maxRecDepth 20000 in
set_option maxHeartbeats 4000000 in
theorem cl_Writer_lastNew (d : Nat) {ty : Nat → Nat} {h : gH} (hJ : gJ rT 1027 ty h) (x : Nat) (tx : ty x = 71) (p : Int) (rp : 0 ≤ p ∧ p ≤ 960) (fr : Int) (efr : h.2.2.2.2 x 7 = .int (zi fr)) (rfr : 0 ≤ fr ∧ fr ≤ 63) (tt : Int) (ett : h.2.2.2.2 x 8 = .int (zi tt)) (rtt : 0 ≤ tt ∧ tt ≤ 63) (lw : Int) (elw : h.2.2.2.2 x 10 = .int (zi lw)) (rlw : 0 ≤ lw ∧ lw ≤ 3) (pp0 : fr ≤ tt) (uq : gUq ty) : gz gPP gGG gcn (d + 1) gt118 0 (gent [.ref x, .int (zi p)] 4) [] h (fun q _ => gSs rT 1027 ty [] h q.2.2 ∧ ∃ z : Int, gfin gt118 q.1 q.2.1 = some (some (.int (zi z))) ∧ (-1) ≤ z ∧ z ≤ 63 ∧ (gLc ty p fr (tt + 1) z lw q.2.2)) := by
  have hS : gSs rT 1027 ty [] h h := gSs.rf hJ
  refine gz_s 3 (pc' := 3) (L' := [some (.ref x), some (.int (zi p)), some (.int (zi (-1))), none]) (S' := [.ref x]) rfl ?_
  refine gs_gtk rfl (by decide) rfl hS.1 tx rfl rfl efr ?_
  refine gz_s 1 (pc' := 7) (L' := [some (.ref x), some (.int (zi p)), some (.int (zi (-1))), some (.int (zi fr))]) (S' := []) rfl ?_
  have lp1 : ∀ (fu : Nat) (h2 : gH) (ls : Int) (k : Int), (65 - k).toNat < fu → gSs rT 1027 ty [] h h2 → ((-1) ≤ ls ∧ ls ≤ 63) → (0 ≤ k ∧ k ≤ 64) → (fr ≤ k) → (k ≤ tt + 1) → (ls < k) → h2.2.2.2.2 x 7 = .int (zi fr) → h2.2.2.2.2 x 8 = .int (zi tt) → h2.2.2.2.2 x 10 = .int (zi lw) → gLc ty p fr k ls lw h2 → gz gPP gGG gcn (d + 1) gt118 7 [some (.ref x), some (.int (zi p)), some (.int (zi ls)), some (.int (zi k))] [] h2 (fun q _ => gSs rT 1027 ty [] h q.2.2 ∧ ∃ z : Int, gfin gt118 q.1 q.2.1 = some (some (.int (zi z))) ∧ (-1) ≤ z ∧ z ≤ 63 ∧ (gLc ty p fr (tt + 1) z lw q.2.2)) := by
    intro fu
    induction fu with
    | zero => intro h2 ls k hm; exact absurd hm (Nat.not_lt_zero _)
    | succ fu ihlp1 =>
      intro h2 ls k lp1m sh2 lp1f0 lp1f1 lp1f2 lp1f3 lp1f4 lp1k0 lp1k1 lp1k2 lp1k3
      refine gz_s 2 (pc' := 9) (L' := [some (.ref x), some (.int (zi p)), some (.int (zi ls)), some (.int (zi k))]) (S' := [.ref x, .int (zi k)]) rfl ?_
      refine gs_gtk rfl (by decide) rfl sh2.1 tx rfl rfl lp1k1 ?_
      by_cases hc3 : (tt : Int) < k
      · refine gy_icT (pc' := 43) rfl (by decide) (by decide) (by omega) (by omega) hc3 ?_
        refine gz_s 1 (pc' := 44) (L' := [some (.ref x), some (.int (zi p)), some (.int (zi ls)), some (.int (zi k))]) (S' := [.int (zi ls)]) rfl ?_
        have hlc4 : gLc ty p fr (tt + 1) ls lw h2 := by
          have e9 := lp1k3
          rw [(by omega : k = tt + 1)] at e9
          exact e9
        exact gz_end (I := .ireturn) (len := 1) rfl (Or.inl rfl) ⟨sh2, ls, rfl, (by omega), (by omega), hlc4⟩
      · refine gy_icF rfl (by decide) (by decide) (by omega) (by omega) hc3 ?_
        refine gz_s 1 (pc' := 16) (L' := [some (.ref x), some (.int (zi p)), some (.int (zi ls)), some (.int (zi k))]) (S' := [.ref x]) rfl ?_
        refine gs_gtr rfl (by decide) rfl sh2.1 tx rfl rfl rfl (fun c5 ec5 tc5 => ?_)
        refine gy_s 3 (pc' := 22) (L' := [some (.ref x), some (.int (zi p)), some (.int (zi ls)), some (.int (zi k))]) (S' := [.int ((zi p) + (zi k)), .ref c5]) (L2 := [some (.ref x), some (.int (zi p)), some (.int (zi ls)), some (.int (zi k))]) (S2 := [.int (zi (p + k)), .ref c5]) rfl (by simp only [zi_add, zi_sub, zi_mul, zi_neg, zi_and1, zi_and7, zi_and15, zi_and31, zi_and255]) (by simp only [zi_add, zi_sub, zi_mul, zi_neg, zi_and1, zi_and7, zi_and15, zi_and31, zi_and255]) ?_
        have hl6 : 1024 ≤ h2.2.2.2.1 c5 ∧ h2.2.2.2.1 c5 ≤ 1024 := gJ.rowl (G := gGG) sh2.1 tc5 rfl
        refine gs_ald rfl (by decide) sh2.1 tc5 rfl rfl rfl (by decide) (fun _ => rfl) (by omega) (by omega) (fun z7 ez7 az7 bz7 => ?_)
        have hlq8 : gLq ty p fr k ls lw z7 h2 := ⟨lp1k3, ⟨by omega, by omega⟩, fun c hc => by
          have e9 : c = c5 := uq c c5 (hc.trans tc5.symm) (by rw [hc]; decide) (by rw [hc]; decide)
          rw [e9]
          exact ez7⟩
        refine gz_call rfl (by decide) rfl (by decide) (by decide) (gcal_of rfl rfl rfl (Nat.le_of_ble_eq_true rfl) rfl) (cl_Math_abs _ sh2.1 z7 (by omega) ) (fun q9 _ wq9 => ?_)
        obtain ⟨pq9, oq9, hq9⟩ := q9
        obtain ⟨xq9, zq9, gq9, aq9, bq9, uq9_0, uq9_1⟩ := wq9
        refine ⟨_, gq9, ?_⟩
        show gz gPP gGG gcn _ _ 26 [some (.ref x), some (.int (zi p)), some (.int (zi ls)), some (.int (zi k))] [.int (zi zq9)] hq9 _
        have sq9 : gSs rT 1027 ty [] h hq9 := gSs.tr sh2 xq9 (by decide)
        have s10 := (xq9.2.2.2.2.2 x 7 (by rw [tx]; decide)).trans lp1k0
        have s11 := (xq9.2.2.2.2.2 x 8 (by rw [tx]; decide)).trans lp1k1
        have s12 := (xq9.2.2.2.2.2 x 10 (by rw [tx]; decide)).trans lp1k2
        have s13 := (xq9.2.2.2.2.2 x 2 (by rw [tx]; decide)).trans ec5
        have pr14 := gLq.fr xq9.2 (by decide) hlq8
        refine gz_s 1 (pc' := 27) (L' := [some (.ref x), some (.int (zi p)), some (.int (zi ls)), some (.int (zi k))]) (S' := [.ref x, .int (zi zq9)]) rfl ?_
        refine gs_gtk rfl (by decide) rfl sq9.1 tx rfl rfl s12 ?_
        refine gy_shr rfl (by decide) (by omega) (by omega) ?_
        have hx15 := zsh_b (a := zq9) (n := lw) (by omega)
        refine gz_s 1 (pc' := 32) (L' := [some (.ref x), some (.int (zi p)), some (.int (zi ls)), some (.int (zi k))]) (S' := [.int (zi 1), .int (zi (zq9 / 2 ^ (lw).toNat))]) rfl ?_
        by_cases hc16 : ¬ (zq9 / 2 ^ (lw).toNat : Int) = 1
        · refine gy_icT (pc' := 37) rfl (by decide) (by decide) (by omega) (by omega) hc16 ?_
          have hA : (if z7 < 0 then -z7 else z7) = zq9 := by split <;> omega
          have hlc17 : gLc ty p fr (k + 1) ls lw hq9 := gLq.step pr14 (by omega) (by rw [hA]; omega) ⟨_, tc5⟩
          refine gy_s 2 (pc' := 7) (L' := [some (.ref x), some (.int (zi p)), some (.int (zi ls)), some (.int ((zi k) + zi 1))]) (S' := []) (L2 := [some (.ref x), some (.int (zi p)), some (.int (zi ls)), some (.int (zi (k + 1)))]) (S2 := []) rfl (by simp only [zi_add, zi_sub, zi_mul, zi_neg, zi_and1, zi_and7, zi_and15, zi_and31, zi_and255]) (by simp only [zi_add, zi_sub, zi_mul, zi_neg, zi_and1, zi_and7, zi_and15, zi_and31, zi_and255]) ?_
          exact gz_wk (ihlp1 hq9 ls (k + 1) (by omega) sq9 (by omega) (by omega) (by omega) (by omega) (by omega) s10 s11 s12 hlc17) (gLw.s (gLw.s (gLw.s (gLw.s gLw.z))))
        · refine gy_icF rfl (by decide) (by decide) (by omega) (by omega) hc16 ?_
          refine gz_s 2 (pc' := 37) (L' := [some (.ref x), some (.int (zi p)), some (.int (zi k)), some (.int (zi k))]) (S' := []) rfl ?_
          have hA : (if z7 < 0 then -z7 else z7) = zq9 := by split <;> omega
          have hlc18 : gLc ty p fr (k + 1) k lw hq9 := gLq.step pr14 (by omega) (by rw [hA]; omega) ⟨_, tc5⟩
          refine gy_s 2 (pc' := 7) (L' := [some (.ref x), some (.int (zi p)), some (.int (zi k)), some (.int ((zi k) + zi 1))]) (S' := []) (L2 := [some (.ref x), some (.int (zi p)), some (.int (zi k)), some (.int (zi (k + 1)))]) (S2 := []) rfl (by simp only [zi_add, zi_sub, zi_mul, zi_neg, zi_and1, zi_and7, zi_and15, zi_and31, zi_and255]) (by simp only [zi_add, zi_sub, zi_mul, zi_neg, zi_and1, zi_and7, zi_and15, zi_and31, zi_and255]) ?_
          exact gz_wk (ihlp1 hq9 k (k + 1) (by omega) sq9 (by omega) (by omega) (by omega) (by omega) (by omega) s10 s11 s12 hlc18) (gLw.s (gLw.s (gLw.s (gLw.s gLw.z))))
  exact gz_wk (lp1 _ h (-1) fr (Nat.lt_succ_self _) hS (by omega) (by omega) (by omega) (by omega) (by omega) efr ett elw (fun j h1 h2 => absurd h2 (by omega))) (gLw.s (gLw.s (gLw.s (gLw.s gLw.z))))
set_option maxRecDepth 20000 in
set_option maxHeartbeats 4000000 in
theorem cl_Writer_putWaiting (d : Nat) {ty : Nat → Nat} {h : gH} (hJ : gJ rT 1027 ty h) (x : Nat) (tx : ty x = 71) (sk : Nat) (esk : h.2.2.2.2 x 0 = .ref sk) (tsk : ty sk = 56) (bt : Nat) (ebt : h.2.2.2.2 sk 0 = .ref bt) (tbt : ty bt = 114) (c0 : Int) (ec0 : h.2.2.2.2 sk 1 = .int (zi c0)) (rc0 : 0 ≤ c0 ∧ c0 ≤ 499999) (h0 : Int) (eh0 : h.2.2.2.2 sk 3 = .int (zi h0)) (rh0 : 0 ≤ h0 ∧ h0 ≤ 7) (cg : Int) (ecg : h.2.2.2.2 x 11 = .int (zi cg)) (rcg : 0 ≤ cg ∧ cg ≤ 1) (wc : Int) (ewc : h.2.2.2.2 x 14 = .int (zi wc)) (rwc : 0 ≤ wc ∧ wc ≤ 64) (pp0 : 4 * c0 + h0 + wc ≤ 1999990) (pp1 : c0 ≤ (h.2.2.2.1 bt : Int)) (uq : gUq ty) : gz gPP gGG gcn (d + 4) gt119 0 (gent [.ref x] 2) [] h (fun q _ => ∃ ty9 : Nat → Nat, gSg [114] [] [56000, 56001, 56002, 56003, 71014, 114999] ty h ty9 q.2.2 ∧ ∃ bt2 : Nat, True ∧ ∃ c1 h1 w1 : Int, q.2.2.2.2.2.2 sk 0 = .ref bt2 ∧ ty9 bt2 = 114 ∧ gfin gt119 q.1 q.2.1 = some none ∧ q.2.2.2.2.2.2 sk 1 = .int (zi c1) ∧ 0 ≤ c1 ∧ c1 ≤ 500000 ∧ q.2.2.2.2.2.2 sk 3 = .int (zi h1) ∧ 0 ≤ h1 ∧ h1 ≤ 7 ∧ q.2.2.2.2.2.2 x 14 = .int (zi w1) ∧ 0 ≤ w1 ∧ w1 ≤ 64 ∧ (4 * c1 + h1 ≤ 4 * c0 + h0 + wc) ∧ (c0 ≤ c1) ∧ (cg = 1 → (c1 = c0 ∧ h1 = h0)) ∧ (1024 * ((q.2.2.1 : Int) - h.1) ≤ (q.2.2.2.2.2.1 bt2 : Int) - h.2.2.2.1 bt) ∧ (((q.2.2.2.1 : Int) - h.2.1) ≤ 2 * ((q.2.2.2.2.2.1 bt2 : Int) - h.2.2.2.1 bt)) ∧ ((h.2.2.2.1 bt : Int) ≤ (q.2.2.2.2.2.1 bt2 : Int)) ∧ (w1 = 0) ∧ (c1 ≤ (q.2.2.2.2.2.1 bt2 : Int))) := by
  have hS : gSs rT 1027 ty [56000, 56001, 56002, 56003, 71014, 114999] h h := gSs.rf hJ
  have G0 : gSg [114] [] [56000, 56001, 56002, 56003, 71014, 114999] ty h ty h := gSg.rf hJ (fun x hx => by cases hx)
  refine gz_s 1 (pc' := 1) (L' := [some (.ref x), none]) (S' := [.ref x]) rfl ?_
  refine gs_gtk rfl (by decide) rfl hS.1 tx rfl rfl ewc ?_
  refine gy_s 3 (pc' := 7) (L' := [some (.ref x), some (.int ((zi wc) - (zi 1)))]) (S' := []) (L2 := [some (.ref x), some (.int (zi (wc - 1)))]) (S2 := []) rfl (by simp only [zi_add, zi_sub, zi_mul, zi_neg, zi_and1, zi_and7, zi_and15, zi_and31, zi_and255]) (by simp only [zi_add, zi_sub, zi_mul, zi_neg, zi_and1, zi_and7, zi_and15, zi_and31, zi_and255]) ?_
  have lp1 : ∀ (fu : Nat) (ty3 : Nat → Nat) (h2 : gH) (bv : Nat) (i : Int) (cv : Int) (hv : Int), (i + 1).toNat < fu → gSg [114] [] [56000, 56001, 56002, 56003, 71014, 114999] ty h ty3 h2 → gUq ty3 → ty3 x = 71 → ty3 sk = 56 → h2.2.2.2.2 sk 0 = .ref bv → ty3 bv = 114 → ((-1) ≤ i ∧ i ≤ 63) → (0 ≤ cv ∧ cv ≤ 499999) → (0 ≤ hv ∧ hv ≤ 7) → (4 * cv + hv ≤ 4 * c0 + h0 + (wc - 1 - i)) → (c0 ≤ cv) → (cg = 1 → (cv = c0 ∧ hv = h0)) → (i ≤ wc - 1) → (1024 * ((h2.1 : Int) - h.1) ≤ (h2.2.2.2.1 bv : Int) - h.2.2.2.1 bt) → (((h2.2.1 : Int) - h.2.1) ≤ 2 * ((h2.2.2.2.1 bv : Int) - h.2.2.2.1 bt)) → ((h.2.2.2.1 bt : Int) ≤ (h2.2.2.2.1 bv : Int)) → (cv ≤ (h2.2.2.2.1 bv : Int)) → h2.2.2.2.2 x 0 = .ref sk → h2.2.2.2.2 x 11 = .int (zi cg) → h2.2.2.2.2 x 14 = .int (zi wc) → h2.2.2.2.2 sk 1 = .int (zi cv) → h2.2.2.2.2 sk 3 = .int (zi hv) → gz gPP gGG gcn (d + 4) gt119 7 [some (.ref x), some (.int (zi i))] [] h2 (fun q _ => ∃ ty9 : Nat → Nat, gSg [114] [] [56000, 56001, 56002, 56003, 71014, 114999] ty h ty9 q.2.2 ∧ ∃ bt2 : Nat, True ∧ ∃ c1 h1 w1 : Int, q.2.2.2.2.2.2 sk 0 = .ref bt2 ∧ ty9 bt2 = 114 ∧ gfin gt119 q.1 q.2.1 = some none ∧ q.2.2.2.2.2.2 sk 1 = .int (zi c1) ∧ 0 ≤ c1 ∧ c1 ≤ 500000 ∧ q.2.2.2.2.2.2 sk 3 = .int (zi h1) ∧ 0 ≤ h1 ∧ h1 ≤ 7 ∧ q.2.2.2.2.2.2 x 14 = .int (zi w1) ∧ 0 ≤ w1 ∧ w1 ≤ 64 ∧ (4 * c1 + h1 ≤ 4 * c0 + h0 + wc) ∧ (c0 ≤ c1) ∧ (cg = 1 → (c1 = c0 ∧ h1 = h0)) ∧ (1024 * ((q.2.2.1 : Int) - h.1) ≤ (q.2.2.2.2.2.1 bt2 : Int) - h.2.2.2.1 bt) ∧ (((q.2.2.2.1 : Int) - h.2.1) ≤ 2 * ((q.2.2.2.2.2.1 bt2 : Int) - h.2.2.2.1 bt)) ∧ ((h.2.2.2.1 bt : Int) ≤ (q.2.2.2.2.2.1 bt2 : Int)) ∧ (w1 = 0) ∧ (c1 ≤ (q.2.2.2.2.2.1 bt2 : Int))) := by
    intro fu
    induction fu with
    | zero => intro ty3 h2 bv i cv hv hm; exact absurd hm (Nat.not_lt_zero _)
    | succ fu ihlp1 =>
      intro ty3 h2 bv i cv hv lp1m lp1G lp1u lp1c0 lp1c1 lp1r0 lp1r1 lp1f0 lp1f1 lp1f2 lp1f3 lp1f4 lp1f5 lp1f6 lp1f7 lp1f8 lp1f9 lp1f10 lp1k0 lp1k1 lp1k2 lp1k3 lp1k4
      have sh2 : gSs rT 1027 ty3 [56000, 56001, 56002, 56003, 71014, 114999] h2 h2 := gSs.rf lp1G.1
      refine gz_s 1 (pc' := 8) (L' := [some (.ref x), some (.int (zi i))]) (S' := [.int (zi i)]) rfl ?_
      by_cases hc4 : (i : Int) < 0
      · refine gy_ifT (pc' := 41) rfl (by decide) (by decide) (by omega) hc4 ?_
        refine gz_s 2 (pc' := 43) (L' := [some (.ref x), some (.int (zi i))]) (S' := [.int (zi 0), .ref x]) rfl ?_
        refine gs_put rfl (by decide) rfl sh2 lp1c0 rfl rfl rfl rfl (Or.inl rfl) (by decide) (by omega) (by omega) (fun h5 sh5 eh5 fh5 => ?_)
        have s6 := (fh5 x 0 (fun q => absurd q.2 (by decide))).trans lp1k0
        have s7 := (fh5 x 11 (fun q => absurd q.2 (by decide))).trans lp1k1
        have s8 := (fh5 sk 1 (fun q => absurd q.2 (by decide))).trans lp1k3
        have s9 := (fh5 sk 3 (fun q => absurd q.2 (by decide))).trans lp1k4
        have s10 := (fh5 sk 0 (fun q => absurd q.2 (by decide))).trans lp1r0
        have k11 := sh5.2.1
        have k11b := sh5.2.2.1
        have hl12 : h5.2.2.2.1 bv = h2.2.2.2.1 bv := congrFun sh5.2.2.2.2.1 bv
        have hl13 : 1024 ≤ h5.2.2.2.1 bv ∧ h5.2.2.2.1 bv ≤ 1000000 := gJ.rowl (G := gGG) sh5.1 lp1r1 rfl
        have G14 : gSg [114] [] [56000, 56001, 56002, 56003, 71014, 114999] ty h ty3 h5 := gSg.ss lp1G sh5 (by decide)
        exact gz_end (I := .return_) (len := 1) rfl (Or.inl rfl) ⟨ty3, G14, bv, trivial, cv, hv, 0, s10, lp1r1, rfl, s8, (by omega), (by omega), s9, (by omega), (by omega), eh5, (by omega), (by omega), (by omega), (by omega), (by omega), (by dsimp only; omega), (by dsimp only; omega), (by dsimp only; omega), (by omega), (by dsimp only; omega)⟩
      · refine gy_ifF rfl (by decide) (by decide) (by omega) hc4 ?_
        refine gz_s 1 (pc' := 12) (L' := [some (.ref x), some (.int (zi i))]) (S' := [.ref x]) rfl ?_
        refine gs_gtk rfl (by decide) rfl sh2.1 lp1c0 rfl rfl lp1k1 ?_
        by_cases hc15 : ¬ (cg : Int) = 0
        · refine gy_ifT (pc' := 41) rfl (by decide) (by decide) (by omega) hc15 ?_
          refine gz_s 2 (pc' := 43) (L' := [some (.ref x), some (.int (zi i))]) (S' := [.int (zi 0), .ref x]) rfl ?_
          refine gs_put rfl (by decide) rfl sh2 lp1c0 rfl rfl rfl rfl (Or.inl rfl) (by decide) (by omega) (by omega) (fun h16 sh16 eh16 fh16 => ?_)
          have s17 := (fh16 x 0 (fun q => absurd q.2 (by decide))).trans lp1k0
          have s18 := (fh16 x 11 (fun q => absurd q.2 (by decide))).trans lp1k1
          have s19 := (fh16 sk 1 (fun q => absurd q.2 (by decide))).trans lp1k3
          have s20 := (fh16 sk 3 (fun q => absurd q.2 (by decide))).trans lp1k4
          have s21 := (fh16 sk 0 (fun q => absurd q.2 (by decide))).trans lp1r0
          have k22 := sh16.2.1
          have k22b := sh16.2.2.1
          have hl23 : h16.2.2.2.1 bv = h2.2.2.2.1 bv := congrFun sh16.2.2.2.2.1 bv
          have hl24 : 1024 ≤ h16.2.2.2.1 bv ∧ h16.2.2.2.1 bv ≤ 1000000 := gJ.rowl (G := gGG) sh16.1 lp1r1 rfl
          have G25 : gSg [114] [] [56000, 56001, 56002, 56003, 71014, 114999] ty h ty3 h16 := gSg.ss lp1G sh16 (by decide)
          exact gz_end (I := .return_) (len := 1) rfl (Or.inl rfl) ⟨ty3, G25, bv, trivial, cv, hv, 0, s21, lp1r1, rfl, s19, (by omega), (by omega), s20, (by omega), (by omega), eh16, (by omega), (by omega), (by omega), (by omega), (by omega), (by dsimp only; omega), (by dsimp only; omega), (by dsimp only; omega), (by omega), (by dsimp only; omega)⟩
        · refine gy_ifF rfl (by decide) (by decide) (by omega) hc15 ?_
          refine gz_s 1 (pc' := 19) (L' := [some (.ref x), some (.int (zi i))]) (S' := [.ref x]) rfl ?_
          refine gs_gtk rfl (by decide) rfl sh2.1 lp1c0 rfl rfl lp1k0 ?_
          refine gz_s 1 (pc' := 23) (L' := [some (.ref x), some (.int (zi i))]) (S' := [.ref x, .ref sk]) rfl ?_
          refine gs_getl rfl (by decide) rfl sh2.1 lp1c0 rfl rfl rfl (fun z26 ez26 az26 bz26 => ?_)
          refine gz_s 1 (pc' := 27) (L' := [some (.ref x), some (.int (zi i))]) (S' := [.int (zi i), .long (zl z26), .ref sk]) rfl ?_
          refine gy_liv rfl (by decide) rfl (fun _ _ => rfl) (fun z27 ez27 az27 bz27 => ?_)
          refine gz_s 1 (pc' := 29) (L' := [some (.ref x), some (.int (zi i))]) (S' := [.long (zl 1), .long (zl z27), .ref sk]) rfl ?_
          refine gy_llv rfl (by decide) rfl (fun _ _ => rfl) (fun z28 ez28 az28 bz28 => ?_)
          refine gy_l2i rfl (by decide) ?_
          refine gy_any (fun z29 ez29 az29 bz29 => ?_)
          refine gz_s 1 (pc' := 32) (L' := [some (.ref x), some (.int (zi i))]) (S' := [.int (zi 1), .int (zi z29), .ref sk]) rfl ?_
          have hl30 : h2.2.2.2.1 bv = h2.2.2.2.1 bv := congrFun sh2.2.2.2.2.1 bv
          refine gz_call rfl (by decide) rfl (by decide) (by decide) (gcal_of rfl rfl rfl (Nat.le_of_ble_eq_true rfl) (gJ.recv (G := gGG) sh2.1 lp1c1 rfl rfl)) (cl_Sink_putBits _ sh2.1 sk lp1c1 z29 (by omega) 1 (by omega) bv lp1r0 lp1r1 cv lp1k3 (by omega) hv lp1k4 (by omega) (by omega) (by omega) lp1u) (fun q31 _ wq31 => ?_)
          obtain ⟨pq31, oq31, hq31⟩ := q31
          obtain ⟨tyq31, xq31, cq31_0, ttq31, fq31_0, fq31_1, ecq31_0, tcq31_0, gq31, efq31_0, afq31_0, bfq31_0, efq31_1, afq31_1, bfq31_1, uq31_0, uq31_1, uq31_2, uq31_3, uq31_4, uq31_5⟩ := wq31
          dsimp only at uq31_2 uq31_3 uq31_4 uq31_5
          refine ⟨_, gq31, ?_⟩
          show gz gPP gGG gcn _ _ 35 [some (.ref x), some (.int (zi i))] [] hq31 _
          have G32 : gSg [114] [] [56000, 56001, 56002, 56003, 71014, 114999] ty h tyq31 hq31 := gSg.tr (gSg.ss lp1G sh2 (by decide)) xq31 (by decide) (by decide) (fun x hx => by cases hx)
          have t33 : tyq31 x = 71 := gSg.typ xq31 sh2.1 lp1c0 rfl
          have t34 : tyq31 sk = 56 := gSg.typ xq31 sh2.1 lp1c1 rfl
          have t35 : tyq31 bv = 114 := gSg.typ xq31 sh2.1 lp1r1 rfl
          have hl36 : hq31.2.2.2.1 bv = h2.2.2.2.1 bv := gSg.len xq31 sh2.1 lp1r1 rfl
          have s37 := gSg.at xq31 sh2.1 lp1c0 rfl (by decide) lp1k0
          have s38 := gSg.at xq31 sh2.1 lp1c0 rfl (by decide) lp1k1
          have s39 := gSg.at xq31 sh2.1 lp1c0 rfl (by decide) lp1k2
          have s40 := gSg.at xq31 sh2.1 lp1c0 rfl (by decide) ez26
          have uq41 := gSg.uq xq31 lp1u (by decide)
          have sS42 : gSs rT 1027 tyq31 [56000, 56001, 56002, 56003, 71014, 114999] hq31 hq31 := gSs.rf xq31.1
          refine gy_s 2 (pc' := 7) (L' := [some (.ref x), some (.int ((zi i) + zi (-1)))]) (S' := []) (L2 := [some (.ref x), some (.int (zi (i + (-1))))]) (S2 := []) rfl (by simp only [zi_add, zi_sub, zi_mul, zi_neg, zi_and1, zi_and7, zi_and15, zi_and31, zi_and255]) (by simp only [zi_add, zi_sub, zi_mul, zi_neg, zi_and1, zi_and7, zi_and15, zi_and31, zi_and255]) ?_
          have hl43 : 1024 ≤ hq31.2.2.2.1 bv ∧ hq31.2.2.2.1 bv ≤ 1000000 := gJ.rowl (G := gGG) sS42.1 t35 rfl
          have hl44 : 1024 ≤ hq31.2.2.2.1 cq31_0 ∧ hq31.2.2.2.1 cq31_0 ≤ 1000000 := gJ.rowl (G := gGG) sS42.1 tcq31_0 rfl
          have G45 : gSg [114] [] [56000, 56001, 56002, 56003, 71014, 114999] ty h tyq31 hq31 := gSg.ss G32 sS42 (by decide)
          exact gz_wk (ihlp1 tyq31 hq31 cq31_0 (i + (-1)) fq31_0 fq31_1 (by omega) G45 uq41 t33 t34 ecq31_0 tcq31_0 (by omega) (by omega) (by omega) (by omega) (by omega) (by omega) (by omega) (by omega) (by omega) (by omega) (by omega) s37 s38 s39 efq31_0 efq31_1) (gLw.s (gLw.s gLw.z))
  have hl46 : 1024 ≤ h.2.2.2.1 bt ∧ h.2.2.2.1 bt ≤ 1000000 := gJ.rowl (G := gGG) hS.1 tbt rfl
  have G47 : gSg [114] [] [56000, 56001, 56002, 56003, 71014, 114999] ty h ty h := gSg.ss G0 hS (by decide)
  exact gz_wk (lp1 _ ty h bt (wc - 1) c0 h0 (Nat.lt_succ_self _) G47 uq tx tsk ebt tbt (by omega) (by omega) (by omega) (by omega) (by omega) (by omega) (by omega) (by omega) (by omega) (by omega) (by omega) esk ecg ewc ec0 eh0) (gLw.s (gLw.s gLw.z))
