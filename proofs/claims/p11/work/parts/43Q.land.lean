/-! ===== methods of the landed text (by program) ===== -/
set_option maxRecDepth 20000 in
set_option maxHeartbeats 4000000 in
theorem cl_Writer_putOthers (d : Nat) {ty : Nat → Nat} {h : gH} (hJ : gJ rT 1027 ty h) (x : Nat) (tx : ty x = 71) (p : Int) (rp : 0 ≤ p ∧ p ≤ 960) (sk : Nat) (esk : h.2.2.2.2 x 0 = .ref sk) (tsk : ty sk = 56) (bt : Nat) (ebt : h.2.2.2.2 sk 0 = .ref bt) (tbt : ty bt = 114) (c0 : Int) (ec0 : h.2.2.2.2 sk 1 = .int (zi c0)) (rc0 : 0 ≤ c0 ∧ c0 ≤ 499999) (h0 : Int) (eh0 : h.2.2.2.2 sk 3 = .int (zi h0)) (rh0 : 0 ≤ h0 ∧ h0 ≤ 7) (cg : Int) (ecg : h.2.2.2.2 x 11 = .int (zi cg)) (rcg : 0 ≤ cg ∧ cg ≤ 1) (fr : Int) (efr : h.2.2.2.2 x 7 = .int (zi fr)) (rfr : 0 ≤ fr ∧ fr ≤ 63) (tt : Int) (ett : h.2.2.2.2 x 8 = .int (zi tt)) (rtt : 0 ≤ tt ∧ tt ≤ 63) (pp0 : 4 * c0 + h0 + 320 * (tt - fr + 2) ≤ 1999990) (pp1 : fr ≤ tt) (pp2 : 1 ≤ tt) (pp3 : c0 ≤ (h.2.2.2.1 bt : Int)) (uq : gUq ty) : gz gPP gGG gcn (d + 5) gt120 0 (gent [.ref x, .int (zi p)] 7) [] h (fun q _ => ∃ ty9 : Nat → Nat, gSg [114] [] [56000, 56001, 56002, 56003, 80999, 114999] ty h ty9 q.2.2 ∧ ∃ bt2 : Nat, True ∧ ∃ c1 h1 : Int, q.2.2.2.2.2.2 sk 0 = .ref bt2 ∧ ty9 bt2 = 114 ∧ gfin gt120 q.1 q.2.1 = some none ∧ q.2.2.2.2.2.2 sk 1 = .int (zi c1) ∧ 0 ≤ c1 ∧ c1 ≤ 500000 ∧ q.2.2.2.2.2.2 sk 3 = .int (zi h1) ∧ 0 ≤ h1 ∧ h1 ≤ 7 ∧ (4 * c1 + h1 ≤ 4 * c0 + h0 + 320 * (tt - fr + 1)) ∧ (c0 ≤ c1) ∧ (cg = 1 → (c1 = c0 ∧ h1 = h0)) ∧ (1024 * ((q.2.2.1 : Int) - h.1) ≤ (q.2.2.2.2.2.1 bt2 : Int) - h.2.2.2.1 bt) ∧ (((q.2.2.2.1 : Int) - h.2.1) ≤ 2 * ((q.2.2.2.2.2.1 bt2 : Int) - h.2.2.2.1 bt)) ∧ ((h.2.2.2.1 bt : Int) ≤ (q.2.2.2.2.2.1 bt2 : Int)) ∧ (c1 ≤ (q.2.2.2.2.2.1 bt2 : Int))) := by
  have hS : gSs rT 1027 ty [56000, 56001, 56002, 56003, 80999, 114999] h h := gSs.rf hJ
  have G0 : gSg [114] [] [56000, 56001, 56002, 56003, 80999, 114999] ty h ty h := gSg.rf hJ (fun x hx => by cases hx)
  refine gz_s 4 (pc' := 4) (L' := [some (.ref x), some (.int (zi p)), some (.int (zi 0)), none, none, none, none]) (S' := [.ref x, .int (zi 1)]) rfl ?_
  refine gs_gtk rfl (by decide) rfl hS.1 tx rfl rfl efr ?_
  refine gz_call rfl (by decide) rfl (by decide) (by decide) (gcal_of rfl rfl rfl (Nat.le_of_ble_eq_true rfl) rfl) (cl_Math_max _ hS.1 1 (by omega) fr (by omega) ) (fun q1 _ wq1 => ?_)
  obtain ⟨pq1, oq1, hq1⟩ := q1
  obtain ⟨xq1, zq1, gq1, aq1, bq1, uq1_0, uq1_1, uq1_2⟩ := wq1
  refine ⟨_, gq1, ?_⟩
  show gz gPP gGG gcn _ _ 10 [some (.ref x), some (.int (zi p)), some (.int (zi 0)), none, none, none, none] [.int (zi zq1)] hq1 _
  have sq1 : gSs rT 1027 ty [56000, 56001, 56002, 56003, 80999, 114999] h hq1 := gSs.tr hS xq1 (by decide)
  have s2 := (xq1.2.2.2.2.2 x 0 (by rw [tx]; decide)).trans esk
  have s3 := (xq1.2.2.2.2.2 sk 0 (by rw [tsk]; decide)).trans ebt
  have s4 := (xq1.2.2.2.2.2 sk 1 (by rw [tsk]; decide)).trans ec0
  have s5 := (xq1.2.2.2.2.2 sk 3 (by rw [tsk]; decide)).trans eh0
  have s6 := (xq1.2.2.2.2.2 x 11 (by rw [tx]; decide)).trans ecg
  have s7 := (xq1.2.2.2.2.2 x 7 (by rw [tx]; decide)).trans efr
  have s8 := (xq1.2.2.2.2.2 x 8 (by rw [tx]; decide)).trans ett
  refine gz_s 1 (pc' := 11) (L' := [some (.ref x), some (.int (zi p)), some (.int (zi 0)), some (.int (zi zq1)), none, none, none]) (S' := []) rfl ?_
  have lp9 : ∀ (fu : Nat) (ty11 : Nat → Nat) (h10 : gH) (bv : Nat) (rn : Int) (k : Int) (cv : Int) (hv : Int), (65 - k).toNat < fu → gSg [114] [] [56000, 56001, 56002, 56003, 80999, 114999] ty h ty11 h10 → gUq ty11 → ty11 x = 71 → ty11 sk = 56 → h10.2.2.2.2 sk 0 = .ref bv → ty11 bv = 114 → (0 ≤ rn ∧ rn ≤ 63) → (1 ≤ k ∧ k ≤ 64) → (0 ≤ cv ∧ cv ≤ 499999) → (0 ≤ hv ∧ hv ≤ 7) → (4 * cv + hv + 320 * rn ≤ 4 * c0 + h0 + 320 * (k - zq1)) → (c0 ≤ cv) → (cg = 1 → (cv = c0 ∧ hv = h0)) → (rn ≤ k - zq1) → (k ≤ tt + 1) → (1024 * ((h10.1 : Int) - h.1) ≤ (h10.2.2.2.1 bv : Int) - h.2.2.2.1 bt) → (((h10.2.1 : Int) - h.2.1) ≤ 2 * ((h10.2.2.2.1 bv : Int) - h.2.2.2.1 bt)) → ((h.2.2.2.1 bt : Int) ≤ (h10.2.2.2.1 bv : Int)) → (cv ≤ (h10.2.2.2.1 bv : Int)) → h10.2.2.2.2 x 0 = .ref sk → h10.2.2.2.2 x 11 = .int (zi cg) → h10.2.2.2.2 x 7 = .int (zi fr) → h10.2.2.2.2 x 8 = .int (zi tt) → h10.2.2.2.2 sk 1 = .int (zi cv) → h10.2.2.2.2 sk 3 = .int (zi hv) → gz gPP gGG gcn (d + 5) gt120 11 [some (.ref x), some (.int (zi p)), some (.int (zi rn)), some (.int (zi k)), none, none, none] [] h10 (fun q _ => ∃ ty9 : Nat → Nat, gSg [114] [] [56000, 56001, 56002, 56003, 80999, 114999] ty h ty9 q.2.2 ∧ ∃ bt2 : Nat, True ∧ ∃ c1 h1 : Int, q.2.2.2.2.2.2 sk 0 = .ref bt2 ∧ ty9 bt2 = 114 ∧ gfin gt120 q.1 q.2.1 = some none ∧ q.2.2.2.2.2.2 sk 1 = .int (zi c1) ∧ 0 ≤ c1 ∧ c1 ≤ 500000 ∧ q.2.2.2.2.2.2 sk 3 = .int (zi h1) ∧ 0 ≤ h1 ∧ h1 ≤ 7 ∧ (4 * c1 + h1 ≤ 4 * c0 + h0 + 320 * (tt - fr + 1)) ∧ (c0 ≤ c1) ∧ (cg = 1 → (c1 = c0 ∧ h1 = h0)) ∧ (1024 * ((q.2.2.1 : Int) - h.1) ≤ (q.2.2.2.2.2.1 bt2 : Int) - h.2.2.2.1 bt) ∧ (((q.2.2.2.1 : Int) - h.2.1) ≤ 2 * ((q.2.2.2.2.2.1 bt2 : Int) - h.2.2.2.1 bt)) ∧ ((h.2.2.2.1 bt : Int) ≤ (q.2.2.2.2.2.1 bt2 : Int)) ∧ (c1 ≤ (q.2.2.2.2.2.1 bt2 : Int))) := by
    intro fu
    induction fu with
    | zero => intro ty11 h10 bv rn k cv hv hm; exact absurd hm (Nat.not_lt_zero _)
    | succ fu ihlp9 =>
      intro ty11 h10 bv rn k cv hv lp9m lp9G lp9u lp9c0 lp9c1 lp9r0 lp9r1 lp9f0 lp9f1 lp9f2 lp9f3 lp9f4 lp9f5 lp9f6 lp9f7 lp9f8 lp9f9 lp9f10 lp9f11 lp9f12 lp9k0 lp9k1 lp9k2 lp9k3 lp9k4 lp9k5
      have sh10 : gSs rT 1027 ty11 [56000, 56001, 56002, 56003, 80999, 114999] h10 h10 := gSs.rf lp9G.1
      refine gz_s 2 (pc' := 13) (L' := [some (.ref x), some (.int (zi p)), some (.int (zi rn)), some (.int (zi k)), none, none, none]) (S' := [.ref x, .int (zi k)]) rfl ?_
      refine gs_gtk rfl (by decide) rfl sh10.1 lp9c0 rfl rfl lp9k3 ?_
      by_cases hc12 : (tt : Int) < k
      · refine gy_icT (pc' := 120) rfl (by decide) (by decide) (by omega) (by omega) hc12 ?_
        refine gz_s 1 (pc' := 121) (L' := [some (.ref x), some (.int (zi p)), some (.int (zi rn)), some (.int (zi k)), none, none, none]) (S' := [.int (zi rn)]) rfl ?_
        by_cases hc13 : (rn : Int) ≤ 0
        · refine gy_ifT (pc' := 130) rfl (by decide) (by decide) (by omega) hc13 ?_
          have G14 : gSg [114] [] [56000, 56001, 56002, 56003, 80999, 114999] ty h ty11 h10 := gSg.ss lp9G sh10 (by decide)
          exact gz_end (I := .return_) (len := 1) rfl (Or.inl rfl) ⟨ty11, G14, bv, trivial, cv, hv, lp9r0, lp9r1, rfl, lp9k4, (by omega), (by omega), lp9k5, (by omega), (by omega), (by omega), (by omega), (by omega), (by dsimp only; omega), (by dsimp only; omega), (by dsimp only; omega), (by dsimp only; omega)⟩
        · refine gy_ifF rfl (by decide) (by decide) (by omega) hc13 ?_
          refine gz_s 3 (pc' := 127) (L' := [some (.ref x), some (.int (zi p)), some (.int (zi rn)), some (.int (zi k)), none, none, none]) (S' := [.int (zi 0), .int (zi 1), .ref x]) rfl ?_
          have hl15 : h10.2.2.2.1 bv = h10.2.2.2.1 bv := congrFun sh10.2.2.2.2.1 bv
          refine gz_call rfl (by decide) rfl (by decide) (by decide) (gcal_of rfl rfl rfl (Nat.le_of_ble_eq_true rfl) (gJ.recv (G := gGG) sh10.1 lp9c0 rfl rfl)) (cl_putSymbol1 _ sh10.1 x lp9c0 1 (by omega) 0 (by omega) sk lp9k0 lp9c1 bv lp9r0 lp9r1 cv lp9k4 (by omega) hv lp9k5 (by omega) cg lp9k1 (by omega) (by omega) (by omega) lp9u) (fun q16 _ wq16 => ?_)
          obtain ⟨pq16, oq16, hq16⟩ := q16
          obtain ⟨tyq16, xq16, cq16_0, ttq16, fq16_0, fq16_1, ecq16_0, tcq16_0, gq16, efq16_0, afq16_0, bfq16_0, efq16_1, afq16_1, bfq16_1, uq16_0, uq16_1, uq16_2, uq16_3, uq16_4, uq16_5, uq16_6⟩ := wq16
          dsimp only at uq16_3 uq16_4 uq16_5 uq16_6
          refine ⟨_, gq16, ?_⟩
          show gz gPP gGG gcn _ _ 130 [some (.ref x), some (.int (zi p)), some (.int (zi rn)), some (.int (zi k)), none, none, none] [] hq16 _
          have G17 : gSg [114] [] [56000, 56001, 56002, 56003, 80999, 114999] ty h tyq16 hq16 := gSg.tr (gSg.ss lp9G sh10 (by decide)) xq16 (by decide) (by decide) (fun x hx => by cases hx)
          have t18 : tyq16 x = 71 := gSg.typ xq16 sh10.1 lp9c0 rfl
          have t19 : tyq16 sk = 56 := gSg.typ xq16 sh10.1 lp9c1 rfl
          have t20 : tyq16 bv = 114 := gSg.typ xq16 sh10.1 lp9r1 rfl
          have hl21 : hq16.2.2.2.1 bv = h10.2.2.2.1 bv := gSg.len xq16 sh10.1 lp9r1 rfl
          have s22 := gSg.at xq16 sh10.1 lp9c0 rfl (by decide) lp9k0
          have s23 := gSg.at xq16 sh10.1 lp9c0 rfl (by decide) lp9k1
          have s24 := gSg.at xq16 sh10.1 lp9c0 rfl (by decide) lp9k2
          have s25 := gSg.at xq16 sh10.1 lp9c0 rfl (by decide) lp9k3
          have uq26 := gSg.uq xq16 lp9u (by decide)
          have sS27 : gSs rT 1027 tyq16 [56000, 56001, 56002, 56003, 80999, 114999] hq16 hq16 := gSs.rf xq16.1
          have G28 : gSg [114] [] [56000, 56001, 56002, 56003, 80999, 114999] ty h tyq16 hq16 := gSg.ss G17 sS27 (by decide)
          exact gz_end (I := .return_) (len := 1) rfl (Or.inl rfl) ⟨tyq16, G28, cq16_0, trivial, fq16_0, fq16_1, ecq16_0, tcq16_0, rfl, efq16_0, (by omega), (by omega), efq16_1, (by omega), (by omega), (by omega), (by omega), (by omega), (by dsimp only; omega), (by dsimp only; omega), (by dsimp only; omega), (by dsimp only; omega)⟩
      · refine gy_icF rfl (by decide) (by decide) (by omega) (by omega) hc12 ?_
        refine gz_s 1 (pc' := 20) (L' := [some (.ref x), some (.int (zi p)), some (.int (zi rn)), some (.int (zi k)), none, none, none]) (S' := [.ref x]) rfl ?_
        refine gs_gtr rfl (by decide) rfl sh10.1 lp9c0 rfl rfl rfl (fun c29 ec29 tc29 => ?_)
        refine gy_s 3 (pc' := 26) (L' := [some (.ref x), some (.int (zi p)), some (.int (zi rn)), some (.int (zi k)), none, none, none]) (S' := [.int ((zi p) + (zi k)), .ref c29]) (L2 := [some (.ref x), some (.int (zi p)), some (.int (zi rn)), some (.int (zi k)), none, none, none]) (S2 := [.int (zi (p + k)), .ref c29]) rfl (by simp only [zi_add, zi_sub, zi_mul, zi_neg, zi_and1, zi_and7, zi_and15, zi_and31, zi_and255]) (by simp only [zi_add, zi_sub, zi_mul, zi_neg, zi_and1, zi_and7, zi_and15, zi_and31, zi_and255]) ?_
        have hl30 : 1024 ≤ h10.2.2.2.1 c29 ∧ h10.2.2.2.1 c29 ≤ 1024 := gJ.rowl (G := gGG) sh10.1 tc29 rfl
        refine gs_ald rfl (by decide) sh10.1 tc29 rfl rfl rfl (by decide) (fun _ => rfl) (by omega) (by omega) (fun z31 ez31 az31 bz31 => ?_)
        refine gz_s 2 (pc' := 31) (L' := [some (.ref x), some (.int (zi p)), some (.int (zi rn)), some (.int (zi k)), some (.int (zi z31)), none, none]) (S' := [.int (zi z31)]) rfl ?_
        refine gz_call rfl (by decide) rfl (by decide) (by decide) (gcal_of rfl rfl rfl (Nat.le_of_ble_eq_true rfl) rfl) (cl_Math_abs _ sh10.1 z31 (by omega) ) (fun q32 _ wq32 => ?_)
        obtain ⟨pq32, oq32, hq32⟩ := q32
        obtain ⟨xq32, zq32, gq32, aq32, bq32, uq32_0, uq32_1⟩ := wq32
        refine ⟨_, gq32, ?_⟩
        show gz gPP gGG gcn _ _ 34 [some (.ref x), some (.int (zi p)), some (.int (zi rn)), some (.int (zi k)), some (.int (zi z31)), none, none] [.int (zi zq32)] hq32 _
        have sq32 : gSs rT 1027 ty11 [56000, 56001, 56002, 56003, 80999, 114999] h10 hq32 := gSs.tr sh10 xq32 (by decide)
        have s33 := (xq32.2.2.2.2.2 x 0 (by rw [lp9c0]; decide)).trans lp9k0
        have s34 := (xq32.2.2.2.2.2 x 11 (by rw [lp9c0]; decide)).trans lp9k1
        have s35 := (xq32.2.2.2.2.2 x 7 (by rw [lp9c0]; decide)).trans lp9k2
        have s36 := (xq32.2.2.2.2.2 x 8 (by rw [lp9c0]; decide)).trans lp9k3
        have s37 := (xq32.2.2.2.2.2 sk 1 (by rw [lp9c1]; decide)).trans lp9k4
        have s38 := (xq32.2.2.2.2.2 sk 3 (by rw [lp9c1]; decide)).trans lp9k5
        have s39 := (xq32.2.2.2.2.2 sk 0 (by rw [lp9c1]; decide)).trans lp9r0
        have s40 := (xq32.2.2.2.2.2 x 2 (by rw [lp9c0]; decide)).trans ec29
        refine gz_s 1 (pc' := 35) (L' := [some (.ref x), some (.int (zi p)), some (.int (zi rn)), some (.int (zi k)), some (.int (zi z31)), none, none]) (S' := [.ref x, .int (zi zq32)]) rfl ?_
        refine gs_get rfl (by decide) rfl sq32.1 lp9c0 rfl rfl rfl (fun z41 ez41 az41 bz41 => ?_)
        refine gy_shv rfl (by decide) (by omega) (by omega) (fun z42 az42 bz42 => ?_)
        refine gz_s 2 (pc' := 43) (L' := [some (.ref x), some (.int (zi p)), some (.int (zi rn)), some (.int (zi k)), some (.int (zi z31)), some (.int (zi z42)), none]) (S' := [.int (zi z42)]) rfl ?_
        by_cases hc43 : ¬ (z42 : Int) = 0
        · refine gy_ifT (pc' := 52) rfl (by decide) (by decide) (by omega) hc43 ?_
          have lp44 : ∀ (fu : Nat) (ty46 : Nat → Nat) (h45 : gH) (bv2 : Nat) (rn2 : Int) (cv2 : Int) (hv2 : Int), (rn2).toNat < fu → gSg [114] [] [56000, 56001, 56002, 56003, 80999, 114999] ty h ty46 h45 → gUq ty46 → ty46 x = 71 → ty46 sk = 56 → ty46 c29 = 73 → h45.2.2.2.2 sk 0 = .ref bv2 → ty46 bv2 = 114 → (0 ≤ rn2 ∧ rn2 ≤ 63) → (0 ≤ cv2 ∧ cv2 ≤ 499999) → (0 ≤ hv2 ∧ hv2 ≤ 7) → (4 * cv2 + hv2 + 320 * rn2 ≤ 4 * c0 + h0 + 320 * (k - zq1)) → (c0 ≤ cv2) → (cg = 1 → (cv2 = c0 ∧ hv2 = h0)) → (rn2 ≤ rn) → (1024 * ((h45.1 : Int) - h.1) ≤ (h45.2.2.2.1 bv2 : Int) - h.2.2.2.1 bt) → (((h45.2.1 : Int) - h.2.1) ≤ 2 * ((h45.2.2.2.1 bv2 : Int) - h.2.2.2.1 bt)) → ((h.2.2.2.1 bt : Int) ≤ (h45.2.2.2.1 bv2 : Int)) → (cv2 ≤ (h45.2.2.2.1 bv2 : Int)) → h45.2.2.2.2 x 0 = .ref sk → h45.2.2.2.2 x 11 = .int (zi cg) → h45.2.2.2.2 x 7 = .int (zi fr) → h45.2.2.2.2 x 8 = .int (zi tt) → h45.2.2.2.2 x 2 = .ref c29 → h45.2.2.2.2 x 10 = .int (zi z41) → h45.2.2.2.2 sk 1 = .int (zi cv2) → h45.2.2.2.2 sk 3 = .int (zi hv2) → gz gPP gGG gcn (d + 5) gt120 52 [some (.ref x), some (.int (zi p)), some (.int (zi rn2)), some (.int (zi k)), some (.int (zi z31)), some (.int (zi z42)), none] [] h45 (fun q _ => ∃ ty9 : Nat → Nat, gSg [114] [] [56000, 56001, 56002, 56003, 80999, 114999] ty h ty9 q.2.2 ∧ ∃ bt2 : Nat, True ∧ ∃ c1 h1 : Int, q.2.2.2.2.2.2 sk 0 = .ref bt2 ∧ ty9 bt2 = 114 ∧ gfin gt120 q.1 q.2.1 = some none ∧ q.2.2.2.2.2.2 sk 1 = .int (zi c1) ∧ 0 ≤ c1 ∧ c1 ≤ 500000 ∧ q.2.2.2.2.2.2 sk 3 = .int (zi h1) ∧ 0 ≤ h1 ∧ h1 ≤ 7 ∧ (4 * c1 + h1 ≤ 4 * c0 + h0 + 320 * (tt - fr + 1)) ∧ (c0 ≤ c1) ∧ (cg = 1 → (c1 = c0 ∧ h1 = h0)) ∧ (1024 * ((q.2.2.1 : Int) - h.1) ≤ (q.2.2.2.2.2.1 bt2 : Int) - h.2.2.2.1 bt) ∧ (((q.2.2.2.1 : Int) - h.2.1) ≤ 2 * ((q.2.2.2.2.2.1 bt2 : Int) - h.2.2.2.1 bt)) ∧ ((h.2.2.2.1 bt : Int) ≤ (q.2.2.2.2.2.1 bt2 : Int)) ∧ (c1 ≤ (q.2.2.2.2.2.1 bt2 : Int))) := by
            intro fu
            induction fu with
            | zero => intro ty46 h45 bv2 rn2 cv2 hv2 hm; exact absurd hm (Nat.not_lt_zero _)
            | succ fu ihlp44 =>
              intro ty46 h45 bv2 rn2 cv2 hv2 lp44m lp44G lp44u lp44c0 lp44c1 lp44c2 lp44r0 lp44r1 lp44f0 lp44f1 lp44f2 lp44f3 lp44f4 lp44f5 lp44f6 lp44f7 lp44f8 lp44f9 lp44f10 lp44k0 lp44k1 lp44k2 lp44k3 lp44k4 lp44k5 lp44k6 lp44k7
              have sh45 : gSs rT 1027 ty46 [56000, 56001, 56002, 56003, 80999, 114999] h45 h45 := gSs.rf lp44G.1
              refine gz_s 2 (pc' := 55) (L' := [some (.ref x), some (.int (zi p)), some (.int (zi rn2)), some (.int (zi k)), some (.int (zi z31)), some (.int (zi z42)), none]) (S' := [.int (zi 15), .int (zi rn2)]) rfl ?_
              by_cases hc47 : (rn2 : Int) ≤ 15
              · refine gy_icT (pc' := 72) rfl (by decide) (by decide) (by omega) (by omega) hc47 ?_
                refine gz_s 1 (pc' := 74) (L' := [some (.ref x), some (.int (zi p)), some (.int (zi rn2)), some (.int (zi k)), some (.int (zi z31)), some (.int (zi z42)), none]) (S' := [.int (zi z42)]) rfl ?_
                refine gz_call rfl (by decide) rfl (by decide) (by decide) (gcal_of rfl rfl rfl (Nat.le_of_ble_eq_true rfl) rfl) (cl_Writer_bitsOf _ sh45.1 z42 (by omega) lp44u) (fun q48 _ wq48 => ?_)
                obtain ⟨pq48, oq48, hq48⟩ := q48
                obtain ⟨xq48, zq48, gq48, aq48, bq48⟩ := wq48
                refine ⟨_, gq48, ?_⟩
                show gz gPP gGG gcn _ _ 77 [some (.ref x), some (.int (zi p)), some (.int (zi rn2)), some (.int (zi k)), some (.int (zi z31)), some (.int (zi z42)), none] [.int (zi zq48)] hq48 _
                have sq48 : gSs rT 1027 ty46 [56000, 56001, 56002, 56003, 80999, 114999] h45 hq48 := gSs.tr sh45 xq48 (by decide)
                have s49 := (xq48.2.2.2.2.2 x 0 (by rw [lp44c0]; decide)).trans lp44k0
                have s50 := (xq48.2.2.2.2.2 x 11 (by rw [lp44c0]; decide)).trans lp44k1
                have s51 := (xq48.2.2.2.2.2 x 7 (by rw [lp44c0]; decide)).trans lp44k2
                have s52 := (xq48.2.2.2.2.2 x 8 (by rw [lp44c0]; decide)).trans lp44k3
                have s53 := (xq48.2.2.2.2.2 x 2 (by rw [lp44c0]; decide)).trans lp44k4
                have s54 := (xq48.2.2.2.2.2 x 10 (by rw [lp44c0]; decide)).trans lp44k5
                have s55 := (xq48.2.2.2.2.2 sk 1 (by rw [lp44c1]; decide)).trans lp44k6
                have s56 := (xq48.2.2.2.2.2 sk 3 (by rw [lp44c1]; decide)).trans lp44k7
                have s57 := (xq48.2.2.2.2.2 sk 0 (by rw [lp44c1]; decide)).trans lp44r0
                refine gy_s 8 (pc' := 88) (L' := [some (.ref x), some (.int (zi p)), some (.int (zi rn2)), some (.int (zi k)), some (.int (zi z31)), some (.int (zi z42)), some (.int (zi zq48))]) (S' := [.int (((zi 16) * (zi rn2)) + (zi zq48)), .int (zi 1), .ref x]) (L2 := [some (.ref x), some (.int (zi p)), some (.int (zi rn2)), some (.int (zi k)), some (.int (zi z31)), some (.int (zi z42)), some (.int (zi zq48))]) (S2 := [.int (zi ((16 * rn2) + zq48)), .int (zi 1), .ref x]) rfl (by simp only [zi_add, zi_sub, zi_mul, zi_neg, zi_and1, zi_and7, zi_and15, zi_and31, zi_and255]) (by simp only [zi_add, zi_sub, zi_mul, zi_neg, zi_and1, zi_and7, zi_and15, zi_and31, zi_and255]) ?_
                have k58 := sq48.2.1
                have k58b := sq48.2.2.1
                have hl59 : hq48.2.2.2.1 bv2 = h45.2.2.2.1 bv2 := congrFun sq48.2.2.2.2.1 bv2
                have hl60 : hq48.2.2.2.1 bv2 = h45.2.2.2.1 bv2 := congrFun sq48.2.2.2.2.1 bv2
                refine gz_call rfl (by decide) rfl (by decide) (by decide) (gcal_of rfl rfl rfl (Nat.le_of_ble_eq_true rfl) (gJ.recv (G := gGG) sq48.1 lp44c0 rfl rfl)) (cl_putSymbol1 _ sq48.1 x lp44c0 1 (by omega) ((16 * rn2) + zq48) (by omega) sk s49 lp44c1 bv2 s57 lp44r1 cv2 s55 (by omega) hv2 s56 (by omega) cg s50 (by omega) (by omega) (by omega) lp44u) (fun q61 _ wq61 => ?_)
                obtain ⟨pq61, oq61, hq61⟩ := q61
                obtain ⟨tyq61, xq61, cq61_0, ttq61, fq61_0, fq61_1, ecq61_0, tcq61_0, gq61, efq61_0, afq61_0, bfq61_0, efq61_1, afq61_1, bfq61_1, uq61_0, uq61_1, uq61_2, uq61_3, uq61_4, uq61_5, uq61_6⟩ := wq61
                dsimp only at uq61_3 uq61_4 uq61_5 uq61_6
                refine ⟨_, gq61, ?_⟩
                show gz gPP gGG gcn _ _ 91 [some (.ref x), some (.int (zi p)), some (.int (zi rn2)), some (.int (zi k)), some (.int (zi z31)), some (.int (zi z42)), some (.int (zi zq48))] [] hq61 _
                have G62 : gSg [114] [] [56000, 56001, 56002, 56003, 80999, 114999] ty h tyq61 hq61 := gSg.tr (gSg.ss lp44G sq48 (by decide)) xq61 (by decide) (by decide) (fun x hx => by cases hx)
                have t63 : tyq61 x = 71 := gSg.typ xq61 sq48.1 lp44c0 rfl
                have t64 : tyq61 sk = 56 := gSg.typ xq61 sq48.1 lp44c1 rfl
                have t65 : tyq61 c29 = 73 := gSg.typ xq61 sq48.1 lp44c2 rfl
                have t66 : tyq61 bv2 = 114 := gSg.typ xq61 sq48.1 lp44r1 rfl
                have hl67 : hq61.2.2.2.1 bv2 = hq48.2.2.2.1 bv2 := gSg.len xq61 sq48.1 lp44r1 rfl
                have s68 := gSg.at xq61 sq48.1 lp44c0 rfl (by decide) s49
                have s69 := gSg.at xq61 sq48.1 lp44c0 rfl (by decide) s50
                have s70 := gSg.at xq61 sq48.1 lp44c0 rfl (by decide) s51
                have s71 := gSg.at xq61 sq48.1 lp44c0 rfl (by decide) s52
                have s72 := gSg.at xq61 sq48.1 lp44c0 rfl (by decide) s53
                have s73 := gSg.at xq61 sq48.1 lp44c0 rfl (by decide) s54
                have uq74 := gSg.uq xq61 lp44u (by decide)
                have sS75 : gSs rT 1027 tyq61 [56000, 56001, 56002, 56003, 80999, 114999] hq61 hq61 := gSs.rf xq61.1
                refine gz_s 2 (pc' := 94) (L' := [some (.ref x), some (.int (zi p)), some (.int (zi rn2)), some (.int (zi k)), some (.int (zi z31)), some (.int (zi z42)), some (.int (zi zq48))]) (S' := [.int (zi z31), .ref x]) rfl ?_
                by_cases hc76 : (0 : Int) ≤ z31
                · refine gy_ifT (pc' := 105) rfl (by decide) (by decide) (by omega) hc76 ?_
                  refine gz_s 2 (pc' := 109) (L' := [some (.ref x), some (.int (zi p)), some (.int (zi rn2)), some (.int (zi k)), some (.int (zi z31)), some (.int (zi z42)), some (.int (zi zq48))]) (S' := [.int (zi zq48), .int (zi z42), .ref x]) rfl ?_
                  have hl77 : hq61.2.2.2.1 cq61_0 = hq61.2.2.2.1 cq61_0 := congrFun sS75.2.2.2.2.1 cq61_0
                  refine gz_call rfl (by decide) rfl (by decide) (by decide) (gcal_of rfl rfl rfl (Nat.le_of_ble_eq_true rfl) (gJ.recv (G := gGG) sS75.1 t63 rfl rfl)) (cl_Writer_putPlain _ sS75.1 x t63 z42 (by omega) zq48 (by omega) sk s68 t64 cq61_0 ecq61_0 tcq61_0 fq61_0 efq61_0 (by omega) fq61_1 efq61_1 (by omega) cg s69 (by omega) (by omega) (by omega) uq74) (fun q78 _ wq78 => ?_)
                  obtain ⟨pq78, oq78, hq78⟩ := q78
                  obtain ⟨tyq78, xq78, cq78_0, ttq78, fq78_0, fq78_1, ecq78_0, tcq78_0, gq78, efq78_0, afq78_0, bfq78_0, efq78_1, afq78_1, bfq78_1, uq78_0, uq78_1, uq78_2, uq78_3, uq78_4, uq78_5, uq78_6⟩ := wq78
                  dsimp only at uq78_3 uq78_4 uq78_5 uq78_6
                  refine ⟨_, gq78, ?_⟩
                  show gz gPP gGG gcn _ _ 112 [some (.ref x), some (.int (zi p)), some (.int (zi rn2)), some (.int (zi k)), some (.int (zi z31)), some (.int (zi z42)), some (.int (zi zq48))] [] hq78 _
                  have G79 : gSg [114] [] [56000, 56001, 56002, 56003, 80999, 114999] ty h tyq78 hq78 := gSg.tr (gSg.ss G62 sS75 (by decide)) xq78 (by decide) (by decide) (fun x hx => by cases hx)
                  have t80 : tyq78 x = 71 := gSg.typ xq78 sS75.1 t63 rfl
                  have t81 : tyq78 sk = 56 := gSg.typ xq78 sS75.1 t64 rfl
                  have t82 : tyq78 c29 = 73 := gSg.typ xq78 sS75.1 t65 rfl
                  have t83 : tyq78 bv2 = 114 := gSg.typ xq78 sS75.1 t66 rfl
                  have hl84 : hq78.2.2.2.1 bv2 = hq61.2.2.2.1 bv2 := gSg.len xq78 sS75.1 t66 rfl
                  have t85 : tyq78 cq61_0 = 114 := gSg.typ xq78 sS75.1 tcq61_0 rfl
                  have hl86 : hq78.2.2.2.1 cq61_0 = hq61.2.2.2.1 cq61_0 := gSg.len xq78 sS75.1 tcq61_0 rfl
                  have s87 := gSg.at xq78 sS75.1 t63 rfl (by decide) s68
                  have s88 := gSg.at xq78 sS75.1 t63 rfl (by decide) s69
                  have s89 := gSg.at xq78 sS75.1 t63 rfl (by decide) s70
                  have s90 := gSg.at xq78 sS75.1 t63 rfl (by decide) s71
                  have s91 := gSg.at xq78 sS75.1 t63 rfl (by decide) s72
                  have s92 := gSg.at xq78 sS75.1 t63 rfl (by decide) s73
                  have uq93 := gSg.uq xq78 uq74 (by decide)
                  have sS94 : gSs rT 1027 tyq78 [56000, 56001, 56002, 56003, 80999, 114999] hq78 hq78 := gSs.rf xq78.1
                  refine gy_s 4 (pc' := 11) (L' := [some (.ref x), some (.int (zi p)), some (.int (zi 0)), some (.int ((zi k) + zi 1)), some (.int (zi z31)), some (.int (zi z42)), some (.int (zi zq48))]) (S' := []) (L2 := [some (.ref x), some (.int (zi p)), some (.int (zi 0)), some (.int (zi (k + 1))), some (.int (zi z31)), some (.int (zi z42)), some (.int (zi zq48))]) (S2 := []) rfl (by simp only [zi_add, zi_sub, zi_mul, zi_neg, zi_and1, zi_and7, zi_and15, zi_and31, zi_and255]) (by simp only [zi_add, zi_sub, zi_mul, zi_neg, zi_and1, zi_and7, zi_and15, zi_and31, zi_and255]) ?_
                  have G95 : gSg [114] [] [56000, 56001, 56002, 56003, 80999, 114999] ty h tyq78 hq78 := gSg.ss G79 sS94 (by decide)
                  exact gz_wk (ihlp9 tyq78 hq78 cq78_0 0 (k + 1) fq78_0 fq78_1 (by omega) G95 uq93 t80 t81 ecq78_0 tcq78_0 (by omega) (by omega) (by omega) (by omega) (by omega) (by omega) (by omega) (by omega) (by omega) (by omega) (by omega) (by omega) (by omega) s87 s88 s89 s90 efq78_0 efq78_1) (gLw.s (gLw.s (gLw.s (gLw.s (gLw.n (gLw.n (gLw.n gLw.z)))))))
                · refine gy_ifF rfl (by decide) (by decide) (by omega) hc76 ?_
                  refine gy_s 6 (pc' := 109) (L' := [some (.ref x), some (.int (zi p)), some (.int (zi rn2)), some (.int (zi k)), some (.int (zi z31)), some (.int (zi z42)), some (.int (zi zq48))]) (S' := [.int (zi zq48), .int ((-(zi z42)) - (zi 1)), .ref x]) (L2 := [some (.ref x), some (.int (zi p)), some (.int (zi rn2)), some (.int (zi k)), some (.int (zi z31)), some (.int (zi z42)), some (.int (zi zq48))]) (S2 := [.int (zi zq48), .int (zi ((-z42) - 1)), .ref x]) rfl (by simp only [zi_add, zi_sub, zi_mul, zi_neg, zi_and1, zi_and7, zi_and15, zi_and31, zi_and255]) (by simp only [zi_add, zi_sub, zi_mul, zi_neg, zi_and1, zi_and7, zi_and15, zi_and31, zi_and255]) ?_
                  have hl96 : hq61.2.2.2.1 cq61_0 = hq61.2.2.2.1 cq61_0 := congrFun sS75.2.2.2.2.1 cq61_0
                  refine gz_call rfl (by decide) rfl (by decide) (by decide) (gcal_of rfl rfl rfl (Nat.le_of_ble_eq_true rfl) (gJ.recv (G := gGG) sS75.1 t63 rfl rfl)) (cl_Writer_putPlain _ sS75.1 x t63 ((-z42) - 1) (by omega) zq48 (by omega) sk s68 t64 cq61_0 ecq61_0 tcq61_0 fq61_0 efq61_0 (by omega) fq61_1 efq61_1 (by omega) cg s69 (by omega) (by omega) (by omega) uq74) (fun q97 _ wq97 => ?_)
                  obtain ⟨pq97, oq97, hq97⟩ := q97
                  obtain ⟨tyq97, xq97, cq97_0, ttq97, fq97_0, fq97_1, ecq97_0, tcq97_0, gq97, efq97_0, afq97_0, bfq97_0, efq97_1, afq97_1, bfq97_1, uq97_0, uq97_1, uq97_2, uq97_3, uq97_4, uq97_5, uq97_6⟩ := wq97
                  dsimp only at uq97_3 uq97_4 uq97_5 uq97_6
                  refine ⟨_, gq97, ?_⟩
                  show gz gPP gGG gcn _ _ 112 [some (.ref x), some (.int (zi p)), some (.int (zi rn2)), some (.int (zi k)), some (.int (zi z31)), some (.int (zi z42)), some (.int (zi zq48))] [] hq97 _
                  have G98 : gSg [114] [] [56000, 56001, 56002, 56003, 80999, 114999] ty h tyq97 hq97 := gSg.tr (gSg.ss G62 sS75 (by decide)) xq97 (by decide) (by decide) (fun x hx => by cases hx)
                  have t99 : tyq97 x = 71 := gSg.typ xq97 sS75.1 t63 rfl
                  have t100 : tyq97 sk = 56 := gSg.typ xq97 sS75.1 t64 rfl
                  have t101 : tyq97 c29 = 73 := gSg.typ xq97 sS75.1 t65 rfl
                  have t102 : tyq97 bv2 = 114 := gSg.typ xq97 sS75.1 t66 rfl
                  have hl103 : hq97.2.2.2.1 bv2 = hq61.2.2.2.1 bv2 := gSg.len xq97 sS75.1 t66 rfl
                  have t104 : tyq97 cq61_0 = 114 := gSg.typ xq97 sS75.1 tcq61_0 rfl
                  have hl105 : hq97.2.2.2.1 cq61_0 = hq61.2.2.2.1 cq61_0 := gSg.len xq97 sS75.1 tcq61_0 rfl
                  have s106 := gSg.at xq97 sS75.1 t63 rfl (by decide) s68
                  have s107 := gSg.at xq97 sS75.1 t63 rfl (by decide) s69
                  have s108 := gSg.at xq97 sS75.1 t63 rfl (by decide) s70
                  have s109 := gSg.at xq97 sS75.1 t63 rfl (by decide) s71
                  have s110 := gSg.at xq97 sS75.1 t63 rfl (by decide) s72
                  have s111 := gSg.at xq97 sS75.1 t63 rfl (by decide) s73
                  have uq112 := gSg.uq xq97 uq74 (by decide)
                  have sS113 : gSs rT 1027 tyq97 [56000, 56001, 56002, 56003, 80999, 114999] hq97 hq97 := gSs.rf xq97.1
                  refine gy_s 4 (pc' := 11) (L' := [some (.ref x), some (.int (zi p)), some (.int (zi 0)), some (.int ((zi k) + zi 1)), some (.int (zi z31)), some (.int (zi z42)), some (.int (zi zq48))]) (S' := []) (L2 := [some (.ref x), some (.int (zi p)), some (.int (zi 0)), some (.int (zi (k + 1))), some (.int (zi z31)), some (.int (zi z42)), some (.int (zi zq48))]) (S2 := []) rfl (by simp only [zi_add, zi_sub, zi_mul, zi_neg, zi_and1, zi_and7, zi_and15, zi_and31, zi_and255]) (by simp only [zi_add, zi_sub, zi_mul, zi_neg, zi_and1, zi_and7, zi_and15, zi_and31, zi_and255]) ?_
                  have G114 : gSg [114] [] [56000, 56001, 56002, 56003, 80999, 114999] ty h tyq97 hq97 := gSg.ss G98 sS113 (by decide)
                  exact gz_wk (ihlp9 tyq97 hq97 cq97_0 0 (k + 1) fq97_0 fq97_1 (by omega) G114 uq112 t99 t100 ecq97_0 tcq97_0 (by omega) (by omega) (by omega) (by omega) (by omega) (by omega) (by omega) (by omega) (by omega) (by omega) (by omega) (by omega) (by omega) s106 s107 s108 s109 efq97_0 efq97_1) (gLw.s (gLw.s (gLw.s (gLw.s (gLw.n (gLw.n (gLw.n gLw.z)))))))
              · refine gy_icF rfl (by decide) (by decide) (by omega) (by omega) hc47 ?_
                refine gz_s 3 (pc' := 63) (L' := [some (.ref x), some (.int (zi p)), some (.int (zi rn2)), some (.int (zi k)), some (.int (zi z31)), some (.int (zi z42)), none]) (S' := [.int (zi 240), .int (zi 1), .ref x]) rfl ?_
                have hl115 : h45.2.2.2.1 bv2 = h45.2.2.2.1 bv2 := congrFun sh45.2.2.2.2.1 bv2
                refine gz_call rfl (by decide) rfl (by decide) (by decide) (gcal_of rfl rfl rfl (Nat.le_of_ble_eq_true rfl) (gJ.recv (G := gGG) sh45.1 lp44c0 rfl rfl)) (cl_putSymbol1 _ sh45.1 x lp44c0 1 (by omega) 240 (by omega) sk lp44k0 lp44c1 bv2 lp44r0 lp44r1 cv2 lp44k6 (by omega) hv2 lp44k7 (by omega) cg lp44k1 (by omega) (by omega) (by omega) lp44u) (fun q116 _ wq116 => ?_)
                obtain ⟨pq116, oq116, hq116⟩ := q116
                obtain ⟨tyq116, xq116, cq116_0, ttq116, fq116_0, fq116_1, ecq116_0, tcq116_0, gq116, efq116_0, afq116_0, bfq116_0, efq116_1, afq116_1, bfq116_1, uq116_0, uq116_1, uq116_2, uq116_3, uq116_4, uq116_5, uq116_6⟩ := wq116
                dsimp only at uq116_3 uq116_4 uq116_5 uq116_6
                refine ⟨_, gq116, ?_⟩
                show gz gPP gGG gcn _ _ 66 [some (.ref x), some (.int (zi p)), some (.int (zi rn2)), some (.int (zi k)), some (.int (zi z31)), some (.int (zi z42)), none] [] hq116 _
                have G117 : gSg [114] [] [56000, 56001, 56002, 56003, 80999, 114999] ty h tyq116 hq116 := gSg.tr (gSg.ss lp44G sh45 (by decide)) xq116 (by decide) (by decide) (fun x hx => by cases hx)
                have t118 : tyq116 x = 71 := gSg.typ xq116 sh45.1 lp44c0 rfl
                have t119 : tyq116 sk = 56 := gSg.typ xq116 sh45.1 lp44c1 rfl
                have t120 : tyq116 c29 = 73 := gSg.typ xq116 sh45.1 lp44c2 rfl
                have t121 : tyq116 bv2 = 114 := gSg.typ xq116 sh45.1 lp44r1 rfl
                have hl122 : hq116.2.2.2.1 bv2 = h45.2.2.2.1 bv2 := gSg.len xq116 sh45.1 lp44r1 rfl
                have s123 := gSg.at xq116 sh45.1 lp44c0 rfl (by decide) lp44k0
                have s124 := gSg.at xq116 sh45.1 lp44c0 rfl (by decide) lp44k1
                have s125 := gSg.at xq116 sh45.1 lp44c0 rfl (by decide) lp44k2
                have s126 := gSg.at xq116 sh45.1 lp44c0 rfl (by decide) lp44k3
                have s127 := gSg.at xq116 sh45.1 lp44c0 rfl (by decide) lp44k4
                have s128 := gSg.at xq116 sh45.1 lp44c0 rfl (by decide) lp44k5
                have uq129 := gSg.uq xq116 lp44u (by decide)
                have sS130 : gSs rT 1027 tyq116 [56000, 56001, 56002, 56003, 80999, 114999] hq116 hq116 := gSs.rf xq116.1
                refine gy_s 2 (pc' := 52) (L' := [some (.ref x), some (.int (zi p)), some (.int ((zi rn2) + zi (-16))), some (.int (zi k)), some (.int (zi z31)), some (.int (zi z42)), none]) (S' := []) (L2 := [some (.ref x), some (.int (zi p)), some (.int (zi (rn2 + (-16)))), some (.int (zi k)), some (.int (zi z31)), some (.int (zi z42)), none]) (S2 := []) rfl (by simp only [zi_add, zi_sub, zi_mul, zi_neg, zi_and1, zi_and7, zi_and15, zi_and31, zi_and255]) (by simp only [zi_add, zi_sub, zi_mul, zi_neg, zi_and1, zi_and7, zi_and15, zi_and31, zi_and255]) ?_
                have G131 : gSg [114] [] [56000, 56001, 56002, 56003, 80999, 114999] ty h tyq116 hq116 := gSg.ss G117 sS130 (by decide)
                exact gz_wk (ihlp44 tyq116 hq116 cq116_0 (rn2 + (-16)) fq116_0 fq116_1 (by omega) G131 uq129 t118 t119 t120 ecq116_0 tcq116_0 (by omega) (by omega) (by omega) (by omega) (by omega) (by omega) (by omega) (by omega) (by omega) (by omega) (by omega) s123 s124 s125 s126 s127 s128 efq116_0 efq116_1) (gLw.s (gLw.s (gLw.s (gLw.s (gLw.s (gLw.s (gLw.n gLw.z)))))))
          have k132 := sq32.2.1
          have k132b := sq32.2.2.1
          have hl133 : hq32.2.2.2.1 bv = h10.2.2.2.1 bv := congrFun sq32.2.2.2.2.1 bv
          have G134 : gSg [114] [] [56000, 56001, 56002, 56003, 80999, 114999] ty h ty11 hq32 := gSg.ss lp9G sq32 (by decide)
          exact gz_wk (lp44 _ ty11 hq32 bv rn cv hv (Nat.lt_succ_self _) G134 lp9u lp9c0 lp9c1 tc29 s39 lp9r1 (by omega) (by omega) (by omega) (by omega) (by omega) (by omega) (by omega) (by omega) (by omega) (by omega) (by omega) s33 s34 s35 s36 s40 ez41 s37 s38) (gLw.s (gLw.s (gLw.s (gLw.s (gLw.s (gLw.s (gLw.n gLw.z)))))))
        · refine gy_ifF rfl (by decide) (by decide) (by omega) hc43 ?_
          refine gy_s 4 (pc' := 11) (L' := [some (.ref x), some (.int (zi p)), some (.int ((zi rn) + zi 1)), some (.int ((zi k) + zi 1)), some (.int (zi z31)), some (.int (zi z42)), none]) (S' := []) (L2 := [some (.ref x), some (.int (zi p)), some (.int (zi (rn + 1))), some (.int (zi (k + 1))), some (.int (zi z31)), some (.int (zi z42)), none]) (S2 := []) rfl (by simp only [zi_add, zi_sub, zi_mul, zi_neg, zi_and1, zi_and7, zi_and15, zi_and31, zi_and255]) (by simp only [zi_add, zi_sub, zi_mul, zi_neg, zi_and1, zi_and7, zi_and15, zi_and31, zi_and255]) ?_
          have k135 := sq32.2.1
          have k135b := sq32.2.2.1
          have hl136 : hq32.2.2.2.1 bv = h10.2.2.2.1 bv := congrFun sq32.2.2.2.2.1 bv
          have G137 : gSg [114] [] [56000, 56001, 56002, 56003, 80999, 114999] ty h ty11 hq32 := gSg.ss lp9G sq32 (by decide)
          exact gz_wk (ihlp9 ty11 hq32 bv (rn + 1) (k + 1) cv hv (by omega) G137 lp9u lp9c0 lp9c1 s39 lp9r1 (by omega) (by omega) (by omega) (by omega) (by omega) (by omega) (by omega) (by omega) (by omega) (by omega) (by omega) (by omega) (by omega) s33 s34 s35 s36 s37 s38) (gLw.s (gLw.s (gLw.s (gLw.s (gLw.n (gLw.n (gLw.n gLw.z)))))))
  have k138 := sq1.2.1
  have k138b := sq1.2.2.1
  have hl139 : hq1.2.2.2.1 bt = h.2.2.2.1 bt := congrFun sq1.2.2.2.2.1 bt
  have G140 : gSg [114] [] [56000, 56001, 56002, 56003, 80999, 114999] ty h ty hq1 := gSg.ss G0 sq1 (by decide)
  exact gz_wk (lp9 _ ty hq1 bt 0 zq1 c0 h0 (Nat.lt_succ_self _) G140 uq tx tsk s3 tbt (by omega) (by omega) (by omega) (by omega) (by omega) (by omega) (by omega) (by omega) (by omega) (by omega) (by omega) (by omega) (by omega) s2 s6 s7 s8 s4 s5) (gLw.s (gLw.s (gLw.s (gLw.s (gLw.n (gLw.n (gLw.n gLw.z)))))))
set_option maxRecDepth 20000 in
set_option maxHeartbeats 4000000 in
theorem cl_Writer_lastNew (d : Nat) {ty : Nat → Nat} {h : gH} (hJ : gJ rT 1027 ty h) (x : Nat) (tx : ty x = 71) (p : Int) (rp : 0 ≤ p ∧ p ≤ 960) (fr : Int) (efr : h.2.2.2.2 x 7 = .int (zi fr)) (rfr : 0 ≤ fr ∧ fr ≤ 63) (tt : Int) (ett : h.2.2.2.2 x 8 = .int (zi tt)) (rtt : 0 ≤ tt ∧ tt ≤ 63) (lw : Int) (elw : h.2.2.2.2 x 10 = .int (zi lw)) (rlw : 0 ≤ lw ∧ lw ≤ 3) (pp0 : fr ≤ tt) (uq : gUq ty) : gz gPP gGG gcn (d + 1) gt118 0 (gent [.ref x, .int (zi p)] 4) [] h (fun q _ => gSs rT 1027 ty [] h q.2.2 ∧ ∃ z : Int, gfin gt118 q.1 q.2.1 = some (some (.int (zi z))) ∧ (-1) ≤ z ∧ z ≤ 63 ∧ (gLc ty p fr (tt + 1) z lw q.2.2)) := by
  have hS : gSs rT 1027 ty [] h h := gSs.rf hJ
  refine gz_s 3 (pc' := 3) (L' := [some (.ref x), some (.int (zi p)), some (.int (zi (-1))), none]) (S' := [.ref x]) rfl ?_
  refine gs_gtk rfl (by decide) rfl hS.1 tx rfl rfl efr ?_
  refine gz_s 1 (pc' := 7) (L' := [some (.ref x), some (.int (zi p)), some (.int (zi (-1))), some (.int (zi fr))]) (S' := []) rfl ?_
  have lp1 : ∀ (fu : Nat) (h2 : gH) (ls : Int) (k : Int), (65 - k).toNat < fu → gSs rT 1027 ty [] h h2 → ((-1) ≤ ls ∧ ls ≤ 63) → (0 ≤ k ∧ k ≤ 64) → (fr ≤ k) → (k ≤ tt + 1) → (ls < k) → h2.2.2.2.2 x 7 = .int (zi fr) → h2.2.2.2.2 x 8 = .int (zi tt) → h2.2.2.2.2 x 10 = .int (zi lw) → gLc ty p fr k ls lw h2 → gz gPP gGG gcn (d + 1) gt118 7 [some (.ref x), some (.int (zi p)), some (.int (zi ls)), some (.int (zi k))] [] h2 (fun q _ => gSs rT 1027 ty [] h q.2.2 ∧ ∃ z : Int, gfin gt118 q.1 q.2.1 = some (some (.int (zi z))) ∧ (-1) ≤ z ∧ z ≤ 63 ∧ (gLc ty p fr (tt + 1) z lw q.2.2)) := by
    intro fu
    induction fu with
    | zero => intro h2 ls k hm; exact absurd hm (Nat.not_lt_zero _)
    | succ fu ihlp1 =>
      intro h2 ls k lp1m sh2 lp1f0 lp1f1 lp1f2 lp1f3 lp1f4 lp1k0 lp1k1 lp1k2 lp1k3
      refine gz_s 2 (pc' := 9) (L' := [some (.ref x), some (.int (zi p)), some (.int (zi ls)), some (.int (zi k))]) (S' := [.ref x, .int (zi k)]) rfl ?_
      refine gs_gtk rfl (by decide) rfl sh2.1 tx rfl rfl lp1k1 ?_
      by_cases hc3 : (tt : Int) < k
      · refine gy_icT (pc' := 43) rfl (by decide) (by decide) (by omega) (by omega) hc3 ?_
        refine gz_s 1 (pc' := 44) (L' := [some (.ref x), some (.int (zi p)), some (.int (zi ls)), some (.int (zi k))]) (S' := [.int (zi ls)]) rfl ?_
        have hlc4 : gLc ty p fr (tt + 1) ls lw h2 := by
          have e9 := lp1k3
          rw [(by omega : k = tt + 1)] at e9
          exact e9
        exact gz_end (I := .ireturn) (len := 1) rfl (Or.inl rfl) ⟨sh2, ls, rfl, (by omega), (by omega), hlc4⟩
      · refine gy_icF rfl (by decide) (by decide) (by omega) (by omega) hc3 ?_
        refine gz_s 1 (pc' := 16) (L' := [some (.ref x), some (.int (zi p)), some (.int (zi ls)), some (.int (zi k))]) (S' := [.ref x]) rfl ?_
        refine gs_gtr rfl (by decide) rfl sh2.1 tx rfl rfl rfl (fun c5 ec5 tc5 => ?_)
        refine gy_s 3 (pc' := 22) (L' := [some (.ref x), some (.int (zi p)), some (.int (zi ls)), some (.int (zi k))]) (S' := [.int ((zi p) + (zi k)), .ref c5]) (L2 := [some (.ref x), some (.int (zi p)), some (.int (zi ls)), some (.int (zi k))]) (S2 := [.int (zi (p + k)), .ref c5]) rfl (by simp only [zi_add, zi_sub, zi_mul, zi_neg, zi_and1, zi_and7, zi_and15, zi_and31, zi_and255]) (by simp only [zi_add, zi_sub, zi_mul, zi_neg, zi_and1, zi_and7, zi_and15, zi_and31, zi_and255]) ?_
        have hl6 : 1024 ≤ h2.2.2.2.1 c5 ∧ h2.2.2.2.1 c5 ≤ 1024 := gJ.rowl (G := gGG) sh2.1 tc5 rfl
        refine gs_ald rfl (by decide) sh2.1 tc5 rfl rfl rfl (by decide) (fun _ => rfl) (by omega) (by omega) (fun z7 ez7 az7 bz7 => ?_)
        have hlq8 : gLq ty p fr k ls lw z7 h2 := ⟨lp1k3, ⟨by omega, by omega⟩, fun c hc => by
          have e9 : c = c5 := uq c c5 (hc.trans tc5.symm) (by rw [hc]; decide) (by rw [hc]; decide)
          rw [e9]
          exact ez7⟩
        refine gz_call rfl (by decide) rfl (by decide) (by decide) (gcal_of rfl rfl rfl (Nat.le_of_ble_eq_true rfl) rfl) (cl_Math_abs _ sh2.1 z7 (by omega) ) (fun q9 _ wq9 => ?_)
        obtain ⟨pq9, oq9, hq9⟩ := q9
        obtain ⟨xq9, zq9, gq9, aq9, bq9, uq9_0, uq9_1⟩ := wq9
        refine ⟨_, gq9, ?_⟩
        show gz gPP gGG gcn _ _ 26 [some (.ref x), some (.int (zi p)), some (.int (zi ls)), some (.int (zi k))] [.int (zi zq9)] hq9 _
        have sq9 : gSs rT 1027 ty [] h hq9 := gSs.tr sh2 xq9 (by decide)
        have s10 := (xq9.2.2.2.2.2 x 7 (by rw [tx]; decide)).trans lp1k0
        have s11 := (xq9.2.2.2.2.2 x 8 (by rw [tx]; decide)).trans lp1k1
        have s12 := (xq9.2.2.2.2.2 x 10 (by rw [tx]; decide)).trans lp1k2
        have s13 := (xq9.2.2.2.2.2 x 2 (by rw [tx]; decide)).trans ec5
        have pr14 := gLq.fr xq9.2 (by decide) hlq8
        refine gz_s 1 (pc' := 27) (L' := [some (.ref x), some (.int (zi p)), some (.int (zi ls)), some (.int (zi k))]) (S' := [.ref x, .int (zi zq9)]) rfl ?_
        refine gs_gtk rfl (by decide) rfl sq9.1 tx rfl rfl s12 ?_
        refine gy_shr rfl (by decide) (by omega) (by omega) ?_
        have hx15 := zsh_b (a := zq9) (n := lw) (by omega)
        refine gz_s 1 (pc' := 32) (L' := [some (.ref x), some (.int (zi p)), some (.int (zi ls)), some (.int (zi k))]) (S' := [.int (zi 1), .int (zi (zq9 / 2 ^ (lw).toNat))]) rfl ?_
        by_cases hc16 : ¬ (zq9 / 2 ^ (lw).toNat : Int) = 1
        · refine gy_icT (pc' := 37) rfl (by decide) (by decide) (by omega) (by omega) hc16 ?_
          have hA : (if z7 < 0 then -z7 else z7) = zq9 := by split <;> omega
          have hlc17 : gLc ty p fr (k + 1) ls lw hq9 := gLq.step pr14 (by omega) (by rw [hA]; omega) ⟨_, tc5⟩
          refine gy_s 2 (pc' := 7) (L' := [some (.ref x), some (.int (zi p)), some (.int (zi ls)), some (.int ((zi k) + zi 1))]) (S' := []) (L2 := [some (.ref x), some (.int (zi p)), some (.int (zi ls)), some (.int (zi (k + 1)))]) (S2 := []) rfl (by simp only [zi_add, zi_sub, zi_mul, zi_neg, zi_and1, zi_and7, zi_and15, zi_and31, zi_and255]) (by simp only [zi_add, zi_sub, zi_mul, zi_neg, zi_and1, zi_and7, zi_and15, zi_and31, zi_and255]) ?_
          exact gz_wk (ihlp1 hq9 ls (k + 1) (by omega) sq9 (by omega) (by omega) (by omega) (by omega) (by omega) s10 s11 s12 hlc17) (gLw.s (gLw.s (gLw.s (gLw.s gLw.z))))
        · refine gy_icF rfl (by decide) (by decide) (by omega) (by omega) hc16 ?_
          refine gz_s 2 (pc' := 37) (L' := [some (.ref x), some (.int (zi p)), some (.int (zi k)), some (.int (zi k))]) (S' := []) rfl ?_
          have hA : (if z7 < 0 then -z7 else z7) = zq9 := by split <;> omega
          have hlc18 : gLc ty p fr (k + 1) k lw hq9 := gLq.step pr14 (by omega) (by rw [hA]; omega) ⟨_, tc5⟩
          refine gy_s 2 (pc' := 7) (L' := [some (.ref x), some (.int (zi p)), some (.int (zi k)), some (.int ((zi k) + zi 1))]) (S' := []) (L2 := [some (.ref x), some (.int (zi p)), some (.int (zi k)), some (.int (zi (k + 1)))]) (S2 := []) rfl (by simp only [zi_add, zi_sub, zi_mul, zi_neg, zi_and1, zi_and7, zi_and15, zi_and31, zi_and255]) (by simp only [zi_add, zi_sub, zi_mul, zi_neg, zi_and1, zi_and7, zi_and15, zi_and31, zi_and255]) ?_
          exact gz_wk (ihlp1 hq9 k (k + 1) (by omega) sq9 (by omega) (by omega) (by omega) (by omega) (by omega) s10 s11 s12 hlc18) (gLw.s (gLw.s (gLw.s (gLw.s gLw.z))))
  exact gz_wk (lp1 _ h (-1) fr (Nat.lt_succ_self _) hS (by omega) (by omega) (by omega) (by omega) (by omega) efr ett elw (fun j h1 h2 => absurd h2 (by omega))) (gLw.s (gLw.s (gLw.s (gLw.s gLw.z))))
set_option maxRecDepth 20000 in
set_option maxHeartbeats 4000000 in
theorem cl_Writer_putWaiting (d : Nat) {ty : Nat → Nat} {h : gH} (hJ : gJ rT 1027 ty h) (x : Nat) (tx : ty x = 71) (sk : Nat) (esk : h.2.2.2.2 x 0 = .ref sk) (tsk : ty sk = 56) (bt : Nat) (ebt : h.2.2.2.2 sk 0 = .ref bt) (tbt : ty bt = 114) (c0 : Int) (ec0 : h.2.2.2.2 sk 1 = .int (zi c0)) (rc0 : 0 ≤ c0 ∧ c0 ≤ 499999) (h0 : Int) (eh0 : h.2.2.2.2 sk 3 = .int (zi h0)) (rh0 : 0 ≤ h0 ∧ h0 ≤ 7) (cg : Int) (ecg : h.2.2.2.2 x 11 = .int (zi cg)) (rcg : 0 ≤ cg ∧ cg ≤ 1) (wc : Int) (ewc : h.2.2.2.2 x 14 = .int (zi wc)) (rwc : 0 ≤ wc ∧ wc ≤ 64) (pp0 : 4 * c0 + h0 + wc ≤ 1999990) (pp1 : c0 ≤ (h.2.2.2.1 bt : Int)) (uq : gUq ty) : gz gPP gGG gcn (d + 4) gt119 0 (gent [.ref x] 2) [] h (fun q _ => ∃ ty9 : Nat → Nat, gSg [114] [] [56000, 56001, 56002, 56003, 71014, 114999] ty h ty9 q.2.2 ∧ ∃ bt2 : Nat, True ∧ ∃ c1 h1 w1 : Int, q.2.2.2.2.2.2 sk 0 = .ref bt2 ∧ ty9 bt2 = 114 ∧ gfin gt119 q.1 q.2.1 = some none ∧ q.2.2.2.2.2.2 sk 1 = .int (zi c1) ∧ 0 ≤ c1 ∧ c1 ≤ 500000 ∧ q.2.2.2.2.2.2 sk 3 = .int (zi h1) ∧ 0 ≤ h1 ∧ h1 ≤ 7 ∧ q.2.2.2.2.2.2 x 14 = .int (zi w1) ∧ 0 ≤ w1 ∧ w1 ≤ 64 ∧ (4 * c1 + h1 ≤ 4 * c0 + h0 + wc) ∧ (c0 ≤ c1) ∧ (cg = 1 → (c1 = c0 ∧ h1 = h0)) ∧ (1024 * ((q.2.2.1 : Int) - h.1) ≤ (q.2.2.2.2.2.1 bt2 : Int) - h.2.2.2.1 bt) ∧ (((q.2.2.2.1 : Int) - h.2.1) ≤ 2 * ((q.2.2.2.2.2.1 bt2 : Int) - h.2.2.2.1 bt)) ∧ ((h.2.2.2.1 bt : Int) ≤ (q.2.2.2.2.2.1 bt2 : Int)) ∧ (w1 = 0) ∧ (c1 ≤ (q.2.2.2.2.2.1 bt2 : Int))) := by
  have hS : gSs rT 1027 ty [56000, 56001, 56002, 56003, 71014, 114999] h h := gSs.rf hJ
  have G0 : gSg [114] [] [56000, 56001, 56002, 56003, 71014, 114999] ty h ty h := gSg.rf hJ (fun x hx => by cases hx)
  refine gz_s 1 (pc' := 1) (L' := [some (.ref x), none]) (S' := [.ref x]) rfl ?_
  refine gs_gtk rfl (by decide) rfl hS.1 tx rfl rfl ewc ?_
  refine gy_s 3 (pc' := 7) (L' := [some (.ref x), some (.int ((zi wc) - (zi 1)))]) (S' := []) (L2 := [some (.ref x), some (.int (zi (wc - 1)))]) (S2 := []) rfl (by simp only [zi_add, zi_sub, zi_mul, zi_neg, zi_and1, zi_and7, zi_and15, zi_and31, zi_and255]) (by simp only [zi_add, zi_sub, zi_mul, zi_neg, zi_and1, zi_and7, zi_and15, zi_and31, zi_and255]) ?_
  have lp1 : ∀ (fu : Nat) (ty3 : Nat → Nat) (h2 : gH) (bv : Nat) (i : Int) (cv : Int) (hv : Int), (i + 1).toNat < fu → gSg [114] [] [56000, 56001, 56002, 56003, 71014, 114999] ty h ty3 h2 → gUq ty3 → ty3 x = 71 → ty3 sk = 56 → h2.2.2.2.2 sk 0 = .ref bv → ty3 bv = 114 → ((-1) ≤ i ∧ i ≤ 63) → (0 ≤ cv ∧ cv ≤ 499999) → (0 ≤ hv ∧ hv ≤ 7) → (4 * cv + hv ≤ 4 * c0 + h0 + (wc - 1 - i)) → (c0 ≤ cv) → (cg = 1 → (cv = c0 ∧ hv = h0)) → (i ≤ wc - 1) → (1024 * ((h2.1 : Int) - h.1) ≤ (h2.2.2.2.1 bv : Int) - h.2.2.2.1 bt) → (((h2.2.1 : Int) - h.2.1) ≤ 2 * ((h2.2.2.2.1 bv : Int) - h.2.2.2.1 bt)) → ((h.2.2.2.1 bt : Int) ≤ (h2.2.2.2.1 bv : Int)) → (cv ≤ (h2.2.2.2.1 bv : Int)) → h2.2.2.2.2 x 0 = .ref sk → h2.2.2.2.2 x 11 = .int (zi cg) → h2.2.2.2.2 x 14 = .int (zi wc) → h2.2.2.2.2 sk 1 = .int (zi cv) → h2.2.2.2.2 sk 3 = .int (zi hv) → gz gPP gGG gcn (d + 4) gt119 7 [some (.ref x), some (.int (zi i))] [] h2 (fun q _ => ∃ ty9 : Nat → Nat, gSg [114] [] [56000, 56001, 56002, 56003, 71014, 114999] ty h ty9 q.2.2 ∧ ∃ bt2 : Nat, True ∧ ∃ c1 h1 w1 : Int, q.2.2.2.2.2.2 sk 0 = .ref bt2 ∧ ty9 bt2 = 114 ∧ gfin gt119 q.1 q.2.1 = some none ∧ q.2.2.2.2.2.2 sk 1 = .int (zi c1) ∧ 0 ≤ c1 ∧ c1 ≤ 500000 ∧ q.2.2.2.2.2.2 sk 3 = .int (zi h1) ∧ 0 ≤ h1 ∧ h1 ≤ 7 ∧ q.2.2.2.2.2.2 x 14 = .int (zi w1) ∧ 0 ≤ w1 ∧ w1 ≤ 64 ∧ (4 * c1 + h1 ≤ 4 * c0 + h0 + wc) ∧ (c0 ≤ c1) ∧ (cg = 1 → (c1 = c0 ∧ h1 = h0)) ∧ (1024 * ((q.2.2.1 : Int) - h.1) ≤ (q.2.2.2.2.2.1 bt2 : Int) - h.2.2.2.1 bt) ∧ (((q.2.2.2.1 : Int) - h.2.1) ≤ 2 * ((q.2.2.2.2.2.1 bt2 : Int) - h.2.2.2.1 bt)) ∧ ((h.2.2.2.1 bt : Int) ≤ (q.2.2.2.2.2.1 bt2 : Int)) ∧ (w1 = 0) ∧ (c1 ≤ (q.2.2.2.2.2.1 bt2 : Int))) := by
    intro fu
    induction fu with
    | zero => intro ty3 h2 bv i cv hv hm; exact absurd hm (Nat.not_lt_zero _)
    | succ fu ihlp1 =>
      intro ty3 h2 bv i cv hv lp1m lp1G lp1u lp1c0 lp1c1 lp1r0 lp1r1 lp1f0 lp1f1 lp1f2 lp1f3 lp1f4 lp1f5 lp1f6 lp1f7 lp1f8 lp1f9 lp1f10 lp1k0 lp1k1 lp1k2 lp1k3 lp1k4
      have sh2 : gSs rT 1027 ty3 [56000, 56001, 56002, 56003, 71014, 114999] h2 h2 := gSs.rf lp1G.1
      refine gz_s 1 (pc' := 8) (L' := [some (.ref x), some (.int (zi i))]) (S' := [.int (zi i)]) rfl ?_
      by_cases hc4 : (i : Int) < 0
      · refine gy_ifT (pc' := 41) rfl (by decide) (by decide) (by omega) hc4 ?_
        refine gz_s 2 (pc' := 43) (L' := [some (.ref x), some (.int (zi i))]) (S' := [.int (zi 0), .ref x]) rfl ?_
        refine gs_put rfl (by decide) rfl sh2 lp1c0 rfl rfl rfl rfl (Or.inl rfl) (by decide) (by omega) (by omega) (fun h5 sh5 eh5 fh5 => ?_)
        have s6 := (fh5 x 0 (fun q => absurd q.2 (by decide))).trans lp1k0
        have s7 := (fh5 x 11 (fun q => absurd q.2 (by decide))).trans lp1k1
        have s8 := (fh5 sk 1 (fun q => absurd q.2 (by decide))).trans lp1k3
        have s9 := (fh5 sk 3 (fun q => absurd q.2 (by decide))).trans lp1k4
        have s10 := (fh5 sk 0 (fun q => absurd q.2 (by decide))).trans lp1r0
        have k11 := sh5.2.1
        have k11b := sh5.2.2.1
        have hl12 : h5.2.2.2.1 bv = h2.2.2.2.1 bv := congrFun sh5.2.2.2.2.1 bv
        have G13 : gSg [114] [] [56000, 56001, 56002, 56003, 71014, 114999] ty h ty3 h5 := gSg.ss lp1G sh5 (by decide)
        exact gz_end (I := .return_) (len := 1) rfl (Or.inl rfl) ⟨ty3, G13, bv, trivial, cv, hv, 0, s10, lp1r1, rfl, s8, (by omega), (by omega), s9, (by omega), (by omega), eh5, (by omega), (by omega), (by omega), (by omega), (by omega), (by dsimp only; omega), (by dsimp only; omega), (by dsimp only; omega), (by omega), (by dsimp only; omega)⟩
      · refine gy_ifF rfl (by decide) (by decide) (by omega) hc4 ?_
        refine gz_s 1 (pc' := 12) (L' := [some (.ref x), some (.int (zi i))]) (S' := [.ref x]) rfl ?_
        refine gs_gtk rfl (by decide) rfl sh2.1 lp1c0 rfl rfl lp1k1 ?_
        by_cases hc14 : ¬ (cg : Int) = 0
        · refine gy_ifT (pc' := 41) rfl (by decide) (by decide) (by omega) hc14 ?_
          refine gz_s 2 (pc' := 43) (L' := [some (.ref x), some (.int (zi i))]) (S' := [.int (zi 0), .ref x]) rfl ?_
          refine gs_put rfl (by decide) rfl sh2 lp1c0 rfl rfl rfl rfl (Or.inl rfl) (by decide) (by omega) (by omega) (fun h15 sh15 eh15 fh15 => ?_)
          have s16 := (fh15 x 0 (fun q => absurd q.2 (by decide))).trans lp1k0
          have s17 := (fh15 x 11 (fun q => absurd q.2 (by decide))).trans lp1k1
          have s18 := (fh15 sk 1 (fun q => absurd q.2 (by decide))).trans lp1k3
          have s19 := (fh15 sk 3 (fun q => absurd q.2 (by decide))).trans lp1k4
          have s20 := (fh15 sk 0 (fun q => absurd q.2 (by decide))).trans lp1r0
          have k21 := sh15.2.1
          have k21b := sh15.2.2.1
          have hl22 : h15.2.2.2.1 bv = h2.2.2.2.1 bv := congrFun sh15.2.2.2.2.1 bv
          have G23 : gSg [114] [] [56000, 56001, 56002, 56003, 71014, 114999] ty h ty3 h15 := gSg.ss lp1G sh15 (by decide)
          exact gz_end (I := .return_) (len := 1) rfl (Or.inl rfl) ⟨ty3, G23, bv, trivial, cv, hv, 0, s20, lp1r1, rfl, s18, (by omega), (by omega), s19, (by omega), (by omega), eh15, (by omega), (by omega), (by omega), (by omega), (by omega), (by dsimp only; omega), (by dsimp only; omega), (by dsimp only; omega), (by omega), (by dsimp only; omega)⟩
        · refine gy_ifF rfl (by decide) (by decide) (by omega) hc14 ?_
          refine gz_s 1 (pc' := 19) (L' := [some (.ref x), some (.int (zi i))]) (S' := [.ref x]) rfl ?_
          refine gs_gtk rfl (by decide) rfl sh2.1 lp1c0 rfl rfl lp1k0 ?_
          refine gz_s 1 (pc' := 23) (L' := [some (.ref x), some (.int (zi i))]) (S' := [.ref x, .ref sk]) rfl ?_
          refine gs_getl rfl (by decide) rfl sh2.1 lp1c0 rfl rfl rfl (fun z24 ez24 az24 bz24 => ?_)
          refine gz_s 1 (pc' := 27) (L' := [some (.ref x), some (.int (zi i))]) (S' := [.int (zi i), .long (zl z24), .ref sk]) rfl ?_
          refine gy_liv rfl (by decide) rfl (fun _ _ => rfl) (fun z25 ez25 az25 bz25 => ?_)
          refine gz_s 1 (pc' := 29) (L' := [some (.ref x), some (.int (zi i))]) (S' := [.long (zl 1), .long (zl z25), .ref sk]) rfl ?_
          refine gy_llv rfl (by decide) rfl (fun _ _ => rfl) (fun z26 ez26 az26 bz26 => ?_)
          refine gy_l2i rfl (by decide) ?_
          refine gz_s 1 (pc' := 32) (L' := [some (.ref x), some (.int (zi i))]) (S' := [.int (zi 1), .int (zi z26), .ref sk]) rfl ?_
          have hl27 : h2.2.2.2.1 bv = h2.2.2.2.1 bv := congrFun sh2.2.2.2.2.1 bv
          refine gz_call rfl (by decide) rfl (by decide) (by decide) (gcal_of rfl rfl rfl (Nat.le_of_ble_eq_true rfl) (gJ.recv (G := gGG) sh2.1 lp1c1 rfl rfl)) (cl_Sink_putBits _ sh2.1 sk lp1c1 z26 (by omega) 1 (by omega) bv lp1r0 lp1r1 cv lp1k3 (by omega) hv lp1k4 (by omega) (by omega) (by omega) lp1u) (fun q28 _ wq28 => ?_)
          obtain ⟨pq28, oq28, hq28⟩ := q28
          obtain ⟨tyq28, xq28, cq28_0, ttq28, fq28_0, fq28_1, ecq28_0, tcq28_0, gq28, efq28_0, afq28_0, bfq28_0, efq28_1, afq28_1, bfq28_1, uq28_0, uq28_1, uq28_2, uq28_3, uq28_4, uq28_5⟩ := wq28
          dsimp only at uq28_2 uq28_3 uq28_4 uq28_5
          refine ⟨_, gq28, ?_⟩
          show gz gPP gGG gcn _ _ 35 [some (.ref x), some (.int (zi i))] [] hq28 _
          have G29 : gSg [114] [] [56000, 56001, 56002, 56003, 71014, 114999] ty h tyq28 hq28 := gSg.tr (gSg.ss lp1G sh2 (by decide)) xq28 (by decide) (by decide) (fun x hx => by cases hx)
          have t30 : tyq28 x = 71 := gSg.typ xq28 sh2.1 lp1c0 rfl
          have t31 : tyq28 sk = 56 := gSg.typ xq28 sh2.1 lp1c1 rfl
          have t32 : tyq28 bv = 114 := gSg.typ xq28 sh2.1 lp1r1 rfl
          have hl33 : hq28.2.2.2.1 bv = h2.2.2.2.1 bv := gSg.len xq28 sh2.1 lp1r1 rfl
          have s34 := gSg.at xq28 sh2.1 lp1c0 rfl (by decide) lp1k0
          have s35 := gSg.at xq28 sh2.1 lp1c0 rfl (by decide) lp1k1
          have s36 := gSg.at xq28 sh2.1 lp1c0 rfl (by decide) lp1k2
          have s37 := gSg.at xq28 sh2.1 lp1c0 rfl (by decide) ez24
          have uq38 := gSg.uq xq28 lp1u (by decide)
          have sS39 : gSs rT 1027 tyq28 [56000, 56001, 56002, 56003, 71014, 114999] hq28 hq28 := gSs.rf xq28.1
          refine gy_s 2 (pc' := 7) (L' := [some (.ref x), some (.int ((zi i) + zi (-1)))]) (S' := []) (L2 := [some (.ref x), some (.int (zi (i + (-1))))]) (S2 := []) rfl (by simp only [zi_add, zi_sub, zi_mul, zi_neg, zi_and1, zi_and7, zi_and15, zi_and31, zi_and255]) (by simp only [zi_add, zi_sub, zi_mul, zi_neg, zi_and1, zi_and7, zi_and15, zi_and31, zi_and255]) ?_
          have G40 : gSg [114] [] [56000, 56001, 56002, 56003, 71014, 114999] ty h tyq28 hq28 := gSg.ss G29 sS39 (by decide)
          exact gz_wk (ihlp1 tyq28 hq28 cq28_0 (i + (-1)) fq28_0 fq28_1 (by omega) G40 uq38 t30 t31 ecq28_0 tcq28_0 (by omega) (by omega) (by omega) (by omega) (by omega) (by omega) (by omega) (by omega) (by omega) (by omega) (by omega) s34 s35 s36 efq28_0 efq28_1) (gLw.s (gLw.s gLw.z))
  have G41 : gSg [114] [] [56000, 56001, 56002, 56003, 71014, 114999] ty h ty h := gSg.ss G0 hS (by decide)
  exact gz_wk (lp1 _ ty h bt (wc - 1) c0 h0 (Nat.lt_succ_self _) G41 uq tx tsk ebt tbt (by omega) (by omega) (by omega) (by omega) (by omega) (by omega) (by omega) (by omega) (by omega) (by omega) (by omega) esk ecg ewc ec0 eh0) (gLw.s (gLw.s gLw.z))
