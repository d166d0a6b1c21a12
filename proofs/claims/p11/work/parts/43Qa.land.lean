/-! ===== methods of the landed text (by program) ===== -/
set_option maxRecDepth 20000 in
set_option maxHeartbeats 4000000 in
theorem cl_Writer_refineOthers (d : Nat) {ty : Nat → Nat} {h : gH} (hJ : gJ rT 1027 ty h) (x : Nat) (tx : ty x = 71) (p : Int) (rp : 0 ≤ p ∧ p ≤ 960) (sk : Nat) (esk : h.2.2.2.2 x 0 = .ref sk) (tsk : ty sk = 56) (bt : Nat) (ebt : h.2.2.2.2 sk 0 = .ref bt) (tbt : ty bt = 114) (c0 : Int) (ec0 : h.2.2.2.2 sk 1 = .int (zi c0)) (rc0 : 0 ≤ c0 ∧ c0 ≤ 499999) (h0 : Int) (eh0 : h.2.2.2.2 sk 3 = .int (zi h0)) (rh0 : 0 ≤ h0 ∧ h0 ≤ 7) (cg : Int) (ecg : h.2.2.2.2 x 11 = .int (zi cg)) (rcg : 0 ≤ cg ∧ cg ≤ 1) (fr : Int) (efr : h.2.2.2.2 x 7 = .int (zi fr)) (rfr : 0 ≤ fr ∧ fr ≤ 63) (tt : Int) (ett : h.2.2.2.2 x 8 = .int (zi tt)) (rtt : 0 ≤ tt ∧ tt ≤ 63) (lw : Int) (elw : h.2.2.2.2 x 10 = .int (zi lw)) (rlw : 0 ≤ lw ∧ lw ≤ 3) (pp0 : 4 * c0 + h0 + 320 * (tt - fr + 3) ≤ 1999990) (pp1 : fr ≤ tt) (pp2 : c0 ≤ (h.2.2.2.1 bt : Int)) (uq : gUq ty) : gz gPP gGG gcn (d + 5) gt117 0 (gent [.ref x, .int (zi p)] 7) [] h (fun q _ => ∃ ty9 : Nat → Nat, gSg [114] [] [56000, 56001, 56002, 56003, 71013, 71014, 80999, 114999] ty h ty9 q.2.2 ∧ ∃ bt2 : Nat, True ∧ ∃ c1 h1 : Int, q.2.2.2.2.2.2 sk 0 = .ref bt2 ∧ ty9 bt2 = 114 ∧ gfin gt117 q.1 q.2.1 = some none ∧ q.2.2.2.2.2.2 sk 1 = .int (zi c1) ∧ 0 ≤ c1 ∧ c1 ≤ 500000 ∧ q.2.2.2.2.2.2 sk 3 = .int (zi h1) ∧ 0 ≤ h1 ∧ h1 ≤ 7 ∧ (4 * c1 + h1 ≤ 4 * c0 + h0 + 320 * (tt - fr + 1)) ∧ (c0 ≤ c1) ∧ (cg = 1 → (c1 = c0 ∧ h1 = h0)) ∧ (1024 * ((q.2.2.1 : Int) - h.1) ≤ (q.2.2.2.2.2.1 bt2 : Int) - h.2.2.2.1 bt) ∧ (((q.2.2.2.1 : Int) - h.2.1) ≤ 2 * ((q.2.2.2.2.2.1 bt2 : Int) - h.2.2.2.1 bt)) ∧ ((h.2.2.2.1 bt : Int) ≤ (q.2.2.2.2.2.1 bt2 : Int)) ∧ (c1 ≤ (q.2.2.2.2.2.1 bt2 : Int))) := by
  have hS : gSs rT 1027 ty [56000, 56001, 56002, 56003, 71013, 71014, 80999, 114999] h h := gSs.rf hJ
  have G0 : gSg [114] [] [56000, 56001, 56002, 56003, 71013, 71014, 80999, 114999] ty h ty h := gSg.rf hJ (fun x hx => by cases hx)
  refine gz_s 2 (pc' := 2) (L' := [some (.ref x), some (.int (zi p)), none, none, none, none, none]) (S' := [.int (zi p), .ref x]) rfl ?_
  refine gz_call rfl (by decide) rfl (by decide) (by decide) (gcal_of rfl rfl rfl (Nat.le_of_ble_eq_true rfl) (gJ.recv (G := gGG) hS.1 tx rfl rfl)) (cl_Writer_lastNew _ hS.1 x tx p (by omega) fr efr (by omega) tt ett (by omega) lw elw (by omega) (by omega) uq) (fun q1 _ wq1 => ?_)
  obtain ⟨pq1, oq1, hq1⟩ := q1
  obtain ⟨xq1, zq1, gq1, aq1, bq1, yq1_0⟩ := wq1
  refine ⟨_, gq1, ?_⟩
  show gz gPP gGG gcn _ _ 5 [some (.ref x), some (.int (zi p)), none, none, none, none, none] [.int (zi zq1)] hq1 _
  have sq1 : gSs rT 1027 ty [56000, 56001, 56002, 56003, 71013, 71014, 80999, 114999] h hq1 := gSs.tr hS xq1 (by decide)
  have s2 := (xq1.2.2.2.2.2 x 0 (by rw [tx]; decide)).trans esk
  have s3 := (xq1.2.2.2.2.2 sk 0 (by rw [tsk]; decide)).trans ebt
  have s4 := (xq1.2.2.2.2.2 sk 1 (by rw [tsk]; decide)).trans ec0
  have s5 := (xq1.2.2.2.2.2 sk 3 (by rw [tsk]; decide)).trans eh0
  have s6 := (xq1.2.2.2.2.2 x 11 (by rw [tx]; decide)).trans ecg
  have s7 := (xq1.2.2.2.2.2 x 7 (by rw [tx]; decide)).trans efr
  have s8 := (xq1.2.2.2.2.2 x 8 (by rw [tx]; decide)).trans ett
  have s9 := (xq1.2.2.2.2.2 x 10 (by rw [tx]; decide)).trans elw
  refine gz_s 5 (pc' := 10) (L' := [some (.ref x), some (.int (zi p)), some (.int (zi zq1)), some (.int (zi 0)), none, none, none]) (S' := [.int (zi 0), .ref x]) rfl ?_
  refine gs_put rfl (by decide) rfl sq1 tx rfl rfl rfl rfl (Or.inl rfl) (by decide) (by omega) (by omega) (fun h10 sh10 eh10 fh10 => ?_)
  have pr11 := gLc.pt fh10 tx (by decide) yq1_0
  have s12 := (fh10 x 0 (fun q => absurd q.2 (by decide))).trans s2
  have s13 := (fh10 sk 0 (fun q => absurd q.2 (by decide))).trans s3
  have s14 := (fh10 sk 1 (fun q => absurd q.2 (by decide))).trans s4
  have s15 := (fh10 sk 3 (fun q => absurd q.2 (by decide))).trans s5
  have s16 := (fh10 x 11 (fun q => absurd q.2 (by decide))).trans s6
  have s17 := (fh10 x 7 (fun q => absurd q.2 (by decide))).trans s7
  have s18 := (fh10 x 8 (fun q => absurd q.2 (by decide))).trans s8
  have s19 := (fh10 x 10 (fun q => absurd q.2 (by decide))).trans s9
  refine gz_s 1 (pc' := 14) (L' := [some (.ref x), some (.int (zi p)), some (.int (zi zq1)), some (.int (zi 0)), none, none, none]) (S' := [.ref x]) rfl ?_
  refine gs_gtk rfl (by decide) rfl sh10.1 tx rfl rfl s17 ?_
  refine gz_s 1 (pc' := 19) (L' := [some (.ref x), some (.int (zi p)), some (.int (zi zq1)), some (.int (zi 0)), some (.int (zi fr)), none, none]) (S' := []) rfl ?_
  have lp20 : ∀ (fu : Nat) (ty22 : Nat → Nat) (h21 : gH) (bv : Nat) (rn : Int) (k : Int) (cv : Int) (hv : Int) (wv : Int), (65 - k).toNat < fu → gSg [114] [] [56000, 56001, 56002, 56003, 71013, 71014, 80999, 114999] ty h ty22 h21 → gUq ty22 → ty22 x = 71 → ty22 sk = 56 → h21.2.2.2.2 sk 0 = .ref bv → ty22 bv = 114 → (0 ≤ rn ∧ rn ≤ 64) → (0 ≤ k ∧ k ≤ 64) → (0 ≤ cv ∧ cv ≤ 499999) → (0 ≤ hv ∧ hv ≤ 7) → (0 ≤ wv ∧ wv ≤ 64) → (4 * cv + hv + 320 * rn + 310 * wv ≤ 4 * c0 + h0 + 320 * (k - fr)) → (c0 ≤ cv) → (cg = 1 → (cv = c0 ∧ hv = h0)) → (rn + wv ≤ k - fr) → (fr ≤ k) → (k ≤ tt + 1) → (1024 * ((h21.1 : Int) - h.1) ≤ (h21.2.2.2.1 bv : Int) - h.2.2.2.1 bt) → (((h21.2.1 : Int) - h.2.1) ≤ 2 * ((h21.2.2.2.1 bv : Int) - h.2.2.2.1 bt)) → ((h.2.2.2.1 bt : Int) ≤ (h21.2.2.2.1 bv : Int)) → (cv ≤ (h21.2.2.2.1 bv : Int)) → h21.2.2.2.2 x 0 = .ref sk → h21.2.2.2.2 x 11 = .int (zi cg) → h21.2.2.2.2 x 7 = .int (zi fr) → h21.2.2.2.2 x 8 = .int (zi tt) → h21.2.2.2.2 x 10 = .int (zi lw) → h21.2.2.2.2 sk 1 = .int (zi cv) → h21.2.2.2.2 sk 3 = .int (zi hv) → h21.2.2.2.2 x 14 = .int (zi wv) → gLc ty22 p fr (tt + 1) zq1 lw h21 → gz gPP gGG gcn (d + 5) gt117 19 [some (.ref x), some (.int (zi p)), some (.int (zi zq1)), some (.int (zi rn)), some (.int (zi k)), none, none] [] h21 (fun q _ => ∃ ty9 : Nat → Nat, gSg [114] [] [56000, 56001, 56002, 56003, 71013, 71014, 80999, 114999] ty h ty9 q.2.2 ∧ ∃ bt2 : Nat, True ∧ ∃ c1 h1 : Int, q.2.2.2.2.2.2 sk 0 = .ref bt2 ∧ ty9 bt2 = 114 ∧ gfin gt117 q.1 q.2.1 = some none ∧ q.2.2.2.2.2.2 sk 1 = .int (zi c1) ∧ 0 ≤ c1 ∧ c1 ≤ 500000 ∧ q.2.2.2.2.2.2 sk 3 = .int (zi h1) ∧ 0 ≤ h1 ∧ h1 ≤ 7 ∧ (4 * c1 + h1 ≤ 4 * c0 + h0 + 320 * (tt - fr + 1)) ∧ (c0 ≤ c1) ∧ (cg = 1 → (c1 = c0 ∧ h1 = h0)) ∧ (1024 * ((q.2.2.1 : Int) - h.1) ≤ (q.2.2.2.2.2.1 bt2 : Int) - h.2.2.2.1 bt) ∧ (((q.2.2.2.1 : Int) - h.2.1) ≤ 2 * ((q.2.2.2.2.2.1 bt2 : Int) - h.2.2.2.1 bt)) ∧ ((h.2.2.2.1 bt : Int) ≤ (q.2.2.2.2.2.1 bt2 : Int)) ∧ (c1 ≤ (q.2.2.2.2.2.1 bt2 : Int))) := by
    intro fu
    induction fu with
    | zero => intro ty22 h21 bv rn k cv hv wv hm; exact absurd hm (Nat.not_lt_zero _)
    | succ fu ihlp20 =>
      intro ty22 h21 bv rn k cv hv wv lp20m lp20G lp20u lp20c0 lp20c1 lp20r0 lp20r1 lp20f0 lp20f1 lp20f2 lp20f3 lp20f4 lp20f5 lp20f6 lp20f7 lp20f8 lp20f9 lp20f10 lp20f11 lp20f12 lp20f13 lp20f14 lp20k0 lp20k1 lp20k2 lp20k3 lp20k4 lp20k5 lp20k6 lp20k7 lp20k8
      have sh21 : gSs rT 1027 ty22 [56000, 56001, 56002, 56003, 71013, 71014, 80999, 114999] h21 h21 := gSs.rf lp20G.1
      refine gz_s 2 (pc' := 22) (L' := [some (.ref x), some (.int (zi p)), some (.int (zi zq1)), some (.int (zi rn)), some (.int (zi k)), none, none]) (S' := [.ref x, .int (zi k)]) rfl ?_
      refine gs_gtk rfl (by decide) rfl sh21.1 lp20c0 rfl rfl lp20k3 ?_
      by_cases hc23 : (tt : Int) < k
      · refine gy_icT (pc' := 167) rfl (by decide) (by decide) (by omega) (by omega) hc23 ?_
        refine gz_s 1 (pc' := 168) (L' := [some (.ref x), some (.int (zi p)), some (.int (zi zq1)), some (.int (zi rn)), some (.int (zi k)), none, none]) (S' := [.int (zi rn)]) rfl ?_
        by_cases hc24 : (0 : Int) < rn
        · refine gy_ifT (pc' := 178) rfl (by decide) (by decide) (by omega) hc24 ?_
          refine gz_s 3 (pc' := 181) (L' := [some (.ref x), some (.int (zi p)), some (.int (zi zq1)), some (.int (zi rn)), some (.int (zi k)), none, none]) (S' := [.int (zi 0), .int (zi 1), .ref x]) rfl ?_
          have hl25 : h21.2.2.2.1 bv = h21.2.2.2.1 bv := congrFun sh21.2.2.2.2.1 bv
          refine gz_call rfl (by decide) rfl (by decide) (by decide) (gcal_of rfl rfl rfl (Nat.le_of_ble_eq_true rfl) (gJ.recv (G := gGG) sh21.1 lp20c0 rfl rfl)) (cl_putSymbol1 _ sh21.1 x lp20c0 1 (by omega) 0 (by omega) sk lp20k0 lp20c1 bv lp20r0 lp20r1 cv lp20k5 (by omega) hv lp20k6 (by omega) cg lp20k1 (by omega) (by omega) (by omega) lp20u) (fun q26 _ wq26 => ?_)
          obtain ⟨pq26, oq26, hq26⟩ := q26
          obtain ⟨tyq26, xq26, cq26_0, ttq26, fq26_0, fq26_1, ecq26_0, tcq26_0, gq26, efq26_0, afq26_0, bfq26_0, efq26_1, afq26_1, bfq26_1, uq26_0, uq26_1, uq26_2, uq26_3, uq26_4, uq26_5, uq26_6⟩ := wq26
          dsimp only at uq26_3 uq26_4 uq26_5 uq26_6
          refine ⟨_, gq26, ?_⟩
          show gz gPP gGG gcn _ _ 184 [some (.ref x), some (.int (zi p)), some (.int (zi zq1)), some (.int (zi rn)), some (.int (zi k)), none, none] [] hq26 _
          have G27 : gSg [114] [] [56000, 56001, 56002, 56003, 71013, 71014, 80999, 114999] ty h tyq26 hq26 := gSg.tr (gSg.ss lp20G sh21 (by decide)) xq26 (by decide) (by decide) (fun x hx => by cases hx)
          have t28 : tyq26 x = 71 := gSg.typ xq26 sh21.1 lp20c0 rfl
          have t29 : tyq26 sk = 56 := gSg.typ xq26 sh21.1 lp20c1 rfl
          have t30 : tyq26 bv = 114 := gSg.typ xq26 sh21.1 lp20r1 rfl
          have hl31 : hq26.2.2.2.1 bv = h21.2.2.2.1 bv := gSg.len xq26 sh21.1 lp20r1 rfl
          have s32 := gSg.at xq26 sh21.1 lp20c0 rfl (by decide) lp20k0
          have s33 := gSg.at xq26 sh21.1 lp20c0 rfl (by decide) lp20k1
          have s34 := gSg.at xq26 sh21.1 lp20c0 rfl (by decide) lp20k2
          have s35 := gSg.at xq26 sh21.1 lp20c0 rfl (by decide) lp20k3
          have s36 := gSg.at xq26 sh21.1 lp20c0 rfl (by decide) lp20k4
          have s37 := gSg.at xq26 sh21.1 lp20c0 rfl (by decide) lp20k7
          have pr38 := gLc.gr xq26 sh21.1 (by decide) (by decide) lp20k8
          have uq39 := gSg.uq xq26 lp20u (by decide)
          have sS40 : gSs rT 1027 tyq26 [56000, 56001, 56002, 56003, 71013, 71014, 80999, 114999] hq26 hq26 := gSs.rf xq26.1
          refine gz_s 1 (pc' := 185) (L' := [some (.ref x), some (.int (zi p)), some (.int (zi zq1)), some (.int (zi rn)), some (.int (zi k)), none, none]) (S' := [.ref x]) rfl ?_
          have hl41 : hq26.2.2.2.1 cq26_0 = hq26.2.2.2.1 cq26_0 := congrFun sS40.2.2.2.2.1 cq26_0
          refine gz_call rfl (by decide) rfl (by decide) (by decide) (gcal_of rfl rfl rfl (Nat.le_of_ble_eq_true rfl) (gJ.recv (G := gGG) sS40.1 t28 rfl rfl)) (cl_Writer_putWaiting _ sS40.1 x t28 sk s32 t29 cq26_0 ecq26_0 tcq26_0 fq26_0 efq26_0 (by omega) fq26_1 efq26_1 (by omega) cg s33 (by omega) wv s37 (by omega) (by omega) (by omega) uq39) (fun q42 _ wq42 => ?_)
          obtain ⟨pq42, oq42, hq42⟩ := q42
          obtain ⟨tyq42, xq42, cq42_0, ttq42, fq42_0, fq42_1, fq42_2, ecq42_0, tcq42_0, gq42, efq42_0, afq42_0, bfq42_0, efq42_1, afq42_1, bfq42_1, efq42_2, afq42_2, bfq42_2, uq42_0, uq42_1, uq42_2, uq42_3, uq42_4, uq42_5, uq42_6, uq42_7⟩ := wq42
          dsimp only at uq42_3 uq42_4 uq42_5 uq42_7
          refine ⟨_, gq42, ?_⟩
          show gz gPP gGG gcn _ _ 188 [some (.ref x), some (.int (zi p)), some (.int (zi zq1)), some (.int (zi rn)), some (.int (zi k)), none, none] [] hq42 _
          have G43 : gSg [114] [] [56000, 56001, 56002, 56003, 71013, 71014, 80999, 114999] ty h tyq42 hq42 := gSg.tr (gSg.ss G27 sS40 (by decide)) xq42 (by decide) (by decide) (fun x hx => by cases hx)
          have t44 : tyq42 x = 71 := gSg.typ xq42 sS40.1 t28 rfl
          have t45 : tyq42 sk = 56 := gSg.typ xq42 sS40.1 t29 rfl
          have t46 : tyq42 bv = 114 := gSg.typ xq42 sS40.1 t30 rfl
          have hl47 : hq42.2.2.2.1 bv = hq26.2.2.2.1 bv := gSg.len xq42 sS40.1 t30 rfl
          have t48 : tyq42 cq26_0 = 114 := gSg.typ xq42 sS40.1 tcq26_0 rfl
          have hl49 : hq42.2.2.2.1 cq26_0 = hq26.2.2.2.1 cq26_0 := gSg.len xq42 sS40.1 tcq26_0 rfl
          have s50 := gSg.at xq42 sS40.1 t28 rfl (by decide) s32
          have s51 := gSg.at xq42 sS40.1 t28 rfl (by decide) s33
          have s52 := gSg.at xq42 sS40.1 t28 rfl (by decide) s34
          have s53 := gSg.at xq42 sS40.1 t28 rfl (by decide) s35
          have s54 := gSg.at xq42 sS40.1 t28 rfl (by decide) s36
          have pr55 := gLc.gr xq42 sS40.1 (by decide) (by decide) pr38
          have uq56 := gSg.uq xq42 uq39 (by decide)
          have sS57 : gSs rT 1027 tyq42 [56000, 56001, 56002, 56003, 71013, 71014, 80999, 114999] hq42 hq42 := gSs.rf xq42.1
          have G58 : gSg [114] [] [56000, 56001, 56002, 56003, 71013, 71014, 80999, 114999] ty h tyq42 hq42 := gSg.ss G43 sS57 (by decide)
          exact gz_end (I := .return_) (len := 1) rfl (Or.inl rfl) ⟨tyq42, G58, cq42_0, trivial, fq42_0, fq42_1, ecq42_0, tcq42_0, rfl, efq42_0, (by omega), (by omega), efq42_1, (by omega), (by omega), (by omega), (by omega), (by omega), (by dsimp only; omega), (by dsimp only; omega), (by dsimp only; omega), (by dsimp only; omega)⟩
        · refine gy_ifF rfl (by decide) (by decide) (by omega) hc24 ?_
          refine gz_s 1 (pc' := 172) (L' := [some (.ref x), some (.int (zi p)), some (.int (zi zq1)), some (.int (zi rn)), some (.int (zi k)), none, none]) (S' := [.ref x]) rfl ?_
          refine gs_gtk rfl (by decide) rfl sh21.1 lp20c0 rfl rfl lp20k7 ?_
          by_cases hc59 : (wv : Int) ≤ 0
          · refine gy_ifT (pc' := 188) rfl (by decide) (by decide) (by omega) hc59 ?_
            have G60 : gSg [114] [] [56000, 56001, 56002, 56003, 71013, 71014, 80999, 114999] ty h ty22 h21 := gSg.ss lp20G sh21 (by decide)
            exact gz_end (I := .return_) (len := 1) rfl (Or.inl rfl) ⟨ty22, G60, bv, trivial, cv, hv, lp20r0, lp20r1, rfl, lp20k5, (by omega), (by omega), lp20k6, (by omega), (by omega), (by omega), (by omega), (by omega), (by dsimp only; omega), (by dsimp only; omega), (by dsimp only; omega), (by dsimp only; omega)⟩
          · refine gy_ifF rfl (by decide) (by decide) (by omega) hc59 ?_
            refine gz_s 3 (pc' := 181) (L' := [some (.ref x), some (.int (zi p)), some (.int (zi zq1)), some (.int (zi rn)), some (.int (zi k)), none, none]) (S' := [.int (zi 0), .int (zi 1), .ref x]) rfl ?_
            have hl61 : h21.2.2.2.1 bv = h21.2.2.2.1 bv := congrFun sh21.2.2.2.2.1 bv
            refine gz_call rfl (by decide) rfl (by decide) (by decide) (gcal_of rfl rfl rfl (Nat.le_of_ble_eq_true rfl) (gJ.recv (G := gGG) sh21.1 lp20c0 rfl rfl)) (cl_putSymbol1 _ sh21.1 x lp20c0 1 (by omega) 0 (by omega) sk lp20k0 lp20c1 bv lp20r0 lp20r1 cv lp20k5 (by omega) hv lp20k6 (by omega) cg lp20k1 (by omega) (by omega) (by omega) lp20u) (fun q62 _ wq62 => ?_)
            obtain ⟨pq62, oq62, hq62⟩ := q62
            obtain ⟨tyq62, xq62, cq62_0, ttq62, fq62_0, fq62_1, ecq62_0, tcq62_0, gq62, efq62_0, afq62_0, bfq62_0, efq62_1, afq62_1, bfq62_1, uq62_0, uq62_1, uq62_2, uq62_3, uq62_4, uq62_5, uq62_6⟩ := wq62
            dsimp only at uq62_3 uq62_4 uq62_5 uq62_6
            refine ⟨_, gq62, ?_⟩
            show gz gPP gGG gcn _ _ 184 [some (.ref x), some (.int (zi p)), some (.int (zi zq1)), some (.int (zi rn)), some (.int (zi k)), none, none] [] hq62 _
            have G63 : gSg [114] [] [56000, 56001, 56002, 56003, 71013, 71014, 80999, 114999] ty h tyq62 hq62 := gSg.tr (gSg.ss lp20G sh21 (by decide)) xq62 (by decide) (by decide) (fun x hx => by cases hx)
            have t64 : tyq62 x = 71 := gSg.typ xq62 sh21.1 lp20c0 rfl
            have t65 : tyq62 sk = 56 := gSg.typ xq62 sh21.1 lp20c1 rfl
            have t66 : tyq62 bv = 114 := gSg.typ xq62 sh21.1 lp20r1 rfl
            have hl67 : hq62.2.2.2.1 bv = h21.2.2.2.1 bv := gSg.len xq62 sh21.1 lp20r1 rfl
            have s68 := gSg.at xq62 sh21.1 lp20c0 rfl (by decide) lp20k0
            have s69 := gSg.at xq62 sh21.1 lp20c0 rfl (by decide) lp20k1
            have s70 := gSg.at xq62 sh21.1 lp20c0 rfl (by decide) lp20k2
            have s71 := gSg.at xq62 sh21.1 lp20c0 rfl (by decide) lp20k3
            have s72 := gSg.at xq62 sh21.1 lp20c0 rfl (by decide) lp20k4
            have s73 := gSg.at xq62 sh21.1 lp20c0 rfl (by decide) lp20k7
            have pr74 := gLc.gr xq62 sh21.1 (by decide) (by decide) lp20k8
            have uq75 := gSg.uq xq62 lp20u (by decide)
            have sS76 : gSs rT 1027 tyq62 [56000, 56001, 56002, 56003, 71013, 71014, 80999, 114999] hq62 hq62 := gSs.rf xq62.1
            refine gz_s 1 (pc' := 185) (L' := [some (.ref x), some (.int (zi p)), some (.int (zi zq1)), some (.int (zi rn)), some (.int (zi k)), none, none]) (S' := [.ref x]) rfl ?_
            have hl77 : hq62.2.2.2.1 cq62_0 = hq62.2.2.2.1 cq62_0 := congrFun sS76.2.2.2.2.1 cq62_0
            refine gz_call rfl (by decide) rfl (by decide) (by decide) (gcal_of rfl rfl rfl (Nat.le_of_ble_eq_true rfl) (gJ.recv (G := gGG) sS76.1 t64 rfl rfl)) (cl_Writer_putWaiting _ sS76.1 x t64 sk s68 t65 cq62_0 ecq62_0 tcq62_0 fq62_0 efq62_0 (by omega) fq62_1 efq62_1 (by omega) cg s69 (by omega) wv s73 (by omega) (by omega) (by omega) uq75) (fun q78 _ wq78 => ?_)
            obtain ⟨pq78, oq78, hq78⟩ := q78
            obtain ⟨tyq78, xq78, cq78_0, ttq78, fq78_0, fq78_1, fq78_2, ecq78_0, tcq78_0, gq78, efq78_0, afq78_0, bfq78_0, efq78_1, afq78_1, bfq78_1, efq78_2, afq78_2, bfq78_2, uq78_0, uq78_1, uq78_2, uq78_3, uq78_4, uq78_5, uq78_6, uq78_7⟩ := wq78
            dsimp only at uq78_3 uq78_4 uq78_5 uq78_7
            refine ⟨_, gq78, ?_⟩
            show gz gPP gGG gcn _ _ 188 [some (.ref x), some (.int (zi p)), some (.int (zi zq1)), some (.int (zi rn)), some (.int (zi k)), none, none] [] hq78 _
            have G79 : gSg [114] [] [56000, 56001, 56002, 56003, 71013, 71014, 80999, 114999] ty h tyq78 hq78 := gSg.tr (gSg.ss G63 sS76 (by decide)) xq78 (by decide) (by decide) (fun x hx => by cases hx)
            have t80 : tyq78 x = 71 := gSg.typ xq78 sS76.1 t64 rfl
            have t81 : tyq78 sk = 56 := gSg.typ xq78 sS76.1 t65 rfl
            have t82 : tyq78 bv = 114 := gSg.typ xq78 sS76.1 t66 rfl
            have hl83 : hq78.2.2.2.1 bv = hq62.2.2.2.1 bv := gSg.len xq78 sS76.1 t66 rfl
            have t84 : tyq78 cq62_0 = 114 := gSg.typ xq78 sS76.1 tcq62_0 rfl
            have hl85 : hq78.2.2.2.1 cq62_0 = hq62.2.2.2.1 cq62_0 := gSg.len xq78 sS76.1 tcq62_0 rfl
            have s86 := gSg.at xq78 sS76.1 t64 rfl (by decide) s68
            have s87 := gSg.at xq78 sS76.1 t64 rfl (by decide) s69
            have s88 := gSg.at xq78 sS76.1 t64 rfl (by decide) s70
            have s89 := gSg.at xq78 sS76.1 t64 rfl (by decide) s71
            have s90 := gSg.at xq78 sS76.1 t64 rfl (by decide) s72
            have pr91 := gLc.gr xq78 sS76.1 (by decide) (by decide) pr74
            have uq92 := gSg.uq xq78 uq75 (by decide)
            have sS93 : gSs rT 1027 tyq78 [56000, 56001, 56002, 56003, 71013, 71014, 80999, 114999] hq78 hq78 := gSs.rf xq78.1
            have G94 : gSg [114] [] [56000, 56001, 56002, 56003, 71013, 71014, 80999, 114999] ty h tyq78 hq78 := gSg.ss G79 sS93 (by decide)
            exact gz_end (I := .return_) (len := 1) rfl (Or.inl rfl) ⟨tyq78, G94, cq78_0, trivial, fq78_0, fq78_1, ecq78_0, tcq78_0, rfl, efq78_0, (by omega), (by omega), efq78_1, (by omega), (by omega), (by omega), (by omega), (by omega), (by dsimp only; omega), (by dsimp only; omega), (by dsimp only; omega), (by dsimp only; omega)⟩
      · refine gy_icF rfl (by decide) (by decide) (by omega) (by omega) hc23 ?_
        refine gz_s 1 (pc' := 29) (L' := [some (.ref x), some (.int (zi p)), some (.int (zi zq1)), some (.int (zi rn)), some (.int (zi k)), none, none]) (S' := [.ref x]) rfl ?_
        refine gs_gtr rfl (by decide) rfl sh21.1 lp20c0 rfl rfl rfl (fun c95 ec95 tc95 => ?_)
        refine gy_s 3 (pc' := 36) (L' := [some (.ref x), some (.int (zi p)), some (.int (zi zq1)), some (.int (zi rn)), some (.int (zi k)), none, none]) (S' := [.int ((zi p) + (zi k)), .ref c95]) (L2 := [some (.ref x), some (.int (zi p)), some (.int (zi zq1)), some (.int (zi rn)), some (.int (zi k)), none, none]) (S2 := [.int (zi (p + k)), .ref c95]) rfl (by simp only [zi_add, zi_sub, zi_mul, zi_neg, zi_and1, zi_and7, zi_and15, zi_and31, zi_and255]) (by simp only [zi_add, zi_sub, zi_mul, zi_neg, zi_and1, zi_and7, zi_and15, zi_and31, zi_and255]) ?_
        have hl96 : 1024 ≤ h21.2.2.2.1 c95 ∧ h21.2.2.2.1 c95 ≤ 1024 := gJ.rowl (G := gGG) sh21.1 tc95 rfl
        refine gs_ald rfl (by decide) sh21.1 tc95 rfl rfl rfl (by decide) (fun _ => rfl) (by omega) (by omega) (fun z97 ez97 az97 bz97 => ?_)
        have hlk : (if z97 < 0 then -z97 else z97) / 2 ^ (lw).toNat = 1 → k ≤ zq1 := lp20k8 k (by omega) (by omega) c95 z97 tc95 ez97 (by omega) (by omega)
        refine gz_s 2 (pc' := 41) (L' := [some (.ref x), some (.int (zi p)), some (.int (zi zq1)), some (.int (zi rn)), some (.int (zi k)), some (.int (zi z97)), none]) (S' := [.int (zi z97)]) rfl ?_
        refine gz_call rfl (by decide) rfl (by decide) (by decide) (gcal_of rfl rfl rfl (Nat.le_of_ble_eq_true rfl) rfl) (cl_Math_abs _ sh21.1 z97 (by omega) ) (fun q98 _ wq98 => ?_)
        obtain ⟨pq98, oq98, hq98⟩ := q98
        obtain ⟨xq98, zq98, gq98, aq98, bq98, uq98_0, uq98_1⟩ := wq98
        refine ⟨_, gq98, ?_⟩
        show gz gPP gGG gcn _ _ 44 [some (.ref x), some (.int (zi p)), some (.int (zi zq1)), some (.int (zi rn)), some (.int (zi k)), some (.int (zi z97)), none] [.int (zi zq98)] hq98 _
        have sq98 : gSs rT 1027 ty22 [56000, 56001, 56002, 56003, 71013, 71014, 80999, 114999] h21 hq98 := gSs.tr sh21 xq98 (by decide)
        have s99 := (xq98.2.2.2.2.2 x 0 (by rw [lp20c0]; decide)).trans lp20k0
        have s100 := (xq98.2.2.2.2.2 x 11 (by rw [lp20c0]; decide)).trans lp20k1
        have s101 := (xq98.2.2.2.2.2 x 7 (by rw [lp20c0]; decide)).trans lp20k2
        have s102 := (xq98.2.2.2.2.2 x 8 (by rw [lp20c0]; decide)).trans lp20k3
        have s103 := (xq98.2.2.2.2.2 x 10 (by rw [lp20c0]; decide)).trans lp20k4
        have s104 := (xq98.2.2.2.2.2 sk 1 (by rw [lp20c1]; decide)).trans lp20k5
        have s105 := (xq98.2.2.2.2.2 sk 3 (by rw [lp20c1]; decide)).trans lp20k6
        have s106 := (xq98.2.2.2.2.2 x 14 (by rw [lp20c0]; decide)).trans lp20k7
        have s107 := (xq98.2.2.2.2.2 sk 0 (by rw [lp20c1]; decide)).trans lp20r0
        have s108 := (xq98.2.2.2.2.2 x 2 (by rw [lp20c0]; decide)).trans ec95
        have pr109 := gLc.fr xq98.2 (by decide) lp20k8
        refine gz_s 1 (pc' := 45) (L' := [some (.ref x), some (.int (zi p)), some (.int (zi zq1)), some (.int (zi rn)), some (.int (zi k)), some (.int (zi z97)), none]) (S' := [.ref x, .int (zi zq98)]) rfl ?_
        refine gs_gtk rfl (by decide) rfl sq98.1 lp20c0 rfl rfl s103 ?_
        refine gy_shr rfl (by decide) (by omega) (by omega) ?_
        have hx110 := zsh_b (a := zq98) (n := lw) (by omega)
        refine gz_s 2 (pc' := 53) (L' := [some (.ref x), some (.int (zi p)), some (.int (zi zq1)), some (.int (zi rn)), some (.int (zi k)), some (.int (zi z97)), some (.int (zi (zq98 / 2 ^ (lw).toNat)))]) (S' := [.int (zi (zq98 / 2 ^ (lw).toNat))]) rfl ?_
        by_cases hc111 : ¬ (zq98 / 2 ^ (lw).toNat : Int) = 0
        · refine gy_ifT (pc' := 62) rfl (by decide) (by decide) (by omega) hc111 ?_
          have lp112 : ∀ (fu : Nat) (ty114 : Nat → Nat) (h113 : gH) (bv2 : Nat) (rn2 : Int) (cv2 : Int) (hv2 : Int) (wv2 : Int), (rn2).toNat < fu → gSg [114] [] [56000, 56001, 56002, 56003, 71013, 71014, 80999, 114999] ty h ty114 h113 → gUq ty114 → ty114 x = 71 → ty114 sk = 56 → ty114 c95 = 73 → h113.2.2.2.2 sk 0 = .ref bv2 → ty114 bv2 = 114 → (0 ≤ rn2 ∧ rn2 ≤ 64) → (0 ≤ cv2 ∧ cv2 ≤ 499999) → (0 ≤ hv2 ∧ hv2 ≤ 7) → (0 ≤ wv2 ∧ wv2 ≤ 64) → (4 * cv2 + hv2 + 320 * rn2 + 310 * wv2 ≤ 4 * c0 + h0 + 320 * (k - fr)) → (c0 ≤ cv2) → (cg = 1 → (cv2 = c0 ∧ hv2 = h0)) → (rn2 ≤ rn) → (wv2 ≤ wv) → (1024 * ((h113.1 : Int) - h.1) ≤ (h113.2.2.2.1 bv2 : Int) - h.2.2.2.1 bt) → (((h113.2.1 : Int) - h.2.1) ≤ 2 * ((h113.2.2.2.1 bv2 : Int) - h.2.2.2.1 bt)) → ((h.2.2.2.1 bt : Int) ≤ (h113.2.2.2.1 bv2 : Int)) → (cv2 ≤ (h113.2.2.2.1 bv2 : Int)) → h113.2.2.2.2 x 0 = .ref sk → h113.2.2.2.2 x 11 = .int (zi cg) → h113.2.2.2.2 x 7 = .int (zi fr) → h113.2.2.2.2 x 8 = .int (zi tt) → h113.2.2.2.2 x 10 = .int (zi lw) → h113.2.2.2.2 x 2 = .ref c95 → h113.2.2.2.2 sk 1 = .int (zi cv2) → h113.2.2.2.2 sk 3 = .int (zi hv2) → h113.2.2.2.2 x 14 = .int (zi wv2) → gLc ty114 p fr (tt + 1) zq1 lw h113 → gz gPP gGG gcn (d + 5) gt117 62 [some (.ref x), some (.int (zi p)), some (.int (zi zq1)), some (.int (zi rn2)), some (.int (zi k)), some (.int (zi z97)), some (.int (zi (zq98 / 2 ^ (lw).toNat)))] [] h113 (fun q _ => ∃ ty9 : Nat → Nat, gSg [114] [] [56000, 56001, 56002, 56003, 71013, 71014, 80999, 114999] ty h ty9 q.2.2 ∧ ∃ bt2 : Nat, True ∧ ∃ c1 h1 : Int, q.2.2.2.2.2.2 sk 0 = .ref bt2 ∧ ty9 bt2 = 114 ∧ gfin gt117 q.1 q.2.1 = some none ∧ q.2.2.2.2.2.2 sk 1 = .int (zi c1) ∧ 0 ≤ c1 ∧ c1 ≤ 500000 ∧ q.2.2.2.2.2.2 sk 3 = .int (zi h1) ∧ 0 ≤ h1 ∧ h1 ≤ 7 ∧ (4 * c1 + h1 ≤ 4 * c0 + h0 + 320 * (tt - fr + 1)) ∧ (c0 ≤ c1) ∧ (cg = 1 → (c1 = c0 ∧ h1 = h0)) ∧ (1024 * ((q.2.2.1 : Int) - h.1) ≤ (q.2.2.2.2.2.1 bt2 : Int) - h.2.2.2.1 bt) ∧ (((q.2.2.2.1 : Int) - h.2.1) ≤ 2 * ((q.2.2.2.2.2.1 bt2 : Int) - h.2.2.2.1 bt)) ∧ ((h.2.2.2.1 bt : Int) ≤ (q.2.2.2.2.2.1 bt2 : Int)) ∧ (c1 ≤ (q.2.2.2.2.2.1 bt2 : Int))) := by
            intro fu
            induction fu with
            | zero => intro ty114 h113 bv2 rn2 cv2 hv2 wv2 hm; exact absurd hm (Nat.not_lt_zero _)
            | succ fu ihlp112 =>
              intro ty114 h113 bv2 rn2 cv2 hv2 wv2 lp112m lp112G lp112u lp112c0 lp112c1 lp112c2 lp112r0 lp112r1 lp112f0 lp112f1 lp112f2 lp112f3 lp112f4 lp112f5 lp112f6 lp112f7 lp112f8 lp112f9 lp112f10 lp112f11 lp112f12 lp112k0 lp112k1 lp112k2 lp112k3 lp112k4 lp112k5 lp112k6 lp112k7 lp112k8 lp112k9
              have sh113 : gSs rT 1027 ty114 [56000, 56001, 56002, 56003, 71013, 71014, 80999, 114999] h113 h113 := gSs.rf lp112G.1
              refine gz_s 2 (pc' := 65) (L' := [some (.ref x), some (.int (zi p)), some (.int (zi zq1)), some (.int (zi rn2)), some (.int (zi k)), some (.int (zi z97)), some (.int (zi (zq98 / 2 ^ (lw).toNat)))]) (S' := [.int (zi 15), .int (zi rn2)]) rfl ?_
              by_cases hc115 : (rn2 : Int) ≤ 15
              · refine gy_icT (pc' := 92) rfl (by decide) (by decide) (by omega) (by omega) hc115 ?_
                refine gz_s 2 (pc' := 95) (L' := [some (.ref x), some (.int (zi p)), some (.int (zi zq1)), some (.int (zi rn2)), some (.int (zi k)), some (.int (zi z97)), some (.int (zi (zq98 / 2 ^ (lw).toNat)))]) (S' := [.int (zi 1), .int (zi (zq98 / 2 ^ (lw).toNat))]) rfl ?_
                by_cases hc116 : (zq98 / 2 ^ (lw).toNat : Int) ≤ 1
                · refine gy_icT (pc' := 129) rfl (by decide) (by decide) (by omega) (by omega) hc116 ?_
                  have hA : (if z97 < 0 then -z97 else z97) = zq98 := by split <;> omega
                  rw [hA] at hlk
                  have hk9 := hlk (by omega)
                  refine gy_s 7 (pc' := 137) (L' := [some (.ref x), some (.int (zi p)), some (.int (zi zq1)), some (.int (zi rn2)), some (.int (zi k)), some (.int (zi z97)), some (.int (zi (zq98 / 2 ^ (lw).toNat)))]) (S' := [.int (((zi 16) * (zi rn2)) + (zi 1)), .int (zi 1), .ref x]) (L2 := [some (.ref x), some (.int (zi p)), some (.int (zi zq1)), some (.int (zi rn2)), some (.int (zi k)), some (.int (zi z97)), some (.int (zi (zq98 / 2 ^ (lw).toNat)))]) (S2 := [.int (zi ((16 * rn2) + 1)), .int (zi 1), .ref x]) rfl (by simp only [zi_add, zi_sub, zi_mul, zi_neg, zi_and1, zi_and7, zi_and15, zi_and31, zi_and255]) (by simp only [zi_add, zi_sub, zi_mul, zi_neg, zi_and1, zi_and7, zi_and15, zi_and31, zi_and255]) ?_
                  have hl117 : h113.2.2.2.1 bv2 = h113.2.2.2.1 bv2 := congrFun sh113.2.2.2.2.1 bv2
                  refine gz_call rfl (by decide) rfl (by decide) (by decide) (gcal_of rfl rfl rfl (Nat.le_of_ble_eq_true rfl) (gJ.recv (G := gGG) sh113.1 lp112c0 rfl rfl)) (cl_putSymbol1 _ sh113.1 x lp112c0 1 (by omega) ((16 * rn2) + 1) (by omega) sk lp112k0 lp112c1 bv2 lp112r0 lp112r1 cv2 lp112k6 (by omega) hv2 lp112k7 (by omega) cg lp112k1 (by omega) (by omega) (by omega) lp112u) (fun q118 _ wq118 => ?_)
                  obtain ⟨pq118, oq118, hq118⟩ := q118
                  obtain ⟨tyq118, xq118, cq118_0, ttq118, fq118_0, fq118_1, ecq118_0, tcq118_0, gq118, efq118_0, afq118_0, bfq118_0, efq118_1, afq118_1, bfq118_1, uq118_0, uq118_1, uq118_2, uq118_3, uq118_4, uq118_5, uq118_6⟩ := wq118
                  dsimp only at uq118_3 uq118_4 uq118_5 uq118_6
                  refine ⟨_, gq118, ?_⟩
                  show gz gPP gGG gcn _ _ 140 [some (.ref x), some (.int (zi p)), some (.int (zi zq1)), some (.int (zi rn2)), some (.int (zi k)), some (.int (zi z97)), some (.int (zi (zq98 / 2 ^ (lw).toNat)))] [] hq118 _
                  have G119 : gSg [114] [] [56000, 56001, 56002, 56003, 71013, 71014, 80999, 114999] ty h tyq118 hq118 := gSg.tr (gSg.ss lp112G sh113 (by decide)) xq118 (by decide) (by decide) (fun x hx => by cases hx)
                  have t120 : tyq118 x = 71 := gSg.typ xq118 sh113.1 lp112c0 rfl
                  have t121 : tyq118 sk = 56 := gSg.typ xq118 sh113.1 lp112c1 rfl
                  have t122 : tyq118 c95 = 73 := gSg.typ xq118 sh113.1 lp112c2 rfl
                  have t123 : tyq118 bv2 = 114 := gSg.typ xq118 sh113.1 lp112r1 rfl
                  have hl124 : hq118.2.2.2.1 bv2 = h113.2.2.2.1 bv2 := gSg.len xq118 sh113.1 lp112r1 rfl
                  have s125 := gSg.at xq118 sh113.1 lp112c0 rfl (by decide) lp112k0
                  have s126 := gSg.at xq118 sh113.1 lp112c0 rfl (by decide) lp112k1
                  have s127 := gSg.at xq118 sh113.1 lp112c0 rfl (by decide) lp112k2
                  have s128 := gSg.at xq118 sh113.1 lp112c0 rfl (by decide) lp112k3
                  have s129 := gSg.at xq118 sh113.1 lp112c0 rfl (by decide) lp112k4
                  have s130 := gSg.at xq118 sh113.1 lp112c0 rfl (by decide) lp112k5
                  have s131 := gSg.at xq118 sh113.1 lp112c0 rfl (by decide) lp112k8
                  have pr132 := gLc.gr xq118 sh113.1 (by decide) (by decide) lp112k9
                  have uq133 := gSg.uq xq118 lp112u (by decide)
                  have sS134 : gSs rT 1027 tyq118 [56000, 56001, 56002, 56003, 71013, 71014, 80999, 114999] hq118 hq118 := gSs.rf xq118.1
                  refine gz_s 2 (pc' := 143) (L' := [some (.ref x), some (.int (zi p)), some (.int (zi zq1)), some (.int (zi rn2)), some (.int (zi k)), some (.int (zi z97)), some (.int (zi (zq98 / 2 ^ (lw).toNat)))]) (S' := [.int (zi z97), .ref x]) rfl ?_
                  by_cases hc135 : (0 : Int) ≤ z97
                  · refine gy_ifT (pc' := 150) rfl (by decide) (by decide) (by omega) hc135 ?_
                    refine gz_s 2 (pc' := 152) (L' := [some (.ref x), some (.int (zi p)), some (.int (zi zq1)), some (.int (zi rn2)), some (.int (zi k)), some (.int (zi z97)), some (.int (zi (zq98 / 2 ^ (lw).toNat)))]) (S' := [.int (zi 1), .int (zi 1), .ref x]) rfl ?_
                    have hl136 : hq118.2.2.2.1 cq118_0 = hq118.2.2.2.1 cq118_0 := congrFun sS134.2.2.2.2.1 cq118_0
                    refine gz_call rfl (by decide) rfl (by decide) (by decide) (gcal_of rfl rfl rfl (Nat.le_of_ble_eq_true rfl) (gJ.recv (G := gGG) sS134.1 t120 rfl rfl)) (cl_Writer_putPlain _ sS134.1 x t120 1 (by omega) 1 (by omega) sk s125 t121 cq118_0 ecq118_0 tcq118_0 fq118_0 efq118_0 (by omega) fq118_1 efq118_1 (by omega) cg s126 (by omega) (by omega) (by omega) uq133) (fun q137 _ wq137 => ?_)
                    obtain ⟨pq137, oq137, hq137⟩ := q137
                    obtain ⟨tyq137, xq137, cq137_0, ttq137, fq137_0, fq137_1, ecq137_0, tcq137_0, gq137, efq137_0, afq137_0, bfq137_0, efq137_1, afq137_1, bfq137_1, uq137_0, uq137_1, uq137_2, uq137_3, uq137_4, uq137_5, uq137_6⟩ := wq137
                    dsimp only at uq137_3 uq137_4 uq137_5 uq137_6
                    refine ⟨_, gq137, ?_⟩
                    show gz gPP gGG gcn _ _ 155 [some (.ref x), some (.int (zi p)), some (.int (zi zq1)), some (.int (zi rn2)), some (.int (zi k)), some (.int (zi z97)), some (.int (zi (zq98 / 2 ^ (lw).toNat)))] [] hq137 _
                    have G138 : gSg [114] [] [56000, 56001, 56002, 56003, 71013, 71014, 80999, 114999] ty h tyq137 hq137 := gSg.tr (gSg.ss G119 sS134 (by decide)) xq137 (by decide) (by decide) (fun x hx => by cases hx)
                    have t139 : tyq137 x = 71 := gSg.typ xq137 sS134.1 t120 rfl
                    have t140 : tyq137 sk = 56 := gSg.typ xq137 sS134.1 t121 rfl
                    have t141 : tyq137 c95 = 73 := gSg.typ xq137 sS134.1 t122 rfl
                    have t142 : tyq137 bv2 = 114 := gSg.typ xq137 sS134.1 t123 rfl
                    have hl143 : hq137.2.2.2.1 bv2 = hq118.2.2.2.1 bv2 := gSg.len xq137 sS134.1 t123 rfl
                    have t144 : tyq137 cq118_0 = 114 := gSg.typ xq137 sS134.1 tcq118_0 rfl
                    have hl145 : hq137.2.2.2.1 cq118_0 = hq118.2.2.2.1 cq118_0 := gSg.len xq137 sS134.1 tcq118_0 rfl
                    have s146 := gSg.at xq137 sS134.1 t120 rfl (by decide) s125
                    have s147 := gSg.at xq137 sS134.1 t120 rfl (by decide) s126
                    have s148 := gSg.at xq137 sS134.1 t120 rfl (by decide) s127
                    have s149 := gSg.at xq137 sS134.1 t120 rfl (by decide) s128
                    have s150 := gSg.at xq137 sS134.1 t120 rfl (by decide) s129
                    have s151 := gSg.at xq137 sS134.1 t120 rfl (by decide) s130
                    have s152 := gSg.at xq137 sS134.1 t120 rfl (by decide) s131
                    have pr153 := gLc.gr xq137 sS134.1 (by decide) (by decide) pr132
                    have uq154 := gSg.uq xq137 uq133 (by decide)
                    have sS155 : gSs rT 1027 tyq137 [56000, 56001, 56002, 56003, 71013, 71014, 80999, 114999] hq137 hq137 := gSs.rf xq137.1
                    refine gz_s 1 (pc' := 156) (L' := [some (.ref x), some (.int (zi p)), some (.int (zi zq1)), some (.int (zi rn2)), some (.int (zi k)), some (.int (zi z97)), some (.int (zi (zq98 / 2 ^ (lw).toNat)))]) (S' := [.ref x]) rfl ?_
                    have hl156 : hq137.2.2.2.1 cq137_0 = hq137.2.2.2.1 cq137_0 := congrFun sS155.2.2.2.2.1 cq137_0
                    refine gz_call rfl (by decide) rfl (by decide) (by decide) (gcal_of rfl rfl rfl (Nat.le_of_ble_eq_true rfl) (gJ.recv (G := gGG) sS155.1 t139 rfl rfl)) (cl_Writer_putWaiting _ sS155.1 x t139 sk s146 t140 cq137_0 ecq137_0 tcq137_0 fq137_0 efq137_0 (by omega) fq137_1 efq137_1 (by omega) cg s147 (by omega) wv2 s152 (by omega) (by omega) (by omega) uq154) (fun q157 _ wq157 => ?_)
                    obtain ⟨pq157, oq157, hq157⟩ := q157
                    obtain ⟨tyq157, xq157, cq157_0, ttq157, fq157_0, fq157_1, fq157_2, ecq157_0, tcq157_0, gq157, efq157_0, afq157_0, bfq157_0, efq157_1, afq157_1, bfq157_1, efq157_2, afq157_2, bfq157_2, uq157_0, uq157_1, uq157_2, uq157_3, uq157_4, uq157_5, uq157_6, uq157_7⟩ := wq157
                    dsimp only at uq157_3 uq157_4 uq157_5 uq157_7
                    refine ⟨_, gq157, ?_⟩
                    show gz gPP gGG gcn _ _ 159 [some (.ref x), some (.int (zi p)), some (.int (zi zq1)), some (.int (zi rn2)), some (.int (zi k)), some (.int (zi z97)), some (.int (zi (zq98 / 2 ^ (lw).toNat)))] [] hq157 _
                    have G158 : gSg [114] [] [56000, 56001, 56002, 56003, 71013, 71014, 80999, 114999] ty h tyq157 hq157 := gSg.tr (gSg.ss G138 sS155 (by decide)) xq157 (by decide) (by decide) (fun x hx => by cases hx)
                    have t159 : tyq157 x = 71 := gSg.typ xq157 sS155.1 t139 rfl
                    have t160 : tyq157 sk = 56 := gSg.typ xq157 sS155.1 t140 rfl
                    have t161 : tyq157 c95 = 73 := gSg.typ xq157 sS155.1 t141 rfl
                    have t162 : tyq157 bv2 = 114 := gSg.typ xq157 sS155.1 t142 rfl
                    have hl163 : hq157.2.2.2.1 bv2 = hq137.2.2.2.1 bv2 := gSg.len xq157 sS155.1 t142 rfl
                    have t164 : tyq157 cq118_0 = 114 := gSg.typ xq157 sS155.1 t144 rfl
                    have hl165 : hq157.2.2.2.1 cq118_0 = hq137.2.2.2.1 cq118_0 := gSg.len xq157 sS155.1 t144 rfl
                    have t166 : tyq157 cq137_0 = 114 := gSg.typ xq157 sS155.1 tcq137_0 rfl
                    have hl167 : hq157.2.2.2.1 cq137_0 = hq137.2.2.2.1 cq137_0 := gSg.len xq157 sS155.1 tcq137_0 rfl
                    have s168 := gSg.at xq157 sS155.1 t139 rfl (by decide) s146
                    have s169 := gSg.at xq157 sS155.1 t139 rfl (by decide) s147
                    have s170 := gSg.at xq157 sS155.1 t139 rfl (by decide) s148
                    have s171 := gSg.at xq157 sS155.1 t139 rfl (by decide) s149
                    have s172 := gSg.at xq157 sS155.1 t139 rfl (by decide) s150
                    have s173 := gSg.at xq157 sS155.1 t139 rfl (by decide) s151
                    have pr174 := gLc.gr xq157 sS155.1 (by decide) (by decide) pr153
                    have uq175 := gSg.uq xq157 uq154 (by decide)
                    have sS176 : gSs rT 1027 tyq157 [56000, 56001, 56002, 56003, 71013, 71014, 80999, 114999] hq157 hq157 := gSs.rf xq157.1
                    refine gy_s 4 (pc' := 19) (L' := [some (.ref x), some (.int (zi p)), some (.int (zi zq1)), some (.int (zi 0)), some (.int ((zi k) + zi 1)), some (.int (zi z97)), some (.int (zi (zq98 / 2 ^ (lw).toNat)))]) (S' := []) (L2 := [some (.ref x), some (.int (zi p)), some (.int (zi zq1)), some (.int (zi 0)), some (.int (zi (k + 1))), some (.int (zi z97)), some (.int (zi (zq98 / 2 ^ (lw).toNat)))]) (S2 := []) rfl (by simp only [zi_add, zi_sub, zi_mul, zi_neg, zi_and1, zi_and7, zi_and15, zi_and31, zi_and255]) (by simp only [zi_add, zi_sub, zi_mul, zi_neg, zi_and1, zi_and7, zi_and15, zi_and31, zi_and255]) ?_
                    have G177 : gSg [114] [] [56000, 56001, 56002, 56003, 71013, 71014, 80999, 114999] ty h tyq157 hq157 := gSg.ss G158 sS176 (by decide)
                    exact gz_wk (ihlp20 tyq157 hq157 cq157_0 0 (k + 1) fq157_0 fq157_1 fq157_2 (by omega) G177 uq175 t159 t160 ecq157_0 tcq157_0 (by omega) (by omega) (by omega) (by omega) (by omega) (by omega) (by omega) (by omega) (by omega) (by omega) (by omega) (by omega) (by omega) (by omega) (by omega) s168 s169 s170 s171 s172 efq157_0 efq157_1 efq157_2 pr174) (gLw.s (gLw.s (gLw.s (gLw.s (gLw.s (gLw.n (gLw.n gLw.z)))))))
                  · refine gy_ifF rfl (by decide) (by decide) (by omega) hc135 ?_
                    refine gz_s 3 (pc' := 152) (L' := [some (.ref x), some (.int (zi p)), some (.int (zi zq1)), some (.int (zi rn2)), some (.int (zi k)), some (.int (zi z97)), some (.int (zi (zq98 / 2 ^ (lw).toNat)))]) (S' := [.int (zi 1), .int (zi 0), .ref x]) rfl ?_
                    have hl178 : hq118.2.2.2.1 cq118_0 = hq118.2.2.2.1 cq118_0 := congrFun sS134.2.2.2.2.1 cq118_0
                    refine gz_call rfl (by decide) rfl (by decide) (by decide) (gcal_of rfl rfl rfl (Nat.le_of_ble_eq_true rfl) (gJ.recv (G := gGG) sS134.1 t120 rfl rfl)) (cl_Writer_putPlain _ sS134.1 x t120 0 (by omega) 1 (by omega) sk s125 t121 cq118_0 ecq118_0 tcq118_0 fq118_0 efq118_0 (by omega) fq118_1 efq118_1 (by omega) cg s126 (by omega) (by omega) (by omega) uq133) (fun q179 _ wq179 => ?_)
                    obtain ⟨pq179, oq179, hq179⟩ := q179
                    obtain ⟨tyq179, xq179, cq179_0, ttq179, fq179_0, fq179_1, ecq179_0, tcq179_0, gq179, efq179_0, afq179_0, bfq179_0, efq179_1, afq179_1, bfq179_1, uq179_0, uq179_1, uq179_2, uq179_3, uq179_4, uq179_5, uq179_6⟩ := wq179
                    dsimp only at uq179_3 uq179_4 uq179_5 uq179_6
                    refine ⟨_, gq179, ?_⟩
                    show gz gPP gGG gcn _ _ 155 [some (.ref x), some (.int (zi p)), some (.int (zi zq1)), some (.int (zi rn2)), some (.int (zi k)), some (.int (zi z97)), some (.int (zi (zq98 / 2 ^ (lw).toNat)))] [] hq179 _
                    have G180 : gSg [114] [] [56000, 56001, 56002, 56003, 71013, 71014, 80999, 114999] ty h tyq179 hq179 := gSg.tr (gSg.ss G119 sS134 (by decide)) xq179 (by decide) (by decide) (fun x hx => by cases hx)
                    have t181 : tyq179 x = 71 := gSg.typ xq179 sS134.1 t120 rfl
                    have t182 : tyq179 sk = 56 := gSg.typ xq179 sS134.1 t121 rfl
                    have t183 : tyq179 c95 = 73 := gSg.typ xq179 sS134.1 t122 rfl
                    have t184 : tyq179 bv2 = 114 := gSg.typ xq179 sS134.1 t123 rfl
                    have hl185 : hq179.2.2.2.1 bv2 = hq118.2.2.2.1 bv2 := gSg.len xq179 sS134.1 t123 rfl
                    have t186 : tyq179 cq118_0 = 114 := gSg.typ xq179 sS134.1 tcq118_0 rfl
                    have hl187 : hq179.2.2.2.1 cq118_0 = hq118.2.2.2.1 cq118_0 := gSg.len xq179 sS134.1 tcq118_0 rfl
                    have s188 := gSg.at xq179 sS134.1 t120 rfl (by decide) s125
                    have s189 := gSg.at xq179 sS134.1 t120 rfl (by decide) s126
                    have s190 := gSg.at xq179 sS134.1 t120 rfl (by decide) s127
                    have s191 := gSg.at xq179 sS134.1 t120 rfl (by decide) s128
                    have s192 := gSg.at xq179 sS134.1 t120 rfl (by decide) s129
                    have s193 := gSg.at xq179 sS134.1 t120 rfl (by decide) s130
                    have s194 := gSg.at xq179 sS134.1 t120 rfl (by decide) s131
                    have pr195 := gLc.gr xq179 sS134.1 (by decide) (by decide) pr132
                    have uq196 := gSg.uq xq179 uq133 (by decide)
                    have sS197 : gSs rT 1027 tyq179 [56000, 56001, 56002, 56003, 71013, 71014, 80999, 114999] hq179 hq179 := gSs.rf xq179.1
                    refine gz_s 1 (pc' := 156) (L' := [some (.ref x), some (.int (zi p)), some (.int (zi zq1)), some (.int (zi rn2)), some (.int (zi k)), some (.int (zi z97)), some (.int (zi (zq98 / 2 ^ (lw).toNat)))]) (S' := [.ref x]) rfl ?_
                    have hl198 : hq179.2.2.2.1 cq179_0 = hq179.2.2.2.1 cq179_0 := congrFun sS197.2.2.2.2.1 cq179_0
                    refine gz_call rfl (by decide) rfl (by decide) (by decide) (gcal_of rfl rfl rfl (Nat.le_of_ble_eq_true rfl) (gJ.recv (G := gGG) sS197.1 t181 rfl rfl)) (cl_Writer_putWaiting _ sS197.1 x t181 sk s188 t182 cq179_0 ecq179_0 tcq179_0 fq179_0 efq179_0 (by omega) fq179_1 efq179_1 (by omega) cg s189 (by omega) wv2 s194 (by omega) (by omega) (by omega) uq196) (fun q199 _ wq199 => ?_)
                    obtain ⟨pq199, oq199, hq199⟩ := q199
                    obtain ⟨tyq199, xq199, cq199_0, ttq199, fq199_0, fq199_1, fq199_2, ecq199_0, tcq199_0, gq199, efq199_0, afq199_0, bfq199_0, efq199_1, afq199_1, bfq199_1, efq199_2, afq199_2, bfq199_2, uq199_0, uq199_1, uq199_2, uq199_3, uq199_4, uq199_5, uq199_6, uq199_7⟩ := wq199
                    dsimp only at uq199_3 uq199_4 uq199_5 uq199_7
                    refine ⟨_, gq199, ?_⟩
                    show gz gPP gGG gcn _ _ 159 [some (.ref x), some (.int (zi p)), some (.int (zi zq1)), some (.int (zi rn2)), some (.int (zi k)), some (.int (zi z97)), some (.int (zi (zq98 / 2 ^ (lw).toNat)))] [] hq199 _
                    have G200 : gSg [114] [] [56000, 56001, 56002, 56003, 71013, 71014, 80999, 114999] ty h tyq199 hq199 := gSg.tr (gSg.ss G180 sS197 (by decide)) xq199 (by decide) (by decide) (fun x hx => by cases hx)
                    have t201 : tyq199 x = 71 := gSg.typ xq199 sS197.1 t181 rfl
                    have t202 : tyq199 sk = 56 := gSg.typ xq199 sS197.1 t182 rfl
                    have t203 : tyq199 c95 = 73 := gSg.typ xq199 sS197.1 t183 rfl
                    have t204 : tyq199 bv2 = 114 := gSg.typ xq199 sS197.1 t184 rfl
                    have hl205 : hq199.2.2.2.1 bv2 = hq179.2.2.2.1 bv2 := gSg.len xq199 sS197.1 t184 rfl
                    have t206 : tyq199 cq118_0 = 114 := gSg.typ xq199 sS197.1 t186 rfl
                    have hl207 : hq199.2.2.2.1 cq118_0 = hq179.2.2.2.1 cq118_0 := gSg.len xq199 sS197.1 t186 rfl
                    have t208 : tyq199 cq179_0 = 114 := gSg.typ xq199 sS197.1 tcq179_0 rfl
                    have hl209 : hq199.2.2.2.1 cq179_0 = hq179.2.2.2.1 cq179_0 := gSg.len xq199 sS197.1 tcq179_0 rfl
                    have s210 := gSg.at xq199 sS197.1 t181 rfl (by decide) s188
                    have s211 := gSg.at xq199 sS197.1 t181 rfl (by decide) s189
                    have s212 := gSg.at xq199 sS197.1 t181 rfl (by decide) s190
                    have s213 := gSg.at xq199 sS197.1 t181 rfl (by decide) s191
                    have s214 := gSg.at xq199 sS197.1 t181 rfl (by decide) s192
                    have s215 := gSg.at xq199 sS197.1 t181 rfl (by decide) s193
                    have pr216 := gLc.gr xq199 sS197.1 (by decide) (by decide) pr195
                    have uq217 := gSg.uq xq199 uq196 (by decide)
                    have sS218 : gSs rT 1027 tyq199 [56000, 56001, 56002, 56003, 71013, 71014, 80999, 114999] hq199 hq199 := gSs.rf xq199.1
                    refine gy_s 4 (pc' := 19) (L' := [some (.ref x), some (.int (zi p)), some (.int (zi zq1)), some (.int (zi 0)), some (.int ((zi k) + zi 1)), some (.int (zi z97)), some (.int (zi (zq98 / 2 ^ (lw).toNat)))]) (S' := []) (L2 := [some (.ref x), some (.int (zi p)), some (.int (zi zq1)), some (.int (zi 0)), some (.int (zi (k + 1))), some (.int (zi z97)), some (.int (zi (zq98 / 2 ^ (lw).toNat)))]) (S2 := []) rfl (by simp only [zi_add, zi_sub, zi_mul, zi_neg, zi_and1, zi_and7, zi_and15, zi_and31, zi_and255]) (by simp only [zi_add, zi_sub, zi_mul, zi_neg, zi_and1, zi_and7, zi_and15, zi_and31, zi_and255]) ?_
                    have G219 : gSg [114] [] [56000, 56001, 56002, 56003, 71013, 71014, 80999, 114999] ty h tyq199 hq199 := gSg.ss G200 sS218 (by decide)
                    exact gz_wk (ihlp20 tyq199 hq199 cq199_0 0 (k + 1) fq199_0 fq199_1 fq199_2 (by omega) G219 uq217 t201 t202 ecq199_0 tcq199_0 (by omega) (by omega) (by omega) (by omega) (by omega) (by omega) (by omega) (by omega) (by omega) (by omega) (by omega) (by omega) (by omega) (by omega) (by omega) s210 s211 s212 s213 s214 efq199_0 efq199_1 efq199_2 pr216) (gLw.s (gLw.s (gLw.s (gLw.s (gLw.s (gLw.n (gLw.n gLw.z)))))))
                · refine gy_icF rfl (by decide) (by decide) (by omega) (by omega) hc116 ?_
                  refine gz_s 1 (pc' := 99) (L' := [some (.ref x), some (.int (zi p)), some (.int (zi zq1)), some (.int (zi rn2)), some (.int (zi k)), some (.int (zi z97)), some (.int (zi (zq98 / 2 ^ (lw).toNat)))]) (S' := [.ref x]) rfl ?_
                  refine gz_1 rfl (by decide) rfl rfl (pc' := 102) (S' := [.long (zl 2), .ref x]) (h' := h113) rfl ?_
                  refine gz_s 1 (pc' := 103) (L' := [some (.ref x), some (.int (zi p)), some (.int (zi zq1)), some (.int (zi rn2)), some (.int (zi k)), some (.int (zi z97)), some (.int (zi (zq98 / 2 ^ (lw).toNat)))]) (S' := [.ref x, .long (zl 2), .ref x]) rfl ?_
                  refine gs_getl rfl (by decide) rfl sh113.1 lp112c0 rfl rfl rfl (fun z220 ez220 az220 bz220 => ?_)
                  refine gy_s 1 (pc' := 107) (L' := [some (.ref x), some (.int (zi p)), some (.int (zi zq1)), some (.int (zi rn2)), some (.int (zi k)), some (.int (zi z97)), some (.int (zi (zq98 / 2 ^ (lw).toNat)))]) (S' := [.long ((zl 2) * (zl z220)), .ref x]) (L2 := [some (.ref x), some (.int (zi p)), some (.int (zi zq1)), some (.int (zi rn2)), some (.int (zi k)), some (.int (zi z97)), some (.int (zi (zq98 / 2 ^ (lw).toNat)))]) (S2 := [.long (zl (2 * z220)), .ref x]) rfl (by simp only [zi_add, zi_sub, zi_mul, zi_neg, zi_and1, zi_and7, zi_and15, zi_and31, zi_and255, zl_add, zl_sub, zl_mul, zl_neg]) (by simp only [zi_add, zi_sub, zi_mul, zi_neg, zi_and1, zi_and7, zi_and15, zi_and31, zi_and255, zl_add, zl_sub, zl_mul, zl_neg]) ?_
                  refine gy_lany (fun z221 ez221 az221 bz221 => ?_)
                  refine gy_s 3 (pc' := 111) (L' := [some (.ref x), some (.int (zi p)), some (.int (zi zq1)), some (.int (zi rn2)), some (.int (zi k)), some (.int (zi z97)), some (.int (zi (zq98 / 2 ^ (lw).toNat)))]) (S' := [.int ((zi (zq98 / 2 ^ (lw).toNat)) &&& (zi 1)), .long (zl z221), .ref x]) (L2 := [some (.ref x), some (.int (zi p)), some (.int (zi zq1)), some (.int (zi rn2)), some (.int (zi k)), some (.int (zi z97)), some (.int (zi (zq98 / 2 ^ (lw).toNat)))]) (S2 := [.int (zi ((zq98 / 2 ^ (lw).toNat) % 2)), .long (zl z221), .ref x]) rfl (by simp only [zi_add, zi_sub, zi_mul, zi_neg, zi_and1, zi_and7, zi_and15, zi_and31, zi_and255, zl_add, zl_sub, zl_mul, zl_neg]) (by simp only [zi_add, zi_sub, zi_mul, zi_neg, zi_and1, zi_and7, zi_and15, zi_and31, zi_and255, zl_add, zl_sub, zl_mul, zl_neg]) ?_
                  refine gy_i2l rfl (by decide) (by omega) ?_
                  refine gy_s 1 (pc' := 113) (L' := [some (.ref x), some (.int (zi p)), some (.int (zi zq1)), some (.int (zi rn2)), some (.int (zi k)), some (.int (zi z97)), some (.int (zi (zq98 / 2 ^ (lw).toNat)))]) (S' := [.long ((zl z221) + (zl ((zq98 / 2 ^ (lw).toNat) % 2))), .ref x]) (L2 := [some (.ref x), some (.int (zi p)), some (.int (zi zq1)), some (.int (zi rn2)), some (.int (zi k)), some (.int (zi z97)), some (.int (zi (zq98 / 2 ^ (lw).toNat)))]) (S2 := [.long (zl (z221 + ((zq98 / 2 ^ (lw).toNat) % 2))), .ref x]) rfl (by simp only [zi_add, zi_sub, zi_mul, zi_neg, zi_and1, zi_and7, zi_and15, zi_and31, zi_and255, zl_add, zl_sub, zl_mul, zl_neg]) (by simp only [zi_add, zi_sub, zi_mul, zi_neg, zi_and1, zi_and7, zi_and15, zi_and31, zi_and255, zl_add, zl_sub, zl_mul, zl_neg]) ?_
                  refine gy_lany (fun z222 ez222 az222 bz222 => ?_)
                  refine gs_putl rfl (by decide) rfl sh113 lp112c0 rfl rfl rfl rfl (Or.inl rfl) (by decide) (by omega) (by omega) (fun h223 sh223 eh223 fh223 => ?_)
                  have pr224 := gLc.pt fh223 lp112c0 (by decide) lp112k9
                  have s225 := (fh223 x 0 (fun q => absurd q.2 (by decide))).trans lp112k0
                  have s226 := (fh223 x 11 (fun q => absurd q.2 (by decide))).trans lp112k1
                  have s227 := (fh223 x 7 (fun q => absurd q.2 (by decide))).trans lp112k2
                  have s228 := (fh223 x 8 (fun q => absurd q.2 (by decide))).trans lp112k3
                  have s229 := (fh223 x 10 (fun q => absurd q.2 (by decide))).trans lp112k4
                  have s230 := (fh223 x 2 (fun q => absurd q.2 (by decide))).trans lp112k5
                  have s231 := (fh223 sk 1 (fun q => absurd q.2 (by decide))).trans lp112k6
                  have s232 := (fh223 sk 3 (fun q => absurd q.2 (by decide))).trans lp112k7
                  have s233 := (fh223 x 14 (fun q => absurd q.2 (by decide))).trans lp112k8
                  have s234 := (fh223 sk 0 (fun q => absurd q.2 (by decide))).trans lp112r0
                  refine gz_s 2 (pc' := 118) (L' := [some (.ref x), some (.int (zi p)), some (.int (zi zq1)), some (.int (zi rn2)), some (.int (zi k)), some (.int (zi z97)), some (.int (zi (zq98 / 2 ^ (lw).toNat)))]) (S' := [.ref x, .ref x]) rfl ?_
                  refine gs_gtk rfl (by decide) rfl sh223.1 lp112c0 rfl rfl s233 ?_
                  refine gy_s 2 (pc' := 123) (L' := [some (.ref x), some (.int (zi p)), some (.int (zi zq1)), some (.int (zi rn2)), some (.int (zi k)), some (.int (zi z97)), some (.int (zi (zq98 / 2 ^ (lw).toNat)))]) (S' := [.int ((zi wv2) + (zi 1)), .ref x]) (L2 := [some (.ref x), some (.int (zi p)), some (.int (zi zq1)), some (.int (zi rn2)), some (.int (zi k)), some (.int (zi z97)), some (.int (zi (zq98 / 2 ^ (lw).toNat)))]) (S2 := [.int (zi (wv2 + 1)), .ref x]) rfl (by simp only [zi_add, zi_sub, zi_mul, zi_neg, zi_and1, zi_and7, zi_and15, zi_and31, zi_and255]) (by simp only [zi_add, zi_sub, zi_mul, zi_neg, zi_and1, zi_and7, zi_and15, zi_and31, zi_and255]) ?_
                  refine gs_put rfl (by decide) rfl sh223 lp112c0 rfl rfl rfl rfl (Or.inl rfl) (by decide) (by omega) (by omega) (fun h235 sh235 eh235 fh235 => ?_)
                  have pr236 := gLc.pt fh235 lp112c0 (by decide) pr224
                  have s237 := (fh235 x 0 (fun q => absurd q.2 (by decide))).trans s225
                  have s238 := (fh235 x 11 (fun q => absurd q.2 (by decide))).trans s226
                  have s239 := (fh235 x 7 (fun q => absurd q.2 (by decide))).trans s227
                  have s240 := (fh235 x 8 (fun q => absurd q.2 (by decide))).trans s228
                  have s241 := (fh235 x 10 (fun q => absurd q.2 (by decide))).trans s229
                  have s242 := (fh235 x 2 (fun q => absurd q.2 (by decide))).trans s230
                  have s243 := (fh235 sk 1 (fun q => absurd q.2 (by decide))).trans s231
                  have s244 := (fh235 sk 3 (fun q => absurd q.2 (by decide))).trans s232
                  have s245 := (fh235 sk 0 (fun q => absurd q.2 (by decide))).trans s234
                  have s246 := (fh235 x 13 (fun q => absurd q.2 (by decide))).trans eh223
                  refine gy_s 3 (pc' := 19) (L' := [some (.ref x), some (.int (zi p)), some (.int (zi zq1)), some (.int (zi rn2)), some (.int ((zi k) + zi 1)), some (.int (zi z97)), some (.int (zi (zq98 / 2 ^ (lw).toNat)))]) (S' := []) (L2 := [some (.ref x), some (.int (zi p)), some (.int (zi zq1)), some (.int (zi rn2)), some (.int (zi (k + 1))), some (.int (zi z97)), some (.int (zi (zq98 / 2 ^ (lw).toNat)))]) (S2 := []) rfl (by simp only [zi_add, zi_sub, zi_mul, zi_neg, zi_and1, zi_and7, zi_and15, zi_and31, zi_and255]) (by simp only [zi_add, zi_sub, zi_mul, zi_neg, zi_and1, zi_and7, zi_and15, zi_and31, zi_and255]) ?_
                  have k247 := sh235.2.1
                  have k247b := sh235.2.2.1
                  have hl248 : h235.2.2.2.1 bv2 = h113.2.2.2.1 bv2 := congrFun sh235.2.2.2.2.1 bv2
                  have G249 : gSg [114] [] [56000, 56001, 56002, 56003, 71013, 71014, 80999, 114999] ty h ty114 h235 := gSg.ss lp112G sh235 (by decide)
                  exact gz_wk (ihlp20 ty114 h235 bv2 rn2 (k + 1) cv2 hv2 (wv2 + 1) (by omega) G249 lp112u lp112c0 lp112c1 s245 lp112r1 (by omega) (by omega) (by omega) (by omega) (by omega) (by omega) (by omega) (by omega) (by omega) (by omega) (by omega) (by omega) (by omega) (by omega) (by omega) s237 s238 s239 s240 s241 s243 s244 eh235 pr236) (gLw.s (gLw.s (gLw.s (gLw.s (gLw.s (gLw.n (gLw.n gLw.z)))))))
              · refine gy_icF rfl (by decide) (by decide) (by omega) (by omega) hc115 ?_
                refine gz_s 2 (pc' := 71) (L' := [some (.ref x), some (.int (zi p)), some (.int (zi zq1)), some (.int (zi rn2)), some (.int (zi k)), some (.int (zi z97)), some (.int (zi (zq98 / 2 ^ (lw).toNat)))]) (S' := [.int (zi zq1), .int (zi k)]) rfl ?_
                by_cases hc250 : (zq1 : Int) < k
                · refine gy_icT (pc' := 92) rfl (by decide) (by decide) (by omega) (by omega) hc250 ?_
                  refine gz_s 2 (pc' := 95) (L' := [some (.ref x), some (.int (zi p)), some (.int (zi zq1)), some (.int (zi rn2)), some (.int (zi k)), some (.int (zi z97)), some (.int (zi (zq98 / 2 ^ (lw).toNat)))]) (S' := [.int (zi 1), .int (zi (zq98 / 2 ^ (lw).toNat))]) rfl ?_
                  by_cases hc251 : (zq98 / 2 ^ (lw).toNat : Int) ≤ 1
                  · refine gy_icT (pc' := 129) rfl (by decide) (by decide) (by omega) (by omega) hc251 ?_
                    have hA : (if z97 < 0 then -z97 else z97) = zq98 := by split <;> omega
                    rw [hA] at hlk
                    have hk9 := hlk (by omega)
                    refine gy_s 7 (pc' := 137) (L' := [some (.ref x), some (.int (zi p)), some (.int (zi zq1)), some (.int (zi rn2)), some (.int (zi k)), some (.int (zi z97)), some (.int (zi (zq98 / 2 ^ (lw).toNat)))]) (S' := [.int (((zi 16) * (zi rn2)) + (zi 1)), .int (zi 1), .ref x]) (L2 := [some (.ref x), some (.int (zi p)), some (.int (zi zq1)), some (.int (zi rn2)), some (.int (zi k)), some (.int (zi z97)), some (.int (zi (zq98 / 2 ^ (lw).toNat)))]) (S2 := [.int (zi ((16 * rn2) + 1)), .int (zi 1), .ref x]) rfl (by simp only [zi_add, zi_sub, zi_mul, zi_neg, zi_and1, zi_and7, zi_and15, zi_and31, zi_and255]) (by simp only [zi_add, zi_sub, zi_mul, zi_neg, zi_and1, zi_and7, zi_and15, zi_and31, zi_and255]) ?_
                    have hl252 : h113.2.2.2.1 bv2 = h113.2.2.2.1 bv2 := congrFun sh113.2.2.2.2.1 bv2
                    refine gz_call rfl (by decide) rfl (by decide) (by decide) (gcal_of rfl rfl rfl (Nat.le_of_ble_eq_true rfl) (gJ.recv (G := gGG) sh113.1 lp112c0 rfl rfl)) (cl_putSymbol1 _ sh113.1 x lp112c0 1 (by omega) ((16 * rn2) + 1) (by omega) sk lp112k0 lp112c1 bv2 lp112r0 lp112r1 cv2 lp112k6 (by omega) hv2 lp112k7 (by omega) cg lp112k1 (by omega) (by omega) (by omega) lp112u) (fun q253 _ wq253 => ?_)
                    obtain ⟨pq253, oq253, hq253⟩ := q253
                    obtain ⟨tyq253, xq253, cq253_0, ttq253, fq253_0, fq253_1, ecq253_0, tcq253_0, gq253, efq253_0, afq253_0, bfq253_0, efq253_1, afq253_1, bfq253_1, uq253_0, uq253_1, uq253_2, uq253_3, uq253_4, uq253_5, uq253_6⟩ := wq253
                    dsimp only at uq253_3 uq253_4 uq253_5 uq253_6
                    refine ⟨_, gq253, ?_⟩
                    show gz gPP gGG gcn _ _ 140 [some (.ref x), some (.int (zi p)), some (.int (zi zq1)), some (.int (zi rn2)), some (.int (zi k)), some (.int (zi z97)), some (.int (zi (zq98 / 2 ^ (lw).toNat)))] [] hq253 _
                    have G254 : gSg [114] [] [56000, 56001, 56002, 56003, 71013, 71014, 80999, 114999] ty h tyq253 hq253 := gSg.tr (gSg.ss lp112G sh113 (by decide)) xq253 (by decide) (by decide) (fun x hx => by cases hx)
                    have t255 : tyq253 x = 71 := gSg.typ xq253 sh113.1 lp112c0 rfl
                    have t256 : tyq253 sk = 56 := gSg.typ xq253 sh113.1 lp112c1 rfl
                    have t257 : tyq253 c95 = 73 := gSg.typ xq253 sh113.1 lp112c2 rfl
                    have t258 : tyq253 bv2 = 114 := gSg.typ xq253 sh113.1 lp112r1 rfl
                    have hl259 : hq253.2.2.2.1 bv2 = h113.2.2.2.1 bv2 := gSg.len xq253 sh113.1 lp112r1 rfl
                    have s260 := gSg.at xq253 sh113.1 lp112c0 rfl (by decide) lp112k0
                    have s261 := gSg.at xq253 sh113.1 lp112c0 rfl (by decide) lp112k1
                    have s262 := gSg.at xq253 sh113.1 lp112c0 rfl (by decide) lp112k2
                    have s263 := gSg.at xq253 sh113.1 lp112c0 rfl (by decide) lp112k3
                    have s264 := gSg.at xq253 sh113.1 lp112c0 rfl (by decide) lp112k4
                    have s265 := gSg.at xq253 sh113.1 lp112c0 rfl (by decide) lp112k5
                    have s266 := gSg.at xq253 sh113.1 lp112c0 rfl (by decide) lp112k8
                    have pr267 := gLc.gr xq253 sh113.1 (by decide) (by decide) lp112k9
                    have uq268 := gSg.uq xq253 lp112u (by decide)
                    have sS269 : gSs rT 1027 tyq253 [56000, 56001, 56002, 56003, 71013, 71014, 80999, 114999] hq253 hq253 := gSs.rf xq253.1
                    refine gz_s 2 (pc' := 143) (L' := [some (.ref x), some (.int (zi p)), some (.int (zi zq1)), some (.int (zi rn2)), some (.int (zi k)), some (.int (zi z97)), some (.int (zi (zq98 / 2 ^ (lw).toNat)))]) (S' := [.int (zi z97), .ref x]) rfl ?_
                    by_cases hc270 : (0 : Int) ≤ z97
                    · refine gy_ifT (pc' := 150) rfl (by decide) (by decide) (by omega) hc270 ?_
                      refine gz_s 2 (pc' := 152) (L' := [some (.ref x), some (.int (zi p)), some (.int (zi zq1)), some (.int (zi rn2)), some (.int (zi k)), some (.int (zi z97)), some (.int (zi (zq98 / 2 ^ (lw).toNat)))]) (S' := [.int (zi 1), .int (zi 1), .ref x]) rfl ?_
                      have hl271 : hq253.2.2.2.1 cq253_0 = hq253.2.2.2.1 cq253_0 := congrFun sS269.2.2.2.2.1 cq253_0
                      refine gz_call rfl (by decide) rfl (by decide) (by decide) (gcal_of rfl rfl rfl (Nat.le_of_ble_eq_true rfl) (gJ.recv (G := gGG) sS269.1 t255 rfl rfl)) (cl_Writer_putPlain _ sS269.1 x t255 1 (by omega) 1 (by omega) sk s260 t256 cq253_0 ecq253_0 tcq253_0 fq253_0 efq253_0 (by omega) fq253_1 efq253_1 (by omega) cg s261 (by omega) (by omega) (by omega) uq268) (fun q272 _ wq272 => ?_)
                      obtain ⟨pq272, oq272, hq272⟩ := q272
                      obtain ⟨tyq272, xq272, cq272_0, ttq272, fq272_0, fq272_1, ecq272_0, tcq272_0, gq272, efq272_0, afq272_0, bfq272_0, efq272_1, afq272_1, bfq272_1, uq272_0, uq272_1, uq272_2, uq272_3, uq272_4, uq272_5, uq272_6⟩ := wq272
                      dsimp only at uq272_3 uq272_4 uq272_5 uq272_6
                      refine ⟨_, gq272, ?_⟩
                      show gz gPP gGG gcn _ _ 155 [some (.ref x), some (.int (zi p)), some (.int (zi zq1)), some (.int (zi rn2)), some (.int (zi k)), some (.int (zi z97)), some (.int (zi (zq98 / 2 ^ (lw).toNat)))] [] hq272 _
                      have G273 : gSg [114] [] [56000, 56001, 56002, 56003, 71013, 71014, 80999, 114999] ty h tyq272 hq272 := gSg.tr (gSg.ss G254 sS269 (by decide)) xq272 (by decide) (by decide) (fun x hx => by cases hx)
                      have t274 : tyq272 x = 71 := gSg.typ xq272 sS269.1 t255 rfl
                      have t275 : tyq272 sk = 56 := gSg.typ xq272 sS269.1 t256 rfl
                      have t276 : tyq272 c95 = 73 := gSg.typ xq272 sS269.1 t257 rfl
                      have t277 : tyq272 bv2 = 114 := gSg.typ xq272 sS269.1 t258 rfl
                      have hl278 : hq272.2.2.2.1 bv2 = hq253.2.2.2.1 bv2 := gSg.len xq272 sS269.1 t258 rfl
                      have t279 : tyq272 cq253_0 = 114 := gSg.typ xq272 sS269.1 tcq253_0 rfl
                      have hl280 : hq272.2.2.2.1 cq253_0 = hq253.2.2.2.1 cq253_0 := gSg.len xq272 sS269.1 tcq253_0 rfl
                      have s281 := gSg.at xq272 sS269.1 t255 rfl (by decide) s260
                      have s282 := gSg.at xq272 sS269.1 t255 rfl (by decide) s261
                      have s283 := gSg.at xq272 sS269.1 t255 rfl (by decide) s262
                      have s284 := gSg.at xq272 sS269.1 t255 rfl (by decide) s263
                      have s285 := gSg.at xq272 sS269.1 t255 rfl (by decide) s264
                      have s286 := gSg.at xq272 sS269.1 t255 rfl (by decide) s265
                      have s287 := gSg.at xq272 sS269.1 t255 rfl (by decide) s266
                      have pr288 := gLc.gr xq272 sS269.1 (by decide) (by decide) pr267
                      have uq289 := gSg.uq xq272 uq268 (by decide)
                      have sS290 : gSs rT 1027 tyq272 [56000, 56001, 56002, 56003, 71013, 71014, 80999, 114999] hq272 hq272 := gSs.rf xq272.1
                      refine gz_s 1 (pc' := 156) (L' := [some (.ref x), some (.int (zi p)), some (.int (zi zq1)), some (.int (zi rn2)), some (.int (zi k)), some (.int (zi z97)), some (.int (zi (zq98 / 2 ^ (lw).toNat)))]) (S' := [.ref x]) rfl ?_
                      have hl291 : hq272.2.2.2.1 cq272_0 = hq272.2.2.2.1 cq272_0 := congrFun sS290.2.2.2.2.1 cq272_0
                      refine gz_call rfl (by decide) rfl (by decide) (by decide) (gcal_of rfl rfl rfl (Nat.le_of_ble_eq_true rfl) (gJ.recv (G := gGG) sS290.1 t274 rfl rfl)) (cl_Writer_putWaiting _ sS290.1 x t274 sk s281 t275 cq272_0 ecq272_0 tcq272_0 fq272_0 efq272_0 (by omega) fq272_1 efq272_1 (by omega) cg s282 (by omega) wv2 s287 (by omega) (by omega) (by omega) uq289) (fun q292 _ wq292 => ?_)
                      obtain ⟨pq292, oq292, hq292⟩ := q292
                      obtain ⟨tyq292, xq292, cq292_0, ttq292, fq292_0, fq292_1, fq292_2, ecq292_0, tcq292_0, gq292, efq292_0, afq292_0, bfq292_0, efq292_1, afq292_1, bfq292_1, efq292_2, afq292_2, bfq292_2, uq292_0, uq292_1, uq292_2, uq292_3, uq292_4, uq292_5, uq292_6, uq292_7⟩ := wq292
                      dsimp only at uq292_3 uq292_4 uq292_5 uq292_7
                      refine ⟨_, gq292, ?_⟩
                      show gz gPP gGG gcn _ _ 159 [some (.ref x), some (.int (zi p)), some (.int (zi zq1)), some (.int (zi rn2)), some (.int (zi k)), some (.int (zi z97)), some (.int (zi (zq98 / 2 ^ (lw).toNat)))] [] hq292 _
                      have G293 : gSg [114] [] [56000, 56001, 56002, 56003, 71013, 71014, 80999, 114999] ty h tyq292 hq292 := gSg.tr (gSg.ss G273 sS290 (by decide)) xq292 (by decide) (by decide) (fun x hx => by cases hx)
                      have t294 : tyq292 x = 71 := gSg.typ xq292 sS290.1 t274 rfl
                      have t295 : tyq292 sk = 56 := gSg.typ xq292 sS290.1 t275 rfl
                      have t296 : tyq292 c95 = 73 := gSg.typ xq292 sS290.1 t276 rfl
                      have t297 : tyq292 bv2 = 114 := gSg.typ xq292 sS290.1 t277 rfl
                      have hl298 : hq292.2.2.2.1 bv2 = hq272.2.2.2.1 bv2 := gSg.len xq292 sS290.1 t277 rfl
                      have t299 : tyq292 cq253_0 = 114 := gSg.typ xq292 sS290.1 t279 rfl
                      have hl300 : hq292.2.2.2.1 cq253_0 = hq272.2.2.2.1 cq253_0 := gSg.len xq292 sS290.1 t279 rfl
                      have t301 : tyq292 cq272_0 = 114 := gSg.typ xq292 sS290.1 tcq272_0 rfl
                      have hl302 : hq292.2.2.2.1 cq272_0 = hq272.2.2.2.1 cq272_0 := gSg.len xq292 sS290.1 tcq272_0 rfl
                      have s303 := gSg.at xq292 sS290.1 t274 rfl (by decide) s281
                      have s304 := gSg.at xq292 sS290.1 t274 rfl (by decide) s282
                      have s305 := gSg.at xq292 sS290.1 t274 rfl (by decide) s283
                      have s306 := gSg.at xq292 sS290.1 t274 rfl (by decide) s284
                      have s307 := gSg.at xq292 sS290.1 t274 rfl (by decide) s285
                      have s308 := gSg.at xq292 sS290.1 t274 rfl (by decide) s286
                      have pr309 := gLc.gr xq292 sS290.1 (by decide) (by decide) pr288
                      have uq310 := gSg.uq xq292 uq289 (by decide)
                      have sS311 : gSs rT 1027 tyq292 [56000, 56001, 56002, 56003, 71013, 71014, 80999, 114999] hq292 hq292 := gSs.rf xq292.1
                      refine gy_s 4 (pc' := 19) (L' := [some (.ref x), some (.int (zi p)), some (.int (zi zq1)), some (.int (zi 0)), some (.int ((zi k) + zi 1)), some (.int (zi z97)), some (.int (zi (zq98 / 2 ^ (lw).toNat)))]) (S' := []) (L2 := [some (.ref x), some (.int (zi p)), some (.int (zi zq1)), some (.int (zi 0)), some (.int (zi (k + 1))), some (.int (zi z97)), some (.int (zi (zq98 / 2 ^ (lw).toNat)))]) (S2 := []) rfl (by simp only [zi_add, zi_sub, zi_mul, zi_neg, zi_and1, zi_and7, zi_and15, zi_and31, zi_and255]) (by simp only [zi_add, zi_sub, zi_mul, zi_neg, zi_and1, zi_and7, zi_and15, zi_and31, zi_and255]) ?_
                      have G312 : gSg [114] [] [56000, 56001, 56002, 56003, 71013, 71014, 80999, 114999] ty h tyq292 hq292 := gSg.ss G293 sS311 (by decide)
                      exact gz_wk (ihlp20 tyq292 hq292 cq292_0 0 (k + 1) fq292_0 fq292_1 fq292_2 (by omega) G312 uq310 t294 t295 ecq292_0 tcq292_0 (by omega) (by omega) (by omega) (by omega) (by omega) (by omega) (by omega) (by omega) (by omega) (by omega) (by omega) (by omega) (by omega) (by omega) (by omega) s303 s304 s305 s306 s307 efq292_0 efq292_1 efq292_2 pr309) (gLw.s (gLw.s (gLw.s (gLw.s (gLw.s (gLw.n (gLw.n gLw.z)))))))
                    · refine gy_ifF rfl (by decide) (by decide) (by omega) hc270 ?_
                      refine gz_s 3 (pc' := 152) (L' := [some (.ref x), some (.int (zi p)), some (.int (zi zq1)), some (.int (zi rn2)), some (.int (zi k)), some (.int (zi z97)), some (.int (zi (zq98 / 2 ^ (lw).toNat)))]) (S' := [.int (zi 1), .int (zi 0), .ref x]) rfl ?_
                      have hl313 : hq253.2.2.2.1 cq253_0 = hq253.2.2.2.1 cq253_0 := congrFun sS269.2.2.2.2.1 cq253_0
                      refine gz_call rfl (by decide) rfl (by decide) (by decide) (gcal_of rfl rfl rfl (Nat.le_of_ble_eq_true rfl) (gJ.recv (G := gGG) sS269.1 t255 rfl rfl)) (cl_Writer_putPlain _ sS269.1 x t255 0 (by omega) 1 (by omega) sk s260 t256 cq253_0 ecq253_0 tcq253_0 fq253_0 efq253_0 (by omega) fq253_1 efq253_1 (by omega) cg s261 (by omega) (by omega) (by omega) uq268) (fun q314 _ wq314 => ?_)
                      obtain ⟨pq314, oq314, hq314⟩ := q314
                      obtain ⟨tyq314, xq314, cq314_0, ttq314, fq314_0, fq314_1, ecq314_0, tcq314_0, gq314, efq314_0, afq314_0, bfq314_0, efq314_1, afq314_1, bfq314_1, uq314_0, uq314_1, uq314_2, uq314_3, uq314_4, uq314_5, uq314_6⟩ := wq314
                      dsimp only at uq314_3 uq314_4 uq314_5 uq314_6
                      refine ⟨_, gq314, ?_⟩
                      show gz gPP gGG gcn _ _ 155 [some (.ref x), some (.int (zi p)), some (.int (zi zq1)), some (.int (zi rn2)), some (.int (zi k)), some (.int (zi z97)), some (.int (zi (zq98 / 2 ^ (lw).toNat)))] [] hq314 _
                      have G315 : gSg [114] [] [56000, 56001, 56002, 56003, 71013, 71014, 80999, 114999] ty h tyq314 hq314 := gSg.tr (gSg.ss G254 sS269 (by decide)) xq314 (by decide) (by decide) (fun x hx => by cases hx)
                      have t316 : tyq314 x = 71 := gSg.typ xq314 sS269.1 t255 rfl
                      have t317 : tyq314 sk = 56 := gSg.typ xq314 sS269.1 t256 rfl
                      have t318 : tyq314 c95 = 73 := gSg.typ xq314 sS269.1 t257 rfl
                      have t319 : tyq314 bv2 = 114 := gSg.typ xq314 sS269.1 t258 rfl
                      have hl320 : hq314.2.2.2.1 bv2 = hq253.2.2.2.1 bv2 := gSg.len xq314 sS269.1 t258 rfl
                      have t321 : tyq314 cq253_0 = 114 := gSg.typ xq314 sS269.1 tcq253_0 rfl
                      have hl322 : hq314.2.2.2.1 cq253_0 = hq253.2.2.2.1 cq253_0 := gSg.len xq314 sS269.1 tcq253_0 rfl
                      have s323 := gSg.at xq314 sS269.1 t255 rfl (by decide) s260
                      have s324 := gSg.at xq314 sS269.1 t255 rfl (by decide) s261
                      have s325 := gSg.at xq314 sS269.1 t255 rfl (by decide) s262
                      have s326 := gSg.at xq314 sS269.1 t255 rfl (by decide) s263
                      have s327 := gSg.at xq314 sS269.1 t255 rfl (by decide) s264
                      have s328 := gSg.at xq314 sS269.1 t255 rfl (by decide) s265
                      have s329 := gSg.at xq314 sS269.1 t255 rfl (by decide) s266
                      have pr330 := gLc.gr xq314 sS269.1 (by decide) (by decide) pr267
                      have uq331 := gSg.uq xq314 uq268 (by decide)
                      have sS332 : gSs rT 1027 tyq314 [56000, 56001, 56002, 56003, 71013, 71014, 80999, 114999] hq314 hq314 := gSs.rf xq314.1
                      refine gz_s 1 (pc' := 156) (L' := [some (.ref x), some (.int (zi p)), some (.int (zi zq1)), some (.int (zi rn2)), some (.int (zi k)), some (.int (zi z97)), some (.int (zi (zq98 / 2 ^ (lw).toNat)))]) (S' := [.ref x]) rfl ?_
                      have hl333 : hq314.2.2.2.1 cq314_0 = hq314.2.2.2.1 cq314_0 := congrFun sS332.2.2.2.2.1 cq314_0
                      refine gz_call rfl (by decide) rfl (by decide) (by decide) (gcal_of rfl rfl rfl (Nat.le_of_ble_eq_true rfl) (gJ.recv (G := gGG) sS332.1 t316 rfl rfl)) (cl_Writer_putWaiting _ sS332.1 x t316 sk s323 t317 cq314_0 ecq314_0 tcq314_0 fq314_0 efq314_0 (by omega) fq314_1 efq314_1 (by omega) cg s324 (by omega) wv2 s329 (by omega) (by omega) (by omega) uq331) (fun q334 _ wq334 => ?_)
                      obtain ⟨pq334, oq334, hq334⟩ := q334
                      obtain ⟨tyq334, xq334, cq334_0, ttq334, fq334_0, fq334_1, fq334_2, ecq334_0, tcq334_0, gq334, efq334_0, afq334_0, bfq334_0, efq334_1, afq334_1, bfq334_1, efq334_2, afq334_2, bfq334_2, uq334_0, uq334_1, uq334_2, uq334_3, uq334_4, uq334_5, uq334_6, uq334_7⟩ := wq334
                      dsimp only at uq334_3 uq334_4 uq334_5 uq334_7
                      refine ⟨_, gq334, ?_⟩
                      show gz gPP gGG gcn _ _ 159 [some (.ref x), some (.int (zi p)), some (.int (zi zq1)), some (.int (zi rn2)), some (.int (zi k)), some (.int (zi z97)), some (.int (zi (zq98 / 2 ^ (lw).toNat)))] [] hq334 _
                      have G335 : gSg [114] [] [56000, 56001, 56002, 56003, 71013, 71014, 80999, 114999] ty h tyq334 hq334 := gSg.tr (gSg.ss G315 sS332 (by decide)) xq334 (by decide) (by decide) (fun x hx => by cases hx)
                      have t336 : tyq334 x = 71 := gSg.typ xq334 sS332.1 t316 rfl
                      have t337 : tyq334 sk = 56 := gSg.typ xq334 sS332.1 t317 rfl
                      have t338 : tyq334 c95 = 73 := gSg.typ xq334 sS332.1 t318 rfl
                      have t339 : tyq334 bv2 = 114 := gSg.typ xq334 sS332.1 t319 rfl
                      have hl340 : hq334.2.2.2.1 bv2 = hq314.2.2.2.1 bv2 := gSg.len xq334 sS332.1 t319 rfl
                      have t341 : tyq334 cq253_0 = 114 := gSg.typ xq334 sS332.1 t321 rfl
                      have hl342 : hq334.2.2.2.1 cq253_0 = hq314.2.2.2.1 cq253_0 := gSg.len xq334 sS332.1 t321 rfl
                      have t343 : tyq334 cq314_0 = 114 := gSg.typ xq334 sS332.1 tcq314_0 rfl
                      have hl344 : hq334.2.2.2.1 cq314_0 = hq314.2.2.2.1 cq314_0 := gSg.len xq334 sS332.1 tcq314_0 rfl
                      have s345 := gSg.at xq334 sS332.1 t316 rfl (by decide) s323
                      have s346 := gSg.at xq334 sS332.1 t316 rfl (by decide) s324
                      have s347 := gSg.at xq334 sS332.1 t316 rfl (by decide) s325
                      have s348 := gSg.at xq334 sS332.1 t316 rfl (by decide) s326
                      have s349 := gSg.at xq334 sS332.1 t316 rfl (by decide) s327
                      have s350 := gSg.at xq334 sS332.1 t316 rfl (by decide) s328
                      have pr351 := gLc.gr xq334 sS332.1 (by decide) (by decide) pr330
                      have uq352 := gSg.uq xq334 uq331 (by decide)
                      have sS353 : gSs rT 1027 tyq334 [56000, 56001, 56002, 56003, 71013, 71014, 80999, 114999] hq334 hq334 := gSs.rf xq334.1
                      refine gy_s 4 (pc' := 19) (L' := [some (.ref x), some (.int (zi p)), some (.int (zi zq1)), some (.int (zi 0)), some (.int ((zi k) + zi 1)), some (.int (zi z97)), some (.int (zi (zq98 / 2 ^ (lw).toNat)))]) (S' := []) (L2 := [some (.ref x), some (.int (zi p)), some (.int (zi zq1)), some (.int (zi 0)), some (.int (zi (k + 1))), some (.int (zi z97)), some (.int (zi (zq98 / 2 ^ (lw).toNat)))]) (S2 := []) rfl (by simp only [zi_add, zi_sub, zi_mul, zi_neg, zi_and1, zi_and7, zi_and15, zi_and31, zi_and255]) (by simp only [zi_add, zi_sub, zi_mul, zi_neg, zi_and1, zi_and7, zi_and15, zi_and31, zi_and255]) ?_
                      have G354 : gSg [114] [] [56000, 56001, 56002, 56003, 71013, 71014, 80999, 114999] ty h tyq334 hq334 := gSg.ss G335 sS353 (by decide)
                      exact gz_wk (ihlp20 tyq334 hq334 cq334_0 0 (k + 1) fq334_0 fq334_1 fq334_2 (by omega) G354 uq352 t336 t337 ecq334_0 tcq334_0 (by omega) (by omega) (by omega) (by omega) (by omega) (by omega) (by omega) (by omega) (by omega) (by omega) (by omega) (by omega) (by omega) (by omega) (by omega) s345 s346 s347 s348 s349 efq334_0 efq334_1 efq334_2 pr351) (gLw.s (gLw.s (gLw.s (gLw.s (gLw.s (gLw.n (gLw.n gLw.z)))))))
                  · refine gy_icF rfl (by decide) (by decide) (by omega) (by omega) hc251 ?_
                    refine gz_s 1 (pc' := 99) (L' := [some (.ref x), some (.int (zi p)), some (.int (zi zq1)), some (.int (zi rn2)), some (.int (zi k)), some (.int (zi z97)), some (.int (zi (zq98 / 2 ^ (lw).toNat)))]) (S' := [.ref x]) rfl ?_
                    refine gz_1 rfl (by decide) rfl rfl (pc' := 102) (S' := [.long (zl 2), .ref x]) (h' := h113) rfl ?_
                    refine gz_s 1 (pc' := 103) (L' := [some (.ref x), some (.int (zi p)), some (.int (zi zq1)), some (.int (zi rn2)), some (.int (zi k)), some (.int (zi z97)), some (.int (zi (zq98 / 2 ^ (lw).toNat)))]) (S' := [.ref x, .long (zl 2), .ref x]) rfl ?_
                    refine gs_getl rfl (by decide) rfl sh113.1 lp112c0 rfl rfl rfl (fun z355 ez355 az355 bz355 => ?_)
                    refine gy_s 1 (pc' := 107) (L' := [some (.ref x), some (.int (zi p)), some (.int (zi zq1)), some (.int (zi rn2)), some (.int (zi k)), some (.int (zi z97)), some (.int (zi (zq98 / 2 ^ (lw).toNat)))]) (S' := [.long ((zl 2) * (zl z355)), .ref x]) (L2 := [some (.ref x), some (.int (zi p)), some (.int (zi zq1)), some (.int (zi rn2)), some (.int (zi k)), some (.int (zi z97)), some (.int (zi (zq98 / 2 ^ (lw).toNat)))]) (S2 := [.long (zl (2 * z355)), .ref x]) rfl (by simp only [zi_add, zi_sub, zi_mul, zi_neg, zi_and1, zi_and7, zi_and15, zi_and31, zi_and255, zl_add, zl_sub, zl_mul, zl_neg]) (by simp only [zi_add, zi_sub, zi_mul, zi_neg, zi_and1, zi_and7, zi_and15, zi_and31, zi_and255, zl_add, zl_sub, zl_mul, zl_neg]) ?_
                    refine gy_lany (fun z356 ez356 az356 bz356 => ?_)
                    refine gy_s 3 (pc' := 111) (L' := [some (.ref x), some (.int (zi p)), some (.int (zi zq1)), some (.int (zi rn2)), some (.int (zi k)), some (.int (zi z97)), some (.int (zi (zq98 / 2 ^ (lw).toNat)))]) (S' := [.int ((zi (zq98 / 2 ^ (lw).toNat)) &&& (zi 1)), .long (zl z356), .ref x]) (L2 := [some (.ref x), some (.int (zi p)), some (.int (zi zq1)), some (.int (zi rn2)), some (.int (zi k)), some (.int (zi z97)), some (.int (zi (zq98 / 2 ^ (lw).toNat)))]) (S2 := [.int (zi ((zq98 / 2 ^ (lw).toNat) % 2)), .long (zl z356), .ref x]) rfl (by simp only [zi_add, zi_sub, zi_mul, zi_neg, zi_and1, zi_and7, zi_and15, zi_and31, zi_and255, zl_add, zl_sub, zl_mul, zl_neg]) (by simp only [zi_add, zi_sub, zi_mul, zi_neg, zi_and1, zi_and7, zi_and15, zi_and31, zi_and255, zl_add, zl_sub, zl_mul, zl_neg]) ?_
                    refine gy_i2l rfl (by decide) (by omega) ?_
                    refine gy_s 1 (pc' := 113) (L' := [some (.ref x), some (.int (zi p)), some (.int (zi zq1)), some (.int (zi rn2)), some (.int (zi k)), some (.int (zi z97)), some (.int (zi (zq98 / 2 ^ (lw).toNat)))]) (S' := [.long ((zl z356) + (zl ((zq98 / 2 ^ (lw).toNat) % 2))), .ref x]) (L2 := [some (.ref x), some (.int (zi p)), some (.int (zi zq1)), some (.int (zi rn2)), some (.int (zi k)), some (.int (zi z97)), some (.int (zi (zq98 / 2 ^ (lw).toNat)))]) (S2 := [.long (zl (z356 + ((zq98 / 2 ^ (lw).toNat) % 2))), .ref x]) rfl (by simp only [zi_add, zi_sub, zi_mul, zi_neg, zi_and1, zi_and7, zi_and15, zi_and31, zi_and255, zl_add, zl_sub, zl_mul, zl_neg]) (by simp only [zi_add, zi_sub, zi_mul, zi_neg, zi_and1, zi_and7, zi_and15, zi_and31, zi_and255, zl_add, zl_sub, zl_mul, zl_neg]) ?_
                    refine gy_lany (fun z357 ez357 az357 bz357 => ?_)
                    refine gs_putl rfl (by decide) rfl sh113 lp112c0 rfl rfl rfl rfl (Or.inl rfl) (by decide) (by omega) (by omega) (fun h358 sh358 eh358 fh358 => ?_)
                    have pr359 := gLc.pt fh358 lp112c0 (by decide) lp112k9
                    have s360 := (fh358 x 0 (fun q => absurd q.2 (by decide))).trans lp112k0
                    have s361 := (fh358 x 11 (fun q => absurd q.2 (by decide))).trans lp112k1
                    have s362 := (fh358 x 7 (fun q => absurd q.2 (by decide))).trans lp112k2
                    have s363 := (fh358 x 8 (fun q => absurd q.2 (by decide))).trans lp112k3
                    have s364 := (fh358 x 10 (fun q => absurd q.2 (by decide))).trans lp112k4
                    have s365 := (fh358 x 2 (fun q => absurd q.2 (by decide))).trans lp112k5
                    have s366 := (fh358 sk 1 (fun q => absurd q.2 (by decide))).trans lp112k6
                    have s367 := (fh358 sk 3 (fun q => absurd q.2 (by decide))).trans lp112k7
                    have s368 := (fh358 x 14 (fun q => absurd q.2 (by decide))).trans lp112k8
                    have s369 := (fh358 sk 0 (fun q => absurd q.2 (by decide))).trans lp112r0
                    refine gz_s 2 (pc' := 118) (L' := [some (.ref x), some (.int (zi p)), some (.int (zi zq1)), some (.int (zi rn2)), some (.int (zi k)), some (.int (zi z97)), some (.int (zi (zq98 / 2 ^ (lw).toNat)))]) (S' := [.ref x, .ref x]) rfl ?_
                    refine gs_gtk rfl (by decide) rfl sh358.1 lp112c0 rfl rfl s368 ?_
                    refine gy_s 2 (pc' := 123) (L' := [some (.ref x), some (.int (zi p)), some (.int (zi zq1)), some (.int (zi rn2)), some (.int (zi k)), some (.int (zi z97)), some (.int (zi (zq98 / 2 ^ (lw).toNat)))]) (S' := [.int ((zi wv2) + (zi 1)), .ref x]) (L2 := [some (.ref x), some (.int (zi p)), some (.int (zi zq1)), some (.int (zi rn2)), some (.int (zi k)), some (.int (zi z97)), some (.int (zi (zq98 / 2 ^ (lw).toNat)))]) (S2 := [.int (zi (wv2 + 1)), .ref x]) rfl (by simp only [zi_add, zi_sub, zi_mul, zi_neg, zi_and1, zi_and7, zi_and15, zi_and31, zi_and255]) (by simp only [zi_add, zi_sub, zi_mul, zi_neg, zi_and1, zi_and7, zi_and15, zi_and31, zi_and255]) ?_
                    refine gs_put rfl (by decide) rfl sh358 lp112c0 rfl rfl rfl rfl (Or.inl rfl) (by decide) (by omega) (by omega) (fun h370 sh370 eh370 fh370 => ?_)
                    have pr371 := gLc.pt fh370 lp112c0 (by decide) pr359
                    have s372 := (fh370 x 0 (fun q => absurd q.2 (by decide))).trans s360
                    have s373 := (fh370 x 11 (fun q => absurd q.2 (by decide))).trans s361
                    have s374 := (fh370 x 7 (fun q => absurd q.2 (by decide))).trans s362
                    have s375 := (fh370 x 8 (fun q => absurd q.2 (by decide))).trans s363
                    have s376 := (fh370 x 10 (fun q => absurd q.2 (by decide))).trans s364
                    have s377 := (fh370 x 2 (fun q => absurd q.2 (by decide))).trans s365
                    have s378 := (fh370 sk 1 (fun q => absurd q.2 (by decide))).trans s366
                    have s379 := (fh370 sk 3 (fun q => absurd q.2 (by decide))).trans s367
                    have s380 := (fh370 sk 0 (fun q => absurd q.2 (by decide))).trans s369
                    have s381 := (fh370 x 13 (fun q => absurd q.2 (by decide))).trans eh358
                    refine gy_s 3 (pc' := 19) (L' := [some (.ref x), some (.int (zi p)), some (.int (zi zq1)), some (.int (zi rn2)), some (.int ((zi k) + zi 1)), some (.int (zi z97)), some (.int (zi (zq98 / 2 ^ (lw).toNat)))]) (S' := []) (L2 := [some (.ref x), some (.int (zi p)), some (.int (zi zq1)), some (.int (zi rn2)), some (.int (zi (k + 1))), some (.int (zi z97)), some (.int (zi (zq98 / 2 ^ (lw).toNat)))]) (S2 := []) rfl (by simp only [zi_add, zi_sub, zi_mul, zi_neg, zi_and1, zi_and7, zi_and15, zi_and31, zi_and255]) (by simp only [zi_add, zi_sub, zi_mul, zi_neg, zi_and1, zi_and7, zi_and15, zi_and31, zi_and255]) ?_
                    have k382 := sh370.2.1
                    have k382b := sh370.2.2.1
                    have hl383 : h370.2.2.2.1 bv2 = h113.2.2.2.1 bv2 := congrFun sh370.2.2.2.2.1 bv2
                    have G384 : gSg [114] [] [56000, 56001, 56002, 56003, 71013, 71014, 80999, 114999] ty h ty114 h370 := gSg.ss lp112G sh370 (by decide)
                    exact gz_wk (ihlp20 ty114 h370 bv2 rn2 (k + 1) cv2 hv2 (wv2 + 1) (by omega) G384 lp112u lp112c0 lp112c1 s380 lp112r1 (by omega) (by omega) (by omega) (by omega) (by omega) (by omega) (by omega) (by omega) (by omega) (by omega) (by omega) (by omega) (by omega) (by omega) (by omega) s372 s373 s374 s375 s376 s378 s379 eh370 pr371) (gLw.s (gLw.s (gLw.s (gLw.s (gLw.s (gLw.n (gLw.n gLw.z)))))))
                · refine gy_icF rfl (by decide) (by decide) (by omega) (by omega) hc250 ?_
                  refine gz_s 3 (pc' := 79) (L' := [some (.ref x), some (.int (zi p)), some (.int (zi zq1)), some (.int (zi rn2)), some (.int (zi k)), some (.int (zi z97)), some (.int (zi (zq98 / 2 ^ (lw).toNat)))]) (S' := [.int (zi 240), .int (zi 1), .ref x]) rfl ?_
                  have hl385 : h113.2.2.2.1 bv2 = h113.2.2.2.1 bv2 := congrFun sh113.2.2.2.2.1 bv2
                  refine gz_call rfl (by decide) rfl (by decide) (by decide) (gcal_of rfl rfl rfl (Nat.le_of_ble_eq_true rfl) (gJ.recv (G := gGG) sh113.1 lp112c0 rfl rfl)) (cl_putSymbol1 _ sh113.1 x lp112c0 1 (by omega) 240 (by omega) sk lp112k0 lp112c1 bv2 lp112r0 lp112r1 cv2 lp112k6 (by omega) hv2 lp112k7 (by omega) cg lp112k1 (by omega) (by omega) (by omega) lp112u) (fun q386 _ wq386 => ?_)
                  obtain ⟨pq386, oq386, hq386⟩ := q386
                  obtain ⟨tyq386, xq386, cq386_0, ttq386, fq386_0, fq386_1, ecq386_0, tcq386_0, gq386, efq386_0, afq386_0, bfq386_0, efq386_1, afq386_1, bfq386_1, uq386_0, uq386_1, uq386_2, uq386_3, uq386_4, uq386_5, uq386_6⟩ := wq386
                  dsimp only at uq386_3 uq386_4 uq386_5 uq386_6
                  refine ⟨_, gq386, ?_⟩
                  show gz gPP gGG gcn _ _ 82 [some (.ref x), some (.int (zi p)), some (.int (zi zq1)), some (.int (zi rn2)), some (.int (zi k)), some (.int (zi z97)), some (.int (zi (zq98 / 2 ^ (lw).toNat)))] [] hq386 _
                  have G387 : gSg [114] [] [56000, 56001, 56002, 56003, 71013, 71014, 80999, 114999] ty h tyq386 hq386 := gSg.tr (gSg.ss lp112G sh113 (by decide)) xq386 (by decide) (by decide) (fun x hx => by cases hx)
                  have t388 : tyq386 x = 71 := gSg.typ xq386 sh113.1 lp112c0 rfl
                  have t389 : tyq386 sk = 56 := gSg.typ xq386 sh113.1 lp112c1 rfl
                  have t390 : tyq386 c95 = 73 := gSg.typ xq386 sh113.1 lp112c2 rfl
                  have t391 : tyq386 bv2 = 114 := gSg.typ xq386 sh113.1 lp112r1 rfl
                  have hl392 : hq386.2.2.2.1 bv2 = h113.2.2.2.1 bv2 := gSg.len xq386 sh113.1 lp112r1 rfl
                  have s393 := gSg.at xq386 sh113.1 lp112c0 rfl (by decide) lp112k0
                  have s394 := gSg.at xq386 sh113.1 lp112c0 rfl (by decide) lp112k1
                  have s395 := gSg.at xq386 sh113.1 lp112c0 rfl (by decide) lp112k2
                  have s396 := gSg.at xq386 sh113.1 lp112c0 rfl (by decide) lp112k3
                  have s397 := gSg.at xq386 sh113.1 lp112c0 rfl (by decide) lp112k4
                  have s398 := gSg.at xq386 sh113.1 lp112c0 rfl (by decide) lp112k5
                  have s399 := gSg.at xq386 sh113.1 lp112c0 rfl (by decide) lp112k8
                  have pr400 := gLc.gr xq386 sh113.1 (by decide) (by decide) lp112k9
                  have uq401 := gSg.uq xq386 lp112u (by decide)
                  have sS402 : gSs rT 1027 tyq386 [56000, 56001, 56002, 56003, 71013, 71014, 80999, 114999] hq386 hq386 := gSs.rf xq386.1
                  refine gz_s 1 (pc' := 83) (L' := [some (.ref x), some (.int (zi p)), some (.int (zi zq1)), some (.int (zi rn2)), some (.int (zi k)), some (.int (zi z97)), some (.int (zi (zq98 / 2 ^ (lw).toNat)))]) (S' := [.ref x]) rfl ?_
                  have hl403 : hq386.2.2.2.1 cq386_0 = hq386.2.2.2.1 cq386_0 := congrFun sS402.2.2.2.2.1 cq386_0
                  refine gz_call rfl (by decide) rfl (by decide) (by decide) (gcal_of rfl rfl rfl (Nat.le_of_ble_eq_true rfl) (gJ.recv (G := gGG) sS402.1 t388 rfl rfl)) (cl_Writer_putWaiting _ sS402.1 x t388 sk s393 t389 cq386_0 ecq386_0 tcq386_0 fq386_0 efq386_0 (by omega) fq386_1 efq386_1 (by omega) cg s394 (by omega) wv2 s399 (by omega) (by omega) (by omega) uq401) (fun q404 _ wq404 => ?_)
                  obtain ⟨pq404, oq404, hq404⟩ := q404
                  obtain ⟨tyq404, xq404, cq404_0, ttq404, fq404_0, fq404_1, fq404_2, ecq404_0, tcq404_0, gq404, efq404_0, afq404_0, bfq404_0, efq404_1, afq404_1, bfq404_1, efq404_2, afq404_2, bfq404_2, uq404_0, uq404_1, uq404_2, uq404_3, uq404_4, uq404_5, uq404_6, uq404_7⟩ := wq404
                  dsimp only at uq404_3 uq404_4 uq404_5 uq404_7
                  refine ⟨_, gq404, ?_⟩
                  show gz gPP gGG gcn _ _ 86 [some (.ref x), some (.int (zi p)), some (.int (zi zq1)), some (.int (zi rn2)), some (.int (zi k)), some (.int (zi z97)), some (.int (zi (zq98 / 2 ^ (lw).toNat)))] [] hq404 _
                  have G405 : gSg [114] [] [56000, 56001, 56002, 56003, 71013, 71014, 80999, 114999] ty h tyq404 hq404 := gSg.tr (gSg.ss G387 sS402 (by decide)) xq404 (by decide) (by decide) (fun x hx => by cases hx)
                  have t406 : tyq404 x = 71 := gSg.typ xq404 sS402.1 t388 rfl
                  have t407 : tyq404 sk = 56 := gSg.typ xq404 sS402.1 t389 rfl
                  have t408 : tyq404 c95 = 73 := gSg.typ xq404 sS402.1 t390 rfl
                  have t409 : tyq404 bv2 = 114 := gSg.typ xq404 sS402.1 t391 rfl
                  have hl410 : hq404.2.2.2.1 bv2 = hq386.2.2.2.1 bv2 := gSg.len xq404 sS402.1 t391 rfl
                  have t411 : tyq404 cq386_0 = 114 := gSg.typ xq404 sS402.1 tcq386_0 rfl
                  have hl412 : hq404.2.2.2.1 cq386_0 = hq386.2.2.2.1 cq386_0 := gSg.len xq404 sS402.1 tcq386_0 rfl
                  have s413 := gSg.at xq404 sS402.1 t388 rfl (by decide) s393
                  have s414 := gSg.at xq404 sS402.1 t388 rfl (by decide) s394
                  have s415 := gSg.at xq404 sS402.1 t388 rfl (by decide) s395
                  have s416 := gSg.at xq404 sS402.1 t388 rfl (by decide) s396
                  have s417 := gSg.at xq404 sS402.1 t388 rfl (by decide) s397
                  have s418 := gSg.at xq404 sS402.1 t388 rfl (by decide) s398
                  have pr419 := gLc.gr xq404 sS402.1 (by decide) (by decide) pr400
                  have uq420 := gSg.uq xq404 uq401 (by decide)
                  have sS421 : gSs rT 1027 tyq404 [56000, 56001, 56002, 56003, 71013, 71014, 80999, 114999] hq404 hq404 := gSs.rf xq404.1
                  refine gy_s 2 (pc' := 62) (L' := [some (.ref x), some (.int (zi p)), some (.int (zi zq1)), some (.int ((zi rn2) + zi (-16))), some (.int (zi k)), some (.int (zi z97)), some (.int (zi (zq98 / 2 ^ (lw).toNat)))]) (S' := []) (L2 := [some (.ref x), some (.int (zi p)), some (.int (zi zq1)), some (.int (zi (rn2 + (-16)))), some (.int (zi k)), some (.int (zi z97)), some (.int (zi (zq98 / 2 ^ (lw).toNat)))]) (S2 := []) rfl (by simp only [zi_add, zi_sub, zi_mul, zi_neg, zi_and1, zi_and7, zi_and15, zi_and31, zi_and255]) (by simp only [zi_add, zi_sub, zi_mul, zi_neg, zi_and1, zi_and7, zi_and15, zi_and31, zi_and255]) ?_
                  have G422 : gSg [114] [] [56000, 56001, 56002, 56003, 71013, 71014, 80999, 114999] ty h tyq404 hq404 := gSg.ss G405 sS421 (by decide)
                  exact gz_wk (ihlp112 tyq404 hq404 cq404_0 (rn2 + (-16)) fq404_0 fq404_1 fq404_2 (by omega) G422 uq420 t406 t407 t408 ecq404_0 tcq404_0 (by omega) (by omega) (by omega) (by omega) (by omega) (by omega) (by omega) (by omega) (by omega) (by omega) (by omega) (by omega) (by omega) s413 s414 s415 s416 s417 s418 efq404_0 efq404_1 efq404_2 pr419) (gLw.s (gLw.s (gLw.s (gLw.s (gLw.s (gLw.s (gLw.s gLw.z)))))))
          have k423 := sq98.2.1
          have k423b := sq98.2.2.1
          have hl424 : hq98.2.2.2.1 bv = h21.2.2.2.1 bv := congrFun sq98.2.2.2.2.1 bv
          have G425 : gSg [114] [] [56000, 56001, 56002, 56003, 71013, 71014, 80999, 114999] ty h ty22 hq98 := gSg.ss lp20G sq98 (by decide)
          exact gz_wk (lp112 _ ty22 hq98 bv rn cv hv wv (Nat.lt_succ_self _) G425 lp20u lp20c0 lp20c1 tc95 s107 lp20r1 (by omega) (by omega) (by omega) (by omega) (by omega) (by omega) (by omega) (by omega) (by omega) (by omega) (by omega) (by omega) (by omega) s99 s100 s101 s102 s103 s108 s104 s105 s106 pr109) (gLw.s (gLw.s (gLw.s (gLw.s (gLw.s (gLw.s (gLw.s gLw.z)))))))
        · refine gy_ifF rfl (by decide) (by decide) (by omega) hc111 ?_
          refine gy_s 4 (pc' := 19) (L' := [some (.ref x), some (.int (zi p)), some (.int (zi zq1)), some (.int ((zi rn) + zi 1)), some (.int ((zi k) + zi 1)), some (.int (zi z97)), some (.int (zi (zq98 / 2 ^ (lw).toNat)))]) (S' := []) (L2 := [some (.ref x), some (.int (zi p)), some (.int (zi zq1)), some (.int (zi (rn + 1))), some (.int (zi (k + 1))), some (.int (zi z97)), some (.int (zi (zq98 / 2 ^ (lw).toNat)))]) (S2 := []) rfl (by simp only [zi_add, zi_sub, zi_mul, zi_neg, zi_and1, zi_and7, zi_and15, zi_and31, zi_and255]) (by simp only [zi_add, zi_sub, zi_mul, zi_neg, zi_and1, zi_and7, zi_and15, zi_and31, zi_and255]) ?_
          have k426 := sq98.2.1
          have k426b := sq98.2.2.1
          have hl427 : hq98.2.2.2.1 bv = h21.2.2.2.1 bv := congrFun sq98.2.2.2.2.1 bv
          have G428 : gSg [114] [] [56000, 56001, 56002, 56003, 71013, 71014, 80999, 114999] ty h ty22 hq98 := gSg.ss lp20G sq98 (by decide)
          exact gz_wk (ihlp20 ty22 hq98 bv (rn + 1) (k + 1) cv hv wv (by omega) G428 lp20u lp20c0 lp20c1 s107 lp20r1 (by omega) (by omega) (by omega) (by omega) (by omega) (by omega) (by omega) (by omega) (by omega) (by omega) (by omega) (by omega) (by omega) (by omega) (by omega) s99 s100 s101 s102 s103 s104 s105 s106 pr109) (gLw.s (gLw.s (gLw.s (gLw.s (gLw.s (gLw.n (gLw.n gLw.z)))))))
  have k429 := sh10.2.1
  have k429b := sh10.2.2.1
  have hl430 : h10.2.2.2.1 bt = h.2.2.2.1 bt := congrFun sh10.2.2.2.2.1 bt
  have G431 : gSg [114] [] [56000, 56001, 56002, 56003, 71013, 71014, 80999, 114999] ty h ty h10 := gSg.ss G0 sh10 (by decide)
  exact gz_wk (lp20 _ ty h10 bt 0 fr c0 h0 0 (Nat.lt_succ_self _) G431 uq tx tsk s13 tbt (by omega) (by omega) (by omega) (by omega) (by omega) (by omega) (by omega) (by omega) (by omega) (by omega) (by omega) (by omega) (by omega) (by omega) (by omega) s12 s16 s17 s18 s19 s14 s15 eh10 pr11) (gLw.s (gLw.s (gLw.s (gLw.s (gLw.s (gLw.n (gLw.n gLw.z)))))))
