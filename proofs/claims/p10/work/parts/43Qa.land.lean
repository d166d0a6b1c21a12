/-! ===== methods of the landed text (by program) ===== -/
theorem gms {a b : Int} {fu : Nat} (h : a.toNat < fu + 1) (h1 : b < a) (h2 : 0 < a) : b.toNat < fu := by omega
def gIf (A B : Prop) : Prop := A → B
theorem gz01 {x : Int} (h0 : ¬ x = 0) (h1 : 0 ≤ x) (h2 : x ≤ 1) : x = 1 := by omega
set_option maxRecDepth 20000 in
set_option maxHeartbeats 4000000 in
theorem cl_Writer_refineOthers (d : Nat) {ty : Nat → Nat} {h : gH} (hJ : gJ rT 1027 ty h) (x : Nat) (tx : ty x = 71) (p : Int) (rp : 0 ≤ p ∧ p ≤ 960) (sk : Nat) (esk : h.2.2.2.2 x 0 = .ref sk) (tsk : ty sk = 56) (bt : Nat) (ebt : h.2.2.2.2 sk 0 = .ref bt) (tbt : ty bt = 114) (c0 : Int) (ec0 : h.2.2.2.2 sk 1 = .int (zi c0)) (rc0 : 0 ≤ c0 ∧ c0 ≤ 499999) (h0 : Int) (eh0 : h.2.2.2.2 sk 3 = .int (zi h0)) (rh0 : 0 ≤ h0 ∧ h0 ≤ 7) (cg : Int) (ecg : h.2.2.2.2 x 11 = .int (zi cg)) (rcg : 0 ≤ cg ∧ cg ≤ 1) (fr : Int) (efr : h.2.2.2.2 x 7 = .int (zi fr)) (rfr : 0 ≤ fr ∧ fr ≤ 63) (tt : Int) (ett : h.2.2.2.2 x 8 = .int (zi tt)) (rtt : 0 ≤ tt ∧ tt ≤ 63) (lw : Int) (elw : h.2.2.2.2 x 10 = .int (zi lw)) (rlw : 0 ≤ lw ∧ lw ≤ 3) (pp0 : 4 * c0 + h0 + 320 * (tt - fr + 3) ≤ 1999990) (pp1 : fr ≤ tt) (pp2 : c0 ≤ (h.2.2.2.1 bt : Int)) (uq : gUq ty) : gz gPP gGG gcn (d + 5) gt117 0 (gent [.ref x, .int (zi p)] 7) [] h (fun q _ => ∃ ty9 : Nat → Nat, gSg [114] [] [56000, 56001, 56002, 56003, 71013, 71014, 80999, 114999] ty h ty9 q.2.2 ∧ ∃ bt2 : Nat, True ∧ ∃ c1 h1 : Int, q.2.2.2.2.2.2 sk 0 = .ref bt2 ∧ ty9 bt2 = 114 ∧ gfin gt117 q.1 q.2.1 = some none ∧ q.2.2.2.2.2.2 sk 1 = .int (zi c1) ∧ 0 ≤ c1 ∧ c1 ≤ 500000 ∧ q.2.2.2.2.2.2 sk 3 = .int (zi h1) ∧ 0 ≤ h1 ∧ h1 ≤ 7 ∧ (4 * c1 + h1 ≤ 4 * c0 + h0 + 320 * (tt - fr + 1)) ∧ (c0 ≤ c1) ∧ (cg = 1 → (c1 = c0 ∧ h1 = h0)) ∧ (1024 * ((q.2.2.1 : Int) - h.1) ≤ (q.2.2.2.2.2.1 bt2 : Int) - h.2.2.2.1 bt) ∧ (((q.2.2.2.1 : Int) - h.2.1) ≤ 2 * ((q.2.2.2.2.2.1 bt2 : Int) - h.2.2.2.1 bt)) ∧ ((h.2.2.2.1 bt : Int) ≤ (q.2.2.2.2.2.1 bt2 : Int)) ∧ (c1 ≤ (q.2.2.2.2.2.1 bt2 : Int))) := by
  have hS : gSs rT 1027 ty [56000, 56001, 56002, 56003, 71013, 71014, 80999, 114999] h h := gSs.rf hJ
  have G0 : gSg [114] [] [56000, 56001, 56002, 56003, 71013, 71014, 80999, 114999] ty h ty h := gSg.rf hJ (fun x hx => by cases hx)
  refine gz_s 2 (pc' := 2) (L' := [some (.ref x), some (.int (zi p)), none, none, none, none, none]) (S' := [.int (zi p), .ref x]) rfl ?_
  refine gz_call rfl (by decide) rfl (by decide) (by decide) (gcal_of rfl rfl rfl (Nat.le_of_ble_eq_true rfl) (gJ.recv (G := gGG) hS.1 tx rfl rfl)) (cl_Writer_lastNew _ hS.1 x tx p ⟨by omega, by omega⟩ fr efr ⟨by omega, by omega⟩ tt ett ⟨by omega, by omega⟩ lw elw ⟨by omega, by omega⟩ (by omega) uq) (fun q1 _ wq1 => ?_)
  obtain ⟨pq1, oq1, hq1⟩ := q1
  obtain ⟨xq1, zq1, gq1, aq1, bq1, yq1_0⟩ := wq1
  refine ⟨_, gq1, ?_⟩
  show gz gPP gGG gcn _ _ 5 [some (.ref x), some (.int (zi p)), none, none, none, none, none] [.int (zi zq1)] hq1 _
  have sq1 : gSs rT 1027 ty [56000, 56001, 56002, 56003, 71013, 71014, 80999, 114999] h hq1 := gSs.tr hS xq1 (by decide)
  have s2 := (xq1.2.2.2.2.2 x 0 (by rw [tx]; decide)).trans esk
  have s3 := (xq1.2.2.2.2.2 sk 0 (by rw [tsk]; decide)).trans ebt
  have s4 := (xq1.2.2.2.2.2 sk 1 (by rw [tsk]; decide)).trans ec0
  have s5 := (xq1.2.2.2.2.2 sk 3 (by rw [tsk]; decide)).trans eh0
  have s6 := (xq1.2.2.2.2.2 x 11 (by rw [tx]; decide)).trans ecg
  have s7 := (xq1.2.2.2.2.2 x 7 (by rw [tx]; decide)).trans efr
  have s8 := (xq1.2.2.2.2.2 x 8 (by rw [tx]; decide)).trans ett
  have s9 := (xq1.2.2.2.2.2 x 10 (by rw [tx]; decide)).trans elw
  refine gz_s 5 (pc' := 10) (L' := [some (.ref x), some (.int (zi p)), some (.int (zi zq1)), some (.int (zi 0)), none, none, none]) (S' := [.int (zi 0), .ref x]) rfl ?_
  refine gs_put rfl (by decide) rfl sq1 tx rfl rfl rfl rfl (Or.inl rfl) (by decide) (by omega) (by omega) (fun h10 sh10 eh10 fh10 => ?_)
  have pr11 := gLc.pt fh10 tx (by decide) yq1_0
  have s12 := (fh10 x 0 (fun q => absurd q.2 (by decide))).trans s2
  have s13 := (fh10 sk 0 (fun q => absurd q.2 (by decide))).trans s3
  have s14 := (fh10 sk 1 (fun q => absurd q.2 (by decide))).trans s4
  have s15 := (fh10 sk 3 (fun q => absurd q.2 (by decide))).trans s5
  have s16 := (fh10 x 11 (fun q => absurd q.2 (by decide))).trans s6
  have s17 := (fh10 x 7 (fun q => absurd q.2 (by decide))).trans s7
  have s18 := (fh10 x 8 (fun q => absurd q.2 (by decide))).trans s8
  have s19 := (fh10 x 10 (fun q => absurd q.2 (by decide))).trans s9
  refine gz_s 1 (pc' := 14) (L' := [some (.ref x), some (.int (zi p)), some (.int (zi zq1)), some (.int (zi 0)), none, none, none]) (S' := [.ref x]) rfl ?_
  refine gs_gtk rfl (by decide) rfl sh10.1 tx rfl rfl s17 ?_
  refine gz_s 1 (pc' := 19) (L' := [some (.ref x), some (.int (zi p)), some (.int (zi zq1)), some (.int (zi 0)), some (.int (zi fr)), none, none]) (S' := []) rfl ?_
  have lp20 : ∀ (fu : Nat) (ty22 : Nat → Nat) (h21 : gH) (bv : Nat) (rn : Int) (k : Int) (cv : Int) (hv : Int) (wv : Int), (65 - k).toNat < fu → gSg [114] [] [56000, 56001, 56002, 56003, 71013, 71014, 80999, 114999] ty h ty22 h21 → gUq ty22 → ty22 x = 71 → ty22 sk = 56 → h21.2.2.2.2 sk 0 = .ref bv → ty22 bv = 114 → (0 ≤ rn ∧ rn ≤ 64) → (0 ≤ k ∧ k ≤ 64) → (0 ≤ cv ∧ cv ≤ 499999) → (0 ≤ hv ∧ hv ≤ 7) → (0 ≤ wv ∧ wv ≤ 64) → (4 * cv + hv + 320 * rn + 310 * wv ≤ 4 * c0 + h0 + 320 * (k - fr)) → (c0 ≤ cv) → (cg = 1 → (cv = c0 ∧ hv = h0)) → (rn + wv ≤ k - fr) → (fr ≤ k) → (k ≤ tt + 1) → (1024 * ((h21.1 : Int) - h.1) ≤ (h21.2.2.2.1 bv : Int) - h.2.2.2.1 bt) → (((h21.2.1 : Int) - h.2.1) ≤ 2 * ((h21.2.2.2.1 bv : Int) - h.2.2.2.1 bt)) → ((h.2.2.2.1 bt : Int) ≤ (h21.2.2.2.1 bv : Int)) → (cv ≤ (h21.2.2.2.1 bv : Int)) → h21.2.2.2.2 x 0 = .ref sk → h21.2.2.2.2 x 11 = .int (zi cg) → h21.2.2.2.2 x 7 = .int (zi fr) → h21.2.2.2.2 x 8 = .int (zi tt) → h21.2.2.2.2 x 10 = .int (zi lw) → h21.2.2.2.2 sk 1 = .int (zi cv) → h21.2.2.2.2 sk 3 = .int (zi hv) → h21.2.2.2.2 x 14 = .int (zi wv) → gLc ty22 p fr (tt + 1) zq1 lw h21 → gz gPP gGG gcn (d + 5) gt117 19 [some (.ref x), some (.int (zi p)), some (.int (zi zq1)), some (.int (zi rn)), some (.int (zi k)), none, none] [] h21 (fun q _ => ∃ ty9 : Nat → Nat, gSg [114] [] [56000, 56001, 56002, 56003, 71013, 71014, 80999, 114999] ty h ty9 q.2.2 ∧ ∃ bt2 : Nat, True ∧ ∃ c1 h1 : Int, q.2.2.2.2.2.2 sk 0 = .ref bt2 ∧ ty9 bt2 = 114 ∧ gfin gt117 q.1 q.2.1 = some none ∧ q.2.2.2.2.2.2 sk 1 = .int (zi c1) ∧ 0 ≤ c1 ∧ c1 ≤ 500000 ∧ q.2.2.2.2.2.2 sk 3 = .int (zi h1) ∧ 0 ≤ h1 ∧ h1 ≤ 7 ∧ (4 * c1 + h1 ≤ 4 * c0 + h0 + 320 * (tt - fr + 1)) ∧ (c0 ≤ c1) ∧ (cg = 1 → (c1 = c0 ∧ h1 = h0)) ∧ (1024 * ((q.2.2.1 : Int) - h.1) ≤ (q.2.2.2.2.2.1 bt2 : Int) - h.2.2.2.1 bt) ∧ (((q.2.2.2.1 : Int) - h.2.1) ≤ 2 * ((q.2.2.2.2.2.1 bt2 : Int) - h.2.2.2.1 bt)) ∧ ((h.2.2.2.1 bt : Int) ≤ (q.2.2.2.2.2.1 bt2 : Int)) ∧ (c1 ≤ (q.2.2.2.2.2.1 bt2 : Int))) := by
    intro fu
    induction fu with
    | zero => intro ty22 h21 bv rn k cv hv wv hm; exact absurd hm (Nat.not_lt_zero _)
    | succ fu ihlp20 =>
      intro ty22 h21 bv rn k cv hv wv lp20m lp20G lp20u lp20c0 lp20c1 lp20r0 lp20r1 lp20f0 lp20f1 lp20f2 lp20f3 lp20f4 lp20f5 lp20f6 lp20f7 lp20f8 lp20f9 lp20f10 lp20f11 lp20f12 lp20f13 lp20f14 lp20k0 lp20k1 lp20k2 lp20k3 lp20k4 lp20k5 lp20k6 lp20k7 lp20k8
      have sh21 : gSs rT 1027 ty22 [56000, 56001, 56002, 56003, 71013, 71014, 80999, 114999] h21 h21 := gSs.rf lp20G.1
      refine gz_s 2 (pc' := 22) (L' := [some (.ref x), some (.int (zi p)), some (.int (zi zq1)), some (.int (zi rn)), some (.int (zi k)), none, none]) (S' := [.ref x, .int (zi k)]) rfl ?_
      refine gs_gtk rfl (by decide) rfl sh21.1 lp20c0 rfl rfl lp20k3 ?_
      by_cases hc23 : (tt : Int) < k
      · refine gy_icT (pc' := 167) rfl (by decide) (by decide) (by omega) (by omega) hc23 ?_
        refine gz_s 1 (pc' := 168) (L' := [some (.ref x), some (.int (zi p)), some (.int (zi zq1)), some (.int (zi rn)), some (.int (zi k)), none, none]) (S' := [.int (zi rn)]) rfl ?_
        by_cases hc24 : (0 : Int) < rn
        · refine gy_ifT (pc' := 178) rfl (by decide) (by decide) (by omega) hc24 ?_
          refine gz_s 3 (pc' := 181) (L' := [some (.ref x), some (.int (zi p)), some (.int (zi zq1)), some (.int (zi rn)), some (.int (zi k)), none, none]) (S' := [.int (zi 0), .int (zi 1), .ref x]) rfl ?_
          have hl25 : h21.2.2.2.1 bv = h21.2.2.2.1 bv := congrFun sh21.2.2.2.2.1 bv
          refine gz_call rfl (by decide) rfl (by decide) (by decide) (gcal_of rfl rfl rfl (Nat.le_of_ble_eq_true rfl) (gJ.recv (G := gGG) sh21.1 lp20c0 rfl rfl)) (cl_putSymbol1 _ sh21.1 x lp20c0 1 ⟨by omega, by omega⟩ 0 ⟨by omega, by omega⟩ sk lp20k0 lp20c1 bv lp20r0 lp20r1 cv lp20k5 ⟨by omega, by omega⟩ hv lp20k6 ⟨by omega, by omega⟩ cg lp20k1 ⟨by omega, by omega⟩ (by omega) (by omega) lp20u) (fun q26 _ wq26 => ?_)
          obtain ⟨pq26, oq26, hq26⟩ := q26
          obtain ⟨tyq26, xq26, cq26_0, ttq26, fq26_0, fq26_1, ecq26_0, tcq26_0, gq26, efq26_0, afq26_0, bfq26_0, efq26_1, afq26_1, bfq26_1, uq26_0, uq26_1, uq26_2, uq26_3, uq26_4, uq26_5, uq26_6⟩ := wq26
          dsimp only at uq26_3 uq26_4 uq26_5 uq26_6
          refine ⟨_, gq26, ?_⟩
          show gz gPP gGG gcn _ _ 184 [some (.ref x), some (.int (zi p)), some (.int (zi zq1)), some (.int (zi rn)), some (.int (zi k)), none, none] [] hq26 _
          have G27 : gSg [114] [] [56000, 56001, 56002, 56003, 71013, 71014, 80999, 114999] ty h tyq26 hq26 := gSg.tr (gSg.ss lp20G sh21 (by decide)) xq26 (by decide) (by decide) (fun x hx => by cases hx)
          have t28 : tyq26 x = 71 := gSg.typ xq26 sh21.1 lp20c0 rfl
          have t29 : tyq26 sk = 56 := gSg.typ xq26 sh21.1 lp20c1 rfl
          have t30 : tyq26 bv = 114 := gSg.typ xq26 sh21.1 lp20r1 rfl
          have hl31 : hq26.2.2.2.1 bv = h21.2.2.2.1 bv := gSg.len xq26 sh21.1 lp20r1 rfl
          have s32 := gSg.at xq26 sh21.1 lp20c0 rfl (by decide) lp20k0
          have s33 := gSg.at xq26 sh21.1 lp20c0 rfl (by decide) lp20k1
          have s34 := gSg.at xq26 sh21.1 lp20c0 rfl (by decide) lp20k2
          have s35 := gSg.at xq26 sh21.1 lp20c0 rfl (by decide) lp20k3
          have s36 := gSg.at xq26 sh21.1 lp20c0 rfl (by decide) lp20k4
          have s37 := gSg.at xq26 sh21.1 lp20c0 rfl (by decide) lp20k7
          have pr38 := gLc.gr xq26 sh21.1 (by decide) (by decide) lp20k8
          have uq39 := gSg.uq xq26 lp20u (by decide)
          have sS40 : gSs rT 1027 tyq26 [56000, 56001, 56002, 56003, 71013, 71014, 80999, 114999] hq26 hq26 := gSs.rf xq26.1
          refine gz_s 1 (pc' := 185) (L' := [some (.ref x), some (.int (zi p)), some (.int (zi zq1)), some (.int (zi rn)), some (.int (zi k)), none, none]) (S' := [.ref x]) rfl ?_
          have hl41 : hq26.2.2.2.1 cq26_0 = hq26.2.2.2.1 cq26_0 := congrFun sS40.2.2.2.2.1 cq26_0
          refine gz_call rfl (by decide) rfl (by decide) (by decide) (gcal_of rfl rfl rfl (Nat.le_of_ble_eq_true rfl) (gJ.recv (G := gGG) sS40.1 t28 rfl rfl)) (cl_Writer_putWaiting _ sS40.1 x t28 sk s32 t29 cq26_0 ecq26_0 tcq26_0 fq26_0 efq26_0 ⟨by omega, by omega⟩ fq26_1 efq26_1 ⟨by omega, by omega⟩ cg s33 ⟨by omega, by omega⟩ wv s37 ⟨by omega, by omega⟩ (by omega) (by omega) uq39) (fun q42 _ wq42 => ?_)
          obtain ⟨pq42, oq42, hq42⟩ := q42
          obtain ⟨tyq42, xq42, cq42_0, ttq42, fq42_0, fq42_1, fq42_2, ecq42_0, tcq42_0, gq42, efq42_0, afq42_0, bfq42_0, efq42_1, afq42_1, bfq42_1, efq42_2, afq42_2, bfq42_2, uq42_0, uq42_1, uq42_2, uq42_3, uq42_4, uq42_5, uq42_6, uq42_7⟩ := wq42
          dsimp only at uq42_3 uq42_4 uq42_5 uq42_7
          refine ⟨_, gq42, ?_⟩
          show gz gPP gGG gcn _ _ 188 [some (.ref x), some (.int (zi p)), some (.int (zi zq1)), some (.int (zi rn)), some (.int (zi k)), none, none] [] hq42 _
          have G43 : gSg [114] [] [56000, 56001, 56002, 56003, 71013, 71014, 80999, 114999] ty h tyq42 hq42 := gSg.tr (gSg.ss G27 sS40 (by decide)) xq42 (by decide) (by decide) (fun x hx => by cases hx)
          have t44 : tyq42 x = 71 := gSg.typ xq42 sS40.1 t28 rfl
          have t45 : tyq42 sk = 56 := gSg.typ xq42 sS40.1 t29 rfl
          have t46 : tyq42 bv = 114 := gSg.typ xq42 sS40.1 t30 rfl
          have hl47 : hq42.2.2.2.1 bv = hq26.2.2.2.1 bv := gSg.len xq42 sS40.1 t30 rfl
          have t48 : tyq42 cq26_0 = 114 := gSg.typ xq42 sS40.1 tcq26_0 rfl
          have hl49 : hq42.2.2.2.1 cq26_0 = hq26.2.2.2.1 cq26_0 := gSg.len xq42 sS40.1 tcq26_0 rfl
          have s50 := gSg.at xq42 sS40.1 t28 rfl (by decide) s32
          have s51 := gSg.at xq42 sS40.1 t28 rfl (by decide) s33
          have s52 := gSg.at xq42 sS40.1 t28 rfl (by decide) s34
          have s53 := gSg.at xq42 sS40.1 t28 rfl (by decide) s35
          have s54 := gSg.at xq42 sS40.1 t28 rfl (by decide) s36
          have pr55 := gLc.gr xq42 sS40.1 (by decide) (by decide) pr38
          have uq56 := gSg.uq xq42 uq39 (by decide)
          have sS57 : gSs rT 1027 tyq42 [56000, 56001, 56002, 56003, 71013, 71014, 80999, 114999] hq42 hq42 := gSs.rf xq42.1
          have hl58 : 1024 ≤ hq42.2.2.2.1 bv ∧ hq42.2.2.2.1 bv ≤ 1000000 := gJ.rowl (G := gGG) sS57.1 t46 rfl
          have hl59 : 1024 ≤ hq42.2.2.2.1 cq26_0 ∧ hq42.2.2.2.1 cq26_0 ≤ 1000000 := gJ.rowl (G := gGG) sS57.1 t48 rfl
          have hl60 : 1024 ≤ hq42.2.2.2.1 cq42_0 ∧ hq42.2.2.2.1 cq42_0 ≤ 1000000 := gJ.rowl (G := gGG) sS57.1 tcq42_0 rfl
          have G61 : gSg [114] [] [56000, 56001, 56002, 56003, 71013, 71014, 80999, 114999] ty h tyq42 hq42 := gSg.ss G43 sS57 (by decide)
          exact gz_end (I := .return_) (len := 1) rfl (Or.inl rfl) ⟨tyq42, G61, cq42_0, trivial, fq42_0, fq42_1, ecq42_0, tcq42_0, rfl, efq42_0, (by omega), (by omega), efq42_1, (by omega), (by omega), (by omega), (by omega), (fun hcg9 => by (try have i0 := lp20f7 hcg9); (try have i1 := uq26_2 hcg9); (try have i2 := uq42_2 hcg9); exact ⟨Int.le_antisymm (by omega) (by omega), Int.le_antisymm (by omega) (by omega)⟩), (by dsimp only; omega), (by dsimp only; omega), (by dsimp only; omega), (by dsimp only; omega)⟩
        · refine gy_ifF rfl (by decide) (by decide) (by omega) hc24 ?_
          refine gz_s 1 (pc' := 172) (L' := [some (.ref x), some (.int (zi p)), some (.int (zi zq1)), some (.int (zi rn)), some (.int (zi k)), none, none]) (S' := [.ref x]) rfl ?_
          refine gs_gtk rfl (by decide) rfl sh21.1 lp20c0 rfl rfl lp20k7 ?_
          by_cases hc62 : (wv : Int) ≤ 0
          · refine gy_ifT (pc' := 188) rfl (by decide) (by decide) (by omega) hc62 ?_
            have hl63 : 1024 ≤ h21.2.2.2.1 bv ∧ h21.2.2.2.1 bv ≤ 1000000 := gJ.rowl (G := gGG) sh21.1 lp20r1 rfl
            have G64 : gSg [114] [] [56000, 56001, 56002, 56003, 71013, 71014, 80999, 114999] ty h ty22 h21 := gSg.ss lp20G sh21 (by decide)
            exact gz_end (I := .return_) (len := 1) rfl (Or.inl rfl) ⟨ty22, G64, bv, trivial, cv, hv, lp20r0, lp20r1, rfl, lp20k5, (by omega), (by omega), lp20k6, (by omega), (by omega), (by omega), (by omega), (fun hcg9 => by (try have i0 := lp20f7 hcg9); exact ⟨Int.le_antisymm (by omega) (by omega), Int.le_antisymm (by omega) (by omega)⟩), (by dsimp only; omega), (by dsimp only; omega), (by dsimp only; omega), (by dsimp only; omega)⟩
          · refine gy_ifF rfl (by decide) (by decide) (by omega) hc62 ?_
            refine gz_s 3 (pc' := 181) (L' := [some (.ref x), some (.int (zi p)), some (.int (zi zq1)), some (.int (zi rn)), some (.int (zi k)), none, none]) (S' := [.int (zi 0), .int (zi 1), .ref x]) rfl ?_
            have hl65 : h21.2.2.2.1 bv = h21.2.2.2.1 bv := congrFun sh21.2.2.2.2.1 bv
            refine gz_call rfl (by decide) rfl (by decide) (by decide) (gcal_of rfl rfl rfl (Nat.le_of_ble_eq_true rfl) (gJ.recv (G := gGG) sh21.1 lp20c0 rfl rfl)) (cl_putSymbol1 _ sh21.1 x lp20c0 1 ⟨by omega, by omega⟩ 0 ⟨by omega, by omega⟩ sk lp20k0 lp20c1 bv lp20r0 lp20r1 cv lp20k5 ⟨by omega, by omega⟩ hv lp20k6 ⟨by omega, by omega⟩ cg lp20k1 ⟨by omega, by omega⟩ (by omega) (by omega) lp20u) (fun q66 _ wq66 => ?_)
            obtain ⟨pq66, oq66, hq66⟩ := q66
            obtain ⟨tyq66, xq66, cq66_0, ttq66, fq66_0, fq66_1, ecq66_0, tcq66_0, gq66, efq66_0, afq66_0, bfq66_0, efq66_1, afq66_1, bfq66_1, uq66_0, uq66_1, uq66_2, uq66_3, uq66_4, uq66_5, uq66_6⟩ := wq66
            dsimp only at uq66_3 uq66_4 uq66_5 uq66_6
            refine ⟨_, gq66, ?_⟩
            show gz gPP gGG gcn _ _ 184 [some (.ref x), some (.int (zi p)), some (.int (zi zq1)), some (.int (zi rn)), some (.int (zi k)), none, none] [] hq66 _
            have G67 : gSg [114] [] [56000, 56001, 56002, 56003, 71013, 71014, 80999, 114999] ty h tyq66 hq66 := gSg.tr (gSg.ss lp20G sh21 (by decide)) xq66 (by decide) (by decide) (fun x hx => by cases hx)
            have t68 : tyq66 x = 71 := gSg.typ xq66 sh21.1 lp20c0 rfl
            have t69 : tyq66 sk = 56 := gSg.typ xq66 sh21.1 lp20c1 rfl
            have t70 : tyq66 bv = 114 := gSg.typ xq66 sh21.1 lp20r1 rfl
            have hl71 : hq66.2.2.2.1 bv = h21.2.2.2.1 bv := gSg.len xq66 sh21.1 lp20r1 rfl
            have s72 := gSg.at xq66 sh21.1 lp20c0 rfl (by decide) lp20k0
            have s73 := gSg.at xq66 sh21.1 lp20c0 rfl (by decide) lp20k1
            have s74 := gSg.at xq66 sh21.1 lp20c0 rfl (by decide) lp20k2
            have s75 := gSg.at xq66 sh21.1 lp20c0 rfl (by decide) lp20k3
            have s76 := gSg.at xq66 sh21.1 lp20c0 rfl (by decide) lp20k4
            have s77 := gSg.at xq66 sh21.1 lp20c0 rfl (by decide) lp20k7
            have pr78 := gLc.gr xq66 sh21.1 (by decide) (by decide) lp20k8
            have uq79 := gSg.uq xq66 lp20u (by decide)
            have sS80 : gSs rT 1027 tyq66 [56000, 56001, 56002, 56003, 71013, 71014, 80999, 114999] hq66 hq66 := gSs.rf xq66.1
            refine gz_s 1 (pc' := 185) (L' := [some (.ref x), some (.int (zi p)), some (.int (zi zq1)), some (.int (zi rn)), some (.int (zi k)), none, none]) (S' := [.ref x]) rfl ?_
            have hl81 : hq66.2.2.2.1 cq66_0 = hq66.2.2.2.1 cq66_0 := congrFun sS80.2.2.2.2.1 cq66_0
            refine gz_call rfl (by decide) rfl (by decide) (by decide) (gcal_of rfl rfl rfl (Nat.le_of_ble_eq_true rfl) (gJ.recv (G := gGG) sS80.1 t68 rfl rfl)) (cl_Writer_putWaiting _ sS80.1 x t68 sk s72 t69 cq66_0 ecq66_0 tcq66_0 fq66_0 efq66_0 ⟨by omega, by omega⟩ fq66_1 efq66_1 ⟨by omega, by omega⟩ cg s73 ⟨by omega, by omega⟩ wv s77 ⟨by omega, by omega⟩ (by omega) (by omega) uq79) (fun q82 _ wq82 => ?_)
            obtain ⟨pq82, oq82, hq82⟩ := q82
            obtain ⟨tyq82, xq82, cq82_0, ttq82, fq82_0, fq82_1, fq82_2, ecq82_0, tcq82_0, gq82, efq82_0, afq82_0, bfq82_0, efq82_1, afq82_1, bfq82_1, efq82_2, afq82_2, bfq82_2, uq82_0, uq82_1, uq82_2, uq82_3, uq82_4, uq82_5, uq82_6, uq82_7⟩ := wq82
            dsimp only at uq82_3 uq82_4 uq82_5 uq82_7
            refine ⟨_, gq82, ?_⟩
            show gz gPP gGG gcn _ _ 188 [some (.ref x), some (.int (zi p)), some (.int (zi zq1)), some (.int (zi rn)), some (.int (zi k)), none, none] [] hq82 _
            have G83 : gSg [114] [] [56000, 56001, 56002, 56003, 71013, 71014, 80999, 114999] ty h tyq82 hq82 := gSg.tr (gSg.ss G67 sS80 (by decide)) xq82 (by decide) (by decide) (fun x hx => by cases hx)
            have t84 : tyq82 x = 71 := gSg.typ xq82 sS80.1 t68 rfl
            have t85 : tyq82 sk = 56 := gSg.typ xq82 sS80.1 t69 rfl
            have t86 : tyq82 bv = 114 := gSg.typ xq82 sS80.1 t70 rfl
            have hl87 : hq82.2.2.2.1 bv = hq66.2.2.2.1 bv := gSg.len xq82 sS80.1 t70 rfl
            have t88 : tyq82 cq66_0 = 114 := gSg.typ xq82 sS80.1 tcq66_0 rfl
            have hl89 : hq82.2.2.2.1 cq66_0 = hq66.2.2.2.1 cq66_0 := gSg.len xq82 sS80.1 tcq66_0 rfl
            have s90 := gSg.at xq82 sS80.1 t68 rfl (by decide) s72
            have s91 := gSg.at xq82 sS80.1 t68 rfl (by decide) s73
            have s92 := gSg.at xq82 sS80.1 t68 rfl (by decide) s74
            have s93 := gSg.at xq82 sS80.1 t68 rfl (by decide) s75
            have s94 := gSg.at xq82 sS80.1 t68 rfl (by decide) s76
            have pr95 := gLc.gr xq82 sS80.1 (by decide) (by decide) pr78
            have uq96 := gSg.uq xq82 uq79 (by decide)
            have sS97 : gSs rT 1027 tyq82 [56000, 56001, 56002, 56003, 71013, 71014, 80999, 114999] hq82 hq82 := gSs.rf xq82.1
            have hl98 : 1024 ≤ hq82.2.2.2.1 bv ∧ hq82.2.2.2.1 bv ≤ 1000000 := gJ.rowl (G := gGG) sS97.1 t86 rfl
            have hl99 : 1024 ≤ hq82.2.2.2.1 cq66_0 ∧ hq82.2.2.2.1 cq66_0 ≤ 1000000 := gJ.rowl (G := gGG) sS97.1 t88 rfl
            have hl100 : 1024 ≤ hq82.2.2.2.1 cq82_0 ∧ hq82.2.2.2.1 cq82_0 ≤ 1000000 := gJ.rowl (G := gGG) sS97.1 tcq82_0 rfl
            have G101 : gSg [114] [] [56000, 56001, 56002, 56003, 71013, 71014, 80999, 114999] ty h tyq82 hq82 := gSg.ss G83 sS97 (by decide)
            exact gz_end (I := .return_) (len := 1) rfl (Or.inl rfl) ⟨tyq82, G101, cq82_0, trivial, fq82_0, fq82_1, ecq82_0, tcq82_0, rfl, efq82_0, (by omega), (by omega), efq82_1, (by omega), (by omega), (by omega), (by omega), (fun hcg9 => by (try have i0 := lp20f7 hcg9); (try have i1 := uq66_2 hcg9); (try have i2 := uq82_2 hcg9); exact ⟨Int.le_antisymm (by omega) (by omega), Int.le_antisymm (by omega) (by omega)⟩), (by dsimp only; omega), (by dsimp only; omega), (by dsimp only; omega), (by dsimp only; omega)⟩
      · refine gy_icF rfl (by decide) (by decide) (by omega) (by omega) hc23 ?_
        refine gz_s 1 (pc' := 29) (L' := [some (.ref x), some (.int (zi p)), some (.int (zi zq1)), some (.int (zi rn)), some (.int (zi k)), none, none]) (S' := [.ref x]) rfl ?_
        refine gs_gtr rfl (by decide) rfl sh21.1 lp20c0 rfl rfl rfl (fun c102 ec102 tc102 => ?_)
        refine gy_s 3 (pc' := 36) (L' := [some (.ref x), some (.int (zi p)), some (.int (zi zq1)), some (.int (zi rn)), some (.int (zi k)), none, none]) (S' := [.int ((zi p) + (zi k)), .ref c102]) (L2 := [some (.ref x), some (.int (zi p)), some (.int (zi zq1)), some (.int (zi rn)), some (.int (zi k)), none, none]) (S2 := [.int (zi (p + k)), .ref c102]) rfl (by simp only [zi_add, zi_sub, zi_mul, zi_neg, zi_and1, zi_and7, zi_and15, zi_and31, zi_and255]) (by simp only [zi_add, zi_sub, zi_mul, zi_neg, zi_and1, zi_and7, zi_and15, zi_and31, zi_and255]) ?_
        have hl103 : 1024 ≤ h21.2.2.2.1 c102 ∧ h21.2.2.2.1 c102 ≤ 1024 := gJ.rowl (G := gGG) sh21.1 tc102 rfl
        refine gs_ald rfl (by decide) sh21.1 tc102 rfl rfl rfl (by decide) (fun _ => rfl) (by omega) (by omega) (fun z104 ez104 az104 bz104 => ?_)
        have hlk : gIf ((if z104 < 0 then -z104 else z104) / 2 ^ (lw).toNat = 1) (k ≤ zq1) := lp20k8 k (by omega) (by omega) c102 z104 tc102 ez104 (by omega) (by omega)
        refine gz_s 2 (pc' := 41) (L' := [some (.ref x), some (.int (zi p)), some (.int (zi zq1)), some (.int (zi rn)), some (.int (zi k)), some (.int (zi z104)), none]) (S' := [.int (zi z104)]) rfl ?_
        refine gz_call rfl (by decide) rfl (by decide) (by decide) (gcal_of rfl rfl rfl (Nat.le_of_ble_eq_true rfl) rfl) (cl_Math_abs _ sh21.1 z104 ⟨by omega, by omega⟩ ) (fun q105 _ wq105 => ?_)
        obtain ⟨pq105, oq105, hq105⟩ := q105
        obtain ⟨xq105, zq105, gq105, aq105, bq105, uq105_0, uq105_1⟩ := wq105
        refine ⟨_, gq105, ?_⟩
        show gz gPP gGG gcn _ _ 44 [some (.ref x), some (.int (zi p)), some (.int (zi zq1)), some (.int (zi rn)), some (.int (zi k)), some (.int (zi z104)), none] [.int (zi zq105)] hq105 _
        have sq105 : gSs rT 1027 ty22 [56000, 56001, 56002, 56003, 71013, 71014, 80999, 114999] h21 hq105 := gSs.tr sh21 xq105 (by decide)
        have s106 := (xq105.2.2.2.2.2 x 0 (by rw [lp20c0]; decide)).trans lp20k0
        have s107 := (xq105.2.2.2.2.2 x 11 (by rw [lp20c0]; decide)).trans lp20k1
        have s108 := (xq105.2.2.2.2.2 x 7 (by rw [lp20c0]; decide)).trans lp20k2
        have s109 := (xq105.2.2.2.2.2 x 8 (by rw [lp20c0]; decide)).trans lp20k3
        have s110 := (xq105.2.2.2.2.2 x 10 (by rw [lp20c0]; decide)).trans lp20k4
        have s111 := (xq105.2.2.2.2.2 sk 1 (by rw [lp20c1]; decide)).trans lp20k5
        have s112 := (xq105.2.2.2.2.2 sk 3 (by rw [lp20c1]; decide)).trans lp20k6
        have s113 := (xq105.2.2.2.2.2 x 14 (by rw [lp20c0]; decide)).trans lp20k7
        have s114 := (xq105.2.2.2.2.2 sk 0 (by rw [lp20c1]; decide)).trans lp20r0
        have s115 := (xq105.2.2.2.2.2 x 2 (by rw [lp20c0]; decide)).trans ec102
        have pr116 := gLc.fr xq105.2 (by decide) lp20k8
        have hA : (if z104 < 0 then -z104 else z104) = zq105 := by split <;> omega
        rw [hA] at hlk
        refine gz_s 1 (pc' := 45) (L' := [some (.ref x), some (.int (zi p)), some (.int (zi zq1)), some (.int (zi rn)), some (.int (zi k)), some (.int (zi z104)), none]) (S' := [.ref x, .int (zi zq105)]) rfl ?_
        refine gs_gtk rfl (by decide) rfl sq105.1 lp20c0 rfl rfl s110 ?_
        refine gy_shr rfl (by decide) (by omega) (by omega) ?_
        have hx117 := zsh_b (a := zq105) (n := lw) (by omega)
        refine gz_s 2 (pc' := 53) (L' := [some (.ref x), some (.int (zi p)), some (.int (zi zq1)), some (.int (zi rn)), some (.int (zi k)), some (.int (zi z104)), some (.int (zi (zq105 / 2 ^ (lw).toNat)))]) (S' := [.int (zi (zq105 / 2 ^ (lw).toNat))]) rfl ?_
        by_cases hc118 : ¬ (zq105 / 2 ^ (lw).toNat : Int) = 0
        · refine gy_ifT (pc' := 62) rfl (by decide) (by decide) (by omega) hc118 ?_
          have lp119 : ∀ (fu : Nat) (ty121 : Nat → Nat) (h120 : gH) (bv2 : Nat) (rn2 : Int) (cv2 : Int) (hv2 : Int) (wv2 : Int), (rn2).toNat < fu → gSg [114] [] [56000, 56001, 56002, 56003, 71013, 71014, 80999, 114999] ty h ty121 h120 → gUq ty121 → ty121 x = 71 → ty121 sk = 56 → ty121 c102 = 73 → h120.2.2.2.2 sk 0 = .ref bv2 → ty121 bv2 = 114 → (0 ≤ rn2 ∧ rn2 ≤ 64) → (0 ≤ cv2 ∧ cv2 ≤ 499999) → (0 ≤ hv2 ∧ hv2 ≤ 7) → (0 ≤ wv2 ∧ wv2 ≤ 64) → (4 * cv2 + hv2 + 320 * rn2 + 310 * wv2 ≤ 4 * c0 + h0 + 320 * (k - fr)) → (c0 ≤ cv2) → (cg = 1 → (cv2 = c0 ∧ hv2 = h0)) → (rn2 ≤ rn) → (wv2 ≤ wv) → (1024 * ((h120.1 : Int) - h.1) ≤ (h120.2.2.2.1 bv2 : Int) - h.2.2.2.1 bt) → (((h120.2.1 : Int) - h.2.1) ≤ 2 * ((h120.2.2.2.1 bv2 : Int) - h.2.2.2.1 bt)) → ((h.2.2.2.1 bt : Int) ≤ (h120.2.2.2.1 bv2 : Int)) → (cv2 ≤ (h120.2.2.2.1 bv2 : Int)) → h120.2.2.2.2 x 0 = .ref sk → h120.2.2.2.2 x 11 = .int (zi cg) → h120.2.2.2.2 x 7 = .int (zi fr) → h120.2.2.2.2 x 8 = .int (zi tt) → h120.2.2.2.2 x 10 = .int (zi lw) → h120.2.2.2.2 x 2 = .ref c102 → h120.2.2.2.2 sk 1 = .int (zi cv2) → h120.2.2.2.2 sk 3 = .int (zi hv2) → h120.2.2.2.2 x 14 = .int (zi wv2) → gLc ty121 p fr (tt + 1) zq1 lw h120 → gz gPP gGG gcn (d + 5) gt117 62 [some (.ref x), some (.int (zi p)), some (.int (zi zq1)), some (.int (zi rn2)), some (.int (zi k)), some (.int (zi z104)), some (.int (zi (zq105 / 2 ^ (lw).toNat)))] [] h120 (fun q _ => ∃ ty9 : Nat → Nat, gSg [114] [] [56000, 56001, 56002, 56003, 71013, 71014, 80999, 114999] ty h ty9 q.2.2 ∧ ∃ bt2 : Nat, True ∧ ∃ c1 h1 : Int, q.2.2.2.2.2.2 sk 0 = .ref bt2 ∧ ty9 bt2 = 114 ∧ gfin gt117 q.1 q.2.1 = some none ∧ q.2.2.2.2.2.2 sk 1 = .int (zi c1) ∧ 0 ≤ c1 ∧ c1 ≤ 500000 ∧ q.2.2.2.2.2.2 sk 3 = .int (zi h1) ∧ 0 ≤ h1 ∧ h1 ≤ 7 ∧ (4 * c1 + h1 ≤ 4 * c0 + h0 + 320 * (tt - fr + 1)) ∧ (c0 ≤ c1) ∧ (cg = 1 → (c1 = c0 ∧ h1 = h0)) ∧ (1024 * ((q.2.2.1 : Int) - h.1) ≤ (q.2.2.2.2.2.1 bt2 : Int) - h.2.2.2.1 bt) ∧ (((q.2.2.2.1 : Int) - h.2.1) ≤ 2 * ((q.2.2.2.2.2.1 bt2 : Int) - h.2.2.2.1 bt)) ∧ ((h.2.2.2.1 bt : Int) ≤ (q.2.2.2.2.2.1 bt2 : Int)) ∧ (c1 ≤ (q.2.2.2.2.2.1 bt2 : Int))) := by
            intro fu
            induction fu with
            | zero => intro ty121 h120 bv2 rn2 cv2 hv2 wv2 hm; exact absurd hm (Nat.not_lt_zero _)
            | succ fu ihlp119 =>
              intro ty121 h120 bv2 rn2 cv2 hv2 wv2 lp119m lp119G lp119u lp119c0 lp119c1 lp119c2 lp119r0 lp119r1 lp119f0 lp119f1 lp119f2 lp119f3 lp119f4 lp119f5 lp119f6 lp119f7 lp119f8 lp119f9 lp119f10 lp119f11 lp119f12 lp119k0 lp119k1 lp119k2 lp119k3 lp119k4 lp119k5 lp119k6 lp119k7 lp119k8 lp119k9
              have sh120 : gSs rT 1027 ty121 [56000, 56001, 56002, 56003, 71013, 71014, 80999, 114999] h120 h120 := gSs.rf lp119G.1
              clear lp20f7
              clear lp20f2 lp20f3 lp20f5 lp20f6 lp20f11 lp20f12 lp20f13 lp20f14
              refine gz_s 2 (pc' := 65) (L' := [some (.ref x), some (.int (zi p)), some (.int (zi zq1)), some (.int (zi rn2)), some (.int (zi k)), some (.int (zi z104)), some (.int (zi (zq105 / 2 ^ (lw).toNat)))]) (S' := [.int (zi 15), .int (zi rn2)]) rfl ?_
              by_cases hc122 : (rn2 : Int) ≤ 15
              · refine gy_icT (pc' := 92) rfl (by decide) (by decide) (by omega) (by omega) hc122 ?_
                refine gz_s 2 (pc' := 95) (L' := [some (.ref x), some (.int (zi p)), some (.int (zi zq1)), some (.int (zi rn2)), some (.int (zi k)), some (.int (zi z104)), some (.int (zi (zq105 / 2 ^ (lw).toNat)))]) (S' := [.int (zi 1), .int (zi (zq105 / 2 ^ (lw).toNat))]) rfl ?_
                by_cases hc123 : (zq105 / 2 ^ (lw).toNat : Int) ≤ 1
                · refine gy_icT (pc' := 129) rfl (by decide) (by decide) (by omega) (by omega) hc123 ?_
                  have hk9 := hlk (gz01 (by assumption) (by omega) (by assumption))
                  refine gy_s 7 (pc' := 137) (L' := [some (.ref x), some (.int (zi p)), some (.int (zi zq1)), some (.int (zi rn2)), some (.int (zi k)), some (.int (zi z104)), some (.int (zi (zq105 / 2 ^ (lw).toNat)))]) (S' := [.int (((zi 16) * (zi rn2)) + (zi 1)), .int (zi 1), .ref x]) (L2 := [some (.ref x), some (.int (zi p)), some (.int (zi zq1)), some (.int (zi rn2)), some (.int (zi k)), some (.int (zi z104)), some (.int (zi (zq105 / 2 ^ (lw).toNat)))]) (S2 := [.int (zi ((16 * rn2) + 1)), .int (zi 1), .ref x]) rfl (by simp only [zi_add, zi_sub, zi_mul, zi_neg, zi_and1, zi_and7, zi_and15, zi_and31, zi_and255]) (by simp only [zi_add, zi_sub, zi_mul, zi_neg, zi_and1, zi_and7, zi_and15, zi_and31, zi_and255]) ?_
                  have hl124 : h120.2.2.2.1 bv2 = h120.2.2.2.1 bv2 := congrFun sh120.2.2.2.2.1 bv2
                  refine gz_call rfl (by decide) rfl (by decide) (by decide) (gcal_of rfl rfl rfl (Nat.le_of_ble_eq_true rfl) (gJ.recv (G := gGG) sh120.1 lp119c0 rfl rfl)) (cl_putSymbol1 _ sh120.1 x lp119c0 1 ⟨by omega, by omega⟩ ((16 * rn2) + 1) ⟨by omega, by omega⟩ sk lp119k0 lp119c1 bv2 lp119r0 lp119r1 cv2 lp119k6 ⟨by omega, by omega⟩ hv2 lp119k7 ⟨by omega, by omega⟩ cg lp119k1 ⟨by omega, by omega⟩ (by omega) (by omega) lp119u) (fun q125 _ wq125 => ?_)
                  obtain ⟨pq125, oq125, hq125⟩ := q125
                  obtain ⟨tyq125, xq125, cq125_0, ttq125, fq125_0, fq125_1, ecq125_0, tcq125_0, gq125, efq125_0, afq125_0, bfq125_0, efq125_1, afq125_1, bfq125_1, uq125_0, uq125_1, uq125_2, uq125_3, uq125_4, uq125_5, uq125_6⟩ := wq125
                  dsimp only at uq125_3 uq125_4 uq125_5 uq125_6
                  refine ⟨_, gq125, ?_⟩
                  show gz gPP gGG gcn _ _ 140 [some (.ref x), some (.int (zi p)), some (.int (zi zq1)), some (.int (zi rn2)), some (.int (zi k)), some (.int (zi z104)), some (.int (zi (zq105 / 2 ^ (lw).toNat)))] [] hq125 _
                  have G126 : gSg [114] [] [56000, 56001, 56002, 56003, 71013, 71014, 80999, 114999] ty h tyq125 hq125 := gSg.tr (gSg.ss lp119G sh120 (by decide)) xq125 (by decide) (by decide) (fun x hx => by cases hx)
                  have t127 : tyq125 x = 71 := gSg.typ xq125 sh120.1 lp119c0 rfl
                  have t128 : tyq125 sk = 56 := gSg.typ xq125 sh120.1 lp119c1 rfl
                  have t129 : tyq125 c102 = 73 := gSg.typ xq125 sh120.1 lp119c2 rfl
                  have t130 : tyq125 bv2 = 114 := gSg.typ xq125 sh120.1 lp119r1 rfl
                  have hl131 : hq125.2.2.2.1 bv2 = h120.2.2.2.1 bv2 := gSg.len xq125 sh120.1 lp119r1 rfl
                  have s132 := gSg.at xq125 sh120.1 lp119c0 rfl (by decide) lp119k0
                  have s133 := gSg.at xq125 sh120.1 lp119c0 rfl (by decide) lp119k1
                  have s134 := gSg.at xq125 sh120.1 lp119c0 rfl (by decide) lp119k2
                  have s135 := gSg.at xq125 sh120.1 lp119c0 rfl (by decide) lp119k3
                  have s136 := gSg.at xq125 sh120.1 lp119c0 rfl (by decide) lp119k4
                  have s137 := gSg.at xq125 sh120.1 lp119c0 rfl (by decide) lp119k5
                  have s138 := gSg.at xq125 sh120.1 lp119c0 rfl (by decide) lp119k8
                  have pr139 := gLc.gr xq125 sh120.1 (by decide) (by decide) lp119k9
                  have uq140 := gSg.uq xq125 lp119u (by decide)
                  have sS141 : gSs rT 1027 tyq125 [56000, 56001, 56002, 56003, 71013, 71014, 80999, 114999] hq125 hq125 := gSs.rf xq125.1
                  have yq125b : 4 * fq125_0 + fq125_1 + 320 * rn2 + 310 * wv2 ≤ 4 * c0 + h0 + 320 * (k - fr) + 300 := by omega
                  have yq125m : c0 ≤ fq125_0 := by omega
                  have yq125g : 1024 * ((hq125.1 : Int) - h.1) ≤ (hq125.2.2.2.1 cq125_0 : Int) - h.2.2.2.1 bt := by omega
                  have yq125s : ((hq125.2.1 : Int) - h.2.1) ≤ 2 * ((hq125.2.2.2.1 cq125_0 : Int) - h.2.2.2.1 bt) := by omega
                  have yq125l : (h.2.2.2.1 bt : Int) ≤ (hq125.2.2.2.1 cq125_0 : Int) := by omega
                  have yq125c : cg = 1 → (fq125_0 = c0 ∧ fq125_1 = h0) := fun hcg9 => ⟨(uq125_2 hcg9).1.trans (lp119f6 hcg9).1, (uq125_2 hcg9).2.trans (lp119f6 hcg9).2⟩
                  clear lp119f4 lp119f5 lp119f9 lp119f10 lp119f11 lp119f12 lp119f6 lp119f1 lp119f2 uq125_0 uq125_1 uq125_2 uq125_3 uq125_4 uq125_5
                  refine gz_s 2 (pc' := 143) (L' := [some (.ref x), some (.int (zi p)), some (.int (zi zq1)), some (.int (zi rn2)), some (.int (zi k)), some (.int (zi z104)), some (.int (zi (zq105 / 2 ^ (lw).toNat)))]) (S' := [.int (zi z104), .ref x]) rfl ?_
                  by_cases hc142 : (0 : Int) ≤ z104
                  · refine gy_ifT (pc' := 150) rfl (by decide) (by decide) (by omega) hc142 ?_
                    refine gz_s 2 (pc' := 152) (L' := [some (.ref x), some (.int (zi p)), some (.int (zi zq1)), some (.int (zi rn2)), some (.int (zi k)), some (.int (zi z104)), some (.int (zi (zq105 / 2 ^ (lw).toNat)))]) (S' := [.int (zi 1), .int (zi 1), .ref x]) rfl ?_
                    have hl143 : hq125.2.2.2.1 cq125_0 = hq125.2.2.2.1 cq125_0 := congrFun sS141.2.2.2.2.1 cq125_0
                    refine gz_call rfl (by decide) rfl (by decide) (by decide) (gcal_of rfl rfl rfl (Nat.le_of_ble_eq_true rfl) (gJ.recv (G := gGG) sS141.1 t127 rfl rfl)) (cl_Writer_putPlain _ sS141.1 x t127 1 ⟨by omega, by omega⟩ 1 ⟨by omega, by omega⟩ sk s132 t128 cq125_0 ecq125_0 tcq125_0 fq125_0 efq125_0 ⟨by omega, by omega⟩ fq125_1 efq125_1 ⟨by omega, by omega⟩ cg s133 ⟨by omega, by omega⟩ (by omega) (by omega) uq140) (fun q144 _ wq144 => ?_)
                    obtain ⟨pq144, oq144, hq144⟩ := q144
                    obtain ⟨tyq144, xq144, cq144_0, ttq144, fq144_0, fq144_1, ecq144_0, tcq144_0, gq144, efq144_0, afq144_0, bfq144_0, efq144_1, afq144_1, bfq144_1, uq144_0, uq144_1, uq144_2, uq144_3, uq144_4, uq144_5, uq144_6⟩ := wq144
                    dsimp only at uq144_3 uq144_4 uq144_5 uq144_6
                    refine ⟨_, gq144, ?_⟩
                    show gz gPP gGG gcn _ _ 155 [some (.ref x), some (.int (zi p)), some (.int (zi zq1)), some (.int (zi rn2)), some (.int (zi k)), some (.int (zi z104)), some (.int (zi (zq105 / 2 ^ (lw).toNat)))] [] hq144 _
                    have G145 : gSg [114] [] [56000, 56001, 56002, 56003, 71013, 71014, 80999, 114999] ty h tyq144 hq144 := gSg.tr (gSg.ss G126 sS141 (by decide)) xq144 (by decide) (by decide) (fun x hx => by cases hx)
                    have t146 : tyq144 x = 71 := gSg.typ xq144 sS141.1 t127 rfl
                    have t147 : tyq144 sk = 56 := gSg.typ xq144 sS141.1 t128 rfl
                    have t148 : tyq144 c102 = 73 := gSg.typ xq144 sS141.1 t129 rfl
                    have t149 : tyq144 bv2 = 114 := gSg.typ xq144 sS141.1 t130 rfl
                    have hl150 : hq144.2.2.2.1 bv2 = hq125.2.2.2.1 bv2 := gSg.len xq144 sS141.1 t130 rfl
                    have t151 : tyq144 cq125_0 = 114 := gSg.typ xq144 sS141.1 tcq125_0 rfl
                    have hl152 : hq144.2.2.2.1 cq125_0 = hq125.2.2.2.1 cq125_0 := gSg.len xq144 sS141.1 tcq125_0 rfl
                    have s153 := gSg.at xq144 sS141.1 t127 rfl (by decide) s132
                    have s154 := gSg.at xq144 sS141.1 t127 rfl (by decide) s133
                    have s155 := gSg.at xq144 sS141.1 t127 rfl (by decide) s134
                    have s156 := gSg.at xq144 sS141.1 t127 rfl (by decide) s135
                    have s157 := gSg.at xq144 sS141.1 t127 rfl (by decide) s136
                    have s158 := gSg.at xq144 sS141.1 t127 rfl (by decide) s137
                    have s159 := gSg.at xq144 sS141.1 t127 rfl (by decide) s138
                    have pr160 := gLc.gr xq144 sS141.1 (by decide) (by decide) pr139
                    have uq161 := gSg.uq xq144 uq140 (by decide)
                    have sS162 : gSs rT 1027 tyq144 [56000, 56001, 56002, 56003, 71013, 71014, 80999, 114999] hq144 hq144 := gSs.rf xq144.1
                    have yq144b : 4 * fq144_0 + fq144_1 + 320 * rn2 + 310 * wv2 ≤ 4 * c0 + h0 + 320 * (k - fr) + 300 + 1 := by omega
                    have yq144m : c0 ≤ fq144_0 := by omega
                    have yq144g : 1024 * ((hq144.1 : Int) - h.1) ≤ (hq144.2.2.2.1 cq144_0 : Int) - h.2.2.2.1 bt := by omega
                    have yq144s : ((hq144.2.1 : Int) - h.2.1) ≤ 2 * ((hq144.2.2.2.1 cq144_0 : Int) - h.2.2.2.1 bt) := by omega
                    have yq144l : (h.2.2.2.1 bt : Int) ≤ (hq144.2.2.2.1 cq144_0 : Int) := by omega
                    have yq144c : cg = 1 → (fq144_0 = c0 ∧ fq144_1 = h0) := fun hcg9 => ⟨(uq144_2 hcg9).1.trans (yq125c hcg9).1, (uq144_2 hcg9).2.trans (yq125c hcg9).2⟩
                    clear yq125b yq125m yq125g yq125s yq125l uq125_6 yq125c afq125_0 bfq125_0 afq125_1 bfq125_1 uq144_0 uq144_1 uq144_2 uq144_3 uq144_4 uq144_5
                    refine gz_s 1 (pc' := 156) (L' := [some (.ref x), some (.int (zi p)), some (.int (zi zq1)), some (.int (zi rn2)), some (.int (zi k)), some (.int (zi z104)), some (.int (zi (zq105 / 2 ^ (lw).toNat)))]) (S' := [.ref x]) rfl ?_
                    have hl163 : hq144.2.2.2.1 cq144_0 = hq144.2.2.2.1 cq144_0 := congrFun sS162.2.2.2.2.1 cq144_0
                    refine gz_call rfl (by decide) rfl (by decide) (by decide) (gcal_of rfl rfl rfl (Nat.le_of_ble_eq_true rfl) (gJ.recv (G := gGG) sS162.1 t146 rfl rfl)) (cl_Writer_putWaiting _ sS162.1 x t146 sk s153 t147 cq144_0 ecq144_0 tcq144_0 fq144_0 efq144_0 ⟨by omega, by omega⟩ fq144_1 efq144_1 ⟨by omega, by omega⟩ cg s154 ⟨by omega, by omega⟩ wv2 s159 ⟨by omega, by omega⟩ (by omega) (by omega) uq161) (fun q164 _ wq164 => ?_)
                    obtain ⟨pq164, oq164, hq164⟩ := q164
                    obtain ⟨tyq164, xq164, cq164_0, ttq164, fq164_0, fq164_1, fq164_2, ecq164_0, tcq164_0, gq164, efq164_0, afq164_0, bfq164_0, efq164_1, afq164_1, bfq164_1, efq164_2, afq164_2, bfq164_2, uq164_0, uq164_1, uq164_2, uq164_3, uq164_4, uq164_5, uq164_6, uq164_7⟩ := wq164
                    dsimp only at uq164_3 uq164_4 uq164_5 uq164_7
                    refine ⟨_, gq164, ?_⟩
                    show gz gPP gGG gcn _ _ 159 [some (.ref x), some (.int (zi p)), some (.int (zi zq1)), some (.int (zi rn2)), some (.int (zi k)), some (.int (zi z104)), some (.int (zi (zq105 / 2 ^ (lw).toNat)))] [] hq164 _
                    have G165 : gSg [114] [] [56000, 56001, 56002, 56003, 71013, 71014, 80999, 114999] ty h tyq164 hq164 := gSg.tr (gSg.ss G145 sS162 (by decide)) xq164 (by decide) (by decide) (fun x hx => by cases hx)
                    have t166 : tyq164 x = 71 := gSg.typ xq164 sS162.1 t146 rfl
                    have t167 : tyq164 sk = 56 := gSg.typ xq164 sS162.1 t147 rfl
                    have t168 : tyq164 c102 = 73 := gSg.typ xq164 sS162.1 t148 rfl
                    have t169 : tyq164 bv2 = 114 := gSg.typ xq164 sS162.1 t149 rfl
                    have hl170 : hq164.2.2.2.1 bv2 = hq144.2.2.2.1 bv2 := gSg.len xq164 sS162.1 t149 rfl
                    have t171 : tyq164 cq125_0 = 114 := gSg.typ xq164 sS162.1 t151 rfl
                    have hl172 : hq164.2.2.2.1 cq125_0 = hq144.2.2.2.1 cq125_0 := gSg.len xq164 sS162.1 t151 rfl
                    have t173 : tyq164 cq144_0 = 114 := gSg.typ xq164 sS162.1 tcq144_0 rfl
                    have hl174 : hq164.2.2.2.1 cq144_0 = hq144.2.2.2.1 cq144_0 := gSg.len xq164 sS162.1 tcq144_0 rfl
                    have s175 := gSg.at xq164 sS162.1 t146 rfl (by decide) s153
                    have s176 := gSg.at xq164 sS162.1 t146 rfl (by decide) s154
                    have s177 := gSg.at xq164 sS162.1 t146 rfl (by decide) s155
                    have s178 := gSg.at xq164 sS162.1 t146 rfl (by decide) s156
                    have s179 := gSg.at xq164 sS162.1 t146 rfl (by decide) s157
                    have s180 := gSg.at xq164 sS162.1 t146 rfl (by decide) s158
                    have pr181 := gLc.gr xq164 sS162.1 (by decide) (by decide) pr160
                    have uq182 := gSg.uq xq164 uq161 (by decide)
                    have sS183 : gSs rT 1027 tyq164 [56000, 56001, 56002, 56003, 71013, 71014, 80999, 114999] hq164 hq164 := gSs.rf xq164.1
                    have yq164b : 4 * fq164_0 + fq164_1 + 320 * rn2 + 310 * wv2 ≤ 4 * c0 + h0 + 320 * (k - fr) + 300 + 1 + wv2 := by omega
                    have yq164m : c0 ≤ fq164_0 := by omega
                    have yq164g : 1024 * ((hq164.1 : Int) - h.1) ≤ (hq164.2.2.2.1 cq164_0 : Int) - h.2.2.2.1 bt := by omega
                    have yq164s : ((hq164.2.1 : Int) - h.2.1) ≤ 2 * ((hq164.2.2.2.1 cq164_0 : Int) - h.2.2.2.1 bt) := by omega
                    have yq164l : (h.2.2.2.1 bt : Int) ≤ (hq164.2.2.2.1 cq164_0 : Int) := by omega
                    have yq164c : cg = 1 → (fq164_0 = c0 ∧ fq164_1 = h0) := fun hcg9 => ⟨(uq164_2 hcg9).1.trans (yq144c hcg9).1, (uq164_2 hcg9).2.trans (yq144c hcg9).2⟩
                    clear yq144b yq144m yq144g yq144s yq144l uq144_6 yq144c afq144_0 bfq144_0 afq144_1 bfq144_1 uq164_0 uq164_1 uq164_2 uq164_3 uq164_4 uq164_5
                    refine gy_s 4 (pc' := 19) (L' := [some (.ref x), some (.int (zi p)), some (.int (zi zq1)), some (.int (zi 0)), some (.int ((zi k) + zi 1)), some (.int (zi z104)), some (.int (zi (zq105 / 2 ^ (lw).toNat)))]) (S' := []) (L2 := [some (.ref x), some (.int (zi p)), some (.int (zi zq1)), some (.int (zi 0)), some (.int (zi (k + 1))), some (.int (zi z104)), some (.int (zi (zq105 / 2 ^ (lw).toNat)))]) (S2 := []) rfl (by simp only [zi_add, zi_sub, zi_mul, zi_neg, zi_and1, zi_and7, zi_and15, zi_and31, zi_and255]) (by simp only [zi_add, zi_sub, zi_mul, zi_neg, zi_and1, zi_and7, zi_and15, zi_and31, zi_and255]) ?_
                    have hl184 : 1024 ≤ hq164.2.2.2.1 bv2 ∧ hq164.2.2.2.1 bv2 ≤ 1000000 := gJ.rowl (G := gGG) sS183.1 t169 rfl
                    have hl185 : 1024 ≤ hq164.2.2.2.1 cq125_0 ∧ hq164.2.2.2.1 cq125_0 ≤ 1000000 := gJ.rowl (G := gGG) sS183.1 t171 rfl
                    have hl186 : 1024 ≤ hq164.2.2.2.1 cq144_0 ∧ hq164.2.2.2.1 cq144_0 ≤ 1000000 := gJ.rowl (G := gGG) sS183.1 t173 rfl
                    have hl187 : 1024 ≤ hq164.2.2.2.1 cq164_0 ∧ hq164.2.2.2.1 cq164_0 ≤ 1000000 := gJ.rowl (G := gGG) sS183.1 tcq164_0 rfl
                    have G188 : gSg [114] [] [56000, 56001, 56002, 56003, 71013, 71014, 80999, 114999] ty h tyq164 hq164 := gSg.ss G165 sS183 (by decide)
                    exact gz_wk (ihlp20 tyq164 hq164 cq164_0 0 (k + 1) fq164_0 fq164_1 fq164_2 (gms lp20m (by omega) (by omega)) G188 uq182 t166 t167 ecq164_0 tcq164_0 ⟨by omega, by omega⟩ ⟨by omega, by omega⟩ ⟨by omega, by omega⟩ ⟨by omega, by omega⟩ ⟨by omega, by omega⟩ (by omega) (by omega) (fun hcg9 => by (try have i0 := yq164c hcg9); exact ⟨Int.le_antisymm (by omega) (by omega), Int.le_antisymm (by omega) (by omega)⟩) (by omega) (by omega) (by omega) (by omega) (by omega) (by omega) (by omega) s175 s176 s177 s178 s179 efq164_0 efq164_1 efq164_2 pr181) (gLw.s (gLw.s (gLw.s (gLw.s (gLw.s (gLw.n (gLw.n gLw.z)))))))
                  · refine gy_ifF rfl (by decide) (by decide) (by omega) hc142 ?_
                    refine gz_s 3 (pc' := 152) (L' := [some (.ref x), some (.int (zi p)), some (.int (zi zq1)), some (.int (zi rn2)), some (.int (zi k)), some (.int (zi z104)), some (.int (zi (zq105 / 2 ^ (lw).toNat)))]) (S' := [.int (zi 1), .int (zi 0), .ref x]) rfl ?_
                    have hl189 : hq125.2.2.2.1 cq125_0 = hq125.2.2.2.1 cq125_0 := congrFun sS141.2.2.2.2.1 cq125_0
                    refine gz_call rfl (by decide) rfl (by decide) (by decide) (gcal_of rfl rfl rfl (Nat.le_of_ble_eq_true rfl) (gJ.recv (G := gGG) sS141.1 t127 rfl rfl)) (cl_Writer_putPlain _ sS141.1 x t127 0 ⟨by omega, by omega⟩ 1 ⟨by omega, by omega⟩ sk s132 t128 cq125_0 ecq125_0 tcq125_0 fq125_0 efq125_0 ⟨by omega, by omega⟩ fq125_1 efq125_1 ⟨by omega, by omega⟩ cg s133 ⟨by omega, by omega⟩ (by omega) (by omega) uq140) (fun q190 _ wq190 => ?_)
                    obtain ⟨pq190, oq190, hq190⟩ := q190
                    obtain ⟨tyq190, xq190, cq190_0, ttq190, fq190_0, fq190_1, ecq190_0, tcq190_0, gq190, efq190_0, afq190_0, bfq190_0, efq190_1, afq190_1, bfq190_1, uq190_0, uq190_1, uq190_2, uq190_3, uq190_4, uq190_5, uq190_6⟩ := wq190
                    dsimp only at uq190_3 uq190_4 uq190_5 uq190_6
                    refine ⟨_, gq190, ?_⟩
                    show gz gPP gGG gcn _ _ 155 [some (.ref x), some (.int (zi p)), some (.int (zi zq1)), some (.int (zi rn2)), some (.int (zi k)), some (.int (zi z104)), some (.int (zi (zq105 / 2 ^ (lw).toNat)))] [] hq190 _
                    have G191 : gSg [114] [] [56000, 56001, 56002, 56003, 71013, 71014, 80999, 114999] ty h tyq190 hq190 := gSg.tr (gSg.ss G126 sS141 (by decide)) xq190 (by decide) (by decide) (fun x hx => by cases hx)
                    have t192 : tyq190 x = 71 := gSg.typ xq190 sS141.1 t127 rfl
                    have t193 : tyq190 sk = 56 := gSg.typ xq190 sS141.1 t128 rfl
                    have t194 : tyq190 c102 = 73 := gSg.typ xq190 sS141.1 t129 rfl
                    have t195 : tyq190 bv2 = 114 := gSg.typ xq190 sS141.1 t130 rfl
                    have hl196 : hq190.2.2.2.1 bv2 = hq125.2.2.2.1 bv2 := gSg.len xq190 sS141.1 t130 rfl
                    have t197 : tyq190 cq125_0 = 114 := gSg.typ xq190 sS141.1 tcq125_0 rfl
                    have hl198 : hq190.2.2.2.1 cq125_0 = hq125.2.2.2.1 cq125_0 := gSg.len xq190 sS141.1 tcq125_0 rfl
                    have s199 := gSg.at xq190 sS141.1 t127 rfl (by decide) s132
                    have s200 := gSg.at xq190 sS141.1 t127 rfl (by decide) s133
                    have s201 := gSg.at xq190 sS141.1 t127 rfl (by decide) s134
                    have s202 := gSg.at xq190 sS141.1 t127 rfl (by decide) s135
                    have s203 := gSg.at xq190 sS141.1 t127 rfl (by decide) s136
                    have s204 := gSg.at xq190 sS141.1 t127 rfl (by decide) s137
                    have s205 := gSg.at xq190 sS141.1 t127 rfl (by decide) s138
                    have pr206 := gLc.gr xq190 sS141.1 (by decide) (by decide) pr139
                    have uq207 := gSg.uq xq190 uq140 (by decide)
                    have sS208 : gSs rT 1027 tyq190 [56000, 56001, 56002, 56003, 71013, 71014, 80999, 114999] hq190 hq190 := gSs.rf xq190.1
                    have yq190b : 4 * fq190_0 + fq190_1 + 320 * rn2 + 310 * wv2 ≤ 4 * c0 + h0 + 320 * (k - fr) + 300 + 1 := by omega
                    have yq190m : c0 ≤ fq190_0 := by omega
                    have yq190g : 1024 * ((hq190.1 : Int) - h.1) ≤ (hq190.2.2.2.1 cq190_0 : Int) - h.2.2.2.1 bt := by omega
                    have yq190s : ((hq190.2.1 : Int) - h.2.1) ≤ 2 * ((hq190.2.2.2.1 cq190_0 : Int) - h.2.2.2.1 bt) := by omega
                    have yq190l : (h.2.2.2.1 bt : Int) ≤ (hq190.2.2.2.1 cq190_0 : Int) := by omega
                    have yq190c : cg = 1 → (fq190_0 = c0 ∧ fq190_1 = h0) := fun hcg9 => ⟨(uq190_2 hcg9).1.trans (yq125c hcg9).1, (uq190_2 hcg9).2.trans (yq125c hcg9).2⟩
                    clear yq125b yq125m yq125g yq125s yq125l uq125_6 yq125c afq125_0 bfq125_0 afq125_1 bfq125_1 uq190_0 uq190_1 uq190_2 uq190_3 uq190_4 uq190_5
                    refine gz_s 1 (pc' := 156) (L' := [some (.ref x), some (.int (zi p)), some (.int (zi zq1)), some (.int (zi rn2)), some (.int (zi k)), some (.int (zi z104)), some (.int (zi (zq105 / 2 ^ (lw).toNat)))]) (S' := [.ref x]) rfl ?_
                    have hl209 : hq190.2.2.2.1 cq190_0 = hq190.2.2.2.1 cq190_0 := congrFun sS208.2.2.2.2.1 cq190_0
                    refine gz_call rfl (by decide) rfl (by decide) (by decide) (gcal_of rfl rfl rfl (Nat.le_of_ble_eq_true rfl) (gJ.recv (G := gGG) sS208.1 t192 rfl rfl)) (cl_Writer_putWaiting _ sS208.1 x t192 sk s199 t193 cq190_0 ecq190_0 tcq190_0 fq190_0 efq190_0 ⟨by omega, by omega⟩ fq190_1 efq190_1 ⟨by omega, by omega⟩ cg s200 ⟨by omega, by omega⟩ wv2 s205 ⟨by omega, by omega⟩ (by omega) (by omega) uq207) (fun q210 _ wq210 => ?_)
                    obtain ⟨pq210, oq210, hq210⟩ := q210
                    obtain ⟨tyq210, xq210, cq210_0, ttq210, fq210_0, fq210_1, fq210_2, ecq210_0, tcq210_0, gq210, efq210_0, afq210_0, bfq210_0, efq210_1, afq210_1, bfq210_1, efq210_2, afq210_2, bfq210_2, uq210_0, uq210_1, uq210_2, uq210_3, uq210_4, uq210_5, uq210_6, uq210_7⟩ := wq210
                    dsimp only at uq210_3 uq210_4 uq210_5 uq210_7
                    refine ⟨_, gq210, ?_⟩
                    show gz gPP gGG gcn _ _ 159 [some (.ref x), some (.int (zi p)), some (.int (zi zq1)), some (.int (zi rn2)), some (.int (zi k)), some (.int (zi z104)), some (.int (zi (zq105 / 2 ^ (lw).toNat)))] [] hq210 _
                    have G211 : gSg [114] [] [56000, 56001, 56002, 56003, 71013, 71014, 80999, 114999] ty h tyq210 hq210 := gSg.tr (gSg.ss G191 sS208 (by decide)) xq210 (by decide) (by decide) (fun x hx => by cases hx)
                    have t212 : tyq210 x = 71 := gSg.typ xq210 sS208.1 t192 rfl
                    have t213 : tyq210 sk = 56 := gSg.typ xq210 sS208.1 t193 rfl
                    have t214 : tyq210 c102 = 73 := gSg.typ xq210 sS208.1 t194 rfl
                    have t215 : tyq210 bv2 = 114 := gSg.typ xq210 sS208.1 t195 rfl
                    have hl216 : hq210.2.2.2.1 bv2 = hq190.2.2.2.1 bv2 := gSg.len xq210 sS208.1 t195 rfl
                    have t217 : tyq210 cq125_0 = 114 := gSg.typ xq210 sS208.1 t197 rfl
                    have hl218 : hq210.2.2.2.1 cq125_0 = hq190.2.2.2.1 cq125_0 := gSg.len xq210 sS208.1 t197 rfl
                    have t219 : tyq210 cq190_0 = 114 := gSg.typ xq210 sS208.1 tcq190_0 rfl
                    have hl220 : hq210.2.2.2.1 cq190_0 = hq190.2.2.2.1 cq190_0 := gSg.len xq210 sS208.1 tcq190_0 rfl
                    have s221 := gSg.at xq210 sS208.1 t192 rfl (by decide) s199
                    have s222 := gSg.at xq210 sS208.1 t192 rfl (by decide) s200
                    have s223 := gSg.at xq210 sS208.1 t192 rfl (by decide) s201
                    have s224 := gSg.at xq210 sS208.1 t192 rfl (by decide) s202
                    have s225 := gSg.at xq210 sS208.1 t192 rfl (by decide) s203
                    have s226 := gSg.at xq210 sS208.1 t192 rfl (by decide) s204
                    have pr227 := gLc.gr xq210 sS208.1 (by decide) (by decide) pr206
                    have uq228 := gSg.uq xq210 uq207 (by decide)
                    have sS229 : gSs rT 1027 tyq210 [56000, 56001, 56002, 56003, 71013, 71014, 80999, 114999] hq210 hq210 := gSs.rf xq210.1
                    have yq210b : 4 * fq210_0 + fq210_1 + 320 * rn2 + 310 * wv2 ≤ 4 * c0 + h0 + 320 * (k - fr) + 300 + 1 + wv2 := by omega
                    have yq210m : c0 ≤ fq210_0 := by omega
                    have yq210g : 1024 * ((hq210.1 : Int) - h.1) ≤ (hq210.2.2.2.1 cq210_0 : Int) - h.2.2.2.1 bt := by omega
                    have yq210s : ((hq210.2.1 : Int) - h.2.1) ≤ 2 * ((hq210.2.2.2.1 cq210_0 : Int) - h.2.2.2.1 bt) := by omega
                    have yq210l : (h.2.2.2.1 bt : Int) ≤ (hq210.2.2.2.1 cq210_0 : Int) := by omega
                    have yq210c : cg = 1 → (fq210_0 = c0 ∧ fq210_1 = h0) := fun hcg9 => ⟨(uq210_2 hcg9).1.trans (yq190c hcg9).1, (uq210_2 hcg9).2.trans (yq190c hcg9).2⟩
                    clear yq190b yq190m yq190g yq190s yq190l uq190_6 yq190c afq190_0 bfq190_0 afq190_1 bfq190_1 uq210_0 uq210_1 uq210_2 uq210_3 uq210_4 uq210_5
                    refine gy_s 4 (pc' := 19) (L' := [some (.ref x), some (.int (zi p)), some (.int (zi zq1)), some (.int (zi 0)), some (.int ((zi k) + zi 1)), some (.int (zi z104)), some (.int (zi (zq105 / 2 ^ (lw).toNat)))]) (S' := []) (L2 := [some (.ref x), some (.int (zi p)), some (.int (zi zq1)), some (.int (zi 0)), some (.int (zi (k + 1))), some (.int (zi z104)), some (.int (zi (zq105 / 2 ^ (lw).toNat)))]) (S2 := []) rfl (by simp only [zi_add, zi_sub, zi_mul, zi_neg, zi_and1, zi_and7, zi_and15, zi_and31, zi_and255]) (by simp only [zi_add, zi_sub, zi_mul, zi_neg, zi_and1, zi_and7, zi_and15, zi_and31, zi_and255]) ?_
                    have hl230 : 1024 ≤ hq210.2.2.2.1 bv2 ∧ hq210.2.2.2.1 bv2 ≤ 1000000 := gJ.rowl (G := gGG) sS229.1 t215 rfl
                    have hl231 : 1024 ≤ hq210.2.2.2.1 cq125_0 ∧ hq210.2.2.2.1 cq125_0 ≤ 1000000 := gJ.rowl (G := gGG) sS229.1 t217 rfl
                    have hl232 : 1024 ≤ hq210.2.2.2.1 cq190_0 ∧ hq210.2.2.2.1 cq190_0 ≤ 1000000 := gJ.rowl (G := gGG) sS229.1 t219 rfl
                    have hl233 : 1024 ≤ hq210.2.2.2.1 cq210_0 ∧ hq210.2.2.2.1 cq210_0 ≤ 1000000 := gJ.rowl (G := gGG) sS229.1 tcq210_0 rfl
                    have G234 : gSg [114] [] [56000, 56001, 56002, 56003, 71013, 71014, 80999, 114999] ty h tyq210 hq210 := gSg.ss G211 sS229 (by decide)
                    exact gz_wk (ihlp20 tyq210 hq210 cq210_0 0 (k + 1) fq210_0 fq210_1 fq210_2 (gms lp20m (by omega) (by omega)) G234 uq228 t212 t213 ecq210_0 tcq210_0 ⟨by omega, by omega⟩ ⟨by omega, by omega⟩ ⟨by omega, by omega⟩ ⟨by omega, by omega⟩ ⟨by omega, by omega⟩ (by omega) (by omega) (fun hcg9 => by (try have i0 := yq210c hcg9); exact ⟨Int.le_antisymm (by omega) (by omega), Int.le_antisymm (by omega) (by omega)⟩) (by omega) (by omega) (by omega) (by omega) (by omega) (by omega) (by omega) s221 s222 s223 s224 s225 efq210_0 efq210_1 efq210_2 pr227) (gLw.s (gLw.s (gLw.s (gLw.s (gLw.s (gLw.n (gLw.n gLw.z)))))))
                · refine gy_icF rfl (by decide) (by decide) (by omega) (by omega) hc123 ?_
                  refine gz_s 1 (pc' := 99) (L' := [some (.ref x), some (.int (zi p)), some (.int (zi zq1)), some (.int (zi rn2)), some (.int (zi k)), some (.int (zi z104)), some (.int (zi (zq105 / 2 ^ (lw).toNat)))]) (S' := [.ref x]) rfl ?_
                  refine gz_1 rfl (by decide) rfl rfl (pc' := 102) (S' := [.long (zl 2), .ref x]) (h' := h120) rfl ?_
                  refine gz_s 1 (pc' := 103) (L' := [some (.ref x), some (.int (zi p)), some (.int (zi zq1)), some (.int (zi rn2)), some (.int (zi k)), some (.int (zi z104)), some (.int (zi (zq105 / 2 ^ (lw).toNat)))]) (S' := [.ref x, .long (zl 2), .ref x]) rfl ?_
                  refine gs_getl rfl (by decide) rfl sh120.1 lp119c0 rfl rfl rfl (fun z235 ez235 az235 bz235 => ?_)
                  refine gy_s 1 (pc' := 107) (L' := [some (.ref x), some (.int (zi p)), some (.int (zi zq1)), some (.int (zi rn2)), some (.int (zi k)), some (.int (zi z104)), some (.int (zi (zq105 / 2 ^ (lw).toNat)))]) (S' := [.long ((zl 2) * (zl z235)), .ref x]) (L2 := [some (.ref x), some (.int (zi p)), some (.int (zi zq1)), some (.int (zi rn2)), some (.int (zi k)), some (.int (zi z104)), some (.int (zi (zq105 / 2 ^ (lw).toNat)))]) (S2 := [.long (zl (2 * z235)), .ref x]) rfl (by simp only [zi_add, zi_sub, zi_mul, zi_neg, zi_and1, zi_and7, zi_and15, zi_and31, zi_and255, zl_add, zl_sub, zl_mul, zl_neg]) (by simp only [zi_add, zi_sub, zi_mul, zi_neg, zi_and1, zi_and7, zi_and15, zi_and31, zi_and255, zl_add, zl_sub, zl_mul, zl_neg]) ?_
                  refine gy_lany (fun z236 ez236 az236 bz236 => ?_)
                  refine gy_s 3 (pc' := 111) (L' := [some (.ref x), some (.int (zi p)), some (.int (zi zq1)), some (.int (zi rn2)), some (.int (zi k)), some (.int (zi z104)), some (.int (zi (zq105 / 2 ^ (lw).toNat)))]) (S' := [.int ((zi (zq105 / 2 ^ (lw).toNat)) &&& (zi 1)), .long (zl z236), .ref x]) (L2 := [some (.ref x), some (.int (zi p)), some (.int (zi zq1)), some (.int (zi rn2)), some (.int (zi k)), some (.int (zi z104)), some (.int (zi (zq105 / 2 ^ (lw).toNat)))]) (S2 := [.int (zi ((zq105 / 2 ^ (lw).toNat) % 2)), .long (zl z236), .ref x]) rfl (by simp only [zi_add, zi_sub, zi_mul, zi_neg, zi_and1, zi_and7, zi_and15, zi_and31, zi_and255, zl_add, zl_sub, zl_mul, zl_neg]) (by simp only [zi_add, zi_sub, zi_mul, zi_neg, zi_and1, zi_and7, zi_and15, zi_and31, zi_and255, zl_add, zl_sub, zl_mul, zl_neg]) ?_
                  refine gy_i2l rfl (by decide) ⟨by omega, by omega⟩ ?_
                  refine gy_s 1 (pc' := 113) (L' := [some (.ref x), some (.int (zi p)), some (.int (zi zq1)), some (.int (zi rn2)), some (.int (zi k)), some (.int (zi z104)), some (.int (zi (zq105 / 2 ^ (lw).toNat)))]) (S' := [.long ((zl z236) + (zl ((zq105 / 2 ^ (lw).toNat) % 2))), .ref x]) (L2 := [some (.ref x), some (.int (zi p)), some (.int (zi zq1)), some (.int (zi rn2)), some (.int (zi k)), some (.int (zi z104)), some (.int (zi (zq105 / 2 ^ (lw).toNat)))]) (S2 := [.long (zl (z236 + ((zq105 / 2 ^ (lw).toNat) % 2))), .ref x]) rfl (by simp only [zi_add, zi_sub, zi_mul, zi_neg, zi_and1, zi_and7, zi_and15, zi_and31, zi_and255, zl_add, zl_sub, zl_mul, zl_neg]) (by simp only [zi_add, zi_sub, zi_mul, zi_neg, zi_and1, zi_and7, zi_and15, zi_and31, zi_and255, zl_add, zl_sub, zl_mul, zl_neg]) ?_
                  refine gy_lany (fun z237 ez237 az237 bz237 => ?_)
                  refine gs_putl rfl (by decide) rfl sh120 lp119c0 rfl rfl rfl rfl (Or.inl rfl) (by decide) (by omega) (by omega) (fun h238 sh238 eh238 fh238 => ?_)
                  have pr239 := gLc.pt fh238 lp119c0 (by decide) lp119k9
                  have s240 := (fh238 x 0 (fun q => absurd q.2 (by decide))).trans lp119k0
                  have s241 := (fh238 x 11 (fun q => absurd q.2 (by decide))).trans lp119k1
                  have s242 := (fh238 x 7 (fun q => absurd q.2 (by decide))).trans lp119k2
                  have s243 := (fh238 x 8 (fun q => absurd q.2 (by decide))).trans lp119k3
                  have s244 := (fh238 x 10 (fun q => absurd q.2 (by decide))).trans lp119k4
                  have s245 := (fh238 x 2 (fun q => absurd q.2 (by decide))).trans lp119k5
                  have s246 := (fh238 sk 1 (fun q => absurd q.2 (by decide))).trans lp119k6
                  have s247 := (fh238 sk 3 (fun q => absurd q.2 (by decide))).trans lp119k7
                  have s248 := (fh238 x 14 (fun q => absurd q.2 (by decide))).trans lp119k8
                  have s249 := (fh238 sk 0 (fun q => absurd q.2 (by decide))).trans lp119r0
                  refine gz_s 2 (pc' := 118) (L' := [some (.ref x), some (.int (zi p)), some (.int (zi zq1)), some (.int (zi rn2)), some (.int (zi k)), some (.int (zi z104)), some (.int (zi (zq105 / 2 ^ (lw).toNat)))]) (S' := [.ref x, .ref x]) rfl ?_
                  refine gs_gtk rfl (by decide) rfl sh238.1 lp119c0 rfl rfl s248 ?_
                  refine gy_s 2 (pc' := 123) (L' := [some (.ref x), some (.int (zi p)), some (.int (zi zq1)), some (.int (zi rn2)), some (.int (zi k)), some (.int (zi z104)), some (.int (zi (zq105 / 2 ^ (lw).toNat)))]) (S' := [.int ((zi wv2) + (zi 1)), .ref x]) (L2 := [some (.ref x), some (.int (zi p)), some (.int (zi zq1)), some (.int (zi rn2)), some (.int (zi k)), some (.int (zi z104)), some (.int (zi (zq105 / 2 ^ (lw).toNat)))]) (S2 := [.int (zi (wv2 + 1)), .ref x]) rfl (by simp only [zi_add, zi_sub, zi_mul, zi_neg, zi_and1, zi_and7, zi_and15, zi_and31, zi_and255]) (by simp only [zi_add, zi_sub, zi_mul, zi_neg, zi_and1, zi_and7, zi_and15, zi_and31, zi_and255]) ?_
                  refine gs_put rfl (by decide) rfl sh238 lp119c0 rfl rfl rfl rfl (Or.inl rfl) (by decide) (by omega) (by omega) (fun h250 sh250 eh250 fh250 => ?_)
                  have pr251 := gLc.pt fh250 lp119c0 (by decide) pr239
                  have s252 := (fh250 x 0 (fun q => absurd q.2 (by decide))).trans s240
                  have s253 := (fh250 x 11 (fun q => absurd q.2 (by decide))).trans s241
                  have s254 := (fh250 x 7 (fun q => absurd q.2 (by decide))).trans s242
                  have s255 := (fh250 x 8 (fun q => absurd q.2 (by decide))).trans s243
                  have s256 := (fh250 x 10 (fun q => absurd q.2 (by decide))).trans s244
                  have s257 := (fh250 x 2 (fun q => absurd q.2 (by decide))).trans s245
                  have s258 := (fh250 sk 1 (fun q => absurd q.2 (by decide))).trans s246
                  have s259 := (fh250 sk 3 (fun q => absurd q.2 (by decide))).trans s247
                  have s260 := (fh250 sk 0 (fun q => absurd q.2 (by decide))).trans s249
                  have s261 := (fh250 x 13 (fun q => absurd q.2 (by decide))).trans eh238
                  refine gy_s 3 (pc' := 19) (L' := [some (.ref x), some (.int (zi p)), some (.int (zi zq1)), some (.int (zi rn2)), some (.int ((zi k) + zi 1)), some (.int (zi z104)), some (.int (zi (zq105 / 2 ^ (lw).toNat)))]) (S' := []) (L2 := [some (.ref x), some (.int (zi p)), some (.int (zi zq1)), some (.int (zi rn2)), some (.int (zi (k + 1))), some (.int (zi z104)), some (.int (zi (zq105 / 2 ^ (lw).toNat)))]) (S2 := []) rfl (by simp only [zi_add, zi_sub, zi_mul, zi_neg, zi_and1, zi_and7, zi_and15, zi_and31, zi_and255]) (by simp only [zi_add, zi_sub, zi_mul, zi_neg, zi_and1, zi_and7, zi_and15, zi_and31, zi_and255]) ?_
                  have k262 := sh250.2.1
                  have k262b := sh250.2.2.1
                  have hl263 : h250.2.2.2.1 bv2 = h120.2.2.2.1 bv2 := congrFun sh250.2.2.2.2.1 bv2
                  have hl264 : 1024 ≤ h250.2.2.2.1 bv2 ∧ h250.2.2.2.1 bv2 ≤ 1000000 := gJ.rowl (G := gGG) sh250.1 lp119r1 rfl
                  have G265 : gSg [114] [] [56000, 56001, 56002, 56003, 71013, 71014, 80999, 114999] ty h ty121 h250 := gSg.ss lp119G sh250 (by decide)
                  exact gz_wk (ihlp20 ty121 h250 bv2 rn2 (k + 1) cv2 hv2 (wv2 + 1) (gms lp20m (by omega) (by omega)) G265 lp119u lp119c0 lp119c1 s260 lp119r1 ⟨by omega, by omega⟩ ⟨by omega, by omega⟩ ⟨by omega, by omega⟩ ⟨by omega, by omega⟩ ⟨by omega, by omega⟩ (by omega) (by omega) (fun hcg9 => by (try have i0 := lp119f6 hcg9); exact ⟨Int.le_antisymm (by omega) (by omega), Int.le_antisymm (by omega) (by omega)⟩) (by omega) (by omega) (by omega) (by omega) (by omega) (by omega) (by omega) s252 s253 s254 s255 s256 s258 s259 eh250 pr251) (gLw.s (gLw.s (gLw.s (gLw.s (gLw.s (gLw.n (gLw.n gLw.z)))))))
              · refine gy_icF rfl (by decide) (by decide) (by omega) (by omega) hc122 ?_
                refine gz_s 2 (pc' := 71) (L' := [some (.ref x), some (.int (zi p)), some (.int (zi zq1)), some (.int (zi rn2)), some (.int (zi k)), some (.int (zi z104)), some (.int (zi (zq105 / 2 ^ (lw).toNat)))]) (S' := [.int (zi zq1), .int (zi k)]) rfl ?_
                by_cases hc266 : (zq1 : Int) < k
                · refine gy_icT (pc' := 92) rfl (by decide) (by decide) (by omega) (by omega) hc266 ?_
                  refine gz_s 2 (pc' := 95) (L' := [some (.ref x), some (.int (zi p)), some (.int (zi zq1)), some (.int (zi rn2)), some (.int (zi k)), some (.int (zi z104)), some (.int (zi (zq105 / 2 ^ (lw).toNat)))]) (S' := [.int (zi 1), .int (zi (zq105 / 2 ^ (lw).toNat))]) rfl ?_
                  by_cases hc267 : (zq105 / 2 ^ (lw).toNat : Int) ≤ 1
                  · refine gy_icT (pc' := 129) rfl (by decide) (by decide) (by omega) (by omega) hc267 ?_
                    have hk9 := hlk (gz01 (by assumption) (by omega) (by assumption))
                    refine gy_s 7 (pc' := 137) (L' := [some (.ref x), some (.int (zi p)), some (.int (zi zq1)), some (.int (zi rn2)), some (.int (zi k)), some (.int (zi z104)), some (.int (zi (zq105 / 2 ^ (lw).toNat)))]) (S' := [.int (((zi 16) * (zi rn2)) + (zi 1)), .int (zi 1), .ref x]) (L2 := [some (.ref x), some (.int (zi p)), some (.int (zi zq1)), some (.int (zi rn2)), some (.int (zi k)), some (.int (zi z104)), some (.int (zi (zq105 / 2 ^ (lw).toNat)))]) (S2 := [.int (zi ((16 * rn2) + 1)), .int (zi 1), .ref x]) rfl (by simp only [zi_add, zi_sub, zi_mul, zi_neg, zi_and1, zi_and7, zi_and15, zi_and31, zi_and255]) (by simp only [zi_add, zi_sub, zi_mul, zi_neg, zi_and1, zi_and7, zi_and15, zi_and31, zi_and255]) ?_
                    have hl268 : h120.2.2.2.1 bv2 = h120.2.2.2.1 bv2 := congrFun sh120.2.2.2.2.1 bv2
                    refine gz_call rfl (by decide) rfl (by decide) (by decide) (gcal_of rfl rfl rfl (Nat.le_of_ble_eq_true rfl) (gJ.recv (G := gGG) sh120.1 lp119c0 rfl rfl)) (cl_putSymbol1 _ sh120.1 x lp119c0 1 ⟨by omega, by omega⟩ ((16 * rn2) + 1) ⟨by omega, by omega⟩ sk lp119k0 lp119c1 bv2 lp119r0 lp119r1 cv2 lp119k6 ⟨by omega, by omega⟩ hv2 lp119k7 ⟨by omega, by omega⟩ cg lp119k1 ⟨by omega, by omega⟩ (by omega) (by omega) lp119u) (fun q269 _ wq269 => ?_)
                    obtain ⟨pq269, oq269, hq269⟩ := q269
                    obtain ⟨tyq269, xq269, cq269_0, ttq269, fq269_0, fq269_1, ecq269_0, tcq269_0, gq269, efq269_0, afq269_0, bfq269_0, efq269_1, afq269_1, bfq269_1, uq269_0, uq269_1, uq269_2, uq269_3, uq269_4, uq269_5, uq269_6⟩ := wq269
                    dsimp only at uq269_3 uq269_4 uq269_5 uq269_6
                    refine ⟨_, gq269, ?_⟩
                    show gz gPP gGG gcn _ _ 140 [some (.ref x), some (.int (zi p)), some (.int (zi zq1)), some (.int (zi rn2)), some (.int (zi k)), some (.int (zi z104)), some (.int (zi (zq105 / 2 ^ (lw).toNat)))] [] hq269 _
                    have G270 : gSg [114] [] [56000, 56001, 56002, 56003, 71013, 71014, 80999, 114999] ty h tyq269 hq269 := gSg.tr (gSg.ss lp119G sh120 (by decide)) xq269 (by decide) (by decide) (fun x hx => by cases hx)
                    have t271 : tyq269 x = 71 := gSg.typ xq269 sh120.1 lp119c0 rfl
                    have t272 : tyq269 sk = 56 := gSg.typ xq269 sh120.1 lp119c1 rfl
                    have t273 : tyq269 c102 = 73 := gSg.typ xq269 sh120.1 lp119c2 rfl
                    have t274 : tyq269 bv2 = 114 := gSg.typ xq269 sh120.1 lp119r1 rfl
                    have hl275 : hq269.2.2.2.1 bv2 = h120.2.2.2.1 bv2 := gSg.len xq269 sh120.1 lp119r1 rfl
                    have s276 := gSg.at xq269 sh120.1 lp119c0 rfl (by decide) lp119k0
                    have s277 := gSg.at xq269 sh120.1 lp119c0 rfl (by decide) lp119k1
                    have s278 := gSg.at xq269 sh120.1 lp119c0 rfl (by decide) lp119k2
                    have s279 := gSg.at xq269 sh120.1 lp119c0 rfl (by decide) lp119k3
                    have s280 := gSg.at xq269 sh120.1 lp119c0 rfl (by decide) lp119k4
                    have s281 := gSg.at xq269 sh120.1 lp119c0 rfl (by decide) lp119k5
                    have s282 := gSg.at xq269 sh120.1 lp119c0 rfl (by decide) lp119k8
                    have pr283 := gLc.gr xq269 sh120.1 (by decide) (by decide) lp119k9
                    have uq284 := gSg.uq xq269 lp119u (by decide)
                    have sS285 : gSs rT 1027 tyq269 [56000, 56001, 56002, 56003, 71013, 71014, 80999, 114999] hq269 hq269 := gSs.rf xq269.1
                    have yq269b : 4 * fq269_0 + fq269_1 + 320 * rn2 + 310 * wv2 ≤ 4 * c0 + h0 + 320 * (k - fr) + 300 := by omega
                    have yq269m : c0 ≤ fq269_0 := by omega
                    have yq269g : 1024 * ((hq269.1 : Int) - h.1) ≤ (hq269.2.2.2.1 cq269_0 : Int) - h.2.2.2.1 bt := by omega
                    have yq269s : ((hq269.2.1 : Int) - h.2.1) ≤ 2 * ((hq269.2.2.2.1 cq269_0 : Int) - h.2.2.2.1 bt) := by omega
                    have yq269l : (h.2.2.2.1 bt : Int) ≤ (hq269.2.2.2.1 cq269_0 : Int) := by omega
                    have yq269c : cg = 1 → (fq269_0 = c0 ∧ fq269_1 = h0) := fun hcg9 => ⟨(uq269_2 hcg9).1.trans (lp119f6 hcg9).1, (uq269_2 hcg9).2.trans (lp119f6 hcg9).2⟩
                    clear lp119f4 lp119f5 lp119f9 lp119f10 lp119f11 lp119f12 lp119f6 lp119f1 lp119f2 uq269_0 uq269_1 uq269_2 uq269_3 uq269_4 uq269_5
                    refine gz_s 2 (pc' := 143) (L' := [some (.ref x), some (.int (zi p)), some (.int (zi zq1)), some (.int (zi rn2)), some (.int (zi k)), some (.int (zi z104)), some (.int (zi (zq105 / 2 ^ (lw).toNat)))]) (S' := [.int (zi z104), .ref x]) rfl ?_
                    by_cases hc286 : (0 : Int) ≤ z104
                    · refine gy_ifT (pc' := 150) rfl (by decide) (by decide) (by omega) hc286 ?_
                      refine gz_s 2 (pc' := 152) (L' := [some (.ref x), some (.int (zi p)), some (.int (zi zq1)), some (.int (zi rn2)), some (.int (zi k)), some (.int (zi z104)), some (.int (zi (zq105 / 2 ^ (lw).toNat)))]) (S' := [.int (zi 1), .int (zi 1), .ref x]) rfl ?_
                      have hl287 : hq269.2.2.2.1 cq269_0 = hq269.2.2.2.1 cq269_0 := congrFun sS285.2.2.2.2.1 cq269_0
                      refine gz_call rfl (by decide) rfl (by decide) (by decide) (gcal_of rfl rfl rfl (Nat.le_of_ble_eq_true rfl) (gJ.recv (G := gGG) sS285.1 t271 rfl rfl)) (cl_Writer_putPlain _ sS285.1 x t271 1 ⟨by omega, by omega⟩ 1 ⟨by omega, by omega⟩ sk s276 t272 cq269_0 ecq269_0 tcq269_0 fq269_0 efq269_0 ⟨by omega, by omega⟩ fq269_1 efq269_1 ⟨by omega, by omega⟩ cg s277 ⟨by omega, by omega⟩ (by omega) (by omega) uq284) (fun q288 _ wq288 => ?_)
                      obtain ⟨pq288, oq288, hq288⟩ := q288
                      obtain ⟨tyq288, xq288, cq288_0, ttq288, fq288_0, fq288_1, ecq288_0, tcq288_0, gq288, efq288_0, afq288_0, bfq288_0, efq288_1, afq288_1, bfq288_1, uq288_0, uq288_1, uq288_2, uq288_3, uq288_4, uq288_5, uq288_6⟩ := wq288
                      dsimp only at uq288_3 uq288_4 uq288_5 uq288_6
                      refine ⟨_, gq288, ?_⟩
                      show gz gPP gGG gcn _ _ 155 [some (.ref x), some (.int (zi p)), some (.int (zi zq1)), some (.int (zi rn2)), some (.int (zi k)), some (.int (zi z104)), some (.int (zi (zq105 / 2 ^ (lw).toNat)))] [] hq288 _
                      have G289 : gSg [114] [] [56000, 56001, 56002, 56003, 71013, 71014, 80999, 114999] ty h tyq288 hq288 := gSg.tr (gSg.ss G270 sS285 (by decide)) xq288 (by decide) (by decide) (fun x hx => by cases hx)
                      have t290 : tyq288 x = 71 := gSg.typ xq288 sS285.1 t271 rfl
                      have t291 : tyq288 sk = 56 := gSg.typ xq288 sS285.1 t272 rfl
                      have t292 : tyq288 c102 = 73 := gSg.typ xq288 sS285.1 t273 rfl
                      have t293 : tyq288 bv2 = 114 := gSg.typ xq288 sS285.1 t274 rfl
                      have hl294 : hq288.2.2.2.1 bv2 = hq269.2.2.2.1 bv2 := gSg.len xq288 sS285.1 t274 rfl
                      have t295 : tyq288 cq269_0 = 114 := gSg.typ xq288 sS285.1 tcq269_0 rfl
                      have hl296 : hq288.2.2.2.1 cq269_0 = hq269.2.2.2.1 cq269_0 := gSg.len xq288 sS285.1 tcq269_0 rfl
                      have s297 := gSg.at xq288 sS285.1 t271 rfl (by decide) s276
                      have s298 := gSg.at xq288 sS285.1 t271 rfl (by decide) s277
                      have s299 := gSg.at xq288 sS285.1 t271 rfl (by decide) s278
                      have s300 := gSg.at xq288 sS285.1 t271 rfl (by decide) s279
                      have s301 := gSg.at xq288 sS285.1 t271 rfl (by decide) s280
                      have s302 := gSg.at xq288 sS285.1 t271 rfl (by decide) s281
                      have s303 := gSg.at xq288 sS285.1 t271 rfl (by decide) s282
                      have pr304 := gLc.gr xq288 sS285.1 (by decide) (by decide) pr283
                      have uq305 := gSg.uq xq288 uq284 (by decide)
                      have sS306 : gSs rT 1027 tyq288 [56000, 56001, 56002, 56003, 71013, 71014, 80999, 114999] hq288 hq288 := gSs.rf xq288.1
                      have yq288b : 4 * fq288_0 + fq288_1 + 320 * rn2 + 310 * wv2 ≤ 4 * c0 + h0 + 320 * (k - fr) + 300 + 1 := by omega
                      have yq288m : c0 ≤ fq288_0 := by omega
                      have yq288g : 1024 * ((hq288.1 : Int) - h.1) ≤ (hq288.2.2.2.1 cq288_0 : Int) - h.2.2.2.1 bt := by omega
                      have yq288s : ((hq288.2.1 : Int) - h.2.1) ≤ 2 * ((hq288.2.2.2.1 cq288_0 : Int) - h.2.2.2.1 bt) := by omega
                      have yq288l : (h.2.2.2.1 bt : Int) ≤ (hq288.2.2.2.1 cq288_0 : Int) := by omega
                      have yq288c : cg = 1 → (fq288_0 = c0 ∧ fq288_1 = h0) := fun hcg9 => ⟨(uq288_2 hcg9).1.trans (yq269c hcg9).1, (uq288_2 hcg9).2.trans (yq269c hcg9).2⟩
                      clear yq269b yq269m yq269g yq269s yq269l uq269_6 yq269c afq269_0 bfq269_0 afq269_1 bfq269_1 uq288_0 uq288_1 uq288_2 uq288_3 uq288_4 uq288_5
                      refine gz_s 1 (pc' := 156) (L' := [some (.ref x), some (.int (zi p)), some (.int (zi zq1)), some (.int (zi rn2)), some (.int (zi k)), some (.int (zi z104)), some (.int (zi (zq105 / 2 ^ (lw).toNat)))]) (S' := [.ref x]) rfl ?_
                      have hl307 : hq288.2.2.2.1 cq288_0 = hq288.2.2.2.1 cq288_0 := congrFun sS306.2.2.2.2.1 cq288_0
                      refine gz_call rfl (by decide) rfl (by decide) (by decide) (gcal_of rfl rfl rfl (Nat.le_of_ble_eq_true rfl) (gJ.recv (G := gGG) sS306.1 t290 rfl rfl)) (cl_Writer_putWaiting _ sS306.1 x t290 sk s297 t291 cq288_0 ecq288_0 tcq288_0 fq288_0 efq288_0 ⟨by omega, by omega⟩ fq288_1 efq288_1 ⟨by omega, by omega⟩ cg s298 ⟨by omega, by omega⟩ wv2 s303 ⟨by omega, by omega⟩ (by omega) (by omega) uq305) (fun q308 _ wq308 => ?_)
                      obtain ⟨pq308, oq308, hq308⟩ := q308
                      obtain ⟨tyq308, xq308, cq308_0, ttq308, fq308_0, fq308_1, fq308_2, ecq308_0, tcq308_0, gq308, efq308_0, afq308_0, bfq308_0, efq308_1, afq308_1, bfq308_1, efq308_2, afq308_2, bfq308_2, uq308_0, uq308_1, uq308_2, uq308_3, uq308_4, uq308_5, uq308_6, uq308_7⟩ := wq308
                      dsimp only at uq308_3 uq308_4 uq308_5 uq308_7
                      refine ⟨_, gq308, ?_⟩
                      show gz gPP gGG gcn _ _ 159 [some (.ref x), some (.int (zi p)), some (.int (zi zq1)), some (.int (zi rn2)), some (.int (zi k)), some (.int (zi z104)), some (.int (zi (zq105 / 2 ^ (lw).toNat)))] [] hq308 _
                      have G309 : gSg [114] [] [56000, 56001, 56002, 56003, 71013, 71014, 80999, 114999] ty h tyq308 hq308 := gSg.tr (gSg.ss G289 sS306 (by decide)) xq308 (by decide) (by decide) (fun x hx => by cases hx)
                      have t310 : tyq308 x = 71 := gSg.typ xq308 sS306.1 t290 rfl
                      have t311 : tyq308 sk = 56 := gSg.typ xq308 sS306.1 t291 rfl
                      have t312 : tyq308 c102 = 73 := gSg.typ xq308 sS306.1 t292 rfl
                      have t313 : tyq308 bv2 = 114 := gSg.typ xq308 sS306.1 t293 rfl
                      have hl314 : hq308.2.2.2.1 bv2 = hq288.2.2.2.1 bv2 := gSg.len xq308 sS306.1 t293 rfl
                      have t315 : tyq308 cq269_0 = 114 := gSg.typ xq308 sS306.1 t295 rfl
                      have hl316 : hq308.2.2.2.1 cq269_0 = hq288.2.2.2.1 cq269_0 := gSg.len xq308 sS306.1 t295 rfl
                      have t317 : tyq308 cq288_0 = 114 := gSg.typ xq308 sS306.1 tcq288_0 rfl
                      have hl318 : hq308.2.2.2.1 cq288_0 = hq288.2.2.2.1 cq288_0 := gSg.len xq308 sS306.1 tcq288_0 rfl
                      have s319 := gSg.at xq308 sS306.1 t290 rfl (by decide) s297
                      have s320 := gSg.at xq308 sS306.1 t290 rfl (by decide) s298
                      have s321 := gSg.at xq308 sS306.1 t290 rfl (by decide) s299
                      have s322 := gSg.at xq308 sS306.1 t290 rfl (by decide) s300
                      have s323 := gSg.at xq308 sS306.1 t290 rfl (by decide) s301
                      have s324 := gSg.at xq308 sS306.1 t290 rfl (by decide) s302
                      have pr325 := gLc.gr xq308 sS306.1 (by decide) (by decide) pr304
                      have uq326 := gSg.uq xq308 uq305 (by decide)
                      have sS327 : gSs rT 1027 tyq308 [56000, 56001, 56002, 56003, 71013, 71014, 80999, 114999] hq308 hq308 := gSs.rf xq308.1
                      have yq308b : 4 * fq308_0 + fq308_1 + 320 * rn2 + 310 * wv2 ≤ 4 * c0 + h0 + 320 * (k - fr) + 300 + 1 + wv2 := by omega
                      have yq308m : c0 ≤ fq308_0 := by omega
                      have yq308g : 1024 * ((hq308.1 : Int) - h.1) ≤ (hq308.2.2.2.1 cq308_0 : Int) - h.2.2.2.1 bt := by omega
                      have yq308s : ((hq308.2.1 : Int) - h.2.1) ≤ 2 * ((hq308.2.2.2.1 cq308_0 : Int) - h.2.2.2.1 bt) := by omega
                      have yq308l : (h.2.2.2.1 bt : Int) ≤ (hq308.2.2.2.1 cq308_0 : Int) := by omega
                      have yq308c : cg = 1 → (fq308_0 = c0 ∧ fq308_1 = h0) := fun hcg9 => ⟨(uq308_2 hcg9).1.trans (yq288c hcg9).1, (uq308_2 hcg9).2.trans (yq288c hcg9).2⟩
                      clear yq288b yq288m yq288g yq288s yq288l uq288_6 yq288c afq288_0 bfq288_0 afq288_1 bfq288_1 uq308_0 uq308_1 uq308_2 uq308_3 uq308_4 uq308_5
                      refine gy_s 4 (pc' := 19) (L' := [some (.ref x), some (.int (zi p)), some (.int (zi zq1)), some (.int (zi 0)), some (.int ((zi k) + zi 1)), some (.int (zi z104)), some (.int (zi (zq105 / 2 ^ (lw).toNat)))]) (S' := []) (L2 := [some (.ref x), some (.int (zi p)), some (.int (zi zq1)), some (.int (zi 0)), some (.int (zi (k + 1))), some (.int (zi z104)), some (.int (zi (zq105 / 2 ^ (lw).toNat)))]) (S2 := []) rfl (by simp only [zi_add, zi_sub, zi_mul, zi_neg, zi_and1, zi_and7, zi_and15, zi_and31, zi_and255]) (by simp only [zi_add, zi_sub, zi_mul, zi_neg, zi_and1, zi_and7, zi_and15, zi_and31, zi_and255]) ?_
                      have hl328 : 1024 ≤ hq308.2.2.2.1 bv2 ∧ hq308.2.2.2.1 bv2 ≤ 1000000 := gJ.rowl (G := gGG) sS327.1 t313 rfl
                      have hl329 : 1024 ≤ hq308.2.2.2.1 cq269_0 ∧ hq308.2.2.2.1 cq269_0 ≤ 1000000 := gJ.rowl (G := gGG) sS327.1 t315 rfl
                      have hl330 : 1024 ≤ hq308.2.2.2.1 cq288_0 ∧ hq308.2.2.2.1 cq288_0 ≤ 1000000 := gJ.rowl (G := gGG) sS327.1 t317 rfl
                      have hl331 : 1024 ≤ hq308.2.2.2.1 cq308_0 ∧ hq308.2.2.2.1 cq308_0 ≤ 1000000 := gJ.rowl (G := gGG) sS327.1 tcq308_0 rfl
                      have G332 : gSg [114] [] [56000, 56001, 56002, 56003, 71013, 71014, 80999, 114999] ty h tyq308 hq308 := gSg.ss G309 sS327 (by decide)
                      exact gz_wk (ihlp20 tyq308 hq308 cq308_0 0 (k + 1) fq308_0 fq308_1 fq308_2 (gms lp20m (by omega) (by omega)) G332 uq326 t310 t311 ecq308_0 tcq308_0 ⟨by omega, by omega⟩ ⟨by omega, by omega⟩ ⟨by omega, by omega⟩ ⟨by omega, by omega⟩ ⟨by omega, by omega⟩ (by omega) (by omega) (fun hcg9 => by (try have i0 := yq308c hcg9); exact ⟨Int.le_antisymm (by omega) (by omega), Int.le_antisymm (by omega) (by omega)⟩) (by omega) (by omega) (by omega) (by omega) (by omega) (by omega) (by omega) s319 s320 s321 s322 s323 efq308_0 efq308_1 efq308_2 pr325) (gLw.s (gLw.s (gLw.s (gLw.s (gLw.s (gLw.n (gLw.n gLw.z)))))))
                    · refine gy_ifF rfl (by decide) (by decide) (by omega) hc286 ?_
                      refine gz_s 3 (pc' := 152) (L' := [some (.ref x), some (.int (zi p)), some (.int (zi zq1)), some (.int (zi rn2)), some (.int (zi k)), some (.int (zi z104)), some (.int (zi (zq105 / 2 ^ (lw).toNat)))]) (S' := [.int (zi 1), .int (zi 0), .ref x]) rfl ?_
                      have hl333 : hq269.2.2.2.1 cq269_0 = hq269.2.2.2.1 cq269_0 := congrFun sS285.2.2.2.2.1 cq269_0
                      refine gz_call rfl (by decide) rfl (by decide) (by decide) (gcal_of rfl rfl rfl (Nat.le_of_ble_eq_true rfl) (gJ.recv (G := gGG) sS285.1 t271 rfl rfl)) (cl_Writer_putPlain _ sS285.1 x t271 0 ⟨by omega, by omega⟩ 1 ⟨by omega, by omega⟩ sk s276 t272 cq269_0 ecq269_0 tcq269_0 fq269_0 efq269_0 ⟨by omega, by omega⟩ fq269_1 efq269_1 ⟨by omega, by omega⟩ cg s277 ⟨by omega, by omega⟩ (by omega) (by omega) uq284) (fun q334 _ wq334 => ?_)
                      obtain ⟨pq334, oq334, hq334⟩ := q334
                      obtain ⟨tyq334, xq334, cq334_0, ttq334, fq334_0, fq334_1, ecq334_0, tcq334_0, gq334, efq334_0, afq334_0, bfq334_0, efq334_1, afq334_1, bfq334_1, uq334_0, uq334_1, uq334_2, uq334_3, uq334_4, uq334_5, uq334_6⟩ := wq334
                      dsimp only at uq334_3 uq334_4 uq334_5 uq334_6
                      refine ⟨_, gq334, ?_⟩
                      show gz gPP gGG gcn _ _ 155 [some (.ref x), some (.int (zi p)), some (.int (zi zq1)), some (.int (zi rn2)), some (.int (zi k)), some (.int (zi z104)), some (.int (zi (zq105 / 2 ^ (lw).toNat)))] [] hq334 _
                      have G335 : gSg [114] [] [56000, 56001, 56002, 56003, 71013, 71014, 80999, 114999] ty h tyq334 hq334 := gSg.tr (gSg.ss G270 sS285 (by decide)) xq334 (by decide) (by decide) (fun x hx => by cases hx)
                      have t336 : tyq334 x = 71 := gSg.typ xq334 sS285.1 t271 rfl
                      have t337 : tyq334 sk = 56 := gSg.typ xq334 sS285.1 t272 rfl
                      have t338 : tyq334 c102 = 73 := gSg.typ xq334 sS285.1 t273 rfl
                      have t339 : tyq334 bv2 = 114 := gSg.typ xq334 sS285.1 t274 rfl
                      have hl340 : hq334.2.2.2.1 bv2 = hq269.2.2.2.1 bv2 := gSg.len xq334 sS285.1 t274 rfl
                      have t341 : tyq334 cq269_0 = 114 := gSg.typ xq334 sS285.1 tcq269_0 rfl
                      have hl342 : hq334.2.2.2.1 cq269_0 = hq269.2.2.2.1 cq269_0 := gSg.len xq334 sS285.1 tcq269_0 rfl
                      have s343 := gSg.at xq334 sS285.1 t271 rfl (by decide) s276
                      have s344 := gSg.at xq334 sS285.1 t271 rfl (by decide) s277
                      have s345 := gSg.at xq334 sS285.1 t271 rfl (by decide) s278
                      have s346 := gSg.at xq334 sS285.1 t271 rfl (by decide) s279
                      have s347 := gSg.at xq334 sS285.1 t271 rfl (by decide) s280
                      have s348 := gSg.at xq334 sS285.1 t271 rfl (by decide) s281
                      have s349 := gSg.at xq334 sS285.1 t271 rfl (by decide) s282
                      have pr350 := gLc.gr xq334 sS285.1 (by decide) (by decide) pr283
                      have uq351 := gSg.uq xq334 uq284 (by decide)
                      have sS352 : gSs rT 1027 tyq334 [56000, 56001, 56002, 56003, 71013, 71014, 80999, 114999] hq334 hq334 := gSs.rf xq334.1
                      have yq334b : 4 * fq334_0 + fq334_1 + 320 * rn2 + 310 * wv2 ≤ 4 * c0 + h0 + 320 * (k - fr) + 300 + 1 := by omega
                      have yq334m : c0 ≤ fq334_0 := by omega
                      have yq334g : 1024 * ((hq334.1 : Int) - h.1) ≤ (hq334.2.2.2.1 cq334_0 : Int) - h.2.2.2.1 bt := by omega
                      have yq334s : ((hq334.2.1 : Int) - h.2.1) ≤ 2 * ((hq334.2.2.2.1 cq334_0 : Int) - h.2.2.2.1 bt) := by omega
                      have yq334l : (h.2.2.2.1 bt : Int) ≤ (hq334.2.2.2.1 cq334_0 : Int) := by omega
                      have yq334c : cg = 1 → (fq334_0 = c0 ∧ fq334_1 = h0) := fun hcg9 => ⟨(uq334_2 hcg9).1.trans (yq269c hcg9).1, (uq334_2 hcg9).2.trans (yq269c hcg9).2⟩
                      clear yq269b yq269m yq269g yq269s yq269l uq269_6 yq269c afq269_0 bfq269_0 afq269_1 bfq269_1 uq334_0 uq334_1 uq334_2 uq334_3 uq334_4 uq334_5
                      refine gz_s 1 (pc' := 156) (L' := [some (.ref x), some (.int (zi p)), some (.int (zi zq1)), some (.int (zi rn2)), some (.int (zi k)), some (.int (zi z104)), some (.int (zi (zq105 / 2 ^ (lw).toNat)))]) (S' := [.ref x]) rfl ?_
                      have hl353 : hq334.2.2.2.1 cq334_0 = hq334.2.2.2.1 cq334_0 := congrFun sS352.2.2.2.2.1 cq334_0
                      refine gz_call rfl (by decide) rfl (by decide) (by decide) (gcal_of rfl rfl rfl (Nat.le_of_ble_eq_true rfl) (gJ.recv (G := gGG) sS352.1 t336 rfl rfl)) (cl_Writer_putWaiting _ sS352.1 x t336 sk s343 t337 cq334_0 ecq334_0 tcq334_0 fq334_0 efq334_0 ⟨by omega, by omega⟩ fq334_1 efq334_1 ⟨by omega, by omega⟩ cg s344 ⟨by omega, by omega⟩ wv2 s349 ⟨by omega, by omega⟩ (by omega) (by omega) uq351) (fun q354 _ wq354 => ?_)
                      obtain ⟨pq354, oq354, hq354⟩ := q354
                      obtain ⟨tyq354, xq354, cq354_0, ttq354, fq354_0, fq354_1, fq354_2, ecq354_0, tcq354_0, gq354, efq354_0, afq354_0, bfq354_0, efq354_1, afq354_1, bfq354_1, efq354_2, afq354_2, bfq354_2, uq354_0, uq354_1, uq354_2, uq354_3, uq354_4, uq354_5, uq354_6, uq354_7⟩ := wq354
                      dsimp only at uq354_3 uq354_4 uq354_5 uq354_7
                      refine ⟨_, gq354, ?_⟩
                      show gz gPP gGG gcn _ _ 159 [some (.ref x), some (.int (zi p)), some (.int (zi zq1)), some (.int (zi rn2)), some (.int (zi k)), some (.int (zi z104)), some (.int (zi (zq105 / 2 ^ (lw).toNat)))] [] hq354 _
                      have G355 : gSg [114] [] [56000, 56001, 56002, 56003, 71013, 71014, 80999, 114999] ty h tyq354 hq354 := gSg.tr (gSg.ss G335 sS352 (by decide)) xq354 (by decide) (by decide) (fun x hx => by cases hx)
                      have t356 : tyq354 x = 71 := gSg.typ xq354 sS352.1 t336 rfl
                      have t357 : tyq354 sk = 56 := gSg.typ xq354 sS352.1 t337 rfl
                      have t358 : tyq354 c102 = 73 := gSg.typ xq354 sS352.1 t338 rfl
                      have t359 : tyq354 bv2 = 114 := gSg.typ xq354 sS352.1 t339 rfl
                      have hl360 : hq354.2.2.2.1 bv2 = hq334.2.2.2.1 bv2 := gSg.len xq354 sS352.1 t339 rfl
                      have t361 : tyq354 cq269_0 = 114 := gSg.typ xq354 sS352.1 t341 rfl
                      have hl362 : hq354.2.2.2.1 cq269_0 = hq334.2.2.2.1 cq269_0 := gSg.len xq354 sS352.1 t341 rfl
                      have t363 : tyq354 cq334_0 = 114 := gSg.typ xq354 sS352.1 tcq334_0 rfl
                      have hl364 : hq354.2.2.2.1 cq334_0 = hq334.2.2.2.1 cq334_0 := gSg.len xq354 sS352.1 tcq334_0 rfl
                      have s365 := gSg.at xq354 sS352.1 t336 rfl (by decide) s343
                      have s366 := gSg.at xq354 sS352.1 t336 rfl (by decide) s344
                      have s367 := gSg.at xq354 sS352.1 t336 rfl (by decide) s345
                      have s368 := gSg.at xq354 sS352.1 t336 rfl (by decide) s346
                      have s369 := gSg.at xq354 sS352.1 t336 rfl (by decide) s347
                      have s370 := gSg.at xq354 sS352.1 t336 rfl (by decide) s348
                      have pr371 := gLc.gr xq354 sS352.1 (by decide) (by decide) pr350
                      have uq372 := gSg.uq xq354 uq351 (by decide)
                      have sS373 : gSs rT 1027 tyq354 [56000, 56001, 56002, 56003, 71013, 71014, 80999, 114999] hq354 hq354 := gSs.rf xq354.1
                      have yq354b : 4 * fq354_0 + fq354_1 + 320 * rn2 + 310 * wv2 ≤ 4 * c0 + h0 + 320 * (k - fr) + 300 + 1 + wv2 := by omega
                      have yq354m : c0 ≤ fq354_0 := by omega
                      have yq354g : 1024 * ((hq354.1 : Int) - h.1) ≤ (hq354.2.2.2.1 cq354_0 : Int) - h.2.2.2.1 bt := by omega
                      have yq354s : ((hq354.2.1 : Int) - h.2.1) ≤ 2 * ((hq354.2.2.2.1 cq354_0 : Int) - h.2.2.2.1 bt) := by omega
                      have yq354l : (h.2.2.2.1 bt : Int) ≤ (hq354.2.2.2.1 cq354_0 : Int) := by omega
                      have yq354c : cg = 1 → (fq354_0 = c0 ∧ fq354_1 = h0) := fun hcg9 => ⟨(uq354_2 hcg9).1.trans (yq334c hcg9).1, (uq354_2 hcg9).2.trans (yq334c hcg9).2⟩
                      clear yq334b yq334m yq334g yq334s yq334l uq334_6 yq334c afq334_0 bfq334_0 afq334_1 bfq334_1 uq354_0 uq354_1 uq354_2 uq354_3 uq354_4 uq354_5
                      refine gy_s 4 (pc' := 19) (L' := [some (.ref x), some (.int (zi p)), some (.int (zi zq1)), some (.int (zi 0)), some (.int ((zi k) + zi 1)), some (.int (zi z104)), some (.int (zi (zq105 / 2 ^ (lw).toNat)))]) (S' := []) (L2 := [some (.ref x), some (.int (zi p)), some (.int (zi zq1)), some (.int (zi 0)), some (.int (zi (k + 1))), some (.int (zi z104)), some (.int (zi (zq105 / 2 ^ (lw).toNat)))]) (S2 := []) rfl (by simp only [zi_add, zi_sub, zi_mul, zi_neg, zi_and1, zi_and7, zi_and15, zi_and31, zi_and255]) (by simp only [zi_add, zi_sub, zi_mul, zi_neg, zi_and1, zi_and7, zi_and15, zi_and31, zi_and255]) ?_
                      have hl374 : 1024 ≤ hq354.2.2.2.1 bv2 ∧ hq354.2.2.2.1 bv2 ≤ 1000000 := gJ.rowl (G := gGG) sS373.1 t359 rfl
                      have hl375 : 1024 ≤ hq354.2.2.2.1 cq269_0 ∧ hq354.2.2.2.1 cq269_0 ≤ 1000000 := gJ.rowl (G := gGG) sS373.1 t361 rfl
                      have hl376 : 1024 ≤ hq354.2.2.2.1 cq334_0 ∧ hq354.2.2.2.1 cq334_0 ≤ 1000000 := gJ.rowl (G := gGG) sS373.1 t363 rfl
                      have hl377 : 1024 ≤ hq354.2.2.2.1 cq354_0 ∧ hq354.2.2.2.1 cq354_0 ≤ 1000000 := gJ.rowl (G := gGG) sS373.1 tcq354_0 rfl
                      have G378 : gSg [114] [] [56000, 56001, 56002, 56003, 71013, 71014, 80999, 114999] ty h tyq354 hq354 := gSg.ss G355 sS373 (by decide)
                      exact gz_wk (ihlp20 tyq354 hq354 cq354_0 0 (k + 1) fq354_0 fq354_1 fq354_2 (gms lp20m (by omega) (by omega)) G378 uq372 t356 t357 ecq354_0 tcq354_0 ⟨by omega, by omega⟩ ⟨by omega, by omega⟩ ⟨by omega, by omega⟩ ⟨by omega, by omega⟩ ⟨by omega, by omega⟩ (by omega) (by omega) (fun hcg9 => by (try have i0 := yq354c hcg9); exact ⟨Int.le_antisymm (by omega) (by omega), Int.le_antisymm (by omega) (by omega)⟩) (by omega) (by omega) (by omega) (by omega) (by omega) (by omega) (by omega) s365 s366 s367 s368 s369 efq354_0 efq354_1 efq354_2 pr371) (gLw.s (gLw.s (gLw.s (gLw.s (gLw.s (gLw.n (gLw.n gLw.z)))))))
                  · refine gy_icF rfl (by decide) (by decide) (by omega) (by omega) hc267 ?_
                    refine gz_s 1 (pc' := 99) (L' := [some (.ref x), some (.int (zi p)), some (.int (zi zq1)), some (.int (zi rn2)), some (.int (zi k)), some (.int (zi z104)), some (.int (zi (zq105 / 2 ^ (lw).toNat)))]) (S' := [.ref x]) rfl ?_
                    refine gz_1 rfl (by decide) rfl rfl (pc' := 102) (S' := [.long (zl 2), .ref x]) (h' := h120) rfl ?_
                    refine gz_s 1 (pc' := 103) (L' := [some (.ref x), some (.int (zi p)), some (.int (zi zq1)), some (.int (zi rn2)), some (.int (zi k)), some (.int (zi z104)), some (.int (zi (zq105 / 2 ^ (lw).toNat)))]) (S' := [.ref x, .long (zl 2), .ref x]) rfl ?_
                    refine gs_getl rfl (by decide) rfl sh120.1 lp119c0 rfl rfl rfl (fun z379 ez379 az379 bz379 => ?_)
                    refine gy_s 1 (pc' := 107) (L' := [some (.ref x), some (.int (zi p)), some (.int (zi zq1)), some (.int (zi rn2)), some (.int (zi k)), some (.int (zi z104)), some (.int (zi (zq105 / 2 ^ (lw).toNat)))]) (S' := [.long ((zl 2) * (zl z379)), .ref x]) (L2 := [some (.ref x), some (.int (zi p)), some (.int (zi zq1)), some (.int (zi rn2)), some (.int (zi k)), some (.int (zi z104)), some (.int (zi (zq105 / 2 ^ (lw).toNat)))]) (S2 := [.long (zl (2 * z379)), .ref x]) rfl (by simp only [zi_add, zi_sub, zi_mul, zi_neg, zi_and1, zi_and7, zi_and15, zi_and31, zi_and255, zl_add, zl_sub, zl_mul, zl_neg]) (by simp only [zi_add, zi_sub, zi_mul, zi_neg, zi_and1, zi_and7, zi_and15, zi_and31, zi_and255, zl_add, zl_sub, zl_mul, zl_neg]) ?_
                    refine gy_lany (fun z380 ez380 az380 bz380 => ?_)
                    refine gy_s 3 (pc' := 111) (L' := [some (.ref x), some (.int (zi p)), some (.int (zi zq1)), some (.int (zi rn2)), some (.int (zi k)), some (.int (zi z104)), some (.int (zi (zq105 / 2 ^ (lw).toNat)))]) (S' := [.int ((zi (zq105 / 2 ^ (lw).toNat)) &&& (zi 1)), .long (zl z380), .ref x]) (L2 := [some (.ref x), some (.int (zi p)), some (.int (zi zq1)), some (.int (zi rn2)), some (.int (zi k)), some (.int (zi z104)), some (.int (zi (zq105 / 2 ^ (lw).toNat)))]) (S2 := [.int (zi ((zq105 / 2 ^ (lw).toNat) % 2)), .long (zl z380), .ref x]) rfl (by simp only [zi_add, zi_sub, zi_mul, zi_neg, zi_and1, zi_and7, zi_and15, zi_and31, zi_and255, zl_add, zl_sub, zl_mul, zl_neg]) (by simp only [zi_add, zi_sub, zi_mul, zi_neg, zi_and1, zi_and7, zi_and15, zi_and31, zi_and255, zl_add, zl_sub, zl_mul, zl_neg]) ?_
                    refine gy_i2l rfl (by decide) ⟨by omega, by omega⟩ ?_
                    refine gy_s 1 (pc' := 113) (L' := [some (.ref x), some (.int (zi p)), some (.int (zi zq1)), some (.int (zi rn2)), some (.int (zi k)), some (.int (zi z104)), some (.int (zi (zq105 / 2 ^ (lw).toNat)))]) (S' := [.long ((zl z380) + (zl ((zq105 / 2 ^ (lw).toNat) % 2))), .ref x]) (L2 := [some (.ref x), some (.int (zi p)), some (.int (zi zq1)), some (.int (zi rn2)), some (.int (zi k)), some (.int (zi z104)), some (.int (zi (zq105 / 2 ^ (lw).toNat)))]) (S2 := [.long (zl (z380 + ((zq105 / 2 ^ (lw).toNat) % 2))), .ref x]) rfl (by simp only [zi_add, zi_sub, zi_mul, zi_neg, zi_and1, zi_and7, zi_and15, zi_and31, zi_and255, zl_add, zl_sub, zl_mul, zl_neg]) (by simp only [zi_add, zi_sub, zi_mul, zi_neg, zi_and1, zi_and7, zi_and15, zi_and31, zi_and255, zl_add, zl_sub, zl_mul, zl_neg]) ?_
                    refine gy_lany (fun z381 ez381 az381 bz381 => ?_)
                    refine gs_putl rfl (by decide) rfl sh120 lp119c0 rfl rfl rfl rfl (Or.inl rfl) (by decide) (by omega) (by omega) (fun h382 sh382 eh382 fh382 => ?_)
                    have pr383 := gLc.pt fh382 lp119c0 (by decide) lp119k9
                    have s384 := (fh382 x 0 (fun q => absurd q.2 (by decide))).trans lp119k0
                    have s385 := (fh382 x 11 (fun q => absurd q.2 (by decide))).trans lp119k1
                    have s386 := (fh382 x 7 (fun q => absurd q.2 (by decide))).trans lp119k2
                    have s387 := (fh382 x 8 (fun q => absurd q.2 (by decide))).trans lp119k3
                    have s388 := (fh382 x 10 (fun q => absurd q.2 (by decide))).trans lp119k4
                    have s389 := (fh382 x 2 (fun q => absurd q.2 (by decide))).trans lp119k5
                    have s390 := (fh382 sk 1 (fun q => absurd q.2 (by decide))).trans lp119k6
                    have s391 := (fh382 sk 3 (fun q => absurd q.2 (by decide))).trans lp119k7
                    have s392 := (fh382 x 14 (fun q => absurd q.2 (by decide))).trans lp119k8
                    have s393 := (fh382 sk 0 (fun q => absurd q.2 (by decide))).trans lp119r0
                    refine gz_s 2 (pc' := 118) (L' := [some (.ref x), some (.int (zi p)), some (.int (zi zq1)), some (.int (zi rn2)), some (.int (zi k)), some (.int (zi z104)), some (.int (zi (zq105 / 2 ^ (lw).toNat)))]) (S' := [.ref x, .ref x]) rfl ?_
                    refine gs_gtk rfl (by decide) rfl sh382.1 lp119c0 rfl rfl s392 ?_
                    refine gy_s 2 (pc' := 123) (L' := [some (.ref x), some (.int (zi p)), some (.int (zi zq1)), some (.int (zi rn2)), some (.int (zi k)), some (.int (zi z104)), some (.int (zi (zq105 / 2 ^ (lw).toNat)))]) (S' := [.int ((zi wv2) + (zi 1)), .ref x]) (L2 := [some (.ref x), some (.int (zi p)), some (.int (zi zq1)), some (.int (zi rn2)), some (.int (zi k)), some (.int (zi z104)), some (.int (zi (zq105 / 2 ^ (lw).toNat)))]) (S2 := [.int (zi (wv2 + 1)), .ref x]) rfl (by simp only [zi_add, zi_sub, zi_mul, zi_neg, zi_and1, zi_and7, zi_and15, zi_and31, zi_and255]) (by simp only [zi_add, zi_sub, zi_mul, zi_neg, zi_and1, zi_and7, zi_and15, zi_and31, zi_and255]) ?_
                    refine gs_put rfl (by decide) rfl sh382 lp119c0 rfl rfl rfl rfl (Or.inl rfl) (by decide) (by omega) (by omega) (fun h394 sh394 eh394 fh394 => ?_)
                    have pr395 := gLc.pt fh394 lp119c0 (by decide) pr383
                    have s396 := (fh394 x 0 (fun q => absurd q.2 (by decide))).trans s384
                    have s397 := (fh394 x 11 (fun q => absurd q.2 (by decide))).trans s385
                    have s398 := (fh394 x 7 (fun q => absurd q.2 (by decide))).trans s386
                    have s399 := (fh394 x 8 (fun q => absurd q.2 (by decide))).trans s387
                    have s400 := (fh394 x 10 (fun q => absurd q.2 (by decide))).trans s388
                    have s401 := (fh394 x 2 (fun q => absurd q.2 (by decide))).trans s389
                    have s402 := (fh394 sk 1 (fun q => absurd q.2 (by decide))).trans s390
                    have s403 := (fh394 sk 3 (fun q => absurd q.2 (by decide))).trans s391
                    have s404 := (fh394 sk 0 (fun q => absurd q.2 (by decide))).trans s393
                    have s405 := (fh394 x 13 (fun q => absurd q.2 (by decide))).trans eh382
                    refine gy_s 3 (pc' := 19) (L' := [some (.ref x), some (.int (zi p)), some (.int (zi zq1)), some (.int (zi rn2)), some (.int ((zi k) + zi 1)), some (.int (zi z104)), some (.int (zi (zq105 / 2 ^ (lw).toNat)))]) (S' := []) (L2 := [some (.ref x), some (.int (zi p)), some (.int (zi zq1)), some (.int (zi rn2)), some (.int (zi (k + 1))), some (.int (zi z104)), some (.int (zi (zq105 / 2 ^ (lw).toNat)))]) (S2 := []) rfl (by simp only [zi_add, zi_sub, zi_mul, zi_neg, zi_and1, zi_and7, zi_and15, zi_and31, zi_and255]) (by simp only [zi_add, zi_sub, zi_mul, zi_neg, zi_and1, zi_and7, zi_and15, zi_and31, zi_and255]) ?_
                    have k406 := sh394.2.1
                    have k406b := sh394.2.2.1
                    have hl407 : h394.2.2.2.1 bv2 = h120.2.2.2.1 bv2 := congrFun sh394.2.2.2.2.1 bv2
                    have hl408 : 1024 ≤ h394.2.2.2.1 bv2 ∧ h394.2.2.2.1 bv2 ≤ 1000000 := gJ.rowl (G := gGG) sh394.1 lp119r1 rfl
                    have G409 : gSg [114] [] [56000, 56001, 56002, 56003, 71013, 71014, 80999, 114999] ty h ty121 h394 := gSg.ss lp119G sh394 (by decide)
                    exact gz_wk (ihlp20 ty121 h394 bv2 rn2 (k + 1) cv2 hv2 (wv2 + 1) (gms lp20m (by omega) (by omega)) G409 lp119u lp119c0 lp119c1 s404 lp119r1 ⟨by omega, by omega⟩ ⟨by omega, by omega⟩ ⟨by omega, by omega⟩ ⟨by omega, by omega⟩ ⟨by omega, by omega⟩ (by omega) (by omega) (fun hcg9 => by (try have i0 := lp119f6 hcg9); exact ⟨Int.le_antisymm (by omega) (by omega), Int.le_antisymm (by omega) (by omega)⟩) (by omega) (by omega) (by omega) (by omega) (by omega) (by omega) (by omega) s396 s397 s398 s399 s400 s402 s403 eh394 pr395) (gLw.s (gLw.s (gLw.s (gLw.s (gLw.s (gLw.n (gLw.n gLw.z)))))))
                · refine gy_icF rfl (by decide) (by decide) (by omega) (by omega) hc266 ?_
                  refine gz_s 3 (pc' := 79) (L' := [some (.ref x), some (.int (zi p)), some (.int (zi zq1)), some (.int (zi rn2)), some (.int (zi k)), some (.int (zi z104)), some (.int (zi (zq105 / 2 ^ (lw).toNat)))]) (S' := [.int (zi 240), .int (zi 1), .ref x]) rfl ?_
                  have hl410 : h120.2.2.2.1 bv2 = h120.2.2.2.1 bv2 := congrFun sh120.2.2.2.2.1 bv2
                  refine gz_call rfl (by decide) rfl (by decide) (by decide) (gcal_of rfl rfl rfl (Nat.le_of_ble_eq_true rfl) (gJ.recv (G := gGG) sh120.1 lp119c0 rfl rfl)) (cl_putSymbol1 _ sh120.1 x lp119c0 1 ⟨by omega, by omega⟩ 240 ⟨by omega, by omega⟩ sk lp119k0 lp119c1 bv2 lp119r0 lp119r1 cv2 lp119k6 ⟨by omega, by omega⟩ hv2 lp119k7 ⟨by omega, by omega⟩ cg lp119k1 ⟨by omega, by omega⟩ (by omega) (by omega) lp119u) (fun q411 _ wq411 => ?_)
                  obtain ⟨pq411, oq411, hq411⟩ := q411
                  obtain ⟨tyq411, xq411, cq411_0, ttq411, fq411_0, fq411_1, ecq411_0, tcq411_0, gq411, efq411_0, afq411_0, bfq411_0, efq411_1, afq411_1, bfq411_1, uq411_0, uq411_1, uq411_2, uq411_3, uq411_4, uq411_5, uq411_6⟩ := wq411
                  dsimp only at uq411_3 uq411_4 uq411_5 uq411_6
                  refine ⟨_, gq411, ?_⟩
                  show gz gPP gGG gcn _ _ 82 [some (.ref x), some (.int (zi p)), some (.int (zi zq1)), some (.int (zi rn2)), some (.int (zi k)), some (.int (zi z104)), some (.int (zi (zq105 / 2 ^ (lw).toNat)))] [] hq411 _
                  have G412 : gSg [114] [] [56000, 56001, 56002, 56003, 71013, 71014, 80999, 114999] ty h tyq411 hq411 := gSg.tr (gSg.ss lp119G sh120 (by decide)) xq411 (by decide) (by decide) (fun x hx => by cases hx)
                  have t413 : tyq411 x = 71 := gSg.typ xq411 sh120.1 lp119c0 rfl
                  have t414 : tyq411 sk = 56 := gSg.typ xq411 sh120.1 lp119c1 rfl
                  have t415 : tyq411 c102 = 73 := gSg.typ xq411 sh120.1 lp119c2 rfl
                  have t416 : tyq411 bv2 = 114 := gSg.typ xq411 sh120.1 lp119r1 rfl
                  have hl417 : hq411.2.2.2.1 bv2 = h120.2.2.2.1 bv2 := gSg.len xq411 sh120.1 lp119r1 rfl
                  have s418 := gSg.at xq411 sh120.1 lp119c0 rfl (by decide) lp119k0
                  have s419 := gSg.at xq411 sh120.1 lp119c0 rfl (by decide) lp119k1
                  have s420 := gSg.at xq411 sh120.1 lp119c0 rfl (by decide) lp119k2
                  have s421 := gSg.at xq411 sh120.1 lp119c0 rfl (by decide) lp119k3
                  have s422 := gSg.at xq411 sh120.1 lp119c0 rfl (by decide) lp119k4
                  have s423 := gSg.at xq411 sh120.1 lp119c0 rfl (by decide) lp119k5
                  have s424 := gSg.at xq411 sh120.1 lp119c0 rfl (by decide) lp119k8
                  have pr425 := gLc.gr xq411 sh120.1 (by decide) (by decide) lp119k9
                  have uq426 := gSg.uq xq411 lp119u (by decide)
                  have sS427 : gSs rT 1027 tyq411 [56000, 56001, 56002, 56003, 71013, 71014, 80999, 114999] hq411 hq411 := gSs.rf xq411.1
                  have yq411b : 4 * fq411_0 + fq411_1 + 320 * rn2 + 310 * wv2 ≤ 4 * c0 + h0 + 320 * (k - fr) + 300 := by omega
                  have yq411m : c0 ≤ fq411_0 := by omega
                  have yq411g : 1024 * ((hq411.1 : Int) - h.1) ≤ (hq411.2.2.2.1 cq411_0 : Int) - h.2.2.2.1 bt := by omega
                  have yq411s : ((hq411.2.1 : Int) - h.2.1) ≤ 2 * ((hq411.2.2.2.1 cq411_0 : Int) - h.2.2.2.1 bt) := by omega
                  have yq411l : (h.2.2.2.1 bt : Int) ≤ (hq411.2.2.2.1 cq411_0 : Int) := by omega
                  have yq411c : cg = 1 → (fq411_0 = c0 ∧ fq411_1 = h0) := fun hcg9 => ⟨(uq411_2 hcg9).1.trans (lp119f6 hcg9).1, (uq411_2 hcg9).2.trans (lp119f6 hcg9).2⟩
                  clear lp119f4 lp119f5 lp119f9 lp119f10 lp119f11 lp119f12 lp119f6 lp119f1 lp119f2 uq411_0 uq411_1 uq411_2 uq411_3 uq411_4 uq411_5
                  refine gz_s 1 (pc' := 83) (L' := [some (.ref x), some (.int (zi p)), some (.int (zi zq1)), some (.int (zi rn2)), some (.int (zi k)), some (.int (zi z104)), some (.int (zi (zq105 / 2 ^ (lw).toNat)))]) (S' := [.ref x]) rfl ?_
                  have hl428 : hq411.2.2.2.1 cq411_0 = hq411.2.2.2.1 cq411_0 := congrFun sS427.2.2.2.2.1 cq411_0
                  refine gz_call rfl (by decide) rfl (by decide) (by decide) (gcal_of rfl rfl rfl (Nat.le_of_ble_eq_true rfl) (gJ.recv (G := gGG) sS427.1 t413 rfl rfl)) (cl_Writer_putWaiting _ sS427.1 x t413 sk s418 t414 cq411_0 ecq411_0 tcq411_0 fq411_0 efq411_0 ⟨by omega, by omega⟩ fq411_1 efq411_1 ⟨by omega, by omega⟩ cg s419 ⟨by omega, by omega⟩ wv2 s424 ⟨by omega, by omega⟩ (by omega) (by omega) uq426) (fun q429 _ wq429 => ?_)
                  obtain ⟨pq429, oq429, hq429⟩ := q429
                  obtain ⟨tyq429, xq429, cq429_0, ttq429, fq429_0, fq429_1, fq429_2, ecq429_0, tcq429_0, gq429, efq429_0, afq429_0, bfq429_0, efq429_1, afq429_1, bfq429_1, efq429_2, afq429_2, bfq429_2, uq429_0, uq429_1, uq429_2, uq429_3, uq429_4, uq429_5, uq429_6, uq429_7⟩ := wq429
                  dsimp only at uq429_3 uq429_4 uq429_5 uq429_7
                  refine ⟨_, gq429, ?_⟩
                  show gz gPP gGG gcn _ _ 86 [some (.ref x), some (.int (zi p)), some (.int (zi zq1)), some (.int (zi rn2)), some (.int (zi k)), some (.int (zi z104)), some (.int (zi (zq105 / 2 ^ (lw).toNat)))] [] hq429 _
                  have G430 : gSg [114] [] [56000, 56001, 56002, 56003, 71013, 71014, 80999, 114999] ty h tyq429 hq429 := gSg.tr (gSg.ss G412 sS427 (by decide)) xq429 (by decide) (by decide) (fun x hx => by cases hx)
                  have t431 : tyq429 x = 71 := gSg.typ xq429 sS427.1 t413 rfl
                  have t432 : tyq429 sk = 56 := gSg.typ xq429 sS427.1 t414 rfl
                  have t433 : tyq429 c102 = 73 := gSg.typ xq429 sS427.1 t415 rfl
                  have t434 : tyq429 bv2 = 114 := gSg.typ xq429 sS427.1 t416 rfl
                  have hl435 : hq429.2.2.2.1 bv2 = hq411.2.2.2.1 bv2 := gSg.len xq429 sS427.1 t416 rfl
                  have t436 : tyq429 cq411_0 = 114 := gSg.typ xq429 sS427.1 tcq411_0 rfl
                  have hl437 : hq429.2.2.2.1 cq411_0 = hq411.2.2.2.1 cq411_0 := gSg.len xq429 sS427.1 tcq411_0 rfl
                  have s438 := gSg.at xq429 sS427.1 t413 rfl (by decide) s418
                  have s439 := gSg.at xq429 sS427.1 t413 rfl (by decide) s419
                  have s440 := gSg.at xq429 sS427.1 t413 rfl (by decide) s420
                  have s441 := gSg.at xq429 sS427.1 t413 rfl (by decide) s421
                  have s442 := gSg.at xq429 sS427.1 t413 rfl (by decide) s422
                  have s443 := gSg.at xq429 sS427.1 t413 rfl (by decide) s423
                  have pr444 := gLc.gr xq429 sS427.1 (by decide) (by decide) pr425
                  have uq445 := gSg.uq xq429 uq426 (by decide)
                  have sS446 : gSs rT 1027 tyq429 [56000, 56001, 56002, 56003, 71013, 71014, 80999, 114999] hq429 hq429 := gSs.rf xq429.1
                  have yq429b : 4 * fq429_0 + fq429_1 + 320 * rn2 + 310 * wv2 ≤ 4 * c0 + h0 + 320 * (k - fr) + 300 + wv2 := by omega
                  have yq429m : c0 ≤ fq429_0 := by omega
                  have yq429g : 1024 * ((hq429.1 : Int) - h.1) ≤ (hq429.2.2.2.1 cq429_0 : Int) - h.2.2.2.1 bt := by omega
                  have yq429s : ((hq429.2.1 : Int) - h.2.1) ≤ 2 * ((hq429.2.2.2.1 cq429_0 : Int) - h.2.2.2.1 bt) := by omega
                  have yq429l : (h.2.2.2.1 bt : Int) ≤ (hq429.2.2.2.1 cq429_0 : Int) := by omega
                  have yq429c : cg = 1 → (fq429_0 = c0 ∧ fq429_1 = h0) := fun hcg9 => ⟨(uq429_2 hcg9).1.trans (yq411c hcg9).1, (uq429_2 hcg9).2.trans (yq411c hcg9).2⟩
                  clear yq411b yq411m yq411g yq411s yq411l uq411_6 yq411c afq411_0 bfq411_0 afq411_1 bfq411_1 uq429_0 uq429_1 uq429_2 uq429_3 uq429_4 uq429_5
                  refine gy_s 2 (pc' := 62) (L' := [some (.ref x), some (.int (zi p)), some (.int (zi zq1)), some (.int ((zi rn2) + zi (-16))), some (.int (zi k)), some (.int (zi z104)), some (.int (zi (zq105 / 2 ^ (lw).toNat)))]) (S' := []) (L2 := [some (.ref x), some (.int (zi p)), some (.int (zi zq1)), some (.int (zi (rn2 + (-16)))), some (.int (zi k)), some (.int (zi z104)), some (.int (zi (zq105 / 2 ^ (lw).toNat)))]) (S2 := []) rfl (by simp only [zi_add, zi_sub, zi_mul, zi_neg, zi_and1, zi_and7, zi_and15, zi_and31, zi_and255]) (by simp only [zi_add, zi_sub, zi_mul, zi_neg, zi_and1, zi_and7, zi_and15, zi_and31, zi_and255]) ?_
                  have hl447 : 1024 ≤ hq429.2.2.2.1 bv2 ∧ hq429.2.2.2.1 bv2 ≤ 1000000 := gJ.rowl (G := gGG) sS446.1 t434 rfl
                  have hl448 : 1024 ≤ hq429.2.2.2.1 cq411_0 ∧ hq429.2.2.2.1 cq411_0 ≤ 1000000 := gJ.rowl (G := gGG) sS446.1 t436 rfl
                  have hl449 : 1024 ≤ hq429.2.2.2.1 cq429_0 ∧ hq429.2.2.2.1 cq429_0 ≤ 1000000 := gJ.rowl (G := gGG) sS446.1 tcq429_0 rfl
                  have G450 : gSg [114] [] [56000, 56001, 56002, 56003, 71013, 71014, 80999, 114999] ty h tyq429 hq429 := gSg.ss G430 sS446 (by decide)
                  exact gz_wk (ihlp119 tyq429 hq429 cq429_0 (rn2 + (-16)) fq429_0 fq429_1 fq429_2 (gms lp119m (by omega) (by omega)) G450 uq445 t431 t432 t433 ecq429_0 tcq429_0 ⟨by omega, by omega⟩ ⟨by omega, by omega⟩ ⟨by omega, by omega⟩ ⟨by omega, by omega⟩ (by omega) (by omega) (fun hcg9 => by (try have i0 := yq429c hcg9); exact ⟨Int.le_antisymm (by omega) (by omega), Int.le_antisymm (by omega) (by omega)⟩) (by omega) (by omega) (by omega) (by omega) (by omega) (by omega) s438 s439 s440 s441 s442 s443 efq429_0 efq429_1 efq429_2 pr444) (gLw.s (gLw.s (gLw.s (gLw.s (gLw.s (gLw.s (gLw.s gLw.z)))))))
          have k451 := sq105.2.1
          have k451b := sq105.2.2.1
          have hl452 : hq105.2.2.2.1 bv = h21.2.2.2.1 bv := congrFun sq105.2.2.2.2.1 bv
          have hl453 : 1024 ≤ hq105.2.2.2.1 bv ∧ hq105.2.2.2.1 bv ≤ 1000000 := gJ.rowl (G := gGG) sq105.1 lp20r1 rfl
          have G454 : gSg [114] [] [56000, 56001, 56002, 56003, 71013, 71014, 80999, 114999] ty h ty22 hq105 := gSg.ss lp20G sq105 (by decide)
          exact gz_wk (lp119 _ ty22 hq105 bv rn cv hv wv (Nat.lt_succ_self _) G454 lp20u lp20c0 lp20c1 tc102 s114 lp20r1 ⟨by omega, by omega⟩ ⟨by omega, by omega⟩ ⟨by omega, by omega⟩ ⟨by omega, by omega⟩ (by omega) (by omega) (fun hcg9 => by (try have i0 := lp20f7 hcg9); exact ⟨Int.le_antisymm (by omega) (by omega), Int.le_antisymm (by omega) (by omega)⟩) (by omega) (by omega) (by omega) (by omega) (by omega) (by omega) s106 s107 s108 s109 s110 s115 s111 s112 s113 pr116) (gLw.s (gLw.s (gLw.s (gLw.s (gLw.s (gLw.s (gLw.s gLw.z)))))))
        · refine gy_ifF rfl (by decide) (by decide) (by omega) hc118 ?_
          refine gy_s 4 (pc' := 19) (L' := [some (.ref x), some (.int (zi p)), some (.int (zi zq1)), some (.int ((zi rn) + zi 1)), some (.int ((zi k) + zi 1)), some (.int (zi z104)), some (.int (zi (zq105 / 2 ^ (lw).toNat)))]) (S' := []) (L2 := [some (.ref x), some (.int (zi p)), some (.int (zi zq1)), some (.int (zi (rn + 1))), some (.int (zi (k + 1))), some (.int (zi z104)), some (.int (zi (zq105 / 2 ^ (lw).toNat)))]) (S2 := []) rfl (by simp only [zi_add, zi_sub, zi_mul, zi_neg, zi_and1, zi_and7, zi_and15, zi_and31, zi_and255]) (by simp only [zi_add, zi_sub, zi_mul, zi_neg, zi_and1, zi_and7, zi_and15, zi_and31, zi_and255]) ?_
          have k455 := sq105.2.1
          have k455b := sq105.2.2.1
          have hl456 : hq105.2.2.2.1 bv = h21.2.2.2.1 bv := congrFun sq105.2.2.2.2.1 bv
          have hl457 : 1024 ≤ hq105.2.2.2.1 bv ∧ hq105.2.2.2.1 bv ≤ 1000000 := gJ.rowl (G := gGG) sq105.1 lp20r1 rfl
          have G458 : gSg [114] [] [56000, 56001, 56002, 56003, 71013, 71014, 80999, 114999] ty h ty22 hq105 := gSg.ss lp20G sq105 (by decide)
          exact gz_wk (ihlp20 ty22 hq105 bv (rn + 1) (k + 1) cv hv wv (gms lp20m (by omega) (by omega)) G458 lp20u lp20c0 lp20c1 s114 lp20r1 ⟨by omega, by omega⟩ ⟨by omega, by omega⟩ ⟨by omega, by omega⟩ ⟨by omega, by omega⟩ ⟨by omega, by omega⟩ (by omega) (by omega) (fun hcg9 => by (try have i0 := lp20f7 hcg9); exact ⟨Int.le_antisymm (by omega) (by omega), Int.le_antisymm (by omega) (by omega)⟩) (by omega) (by omega) (by omega) (by omega) (by omega) (by omega) (by omega) s106 s107 s108 s109 s110 s111 s112 s113 pr116) (gLw.s (gLw.s (gLw.s (gLw.s (gLw.s (gLw.n (gLw.n gLw.z)))))))
  have k459 := sh10.2.1
  have k459b := sh10.2.2.1
  have hl460 : h10.2.2.2.1 bt = h.2.2.2.1 bt := congrFun sh10.2.2.2.2.1 bt
  have hl461 : 1024 ≤ h10.2.2.2.1 bt ∧ h10.2.2.2.1 bt ≤ 1000000 := gJ.rowl (G := gGG) sh10.1 tbt rfl
  have G462 : gSg [114] [] [56000, 56001, 56002, 56003, 71013, 71014, 80999, 114999] ty h ty h10 := gSg.ss G0 sh10 (by decide)
  exact gz_wk (lp20 _ ty h10 bt 0 fr c0 h0 0 (Nat.lt_succ_self _) G462 uq tx tsk s13 tbt ⟨by omega, by omega⟩ ⟨by omega, by omega⟩ ⟨by omega, by omega⟩ ⟨by omega, by omega⟩ ⟨by omega, by omega⟩ (by omega) (by omega) (fun hcg9 => by exact ⟨Int.le_antisymm (by omega) (by omega), Int.le_antisymm (by omega) (by omega)⟩) (by omega) (by omega) (by omega) (by omega) (by omega) (by omega) (by omega) s12 s16 s17 s18 s19 s14 s15 eh10 pr11) (gLw.s (gLw.s (gLw.s (gLw.s (gLw.s (gLw.n (gLw.n gLw.z)))))))
