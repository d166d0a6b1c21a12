/-! ===== methods of the landed text (by program) ===== -/
set_option maxRecDepth 20000 in
set_option maxHeartbeats 4000000 in
theorem cl_Writer_putHead (d : Nat) {ty : Nat → Nat} {h : gH} (hJ : gJ rT 1027 ty h) (x : Nat) (tx : ty x = 71) (dr : Nat) (tdr : ty dr = 55) (sk : Nat) (esk : h.2.2.2.2 x 0 = .ref sk) (tsk : ty sk = 56) (bt : Nat) (ebt : h.2.2.2.2 sk 0 = .ref bt) (tbt : ty bt = 114) (uq : gUq ty) : gz gPP gGG gcn (d + 4) gt99 0 (gent [.ref x, .ref dr] 3) [] h (fun q _ => ∃ ty9 : Nat → Nat, gSg [114] [] [56000, 56001, 56002, 56003, 71006, 114999] ty h ty9 q.2.2 ∧ ∃ bt2 : Nat, True ∧ ∃ c1 h1 : Int, q.2.2.2.2.2.2 sk 0 = .ref bt2 ∧ ty9 bt2 = 114 ∧ gfin gt99 q.1 q.2.1 = some none ∧ q.2.2.2.2.2.2 sk 1 = .int (zi c1) ∧ 0 ≤ c1 ∧ c1 ≤ 500000 ∧ q.2.2.2.2.2.2 sk 3 = .int (zi h1) ∧ 0 ≤ h1 ∧ h1 ≤ 7 ∧ (c1 ≤ 100) ∧ (h1 = 0) ∧ (1024 * ((q.2.2.1 : Int) - h.1) ≤ (q.2.2.2.2.2.1 bt2 : Int) - h.2.2.2.1 bt) ∧ (((q.2.2.2.1 : Int) - h.2.1) ≤ 2 * ((q.2.2.2.2.2.1 bt2 : Int) - h.2.2.2.1 bt)) ∧ ((h.2.2.2.1 bt : Int) ≤ (q.2.2.2.2.2.1 bt2 : Int)) ∧ (c1 ≤ (q.2.2.2.2.2.1 bt2 : Int))) := by
  have hS : gSs rT 1027 ty [56000, 56001, 56002, 56003, 71006, 114999] h h := gSs.rf hJ
  have G0 : gSg [114] [] [56000, 56001, 56002, 56003, 71006, 114999] ty h ty h := gSg.rf hJ (fun x hx => by cases hx)
  refine gz_s 2 (pc' := 2) (L' := [some (.ref x), some (.ref dr), none]) (S' := [.ref dr, .ref x]) rfl ?_
  refine gs_get rfl (by decide) rfl hS.1 tdr rfl rfl rfl (fun z1 ez1 az1 bz1 => ?_)
  refine gs_put rfl (by decide) rfl hS tx rfl rfl rfl rfl (Or.inl rfl) (by decide) (by omega) (by omega) (fun h2 sh2 eh2 fh2 => ?_)
  have s3 := (fh2 x 0 (fun q => absurd q.2 (by decide))).trans esk
  have s4 := (fh2 sk 0 (fun q => absurd q.2 (by decide))).trans ebt
  have s5 := (fh2 dr 3 (fun q => absurd q.2 (by decide))).trans ez1
  refine gz_s 1 (pc' := 9) (L' := [some (.ref x), some (.ref dr), none]) (S' := [.ref x]) rfl ?_
  refine gs_gtk rfl (by decide) rfl sh2.1 tx rfl rfl s3 ?_
  refine gz_call rfl (by decide) rfl (by decide) (by decide) (gcal_of rfl rfl rfl (Nat.le_of_ble_eq_true rfl) (gJ.recv (G := gGG) sh2.1 tsk rfl rfl)) (cl_Sink_forget _ sh2.1 sk tsk uq) (fun q6 _ wq6 => ?_)
  obtain ⟨pq6, oq6, hq6⟩ := q6
  obtain ⟨xq6, fq6_0, fq6_1, gq6, efq6_0, afq6_0, bfq6_0, efq6_1, afq6_1, bfq6_1, uq6_0, uq6_1⟩ := wq6
  refine ⟨_, gq6, ?_⟩
  show gz gPP gGG gcn _ _ 15 [some (.ref x), some (.ref dr), none] [] hq6 _
  have sq6 : gSs rT 1027 ty [56000, 56001, 56002, 56003, 71006, 114999] h hq6 := gSs.tr sh2 xq6 (by decide)
  have s7 := (xq6.2.2.2.2.2 x 0 (by rw [tx]; decide)).trans s3
  have s8 := (xq6.2.2.2.2.2 sk 0 (by rw [tsk]; decide)).trans s4
  have s9 := (xq6.2.2.2.2.2 dr 3 (by rw [tdr]; decide)).trans s5
  have s10 := (xq6.2.2.2.2.2 x 6 (by rw [tx]; decide)).trans eh2
  refine gz_s 1 (pc' := 16) (L' := [some (.ref x), some (.ref dr), none]) (S' := [.ref x]) rfl ?_
  refine gs_gtk rfl (by decide) rfl sq6.1 tx rfl rfl s7 ?_
  refine gz_s 1 (pc' := 22) (L' := [some (.ref x), some (.ref dr), none]) (S' := [.int (zi 216), .ref sk]) rfl ?_
  have k11 := sq6.2.1
  have k11b := sq6.2.2.1
  have hl12 : hq6.2.2.2.1 bt = h.2.2.2.1 bt := congrFun sq6.2.2.2.2.1 bt
  have hl13 : hq6.2.2.2.1 bt = h.2.2.2.1 bt := congrFun sq6.2.2.2.2.1 bt
  refine gz_call rfl (by decide) rfl (by decide) (by decide) (gcal_of rfl rfl rfl (Nat.le_of_ble_eq_true rfl) (gJ.recv (G := gGG) sq6.1 tsk rfl rfl)) (cl_Sink_putMarker _ sq6.1 sk tsk 216 (by omega) bt s8 tbt fq6_0 efq6_0 (by omega) (by omega) uq) (fun q14 _ wq14 => ?_)
  obtain ⟨pq14, oq14, hq14⟩ := q14
  obtain ⟨tyq14, xq14, cq14_0, ttq14, fq14_0, ecq14_0, tcq14_0, gq14, efq14_0, afq14_0, bfq14_0, uq14_0, uq14_1, uq14_2, uq14_3, uq14_4⟩ := wq14
  dsimp only at uq14_1 uq14_2 uq14_3 uq14_4
  refine ⟨_, gq14, ?_⟩
  show gz gPP gGG gcn _ _ 25 [some (.ref x), some (.ref dr), none] [] hq14 _
  have G15 : gSg [114] [] [56000, 56001, 56002, 56003, 71006, 114999] ty h tyq14 hq14 := gSg.tr (gSg.ss G0 sq6 (by decide)) xq14 (by decide) (by decide) (fun x hx => by cases hx)
  have t16 : tyq14 x = 71 := gSg.typ xq14 sq6.1 tx rfl
  have t17 : tyq14 dr = 55 := gSg.typ xq14 sq6.1 tdr rfl
  have t18 : tyq14 sk = 56 := gSg.typ xq14 sq6.1 tsk rfl
  have t19 : tyq14 bt = 114 := gSg.typ xq14 sq6.1 tbt rfl
  have hl20 : hq14.2.2.2.1 bt = hq6.2.2.2.1 bt := gSg.len xq14 sq6.1 tbt rfl
  have s21 := gSg.at xq14 sq6.1 tx rfl (by decide) s7
  have s22 := gSg.at xq14 sq6.1 tdr rfl (by decide) s9
  have s23 := gSg.at xq14 sq6.1 tx rfl (by decide) s10
  have s24 := gSg.at xq14 sq6.1 tsk rfl (by decide) efq6_1
  have uq25 := gSg.uq xq14 uq (by decide)
  have sS26 : gSs rT 1027 tyq14 [56000, 56001, 56002, 56003, 71006, 114999] hq14 hq14 := gSs.rf xq14.1
  refine gz_s 1 (pc' := 26) (L' := [some (.ref x), some (.ref dr), none]) (S' := [.ref x]) rfl ?_
  refine gs_gtk rfl (by decide) rfl sS26.1 t16 rfl rfl s21 ?_
  refine gz_s 1 (pc' := 32) (L' := [some (.ref x), some (.ref dr), none]) (S' := [.int (zi 219), .ref sk]) rfl ?_
  have hl27 : hq14.2.2.2.1 cq14_0 = hq14.2.2.2.1 cq14_0 := congrFun sS26.2.2.2.2.1 cq14_0
  refine gz_call rfl (by decide) rfl (by decide) (by decide) (gcal_of rfl rfl rfl (Nat.le_of_ble_eq_true rfl) (gJ.recv (G := gGG) sS26.1 t18 rfl rfl)) (cl_Sink_putMarker _ sS26.1 sk t18 219 (by omega) cq14_0 ecq14_0 tcq14_0 fq14_0 efq14_0 (by omega) (by omega) uq25) (fun q28 _ wq28 => ?_)
  obtain ⟨pq28, oq28, hq28⟩ := q28
  obtain ⟨tyq28, xq28, cq28_0, ttq28, fq28_0, ecq28_0, tcq28_0, gq28, efq28_0, afq28_0, bfq28_0, uq28_0, uq28_1, uq28_2, uq28_3, uq28_4⟩ := wq28
  dsimp only at uq28_1 uq28_2 uq28_3 uq28_4
  refine ⟨_, gq28, ?_⟩
  show gz gPP gGG gcn _ _ 35 [some (.ref x), some (.ref dr), none] [] hq28 _
  have G29 : gSg [114] [] [56000, 56001, 56002, 56003, 71006, 114999] ty h tyq28 hq28 := gSg.tr (gSg.ss G15 sS26 (by decide)) xq28 (by decide) (by decide) (fun x hx => by cases hx)
  have t30 : tyq28 x = 71 := gSg.typ xq28 sS26.1 t16 rfl
  have t31 : tyq28 dr = 55 := gSg.typ xq28 sS26.1 t17 rfl
  have t32 : tyq28 sk = 56 := gSg.typ xq28 sS26.1 t18 rfl
  have t33 : tyq28 bt = 114 := gSg.typ xq28 sS26.1 t19 rfl
  have hl34 : hq28.2.2.2.1 bt = hq14.2.2.2.1 bt := gSg.len xq28 sS26.1 t19 rfl
  have t35 : tyq28 cq14_0 = 114 := gSg.typ xq28 sS26.1 tcq14_0 rfl
  have hl36 : hq28.2.2.2.1 cq14_0 = hq14.2.2.2.1 cq14_0 := gSg.len xq28 sS26.1 tcq14_0 rfl
  have s37 := gSg.at xq28 sS26.1 t16 rfl (by decide) s21
  have s38 := gSg.at xq28 sS26.1 t17 rfl (by decide) s22
  have s39 := gSg.at xq28 sS26.1 t16 rfl (by decide) s23
  have s40 := gSg.at xq28 sS26.1 t18 rfl (by decide) s24
  have uq41 := gSg.uq xq28 uq25 (by decide)
  have sS42 : gSs rT 1027 tyq28 [56000, 56001, 56002, 56003, 71006, 114999] hq28 hq28 := gSs.rf xq28.1
  refine gz_s 1 (pc' := 36) (L' := [some (.ref x), some (.ref dr), none]) (S' := [.ref x]) rfl ?_
  refine gs_gtk rfl (by decide) rfl sS42.1 t30 rfl rfl s37 ?_
  refine gz_s 1 (pc' := 41) (L' := [some (.ref x), some (.ref dr), none]) (S' := [.int (zi 67), .ref sk]) rfl ?_
  have hl43 : hq28.2.2.2.1 cq28_0 = hq28.2.2.2.1 cq28_0 := congrFun sS42.2.2.2.2.1 cq28_0
  refine gz_call rfl (by decide) rfl (by decide) (by decide) (gcal_of rfl rfl rfl (Nat.le_of_ble_eq_true rfl) (gJ.recv (G := gGG) sS42.1 t32 rfl rfl)) (cl_Sink_putTwo _ sS42.1 sk t32 67 (by omega) cq28_0 ecq28_0 tcq28_0 fq28_0 efq28_0 (by omega) (by omega) uq41) (fun q44 _ wq44 => ?_)
  obtain ⟨pq44, oq44, hq44⟩ := q44
  obtain ⟨tyq44, xq44, cq44_0, ttq44, fq44_0, ecq44_0, tcq44_0, gq44, efq44_0, afq44_0, bfq44_0, uq44_0, uq44_1, uq44_2, uq44_3, uq44_4⟩ := wq44
  dsimp only at uq44_1 uq44_2 uq44_3 uq44_4
  refine ⟨_, gq44, ?_⟩
  show gz gPP gGG gcn _ _ 44 [some (.ref x), some (.ref dr), none] [] hq44 _
  have G45 : gSg [114] [] [56000, 56001, 56002, 56003, 71006, 114999] ty h tyq44 hq44 := gSg.tr (gSg.ss G29 sS42 (by decide)) xq44 (by decide) (by decide) (fun x hx => by cases hx)
  have t46 : tyq44 x = 71 := gSg.typ xq44 sS42.1 t30 rfl
  have t47 : tyq44 dr = 55 := gSg.typ xq44 sS42.1 t31 rfl
  have t48 : tyq44 sk = 56 := gSg.typ xq44 sS42.1 t32 rfl
  have t49 : tyq44 bt = 114 := gSg.typ xq44 sS42.1 t33 rfl
  have hl50 : hq44.2.2.2.1 bt = hq28.2.2.2.1 bt := gSg.len xq44 sS42.1 t33 rfl
  have t51 : tyq44 cq14_0 = 114 := gSg.typ xq44 sS42.1 t35 rfl
  have hl52 : hq44.2.2.2.1 cq14_0 = hq28.2.2.2.1 cq14_0 := gSg.len xq44 sS42.1 t35 rfl
  have t53 : tyq44 cq28_0 = 114 := gSg.typ xq44 sS42.1 tcq28_0 rfl
  have hl54 : hq44.2.2.2.1 cq28_0 = hq28.2.2.2.1 cq28_0 := gSg.len xq44 sS42.1 tcq28_0 rfl
  have s55 := gSg.at xq44 sS42.1 t30 rfl (by decide) s37
  have s56 := gSg.at xq44 sS42.1 t31 rfl (by decide) s38
  have s57 := gSg.at xq44 sS42.1 t30 rfl (by decide) s39
  have s58 := gSg.at xq44 sS42.1 t32 rfl (by decide) s40
  have uq59 := gSg.uq xq44 uq41 (by decide)
  have sS60 : gSs rT 1027 tyq44 [56000, 56001, 56002, 56003, 71006, 114999] hq44 hq44 := gSs.rf xq44.1
  refine gz_s 1 (pc' := 45) (L' := [some (.ref x), some (.ref dr), none]) (S' := [.ref x]) rfl ?_
  refine gs_gtk rfl (by decide) rfl sS60.1 t46 rfl rfl s55 ?_
  refine gz_s 1 (pc' := 49) (L' := [some (.ref x), some (.ref dr), none]) (S' := [.int (zi 0), .ref sk]) rfl ?_
  have hl61 : hq44.2.2.2.1 cq44_0 = hq44.2.2.2.1 cq44_0 := congrFun sS60.2.2.2.2.1 cq44_0
  refine gz_call rfl (by decide) rfl (by decide) (by decide) (gcal_of rfl rfl rfl (Nat.le_of_ble_eq_true rfl) (gJ.recv (G := gGG) sS60.1 t48 rfl rfl)) (cl_Sink_putByte _ sS60.1 sk t48 0 (by omega) cq44_0 ecq44_0 tcq44_0 fq44_0 efq44_0 (by omega) (by omega) uq59) (fun q62 _ wq62 => ?_)
  obtain ⟨pq62, oq62, hq62⟩ := q62
  obtain ⟨tyq62, xq62, cq62_0, ttq62, fq62_0, ecq62_0, tcq62_0, gq62, efq62_0, afq62_0, bfq62_0, uq62_0, uq62_1, uq62_2, uq62_3, uq62_4⟩ := wq62
  dsimp only at uq62_1 uq62_2 uq62_3 uq62_4
  refine ⟨_, gq62, ?_⟩
  show gz gPP gGG gcn _ _ 52 [some (.ref x), some (.ref dr), none] [] hq62 _
  have G63 : gSg [114] [] [56000, 56001, 56002, 56003, 71006, 114999] ty h tyq62 hq62 := gSg.tr (gSg.ss G45 sS60 (by decide)) xq62 (by decide) (by decide) (fun x hx => by cases hx)
  have t64 : tyq62 x = 71 := gSg.typ xq62 sS60.1 t46 rfl
  have t65 : tyq62 dr = 55 := gSg.typ xq62 sS60.1 t47 rfl
  have t66 : tyq62 sk = 56 := gSg.typ xq62 sS60.1 t48 rfl
  have t67 : tyq62 bt = 114 := gSg.typ xq62 sS60.1 t49 rfl
  have hl68 : hq62.2.2.2.1 bt = hq44.2.2.2.1 bt := gSg.len xq62 sS60.1 t49 rfl
  have t69 : tyq62 cq14_0 = 114 := gSg.typ xq62 sS60.1 t51 rfl
  have hl70 : hq62.2.2.2.1 cq14_0 = hq44.2.2.2.1 cq14_0 := gSg.len xq62 sS60.1 t51 rfl
  have t71 : tyq62 cq28_0 = 114 := gSg.typ xq62 sS60.1 t53 rfl
  have hl72 : hq62.2.2.2.1 cq28_0 = hq44.2.2.2.1 cq28_0 := gSg.len xq62 sS60.1 t53 rfl
  have t73 : tyq62 cq44_0 = 114 := gSg.typ xq62 sS60.1 tcq44_0 rfl
  have hl74 : hq62.2.2.2.1 cq44_0 = hq44.2.2.2.1 cq44_0 := gSg.len xq62 sS60.1 tcq44_0 rfl
  have s75 := gSg.at xq62 sS60.1 t46 rfl (by decide) s55
  have s76 := gSg.at xq62 sS60.1 t47 rfl (by decide) s56
  have s77 := gSg.at xq62 sS60.1 t46 rfl (by decide) s57
  have s78 := gSg.at xq62 sS60.1 t48 rfl (by decide) s58
  have uq79 := gSg.uq xq62 uq59 (by decide)
  have sS80 : gSs rT 1027 tyq62 [56000, 56001, 56002, 56003, 71006, 114999] hq62 hq62 := gSs.rf xq62.1
  refine gz_s 2 (pc' := 54) (L' := [some (.ref x), some (.ref dr), some (.int (zi 0))]) (S' := []) rfl ?_
  have lp81 : ∀ (fu : Nat) (ty83 : Nat → Nat) (h82 : gH) (bv : Nat) (i : Int) (cv : Int), (65 - i).toNat < fu → gSg [114] [] [56000, 56001, 56002, 56003, 71006, 114999] ty h ty83 h82 → gUq ty83 → ty83 x = 71 → ty83 dr = 55 → ty83 sk = 56 → h82.2.2.2.2 sk 0 = .ref bv → ty83 bv = 114 → (0 ≤ i ∧ i ≤ 64) → (0 ≤ cv ∧ cv ≤ 499999) → (cv = 7 + i) → (1024 * ((h82.1 : Int) - h.1) ≤ (h82.2.2.2.1 bv : Int) - h.2.2.2.1 bt) → (((h82.2.1 : Int) - h.2.1) ≤ 2 * ((h82.2.2.2.1 bv : Int) - h.2.2.2.1 bt)) → ((h.2.2.2.1 bt : Int) ≤ (h82.2.2.2.1 bv : Int)) → (cv ≤ (h82.2.2.2.1 bv : Int)) → h82.2.2.2.2 x 0 = .ref sk → h82.2.2.2.2 dr 3 = .int (zi z1) → h82.2.2.2.2 x 6 = .int (zi z1) → h82.2.2.2.2 sk 3 = .int (zi fq6_1) → h82.2.2.2.2 sk 1 = .int (zi cv) → gz gPP gGG gcn (d + 4) gt99 54 [some (.ref x), some (.ref dr), some (.int (zi i))] [] h82 (fun q _ => ∃ ty9 : Nat → Nat, gSg [114] [] [56000, 56001, 56002, 56003, 71006, 114999] ty h ty9 q.2.2 ∧ ∃ bt2 : Nat, True ∧ ∃ c1 h1 : Int, q.2.2.2.2.2.2 sk 0 = .ref bt2 ∧ ty9 bt2 = 114 ∧ gfin gt99 q.1 q.2.1 = some none ∧ q.2.2.2.2.2.2 sk 1 = .int (zi c1) ∧ 0 ≤ c1 ∧ c1 ≤ 500000 ∧ q.2.2.2.2.2.2 sk 3 = .int (zi h1) ∧ 0 ≤ h1 ∧ h1 ≤ 7 ∧ (c1 ≤ 100) ∧ (h1 = 0) ∧ (1024 * ((q.2.2.1 : Int) - h.1) ≤ (q.2.2.2.2.2.1 bt2 : Int) - h.2.2.2.1 bt) ∧ (((q.2.2.2.1 : Int) - h.2.1) ≤ 2 * ((q.2.2.2.2.2.1 bt2 : Int) - h.2.2.2.1 bt)) ∧ ((h.2.2.2.1 bt : Int) ≤ (q.2.2.2.2.2.1 bt2 : Int)) ∧ (c1 ≤ (q.2.2.2.2.2.1 bt2 : Int))) := by
    intro fu
    induction fu with
    | zero => intro ty83 h82 bv i cv hm; exact absurd hm (Nat.not_lt_zero _)
    | succ fu ihlp81 =>
      intro ty83 h82 bv i cv lp81m lp81G lp81u lp81c0 lp81c1 lp81c2 lp81r0 lp81r1 lp81f0 lp81f1 lp81f2 lp81f3 lp81f4 lp81f5 lp81f6 lp81k0 lp81k1 lp81k2 lp81k3 lp81k4
      have sh82 : gSs rT 1027 ty83 [56000, 56001, 56002, 56003, 71006, 114999] h82 h82 := gSs.rf lp81G.1
      refine gz_s 2 (pc' := 57) (L' := [some (.ref x), some (.ref dr), some (.int (zi i))]) (S' := [.int (zi 64), .int (zi i)]) rfl ?_
      by_cases hc84 : (64 : Int) ≤ i
      · refine gy_icT (pc' := 79) rfl (by decide) (by decide) (by omega) (by omega) hc84 ?_
        refine gz_s 1 (pc' := 80) (L' := [some (.ref x), some (.ref dr), some (.int (zi i))]) (S' := [.ref x]) rfl ?_
        refine gs_gtk rfl (by decide) rfl sh82.1 lp81c0 rfl rfl lp81k0 ?_
        refine gz_s 1 (pc' := 84) (L' := [some (.ref x), some (.ref dr), some (.int (zi i))]) (S' := [.ref dr, .ref sk]) rfl ?_
        refine gs_get rfl (by decide) rfl sh82.1 lp81c1 rfl rfl rfl (fun z85 ez85 az85 bz85 => ?_)
        by_cases hc86 : (z85 : Int) ≤ 0
        · refine gy_ifT (pc' := 96) rfl (by decide) (by decide) (by omega) hc86 ?_
          refine gz_s 1 (pc' := 99) (L' := [some (.ref x), some (.ref dr), some (.int (zi i))]) (S' := [.int (zi 192), .ref sk]) rfl ?_
          have hl87 : h82.2.2.2.1 bv = h82.2.2.2.1 bv := congrFun sh82.2.2.2.2.1 bv
          refine gz_call rfl (by decide) rfl (by decide) (by decide) (gcal_of rfl rfl rfl (Nat.le_of_ble_eq_true rfl) (gJ.recv (G := gGG) sh82.1 lp81c2 rfl rfl)) (cl_Sink_putMarker _ sh82.1 sk lp81c2 192 (by omega) bv lp81r0 lp81r1 cv lp81k4 (by omega) (by omega) lp81u) (fun q88 _ wq88 => ?_)
          obtain ⟨pq88, oq88, hq88⟩ := q88
          obtain ⟨tyq88, xq88, cq88_0, ttq88, fq88_0, ecq88_0, tcq88_0, gq88, efq88_0, afq88_0, bfq88_0, uq88_0, uq88_1, uq88_2, uq88_3, uq88_4⟩ := wq88
          dsimp only at uq88_1 uq88_2 uq88_3 uq88_4
          refine ⟨_, gq88, ?_⟩
          show gz gPP gGG gcn _ _ 102 [some (.ref x), some (.ref dr), some (.int (zi i))] [] hq88 _
          have G89 : gSg [114] [] [56000, 56001, 56002, 56003, 71006, 114999] ty h tyq88 hq88 := gSg.tr (gSg.ss lp81G sh82 (by decide)) xq88 (by decide) (by decide) (fun x hx => by cases hx)
          have t90 : tyq88 x = 71 := gSg.typ xq88 sh82.1 lp81c0 rfl
          have t91 : tyq88 dr = 55 := gSg.typ xq88 sh82.1 lp81c1 rfl
          have t92 : tyq88 sk = 56 := gSg.typ xq88 sh82.1 lp81c2 rfl
          have t93 : tyq88 bv = 114 := gSg.typ xq88 sh82.1 lp81r1 rfl
          have hl94 : hq88.2.2.2.1 bv = h82.2.2.2.1 bv := gSg.len xq88 sh82.1 lp81r1 rfl
          have s95 := gSg.at xq88 sh82.1 lp81c0 rfl (by decide) lp81k0
          have s96 := gSg.at xq88 sh82.1 lp81c1 rfl (by decide) lp81k1
          have s97 := gSg.at xq88 sh82.1 lp81c0 rfl (by decide) lp81k2
          have s98 := gSg.at xq88 sh82.1 lp81c2 rfl (by decide) lp81k3
          have s99 := gSg.at xq88 sh82.1 lp81c1 rfl (by decide) ez85
          have uq100 := gSg.uq xq88 lp81u (by decide)
          have sS101 : gSs rT 1027 tyq88 [56000, 56001, 56002, 56003, 71006, 114999] hq88 hq88 := gSs.rf xq88.1
          refine gz_s 1 (pc' := 103) (L' := [some (.ref x), some (.ref dr), some (.int (zi i))]) (S' := [.ref x]) rfl ?_
          refine gs_gtk rfl (by decide) rfl sS101.1 t90 rfl rfl s95 ?_
          refine gz_s 1 (pc' := 108) (L' := [some (.ref x), some (.ref dr), some (.int (zi i))]) (S' := [.int (zi 11), .ref sk]) rfl ?_
          have hl102 : hq88.2.2.2.1 cq88_0 = hq88.2.2.2.1 cq88_0 := congrFun sS101.2.2.2.2.1 cq88_0
          refine gz_call rfl (by decide) rfl (by decide) (by decide) (gcal_of rfl rfl rfl (Nat.le_of_ble_eq_true rfl) (gJ.recv (G := gGG) sS101.1 t92 rfl rfl)) (cl_Sink_putTwo _ sS101.1 sk t92 11 (by omega) cq88_0 ecq88_0 tcq88_0 fq88_0 efq88_0 (by omega) (by omega) uq100) (fun q103 _ wq103 => ?_)
          obtain ⟨pq103, oq103, hq103⟩ := q103
          obtain ⟨tyq103, xq103, cq103_0, ttq103, fq103_0, ecq103_0, tcq103_0, gq103, efq103_0, afq103_0, bfq103_0, uq103_0, uq103_1, uq103_2, uq103_3, uq103_4⟩ := wq103
          dsimp only at uq103_1 uq103_2 uq103_3 uq103_4
          refine ⟨_, gq103, ?_⟩
          show gz gPP gGG gcn _ _ 111 [some (.ref x), some (.ref dr), some (.int (zi i))] [] hq103 _
          have G104 : gSg [114] [] [56000, 56001, 56002, 56003, 71006, 114999] ty h tyq103 hq103 := gSg.tr (gSg.ss G89 sS101 (by decide)) xq103 (by decide) (by decide) (fun x hx => by cases hx)
          have t105 : tyq103 x = 71 := gSg.typ xq103 sS101.1 t90 rfl
          have t106 : tyq103 dr = 55 := gSg.typ xq103 sS101.1 t91 rfl
          have t107 : tyq103 sk = 56 := gSg.typ xq103 sS101.1 t92 rfl
          have t108 : tyq103 bv = 114 := gSg.typ xq103 sS101.1 t93 rfl
          have hl109 : hq103.2.2.2.1 bv = hq88.2.2.2.1 bv := gSg.len xq103 sS101.1 t93 rfl
          have t110 : tyq103 cq88_0 = 114 := gSg.typ xq103 sS101.1 tcq88_0 rfl
          have hl111 : hq103.2.2.2.1 cq88_0 = hq88.2.2.2.1 cq88_0 := gSg.len xq103 sS101.1 tcq88_0 rfl
          have s112 := gSg.at xq103 sS101.1 t90 rfl (by decide) s95
          have s113 := gSg.at xq103 sS101.1 t91 rfl (by decide) s96
          have s114 := gSg.at xq103 sS101.1 t90 rfl (by decide) s97
          have s115 := gSg.at xq103 sS101.1 t92 rfl (by decide) s98
          have s116 := gSg.at xq103 sS101.1 t91 rfl (by decide) s99
          have uq117 := gSg.uq xq103 uq100 (by decide)
          have sS118 : gSs rT 1027 tyq103 [56000, 56001, 56002, 56003, 71006, 114999] hq103 hq103 := gSs.rf xq103.1
          refine gz_s 1 (pc' := 112) (L' := [some (.ref x), some (.ref dr), some (.int (zi i))]) (S' := [.ref x]) rfl ?_
          refine gs_gtk rfl (by decide) rfl sS118.1 t105 rfl rfl s112 ?_
          refine gz_s 1 (pc' := 117) (L' := [some (.ref x), some (.ref dr), some (.int (zi i))]) (S' := [.int (zi 8), .ref sk]) rfl ?_
          have hl119 : hq103.2.2.2.1 cq103_0 = hq103.2.2.2.1 cq103_0 := congrFun sS118.2.2.2.2.1 cq103_0
          refine gz_call rfl (by decide) rfl (by decide) (by decide) (gcal_of rfl rfl rfl (Nat.le_of_ble_eq_true rfl) (gJ.recv (G := gGG) sS118.1 t107 rfl rfl)) (cl_Sink_putByte _ sS118.1 sk t107 8 (by omega) cq103_0 ecq103_0 tcq103_0 fq103_0 efq103_0 (by omega) (by omega) uq117) (fun q120 _ wq120 => ?_)
          obtain ⟨pq120, oq120, hq120⟩ := q120
          obtain ⟨tyq120, xq120, cq120_0, ttq120, fq120_0, ecq120_0, tcq120_0, gq120, efq120_0, afq120_0, bfq120_0, uq120_0, uq120_1, uq120_2, uq120_3, uq120_4⟩ := wq120
          dsimp only at uq120_1 uq120_2 uq120_3 uq120_4
          refine ⟨_, gq120, ?_⟩
          show gz gPP gGG gcn _ _ 120 [some (.ref x), some (.ref dr), some (.int (zi i))] [] hq120 _
          have G121 : gSg [114] [] [56000, 56001, 56002, 56003, 71006, 114999] ty h tyq120 hq120 := gSg.tr (gSg.ss G104 sS118 (by decide)) xq120 (by decide) (by decide) (fun x hx => by cases hx)
          have t122 : tyq120 x = 71 := gSg.typ xq120 sS118.1 t105 rfl
          have t123 : tyq120 dr = 55 := gSg.typ xq120 sS118.1 t106 rfl
          have t124 : tyq120 sk = 56 := gSg.typ xq120 sS118.1 t107 rfl
          have t125 : tyq120 bv = 114 := gSg.typ xq120 sS118.1 t108 rfl
          have hl126 : hq120.2.2.2.1 bv = hq103.2.2.2.1 bv := gSg.len xq120 sS118.1 t108 rfl
          have t127 : tyq120 cq88_0 = 114 := gSg.typ xq120 sS118.1 t110 rfl
          have hl128 : hq120.2.2.2.1 cq88_0 = hq103.2.2.2.1 cq88_0 := gSg.len xq120 sS118.1 t110 rfl
          have t129 : tyq120 cq103_0 = 114 := gSg.typ xq120 sS118.1 tcq103_0 rfl
          have hl130 : hq120.2.2.2.1 cq103_0 = hq103.2.2.2.1 cq103_0 := gSg.len xq120 sS118.1 tcq103_0 rfl
          have s131 := gSg.at xq120 sS118.1 t105 rfl (by decide) s112
          have s132 := gSg.at xq120 sS118.1 t106 rfl (by decide) s113
          have s133 := gSg.at xq120 sS118.1 t105 rfl (by decide) s114
          have s134 := gSg.at xq120 sS118.1 t107 rfl (by decide) s115
          have s135 := gSg.at xq120 sS118.1 t106 rfl (by decide) s116
          have uq136 := gSg.uq xq120 uq117 (by decide)
          have sS137 : gSs rT 1027 tyq120 [56000, 56001, 56002, 56003, 71006, 114999] hq120 hq120 := gSs.rf xq120.1
          refine gz_s 1 (pc' := 121) (L' := [some (.ref x), some (.ref dr), some (.int (zi i))]) (S' := [.ref x]) rfl ?_
          refine gs_gtk rfl (by decide) rfl sS137.1 t122 rfl rfl s131 ?_
          refine gz_s 1 (pc' := 125) (L' := [some (.ref x), some (.ref dr), some (.int (zi i))]) (S' := [.ref dr, .ref sk]) rfl ?_
          refine gs_get rfl (by decide) rfl sS137.1 t123 rfl rfl rfl (fun z138 ez138 az138 bz138 => ?_)
          have hl139 : hq120.2.2.2.1 cq120_0 = hq120.2.2.2.1 cq120_0 := congrFun sS137.2.2.2.2.1 cq120_0
          refine gz_call rfl (by decide) rfl (by decide) (by decide) (gcal_of rfl rfl rfl (Nat.le_of_ble_eq_true rfl) (gJ.recv (G := gGG) sS137.1 t124 rfl rfl)) (cl_Sink_putTwo _ sS137.1 sk t124 z138 (by omega) cq120_0 ecq120_0 tcq120_0 fq120_0 efq120_0 (by omega) (by omega) uq136) (fun q140 _ wq140 => ?_)
          obtain ⟨pq140, oq140, hq140⟩ := q140
          obtain ⟨tyq140, xq140, cq140_0, ttq140, fq140_0, ecq140_0, tcq140_0, gq140, efq140_0, afq140_0, bfq140_0, uq140_0, uq140_1, uq140_2, uq140_3, uq140_4⟩ := wq140
          dsimp only at uq140_1 uq140_2 uq140_3 uq140_4
          refine ⟨_, gq140, ?_⟩
          show gz gPP gGG gcn _ _ 131 [some (.ref x), some (.ref dr), some (.int (zi i))] [] hq140 _
          have G141 : gSg [114] [] [56000, 56001, 56002, 56003, 71006, 114999] ty h tyq140 hq140 := gSg.tr (gSg.ss G121 sS137 (by decide)) xq140 (by decide) (by decide) (fun x hx => by cases hx)
          have t142 : tyq140 x = 71 := gSg.typ xq140 sS137.1 t122 rfl
          have t143 : tyq140 dr = 55 := gSg.typ xq140 sS137.1 t123 rfl
          have t144 : tyq140 sk = 56 := gSg.typ xq140 sS137.1 t124 rfl
          have t145 : tyq140 bv = 114 := gSg.typ xq140 sS137.1 t125 rfl
          have hl146 : hq140.2.2.2.1 bv = hq120.2.2.2.1 bv := gSg.len xq140 sS137.1 t125 rfl
          have t147 : tyq140 cq88_0 = 114 := gSg.typ xq140 sS137.1 t127 rfl
          have hl148 : hq140.2.2.2.1 cq88_0 = hq120.2.2.2.1 cq88_0 := gSg.len xq140 sS137.1 t127 rfl
          have t149 : tyq140 cq103_0 = 114 := gSg.typ xq140 sS137.1 t129 rfl
          have hl150 : hq140.2.2.2.1 cq103_0 = hq120.2.2.2.1 cq103_0 := gSg.len xq140 sS137.1 t129 rfl
          have t151 : tyq140 cq120_0 = 114 := gSg.typ xq140 sS137.1 tcq120_0 rfl
          have hl152 : hq140.2.2.2.1 cq120_0 = hq120.2.2.2.1 cq120_0 := gSg.len xq140 sS137.1 tcq120_0 rfl
          have s153 := gSg.at xq140 sS137.1 t122 rfl (by decide) s131
          have s154 := gSg.at xq140 sS137.1 t123 rfl (by decide) s132
          have s155 := gSg.at xq140 sS137.1 t122 rfl (by decide) s133
          have s156 := gSg.at xq140 sS137.1 t124 rfl (by decide) s134
          have s157 := gSg.at xq140 sS137.1 t123 rfl (by decide) s135
          have s158 := gSg.at xq140 sS137.1 t123 rfl (by decide) ez138
          have uq159 := gSg.uq xq140 uq136 (by decide)
          have sS160 : gSs rT 1027 tyq140 [56000, 56001, 56002, 56003, 71006, 114999] hq140 hq140 := gSs.rf xq140.1
          refine gz_s 1 (pc' := 132) (L' := [some (.ref x), some (.ref dr), some (.int (zi i))]) (S' := [.ref x]) rfl ?_
          refine gs_gtk rfl (by decide) rfl sS160.1 t142 rfl rfl s153 ?_
          refine gz_s 1 (pc' := 136) (L' := [some (.ref x), some (.ref dr), some (.int (zi i))]) (S' := [.ref dr, .ref sk]) rfl ?_
          refine gs_get rfl (by decide) rfl sS160.1 t143 rfl rfl rfl (fun z161 ez161 az161 bz161 => ?_)
          have hl162 : hq140.2.2.2.1 cq140_0 = hq140.2.2.2.1 cq140_0 := congrFun sS160.2.2.2.2.1 cq140_0
          refine gz_call rfl (by decide) rfl (by decide) (by decide) (gcal_of rfl rfl rfl (Nat.le_of_ble_eq_true rfl) (gJ.recv (G := gGG) sS160.1 t144 rfl rfl)) (cl_Sink_putTwo _ sS160.1 sk t144 z161 (by omega) cq140_0 ecq140_0 tcq140_0 fq140_0 efq140_0 (by omega) (by omega) uq159) (fun q163 _ wq163 => ?_)
          obtain ⟨pq163, oq163, hq163⟩ := q163
          obtain ⟨tyq163, xq163, cq163_0, ttq163, fq163_0, ecq163_0, tcq163_0, gq163, efq163_0, afq163_0, bfq163_0, uq163_0, uq163_1, uq163_2, uq163_3, uq163_4⟩ := wq163
          dsimp only at uq163_1 uq163_2 uq163_3 uq163_4
          refine ⟨_, gq163, ?_⟩
          show gz gPP gGG gcn _ _ 142 [some (.ref x), some (.ref dr), some (.int (zi i))] [] hq163 _
          have G164 : gSg [114] [] [56000, 56001, 56002, 56003, 71006, 114999] ty h tyq163 hq163 := gSg.tr (gSg.ss G141 sS160 (by decide)) xq163 (by decide) (by decide) (fun x hx => by cases hx)
          have t165 : tyq163 x = 71 := gSg.typ xq163 sS160.1 t142 rfl
          have t166 : tyq163 dr = 55 := gSg.typ xq163 sS160.1 t143 rfl
          have t167 : tyq163 sk = 56 := gSg.typ xq163 sS160.1 t144 rfl
          have t168 : tyq163 bv = 114 := gSg.typ xq163 sS160.1 t145 rfl
          have hl169 : hq163.2.2.2.1 bv = hq140.2.2.2.1 bv := gSg.len xq163 sS160.1 t145 rfl
          have t170 : tyq163 cq88_0 = 114 := gSg.typ xq163 sS160.1 t147 rfl
          have hl171 : hq163.2.2.2.1 cq88_0 = hq140.2.2.2.1 cq88_0 := gSg.len xq163 sS160.1 t147 rfl
          have t172 : tyq163 cq103_0 = 114 := gSg.typ xq163 sS160.1 t149 rfl
          have hl173 : hq163.2.2.2.1 cq103_0 = hq140.2.2.2.1 cq103_0 := gSg.len xq163 sS160.1 t149 rfl
          have t174 : tyq163 cq120_0 = 114 := gSg.typ xq163 sS160.1 t151 rfl
          have hl175 : hq163.2.2.2.1 cq120_0 = hq140.2.2.2.1 cq120_0 := gSg.len xq163 sS160.1 t151 rfl
          have t176 : tyq163 cq140_0 = 114 := gSg.typ xq163 sS160.1 tcq140_0 rfl
          have hl177 : hq163.2.2.2.1 cq140_0 = hq140.2.2.2.1 cq140_0 := gSg.len xq163 sS160.1 tcq140_0 rfl
          have s178 := gSg.at xq163 sS160.1 t142 rfl (by decide) s153
          have s179 := gSg.at xq163 sS160.1 t143 rfl (by decide) s154
          have s180 := gSg.at xq163 sS160.1 t142 rfl (by decide) s155
          have s181 := gSg.at xq163 sS160.1 t144 rfl (by decide) s156
          have s182 := gSg.at xq163 sS160.1 t143 rfl (by decide) s157
          have s183 := gSg.at xq163 sS160.1 t143 rfl (by decide) s158
          have s184 := gSg.at xq163 sS160.1 t143 rfl (by decide) ez161
          have uq185 := gSg.uq xq163 uq159 (by decide)
          have sS186 : gSs rT 1027 tyq163 [56000, 56001, 56002, 56003, 71006, 114999] hq163 hq163 := gSs.rf xq163.1
          refine gz_s 1 (pc' := 143) (L' := [some (.ref x), some (.ref dr), some (.int (zi i))]) (S' := [.ref x]) rfl ?_
          refine gs_gtk rfl (by decide) rfl sS186.1 t165 rfl rfl s178 ?_
          refine gz_s 1 (pc' := 147) (L' := [some (.ref x), some (.ref dr), some (.int (zi i))]) (S' := [.int (zi 1), .ref sk]) rfl ?_
          have hl187 : hq163.2.2.2.1 cq163_0 = hq163.2.2.2.1 cq163_0 := congrFun sS186.2.2.2.2.1 cq163_0
          refine gz_call rfl (by decide) rfl (by decide) (by decide) (gcal_of rfl rfl rfl (Nat.le_of_ble_eq_true rfl) (gJ.recv (G := gGG) sS186.1 t167 rfl rfl)) (cl_Sink_putByte _ sS186.1 sk t167 1 (by omega) cq163_0 ecq163_0 tcq163_0 fq163_0 efq163_0 (by omega) (by omega) uq185) (fun q188 _ wq188 => ?_)
          obtain ⟨pq188, oq188, hq188⟩ := q188
          obtain ⟨tyq188, xq188, cq188_0, ttq188, fq188_0, ecq188_0, tcq188_0, gq188, efq188_0, afq188_0, bfq188_0, uq188_0, uq188_1, uq188_2, uq188_3, uq188_4⟩ := wq188
          dsimp only at uq188_1 uq188_2 uq188_3 uq188_4
          refine ⟨_, gq188, ?_⟩
          show gz gPP gGG gcn _ _ 150 [some (.ref x), some (.ref dr), some (.int (zi i))] [] hq188 _
          have G189 : gSg [114] [] [56000, 56001, 56002, 56003, 71006, 114999] ty h tyq188 hq188 := gSg.tr (gSg.ss G164 sS186 (by decide)) xq188 (by decide) (by decide) (fun x hx => by cases hx)
          have t190 : tyq188 x = 71 := gSg.typ xq188 sS186.1 t165 rfl
          have t191 : tyq188 dr = 55 := gSg.typ xq188 sS186.1 t166 rfl
          have t192 : tyq188 sk = 56 := gSg.typ xq188 sS186.1 t167 rfl
          have t193 : tyq188 bv = 114 := gSg.typ xq188 sS186.1 t168 rfl
          have hl194 : hq188.2.2.2.1 bv = hq163.2.2.2.1 bv := gSg.len xq188 sS186.1 t168 rfl
          have t195 : tyq188 cq88_0 = 114 := gSg.typ xq188 sS186.1 t170 rfl
          have hl196 : hq188.2.2.2.1 cq88_0 = hq163.2.2.2.1 cq88_0 := gSg.len xq188 sS186.1 t170 rfl
          have t197 : tyq188 cq103_0 = 114 := gSg.typ xq188 sS186.1 t172 rfl
          have hl198 : hq188.2.2.2.1 cq103_0 = hq163.2.2.2.1 cq103_0 := gSg.len xq188 sS186.1 t172 rfl
          have t199 : tyq188 cq120_0 = 114 := gSg.typ xq188 sS186.1 t174 rfl
          have hl200 : hq188.2.2.2.1 cq120_0 = hq163.2.2.2.1 cq120_0 := gSg.len xq188 sS186.1 t174 rfl
          have t201 : tyq188 cq140_0 = 114 := gSg.typ xq188 sS186.1 t176 rfl
          have hl202 : hq188.2.2.2.1 cq140_0 = hq163.2.2.2.1 cq140_0 := gSg.len xq188 sS186.1 t176 rfl
          have t203 : tyq188 cq163_0 = 114 := gSg.typ xq188 sS186.1 tcq163_0 rfl
          have hl204 : hq188.2.2.2.1 cq163_0 = hq163.2.2.2.1 cq163_0 := gSg.len xq188 sS186.1 tcq163_0 rfl
          have s205 := gSg.at xq188 sS186.1 t165 rfl (by decide) s178
          have s206 := gSg.at xq188 sS186.1 t166 rfl (by decide) s179
          have s207 := gSg.at xq188 sS186.1 t165 rfl (by decide) s180
          have s208 := gSg.at xq188 sS186.1 t167 rfl (by decide) s181
          have s209 := gSg.at xq188 sS186.1 t166 rfl (by decide) s182
          have s210 := gSg.at xq188 sS186.1 t166 rfl (by decide) s183
          have s211 := gSg.at xq188 sS186.1 t166 rfl (by decide) s184
          have uq212 := gSg.uq xq188 uq185 (by decide)
          have sS213 : gSs rT 1027 tyq188 [56000, 56001, 56002, 56003, 71006, 114999] hq188 hq188 := gSs.rf xq188.1
          refine gz_s 1 (pc' := 151) (L' := [some (.ref x), some (.ref dr), some (.int (zi i))]) (S' := [.ref x]) rfl ?_
          refine gs_gtk rfl (by decide) rfl sS213.1 t190 rfl rfl s205 ?_
          refine gz_s 1 (pc' := 155) (L' := [some (.ref x), some (.ref dr), some (.int (zi i))]) (S' := [.int (zi 1), .ref sk]) rfl ?_
          have hl214 : hq188.2.2.2.1 cq188_0 = hq188.2.2.2.1 cq188_0 := congrFun sS213.2.2.2.2.1 cq188_0
          refine gz_call rfl (by decide) rfl (by decide) (by decide) (gcal_of rfl rfl rfl (Nat.le_of_ble_eq_true rfl) (gJ.recv (G := gGG) sS213.1 t192 rfl rfl)) (cl_Sink_putByte _ sS213.1 sk t192 1 (by omega) cq188_0 ecq188_0 tcq188_0 fq188_0 efq188_0 (by omega) (by omega) uq212) (fun q215 _ wq215 => ?_)
          obtain ⟨pq215, oq215, hq215⟩ := q215
          obtain ⟨tyq215, xq215, cq215_0, ttq215, fq215_0, ecq215_0, tcq215_0, gq215, efq215_0, afq215_0, bfq215_0, uq215_0, uq215_1, uq215_2, uq215_3, uq215_4⟩ := wq215
          dsimp only at uq215_1 uq215_2 uq215_3 uq215_4
          refine ⟨_, gq215, ?_⟩
          show gz gPP gGG gcn _ _ 158 [some (.ref x), some (.ref dr), some (.int (zi i))] [] hq215 _
          have G216 : gSg [114] [] [56000, 56001, 56002, 56003, 71006, 114999] ty h tyq215 hq215 := gSg.tr (gSg.ss G189 sS213 (by decide)) xq215 (by decide) (by decide) (fun x hx => by cases hx)
          have t217 : tyq215 x = 71 := gSg.typ xq215 sS213.1 t190 rfl
          have t218 : tyq215 dr = 55 := gSg.typ xq215 sS213.1 t191 rfl
          have t219 : tyq215 sk = 56 := gSg.typ xq215 sS213.1 t192 rfl
          have t220 : tyq215 bv = 114 := gSg.typ xq215 sS213.1 t193 rfl
          have hl221 : hq215.2.2.2.1 bv = hq188.2.2.2.1 bv := gSg.len xq215 sS213.1 t193 rfl
          have t222 : tyq215 cq88_0 = 114 := gSg.typ xq215 sS213.1 t195 rfl
          have hl223 : hq215.2.2.2.1 cq88_0 = hq188.2.2.2.1 cq88_0 := gSg.len xq215 sS213.1 t195 rfl
          have t224 : tyq215 cq103_0 = 114 := gSg.typ xq215 sS213.1 t197 rfl
          have hl225 : hq215.2.2.2.1 cq103_0 = hq188.2.2.2.1 cq103_0 := gSg.len xq215 sS213.1 t197 rfl
          have t226 : tyq215 cq120_0 = 114 := gSg.typ xq215 sS213.1 t199 rfl
          have hl227 : hq215.2.2.2.1 cq120_0 = hq188.2.2.2.1 cq120_0 := gSg.len xq215 sS213.1 t199 rfl
          have t228 : tyq215 cq140_0 = 114 := gSg.typ xq215 sS213.1 t201 rfl
          have hl229 : hq215.2.2.2.1 cq140_0 = hq188.2.2.2.1 cq140_0 := gSg.len xq215 sS213.1 t201 rfl
          have t230 : tyq215 cq163_0 = 114 := gSg.typ xq215 sS213.1 t203 rfl
          have hl231 : hq215.2.2.2.1 cq163_0 = hq188.2.2.2.1 cq163_0 := gSg.len xq215 sS213.1 t203 rfl
          have t232 : tyq215 cq188_0 = 114 := gSg.typ xq215 sS213.1 tcq188_0 rfl
          have hl233 : hq215.2.2.2.1 cq188_0 = hq188.2.2.2.1 cq188_0 := gSg.len xq215 sS213.1 tcq188_0 rfl
          have s234 := gSg.at xq215 sS213.1 t190 rfl (by decide) s205
          have s235 := gSg.at xq215 sS213.1 t191 rfl (by decide) s206
          have s236 := gSg.at xq215 sS213.1 t190 rfl (by decide) s207
          have s237 := gSg.at xq215 sS213.1 t192 rfl (by decide) s208
          have s238 := gSg.at xq215 sS213.1 t191 rfl (by decide) s209
          have s239 := gSg.at xq215 sS213.1 t191 rfl (by decide) s210
          have s240 := gSg.at xq215 sS213.1 t191 rfl (by decide) s211
          have uq241 := gSg.uq xq215 uq212 (by decide)
          have sS242 : gSs rT 1027 tyq215 [56000, 56001, 56002, 56003, 71006, 114999] hq215 hq215 := gSs.rf xq215.1
          refine gz_s 1 (pc' := 159) (L' := [some (.ref x), some (.ref dr), some (.int (zi i))]) (S' := [.ref x]) rfl ?_
          refine gs_gtk rfl (by decide) rfl sS242.1 t217 rfl rfl s234 ?_
          refine gz_s 1 (pc' := 164) (L' := [some (.ref x), some (.ref dr), some (.int (zi i))]) (S' := [.int (zi 17), .ref sk]) rfl ?_
          have hl243 : hq215.2.2.2.1 cq215_0 = hq215.2.2.2.1 cq215_0 := congrFun sS242.2.2.2.2.1 cq215_0
          refine gz_call rfl (by decide) rfl (by decide) (by decide) (gcal_of rfl rfl rfl (Nat.le_of_ble_eq_true rfl) (gJ.recv (G := gGG) sS242.1 t219 rfl rfl)) (cl_Sink_putByte _ sS242.1 sk t219 17 (by omega) cq215_0 ecq215_0 tcq215_0 fq215_0 efq215_0 (by omega) (by omega) uq241) (fun q244 _ wq244 => ?_)
          obtain ⟨pq244, oq244, hq244⟩ := q244
          obtain ⟨tyq244, xq244, cq244_0, ttq244, fq244_0, ecq244_0, tcq244_0, gq244, efq244_0, afq244_0, bfq244_0, uq244_0, uq244_1, uq244_2, uq244_3, uq244_4⟩ := wq244
          dsimp only at uq244_1 uq244_2 uq244_3 uq244_4
          refine ⟨_, gq244, ?_⟩
          show gz gPP gGG gcn _ _ 167 [some (.ref x), some (.ref dr), some (.int (zi i))] [] hq244 _
          have G245 : gSg [114] [] [56000, 56001, 56002, 56003, 71006, 114999] ty h tyq244 hq244 := gSg.tr (gSg.ss G216 sS242 (by decide)) xq244 (by decide) (by decide) (fun x hx => by cases hx)
          have t246 : tyq244 x = 71 := gSg.typ xq244 sS242.1 t217 rfl
          have t247 : tyq244 dr = 55 := gSg.typ xq244 sS242.1 t218 rfl
          have t248 : tyq244 sk = 56 := gSg.typ xq244 sS242.1 t219 rfl
          have t249 : tyq244 bv = 114 := gSg.typ xq244 sS242.1 t220 rfl
          have hl250 : hq244.2.2.2.1 bv = hq215.2.2.2.1 bv := gSg.len xq244 sS242.1 t220 rfl
          have t251 : tyq244 cq88_0 = 114 := gSg.typ xq244 sS242.1 t222 rfl
          have hl252 : hq244.2.2.2.1 cq88_0 = hq215.2.2.2.1 cq88_0 := gSg.len xq244 sS242.1 t222 rfl
          have t253 : tyq244 cq103_0 = 114 := gSg.typ xq244 sS242.1 t224 rfl
          have hl254 : hq244.2.2.2.1 cq103_0 = hq215.2.2.2.1 cq103_0 := gSg.len xq244 sS242.1 t224 rfl
          have t255 : tyq244 cq120_0 = 114 := gSg.typ xq244 sS242.1 t226 rfl
          have hl256 : hq244.2.2.2.1 cq120_0 = hq215.2.2.2.1 cq120_0 := gSg.len xq244 sS242.1 t226 rfl
          have t257 : tyq244 cq140_0 = 114 := gSg.typ xq244 sS242.1 t228 rfl
          have hl258 : hq244.2.2.2.1 cq140_0 = hq215.2.2.2.1 cq140_0 := gSg.len xq244 sS242.1 t228 rfl
          have t259 : tyq244 cq163_0 = 114 := gSg.typ xq244 sS242.1 t230 rfl
          have hl260 : hq244.2.2.2.1 cq163_0 = hq215.2.2.2.1 cq163_0 := gSg.len xq244 sS242.1 t230 rfl
          have t261 : tyq244 cq188_0 = 114 := gSg.typ xq244 sS242.1 t232 rfl
          have hl262 : hq244.2.2.2.1 cq188_0 = hq215.2.2.2.1 cq188_0 := gSg.len xq244 sS242.1 t232 rfl
          have t263 : tyq244 cq215_0 = 114 := gSg.typ xq244 sS242.1 tcq215_0 rfl
          have hl264 : hq244.2.2.2.1 cq215_0 = hq215.2.2.2.1 cq215_0 := gSg.len xq244 sS242.1 tcq215_0 rfl
          have s265 := gSg.at xq244 sS242.1 t217 rfl (by decide) s234
          have s266 := gSg.at xq244 sS242.1 t218 rfl (by decide) s235
          have s267 := gSg.at xq244 sS242.1 t217 rfl (by decide) s236
          have s268 := gSg.at xq244 sS242.1 t219 rfl (by decide) s237
          have s269 := gSg.at xq244 sS242.1 t218 rfl (by decide) s238
          have s270 := gSg.at xq244 sS242.1 t218 rfl (by decide) s239
          have s271 := gSg.at xq244 sS242.1 t218 rfl (by decide) s240
          have uq272 := gSg.uq xq244 uq241 (by decide)
          have sS273 : gSs rT 1027 tyq244 [56000, 56001, 56002, 56003, 71006, 114999] hq244 hq244 := gSs.rf xq244.1
          refine gz_s 1 (pc' := 168) (L' := [some (.ref x), some (.ref dr), some (.int (zi i))]) (S' := [.ref x]) rfl ?_
          refine gs_gtk rfl (by decide) rfl sS273.1 t246 rfl rfl s265 ?_
          refine gz_s 1 (pc' := 172) (L' := [some (.ref x), some (.ref dr), some (.int (zi i))]) (S' := [.int (zi 0), .ref sk]) rfl ?_
          have hl274 : hq244.2.2.2.1 cq244_0 = hq244.2.2.2.1 cq244_0 := congrFun sS273.2.2.2.2.1 cq244_0
          refine gz_call rfl (by decide) rfl (by decide) (by decide) (gcal_of rfl rfl rfl (Nat.le_of_ble_eq_true rfl) (gJ.recv (G := gGG) sS273.1 t248 rfl rfl)) (cl_Sink_putByte _ sS273.1 sk t248 0 (by omega) cq244_0 ecq244_0 tcq244_0 fq244_0 efq244_0 (by omega) (by omega) uq272) (fun q275 _ wq275 => ?_)
          obtain ⟨pq275, oq275, hq275⟩ := q275
          obtain ⟨tyq275, xq275, cq275_0, ttq275, fq275_0, ecq275_0, tcq275_0, gq275, efq275_0, afq275_0, bfq275_0, uq275_0, uq275_1, uq275_2, uq275_3, uq275_4⟩ := wq275
          dsimp only at uq275_1 uq275_2 uq275_3 uq275_4
          refine ⟨_, gq275, ?_⟩
          show gz gPP gGG gcn _ _ 175 [some (.ref x), some (.ref dr), some (.int (zi i))] [] hq275 _
          have G276 : gSg [114] [] [56000, 56001, 56002, 56003, 71006, 114999] ty h tyq275 hq275 := gSg.tr (gSg.ss G245 sS273 (by decide)) xq275 (by decide) (by decide) (fun x hx => by cases hx)
          have t277 : tyq275 x = 71 := gSg.typ xq275 sS273.1 t246 rfl
          have t278 : tyq275 dr = 55 := gSg.typ xq275 sS273.1 t247 rfl
          have t279 : tyq275 sk = 56 := gSg.typ xq275 sS273.1 t248 rfl
          have t280 : tyq275 bv = 114 := gSg.typ xq275 sS273.1 t249 rfl
          have hl281 : hq275.2.2.2.1 bv = hq244.2.2.2.1 bv := gSg.len xq275 sS273.1 t249 rfl
          have t282 : tyq275 cq88_0 = 114 := gSg.typ xq275 sS273.1 t251 rfl
          have hl283 : hq275.2.2.2.1 cq88_0 = hq244.2.2.2.1 cq88_0 := gSg.len xq275 sS273.1 t251 rfl
          have t284 : tyq275 cq103_0 = 114 := gSg.typ xq275 sS273.1 t253 rfl
          have hl285 : hq275.2.2.2.1 cq103_0 = hq244.2.2.2.1 cq103_0 := gSg.len xq275 sS273.1 t253 rfl
          have t286 : tyq275 cq120_0 = 114 := gSg.typ xq275 sS273.1 t255 rfl
          have hl287 : hq275.2.2.2.1 cq120_0 = hq244.2.2.2.1 cq120_0 := gSg.len xq275 sS273.1 t255 rfl
          have t288 : tyq275 cq140_0 = 114 := gSg.typ xq275 sS273.1 t257 rfl
          have hl289 : hq275.2.2.2.1 cq140_0 = hq244.2.2.2.1 cq140_0 := gSg.len xq275 sS273.1 t257 rfl
          have t290 : tyq275 cq163_0 = 114 := gSg.typ xq275 sS273.1 t259 rfl
          have hl291 : hq275.2.2.2.1 cq163_0 = hq244.2.2.2.1 cq163_0 := gSg.len xq275 sS273.1 t259 rfl
          have t292 : tyq275 cq188_0 = 114 := gSg.typ xq275 sS273.1 t261 rfl
          have hl293 : hq275.2.2.2.1 cq188_0 = hq244.2.2.2.1 cq188_0 := gSg.len xq275 sS273.1 t261 rfl
          have t294 : tyq275 cq215_0 = 114 := gSg.typ xq275 sS273.1 t263 rfl
          have hl295 : hq275.2.2.2.1 cq215_0 = hq244.2.2.2.1 cq215_0 := gSg.len xq275 sS273.1 t263 rfl
          have t296 : tyq275 cq244_0 = 114 := gSg.typ xq275 sS273.1 tcq244_0 rfl
          have hl297 : hq275.2.2.2.1 cq244_0 = hq244.2.2.2.1 cq244_0 := gSg.len xq275 sS273.1 tcq244_0 rfl
          have s298 := gSg.at xq275 sS273.1 t246 rfl (by decide) s265
          have s299 := gSg.at xq275 sS273.1 t247 rfl (by decide) s266
          have s300 := gSg.at xq275 sS273.1 t246 rfl (by decide) s267
          have s301 := gSg.at xq275 sS273.1 t248 rfl (by decide) s268
          have s302 := gSg.at xq275 sS273.1 t247 rfl (by decide) s269
          have s303 := gSg.at xq275 sS273.1 t247 rfl (by decide) s270
          have s304 := gSg.at xq275 sS273.1 t247 rfl (by decide) s271
          have uq305 := gSg.uq xq275 uq272 (by decide)
          have sS306 : gSs rT 1027 tyq275 [56000, 56001, 56002, 56003, 71006, 114999] hq275 hq275 := gSs.rf xq275.1
          refine gz_s 1 (pc' := 176) (L' := [some (.ref x), some (.ref dr), some (.int (zi i))]) (S' := [.ref x]) rfl ?_
          refine gs_gtk rfl (by decide) rfl sS306.1 t277 rfl rfl s300 ?_
          by_cases hc307 : (z1 : Int) ≤ 0
          · refine gy_ifT (pc' := 211) rfl (by decide) (by decide) (by omega) hc307 ?_
            have G308 : gSg [114] [] [56000, 56001, 56002, 56003, 71006, 114999] ty h tyq275 hq275 := gSg.ss G276 sS306 (by decide)
            exact gz_end (I := .return_) (len := 1) rfl (Or.inl rfl) ⟨tyq275, G308, cq275_0, trivial, fq275_0, fq6_1, ecq275_0, tcq275_0, rfl, efq275_0, (by omega), (by omega), s301, (by omega), (by omega), (by omega), (by omega), (by dsimp only; omega), (by dsimp only; omega), (by dsimp only; omega), (by dsimp only; omega)⟩
          · refine gy_ifF rfl (by decide) (by decide) (by omega) hc307 ?_
            refine gz_s 1 (pc' := 183) (L' := [some (.ref x), some (.ref dr), some (.int (zi i))]) (S' := [.ref x]) rfl ?_
            refine gs_gtk rfl (by decide) rfl sS306.1 t277 rfl rfl s298 ?_
            refine gz_s 1 (pc' := 189) (L' := [some (.ref x), some (.ref dr), some (.int (zi i))]) (S' := [.int (zi 221), .ref sk]) rfl ?_
            have hl309 : hq275.2.2.2.1 cq275_0 = hq275.2.2.2.1 cq275_0 := congrFun sS306.2.2.2.2.1 cq275_0
            refine gz_call rfl (by decide) rfl (by decide) (by decide) (gcal_of rfl rfl rfl (Nat.le_of_ble_eq_true rfl) (gJ.recv (G := gGG) sS306.1 t279 rfl rfl)) (cl_Sink_putMarker _ sS306.1 sk t279 221 (by omega) cq275_0 ecq275_0 tcq275_0 fq275_0 efq275_0 (by omega) (by omega) uq305) (fun q310 _ wq310 => ?_)
            obtain ⟨pq310, oq310, hq310⟩ := q310
            obtain ⟨tyq310, xq310, cq310_0, ttq310, fq310_0, ecq310_0, tcq310_0, gq310, efq310_0, afq310_0, bfq310_0, uq310_0, uq310_1, uq310_2, uq310_3, uq310_4⟩ := wq310
            dsimp only at uq310_1 uq310_2 uq310_3 uq310_4
            refine ⟨_, gq310, ?_⟩
            show gz gPP gGG gcn _ _ 192 [some (.ref x), some (.ref dr), some (.int (zi i))] [] hq310 _
            have G311 : gSg [114] [] [56000, 56001, 56002, 56003, 71006, 114999] ty h tyq310 hq310 := gSg.tr (gSg.ss G276 sS306 (by decide)) xq310 (by decide) (by decide) (fun x hx => by cases hx)
            have t312 : tyq310 x = 71 := gSg.typ xq310 sS306.1 t277 rfl
            have t313 : tyq310 dr = 55 := gSg.typ xq310 sS306.1 t278 rfl
            have t314 : tyq310 sk = 56 := gSg.typ xq310 sS306.1 t279 rfl
            have t315 : tyq310 bv = 114 := gSg.typ xq310 sS306.1 t280 rfl
            have hl316 : hq310.2.2.2.1 bv = hq275.2.2.2.1 bv := gSg.len xq310 sS306.1 t280 rfl
            have t317 : tyq310 cq88_0 = 114 := gSg.typ xq310 sS306.1 t282 rfl
            have hl318 : hq310.2.2.2.1 cq88_0 = hq275.2.2.2.1 cq88_0 := gSg.len xq310 sS306.1 t282 rfl
            have t319 : tyq310 cq103_0 = 114 := gSg.typ xq310 sS306.1 t284 rfl
            have hl320 : hq310.2.2.2.1 cq103_0 = hq275.2.2.2.1 cq103_0 := gSg.len xq310 sS306.1 t284 rfl
            have t321 : tyq310 cq120_0 = 114 := gSg.typ xq310 sS306.1 t286 rfl
            have hl322 : hq310.2.2.2.1 cq120_0 = hq275.2.2.2.1 cq120_0 := gSg.len xq310 sS306.1 t286 rfl
            have t323 : tyq310 cq140_0 = 114 := gSg.typ xq310 sS306.1 t288 rfl
            have hl324 : hq310.2.2.2.1 cq140_0 = hq275.2.2.2.1 cq140_0 := gSg.len xq310 sS306.1 t288 rfl
            have t325 : tyq310 cq163_0 = 114 := gSg.typ xq310 sS306.1 t290 rfl
            have hl326 : hq310.2.2.2.1 cq163_0 = hq275.2.2.2.1 cq163_0 := gSg.len xq310 sS306.1 t290 rfl
            have t327 : tyq310 cq188_0 = 114 := gSg.typ xq310 sS306.1 t292 rfl
            have hl328 : hq310.2.2.2.1 cq188_0 = hq275.2.2.2.1 cq188_0 := gSg.len xq310 sS306.1 t292 rfl
            have t329 : tyq310 cq215_0 = 114 := gSg.typ xq310 sS306.1 t294 rfl
            have hl330 : hq310.2.2.2.1 cq215_0 = hq275.2.2.2.1 cq215_0 := gSg.len xq310 sS306.1 t294 rfl
            have t331 : tyq310 cq244_0 = 114 := gSg.typ xq310 sS306.1 t296 rfl
            have hl332 : hq310.2.2.2.1 cq244_0 = hq275.2.2.2.1 cq244_0 := gSg.len xq310 sS306.1 t296 rfl
            have t333 : tyq310 cq275_0 = 114 := gSg.typ xq310 sS306.1 tcq275_0 rfl
            have hl334 : hq310.2.2.2.1 cq275_0 = hq275.2.2.2.1 cq275_0 := gSg.len xq310 sS306.1 tcq275_0 rfl
            have s335 := gSg.at xq310 sS306.1 t277 rfl (by decide) s298
            have s336 := gSg.at xq310 sS306.1 t278 rfl (by decide) s299
            have s337 := gSg.at xq310 sS306.1 t277 rfl (by decide) s300
            have s338 := gSg.at xq310 sS306.1 t279 rfl (by decide) s301
            have s339 := gSg.at xq310 sS306.1 t278 rfl (by decide) s302
            have s340 := gSg.at xq310 sS306.1 t278 rfl (by decide) s303
            have s341 := gSg.at xq310 sS306.1 t278 rfl (by decide) s304
            have uq342 := gSg.uq xq310 uq305 (by decide)
            have sS343 : gSs rT 1027 tyq310 [56000, 56001, 56002, 56003, 71006, 114999] hq310 hq310 := gSs.rf xq310.1
            refine gz_s 1 (pc' := 193) (L' := [some (.ref x), some (.ref dr), some (.int (zi i))]) (S' := [.ref x]) rfl ?_
            refine gs_gtk rfl (by decide) rfl sS343.1 t312 rfl rfl s335 ?_
            refine gz_s 1 (pc' := 197) (L' := [some (.ref x), some (.ref dr), some (.int (zi i))]) (S' := [.int (zi 4), .ref sk]) rfl ?_
            have hl344 : hq310.2.2.2.1 cq310_0 = hq310.2.2.2.1 cq310_0 := congrFun sS343.2.2.2.2.1 cq310_0
            refine gz_call rfl (by decide) rfl (by decide) (by decide) (gcal_of rfl rfl rfl (Nat.le_of_ble_eq_true rfl) (gJ.recv (G := gGG) sS343.1 t314 rfl rfl)) (cl_Sink_putTwo _ sS343.1 sk t314 4 (by omega) cq310_0 ecq310_0 tcq310_0 fq310_0 efq310_0 (by omega) (by omega) uq342) (fun q345 _ wq345 => ?_)
            obtain ⟨pq345, oq345, hq345⟩ := q345
            obtain ⟨tyq345, xq345, cq345_0, ttq345, fq345_0, ecq345_0, tcq345_0, gq345, efq345_0, afq345_0, bfq345_0, uq345_0, uq345_1, uq345_2, uq345_3, uq345_4⟩ := wq345
            dsimp only at uq345_1 uq345_2 uq345_3 uq345_4
            refine ⟨_, gq345, ?_⟩
            show gz gPP gGG gcn _ _ 200 [some (.ref x), some (.ref dr), some (.int (zi i))] [] hq345 _
            have G346 : gSg [114] [] [56000, 56001, 56002, 56003, 71006, 114999] ty h tyq345 hq345 := gSg.tr (gSg.ss G311 sS343 (by decide)) xq345 (by decide) (by decide) (fun x hx => by cases hx)
            have t347 : tyq345 x = 71 := gSg.typ xq345 sS343.1 t312 rfl
            have t348 : tyq345 dr = 55 := gSg.typ xq345 sS343.1 t313 rfl
            have t349 : tyq345 sk = 56 := gSg.typ xq345 sS343.1 t314 rfl
            have t350 : tyq345 bv = 114 := gSg.typ xq345 sS343.1 t315 rfl
            have hl351 : hq345.2.2.2.1 bv = hq310.2.2.2.1 bv := gSg.len xq345 sS343.1 t315 rfl
            have t352 : tyq345 cq88_0 = 114 := gSg.typ xq345 sS343.1 t317 rfl
            have hl353 : hq345.2.2.2.1 cq88_0 = hq310.2.2.2.1 cq88_0 := gSg.len xq345 sS343.1 t317 rfl
            have t354 : tyq345 cq103_0 = 114 := gSg.typ xq345 sS343.1 t319 rfl
            have hl355 : hq345.2.2.2.1 cq103_0 = hq310.2.2.2.1 cq103_0 := gSg.len xq345 sS343.1 t319 rfl
            have t356 : tyq345 cq120_0 = 114 := gSg.typ xq345 sS343.1 t321 rfl
            have hl357 : hq345.2.2.2.1 cq120_0 = hq310.2.2.2.1 cq120_0 := gSg.len xq345 sS343.1 t321 rfl
            have t358 : tyq345 cq140_0 = 114 := gSg.typ xq345 sS343.1 t323 rfl
            have hl359 : hq345.2.2.2.1 cq140_0 = hq310.2.2.2.1 cq140_0 := gSg.len xq345 sS343.1 t323 rfl
            have t360 : tyq345 cq163_0 = 114 := gSg.typ xq345 sS343.1 t325 rfl
            have hl361 : hq345.2.2.2.1 cq163_0 = hq310.2.2.2.1 cq163_0 := gSg.len xq345 sS343.1 t325 rfl
            have t362 : tyq345 cq188_0 = 114 := gSg.typ xq345 sS343.1 t327 rfl
            have hl363 : hq345.2.2.2.1 cq188_0 = hq310.2.2.2.1 cq188_0 := gSg.len xq345 sS343.1 t327 rfl
            have t364 : tyq345 cq215_0 = 114 := gSg.typ xq345 sS343.1 t329 rfl
            have hl365 : hq345.2.2.2.1 cq215_0 = hq310.2.2.2.1 cq215_0 := gSg.len xq345 sS343.1 t329 rfl
            have t366 : tyq345 cq244_0 = 114 := gSg.typ xq345 sS343.1 t331 rfl
            have hl367 : hq345.2.2.2.1 cq244_0 = hq310.2.2.2.1 cq244_0 := gSg.len xq345 sS343.1 t331 rfl
            have t368 : tyq345 cq275_0 = 114 := gSg.typ xq345 sS343.1 t333 rfl
            have hl369 : hq345.2.2.2.1 cq275_0 = hq310.2.2.2.1 cq275_0 := gSg.len xq345 sS343.1 t333 rfl
            have t370 : tyq345 cq310_0 = 114 := gSg.typ xq345 sS343.1 tcq310_0 rfl
            have hl371 : hq345.2.2.2.1 cq310_0 = hq310.2.2.2.1 cq310_0 := gSg.len xq345 sS343.1 tcq310_0 rfl
            have s372 := gSg.at xq345 sS343.1 t312 rfl (by decide) s335
            have s373 := gSg.at xq345 sS343.1 t313 rfl (by decide) s336
            have s374 := gSg.at xq345 sS343.1 t312 rfl (by decide) s337
            have s375 := gSg.at xq345 sS343.1 t314 rfl (by decide) s338
            have s376 := gSg.at xq345 sS343.1 t313 rfl (by decide) s339
            have s377 := gSg.at xq345 sS343.1 t313 rfl (by decide) s340
            have s378 := gSg.at xq345 sS343.1 t313 rfl (by decide) s341
            have uq379 := gSg.uq xq345 uq342 (by decide)
            have sS380 : gSs rT 1027 tyq345 [56000, 56001, 56002, 56003, 71006, 114999] hq345 hq345 := gSs.rf xq345.1
            refine gz_s 1 (pc' := 201) (L' := [some (.ref x), some (.ref dr), some (.int (zi i))]) (S' := [.ref x]) rfl ?_
            refine gs_gtk rfl (by decide) rfl sS380.1 t347 rfl rfl s372 ?_
            refine gz_s 1 (pc' := 205) (L' := [some (.ref x), some (.ref dr), some (.int (zi i))]) (S' := [.ref x, .ref sk]) rfl ?_
            refine gs_gtk rfl (by decide) rfl sS380.1 t347 rfl rfl s374 ?_
            have hl381 : hq345.2.2.2.1 cq345_0 = hq345.2.2.2.1 cq345_0 := congrFun sS380.2.2.2.2.1 cq345_0
            refine gz_call rfl (by decide) rfl (by decide) (by decide) (gcal_of rfl rfl rfl (Nat.le_of_ble_eq_true rfl) (gJ.recv (G := gGG) sS380.1 t349 rfl rfl)) (cl_Sink_putTwo _ sS380.1 sk t349 z1 (by omega) cq345_0 ecq345_0 tcq345_0 fq345_0 efq345_0 (by omega) (by omega) uq379) (fun q382 _ wq382 => ?_)
            obtain ⟨pq382, oq382, hq382⟩ := q382
            obtain ⟨tyq382, xq382, cq382_0, ttq382, fq382_0, ecq382_0, tcq382_0, gq382, efq382_0, afq382_0, bfq382_0, uq382_0, uq382_1, uq382_2, uq382_3, uq382_4⟩ := wq382
            dsimp only at uq382_1 uq382_2 uq382_3 uq382_4
            refine ⟨_, gq382, ?_⟩
            show gz gPP gGG gcn _ _ 211 [some (.ref x), some (.ref dr), some (.int (zi i))] [] hq382 _
            have G383 : gSg [114] [] [56000, 56001, 56002, 56003, 71006, 114999] ty h tyq382 hq382 := gSg.tr (gSg.ss G346 sS380 (by decide)) xq382 (by decide) (by decide) (fun x hx => by cases hx)
            have t384 : tyq382 x = 71 := gSg.typ xq382 sS380.1 t347 rfl
            have t385 : tyq382 dr = 55 := gSg.typ xq382 sS380.1 t348 rfl
            have t386 : tyq382 sk = 56 := gSg.typ xq382 sS380.1 t349 rfl
            have t387 : tyq382 bv = 114 := gSg.typ xq382 sS380.1 t350 rfl
            have hl388 : hq382.2.2.2.1 bv = hq345.2.2.2.1 bv := gSg.len xq382 sS380.1 t350 rfl
            have t389 : tyq382 cq88_0 = 114 := gSg.typ xq382 sS380.1 t352 rfl
            have hl390 : hq382.2.2.2.1 cq88_0 = hq345.2.2.2.1 cq88_0 := gSg.len xq382 sS380.1 t352 rfl
            have t391 : tyq382 cq103_0 = 114 := gSg.typ xq382 sS380.1 t354 rfl
            have hl392 : hq382.2.2.2.1 cq103_0 = hq345.2.2.2.1 cq103_0 := gSg.len xq382 sS380.1 t354 rfl
            have t393 : tyq382 cq120_0 = 114 := gSg.typ xq382 sS380.1 t356 rfl
            have hl394 : hq382.2.2.2.1 cq120_0 = hq345.2.2.2.1 cq120_0 := gSg.len xq382 sS380.1 t356 rfl
            have t395 : tyq382 cq140_0 = 114 := gSg.typ xq382 sS380.1 t358 rfl
            have hl396 : hq382.2.2.2.1 cq140_0 = hq345.2.2.2.1 cq140_0 := gSg.len xq382 sS380.1 t358 rfl
            have t397 : tyq382 cq163_0 = 114 := gSg.typ xq382 sS380.1 t360 rfl
            have hl398 : hq382.2.2.2.1 cq163_0 = hq345.2.2.2.1 cq163_0 := gSg.len xq382 sS380.1 t360 rfl
            have t399 : tyq382 cq188_0 = 114 := gSg.typ xq382 sS380.1 t362 rfl
            have hl400 : hq382.2.2.2.1 cq188_0 = hq345.2.2.2.1 cq188_0 := gSg.len xq382 sS380.1 t362 rfl
            have t401 : tyq382 cq215_0 = 114 := gSg.typ xq382 sS380.1 t364 rfl
            have hl402 : hq382.2.2.2.1 cq215_0 = hq345.2.2.2.1 cq215_0 := gSg.len xq382 sS380.1 t364 rfl
            have t403 : tyq382 cq244_0 = 114 := gSg.typ xq382 sS380.1 t366 rfl
            have hl404 : hq382.2.2.2.1 cq244_0 = hq345.2.2.2.1 cq244_0 := gSg.len xq382 sS380.1 t366 rfl
            have t405 : tyq382 cq275_0 = 114 := gSg.typ xq382 sS380.1 t368 rfl
            have hl406 : hq382.2.2.2.1 cq275_0 = hq345.2.2.2.1 cq275_0 := gSg.len xq382 sS380.1 t368 rfl
            have t407 : tyq382 cq310_0 = 114 := gSg.typ xq382 sS380.1 t370 rfl
            have hl408 : hq382.2.2.2.1 cq310_0 = hq345.2.2.2.1 cq310_0 := gSg.len xq382 sS380.1 t370 rfl
            have t409 : tyq382 cq345_0 = 114 := gSg.typ xq382 sS380.1 tcq345_0 rfl
            have hl410 : hq382.2.2.2.1 cq345_0 = hq345.2.2.2.1 cq345_0 := gSg.len xq382 sS380.1 tcq345_0 rfl
            have s411 := gSg.at xq382 sS380.1 t347 rfl (by decide) s372
            have s412 := gSg.at xq382 sS380.1 t348 rfl (by decide) s373
            have s413 := gSg.at xq382 sS380.1 t347 rfl (by decide) s374
            have s414 := gSg.at xq382 sS380.1 t349 rfl (by decide) s375
            have s415 := gSg.at xq382 sS380.1 t348 rfl (by decide) s376
            have s416 := gSg.at xq382 sS380.1 t348 rfl (by decide) s377
            have s417 := gSg.at xq382 sS380.1 t348 rfl (by decide) s378
            have uq418 := gSg.uq xq382 uq379 (by decide)
            have sS419 : gSs rT 1027 tyq382 [56000, 56001, 56002, 56003, 71006, 114999] hq382 hq382 := gSs.rf xq382.1
            have G420 : gSg [114] [] [56000, 56001, 56002, 56003, 71006, 114999] ty h tyq382 hq382 := gSg.ss G383 sS419 (by decide)
            exact gz_end (I := .return_) (len := 1) rfl (Or.inl rfl) ⟨tyq382, G420, cq382_0, trivial, fq382_0, fq6_1, ecq382_0, tcq382_0, rfl, efq382_0, (by omega), (by omega), s414, (by omega), (by omega), (by omega), (by omega), (by dsimp only; omega), (by dsimp only; omega), (by dsimp only; omega), (by dsimp only; omega)⟩
        · refine gy_ifF rfl (by decide) (by decide) (by omega) hc86 ?_
          refine gz_s 2 (pc' := 99) (L' := [some (.ref x), some (.ref dr), some (.int (zi i))]) (S' := [.int (zi 194), .ref sk]) rfl ?_
          have hl421 : h82.2.2.2.1 bv = h82.2.2.2.1 bv := congrFun sh82.2.2.2.2.1 bv
          refine gz_call rfl (by decide) rfl (by decide) (by decide) (gcal_of rfl rfl rfl (Nat.le_of_ble_eq_true rfl) (gJ.recv (G := gGG) sh82.1 lp81c2 rfl rfl)) (cl_Sink_putMarker _ sh82.1 sk lp81c2 194 (by omega) bv lp81r0 lp81r1 cv lp81k4 (by omega) (by omega) lp81u) (fun q422 _ wq422 => ?_)
          obtain ⟨pq422, oq422, hq422⟩ := q422
          obtain ⟨tyq422, xq422, cq422_0, ttq422, fq422_0, ecq422_0, tcq422_0, gq422, efq422_0, afq422_0, bfq422_0, uq422_0, uq422_1, uq422_2, uq422_3, uq422_4⟩ := wq422
          dsimp only at uq422_1 uq422_2 uq422_3 uq422_4
          refine ⟨_, gq422, ?_⟩
          show gz gPP gGG gcn _ _ 102 [some (.ref x), some (.ref dr), some (.int (zi i))] [] hq422 _
          have G423 : gSg [114] [] [56000, 56001, 56002, 56003, 71006, 114999] ty h tyq422 hq422 := gSg.tr (gSg.ss lp81G sh82 (by decide)) xq422 (by decide) (by decide) (fun x hx => by cases hx)
          have t424 : tyq422 x = 71 := gSg.typ xq422 sh82.1 lp81c0 rfl
          have t425 : tyq422 dr = 55 := gSg.typ xq422 sh82.1 lp81c1 rfl
          have t426 : tyq422 sk = 56 := gSg.typ xq422 sh82.1 lp81c2 rfl
          have t427 : tyq422 bv = 114 := gSg.typ xq422 sh82.1 lp81r1 rfl
          have hl428 : hq422.2.2.2.1 bv = h82.2.2.2.1 bv := gSg.len xq422 sh82.1 lp81r1 rfl
          have s429 := gSg.at xq422 sh82.1 lp81c0 rfl (by decide) lp81k0
          have s430 := gSg.at xq422 sh82.1 lp81c1 rfl (by decide) lp81k1
          have s431 := gSg.at xq422 sh82.1 lp81c0 rfl (by decide) lp81k2
          have s432 := gSg.at xq422 sh82.1 lp81c2 rfl (by decide) lp81k3
          have s433 := gSg.at xq422 sh82.1 lp81c1 rfl (by decide) ez85
          have uq434 := gSg.uq xq422 lp81u (by decide)
          have sS435 : gSs rT 1027 tyq422 [56000, 56001, 56002, 56003, 71006, 114999] hq422 hq422 := gSs.rf xq422.1
          refine gz_s 1 (pc' := 103) (L' := [some (.ref x), some (.ref dr), some (.int (zi i))]) (S' := [.ref x]) rfl ?_
          refine gs_gtk rfl (by decide) rfl sS435.1 t424 rfl rfl s429 ?_
          refine gz_s 1 (pc' := 108) (L' := [some (.ref x), some (.ref dr), some (.int (zi i))]) (S' := [.int (zi 11), .ref sk]) rfl ?_
          have hl436 : hq422.2.2.2.1 cq422_0 = hq422.2.2.2.1 cq422_0 := congrFun sS435.2.2.2.2.1 cq422_0
          refine gz_call rfl (by decide) rfl (by decide) (by decide) (gcal_of rfl rfl rfl (Nat.le_of_ble_eq_true rfl) (gJ.recv (G := gGG) sS435.1 t426 rfl rfl)) (cl_Sink_putTwo _ sS435.1 sk t426 11 (by omega) cq422_0 ecq422_0 tcq422_0 fq422_0 efq422_0 (by omega) (by omega) uq434) (fun q437 _ wq437 => ?_)
          obtain ⟨pq437, oq437, hq437⟩ := q437
          obtain ⟨tyq437, xq437, cq437_0, ttq437, fq437_0, ecq437_0, tcq437_0, gq437, efq437_0, afq437_0, bfq437_0, uq437_0, uq437_1, uq437_2, uq437_3, uq437_4⟩ := wq437
          dsimp only at uq437_1 uq437_2 uq437_3 uq437_4
          refine ⟨_, gq437, ?_⟩
          show gz gPP gGG gcn _ _ 111 [some (.ref x), some (.ref dr), some (.int (zi i))] [] hq437 _
          have G438 : gSg [114] [] [56000, 56001, 56002, 56003, 71006, 114999] ty h tyq437 hq437 := gSg.tr (gSg.ss G423 sS435 (by decide)) xq437 (by decide) (by decide) (fun x hx => by cases hx)
          have t439 : tyq437 x = 71 := gSg.typ xq437 sS435.1 t424 rfl
          have t440 : tyq437 dr = 55 := gSg.typ xq437 sS435.1 t425 rfl
          have t441 : tyq437 sk = 56 := gSg.typ xq437 sS435.1 t426 rfl
          have t442 : tyq437 bv = 114 := gSg.typ xq437 sS435.1 t427 rfl
          have hl443 : hq437.2.2.2.1 bv = hq422.2.2.2.1 bv := gSg.len xq437 sS435.1 t427 rfl
          have t444 : tyq437 cq422_0 = 114 := gSg.typ xq437 sS435.1 tcq422_0 rfl
          have hl445 : hq437.2.2.2.1 cq422_0 = hq422.2.2.2.1 cq422_0 := gSg.len xq437 sS435.1 tcq422_0 rfl
          have s446 := gSg.at xq437 sS435.1 t424 rfl (by decide) s429
          have s447 := gSg.at xq437 sS435.1 t425 rfl (by decide) s430
          have s448 := gSg.at xq437 sS435.1 t424 rfl (by decide) s431
          have s449 := gSg.at xq437 sS435.1 t426 rfl (by decide) s432
          have s450 := gSg.at xq437 sS435.1 t425 rfl (by decide) s433
          have uq451 := gSg.uq xq437 uq434 (by decide)
          have sS452 : gSs rT 1027 tyq437 [56000, 56001, 56002, 56003, 71006, 114999] hq437 hq437 := gSs.rf xq437.1
          refine gz_s 1 (pc' := 112) (L' := [some (.ref x), some (.ref dr), some (.int (zi i))]) (S' := [.ref x]) rfl ?_
          refine gs_gtk rfl (by decide) rfl sS452.1 t439 rfl rfl s446 ?_
          refine gz_s 1 (pc' := 117) (L' := [some (.ref x), some (.ref dr), some (.int (zi i))]) (S' := [.int (zi 8), .ref sk]) rfl ?_
          have hl453 : hq437.2.2.2.1 cq437_0 = hq437.2.2.2.1 cq437_0 := congrFun sS452.2.2.2.2.1 cq437_0
          refine gz_call rfl (by decide) rfl (by decide) (by decide) (gcal_of rfl rfl rfl (Nat.le_of_ble_eq_true rfl) (gJ.recv (G := gGG) sS452.1 t441 rfl rfl)) (cl_Sink_putByte _ sS452.1 sk t441 8 (by omega) cq437_0 ecq437_0 tcq437_0 fq437_0 efq437_0 (by omega) (by omega) uq451) (fun q454 _ wq454 => ?_)
          obtain ⟨pq454, oq454, hq454⟩ := q454
          obtain ⟨tyq454, xq454, cq454_0, ttq454, fq454_0, ecq454_0, tcq454_0, gq454, efq454_0, afq454_0, bfq454_0, uq454_0, uq454_1, uq454_2, uq454_3, uq454_4⟩ := wq454
          dsimp only at uq454_1 uq454_2 uq454_3 uq454_4
          refine ⟨_, gq454, ?_⟩
          show gz gPP gGG gcn _ _ 120 [some (.ref x), some (.ref dr), some (.int (zi i))] [] hq454 _
          have G455 : gSg [114] [] [56000, 56001, 56002, 56003, 71006, 114999] ty h tyq454 hq454 := gSg.tr (gSg.ss G438 sS452 (by decide)) xq454 (by decide) (by decide) (fun x hx => by cases hx)
          have t456 : tyq454 x = 71 := gSg.typ xq454 sS452.1 t439 rfl
          have t457 : tyq454 dr = 55 := gSg.typ xq454 sS452.1 t440 rfl
          have t458 : tyq454 sk = 56 := gSg.typ xq454 sS452.1 t441 rfl
          have t459 : tyq454 bv = 114 := gSg.typ xq454 sS452.1 t442 rfl
          have hl460 : hq454.2.2.2.1 bv = hq437.2.2.2.1 bv := gSg.len xq454 sS452.1 t442 rfl
          have t461 : tyq454 cq422_0 = 114 := gSg.typ xq454 sS452.1 t444 rfl
          have hl462 : hq454.2.2.2.1 cq422_0 = hq437.2.2.2.1 cq422_0 := gSg.len xq454 sS452.1 t444 rfl
          have t463 : tyq454 cq437_0 = 114 := gSg.typ xq454 sS452.1 tcq437_0 rfl
          have hl464 : hq454.2.2.2.1 cq437_0 = hq437.2.2.2.1 cq437_0 := gSg.len xq454 sS452.1 tcq437_0 rfl
          have s465 := gSg.at xq454 sS452.1 t439 rfl (by decide) s446
          have s466 := gSg.at xq454 sS452.1 t440 rfl (by decide) s447
          have s467 := gSg.at xq454 sS452.1 t439 rfl (by decide) s448
          have s468 := gSg.at xq454 sS452.1 t441 rfl (by decide) s449
          have s469 := gSg.at xq454 sS452.1 t440 rfl (by decide) s450
          have uq470 := gSg.uq xq454 uq451 (by decide)
          have sS471 : gSs rT 1027 tyq454 [56000, 56001, 56002, 56003, 71006, 114999] hq454 hq454 := gSs.rf xq454.1
          refine gz_s 1 (pc' := 121) (L' := [some (.ref x), some (.ref dr), some (.int (zi i))]) (S' := [.ref x]) rfl ?_
          refine gs_gtk rfl (by decide) rfl sS471.1 t456 rfl rfl s465 ?_
          refine gz_s 1 (pc' := 125) (L' := [some (.ref x), some (.ref dr), some (.int (zi i))]) (S' := [.ref dr, .ref sk]) rfl ?_
          refine gs_get rfl (by decide) rfl sS471.1 t457 rfl rfl rfl (fun z472 ez472 az472 bz472 => ?_)
          have hl473 : hq454.2.2.2.1 cq454_0 = hq454.2.2.2.1 cq454_0 := congrFun sS471.2.2.2.2.1 cq454_0
          refine gz_call rfl (by decide) rfl (by decide) (by decide) (gcal_of rfl rfl rfl (Nat.le_of_ble_eq_true rfl) (gJ.recv (G := gGG) sS471.1 t458 rfl rfl)) (cl_Sink_putTwo _ sS471.1 sk t458 z472 (by omega) cq454_0 ecq454_0 tcq454_0 fq454_0 efq454_0 (by omega) (by omega) uq470) (fun q474 _ wq474 => ?_)
          obtain ⟨pq474, oq474, hq474⟩ := q474
          obtain ⟨tyq474, xq474, cq474_0, ttq474, fq474_0, ecq474_0, tcq474_0, gq474, efq474_0, afq474_0, bfq474_0, uq474_0, uq474_1, uq474_2, uq474_3, uq474_4⟩ := wq474
          dsimp only at uq474_1 uq474_2 uq474_3 uq474_4
          refine ⟨_, gq474, ?_⟩
          show gz gPP gGG gcn _ _ 131 [some (.ref x), some (.ref dr), some (.int (zi i))] [] hq474 _
          have G475 : gSg [114] [] [56000, 56001, 56002, 56003, 71006, 114999] ty h tyq474 hq474 := gSg.tr (gSg.ss G455 sS471 (by decide)) xq474 (by decide) (by decide) (fun x hx => by cases hx)
          have t476 : tyq474 x = 71 := gSg.typ xq474 sS471.1 t456 rfl
          have t477 : tyq474 dr = 55 := gSg.typ xq474 sS471.1 t457 rfl
          have t478 : tyq474 sk = 56 := gSg.typ xq474 sS471.1 t458 rfl
          have t479 : tyq474 bv = 114 := gSg.typ xq474 sS471.1 t459 rfl
          have hl480 : hq474.2.2.2.1 bv = hq454.2.2.2.1 bv := gSg.len xq474 sS471.1 t459 rfl
          have t481 : tyq474 cq422_0 = 114 := gSg.typ xq474 sS471.1 t461 rfl
          have hl482 : hq474.2.2.2.1 cq422_0 = hq454.2.2.2.1 cq422_0 := gSg.len xq474 sS471.1 t461 rfl
          have t483 : tyq474 cq437_0 = 114 := gSg.typ xq474 sS471.1 t463 rfl
          have hl484 : hq474.2.2.2.1 cq437_0 = hq454.2.2.2.1 cq437_0 := gSg.len xq474 sS471.1 t463 rfl
          have t485 : tyq474 cq454_0 = 114 := gSg.typ xq474 sS471.1 tcq454_0 rfl
          have hl486 : hq474.2.2.2.1 cq454_0 = hq454.2.2.2.1 cq454_0 := gSg.len xq474 sS471.1 tcq454_0 rfl
          have s487 := gSg.at xq474 sS471.1 t456 rfl (by decide) s465
          have s488 := gSg.at xq474 sS471.1 t457 rfl (by decide) s466
          have s489 := gSg.at xq474 sS471.1 t456 rfl (by decide) s467
          have s490 := gSg.at xq474 sS471.1 t458 rfl (by decide) s468
          have s491 := gSg.at xq474 sS471.1 t457 rfl (by decide) s469
          have s492 := gSg.at xq474 sS471.1 t457 rfl (by decide) ez472
          have uq493 := gSg.uq xq474 uq470 (by decide)
          have sS494 : gSs rT 1027 tyq474 [56000, 56001, 56002, 56003, 71006, 114999] hq474 hq474 := gSs.rf xq474.1
          refine gz_s 1 (pc' := 132) (L' := [some (.ref x), some (.ref dr), some (.int (zi i))]) (S' := [.ref x]) rfl ?_
          refine gs_gtk rfl (by decide) rfl sS494.1 t476 rfl rfl s487 ?_
          refine gz_s 1 (pc' := 136) (L' := [some (.ref x), some (.ref dr), some (.int (zi i))]) (S' := [.ref dr, .ref sk]) rfl ?_
          refine gs_get rfl (by decide) rfl sS494.1 t477 rfl rfl rfl (fun z495 ez495 az495 bz495 => ?_)
          have hl496 : hq474.2.2.2.1 cq474_0 = hq474.2.2.2.1 cq474_0 := congrFun sS494.2.2.2.2.1 cq474_0
          refine gz_call rfl (by decide) rfl (by decide) (by decide) (gcal_of rfl rfl rfl (Nat.le_of_ble_eq_true rfl) (gJ.recv (G := gGG) sS494.1 t478 rfl rfl)) (cl_Sink_putTwo _ sS494.1 sk t478 z495 (by omega) cq474_0 ecq474_0 tcq474_0 fq474_0 efq474_0 (by omega) (by omega) uq493) (fun q497 _ wq497 => ?_)
          obtain ⟨pq497, oq497, hq497⟩ := q497
          obtain ⟨tyq497, xq497, cq497_0, ttq497, fq497_0, ecq497_0, tcq497_0, gq497, efq497_0, afq497_0, bfq497_0, uq497_0, uq497_1, uq497_2, uq497_3, uq497_4⟩ := wq497
          dsimp only at uq497_1 uq497_2 uq497_3 uq497_4
          refine ⟨_, gq497, ?_⟩
          show gz gPP gGG gcn _ _ 142 [some (.ref x), some (.ref dr), some (.int (zi i))] [] hq497 _
          have G498 : gSg [114] [] [56000, 56001, 56002, 56003, 71006, 114999] ty h tyq497 hq497 := gSg.tr (gSg.ss G475 sS494 (by decide)) xq497 (by decide) (by decide) (fun x hx => by cases hx)
          have t499 : tyq497 x = 71 := gSg.typ xq497 sS494.1 t476 rfl
          have t500 : tyq497 dr = 55 := gSg.typ xq497 sS494.1 t477 rfl
          have t501 : tyq497 sk = 56 := gSg.typ xq497 sS494.1 t478 rfl
          have t502 : tyq497 bv = 114 := gSg.typ xq497 sS494.1 t479 rfl
          have hl503 : hq497.2.2.2.1 bv = hq474.2.2.2.1 bv := gSg.len xq497 sS494.1 t479 rfl
          have t504 : tyq497 cq422_0 = 114 := gSg.typ xq497 sS494.1 t481 rfl
          have hl505 : hq497.2.2.2.1 cq422_0 = hq474.2.2.2.1 cq422_0 := gSg.len xq497 sS494.1 t481 rfl
          have t506 : tyq497 cq437_0 = 114 := gSg.typ xq497 sS494.1 t483 rfl
          have hl507 : hq497.2.2.2.1 cq437_0 = hq474.2.2.2.1 cq437_0 := gSg.len xq497 sS494.1 t483 rfl
          have t508 : tyq497 cq454_0 = 114 := gSg.typ xq497 sS494.1 t485 rfl
          have hl509 : hq497.2.2.2.1 cq454_0 = hq474.2.2.2.1 cq454_0 := gSg.len xq497 sS494.1 t485 rfl
          have t510 : tyq497 cq474_0 = 114 := gSg.typ xq497 sS494.1 tcq474_0 rfl
          have hl511 : hq497.2.2.2.1 cq474_0 = hq474.2.2.2.1 cq474_0 := gSg.len xq497 sS494.1 tcq474_0 rfl
          have s512 := gSg.at xq497 sS494.1 t476 rfl (by decide) s487
          have s513 := gSg.at xq497 sS494.1 t477 rfl (by decide) s488
          have s514 := gSg.at xq497 sS494.1 t476 rfl (by decide) s489
          have s515 := gSg.at xq497 sS494.1 t478 rfl (by decide) s490
          have s516 := gSg.at xq497 sS494.1 t477 rfl (by decide) s491
          have s517 := gSg.at xq497 sS494.1 t477 rfl (by decide) s492
          have s518 := gSg.at xq497 sS494.1 t477 rfl (by decide) ez495
          have uq519 := gSg.uq xq497 uq493 (by decide)
          have sS520 : gSs rT 1027 tyq497 [56000, 56001, 56002, 56003, 71006, 114999] hq497 hq497 := gSs.rf xq497.1
          refine gz_s 1 (pc' := 143) (L' := [some (.ref x), some (.ref dr), some (.int (zi i))]) (S' := [.ref x]) rfl ?_
          refine gs_gtk rfl (by decide) rfl sS520.1 t499 rfl rfl s512 ?_
          refine gz_s 1 (pc' := 147) (L' := [some (.ref x), some (.ref dr), some (.int (zi i))]) (S' := [.int (zi 1), .ref sk]) rfl ?_
          have hl521 : hq497.2.2.2.1 cq497_0 = hq497.2.2.2.1 cq497_0 := congrFun sS520.2.2.2.2.1 cq497_0
          refine gz_call rfl (by decide) rfl (by decide) (by decide) (gcal_of rfl rfl rfl (Nat.le_of_ble_eq_true rfl) (gJ.recv (G := gGG) sS520.1 t501 rfl rfl)) (cl_Sink_putByte _ sS520.1 sk t501 1 (by omega) cq497_0 ecq497_0 tcq497_0 fq497_0 efq497_0 (by omega) (by omega) uq519) (fun q522 _ wq522 => ?_)
          obtain ⟨pq522, oq522, hq522⟩ := q522
          obtain ⟨tyq522, xq522, cq522_0, ttq522, fq522_0, ecq522_0, tcq522_0, gq522, efq522_0, afq522_0, bfq522_0, uq522_0, uq522_1, uq522_2, uq522_3, uq522_4⟩ := wq522
          dsimp only at uq522_1 uq522_2 uq522_3 uq522_4
          refine ⟨_, gq522, ?_⟩
          show gz gPP gGG gcn _ _ 150 [some (.ref x), some (.ref dr), some (.int (zi i))] [] hq522 _
          have G523 : gSg [114] [] [56000, 56001, 56002, 56003, 71006, 114999] ty h tyq522 hq522 := gSg.tr (gSg.ss G498 sS520 (by decide)) xq522 (by decide) (by decide) (fun x hx => by cases hx)
          have t524 : tyq522 x = 71 := gSg.typ xq522 sS520.1 t499 rfl
          have t525 : tyq522 dr = 55 := gSg.typ xq522 sS520.1 t500 rfl
          have t526 : tyq522 sk = 56 := gSg.typ xq522 sS520.1 t501 rfl
          have t527 : tyq522 bv = 114 := gSg.typ xq522 sS520.1 t502 rfl
          have hl528 : hq522.2.2.2.1 bv = hq497.2.2.2.1 bv := gSg.len xq522 sS520.1 t502 rfl
          have t529 : tyq522 cq422_0 = 114 := gSg.typ xq522 sS520.1 t504 rfl
          have hl530 : hq522.2.2.2.1 cq422_0 = hq497.2.2.2.1 cq422_0 := gSg.len xq522 sS520.1 t504 rfl
          have t531 : tyq522 cq437_0 = 114 := gSg.typ xq522 sS520.1 t506 rfl
          have hl532 : hq522.2.2.2.1 cq437_0 = hq497.2.2.2.1 cq437_0 := gSg.len xq522 sS520.1 t506 rfl
          have t533 : tyq522 cq454_0 = 114 := gSg.typ xq522 sS520.1 t508 rfl
          have hl534 : hq522.2.2.2.1 cq454_0 = hq497.2.2.2.1 cq454_0 := gSg.len xq522 sS520.1 t508 rfl
          have t535 : tyq522 cq474_0 = 114 := gSg.typ xq522 sS520.1 t510 rfl
          have hl536 : hq522.2.2.2.1 cq474_0 = hq497.2.2.2.1 cq474_0 := gSg.len xq522 sS520.1 t510 rfl
          have t537 : tyq522 cq497_0 = 114 := gSg.typ xq522 sS520.1 tcq497_0 rfl
          have hl538 : hq522.2.2.2.1 cq497_0 = hq497.2.2.2.1 cq497_0 := gSg.len xq522 sS520.1 tcq497_0 rfl
          have s539 := gSg.at xq522 sS520.1 t499 rfl (by decide) s512
          have s540 := gSg.at xq522 sS520.1 t500 rfl (by decide) s513
          have s541 := gSg.at xq522 sS520.1 t499 rfl (by decide) s514
          have s542 := gSg.at xq522 sS520.1 t501 rfl (by decide) s515
          have s543 := gSg.at xq522 sS520.1 t500 rfl (by decide) s516
          have s544 := gSg.at xq522 sS520.1 t500 rfl (by decide) s517
          have s545 := gSg.at xq522 sS520.1 t500 rfl (by decide) s518
          have uq546 := gSg.uq xq522 uq519 (by decide)
          have sS547 : gSs rT 1027 tyq522 [56000, 56001, 56002, 56003, 71006, 114999] hq522 hq522 := gSs.rf xq522.1
          refine gz_s 1 (pc' := 151) (L' := [some (.ref x), some (.ref dr), some (.int (zi i))]) (S' := [.ref x]) rfl ?_
          refine gs_gtk rfl (by decide) rfl sS547.1 t524 rfl rfl s539 ?_
          refine gz_s 1 (pc' := 155) (L' := [some (.ref x), some (.ref dr), some (.int (zi i))]) (S' := [.int (zi 1), .ref sk]) rfl ?_
          have hl548 : hq522.2.2.2.1 cq522_0 = hq522.2.2.2.1 cq522_0 := congrFun sS547.2.2.2.2.1 cq522_0
          refine gz_call rfl (by decide) rfl (by decide) (by decide) (gcal_of rfl rfl rfl (Nat.le_of_ble_eq_true rfl) (gJ.recv (G := gGG) sS547.1 t526 rfl rfl)) (cl_Sink_putByte _ sS547.1 sk t526 1 (by omega) cq522_0 ecq522_0 tcq522_0 fq522_0 efq522_0 (by omega) (by omega) uq546) (fun q549 _ wq549 => ?_)
          obtain ⟨pq549, oq549, hq549⟩ := q549
          obtain ⟨tyq549, xq549, cq549_0, ttq549, fq549_0, ecq549_0, tcq549_0, gq549, efq549_0, afq549_0, bfq549_0, uq549_0, uq549_1, uq549_2, uq549_3, uq549_4⟩ := wq549
          dsimp only at uq549_1 uq549_2 uq549_3 uq549_4
          refine ⟨_, gq549, ?_⟩
          show gz gPP gGG gcn _ _ 158 [some (.ref x), some (.ref dr), some (.int (zi i))] [] hq549 _
          have G550 : gSg [114] [] [56000, 56001, 56002, 56003, 71006, 114999] ty h tyq549 hq549 := gSg.tr (gSg.ss G523 sS547 (by decide)) xq549 (by decide) (by decide) (fun x hx => by cases hx)
          have t551 : tyq549 x = 71 := gSg.typ xq549 sS547.1 t524 rfl
          have t552 : tyq549 dr = 55 := gSg.typ xq549 sS547.1 t525 rfl
          have t553 : tyq549 sk = 56 := gSg.typ xq549 sS547.1 t526 rfl
          have t554 : tyq549 bv = 114 := gSg.typ xq549 sS547.1 t527 rfl
          have hl555 : hq549.2.2.2.1 bv = hq522.2.2.2.1 bv := gSg.len xq549 sS547.1 t527 rfl
          have t556 : tyq549 cq422_0 = 114 := gSg.typ xq549 sS547.1 t529 rfl
          have hl557 : hq549.2.2.2.1 cq422_0 = hq522.2.2.2.1 cq422_0 := gSg.len xq549 sS547.1 t529 rfl
          have t558 : tyq549 cq437_0 = 114 := gSg.typ xq549 sS547.1 t531 rfl
          have hl559 : hq549.2.2.2.1 cq437_0 = hq522.2.2.2.1 cq437_0 := gSg.len xq549 sS547.1 t531 rfl
          have t560 : tyq549 cq454_0 = 114 := gSg.typ xq549 sS547.1 t533 rfl
          have hl561 : hq549.2.2.2.1 cq454_0 = hq522.2.2.2.1 cq454_0 := gSg.len xq549 sS547.1 t533 rfl
          have t562 : tyq549 cq474_0 = 114 := gSg.typ xq549 sS547.1 t535 rfl
          have hl563 : hq549.2.2.2.1 cq474_0 = hq522.2.2.2.1 cq474_0 := gSg.len xq549 sS547.1 t535 rfl
          have t564 : tyq549 cq497_0 = 114 := gSg.typ xq549 sS547.1 t537 rfl
          have hl565 : hq549.2.2.2.1 cq497_0 = hq522.2.2.2.1 cq497_0 := gSg.len xq549 sS547.1 t537 rfl
          have t566 : tyq549 cq522_0 = 114 := gSg.typ xq549 sS547.1 tcq522_0 rfl
          have hl567 : hq549.2.2.2.1 cq522_0 = hq522.2.2.2.1 cq522_0 := gSg.len xq549 sS547.1 tcq522_0 rfl
          have s568 := gSg.at xq549 sS547.1 t524 rfl (by decide) s539
          have s569 := gSg.at xq549 sS547.1 t525 rfl (by decide) s540
          have s570 := gSg.at xq549 sS547.1 t524 rfl (by decide) s541
          have s571 := gSg.at xq549 sS547.1 t526 rfl (by decide) s542
          have s572 := gSg.at xq549 sS547.1 t525 rfl (by decide) s543
          have s573 := gSg.at xq549 sS547.1 t525 rfl (by decide) s544
          have s574 := gSg.at xq549 sS547.1 t525 rfl (by decide) s545
          have uq575 := gSg.uq xq549 uq546 (by decide)
          have sS576 : gSs rT 1027 tyq549 [56000, 56001, 56002, 56003, 71006, 114999] hq549 hq549 := gSs.rf xq549.1
          refine gz_s 1 (pc' := 159) (L' := [some (.ref x), some (.ref dr), some (.int (zi i))]) (S' := [.ref x]) rfl ?_
          refine gs_gtk rfl (by decide) rfl sS576.1 t551 rfl rfl s568 ?_
          refine gz_s 1 (pc' := 164) (L' := [some (.ref x), some (.ref dr), some (.int (zi i))]) (S' := [.int (zi 17), .ref sk]) rfl ?_
          have hl577 : hq549.2.2.2.1 cq549_0 = hq549.2.2.2.1 cq549_0 := congrFun sS576.2.2.2.2.1 cq549_0
          refine gz_call rfl (by decide) rfl (by decide) (by decide) (gcal_of rfl rfl rfl (Nat.le_of_ble_eq_true rfl) (gJ.recv (G := gGG) sS576.1 t553 rfl rfl)) (cl_Sink_putByte _ sS576.1 sk t553 17 (by omega) cq549_0 ecq549_0 tcq549_0 fq549_0 efq549_0 (by omega) (by omega) uq575) (fun q578 _ wq578 => ?_)
          obtain ⟨pq578, oq578, hq578⟩ := q578
          obtain ⟨tyq578, xq578, cq578_0, ttq578, fq578_0, ecq578_0, tcq578_0, gq578, efq578_0, afq578_0, bfq578_0, uq578_0, uq578_1, uq578_2, uq578_3, uq578_4⟩ := wq578
          dsimp only at uq578_1 uq578_2 uq578_3 uq578_4
          refine ⟨_, gq578, ?_⟩
          show gz gPP gGG gcn _ _ 167 [some (.ref x), some (.ref dr), some (.int (zi i))] [] hq578 _
          have G579 : gSg [114] [] [56000, 56001, 56002, 56003, 71006, 114999] ty h tyq578 hq578 := gSg.tr (gSg.ss G550 sS576 (by decide)) xq578 (by decide) (by decide) (fun x hx => by cases hx)
          have t580 : tyq578 x = 71 := gSg.typ xq578 sS576.1 t551 rfl
          have t581 : tyq578 dr = 55 := gSg.typ xq578 sS576.1 t552 rfl
          have t582 : tyq578 sk = 56 := gSg.typ xq578 sS576.1 t553 rfl
          have t583 : tyq578 bv = 114 := gSg.typ xq578 sS576.1 t554 rfl
          have hl584 : hq578.2.2.2.1 bv = hq549.2.2.2.1 bv := gSg.len xq578 sS576.1 t554 rfl
          have t585 : tyq578 cq422_0 = 114 := gSg.typ xq578 sS576.1 t556 rfl
          have hl586 : hq578.2.2.2.1 cq422_0 = hq549.2.2.2.1 cq422_0 := gSg.len xq578 sS576.1 t556 rfl
          have t587 : tyq578 cq437_0 = 114 := gSg.typ xq578 sS576.1 t558 rfl
          have hl588 : hq578.2.2.2.1 cq437_0 = hq549.2.2.2.1 cq437_0 := gSg.len xq578 sS576.1 t558 rfl
          have t589 : tyq578 cq454_0 = 114 := gSg.typ xq578 sS576.1 t560 rfl
          have hl590 : hq578.2.2.2.1 cq454_0 = hq549.2.2.2.1 cq454_0 := gSg.len xq578 sS576.1 t560 rfl
          have t591 : tyq578 cq474_0 = 114 := gSg.typ xq578 sS576.1 t562 rfl
          have hl592 : hq578.2.2.2.1 cq474_0 = hq549.2.2.2.1 cq474_0 := gSg.len xq578 sS576.1 t562 rfl
          have t593 : tyq578 cq497_0 = 114 := gSg.typ xq578 sS576.1 t564 rfl
          have hl594 : hq578.2.2.2.1 cq497_0 = hq549.2.2.2.1 cq497_0 := gSg.len xq578 sS576.1 t564 rfl
          have t595 : tyq578 cq522_0 = 114 := gSg.typ xq578 sS576.1 t566 rfl
          have hl596 : hq578.2.2.2.1 cq522_0 = hq549.2.2.2.1 cq522_0 := gSg.len xq578 sS576.1 t566 rfl
          have t597 : tyq578 cq549_0 = 114 := gSg.typ xq578 sS576.1 tcq549_0 rfl
          have hl598 : hq578.2.2.2.1 cq549_0 = hq549.2.2.2.1 cq549_0 := gSg.len xq578 sS576.1 tcq549_0 rfl
          have s599 := gSg.at xq578 sS576.1 t551 rfl (by decide) s568
          have s600 := gSg.at xq578 sS576.1 t552 rfl (by decide) s569
          have s601 := gSg.at xq578 sS576.1 t551 rfl (by decide) s570
          have s602 := gSg.at xq578 sS576.1 t553 rfl (by decide) s571
          have s603 := gSg.at xq578 sS576.1 t552 rfl (by decide) s572
          have s604 := gSg.at xq578 sS576.1 t552 rfl (by decide) s573
          have s605 := gSg.at xq578 sS576.1 t552 rfl (by decide) s574
          have uq606 := gSg.uq xq578 uq575 (by decide)
          have sS607 : gSs rT 1027 tyq578 [56000, 56001, 56002, 56003, 71006, 114999] hq578 hq578 := gSs.rf xq578.1
          refine gz_s 1 (pc' := 168) (L' := [some (.ref x), some (.ref dr), some (.int (zi i))]) (S' := [.ref x]) rfl ?_
          refine gs_gtk rfl (by decide) rfl sS607.1 t580 rfl rfl s599 ?_
          refine gz_s 1 (pc' := 172) (L' := [some (.ref x), some (.ref dr), some (.int (zi i))]) (S' := [.int (zi 0), .ref sk]) rfl ?_
          have hl608 : hq578.2.2.2.1 cq578_0 = hq578.2.2.2.1 cq578_0 := congrFun sS607.2.2.2.2.1 cq578_0
          refine gz_call rfl (by decide) rfl (by decide) (by decide) (gcal_of rfl rfl rfl (Nat.le_of_ble_eq_true rfl) (gJ.recv (G := gGG) sS607.1 t582 rfl rfl)) (cl_Sink_putByte _ sS607.1 sk t582 0 (by omega) cq578_0 ecq578_0 tcq578_0 fq578_0 efq578_0 (by omega) (by omega) uq606) (fun q609 _ wq609 => ?_)
          obtain ⟨pq609, oq609, hq609⟩ := q609
          obtain ⟨tyq609, xq609, cq609_0, ttq609, fq609_0, ecq609_0, tcq609_0, gq609, efq609_0, afq609_0, bfq609_0, uq609_0, uq609_1, uq609_2, uq609_3, uq609_4⟩ := wq609
          dsimp only at uq609_1 uq609_2 uq609_3 uq609_4
          refine ⟨_, gq609, ?_⟩
          show gz gPP gGG gcn _ _ 175 [some (.ref x), some (.ref dr), some (.int (zi i))] [] hq609 _
          have G610 : gSg [114] [] [56000, 56001, 56002, 56003, 71006, 114999] ty h tyq609 hq609 := gSg.tr (gSg.ss G579 sS607 (by decide)) xq609 (by decide) (by decide) (fun x hx => by cases hx)
          have t611 : tyq609 x = 71 := gSg.typ xq609 sS607.1 t580 rfl
          have t612 : tyq609 dr = 55 := gSg.typ xq609 sS607.1 t581 rfl
          have t613 : tyq609 sk = 56 := gSg.typ xq609 sS607.1 t582 rfl
          have t614 : tyq609 bv = 114 := gSg.typ xq609 sS607.1 t583 rfl
          have hl615 : hq609.2.2.2.1 bv = hq578.2.2.2.1 bv := gSg.len xq609 sS607.1 t583 rfl
          have t616 : tyq609 cq422_0 = 114 := gSg.typ xq609 sS607.1 t585 rfl
          have hl617 : hq609.2.2.2.1 cq422_0 = hq578.2.2.2.1 cq422_0 := gSg.len xq609 sS607.1 t585 rfl
          have t618 : tyq609 cq437_0 = 114 := gSg.typ xq609 sS607.1 t587 rfl
          have hl619 : hq609.2.2.2.1 cq437_0 = hq578.2.2.2.1 cq437_0 := gSg.len xq609 sS607.1 t587 rfl
          have t620 : tyq609 cq454_0 = 114 := gSg.typ xq609 sS607.1 t589 rfl
          have hl621 : hq609.2.2.2.1 cq454_0 = hq578.2.2.2.1 cq454_0 := gSg.len xq609 sS607.1 t589 rfl
          have t622 : tyq609 cq474_0 = 114 := gSg.typ xq609 sS607.1 t591 rfl
          have hl623 : hq609.2.2.2.1 cq474_0 = hq578.2.2.2.1 cq474_0 := gSg.len xq609 sS607.1 t591 rfl
          have t624 : tyq609 cq497_0 = 114 := gSg.typ xq609 sS607.1 t593 rfl
          have hl625 : hq609.2.2.2.1 cq497_0 = hq578.2.2.2.1 cq497_0 := gSg.len xq609 sS607.1 t593 rfl
          have t626 : tyq609 cq522_0 = 114 := gSg.typ xq609 sS607.1 t595 rfl
          have hl627 : hq609.2.2.2.1 cq522_0 = hq578.2.2.2.1 cq522_0 := gSg.len xq609 sS607.1 t595 rfl
          have t628 : tyq609 cq549_0 = 114 := gSg.typ xq609 sS607.1 t597 rfl
          have hl629 : hq609.2.2.2.1 cq549_0 = hq578.2.2.2.1 cq549_0 := gSg.len xq609 sS607.1 t597 rfl
          have t630 : tyq609 cq578_0 = 114 := gSg.typ xq609 sS607.1 tcq578_0 rfl
          have hl631 : hq609.2.2.2.1 cq578_0 = hq578.2.2.2.1 cq578_0 := gSg.len xq609 sS607.1 tcq578_0 rfl
          have s632 := gSg.at xq609 sS607.1 t580 rfl (by decide) s599
          have s633 := gSg.at xq609 sS607.1 t581 rfl (by decide) s600
          have s634 := gSg.at xq609 sS607.1 t580 rfl (by decide) s601
          have s635 := gSg.at xq609 sS607.1 t582 rfl (by decide) s602
          have s636 := gSg.at xq609 sS607.1 t581 rfl (by decide) s603
          have s637 := gSg.at xq609 sS607.1 t581 rfl (by decide) s604
          have s638 := gSg.at xq609 sS607.1 t581 rfl (by decide) s605
          have uq639 := gSg.uq xq609 uq606 (by decide)
          have sS640 : gSs rT 1027 tyq609 [56000, 56001, 56002, 56003, 71006, 114999] hq609 hq609 := gSs.rf xq609.1
          refine gz_s 1 (pc' := 176) (L' := [some (.ref x), some (.ref dr), some (.int (zi i))]) (S' := [.ref x]) rfl ?_
          refine gs_gtk rfl (by decide) rfl sS640.1 t611 rfl rfl s634 ?_
          by_cases hc641 : (z1 : Int) ≤ 0
          · refine gy_ifT (pc' := 211) rfl (by decide) (by decide) (by omega) hc641 ?_
            have G642 : gSg [114] [] [56000, 56001, 56002, 56003, 71006, 114999] ty h tyq609 hq609 := gSg.ss G610 sS640 (by decide)
            exact gz_end (I := .return_) (len := 1) rfl (Or.inl rfl) ⟨tyq609, G642, cq609_0, trivial, fq609_0, fq6_1, ecq609_0, tcq609_0, rfl, efq609_0, (by omega), (by omega), s635, (by omega), (by omega), (by omega), (by omega), (by dsimp only; omega), (by dsimp only; omega), (by dsimp only; omega), (by dsimp only; omega)⟩
          · refine gy_ifF rfl (by decide) (by decide) (by omega) hc641 ?_
            refine gz_s 1 (pc' := 183) (L' := [some (.ref x), some (.ref dr), some (.int (zi i))]) (S' := [.ref x]) rfl ?_
            refine gs_gtk rfl (by decide) rfl sS640.1 t611 rfl rfl s632 ?_
            refine gz_s 1 (pc' := 189) (L' := [some (.ref x), some (.ref dr), some (.int (zi i))]) (S' := [.int (zi 221), .ref sk]) rfl ?_
            have hl643 : hq609.2.2.2.1 cq609_0 = hq609.2.2.2.1 cq609_0 := congrFun sS640.2.2.2.2.1 cq609_0
            refine gz_call rfl (by decide) rfl (by decide) (by decide) (gcal_of rfl rfl rfl (Nat.le_of_ble_eq_true rfl) (gJ.recv (G := gGG) sS640.1 t613 rfl rfl)) (cl_Sink_putMarker _ sS640.1 sk t613 221 (by omega) cq609_0 ecq609_0 tcq609_0 fq609_0 efq609_0 (by omega) (by omega) uq639) (fun q644 _ wq644 => ?_)
            obtain ⟨pq644, oq644, hq644⟩ := q644
            obtain ⟨tyq644, xq644, cq644_0, ttq644, fq644_0, ecq644_0, tcq644_0, gq644, efq644_0, afq644_0, bfq644_0, uq644_0, uq644_1, uq644_2, uq644_3, uq644_4⟩ := wq644
            dsimp only at uq644_1 uq644_2 uq644_3 uq644_4
            refine ⟨_, gq644, ?_⟩
            show gz gPP gGG gcn _ _ 192 [some (.ref x), some (.ref dr), some (.int (zi i))] [] hq644 _
            have G645 : gSg [114] [] [56000, 56001, 56002, 56003, 71006, 114999] ty h tyq644 hq644 := gSg.tr (gSg.ss G610 sS640 (by decide)) xq644 (by decide) (by decide) (fun x hx => by cases hx)
            have t646 : tyq644 x = 71 := gSg.typ xq644 sS640.1 t611 rfl
            have t647 : tyq644 dr = 55 := gSg.typ xq644 sS640.1 t612 rfl
            have t648 : tyq644 sk = 56 := gSg.typ xq644 sS640.1 t613 rfl
            have t649 : tyq644 bv = 114 := gSg.typ xq644 sS640.1 t614 rfl
            have hl650 : hq644.2.2.2.1 bv = hq609.2.2.2.1 bv := gSg.len xq644 sS640.1 t614 rfl
            have t651 : tyq644 cq422_0 = 114 := gSg.typ xq644 sS640.1 t616 rfl
            have hl652 : hq644.2.2.2.1 cq422_0 = hq609.2.2.2.1 cq422_0 := gSg.len xq644 sS640.1 t616 rfl
            have t653 : tyq644 cq437_0 = 114 := gSg.typ xq644 sS640.1 t618 rfl
            have hl654 : hq644.2.2.2.1 cq437_0 = hq609.2.2.2.1 cq437_0 := gSg.len xq644 sS640.1 t618 rfl
            have t655 : tyq644 cq454_0 = 114 := gSg.typ xq644 sS640.1 t620 rfl
            have hl656 : hq644.2.2.2.1 cq454_0 = hq609.2.2.2.1 cq454_0 := gSg.len xq644 sS640.1 t620 rfl
            have t657 : tyq644 cq474_0 = 114 := gSg.typ xq644 sS640.1 t622 rfl
            have hl658 : hq644.2.2.2.1 cq474_0 = hq609.2.2.2.1 cq474_0 := gSg.len xq644 sS640.1 t622 rfl
            have t659 : tyq644 cq497_0 = 114 := gSg.typ xq644 sS640.1 t624 rfl
            have hl660 : hq644.2.2.2.1 cq497_0 = hq609.2.2.2.1 cq497_0 := gSg.len xq644 sS640.1 t624 rfl
            have t661 : tyq644 cq522_0 = 114 := gSg.typ xq644 sS640.1 t626 rfl
            have hl662 : hq644.2.2.2.1 cq522_0 = hq609.2.2.2.1 cq522_0 := gSg.len xq644 sS640.1 t626 rfl
            have t663 : tyq644 cq549_0 = 114 := gSg.typ xq644 sS640.1 t628 rfl
            have hl664 : hq644.2.2.2.1 cq549_0 = hq609.2.2.2.1 cq549_0 := gSg.len xq644 sS640.1 t628 rfl
            have t665 : tyq644 cq578_0 = 114 := gSg.typ xq644 sS640.1 t630 rfl
            have hl666 : hq644.2.2.2.1 cq578_0 = hq609.2.2.2.1 cq578_0 := gSg.len xq644 sS640.1 t630 rfl
            have t667 : tyq644 cq609_0 = 114 := gSg.typ xq644 sS640.1 tcq609_0 rfl
            have hl668 : hq644.2.2.2.1 cq609_0 = hq609.2.2.2.1 cq609_0 := gSg.len xq644 sS640.1 tcq609_0 rfl
            have s669 := gSg.at xq644 sS640.1 t611 rfl (by decide) s632
            have s670 := gSg.at xq644 sS640.1 t612 rfl (by decide) s633
            have s671 := gSg.at xq644 sS640.1 t611 rfl (by decide) s634
            have s672 := gSg.at xq644 sS640.1 t613 rfl (by decide) s635
            have s673 := gSg.at xq644 sS640.1 t612 rfl (by decide) s636
            have s674 := gSg.at xq644 sS640.1 t612 rfl (by decide) s637
            have s675 := gSg.at xq644 sS640.1 t612 rfl (by decide) s638
            have uq676 := gSg.uq xq644 uq639 (by decide)
            have sS677 : gSs rT 1027 tyq644 [56000, 56001, 56002, 56003, 71006, 114999] hq644 hq644 := gSs.rf xq644.1
            refine gz_s 1 (pc' := 193) (L' := [some (.ref x), some (.ref dr), some (.int (zi i))]) (S' := [.ref x]) rfl ?_
            refine gs_gtk rfl (by decide) rfl sS677.1 t646 rfl rfl s669 ?_
            refine gz_s 1 (pc' := 197) (L' := [some (.ref x), some (.ref dr), some (.int (zi i))]) (S' := [.int (zi 4), .ref sk]) rfl ?_
            have hl678 : hq644.2.2.2.1 cq644_0 = hq644.2.2.2.1 cq644_0 := congrFun sS677.2.2.2.2.1 cq644_0
            refine gz_call rfl (by decide) rfl (by decide) (by decide) (gcal_of rfl rfl rfl (Nat.le_of_ble_eq_true rfl) (gJ.recv (G := gGG) sS677.1 t648 rfl rfl)) (cl_Sink_putTwo _ sS677.1 sk t648 4 (by omega) cq644_0 ecq644_0 tcq644_0 fq644_0 efq644_0 (by omega) (by omega) uq676) (fun q679 _ wq679 => ?_)
            obtain ⟨pq679, oq679, hq679⟩ := q679
            obtain ⟨tyq679, xq679, cq679_0, ttq679, fq679_0, ecq679_0, tcq679_0, gq679, efq679_0, afq679_0, bfq679_0, uq679_0, uq679_1, uq679_2, uq679_3, uq679_4⟩ := wq679
            dsimp only at uq679_1 uq679_2 uq679_3 uq679_4
            refine ⟨_, gq679, ?_⟩
            show gz gPP gGG gcn _ _ 200 [some (.ref x), some (.ref dr), some (.int (zi i))] [] hq679 _
            have G680 : gSg [114] [] [56000, 56001, 56002, 56003, 71006, 114999] ty h tyq679 hq679 := gSg.tr (gSg.ss G645 sS677 (by decide)) xq679 (by decide) (by decide) (fun x hx => by cases hx)
            have t681 : tyq679 x = 71 := gSg.typ xq679 sS677.1 t646 rfl
            have t682 : tyq679 dr = 55 := gSg.typ xq679 sS677.1 t647 rfl
            have t683 : tyq679 sk = 56 := gSg.typ xq679 sS677.1 t648 rfl
            have t684 : tyq679 bv = 114 := gSg.typ xq679 sS677.1 t649 rfl
            have hl685 : hq679.2.2.2.1 bv = hq644.2.2.2.1 bv := gSg.len xq679 sS677.1 t649 rfl
            have t686 : tyq679 cq422_0 = 114 := gSg.typ xq679 sS677.1 t651 rfl
            have hl687 : hq679.2.2.2.1 cq422_0 = hq644.2.2.2.1 cq422_0 := gSg.len xq679 sS677.1 t651 rfl
            have t688 : tyq679 cq437_0 = 114 := gSg.typ xq679 sS677.1 t653 rfl
            have hl689 : hq679.2.2.2.1 cq437_0 = hq644.2.2.2.1 cq437_0 := gSg.len xq679 sS677.1 t653 rfl
            have t690 : tyq679 cq454_0 = 114 := gSg.typ xq679 sS677.1 t655 rfl
            have hl691 : hq679.2.2.2.1 cq454_0 = hq644.2.2.2.1 cq454_0 := gSg.len xq679 sS677.1 t655 rfl
            have t692 : tyq679 cq474_0 = 114 := gSg.typ xq679 sS677.1 t657 rfl
            have hl693 : hq679.2.2.2.1 cq474_0 = hq644.2.2.2.1 cq474_0 := gSg.len xq679 sS677.1 t657 rfl
            have t694 : tyq679 cq497_0 = 114 := gSg.typ xq679 sS677.1 t659 rfl
            have hl695 : hq679.2.2.2.1 cq497_0 = hq644.2.2.2.1 cq497_0 := gSg.len xq679 sS677.1 t659 rfl
            have t696 : tyq679 cq522_0 = 114 := gSg.typ xq679 sS677.1 t661 rfl
            have hl697 : hq679.2.2.2.1 cq522_0 = hq644.2.2.2.1 cq522_0 := gSg.len xq679 sS677.1 t661 rfl
            have t698 : tyq679 cq549_0 = 114 := gSg.typ xq679 sS677.1 t663 rfl
            have hl699 : hq679.2.2.2.1 cq549_0 = hq644.2.2.2.1 cq549_0 := gSg.len xq679 sS677.1 t663 rfl
            have t700 : tyq679 cq578_0 = 114 := gSg.typ xq679 sS677.1 t665 rfl
            have hl701 : hq679.2.2.2.1 cq578_0 = hq644.2.2.2.1 cq578_0 := gSg.len xq679 sS677.1 t665 rfl
            have t702 : tyq679 cq609_0 = 114 := gSg.typ xq679 sS677.1 t667 rfl
            have hl703 : hq679.2.2.2.1 cq609_0 = hq644.2.2.2.1 cq609_0 := gSg.len xq679 sS677.1 t667 rfl
            have t704 : tyq679 cq644_0 = 114 := gSg.typ xq679 sS677.1 tcq644_0 rfl
            have hl705 : hq679.2.2.2.1 cq644_0 = hq644.2.2.2.1 cq644_0 := gSg.len xq679 sS677.1 tcq644_0 rfl
            have s706 := gSg.at xq679 sS677.1 t646 rfl (by decide) s669
            have s707 := gSg.at xq679 sS677.1 t647 rfl (by decide) s670
            have s708 := gSg.at xq679 sS677.1 t646 rfl (by decide) s671
            have s709 := gSg.at xq679 sS677.1 t648 rfl (by decide) s672
            have s710 := gSg.at xq679 sS677.1 t647 rfl (by decide) s673
            have s711 := gSg.at xq679 sS677.1 t647 rfl (by decide) s674
            have s712 := gSg.at xq679 sS677.1 t647 rfl (by decide) s675
            have uq713 := gSg.uq xq679 uq676 (by decide)
            have sS714 : gSs rT 1027 tyq679 [56000, 56001, 56002, 56003, 71006, 114999] hq679 hq679 := gSs.rf xq679.1
            refine gz_s 1 (pc' := 201) (L' := [some (.ref x), some (.ref dr), some (.int (zi i))]) (S' := [.ref x]) rfl ?_
            refine gs_gtk rfl (by decide) rfl sS714.1 t681 rfl rfl s706 ?_
            refine gz_s 1 (pc' := 205) (L' := [some (.ref x), some (.ref dr), some (.int (zi i))]) (S' := [.ref x, .ref sk]) rfl ?_
            refine gs_gtk rfl (by decide) rfl sS714.1 t681 rfl rfl s708 ?_
            have hl715 : hq679.2.2.2.1 cq679_0 = hq679.2.2.2.1 cq679_0 := congrFun sS714.2.2.2.2.1 cq679_0
            refine gz_call rfl (by decide) rfl (by decide) (by decide) (gcal_of rfl rfl rfl (Nat.le_of_ble_eq_true rfl) (gJ.recv (G := gGG) sS714.1 t683 rfl rfl)) (cl_Sink_putTwo _ sS714.1 sk t683 z1 (by omega) cq679_0 ecq679_0 tcq679_0 fq679_0 efq679_0 (by omega) (by omega) uq713) (fun q716 _ wq716 => ?_)
            obtain ⟨pq716, oq716, hq716⟩ := q716
            obtain ⟨tyq716, xq716, cq716_0, ttq716, fq716_0, ecq716_0, tcq716_0, gq716, efq716_0, afq716_0, bfq716_0, uq716_0, uq716_1, uq716_2, uq716_3, uq716_4⟩ := wq716
            dsimp only at uq716_1 uq716_2 uq716_3 uq716_4
            refine ⟨_, gq716, ?_⟩
            show gz gPP gGG gcn _ _ 211 [some (.ref x), some (.ref dr), some (.int (zi i))] [] hq716 _
            have G717 : gSg [114] [] [56000, 56001, 56002, 56003, 71006, 114999] ty h tyq716 hq716 := gSg.tr (gSg.ss G680 sS714 (by decide)) xq716 (by decide) (by decide) (fun x hx => by cases hx)
            have t718 : tyq716 x = 71 := gSg.typ xq716 sS714.1 t681 rfl
            have t719 : tyq716 dr = 55 := gSg.typ xq716 sS714.1 t682 rfl
            have t720 : tyq716 sk = 56 := gSg.typ xq716 sS714.1 t683 rfl
            have t721 : tyq716 bv = 114 := gSg.typ xq716 sS714.1 t684 rfl
            have hl722 : hq716.2.2.2.1 bv = hq679.2.2.2.1 bv := gSg.len xq716 sS714.1 t684 rfl
            have t723 : tyq716 cq422_0 = 114 := gSg.typ xq716 sS714.1 t686 rfl
            have hl724 : hq716.2.2.2.1 cq422_0 = hq679.2.2.2.1 cq422_0 := gSg.len xq716 sS714.1 t686 rfl
            have t725 : tyq716 cq437_0 = 114 := gSg.typ xq716 sS714.1 t688 rfl
            have hl726 : hq716.2.2.2.1 cq437_0 = hq679.2.2.2.1 cq437_0 := gSg.len xq716 sS714.1 t688 rfl
            have t727 : tyq716 cq454_0 = 114 := gSg.typ xq716 sS714.1 t690 rfl
            have hl728 : hq716.2.2.2.1 cq454_0 = hq679.2.2.2.1 cq454_0 := gSg.len xq716 sS714.1 t690 rfl
            have t729 : tyq716 cq474_0 = 114 := gSg.typ xq716 sS714.1 t692 rfl
            have hl730 : hq716.2.2.2.1 cq474_0 = hq679.2.2.2.1 cq474_0 := gSg.len xq716 sS714.1 t692 rfl
            have t731 : tyq716 cq497_0 = 114 := gSg.typ xq716 sS714.1 t694 rfl
            have hl732 : hq716.2.2.2.1 cq497_0 = hq679.2.2.2.1 cq497_0 := gSg.len xq716 sS714.1 t694 rfl
            have t733 : tyq716 cq522_0 = 114 := gSg.typ xq716 sS714.1 t696 rfl
            have hl734 : hq716.2.2.2.1 cq522_0 = hq679.2.2.2.1 cq522_0 := gSg.len xq716 sS714.1 t696 rfl
            have t735 : tyq716 cq549_0 = 114 := gSg.typ xq716 sS714.1 t698 rfl
            have hl736 : hq716.2.2.2.1 cq549_0 = hq679.2.2.2.1 cq549_0 := gSg.len xq716 sS714.1 t698 rfl
            have t737 : tyq716 cq578_0 = 114 := gSg.typ xq716 sS714.1 t700 rfl
            have hl738 : hq716.2.2.2.1 cq578_0 = hq679.2.2.2.1 cq578_0 := gSg.len xq716 sS714.1 t700 rfl
            have t739 : tyq716 cq609_0 = 114 := gSg.typ xq716 sS714.1 t702 rfl
            have hl740 : hq716.2.2.2.1 cq609_0 = hq679.2.2.2.1 cq609_0 := gSg.len xq716 sS714.1 t702 rfl
            have t741 : tyq716 cq644_0 = 114 := gSg.typ xq716 sS714.1 t704 rfl
            have hl742 : hq716.2.2.2.1 cq644_0 = hq679.2.2.2.1 cq644_0 := gSg.len xq716 sS714.1 t704 rfl
            have t743 : tyq716 cq679_0 = 114 := gSg.typ xq716 sS714.1 tcq679_0 rfl
            have hl744 : hq716.2.2.2.1 cq679_0 = hq679.2.2.2.1 cq679_0 := gSg.len xq716 sS714.1 tcq679_0 rfl
            have s745 := gSg.at xq716 sS714.1 t681 rfl (by decide) s706
            have s746 := gSg.at xq716 sS714.1 t682 rfl (by decide) s707
            have s747 := gSg.at xq716 sS714.1 t681 rfl (by decide) s708
            have s748 := gSg.at xq716 sS714.1 t683 rfl (by decide) s709
            have s749 := gSg.at xq716 sS714.1 t682 rfl (by decide) s710
            have s750 := gSg.at xq716 sS714.1 t682 rfl (by decide) s711
            have s751 := gSg.at xq716 sS714.1 t682 rfl (by decide) s712
            have uq752 := gSg.uq xq716 uq713 (by decide)
            have sS753 : gSs rT 1027 tyq716 [56000, 56001, 56002, 56003, 71006, 114999] hq716 hq716 := gSs.rf xq716.1
            have G754 : gSg [114] [] [56000, 56001, 56002, 56003, 71006, 114999] ty h tyq716 hq716 := gSg.ss G717 sS753 (by decide)
            exact gz_end (I := .return_) (len := 1) rfl (Or.inl rfl) ⟨tyq716, G754, cq716_0, trivial, fq716_0, fq6_1, ecq716_0, tcq716_0, rfl, efq716_0, (by omega), (by omega), s748, (by omega), (by omega), (by omega), (by omega), (by dsimp only; omega), (by dsimp only; omega), (by dsimp only; omega), (by dsimp only; omega)⟩
      · refine gy_icF rfl (by decide) (by decide) (by omega) (by omega) hc84 ?_
        refine gz_s 1 (pc' := 61) (L' := [some (.ref x), some (.ref dr), some (.int (zi i))]) (S' := [.ref x]) rfl ?_
        refine gs_gtk rfl (by decide) rfl sh82.1 lp81c0 rfl rfl lp81k0 ?_
        refine gz_s 1 (pc' := 65) (L' := [some (.ref x), some (.ref dr), some (.int (zi i))]) (S' := [.ref x, .ref sk]) rfl ?_
        refine gs_gtr rfl (by decide) rfl sh82.1 lp81c0 rfl rfl rfl (fun c755 ec755 tc755 => ?_)
        refine gz_s 1 (pc' := 69) (L' := [some (.ref x), some (.ref dr), some (.int (zi i))]) (S' := [.int (zi i), .ref c755, .ref sk]) rfl ?_
        have hl756 : 64 ≤ h82.2.2.2.1 c755 ∧ h82.2.2.2.1 c755 ≤ 64 := gJ.rowl (G := gGG) sh82.1 tc755 rfl
        refine gs_ald rfl (by decide) sh82.1 tc755 rfl rfl rfl (by decide) (fun _ => rfl) (by omega) (by omega) (fun z757 ez757 az757 bz757 => ?_)
        have hl758 : h82.2.2.2.1 bv = h82.2.2.2.1 bv := congrFun sh82.2.2.2.2.1 bv
        refine gz_call rfl (by decide) rfl (by decide) (by decide) (gcal_of rfl rfl rfl (Nat.le_of_ble_eq_true rfl) (gJ.recv (G := gGG) sh82.1 lp81c2 rfl rfl)) (cl_Sink_putByte _ sh82.1 sk lp81c2 z757 (by omega) bv lp81r0 lp81r1 cv lp81k4 (by omega) (by omega) lp81u) (fun q759 _ wq759 => ?_)
        obtain ⟨pq759, oq759, hq759⟩ := q759
        obtain ⟨tyq759, xq759, cq759_0, ttq759, fq759_0, ecq759_0, tcq759_0, gq759, efq759_0, afq759_0, bfq759_0, uq759_0, uq759_1, uq759_2, uq759_3, uq759_4⟩ := wq759
        dsimp only at uq759_1 uq759_2 uq759_3 uq759_4
        refine ⟨_, gq759, ?_⟩
        show gz gPP gGG gcn _ _ 73 [some (.ref x), some (.ref dr), some (.int (zi i))] [] hq759 _
        have G760 : gSg [114] [] [56000, 56001, 56002, 56003, 71006, 114999] ty h tyq759 hq759 := gSg.tr (gSg.ss lp81G sh82 (by decide)) xq759 (by decide) (by decide) (fun x hx => by cases hx)
        have t761 : tyq759 x = 71 := gSg.typ xq759 sh82.1 lp81c0 rfl
        have t762 : tyq759 dr = 55 := gSg.typ xq759 sh82.1 lp81c1 rfl
        have t763 : tyq759 sk = 56 := gSg.typ xq759 sh82.1 lp81c2 rfl
        have t764 : tyq759 bv = 114 := gSg.typ xq759 sh82.1 lp81r1 rfl
        have hl765 : hq759.2.2.2.1 bv = h82.2.2.2.1 bv := gSg.len xq759 sh82.1 lp81r1 rfl
        have t766 : tyq759 c755 = 72 := gSg.typ xq759 sh82.1 tc755 rfl
        have s767 := gSg.at xq759 sh82.1 lp81c0 rfl (by decide) lp81k0
        have s768 := gSg.at xq759 sh82.1 lp81c1 rfl (by decide) lp81k1
        have s769 := gSg.at xq759 sh82.1 lp81c0 rfl (by decide) lp81k2
        have s770 := gSg.at xq759 sh82.1 lp81c2 rfl (by decide) lp81k3
        have s771 := gSg.at xq759 sh82.1 lp81c0 rfl (by decide) ec755
        have uq772 := gSg.uq xq759 lp81u (by decide)
        have sS773 : gSs rT 1027 tyq759 [56000, 56001, 56002, 56003, 71006, 114999] hq759 hq759 := gSs.rf xq759.1
        refine gy_s 2 (pc' := 54) (L' := [some (.ref x), some (.ref dr), some (.int ((zi i) + zi 1))]) (S' := []) (L2 := [some (.ref x), some (.ref dr), some (.int (zi (i + 1)))]) (S2 := []) rfl (by simp only [zi_add, zi_sub, zi_mul, zi_neg, zi_and1, zi_and7, zi_and15, zi_and31, zi_and255]) (by simp only [zi_add, zi_sub, zi_mul, zi_neg, zi_and1, zi_and7, zi_and15, zi_and31, zi_and255]) ?_
        have G774 : gSg [114] [] [56000, 56001, 56002, 56003, 71006, 114999] ty h tyq759 hq759 := gSg.ss G760 sS773 (by decide)
        exact gz_wk (ihlp81 tyq759 hq759 cq759_0 (i + 1) fq759_0 (by omega) G774 uq772 t761 t762 t763 ecq759_0 tcq759_0 (by omega) (by omega) (by omega) (by omega) (by omega) (by omega) (by omega) s767 s768 s769 s770 efq759_0) (gLw.s (gLw.s (gLw.s gLw.z)))
  have G775 : gSg [114] [] [56000, 56001, 56002, 56003, 71006, 114999] ty h tyq62 hq62 := gSg.ss G63 sS80 (by decide)
  exact gz_wk (lp81 _ tyq62 hq62 cq62_0 0 fq62_0 (Nat.lt_succ_self _) G775 uq79 t64 t65 t66 ecq62_0 tcq62_0 (by omega) (by omega) (by omega) (by omega) (by omega) (by omega) (by omega) s75 s76 s77 s78 efq62_0) (gLw.s (gLw.s (gLw.s gLw.z)))
