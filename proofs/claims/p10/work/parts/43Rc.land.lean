/-! ===== methods of the landed text (by program) ===== -/
set_option maxRecDepth 20000 in
set_option maxHeartbeats 4000000 in
theorem cl_Writer_putHead (d : Nat) {ty : Nat → Nat} {h : gH} (hJ : gJ rT 1027 ty h) (x : Nat) (tx : ty x = 71) (dr : Nat) (tdr : ty dr = 55) (sk : Nat) (esk : h.2.2.2.2 x 0 = .ref sk) (tsk : ty sk = 56) (bt : Nat) (ebt : h.2.2.2.2 sk 0 = .ref bt) (tbt : ty bt = 114) (uq : gUq ty) : gz gPP gGG gcn (d + 4) gt99 0 (gent [.ref x, .ref dr] 3) [] h (fun q _ => ∃ ty9 : Nat → Nat, gSg [114] [] [56000, 56001, 56002, 56003, 71006, 114999] ty h ty9 q.2.2 ∧ ∃ bt2 : Nat, True ∧ ∃ c1 h1 : Int, q.2.2.2.2.2.2 sk 0 = .ref bt2 ∧ ty9 bt2 = 114 ∧ gfin gt99 q.1 q.2.1 = some none ∧ q.2.2.2.2.2.2 sk 1 = .int (zi c1) ∧ 0 ≤ c1 ∧ c1 ≤ 500000 ∧ q.2.2.2.2.2.2 sk 3 = .int (zi h1) ∧ 0 ≤ h1 ∧ h1 ≤ 7 ∧ (c1 ≤ 100) ∧ (h1 = 0) ∧ (1024 * ((q.2.2.1 : Int) - h.1) ≤ (q.2.2.2.2.2.1 bt2 : Int) - h.2.2.2.1 bt) ∧ (((q.2.2.2.1 : Int) - h.2.1) ≤ 2 * ((q.2.2.2.2.2.1 bt2 : Int) - h.2.2.2.1 bt)) ∧ ((h.2.2.2.1 bt : Int) ≤ (q.2.2.2.2.2.1 bt2 : Int)) ∧ (c1 ≤ (q.2.2.2.2.2.1 bt2 : Int))) := by
  have hS : gSs rT 1027 ty [56000, 56001, 56002, 56003, 71006, 114999] h h := gSs.rf hJ
  have G0 : gSg [114] [] [56000, 56001, 56002, 56003, 71006, 114999] ty h ty h := gSg.rf hJ (fun x hx => by cases hx)
  refine gz_s 2 (pc' := 2) (L' := [some (.ref x), some (.ref dr), none]) (S' := [.ref dr, .ref x]) rfl ?_
  refine gs_get rfl (by decide) rfl hS.1 tdr rfl rfl rfl (fun z1 ez1 az1 bz1 => ?_)
  refine gs_put rfl (by decide) rfl hS tx rfl rfl rfl rfl (Or.inl rfl) (by decide) (by omega) (by omega) (fun h2 sh2 eh2 fh2 => ?_)
  have s3 := (fh2 x 0 (fun q => absurd q.2 (by decide))).trans esk
  have s4 := (fh2 sk 0 (fun q => absurd q.2 (by decide))).trans ebt
  have s5 := (fh2 dr 3 (fun q => absurd q.2 (by decide))).trans ez1
  refine gz_s 1 (pc' := 9) (L' := [some (.ref x), some (.ref dr), none]) (S' := [.ref x]) rfl ?_
  refine gs_gtk rfl (by decide) rfl sh2.1 tx rfl rfl s3 ?_
  refine gz_call rfl (by decide) rfl (by decide) (by decide) (gcal_of rfl rfl rfl (Nat.le_of_ble_eq_true rfl) (gJ.recv (G := gGG) sh2.1 tsk rfl rfl)) (cl_Sink_forget _ sh2.1 sk tsk uq) (fun q6 _ wq6 => ?_)
  obtain ⟨pq6, oq6, hq6⟩ := q6
  obtain ⟨xq6, fq6_0, fq6_1, gq6, efq6_0, afq6_0, bfq6_0, efq6_1, afq6_1, bfq6_1, uq6_0, uq6_1⟩ := wq6
  refine ⟨_, gq6, ?_⟩
  show gz gPP gGG gcn _ _ 15 [some (.ref x), some (.ref dr), none] [] hq6 _
  have sq6 : gSs rT 1027 ty [56000, 56001, 56002, 56003, 71006, 114999] h hq6 := gSs.tr sh2 xq6 (by decide)
  have s7 := (xq6.2.2.2.2.2 x 0 (by rw [tx]; decide)).trans s3
  have s8 := (xq6.2.2.2.2.2 sk 0 (by rw [tsk]; decide)).trans s4
  have s9 := (xq6.2.2.2.2.2 dr 3 (by rw [tdr]; decide)).trans s5
  have s10 := (xq6.2.2.2.2.2 x 6 (by rw [tx]; decide)).trans eh2
  refine gz_s 1 (pc' := 16) (L' := [some (.ref x), some (.ref dr), none]) (S' := [.ref x]) rfl ?_
  refine gs_gtk rfl (by decide) rfl sq6.1 tx rfl rfl s7 ?_
  refine gz_s 1 (pc' := 22) (L' := [some (.ref x), some (.ref dr), none]) (S' := [.int (zi 216), .ref sk]) rfl ?_
  have k11 := sq6.2.1
  have k11b := sq6.2.2.1
  have hl12 : hq6.2.2.2.1 bt = h.2.2.2.1 bt := congrFun sq6.2.2.2.2.1 bt
  have hl13 : hq6.2.2.2.1 bt = h.2.2.2.1 bt := congrFun sq6.2.2.2.2.1 bt
  refine gz_call rfl (by decide) rfl (by decide) (by decide) (gcal_of rfl rfl rfl (Nat.le_of_ble_eq_true rfl) (gJ.recv (G := gGG) sq6.1 tsk rfl rfl)) (cl_Sink_putMarker _ sq6.1 sk tsk 216 ⟨by omega, by omega⟩ bt s8 tbt fq6_0 efq6_0 ⟨by omega, by omega⟩ (by omega) uq) (fun q14 _ wq14 => ?_)
  obtain ⟨pq14, oq14, hq14⟩ := q14
  obtain ⟨tyq14, xq14, cq14_0, ttq14, fq14_0, ecq14_0, tcq14_0, gq14, efq14_0, afq14_0, bfq14_0, uq14_0, uq14_1, uq14_2, uq14_3, uq14_4⟩ := wq14
  dsimp only at uq14_1 uq14_2 uq14_3 uq14_4
  refine ⟨_, gq14, ?_⟩
  show gz gPP gGG gcn _ _ 25 [some (.ref x), some (.ref dr), none] [] hq14 _
  have G15 : gSg [114] [] [56000, 56001, 56002, 56003, 71006, 114999] ty h tyq14 hq14 := gSg.tr (gSg.ss G0 sq6 (by decide)) xq14 (by decide) (by decide) (fun x hx => by cases hx)
  have t16 : tyq14 x = 71 := gSg.typ xq14 sq6.1 tx rfl
  have t17 : tyq14 dr = 55 := gSg.typ xq14 sq6.1 tdr rfl
  have t18 : tyq14 sk = 56 := gSg.typ xq14 sq6.1 tsk rfl
  have t19 : tyq14 bt = 114 := gSg.typ xq14 sq6.1 tbt rfl
  have hl20 : hq14.2.2.2.1 bt = hq6.2.2.2.1 bt := gSg.len xq14 sq6.1 tbt rfl
  have s21 := gSg.at xq14 sq6.1 tx rfl (by decide) s7
  have s22 := gSg.at xq14 sq6.1 tdr rfl (by decide) s9
  have s23 := gSg.at xq14 sq6.1 tx rfl (by decide) s10
  have s24 := gSg.at xq14 sq6.1 tsk rfl (by decide) efq6_1
  have uq25 := gSg.uq xq14 uq (by decide)
  have sS26 : gSs rT 1027 tyq14 [56000, 56001, 56002, 56003, 71006, 114999] hq14 hq14 := gSs.rf xq14.1
  refine gz_s 1 (pc' := 26) (L' := [some (.ref x), some (.ref dr), none]) (S' := [.ref x]) rfl ?_
  refine gs_gtk rfl (by decide) rfl sS26.1 t16 rfl rfl s21 ?_
  refine gz_s 1 (pc' := 32) (L' := [some (.ref x), some (.ref dr), none]) (S' := [.int (zi 219), .ref sk]) rfl ?_
  have hl27 : hq14.2.2.2.1 cq14_0 = hq14.2.2.2.1 cq14_0 := congrFun sS26.2.2.2.2.1 cq14_0
  refine gz_call rfl (by decide) rfl (by decide) (by decide) (gcal_of rfl rfl rfl (Nat.le_of_ble_eq_true rfl) (gJ.recv (G := gGG) sS26.1 t18 rfl rfl)) (cl_Sink_putMarker _ sS26.1 sk t18 219 ⟨by omega, by omega⟩ cq14_0 ecq14_0 tcq14_0 fq14_0 efq14_0 ⟨by omega, by omega⟩ (by omega) uq25) (fun q28 _ wq28 => ?_)
  obtain ⟨pq28, oq28, hq28⟩ := q28
  obtain ⟨tyq28, xq28, cq28_0, ttq28, fq28_0, ecq28_0, tcq28_0, gq28, efq28_0, afq28_0, bfq28_0, uq28_0, uq28_1, uq28_2, uq28_3, uq28_4⟩ := wq28
  dsimp only at uq28_1 uq28_2 uq28_3 uq28_4
  refine ⟨_, gq28, ?_⟩
  show gz gPP gGG gcn _ _ 35 [some (.ref x), some (.ref dr), none] [] hq28 _
  have G29 : gSg [114] [] [56000, 56001, 56002, 56003, 71006, 114999] ty h tyq28 hq28 := gSg.tr (gSg.ss G15 sS26 (by decide)) xq28 (by decide) (by decide) (fun x hx => by cases hx)
  have t30 : tyq28 x = 71 := gSg.typ xq28 sS26.1 t16 rfl
  have t31 : tyq28 dr = 55 := gSg.typ xq28 sS26.1 t17 rfl
  have t32 : tyq28 sk = 56 := gSg.typ xq28 sS26.1 t18 rfl
  have t33 : tyq28 bt = 114 := gSg.typ xq28 sS26.1 t19 rfl
  have hl34 : hq28.2.2.2.1 bt = hq14.2.2.2.1 bt := gSg.len xq28 sS26.1 t19 rfl
  have t35 : tyq28 cq14_0 = 114 := gSg.typ xq28 sS26.1 tcq14_0 rfl
  have hl36 : hq28.2.2.2.1 cq14_0 = hq14.2.2.2.1 cq14_0 := gSg.len xq28 sS26.1 tcq14_0 rfl
  have s37 := gSg.at xq28 sS26.1 t16 rfl (by decide) s21
  have s38 := gSg.at xq28 sS26.1 t17 rfl (by decide) s22
  have s39 := gSg.at xq28 sS26.1 t16 rfl (by decide) s23
  have s40 := gSg.at xq28 sS26.1 t18 rfl (by decide) s24
  have uq41 := gSg.uq xq28 uq25 (by decide)
  have sS42 : gSs rT 1027 tyq28 [56000, 56001, 56002, 56003, 71006, 114999] hq28 hq28 := gSs.rf xq28.1
  refine gz_s 1 (pc' := 36) (L' := [some (.ref x), some (.ref dr), none]) (S' := [.ref x]) rfl ?_
  refine gs_gtk rfl (by decide) rfl sS42.1 t30 rfl rfl s37 ?_
  refine gz_s 1 (pc' := 41) (L' := [some (.ref x), some (.ref dr), none]) (S' := [.int (zi 67), .ref sk]) rfl ?_
  have hl43 : hq28.2.2.2.1 cq28_0 = hq28.2.2.2.1 cq28_0 := congrFun sS42.2.2.2.2.1 cq28_0
  refine gz_call rfl (by decide) rfl (by decide) (by decide) (gcal_of rfl rfl rfl (Nat.le_of_ble_eq_true rfl) (gJ.recv (G := gGG) sS42.1 t32 rfl rfl)) (cl_Sink_putTwo _ sS42.1 sk t32 67 ⟨by omega, by omega⟩ cq28_0 ecq28_0 tcq28_0 fq28_0 efq28_0 ⟨by omega, by omega⟩ (by omega) uq41) (fun q44 _ wq44 => ?_)
  obtain ⟨pq44, oq44, hq44⟩ := q44
  obtain ⟨tyq44, xq44, cq44_0, ttq44, fq44_0, ecq44_0, tcq44_0, gq44, efq44_0, afq44_0, bfq44_0, uq44_0, uq44_1, uq44_2, uq44_3, uq44_4⟩ := wq44
  dsimp only at uq44_1 uq44_2 uq44_3 uq44_4
  refine ⟨_, gq44, ?_⟩
  show gz gPP gGG gcn _ _ 44 [some (.ref x), some (.ref dr), none] [] hq44 _
  have G45 : gSg [114] [] [56000, 56001, 56002, 56003, 71006, 114999] ty h tyq44 hq44 := gSg.tr (gSg.ss G29 sS42 (by decide)) xq44 (by decide) (by decide) (fun x hx => by cases hx)
  have t46 : tyq44 x = 71 := gSg.typ xq44 sS42.1 t30 rfl
  have t47 : tyq44 dr = 55 := gSg.typ xq44 sS42.1 t31 rfl
  have t48 : tyq44 sk = 56 := gSg.typ xq44 sS42.1 t32 rfl
  have t49 : tyq44 bt = 114 := gSg.typ xq44 sS42.1 t33 rfl
  have hl50 : hq44.2.2.2.1 bt = hq28.2.2.2.1 bt := gSg.len xq44 sS42.1 t33 rfl
  have t51 : tyq44 cq14_0 = 114 := gSg.typ xq44 sS42.1 t35 rfl
  have hl52 : hq44.2.2.2.1 cq14_0 = hq28.2.2.2.1 cq14_0 := gSg.len xq44 sS42.1 t35 rfl
  have t53 : tyq44 cq28_0 = 114 := gSg.typ xq44 sS42.1 tcq28_0 rfl
  have hl54 : hq44.2.2.2.1 cq28_0 = hq28.2.2.2.1 cq28_0 := gSg.len xq44 sS42.1 tcq28_0 rfl
  have s55 := gSg.at xq44 sS42.1 t30 rfl (by decide) s37
  have s56 := gSg.at xq44 sS42.1 t31 rfl (by decide) s38
  have s57 := gSg.at xq44 sS42.1 t30 rfl (by decide) s39
  have s58 := gSg.at xq44 sS42.1 t32 rfl (by decide) s40
  have uq59 := gSg.uq xq44 uq41 (by decide)
  have sS60 : gSs rT 1027 tyq44 [56000, 56001, 56002, 56003, 71006, 114999] hq44 hq44 := gSs.rf xq44.1
  refine gz_s 1 (pc' := 45) (L' := [some (.ref x), some (.ref dr), none]) (S' := [.ref x]) rfl ?_
  refine gs_gtk rfl (by decide) rfl sS60.1 t46 rfl rfl s55 ?_
  refine gz_s 1 (pc' := 49) (L' := [some (.ref x), some (.ref dr), none]) (S' := [.int (zi 0), .ref sk]) rfl ?_
  have hl61 : hq44.2.2.2.1 cq44_0 = hq44.2.2.2.1 cq44_0 := congrFun sS60.2.2.2.2.1 cq44_0
  refine gz_call rfl (by decide) rfl (by decide) (by decide) (gcal_of rfl rfl rfl (Nat.le_of_ble_eq_true rfl) (gJ.recv (G := gGG) sS60.1 t48 rfl rfl)) (cl_Sink_putByte _ sS60.1 sk t48 0 ⟨by omega, by omega⟩ cq44_0 ecq44_0 tcq44_0 fq44_0 efq44_0 ⟨by omega, by omega⟩ (by omega) uq59) (fun q62 _ wq62 => ?_)
  obtain ⟨pq62, oq62, hq62⟩ := q62
  obtain ⟨tyq62, xq62, cq62_0, ttq62, fq62_0, ecq62_0, tcq62_0, gq62, efq62_0, afq62_0, bfq62_0, uq62_0, uq62_1, uq62_2, uq62_3, uq62_4⟩ := wq62
  dsimp only at uq62_1 uq62_2 uq62_3 uq62_4
  refine ⟨_, gq62, ?_⟩
  show gz gPP gGG gcn _ _ 52 [some (.ref x), some (.ref dr), none] [] hq62 _
  have G63 : gSg [114] [] [56000, 56001, 56002, 56003, 71006, 114999] ty h tyq62 hq62 := gSg.tr (gSg.ss G45 sS60 (by decide)) xq62 (by decide) (by decide) (fun x hx => by cases hx)
  have t64 : tyq62 x = 71 := gSg.typ xq62 sS60.1 t46 rfl
  have t65 : tyq62 dr = 55 := gSg.typ xq62 sS60.1 t47 rfl
  have t66 : tyq62 sk = 56 := gSg.typ xq62 sS60.1 t48 rfl
  have t67 : tyq62 bt = 114 := gSg.typ xq62 sS60.1 t49 rfl
  have hl68 : hq62.2.2.2.1 bt = hq44.2.2.2.1 bt := gSg.len xq62 sS60.1 t49 rfl
  have t69 : tyq62 cq14_0 = 114 := gSg.typ xq62 sS60.1 t51 rfl
  have hl70 : hq62.2.2.2.1 cq14_0 = hq44.2.2.2.1 cq14_0 := gSg.len xq62 sS60.1 t51 rfl
  have t71 : tyq62 cq28_0 = 114 := gSg.typ xq62 sS60.1 t53 rfl
  have hl72 : hq62.2.2.2.1 cq28_0 = hq44.2.2.2.1 cq28_0 := gSg.len xq62 sS60.1 t53 rfl
  have t73 : tyq62 cq44_0 = 114 := gSg.typ xq62 sS60.1 tcq44_0 rfl
  have hl74 : hq62.2.2.2.1 cq44_0 = hq44.2.2.2.1 cq44_0 := gSg.len xq62 sS60.1 tcq44_0 rfl
  have s75 := gSg.at xq62 sS60.1 t46 rfl (by decide) s55
  have s76 := gSg.at xq62 sS60.1 t47 rfl (by decide) s56
  have s77 := gSg.at xq62 sS60.1 t46 rfl (by decide) s57
  have s78 := gSg.at xq62 sS60.1 t48 rfl (by decide) s58
  have uq79 := gSg.uq xq62 uq59 (by decide)
  have sS80 : gSs rT 1027 tyq62 [56000, 56001, 56002, 56003, 71006, 114999] hq62 hq62 := gSs.rf xq62.1
  refine gz_s 2 (pc' := 54) (L' := [some (.ref x), some (.ref dr), some (.int (zi 0))]) (S' := []) rfl ?_
  have lp81 : ∀ (fu : Nat) (ty83 : Nat → Nat) (h82 : gH) (bv : Nat) (i : Int) (cv : Int), (65 - i).toNat < fu → gSg [114] [] [56000, 56001, 56002, 56003, 71006, 114999] ty h ty83 h82 → gUq ty83 → ty83 x = 71 → ty83 dr = 55 → ty83 sk = 56 → h82.2.2.2.2 sk 0 = .ref bv → ty83 bv = 114 → (0 ≤ i ∧ i ≤ 64) → (0 ≤ cv ∧ cv ≤ 499999) → (cv = 7 + i) → (1024 * ((h82.1 : Int) - h.1) ≤ (h82.2.2.2.1 bv : Int) - h.2.2.2.1 bt) → (((h82.2.1 : Int) - h.2.1) ≤ 2 * ((h82.2.2.2.1 bv : Int) - h.2.2.2.1 bt)) → ((h.2.2.2.1 bt : Int) ≤ (h82.2.2.2.1 bv : Int)) → (cv ≤ (h82.2.2.2.1 bv : Int)) → h82.2.2.2.2 x 0 = .ref sk → h82.2.2.2.2 dr 3 = .int (zi z1) → h82.2.2.2.2 x 6 = .int (zi z1) → h82.2.2.2.2 sk 3 = .int (zi fq6_1) → h82.2.2.2.2 sk 1 = .int (zi cv) → gz gPP gGG gcn (d + 4) gt99 54 [some (.ref x), some (.ref dr), some (.int (zi i))] [] h82 (fun q _ => ∃ ty9 : Nat → Nat, gSg [114] [] [56000, 56001, 56002, 56003, 71006, 114999] ty h ty9 q.2.2 ∧ ∃ bt2 : Nat, True ∧ ∃ c1 h1 : Int, q.2.2.2.2.2.2 sk 0 = .ref bt2 ∧ ty9 bt2 = 114 ∧ gfin gt99 q.1 q.2.1 = some none ∧ q.2.2.2.2.2.2 sk 1 = .int (zi c1) ∧ 0 ≤ c1 ∧ c1 ≤ 500000 ∧ q.2.2.2.2.2.2 sk 3 = .int (zi h1) ∧ 0 ≤ h1 ∧ h1 ≤ 7 ∧ (c1 ≤ 100) ∧ (h1 = 0) ∧ (1024 * ((q.2.2.1 : Int) - h.1) ≤ (q.2.2.2.2.2.1 bt2 : Int) - h.2.2.2.1 bt) ∧ (((q.2.2.2.1 : Int) - h.2.1) ≤ 2 * ((q.2.2.2.2.2.1 bt2 : Int) - h.2.2.2.1 bt)) ∧ ((h.2.2.2.1 bt : Int) ≤ (q.2.2.2.2.2.1 bt2 : Int)) ∧ (c1 ≤ (q.2.2.2.2.2.1 bt2 : Int))) := by
    intro fu
    induction fu with
    | zero => intro ty83 h82 bv i cv hm; exact absurd hm (Nat.not_lt_zero _)
    | succ fu ihlp81 =>
      intro ty83 h82 bv i cv lp81m lp81G lp81u lp81c0 lp81c1 lp81c2 lp81r0 lp81r1 lp81f0 lp81f1 lp81f2 lp81f3 lp81f4 lp81f5 lp81f6 lp81k0 lp81k1 lp81k2 lp81k3 lp81k4
      have sh82 : gSs rT 1027 ty83 [56000, 56001, 56002, 56003, 71006, 114999] h82 h82 := gSs.rf lp81G.1
      refine gz_s 2 (pc' := 57) (L' := [some (.ref x), some (.ref dr), some (.int (zi i))]) (S' := [.int (zi 64), .int (zi i)]) rfl ?_
      by_cases hc84 : (64 : Int) ≤ i
      · refine gy_icT (pc' := 79) rfl (by decide) (by decide) (by omega) (by omega) hc84 ?_
        refine gz_s 1 (pc' := 80) (L' := [some (.ref x), some (.ref dr), some (.int (zi i))]) (S' := [.ref x]) rfl ?_
        refine gs_gtk rfl (by decide) rfl sh82.1 lp81c0 rfl rfl lp81k0 ?_
        refine gz_s 1 (pc' := 84) (L' := [some (.ref x), some (.ref dr), some (.int (zi i))]) (S' := [.ref dr, .ref sk]) rfl ?_
        refine gs_get rfl (by decide) rfl sh82.1 lp81c1 rfl rfl rfl (fun z85 ez85 az85 bz85 => ?_)
        by_cases hc86 : (z85 : Int) ≤ 0
        · refine gy_ifT (pc' := 96) rfl (by decide) (by decide) (by omega) hc86 ?_
          refine gz_s 1 (pc' := 99) (L' := [some (.ref x), some (.ref dr), some (.int (zi i))]) (S' := [.int (zi 192), .ref sk]) rfl ?_
          have hl87 : h82.2.2.2.1 bv = h82.2.2.2.1 bv := congrFun sh82.2.2.2.2.1 bv
          refine gz_call rfl (by decide) rfl (by decide) (by decide) (gcal_of rfl rfl rfl (Nat.le_of_ble_eq_true rfl) (gJ.recv (G := gGG) sh82.1 lp81c2 rfl rfl)) (cl_Sink_putMarker _ sh82.1 sk lp81c2 192 ⟨by omega, by omega⟩ bv lp81r0 lp81r1 cv lp81k4 ⟨by omega, by omega⟩ (by omega) lp81u) (fun q88 _ wq88 => ?_)
          obtain ⟨pq88, oq88, hq88⟩ := q88
          obtain ⟨tyq88, xq88, cq88_0, ttq88, fq88_0, ecq88_0, tcq88_0, gq88, efq88_0, afq88_0, bfq88_0, uq88_0, uq88_1, uq88_2, uq88_3, uq88_4⟩ := wq88
          dsimp only at uq88_1 uq88_2 uq88_3 uq88_4
          refine ⟨_, gq88, ?_⟩
          show gz gPP gGG gcn _ _ 102 [some (.ref x), some (.ref dr), some (.int (zi i))] [] hq88 _
          have G89 : gSg [114] [] [56000, 56001, 56002, 56003, 71006, 114999] ty h tyq88 hq88 := gSg.tr (gSg.ss lp81G sh82 (by decide)) xq88 (by decide) (by decide) (fun x hx => by cases hx)
          have t90 : tyq88 x = 71 := gSg.typ xq88 sh82.1 lp81c0 rfl
          have t91 : tyq88 dr = 55 := gSg.typ xq88 sh82.1 lp81c1 rfl
          have t92 : tyq88 sk = 56 := gSg.typ xq88 sh82.1 lp81c2 rfl
          have t93 : tyq88 bv = 114 := gSg.typ xq88 sh82.1 lp81r1 rfl
          have hl94 : hq88.2.2.2.1 bv = h82.2.2.2.1 bv := gSg.len xq88 sh82.1 lp81r1 rfl
          have s95 := gSg.at xq88 sh82.1 lp81c0 rfl (by decide) lp81k0
          have s96 := gSg.at xq88 sh82.1 lp81c1 rfl (by decide) lp81k1
          have s97 := gSg.at xq88 sh82.1 lp81c0 rfl (by decide) lp81k2
          have s98 := gSg.at xq88 sh82.1 lp81c2 rfl (by decide) lp81k3
          have s99 := gSg.at xq88 sh82.1 lp81c1 rfl (by decide) ez85
          have uq100 := gSg.uq xq88 lp81u (by decide)
          have sS101 : gSs rT 1027 tyq88 [56000, 56001, 56002, 56003, 71006, 114999] hq88 hq88 := gSs.rf xq88.1
          refine gz_s 1 (pc' := 103) (L' := [some (.ref x), some (.ref dr), some (.int (zi i))]) (S' := [.ref x]) rfl ?_
          refine gs_gtk rfl (by decide) rfl sS101.1 t90 rfl rfl s95 ?_
          refine gz_s 1 (pc' := 108) (L' := [some (.ref x), some (.ref dr), some (.int (zi i))]) (S' := [.int (zi 11), .ref sk]) rfl ?_
          have hl102 : hq88.2.2.2.1 cq88_0 = hq88.2.2.2.1 cq88_0 := congrFun sS101.2.2.2.2.1 cq88_0
          refine gz_call rfl (by decide) rfl (by decide) (by decide) (gcal_of rfl rfl rfl (Nat.le_of_ble_eq_true rfl) (gJ.recv (G := gGG) sS101.1 t92 rfl rfl)) (cl_Sink_putTwo _ sS101.1 sk t92 11 ⟨by omega, by omega⟩ cq88_0 ecq88_0 tcq88_0 fq88_0 efq88_0 ⟨by omega, by omega⟩ (by omega) uq100) (fun q103 _ wq103 => ?_)
          obtain ⟨pq103, oq103, hq103⟩ := q103
          obtain ⟨tyq103, xq103, cq103_0, ttq103, fq103_0, ecq103_0, tcq103_0, gq103, efq103_0, afq103_0, bfq103_0, uq103_0, uq103_1, uq103_2, uq103_3, uq103_4⟩ := wq103
          dsimp only at uq103_1 uq103_2 uq103_3 uq103_4
          refine ⟨_, gq103, ?_⟩
          show gz gPP gGG gcn _ _ 111 [some (.ref x), some (.ref dr), some (.int (zi i))] [] hq103 _
          have G104 : gSg [114] [] [56000, 56001, 56002, 56003, 71006, 114999] ty h tyq103 hq103 := gSg.tr (gSg.ss G89 sS101 (by decide)) xq103 (by decide) (by decide) (fun x hx => by cases hx)
          have t105 : tyq103 x = 71 := gSg.typ xq103 sS101.1 t90 rfl
          have t106 : tyq103 dr = 55 := gSg.typ xq103 sS101.1 t91 rfl
          have t107 : tyq103 sk = 56 := gSg.typ xq103 sS101.1 t92 rfl
          have t108 : tyq103 bv = 114 := gSg.typ xq103 sS101.1 t93 rfl
          have hl109 : hq103.2.2.2.1 bv = hq88.2.2.2.1 bv := gSg.len xq103 sS101.1 t93 rfl
          have t110 : tyq103 cq88_0 = 114 := gSg.typ xq103 sS101.1 tcq88_0 rfl
          have hl111 : hq103.2.2.2.1 cq88_0 = hq88.2.2.2.1 cq88_0 := gSg.len xq103 sS101.1 tcq88_0 rfl
          have s112 := gSg.at xq103 sS101.1 t90 rfl (by decide) s95
          have s113 := gSg.at xq103 sS101.1 t91 rfl (by decide) s96
          have s114 := gSg.at xq103 sS101.1 t90 rfl (by decide) s97
          have s115 := gSg.at xq103 sS101.1 t92 rfl (by decide) s98
          have s116 := gSg.at xq103 sS101.1 t91 rfl (by decide) s99
          have uq117 := gSg.uq xq103 uq100 (by decide)
          have sS118 : gSs rT 1027 tyq103 [56000, 56001, 56002, 56003, 71006, 114999] hq103 hq103 := gSs.rf xq103.1
          refine gz_s 1 (pc' := 112) (L' := [some (.ref x), some (.ref dr), some (.int (zi i))]) (S' := [.ref x]) rfl ?_
          refine gs_gtk rfl (by decide) rfl sS118.1 t105 rfl rfl s112 ?_
          refine gz_s 1 (pc' := 117) (L' := [some (.ref x), some (.ref dr), some (.int (zi i))]) (S' := [.int (zi 8), .ref sk]) rfl ?_
          have hl119 : hq103.2.2.2.1 cq103_0 = hq103.2.2.2.1 cq103_0 := congrFun sS118.2.2.2.2.1 cq103_0
          refine gz_call rfl (by decide) rfl (by decide) (by decide) (gcal_of rfl rfl rfl (Nat.le_of_ble_eq_true rfl) (gJ.recv (G := gGG) sS118.1 t107 rfl rfl)) (cl_Sink_putByte _ sS118.1 sk t107 8 ⟨by omega, by omega⟩ cq103_0 ecq103_0 tcq103_0 fq103_0 efq103_0 ⟨by omega, by omega⟩ (by omega) uq117) (fun q120 _ wq120 => ?_)
          obtain ⟨pq120, oq120, hq120⟩ := q120
          obtain ⟨tyq120, xq120, cq120_0, ttq120, fq120_0, ecq120_0, tcq120_0, gq120, efq120_0, afq120_0, bfq120_0, uq120_0, uq120_1, uq120_2, uq120_3, uq120_4⟩ := wq120
          dsimp only at uq120_1 uq120_2 uq120_3 uq120_4
          refine ⟨_, gq120, ?_⟩
          show gz gPP gGG gcn _ _ 120 [some (.ref x), some (.ref dr), some (.int (zi i))] [] hq120 _
          have G121 : gSg [114] [] [56000, 56001, 56002, 56003, 71006, 114999] ty h tyq120 hq120 := gSg.tr (gSg.ss G104 sS118 (by decide)) xq120 (by decide) (by decide) (fun x hx => by cases hx)
          have t122 : tyq120 x = 71 := gSg.typ xq120 sS118.1 t105 rfl
          have t123 : tyq120 dr = 55 := gSg.typ xq120 sS118.1 t106 rfl
          have t124 : tyq120 sk = 56 := gSg.typ xq120 sS118.1 t107 rfl
          have t125 : tyq120 bv = 114 := gSg.typ xq120 sS118.1 t108 rfl
          have hl126 : hq120.2.2.2.1 bv = hq103.2.2.2.1 bv := gSg.len xq120 sS118.1 t108 rfl
          have t127 : tyq120 cq88_0 = 114 := gSg.typ xq120 sS118.1 t110 rfl
          have hl128 : hq120.2.2.2.1 cq88_0 = hq103.2.2.2.1 cq88_0 := gSg.len xq120 sS118.1 t110 rfl
          have t129 : tyq120 cq103_0 = 114 := gSg.typ xq120 sS118.1 tcq103_0 rfl
          have hl130 : hq120.2.2.2.1 cq103_0 = hq103.2.2.2.1 cq103_0 := gSg.len xq120 sS118.1 tcq103_0 rfl
          have s131 := gSg.at xq120 sS118.1 t105 rfl (by decide) s112
          have s132 := gSg.at xq120 sS118.1 t106 rfl (by decide) s113
          have s133 := gSg.at xq120 sS118.1 t105 rfl (by decide) s114
          have s134 := gSg.at xq120 sS118.1 t107 rfl (by decide) s115
          have s135 := gSg.at xq120 sS118.1 t106 rfl (by decide) s116
          have uq136 := gSg.uq xq120 uq117 (by decide)
          have sS137 : gSs rT 1027 tyq120 [56000, 56001, 56002, 56003, 71006, 114999] hq120 hq120 := gSs.rf xq120.1
          refine gz_s 1 (pc' := 121) (L' := [some (.ref x), some (.ref dr), some (.int (zi i))]) (S' := [.ref x]) rfl ?_
          refine gs_gtk rfl (by decide) rfl sS137.1 t122 rfl rfl s131 ?_
          refine gz_s 1 (pc' := 125) (L' := [some (.ref x), some (.ref dr), some (.int (zi i))]) (S' := [.ref dr, .ref sk]) rfl ?_
          refine gs_get rfl (by decide) rfl sS137.1 t123 rfl rfl rfl (fun z138 ez138 az138 bz138 => ?_)
          have hl139 : hq120.2.2.2.1 cq120_0 = hq120.2.2.2.1 cq120_0 := congrFun sS137.2.2.2.2.1 cq120_0
          refine gz_call rfl (by decide) rfl (by decide) (by decide) (gcal_of rfl rfl rfl (Nat.le_of_ble_eq_true rfl) (gJ.recv (G := gGG) sS137.1 t124 rfl rfl)) (cl_Sink_putTwo _ sS137.1 sk t124 z138 ⟨by omega, by omega⟩ cq120_0 ecq120_0 tcq120_0 fq120_0 efq120_0 ⟨by omega, by omega⟩ (by omega) uq136) (fun q140 _ wq140 => ?_)
          obtain ⟨pq140, oq140, hq140⟩ := q140
          obtain ⟨tyq140, xq140, cq140_0, ttq140, fq140_0, ecq140_0, tcq140_0, gq140, efq140_0, afq140_0, bfq140_0, uq140_0, uq140_1, uq140_2, uq140_3, uq140_4⟩ := wq140
          dsimp only at uq140_1 uq140_2 uq140_3 uq140_4
          refine ⟨_, gq140, ?_⟩
          show gz gPP gGG gcn _ _ 131 [some (.ref x), some (.ref dr), some (.int (zi i))] [] hq140 _
          have G141 : gSg [114] [] [56000, 56001, 56002, 56003, 71006, 114999] ty h tyq140 hq140 := gSg.tr (gSg.ss G121 sS137 (by decide)) xq140 (by decide) (by decide) (fun x hx => by cases hx)
          have t142 : tyq140 x = 71 := gSg.typ xq140 sS137.1 t122 rfl
          have t143 : tyq140 dr = 55 := gSg.typ xq140 sS137.1 t123 rfl
          have t144 : tyq140 sk = 56 := gSg.typ xq140 sS137.1 t124 rfl
          have t145 : tyq140 bv = 114 := gSg.typ xq140 sS137.1 t125 rfl
          have hl146 : hq140.2.2.2.1 bv = hq120.2.2.2.1 bv := gSg.len xq140 sS137.1 t125 rfl
          have t147 : tyq140 cq88_0 = 114 := gSg.typ xq140 sS137.1 t127 rfl
          have hl148 : hq140.2.2.2.1 cq88_0 = hq120.2.2.2.1 cq88_0 := gSg.len xq140 sS137.1 t127 rfl
          have t149 : tyq140 cq103_0 = 114 := gSg.typ xq140 sS137.1 t129 rfl
          have hl150 : hq140.2.2.2.1 cq103_0 = hq120.2.2.2.1 cq103_0 := gSg.len xq140 sS137.1 t129 rfl
          have t151 : tyq140 cq120_0 = 114 := gSg.typ xq140 sS137.1 tcq120_0 rfl
          have hl152 : hq140.2.2.2.1 cq120_0 = hq120.2.2.2.1 cq120_0 := gSg.len xq140 sS137.1 tcq120_0 rfl
          have s153 := gSg.at xq140 sS137.1 t122 rfl (by decide) s131
          have s154 := gSg.at xq140 sS137.1 t123 rfl (by decide) s132
          have s155 := gSg.at xq140 sS137.1 t122 rfl (by decide) s133
          have s156 := gSg.at xq140 sS137.1 t124 rfl (by decide) s134
          have s157 := gSg.at xq140 sS137.1 t123 rfl (by decide) s135
          have s158 := gSg.at xq140 sS137.1 t123 rfl (by decide) ez138
          have uq159 := gSg.uq xq140 uq136 (by decide)
          have sS160 : gSs rT 1027 tyq140 [56000, 56001, 56002, 56003, 71006, 114999] hq140 hq140 := gSs.rf xq140.1
          refine gz_s 1 (pc' := 132) (L' := [some (.ref x), some (.ref dr), some (.int (zi i))]) (S' := [.ref x]) rfl ?_
          refine gs_gtk rfl (by decide) rfl sS160.1 t142 rfl rfl s153 ?_
          refine gz_s 1 (pc' := 136) (L' := [some (.ref x), some (.ref dr), some (.int (zi i))]) (S' := [.ref dr, .ref sk]) rfl ?_
          refine gs_get rfl (by decide) rfl sS160.1 t143 rfl rfl rfl (fun z161 ez161 az161 bz161 => ?_)
          have hl162 : hq140.2.2.2.1 cq140_0 = hq140.2.2.2.1 cq140_0 := congrFun sS160.2.2.2.2.1 cq140_0
          refine gz_call rfl (by decide) rfl (by decide) (by decide) (gcal_of rfl rfl rfl (Nat.le_of_ble_eq_true rfl) (gJ.recv (G := gGG) sS160.1 t144 rfl rfl)) (cl_Sink_putTwo _ sS160.1 sk t144 z161 ⟨by omega, by omega⟩ cq140_0 ecq140_0 tcq140_0 fq140_0 efq140_0 ⟨by omega, by omega⟩ (by omega) uq159) (fun q163 _ wq163 => ?_)
          obtain ⟨pq163, oq163, hq163⟩ := q163
          obtain ⟨tyq163, xq163, cq163_0, ttq163, fq163_0, ecq163_0, tcq163_0, gq163, efq163_0, afq163_0, bfq163_0, uq163_0, uq163_1, uq163_2, uq163_3, uq163_4⟩ := wq163
          dsimp only at uq163_1 uq163_2 uq163_3 uq163_4
          refine ⟨_, gq163, ?_⟩
          show gz gPP gGG gcn _ _ 142 [some (.ref x), some (.ref dr), some (.int (zi i))] [] hq163 _
          have G164 : gSg [114] [] [56000, 56001, 56002, 56003, 71006, 114999] ty h tyq163 hq163 := gSg.tr (gSg.ss G141 sS160 (by decide)) xq163 (by decide) (by decide) (fun x hx => by cases hx)
          have t165 : tyq163 x = 71 := gSg.typ xq163 sS160.1 t142 rfl
          have t166 : tyq163 dr = 55 := gSg.typ xq163 sS160.1 t143 rfl
          have t167 : tyq163 sk = 56 := gSg.typ xq163 sS160.1 t144 rfl
          have t168 : tyq163 bv = 114 := gSg.typ xq163 sS160.1 t145 rfl
          have hl169 : hq163.2.2.2.1 bv = hq140.2.2.2.1 bv := gSg.len xq163 sS160.1 t145 rfl
          have t170 : tyq163 cq88_0 = 114 := gSg.typ xq163 sS160.1 t147 rfl
          have hl171 : hq163.2.2.2.1 cq88_0 = hq140.2.2.2.1 cq88_0 := gSg.len xq163 sS160.1 t147 rfl
          have t172 : tyq163 cq103_0 = 114 := gSg.typ xq163 sS160.1 t149 rfl
          have hl173 : hq163.2.2.2.1 cq103_0 = hq140.2.2.2.1 cq103_0 := gSg.len xq163 sS160.1 t149 rfl
          have t174 : tyq163 cq120_0 = 114 := gSg.typ xq163 sS160.1 t151 rfl
          have hl175 : hq163.2.2.2.1 cq120_0 = hq140.2.2.2.1 cq120_0 := gSg.len xq163 sS160.1 t151 rfl
          have t176 : tyq163 cq140_0 = 114 := gSg.typ xq163 sS160.1 tcq140_0 rfl
          have hl177 : hq163.2.2.2.1 cq140_0 = hq140.2.2.2.1 cq140_0 := gSg.len xq163 sS160.1 tcq140_0 rfl
          have s178 := gSg.at xq163 sS160.1 t142 rfl (by decide) s153
          have s179 := gSg.at xq163 sS160.1 t143 rfl (by decide) s154
          have s180 := gSg.at xq163 sS160.1 t142 rfl (by decide) s155
          have s181 := gSg.at xq163 sS160.1 t144 rfl (by decide) s156
          have s182 := gSg.at xq163 sS160.1 t143 rfl (by decide) s157
          have s183 := gSg.at xq163 sS160.1 t143 rfl (by decide) s158
          have s184 := gSg.at xq163 sS160.1 t143 rfl (by decide) ez161
          have uq185 := gSg.uq xq163 uq159 (by decide)
          have sS186 : gSs rT 1027 tyq163 [56000, 56001, 56002, 56003, 71006, 114999] hq163 hq163 := gSs.rf xq163.1
          refine gz_s 1 (pc' := 143) (L' := [some (.ref x), some (.ref dr), some (.int (zi i))]) (S' := [.ref x]) rfl ?_
          refine gs_gtk rfl (by decide) rfl sS186.1 t165 rfl rfl s178 ?_
          refine gz_s 1 (pc' := 147) (L' := [some (.ref x), some (.ref dr), some (.int (zi i))]) (S' := [.int (zi 1), .ref sk]) rfl ?_
          have hl187 : hq163.2.2.2.1 cq163_0 = hq163.2.2.2.1 cq163_0 := congrFun sS186.2.2.2.2.1 cq163_0
          refine gz_call rfl (by decide) rfl (by decide) (by decide) (gcal_of rfl rfl rfl (Nat.le_of_ble_eq_true rfl) (gJ.recv (G := gGG) sS186.1 t167 rfl rfl)) (cl_Sink_putByte _ sS186.1 sk t167 1 ⟨by omega, by omega⟩ cq163_0 ecq163_0 tcq163_0 fq163_0 efq163_0 ⟨by omega, by omega⟩ (by omega) uq185) (fun q188 _ wq188 => ?_)
          obtain ⟨pq188, oq188, hq188⟩ := q188
          obtain ⟨tyq188, xq188, cq188_0, ttq188, fq188_0, ecq188_0, tcq188_0, gq188, efq188_0, afq188_0, bfq188_0, uq188_0, uq188_1, uq188_2, uq188_3, uq188_4⟩ := wq188
          dsimp only at uq188_1 uq188_2 uq188_3 uq188_4
          refine ⟨_, gq188, ?_⟩
          show gz gPP gGG gcn _ _ 150 [some (.ref x), some (.ref dr), some (.int (zi i))] [] hq188 _
          have G189 : gSg [114] [] [56000, 56001, 56002, 56003, 71006, 114999] ty h tyq188 hq188 := gSg.tr (gSg.ss G164 sS186 (by decide)) xq188 (by decide) (by decide) (fun x hx => by cases hx)
          have t190 : tyq188 x = 71 := gSg.typ xq188 sS186.1 t165 rfl
          have t191 : tyq188 dr = 55 := gSg.typ xq188 sS186.1 t166 rfl
          have t192 : tyq188 sk = 56 := gSg.typ xq188 sS186.1 t167 rfl
          have t193 : tyq188 bv = 114 := gSg.typ xq188 sS186.1 t168 rfl
          have hl194 : hq188.2.2.2.1 bv = hq163.2.2.2.1 bv := gSg.len xq188 sS186.1 t168 rfl
          have t195 : tyq188 cq88_0 = 114 := gSg.typ xq188 sS186.1 t170 rfl
          have hl196 : hq188.2.2.2.1 cq88_0 = hq163.2.2.2.1 cq88_0 := gSg.len xq188 sS186.1 t170 rfl
          have t197 : tyq188 cq103_0 = 114 := gSg.typ xq188 sS186.1 t172 rfl
          have hl198 : hq188.2.2.2.1 cq103_0 = hq163.2.2.2.1 cq103_0 := gSg.len xq188 sS186.1 t172 rfl
          have t199 : tyq188 cq120_0 = 114 := gSg.typ xq188 sS186.1 t174 rfl
          have hl200 : hq188.2.2.2.1 cq120_0 = hq163.2.2.2.1 cq120_0 := gSg.len xq188 sS186.1 t174 rfl
          have t201 : tyq188 cq140_0 = 114 := gSg.typ xq188 sS186.1 t176 rfl
          have hl202 : hq188.2.2.2.1 cq140_0 = hq163.2.2.2.1 cq140_0 := gSg.len xq188 sS186.1 t176 rfl
          have t203 : tyq188 cq163_0 = 114 := gSg.typ xq188 sS186.1 tcq163_0 rfl
          have hl204 : hq188.2.2.2.1 cq163_0 = hq163.2.2.2.1 cq163_0 := gSg.len xq188 sS186.1 tcq163_0 rfl
          have s205 := gSg.at xq188 sS186.1 t165 rfl (by decide) s178
          have s206 := gSg.at xq188 sS186.1 t166 rfl (by decide) s179
          have s207 := gSg.at xq188 sS186.1 t165 rfl (by decide) s180
          have s208 := gSg.at xq188 sS186.1 t167 rfl (by decide) s181
          have s209 := gSg.at xq188 sS186.1 t166 rfl (by decide) s182
          have s210 := gSg.at xq188 sS186.1 t166 rfl (by decide) s183
          have s211 := gSg.at xq188 sS186.1 t166 rfl (by decide) s184
          have uq212 := gSg.uq xq188 uq185 (by decide)
          have sS213 : gSs rT 1027 tyq188 [56000, 56001, 56002, 56003, 71006, 114999] hq188 hq188 := gSs.rf xq188.1
          refine gz_s 1 (pc' := 151) (L' := [some (.ref x), some (.ref dr), some (.int (zi i))]) (S' := [.ref x]) rfl ?_
          refine gs_gtk rfl (by decide) rfl sS213.1 t190 rfl rfl s205 ?_
          refine gz_s 1 (pc' := 155) (L' := [some (.ref x), some (.ref dr), some (.int (zi i))]) (S' := [.int (zi 1), .ref sk]) rfl ?_
          have hl214 : hq188.2.2.2.1 cq188_0 = hq188.2.2.2.1 cq188_0 := congrFun sS213.2.2.2.2.1 cq188_0
          refine gz_call rfl (by decide) rfl (by decide) (by decide) (gcal_of rfl rfl rfl (Nat.le_of_ble_eq_true rfl) (gJ.recv (G := gGG) sS213.1 t192 rfl rfl)) (cl_Sink_putByte _ sS213.1 sk t192 1 ⟨by omega, by omega⟩ cq188_0 ecq188_0 tcq188_0 fq188_0 efq188_0 ⟨by omega, by omega⟩ (by omega) uq212) (fun q215 _ wq215 => ?_)
          obtain ⟨pq215, oq215, hq215⟩ := q215
          obtain ⟨tyq215, xq215, cq215_0, ttq215, fq215_0, ecq215_0, tcq215_0, gq215, efq215_0, afq215_0, bfq215_0, uq215_0, uq215_1, uq215_2, uq215_3, uq215_4⟩ := wq215
          dsimp only at uq215_1 uq215_2 uq215_3 uq215_4
          refine ⟨_, gq215, ?_⟩
          show gz gPP gGG gcn _ _ 158 [some (.ref x), some (.ref dr), some (.int (zi i))] [] hq215 _
          have G216 : gSg [114] [] [56000, 56001, 56002, 56003, 71006, 114999] ty h tyq215 hq215 := gSg.tr (gSg.ss G189 sS213 (by decide)) xq215 (by decide) (by decide) (fun x hx => by cases hx)
          have t217 : tyq215 x = 71 := gSg.typ xq215 sS213.1 t190 rfl
          have t218 : tyq215 dr = 55 := gSg.typ xq215 sS213.1 t191 rfl
          have t219 : tyq215 sk = 56 := gSg.typ xq215 sS213.1 t192 rfl
          have t220 : tyq215 bv = 114 := gSg.typ xq215 sS213.1 t193 rfl
          have hl221 : hq215.2.2.2.1 bv = hq188.2.2.2.1 bv := gSg.len xq215 sS213.1 t193 rfl
          have t222 : tyq215 cq88_0 = 114 := gSg.typ xq215 sS213.1 t195 rfl
          have hl223 : hq215.2.2.2.1 cq88_0 = hq188.2.2.2.1 cq88_0 := gSg.len xq215 sS213.1 t195 rfl
          have t224 : tyq215 cq103_0 = 114 := gSg.typ xq215 sS213.1 t197 rfl
          have hl225 : hq215.2.2.2.1 cq103_0 = hq188.2.2.2.1 cq103_0 := gSg.len xq215 sS213.1 t197 rfl
          have t226 : tyq215 cq120_0 = 114 := gSg.typ xq215 sS213.1 t199 rfl
          have hl227 : hq215.2.2.2.1 cq120_0 = hq188.2.2.2.1 cq120_0 := gSg.len xq215 sS213.1 t199 rfl
          have t228 : tyq215 cq140_0 = 114 := gSg.typ xq215 sS213.1 t201 rfl
          have hl229 : hq215.2.2.2.1 cq140_0 = hq188.2.2.2.1 cq140_0 := gSg.len xq215 sS213.1 t201 rfl
          have t230 : tyq215 cq163_0 = 114 := gSg.typ xq215 sS213.1 t203 rfl
          have hl231 : hq215.2.2.2.1 cq163_0 = hq188.2.2.2.1 cq163_0 := gSg.len xq215 sS213.1 t203 rfl
          have t232 : tyq215 cq188_0 = 114 := gSg.typ xq215 sS213.1 tcq188_0 rfl
          have hl233 : hq215.2.2.2.1 cq188_0 = hq188.2.2.2.1 cq188_0 := gSg.len xq215 sS213.1 tcq188_0 rfl
          have s234 := gSg.at xq215 sS213.1 t190 rfl (by decide) s205
          have s235 := gSg.at xq215 sS213.1 t191 rfl (by decide) s206
          have s236 := gSg.at xq215 sS213.1 t190 rfl (by decide) s207
          have s237 := gSg.at xq215 sS213.1 t192 rfl (by decide) s208
          have s238 := gSg.at xq215 sS213.1 t191 rfl (by decide) s209
          have s239 := gSg.at xq215 sS213.1 t191 rfl (by decide) s210
          have s240 := gSg.at xq215 sS213.1 t191 rfl (by decide) s211
          have uq241 := gSg.uq xq215 uq212 (by decide)
          have sS242 : gSs rT 1027 tyq215 [56000, 56001, 56002, 56003, 71006, 114999] hq215 hq215 := gSs.rf xq215.1
          refine gz_s 1 (pc' := 159) (L' := [some (.ref x), some (.ref dr), some (.int (zi i))]) (S' := [.ref x]) rfl ?_
          refine gs_gtk rfl (by decide) rfl sS242.1 t217 rfl rfl s234 ?_
          refine gz_s 1 (pc' := 164) (L' := [some (.ref x), some (.ref dr), some (.int (zi i))]) (S' := [.int (zi 17), .ref sk]) rfl ?_
          have hl243 : hq215.2.2.2.1 cq215_0 = hq215.2.2.2.1 cq215_0 := congrFun sS242.2.2.2.2.1 cq215_0
          refine gz_call rfl (by decide) rfl (by decide) (by decide) (gcal_of rfl rfl rfl (Nat.le_of_ble_eq_true rfl) (gJ.recv (G := gGG) sS242.1 t219 rfl rfl)) (cl_Sink_putByte _ sS242.1 sk t219 17 ⟨by omega, by omega⟩ cq215_0 ecq215_0 tcq215_0 fq215_0 efq215_0 ⟨by omega, by omega⟩ (by omega) uq241) (fun q244 _ wq244 => ?_)
          obtain ⟨pq244, oq244, hq244⟩ := q244
          obtain ⟨tyq244, xq244, cq244_0, ttq244, fq244_0, ecq244_0, tcq244_0, gq244, efq244_0, afq244_0, bfq244_0, uq244_0, uq244_1, uq244_2, uq244_3, uq244_4⟩ := wq244
          dsimp only at uq244_1 uq244_2 uq244_3 uq244_4
          refine ⟨_, gq244, ?_⟩
          show gz gPP gGG gcn _ _ 167 [some (.ref x), some (.ref dr), some (.int (zi i))] [] hq244 _
          have G245 : gSg [114] [] [56000, 56001, 56002, 56003, 71006, 114999] ty h tyq244 hq244 := gSg.tr (gSg.ss G216 sS242 (by decide)) xq244 (by decide) (by decide) (fun x hx => by cases hx)
          have t246 : tyq244 x = 71 := gSg.typ xq244 sS242.1 t217 rfl
          have t247 : tyq244 dr = 55 := gSg.typ xq244 sS242.1 t218 rfl
          have t248 : tyq244 sk = 56 := gSg.typ xq244 sS242.1 t219 rfl
          have t249 : tyq244 bv = 114 := gSg.typ xq244 sS242.1 t220 rfl
          have hl250 : hq244.2.2.2.1 bv = hq215.2.2.2.1 bv := gSg.len xq244 sS242.1 t220 rfl
          have t251 : tyq244 cq88_0 = 114 := gSg.typ xq244 sS242.1 t222 rfl
          have hl252 : hq244.2.2.2.1 cq88_0 = hq215.2.2.2.1 cq88_0 := gSg.len xq244 sS242.1 t222 rfl
          have t253 : tyq244 cq103_0 = 114 := gSg.typ xq244 sS242.1 t224 rfl
          have hl254 : hq244.2.2.2.1 cq103_0 = hq215.2.2.2.1 cq103_0 := gSg.len xq244 sS242.1 t224 rfl
          have t255 : tyq244 cq120_0 = 114 := gSg.typ xq244 sS242.1 t226 rfl
          have hl256 : hq244.2.2.2.1 cq120_0 = hq215.2.2.2.1 cq120_0 := gSg.len xq244 sS242.1 t226 rfl
          have t257 : tyq244 cq140_0 = 114 := gSg.typ xq244 sS242.1 t228 rfl
          have hl258 : hq244.2.2.2.1 cq140_0 = hq215.2.2.2.1 cq140_0 := gSg.len xq244 sS242.1 t228 rfl
          have t259 : tyq244 cq163_0 = 114 := gSg.typ xq244 sS242.1 t230 rfl
          have hl260 : hq244.2.2.2.1 cq163_0 = hq215.2.2.2.1 cq163_0 := gSg.len xq244 sS242.1 t230 rfl
          have t261 : tyq244 cq188_0 = 114 := gSg.typ xq244 sS242.1 t232 rfl
          have hl262 : hq244.2.2.2.1 cq188_0 = hq215.2.2.2.1 cq188_0 := gSg.len xq244 sS242.1 t232 rfl
          have t263 : tyq244 cq215_0 = 114 := gSg.typ xq244 sS242.1 tcq215_0 rfl
          have hl264 : hq244.2.2.2.1 cq215_0 = hq215.2.2.2.1 cq215_0 := gSg.len xq244 sS242.1 tcq215_0 rfl
          have s265 := gSg.at xq244 sS242.1 t217 rfl (by decide) s234
          have s266 := gSg.at xq244 sS242.1 t218 rfl (by decide) s235
          have s267 := gSg.at xq244 sS242.1 t217 rfl (by decide) s236
          have s268 := gSg.at xq244 sS242.1 t219 rfl (by decide) s237
          have s269 := gSg.at xq244 sS242.1 t218 rfl (by decide) s238
          have s270 := gSg.at xq244 sS242.1 t218 rfl (by decide) s239
          have s271 := gSg.at xq244 sS242.1 t218 rfl (by decide) s240
          have uq272 := gSg.uq xq244 uq241 (by decide)
          have sS273 : gSs rT 1027 tyq244 [56000, 56001, 56002, 56003, 71006, 114999] hq244 hq244 := gSs.rf xq244.1
          refine gz_s 1 (pc' := 168) (L' := [some (.ref x), some (.ref dr), some (.int (zi i))]) (S' := [.ref x]) rfl ?_
          refine gs_gtk rfl (by decide) rfl sS273.1 t246 rfl rfl s265 ?_
          refine gz_s 1 (pc' := 172) (L' := [some (.ref x), some (.ref dr), some (.int (zi i))]) (S' := [.int (zi 0), .ref sk]) rfl ?_
          have hl274 : hq244.2.2.2.1 cq244_0 = hq244.2.2.2.1 cq244_0 := congrFun sS273.2.2.2.2.1 cq244_0
          refine gz_call rfl (by decide) rfl (by decide) (by decide) (gcal_of rfl rfl rfl (Nat.le_of_ble_eq_true rfl) (gJ.recv (G := gGG) sS273.1 t248 rfl rfl)) (cl_Sink_putByte _ sS273.1 sk t248 0 ⟨by omega, by omega⟩ cq244_0 ecq244_0 tcq244_0 fq244_0 efq244_0 ⟨by omega, by omega⟩ (by omega) uq272) (fun q275 _ wq275 => ?_)
          obtain ⟨pq275, oq275, hq275⟩ := q275
          obtain ⟨tyq275, xq275, cq275_0, ttq275, fq275_0, ecq275_0, tcq275_0, gq275, efq275_0, afq275_0, bfq275_0, uq275_0, uq275_1, uq275_2, uq275_3, uq275_4⟩ := wq275
          dsimp only at uq275_1 uq275_2 uq275_3 uq275_4
          refine ⟨_, gq275, ?_⟩
          show gz gPP gGG gcn _ _ 175 [some (.ref x), some (.ref dr), some (.int (zi i))] [] hq275 _
          have G276 : gSg [114] [] [56000, 56001, 56002, 56003, 71006, 114999] ty h tyq275 hq275 := gSg.tr (gSg.ss G245 sS273 (by decide)) xq275 (by decide) (by decide) (fun x hx => by cases hx)
          have t277 : tyq275 x = 71 := gSg.typ xq275 sS273.1 t246 rfl
          have t278 : tyq275 dr = 55 := gSg.typ xq275 sS273.1 t247 rfl
          have t279 : tyq275 sk = 56 := gSg.typ xq275 sS273.1 t248 rfl
          have t280 : tyq275 bv = 114 := gSg.typ xq275 sS273.1 t249 rfl
          have hl281 : hq275.2.2.2.1 bv = hq244.2.2.2.1 bv := gSg.len xq275 sS273.1 t249 rfl
          have t282 : tyq275 cq88_0 = 114 := gSg.typ xq275 sS273.1 t251 rfl
          have hl283 : hq275.2.2.2.1 cq88_0 = hq244.2.2.2.1 cq88_0 := gSg.len xq275 sS273.1 t251 rfl
          have t284 : tyq275 cq103_0 = 114 := gSg.typ xq275 sS273.1 t253 rfl
          have hl285 : hq275.2.2.2.1 cq103_0 = hq244.2.2.2.1 cq103_0 := gSg.len xq275 sS273.1 t253 rfl
          have t286 : tyq275 cq120_0 = 114 := gSg.typ xq275 sS273.1 t255 rfl
          have hl287 : hq275.2.2.2.1 cq120_0 = hq244.2.2.2.1 cq120_0 := gSg.len xq275 sS273.1 t255 rfl
          have t288 : tyq275 cq140_0 = 114 := gSg.typ xq275 sS273.1 t257 rfl
          have hl289 : hq275.2.2.2.1 cq140_0 = hq244.2.2.2.1 cq140_0 := gSg.len xq275 sS273.1 t257 rfl
          have t290 : tyq275 cq163_0 = 114 := gSg.typ xq275 sS273.1 t259 rfl
          have hl291 : hq275.2.2.2.1 cq163_0 = hq244.2.2.2.1 cq163_0 := gSg.len xq275 sS273.1 t259 rfl
          have t292 : tyq275 cq188_0 = 114 := gSg.typ xq275 sS273.1 t261 rfl
          have hl293 : hq275.2.2.2.1 cq188_0 = hq244.2.2.2.1 cq188_0 := gSg.len xq275 sS273.1 t261 rfl
          have t294 : tyq275 cq215_0 = 114 := gSg.typ xq275 sS273.1 t263 rfl
          have hl295 : hq275.2.2.2.1 cq215_0 = hq244.2.2.2.1 cq215_0 := gSg.len xq275 sS273.1 t263 rfl
          have t296 : tyq275 cq244_0 = 114 := gSg.typ xq275 sS273.1 tcq244_0 rfl
          have hl297 : hq275.2.2.2.1 cq244_0 = hq244.2.2.2.1 cq244_0 := gSg.len xq275 sS273.1 tcq244_0 rfl
          have s298 := gSg.at xq275 sS273.1 t246 rfl (by decide) s265
          have s299 := gSg.at xq275 sS273.1 t247 rfl (by decide) s266
          have s300 := gSg.at xq275 sS273.1 t246 rfl (by decide) s267
          have s301 := gSg.at xq275 sS273.1 t248 rfl (by decide) s268
          have s302 := gSg.at xq275 sS273.1 t247 rfl (by decide) s269
          have s303 := gSg.at xq275 sS273.1 t247 rfl (by decide) s270
          have s304 := gSg.at xq275 sS273.1 t247 rfl (by decide) s271
          have uq305 := gSg.uq xq275 uq272 (by decide)
          have sS306 : gSs rT 1027 tyq275 [56000, 56001, 56002, 56003, 71006, 114999] hq275 hq275 := gSs.rf xq275.1
          refine gz_s 1 (pc' := 176) (L' := [some (.ref x), some (.ref dr), some (.int (zi i))]) (S' := [.ref x]) rfl ?_
          refine gs_gtk rfl (by decide) rfl sS306.1 t277 rfl rfl s300 ?_
          by_cases hc307 : (z1 : Int) ≤ 0
          · refine gy_ifT (pc' := 211) rfl (by decide) (by decide) (by omega) hc307 ?_
            have hl308 : 1024 ≤ hq275.2.2.2.1 bv ∧ hq275.2.2.2.1 bv ≤ 1000000 := gJ.rowl (G := gGG) sS306.1 t280 rfl
            have hl309 : 1024 ≤ hq275.2.2.2.1 cq88_0 ∧ hq275.2.2.2.1 cq88_0 ≤ 1000000 := gJ.rowl (G := gGG) sS306.1 t282 rfl
            have hl310 : 1024 ≤ hq275.2.2.2.1 cq103_0 ∧ hq275.2.2.2.1 cq103_0 ≤ 1000000 := gJ.rowl (G := gGG) sS306.1 t284 rfl
            have hl311 : 1024 ≤ hq275.2.2.2.1 cq120_0 ∧ hq275.2.2.2.1 cq120_0 ≤ 1000000 := gJ.rowl (G := gGG) sS306.1 t286 rfl
            have hl312 : 1024 ≤ hq275.2.2.2.1 cq140_0 ∧ hq275.2.2.2.1 cq140_0 ≤ 1000000 := gJ.rowl (G := gGG) sS306.1 t288 rfl
            have hl313 : 1024 ≤ hq275.2.2.2.1 cq163_0 ∧ hq275.2.2.2.1 cq163_0 ≤ 1000000 := gJ.rowl (G := gGG) sS306.1 t290 rfl
            have hl314 : 1024 ≤ hq275.2.2.2.1 cq188_0 ∧ hq275.2.2.2.1 cq188_0 ≤ 1000000 := gJ.rowl (G := gGG) sS306.1 t292 rfl
            have hl315 : 1024 ≤ hq275.2.2.2.1 cq215_0 ∧ hq275.2.2.2.1 cq215_0 ≤ 1000000 := gJ.rowl (G := gGG) sS306.1 t294 rfl
            have hl316 : 1024 ≤ hq275.2.2.2.1 cq244_0 ∧ hq275.2.2.2.1 cq244_0 ≤ 1000000 := gJ.rowl (G := gGG) sS306.1 t296 rfl
            have hl317 : 1024 ≤ hq275.2.2.2.1 cq275_0 ∧ hq275.2.2.2.1 cq275_0 ≤ 1000000 := gJ.rowl (G := gGG) sS306.1 tcq275_0 rfl
            have G318 : gSg [114] [] [56000, 56001, 56002, 56003, 71006, 114999] ty h tyq275 hq275 := gSg.ss G276 sS306 (by decide)
            exact gz_end (I := .return_) (len := 1) rfl (Or.inl rfl) ⟨tyq275, G318, cq275_0, trivial, fq275_0, fq6_1, ecq275_0, tcq275_0, rfl, efq275_0, (by omega), (by omega), s301, (by omega), (by omega), (by omega), (by omega), (by dsimp only; omega), (by dsimp only; omega), (by dsimp only; omega), (by dsimp only; omega)⟩
          · refine gy_ifF rfl (by decide) (by decide) (by omega) hc307 ?_
            refine gz_s 1 (pc' := 183) (L' := [some (.ref x), some (.ref dr), some (.int (zi i))]) (S' := [.ref x]) rfl ?_
            refine gs_gtk rfl (by decide) rfl sS306.1 t277 rfl rfl s298 ?_
            refine gz_s 1 (pc' := 189) (L' := [some (.ref x), some (.ref dr), some (.int (zi i))]) (S' := [.int (zi 221), .ref sk]) rfl ?_
            have hl319 : hq275.2.2.2.1 cq275_0 = hq275.2.2.2.1 cq275_0 := congrFun sS306.2.2.2.2.1 cq275_0
            refine gz_call rfl (by decide) rfl (by decide) (by decide) (gcal_of rfl rfl rfl (Nat.le_of_ble_eq_true rfl) (gJ.recv (G := gGG) sS306.1 t279 rfl rfl)) (cl_Sink_putMarker _ sS306.1 sk t279 221 ⟨by omega, by omega⟩ cq275_0 ecq275_0 tcq275_0 fq275_0 efq275_0 ⟨by omega, by omega⟩ (by omega) uq305) (fun q320 _ wq320 => ?_)
            obtain ⟨pq320, oq320, hq320⟩ := q320
            obtain ⟨tyq320, xq320, cq320_0, ttq320, fq320_0, ecq320_0, tcq320_0, gq320, efq320_0, afq320_0, bfq320_0, uq320_0, uq320_1, uq320_2, uq320_3, uq320_4⟩ := wq320
            dsimp only at uq320_1 uq320_2 uq320_3 uq320_4
            refine ⟨_, gq320, ?_⟩
            show gz gPP gGG gcn _ _ 192 [some (.ref x), some (.ref dr), some (.int (zi i))] [] hq320 _
            have G321 : gSg [114] [] [56000, 56001, 56002, 56003, 71006, 114999] ty h tyq320 hq320 := gSg.tr (gSg.ss G276 sS306 (by decide)) xq320 (by decide) (by decide) (fun x hx => by cases hx)
            have t322 : tyq320 x = 71 := gSg.typ xq320 sS306.1 t277 rfl
            have t323 : tyq320 dr = 55 := gSg.typ xq320 sS306.1 t278 rfl
            have t324 : tyq320 sk = 56 := gSg.typ xq320 sS306.1 t279 rfl
            have t325 : tyq320 bv = 114 := gSg.typ xq320 sS306.1 t280 rfl
            have hl326 : hq320.2.2.2.1 bv = hq275.2.2.2.1 bv := gSg.len xq320 sS306.1 t280 rfl
            have t327 : tyq320 cq88_0 = 114 := gSg.typ xq320 sS306.1 t282 rfl
            have hl328 : hq320.2.2.2.1 cq88_0 = hq275.2.2.2.1 cq88_0 := gSg.len xq320 sS306.1 t282 rfl
            have t329 : tyq320 cq103_0 = 114 := gSg.typ xq320 sS306.1 t284 rfl
            have hl330 : hq320.2.2.2.1 cq103_0 = hq275.2.2.2.1 cq103_0 := gSg.len xq320 sS306.1 t284 rfl
            have t331 : tyq320 cq120_0 = 114 := gSg.typ xq320 sS306.1 t286 rfl
            have hl332 : hq320.2.2.2.1 cq120_0 = hq275.2.2.2.1 cq120_0 := gSg.len xq320 sS306.1 t286 rfl
            have t333 : tyq320 cq140_0 = 114 := gSg.typ xq320 sS306.1 t288 rfl
            have hl334 : hq320.2.2.2.1 cq140_0 = hq275.2.2.2.1 cq140_0 := gSg.len xq320 sS306.1 t288 rfl
            have t335 : tyq320 cq163_0 = 114 := gSg.typ xq320 sS306.1 t290 rfl
            have hl336 : hq320.2.2.2.1 cq163_0 = hq275.2.2.2.1 cq163_0 := gSg.len xq320 sS306.1 t290 rfl
            have t337 : tyq320 cq188_0 = 114 := gSg.typ xq320 sS306.1 t292 rfl
            have hl338 : hq320.2.2.2.1 cq188_0 = hq275.2.2.2.1 cq188_0 := gSg.len xq320 sS306.1 t292 rfl
            have t339 : tyq320 cq215_0 = 114 := gSg.typ xq320 sS306.1 t294 rfl
            have hl340 : hq320.2.2.2.1 cq215_0 = hq275.2.2.2.1 cq215_0 := gSg.len xq320 sS306.1 t294 rfl
            have t341 : tyq320 cq244_0 = 114 := gSg.typ xq320 sS306.1 t296 rfl
            have hl342 : hq320.2.2.2.1 cq244_0 = hq275.2.2.2.1 cq244_0 := gSg.len xq320 sS306.1 t296 rfl
            have t343 : tyq320 cq275_0 = 114 := gSg.typ xq320 sS306.1 tcq275_0 rfl
            have hl344 : hq320.2.2.2.1 cq275_0 = hq275.2.2.2.1 cq275_0 := gSg.len xq320 sS306.1 tcq275_0 rfl
            have s345 := gSg.at xq320 sS306.1 t277 rfl (by decide) s298
            have s346 := gSg.at xq320 sS306.1 t278 rfl (by decide) s299
            have s347 := gSg.at xq320 sS306.1 t277 rfl (by decide) s300
            have s348 := gSg.at xq320 sS306.1 t279 rfl (by decide) s301
            have s349 := gSg.at xq320 sS306.1 t278 rfl (by decide) s302
            have s350 := gSg.at xq320 sS306.1 t278 rfl (by decide) s303
            have s351 := gSg.at xq320 sS306.1 t278 rfl (by decide) s304
            have uq352 := gSg.uq xq320 uq305 (by decide)
            have sS353 : gSs rT 1027 tyq320 [56000, 56001, 56002, 56003, 71006, 114999] hq320 hq320 := gSs.rf xq320.1
            refine gz_s 1 (pc' := 193) (L' := [some (.ref x), some (.ref dr), some (.int (zi i))]) (S' := [.ref x]) rfl ?_
            refine gs_gtk rfl (by decide) rfl sS353.1 t322 rfl rfl s345 ?_
            refine gz_s 1 (pc' := 197) (L' := [some (.ref x), some (.ref dr), some (.int (zi i))]) (S' := [.int (zi 4), .ref sk]) rfl ?_
            have hl354 : hq320.2.2.2.1 cq320_0 = hq320.2.2.2.1 cq320_0 := congrFun sS353.2.2.2.2.1 cq320_0
            refine gz_call rfl (by decide) rfl (by decide) (by decide) (gcal_of rfl rfl rfl (Nat.le_of_ble_eq_true rfl) (gJ.recv (G := gGG) sS353.1 t324 rfl rfl)) (cl_Sink_putTwo _ sS353.1 sk t324 4 ⟨by omega, by omega⟩ cq320_0 ecq320_0 tcq320_0 fq320_0 efq320_0 ⟨by omega, by omega⟩ (by omega) uq352) (fun q355 _ wq355 => ?_)
            obtain ⟨pq355, oq355, hq355⟩ := q355
            obtain ⟨tyq355, xq355, cq355_0, ttq355, fq355_0, ecq355_0, tcq355_0, gq355, efq355_0, afq355_0, bfq355_0, uq355_0, uq355_1, uq355_2, uq355_3, uq355_4⟩ := wq355
            dsimp only at uq355_1 uq355_2 uq355_3 uq355_4
            refine ⟨_, gq355, ?_⟩
            show gz gPP gGG gcn _ _ 200 [some (.ref x), some (.ref dr), some (.int (zi i))] [] hq355 _
            have G356 : gSg [114] [] [56000, 56001, 56002, 56003, 71006, 114999] ty h tyq355 hq355 := gSg.tr (gSg.ss G321 sS353 (by decide)) xq355 (by decide) (by decide) (fun x hx => by cases hx)
            have t357 : tyq355 x = 71 := gSg.typ xq355 sS353.1 t322 rfl
            have t358 : tyq355 dr = 55 := gSg.typ xq355 sS353.1 t323 rfl
            have t359 : tyq355 sk = 56 := gSg.typ xq355 sS353.1 t324 rfl
            have t360 : tyq355 bv = 114 := gSg.typ xq355 sS353.1 t325 rfl
            have hl361 : hq355.2.2.2.1 bv = hq320.2.2.2.1 bv := gSg.len xq355 sS353.1 t325 rfl
            have t362 : tyq355 cq88_0 = 114 := gSg.typ xq355 sS353.1 t327 rfl
            have hl363 : hq355.2.2.2.1 cq88_0 = hq320.2.2.2.1 cq88_0 := gSg.len xq355 sS353.1 t327 rfl
            have t364 : tyq355 cq103_0 = 114 := gSg.typ xq355 sS353.1 t329 rfl
            have hl365 : hq355.2.2.2.1 cq103_0 = hq320.2.2.2.1 cq103_0 := gSg.len xq355 sS353.1 t329 rfl
            have t366 : tyq355 cq120_0 = 114 := gSg.typ xq355 sS353.1 t331 rfl
            have hl367 : hq355.2.2.2.1 cq120_0 = hq320.2.2.2.1 cq120_0 := gSg.len xq355 sS353.1 t331 rfl
            have t368 : tyq355 cq140_0 = 114 := gSg.typ xq355 sS353.1 t333 rfl
            have hl369 : hq355.2.2.2.1 cq140_0 = hq320.2.2.2.1 cq140_0 := gSg.len xq355 sS353.1 t333 rfl
            have t370 : tyq355 cq163_0 = 114 := gSg.typ xq355 sS353.1 t335 rfl
            have hl371 : hq355.2.2.2.1 cq163_0 = hq320.2.2.2.1 cq163_0 := gSg.len xq355 sS353.1 t335 rfl
            have t372 : tyq355 cq188_0 = 114 := gSg.typ xq355 sS353.1 t337 rfl
            have hl373 : hq355.2.2.2.1 cq188_0 = hq320.2.2.2.1 cq188_0 := gSg.len xq355 sS353.1 t337 rfl
            have t374 : tyq355 cq215_0 = 114 := gSg.typ xq355 sS353.1 t339 rfl
            have hl375 : hq355.2.2.2.1 cq215_0 = hq320.2.2.2.1 cq215_0 := gSg.len xq355 sS353.1 t339 rfl
            have t376 : tyq355 cq244_0 = 114 := gSg.typ xq355 sS353.1 t341 rfl
            have hl377 : hq355.2.2.2.1 cq244_0 = hq320.2.2.2.1 cq244_0 := gSg.len xq355 sS353.1 t341 rfl
            have t378 : tyq355 cq275_0 = 114 := gSg.typ xq355 sS353.1 t343 rfl
            have hl379 : hq355.2.2.2.1 cq275_0 = hq320.2.2.2.1 cq275_0 := gSg.len xq355 sS353.1 t343 rfl
            have t380 : tyq355 cq320_0 = 114 := gSg.typ xq355 sS353.1 tcq320_0 rfl
            have hl381 : hq355.2.2.2.1 cq320_0 = hq320.2.2.2.1 cq320_0 := gSg.len xq355 sS353.1 tcq320_0 rfl
            have s382 := gSg.at xq355 sS353.1 t322 rfl (by decide) s345
            have s383 := gSg.at xq355 sS353.1 t323 rfl (by decide) s346
            have s384 := gSg.at xq355 sS353.1 t322 rfl (by decide) s347
            have s385 := gSg.at xq355 sS353.1 t324 rfl (by decide) s348
            have s386 := gSg.at xq355 sS353.1 t323 rfl (by decide) s349
            have s387 := gSg.at xq355 sS353.1 t323 rfl (by decide) s350
            have s388 := gSg.at xq355 sS353.1 t323 rfl (by decide) s351
            have uq389 := gSg.uq xq355 uq352 (by decide)
            have sS390 : gSs rT 1027 tyq355 [56000, 56001, 56002, 56003, 71006, 114999] hq355 hq355 := gSs.rf xq355.1
            refine gz_s 1 (pc' := 201) (L' := [some (.ref x), some (.ref dr), some (.int (zi i))]) (S' := [.ref x]) rfl ?_
            refine gs_gtk rfl (by decide) rfl sS390.1 t357 rfl rfl s382 ?_
            refine gz_s 1 (pc' := 205) (L' := [some (.ref x), some (.ref dr), some (.int (zi i))]) (S' := [.ref x, .ref sk]) rfl ?_
            refine gs_gtk rfl (by decide) rfl sS390.1 t357 rfl rfl s384 ?_
            have hl391 : hq355.2.2.2.1 cq355_0 = hq355.2.2.2.1 cq355_0 := congrFun sS390.2.2.2.2.1 cq355_0
            refine gz_call rfl (by decide) rfl (by decide) (by decide) (gcal_of rfl rfl rfl (Nat.le_of_ble_eq_true rfl) (gJ.recv (G := gGG) sS390.1 t359 rfl rfl)) (cl_Sink_putTwo _ sS390.1 sk t359 z1 ⟨by omega, by omega⟩ cq355_0 ecq355_0 tcq355_0 fq355_0 efq355_0 ⟨by omega, by omega⟩ (by omega) uq389) (fun q392 _ wq392 => ?_)
            obtain ⟨pq392, oq392, hq392⟩ := q392
            obtain ⟨tyq392, xq392, cq392_0, ttq392, fq392_0, ecq392_0, tcq392_0, gq392, efq392_0, afq392_0, bfq392_0, uq392_0, uq392_1, uq392_2, uq392_3, uq392_4⟩ := wq392
            dsimp only at uq392_1 uq392_2 uq392_3 uq392_4
            refine ⟨_, gq392, ?_⟩
            show gz gPP gGG gcn _ _ 211 [some (.ref x), some (.ref dr), some (.int (zi i))] [] hq392 _
            have G393 : gSg [114] [] [56000, 56001, 56002, 56003, 71006, 114999] ty h tyq392 hq392 := gSg.tr (gSg.ss G356 sS390 (by decide)) xq392 (by decide) (by decide) (fun x hx => by cases hx)
            have t394 : tyq392 x = 71 := gSg.typ xq392 sS390.1 t357 rfl
            have t395 : tyq392 dr = 55 := gSg.typ xq392 sS390.1 t358 rfl
            have t396 : tyq392 sk = 56 := gSg.typ xq392 sS390.1 t359 rfl
            have t397 : tyq392 bv = 114 := gSg.typ xq392 sS390.1 t360 rfl
            have hl398 : hq392.2.2.2.1 bv = hq355.2.2.2.1 bv := gSg.len xq392 sS390.1 t360 rfl
            have t399 : tyq392 cq88_0 = 114 := gSg.typ xq392 sS390.1 t362 rfl
            have hl400 : hq392.2.2.2.1 cq88_0 = hq355.2.2.2.1 cq88_0 := gSg.len xq392 sS390.1 t362 rfl
            have t401 : tyq392 cq103_0 = 114 := gSg.typ xq392 sS390.1 t364 rfl
            have hl402 : hq392.2.2.2.1 cq103_0 = hq355.2.2.2.1 cq103_0 := gSg.len xq392 sS390.1 t364 rfl
            have t403 : tyq392 cq120_0 = 114 := gSg.typ xq392 sS390.1 t366 rfl
            have hl404 : hq392.2.2.2.1 cq120_0 = hq355.2.2.2.1 cq120_0 := gSg.len xq392 sS390.1 t366 rfl
            have t405 : tyq392 cq140_0 = 114 := gSg.typ xq392 sS390.1 t368 rfl
            have hl406 : hq392.2.2.2.1 cq140_0 = hq355.2.2.2.1 cq140_0 := gSg.len xq392 sS390.1 t368 rfl
            have t407 : tyq392 cq163_0 = 114 := gSg.typ xq392 sS390.1 t370 rfl
            have hl408 : hq392.2.2.2.1 cq163_0 = hq355.2.2.2.1 cq163_0 := gSg.len xq392 sS390.1 t370 rfl
            have t409 : tyq392 cq188_0 = 114 := gSg.typ xq392 sS390.1 t372 rfl
            have hl410 : hq392.2.2.2.1 cq188_0 = hq355.2.2.2.1 cq188_0 := gSg.len xq392 sS390.1 t372 rfl
            have t411 : tyq392 cq215_0 = 114 := gSg.typ xq392 sS390.1 t374 rfl
            have hl412 : hq392.2.2.2.1 cq215_0 = hq355.2.2.2.1 cq215_0 := gSg.len xq392 sS390.1 t374 rfl
            have t413 : tyq392 cq244_0 = 114 := gSg.typ xq392 sS390.1 t376 rfl
            have hl414 : hq392.2.2.2.1 cq244_0 = hq355.2.2.2.1 cq244_0 := gSg.len xq392 sS390.1 t376 rfl
            have t415 : tyq392 cq275_0 = 114 := gSg.typ xq392 sS390.1 t378 rfl
            have hl416 : hq392.2.2.2.1 cq275_0 = hq355.2.2.2.1 cq275_0 := gSg.len xq392 sS390.1 t378 rfl
            have t417 : tyq392 cq320_0 = 114 := gSg.typ xq392 sS390.1 t380 rfl
            have hl418 : hq392.2.2.2.1 cq320_0 = hq355.2.2.2.1 cq320_0 := gSg.len xq392 sS390.1 t380 rfl
            have t419 : tyq392 cq355_0 = 114 := gSg.typ xq392 sS390.1 tcq355_0 rfl
            have hl420 : hq392.2.2.2.1 cq355_0 = hq355.2.2.2.1 cq355_0 := gSg.len xq392 sS390.1 tcq355_0 rfl
            have s421 := gSg.at xq392 sS390.1 t357 rfl (by decide) s382
            have s422 := gSg.at xq392 sS390.1 t358 rfl (by decide) s383
            have s423 := gSg.at xq392 sS390.1 t357 rfl (by decide) s384
            have s424 := gSg.at xq392 sS390.1 t359 rfl (by decide) s385
            have s425 := gSg.at xq392 sS390.1 t358 rfl (by decide) s386
            have s426 := gSg.at xq392 sS390.1 t358 rfl (by decide) s387
            have s427 := gSg.at xq392 sS390.1 t358 rfl (by decide) s388
            have uq428 := gSg.uq xq392 uq389 (by decide)
            have sS429 : gSs rT 1027 tyq392 [56000, 56001, 56002, 56003, 71006, 114999] hq392 hq392 := gSs.rf xq392.1
            have hl430 : 1024 ≤ hq392.2.2.2.1 bv ∧ hq392.2.2.2.1 bv ≤ 1000000 := gJ.rowl (G := gGG) sS429.1 t397 rfl
            have hl431 : 1024 ≤ hq392.2.2.2.1 cq88_0 ∧ hq392.2.2.2.1 cq88_0 ≤ 1000000 := gJ.rowl (G := gGG) sS429.1 t399 rfl
            have hl432 : 1024 ≤ hq392.2.2.2.1 cq103_0 ∧ hq392.2.2.2.1 cq103_0 ≤ 1000000 := gJ.rowl (G := gGG) sS429.1 t401 rfl
            have hl433 : 1024 ≤ hq392.2.2.2.1 cq120_0 ∧ hq392.2.2.2.1 cq120_0 ≤ 1000000 := gJ.rowl (G := gGG) sS429.1 t403 rfl
            have hl434 : 1024 ≤ hq392.2.2.2.1 cq140_0 ∧ hq392.2.2.2.1 cq140_0 ≤ 1000000 := gJ.rowl (G := gGG) sS429.1 t405 rfl
            have hl435 : 1024 ≤ hq392.2.2.2.1 cq163_0 ∧ hq392.2.2.2.1 cq163_0 ≤ 1000000 := gJ.rowl (G := gGG) sS429.1 t407 rfl
            have hl436 : 1024 ≤ hq392.2.2.2.1 cq188_0 ∧ hq392.2.2.2.1 cq188_0 ≤ 1000000 := gJ.rowl (G := gGG) sS429.1 t409 rfl
            have hl437 : 1024 ≤ hq392.2.2.2.1 cq215_0 ∧ hq392.2.2.2.1 cq215_0 ≤ 1000000 := gJ.rowl (G := gGG) sS429.1 t411 rfl
            have hl438 : 1024 ≤ hq392.2.2.2.1 cq244_0 ∧ hq392.2.2.2.1 cq244_0 ≤ 1000000 := gJ.rowl (G := gGG) sS429.1 t413 rfl
            have hl439 : 1024 ≤ hq392.2.2.2.1 cq275_0 ∧ hq392.2.2.2.1 cq275_0 ≤ 1000000 := gJ.rowl (G := gGG) sS429.1 t415 rfl
            have hl440 : 1024 ≤ hq392.2.2.2.1 cq320_0 ∧ hq392.2.2.2.1 cq320_0 ≤ 1000000 := gJ.rowl (G := gGG) sS429.1 t417 rfl
            have hl441 : 1024 ≤ hq392.2.2.2.1 cq355_0 ∧ hq392.2.2.2.1 cq355_0 ≤ 1000000 := gJ.rowl (G := gGG) sS429.1 t419 rfl
            have hl442 : 1024 ≤ hq392.2.2.2.1 cq392_0 ∧ hq392.2.2.2.1 cq392_0 ≤ 1000000 := gJ.rowl (G := gGG) sS429.1 tcq392_0 rfl
            have G443 : gSg [114] [] [56000, 56001, 56002, 56003, 71006, 114999] ty h tyq392 hq392 := gSg.ss G393 sS429 (by decide)
            exact gz_end (I := .return_) (len := 1) rfl (Or.inl rfl) ⟨tyq392, G443, cq392_0, trivial, fq392_0, fq6_1, ecq392_0, tcq392_0, rfl, efq392_0, (by omega), (by omega), s424, (by omega), (by omega), (by omega), (by omega), (by dsimp only; omega), (by dsimp only; omega), (by dsimp only; omega), (by dsimp only; omega)⟩
        · refine gy_ifF rfl (by decide) (by decide) (by omega) hc86 ?_
          refine gz_s 2 (pc' := 99) (L' := [some (.ref x), some (.ref dr), some (.int (zi i))]) (S' := [.int (zi 194), .ref sk]) rfl ?_
          have hl444 : h82.2.2.2.1 bv = h82.2.2.2.1 bv := congrFun sh82.2.2.2.2.1 bv
          refine gz_call rfl (by decide) rfl (by decide) (by decide) (gcal_of rfl rfl rfl (Nat.le_of_ble_eq_true rfl) (gJ.recv (G := gGG) sh82.1 lp81c2 rfl rfl)) (cl_Sink_putMarker _ sh82.1 sk lp81c2 194 ⟨by omega, by omega⟩ bv lp81r0 lp81r1 cv lp81k4 ⟨by omega, by omega⟩ (by omega) lp81u) (fun q445 _ wq445 => ?_)
          obtain ⟨pq445, oq445, hq445⟩ := q445
          obtain ⟨tyq445, xq445, cq445_0, ttq445, fq445_0, ecq445_0, tcq445_0, gq445, efq445_0, afq445_0, bfq445_0, uq445_0, uq445_1, uq445_2, uq445_3, uq445_4⟩ := wq445
          dsimp only at uq445_1 uq445_2 uq445_3 uq445_4
          refine ⟨_, gq445, ?_⟩
          show gz gPP gGG gcn _ _ 102 [some (.ref x), some (.ref dr), some (.int (zi i))] [] hq445 _
          have G446 : gSg [114] [] [56000, 56001, 56002, 56003, 71006, 114999] ty h tyq445 hq445 := gSg.tr (gSg.ss lp81G sh82 (by decide)) xq445 (by decide) (by decide) (fun x hx => by cases hx)
          have t447 : tyq445 x = 71 := gSg.typ xq445 sh82.1 lp81c0 rfl
          have t448 : tyq445 dr = 55 := gSg.typ xq445 sh82.1 lp81c1 rfl
          have t449 : tyq445 sk = 56 := gSg.typ xq445 sh82.1 lp81c2 rfl
          have t450 : tyq445 bv = 114 := gSg.typ xq445 sh82.1 lp81r1 rfl
          have hl451 : hq445.2.2.2.1 bv = h82.2.2.2.1 bv := gSg.len xq445 sh82.1 lp81r1 rfl
          have s452 := gSg.at xq445 sh82.1 lp81c0 rfl (by decide) lp81k0
          have s453 := gSg.at xq445 sh82.1 lp81c1 rfl (by decide) lp81k1
          have s454 := gSg.at xq445 sh82.1 lp81c0 rfl (by decide) lp81k2
          have s455 := gSg.at xq445 sh82.1 lp81c2 rfl (by decide) lp81k3
          have s456 := gSg.at xq445 sh82.1 lp81c1 rfl (by decide) ez85
          have uq457 := gSg.uq xq445 lp81u (by decide)
          have sS458 : gSs rT 1027 tyq445 [56000, 56001, 56002, 56003, 71006, 114999] hq445 hq445 := gSs.rf xq445.1
          refine gz_s 1 (pc' := 103) (L' := [some (.ref x), some (.ref dr), some (.int (zi i))]) (S' := [.ref x]) rfl ?_
          refine gs_gtk rfl (by decide) rfl sS458.1 t447 rfl rfl s452 ?_
          refine gz_s 1 (pc' := 108) (L' := [some (.ref x), some (.ref dr), some (.int (zi i))]) (S' := [.int (zi 11), .ref sk]) rfl ?_
          have hl459 : hq445.2.2.2.1 cq445_0 = hq445.2.2.2.1 cq445_0 := congrFun sS458.2.2.2.2.1 cq445_0
          refine gz_call rfl (by decide) rfl (by decide) (by decide) (gcal_of rfl rfl rfl (Nat.le_of_ble_eq_true rfl) (gJ.recv (G := gGG) sS458.1 t449 rfl rfl)) (cl_Sink_putTwo _ sS458.1 sk t449 11 ⟨by omega, by omega⟩ cq445_0 ecq445_0 tcq445_0 fq445_0 efq445_0 ⟨by omega, by omega⟩ (by omega) uq457) (fun q460 _ wq460 => ?_)
          obtain ⟨pq460, oq460, hq460⟩ := q460
          obtain ⟨tyq460, xq460, cq460_0, ttq460, fq460_0, ecq460_0, tcq460_0, gq460, efq460_0, afq460_0, bfq460_0, uq460_0, uq460_1, uq460_2, uq460_3, uq460_4⟩ := wq460
          dsimp only at uq460_1 uq460_2 uq460_3 uq460_4
          refine ⟨_, gq460, ?_⟩
          show gz gPP gGG gcn _ _ 111 [some (.ref x), some (.ref dr), some (.int (zi i))] [] hq460 _
          have G461 : gSg [114] [] [56000, 56001, 56002, 56003, 71006, 114999] ty h tyq460 hq460 := gSg.tr (gSg.ss G446 sS458 (by decide)) xq460 (by decide) (by decide) (fun x hx => by cases hx)
          have t462 : tyq460 x = 71 := gSg.typ xq460 sS458.1 t447 rfl
          have t463 : tyq460 dr = 55 := gSg.typ xq460 sS458.1 t448 rfl
          have t464 : tyq460 sk = 56 := gSg.typ xq460 sS458.1 t449 rfl
          have t465 : tyq460 bv = 114 := gSg.typ xq460 sS458.1 t450 rfl
          have hl466 : hq460.2.2.2.1 bv = hq445.2.2.2.1 bv := gSg.len xq460 sS458.1 t450 rfl
          have t467 : tyq460 cq445_0 = 114 := gSg.typ xq460 sS458.1 tcq445_0 rfl
          have hl468 : hq460.2.2.2.1 cq445_0 = hq445.2.2.2.1 cq445_0 := gSg.len xq460 sS458.1 tcq445_0 rfl
          have s469 := gSg.at xq460 sS458.1 t447 rfl (by decide) s452
          have s470 := gSg.at xq460 sS458.1 t448 rfl (by decide) s453
          have s471 := gSg.at xq460 sS458.1 t447 rfl (by decide) s454
          have s472 := gSg.at xq460 sS458.1 t449 rfl (by decide) s455
          have s473 := gSg.at xq460 sS458.1 t448 rfl (by decide) s456
          have uq474 := gSg.uq xq460 uq457 (by decide)
          have sS475 : gSs rT 1027 tyq460 [56000, 56001, 56002, 56003, 71006, 114999] hq460 hq460 := gSs.rf xq460.1
          refine gz_s 1 (pc' := 112) (L' := [some (.ref x), some (.ref dr), some (.int (zi i))]) (S' := [.ref x]) rfl ?_
          refine gs_gtk rfl (by decide) rfl sS475.1 t462 rfl rfl s469 ?_
          refine gz_s 1 (pc' := 117) (L' := [some (.ref x), some (.ref dr), some (.int (zi i))]) (S' := [.int (zi 8), .ref sk]) rfl ?_
          have hl476 : hq460.2.2.2.1 cq460_0 = hq460.2.2.2.1 cq460_0 := congrFun sS475.2.2.2.2.1 cq460_0
          refine gz_call rfl (by decide) rfl (by decide) (by decide) (gcal_of rfl rfl rfl (Nat.le_of_ble_eq_true rfl) (gJ.recv (G := gGG) sS475.1 t464 rfl rfl)) (cl_Sink_putByte _ sS475.1 sk t464 8 ⟨by omega, by omega⟩ cq460_0 ecq460_0 tcq460_0 fq460_0 efq460_0 ⟨by omega, by omega⟩ (by omega) uq474) (fun q477 _ wq477 => ?_)
          obtain ⟨pq477, oq477, hq477⟩ := q477
          obtain ⟨tyq477, xq477, cq477_0, ttq477, fq477_0, ecq477_0, tcq477_0, gq477, efq477_0, afq477_0, bfq477_0, uq477_0, uq477_1, uq477_2, uq477_3, uq477_4⟩ := wq477
          dsimp only at uq477_1 uq477_2 uq477_3 uq477_4
          refine ⟨_, gq477, ?_⟩
          show gz gPP gGG gcn _ _ 120 [some (.ref x), some (.ref dr), some (.int (zi i))] [] hq477 _
          have G478 : gSg [114] [] [56000, 56001, 56002, 56003, 71006, 114999] ty h tyq477 hq477 := gSg.tr (gSg.ss G461 sS475 (by decide)) xq477 (by decide) (by decide) (fun x hx => by cases hx)
          have t479 : tyq477 x = 71 := gSg.typ xq477 sS475.1 t462 rfl
          have t480 : tyq477 dr = 55 := gSg.typ xq477 sS475.1 t463 rfl
          have t481 : tyq477 sk = 56 := gSg.typ xq477 sS475.1 t464 rfl
          have t482 : tyq477 bv = 114 := gSg.typ xq477 sS475.1 t465 rfl
          have hl483 : hq477.2.2.2.1 bv = hq460.2.2.2.1 bv := gSg.len xq477 sS475.1 t465 rfl
          have t484 : tyq477 cq445_0 = 114 := gSg.typ xq477 sS475.1 t467 rfl
          have hl485 : hq477.2.2.2.1 cq445_0 = hq460.2.2.2.1 cq445_0 := gSg.len xq477 sS475.1 t467 rfl
          have t486 : tyq477 cq460_0 = 114 := gSg.typ xq477 sS475.1 tcq460_0 rfl
          have hl487 : hq477.2.2.2.1 cq460_0 = hq460.2.2.2.1 cq460_0 := gSg.len xq477 sS475.1 tcq460_0 rfl
          have s488 := gSg.at xq477 sS475.1 t462 rfl (by decide) s469
          have s489 := gSg.at xq477 sS475.1 t463 rfl (by decide) s470
          have s490 := gSg.at xq477 sS475.1 t462 rfl (by decide) s471
          have s491 := gSg.at xq477 sS475.1 t464 rfl (by decide) s472
          have s492 := gSg.at xq477 sS475.1 t463 rfl (by decide) s473
          have uq493 := gSg.uq xq477 uq474 (by decide)
          have sS494 : gSs rT 1027 tyq477 [56000, 56001, 56002, 56003, 71006, 114999] hq477 hq477 := gSs.rf xq477.1
          refine gz_s 1 (pc' := 121) (L' := [some (.ref x), some (.ref dr), some (.int (zi i))]) (S' := [.ref x]) rfl ?_
          refine gs_gtk rfl (by decide) rfl sS494.1 t479 rfl rfl s488 ?_
          refine gz_s 1 (pc' := 125) (L' := [some (.ref x), some (.ref dr), some (.int (zi i))]) (S' := [.ref dr, .ref sk]) rfl ?_
          refine gs_get rfl (by decide) rfl sS494.1 t480 rfl rfl rfl (fun z495 ez495 az495 bz495 => ?_)
          have hl496 : hq477.2.2.2.1 cq477_0 = hq477.2.2.2.1 cq477_0 := congrFun sS494.2.2.2.2.1 cq477_0
          refine gz_call rfl (by decide) rfl (by decide) (by decide) (gcal_of rfl rfl rfl (Nat.le_of_ble_eq_true rfl) (gJ.recv (G := gGG) sS494.1 t481 rfl rfl)) (cl_Sink_putTwo _ sS494.1 sk t481 z495 ⟨by omega, by omega⟩ cq477_0 ecq477_0 tcq477_0 fq477_0 efq477_0 ⟨by omega, by omega⟩ (by omega) uq493) (fun q497 _ wq497 => ?_)
          obtain ⟨pq497, oq497, hq497⟩ := q497
          obtain ⟨tyq497, xq497, cq497_0, ttq497, fq497_0, ecq497_0, tcq497_0, gq497, efq497_0, afq497_0, bfq497_0, uq497_0, uq497_1, uq497_2, uq497_3, uq497_4⟩ := wq497
          dsimp only at uq497_1 uq497_2 uq497_3 uq497_4
          refine ⟨_, gq497, ?_⟩
          show gz gPP gGG gcn _ _ 131 [some (.ref x), some (.ref dr), some (.int (zi i))] [] hq497 _
          have G498 : gSg [114] [] [56000, 56001, 56002, 56003, 71006, 114999] ty h tyq497 hq497 := gSg.tr (gSg.ss G478 sS494 (by decide)) xq497 (by decide) (by decide) (fun x hx => by cases hx)
          have t499 : tyq497 x = 71 := gSg.typ xq497 sS494.1 t479 rfl
          have t500 : tyq497 dr = 55 := gSg.typ xq497 sS494.1 t480 rfl
          have t501 : tyq497 sk = 56 := gSg.typ xq497 sS494.1 t481 rfl
          have t502 : tyq497 bv = 114 := gSg.typ xq497 sS494.1 t482 rfl
          have hl503 : hq497.2.2.2.1 bv = hq477.2.2.2.1 bv := gSg.len xq497 sS494.1 t482 rfl
          have t504 : tyq497 cq445_0 = 114 := gSg.typ xq497 sS494.1 t484 rfl
          have hl505 : hq497.2.2.2.1 cq445_0 = hq477.2.2.2.1 cq445_0 := gSg.len xq497 sS494.1 t484 rfl
          have t506 : tyq497 cq460_0 = 114 := gSg.typ xq497 sS494.1 t486 rfl
          have hl507 : hq497.2.2.2.1 cq460_0 = hq477.2.2.2.1 cq460_0 := gSg.len xq497 sS494.1 t486 rfl
          have t508 : tyq497 cq477_0 = 114 := gSg.typ xq497 sS494.1 tcq477_0 rfl
          have hl509 : hq497.2.2.2.1 cq477_0 = hq477.2.2.2.1 cq477_0 := gSg.len xq497 sS494.1 tcq477_0 rfl
          have s510 := gSg.at xq497 sS494.1 t479 rfl (by decide) s488
          have s511 := gSg.at xq497 sS494.1 t480 rfl (by decide) s489
          have s512 := gSg.at xq497 sS494.1 t479 rfl (by decide) s490
          have s513 := gSg.at xq497 sS494.1 t481 rfl (by decide) s491
          have s514 := gSg.at xq497 sS494.1 t480 rfl (by decide) s492
          have s515 := gSg.at xq497 sS494.1 t480 rfl (by decide) ez495
          have uq516 := gSg.uq xq497 uq493 (by decide)
          have sS517 : gSs rT 1027 tyq497 [56000, 56001, 56002, 56003, 71006, 114999] hq497 hq497 := gSs.rf xq497.1
          refine gz_s 1 (pc' := 132) (L' := [some (.ref x), some (.ref dr), some (.int (zi i))]) (S' := [.ref x]) rfl ?_
          refine gs_gtk rfl (by decide) rfl sS517.1 t499 rfl rfl s510 ?_
          refine gz_s 1 (pc' := 136) (L' := [some (.ref x), some (.ref dr), some (.int (zi i))]) (S' := [.ref dr, .ref sk]) rfl ?_
          refine gs_get rfl (by decide) rfl sS517.1 t500 rfl rfl rfl (fun z518 ez518 az518 bz518 => ?_)
          have hl519 : hq497.2.2.2.1 cq497_0 = hq497.2.2.2.1 cq497_0 := congrFun sS517.2.2.2.2.1 cq497_0
          refine gz_call rfl (by decide) rfl (by decide) (by decide) (gcal_of rfl rfl rfl (Nat.le_of_ble_eq_true rfl) (gJ.recv (G := gGG) sS517.1 t501 rfl rfl)) (cl_Sink_putTwo _ sS517.1 sk t501 z518 ⟨by omega, by omega⟩ cq497_0 ecq497_0 tcq497_0 fq497_0 efq497_0 ⟨by omega, by omega⟩ (by omega) uq516) (fun q520 _ wq520 => ?_)
          obtain ⟨pq520, oq520, hq520⟩ := q520
          obtain ⟨tyq520, xq520, cq520_0, ttq520, fq520_0, ecq520_0, tcq520_0, gq520, efq520_0, afq520_0, bfq520_0, uq520_0, uq520_1, uq520_2, uq520_3, uq520_4⟩ := wq520
          dsimp only at uq520_1 uq520_2 uq520_3 uq520_4
          refine ⟨_, gq520, ?_⟩
          show gz gPP gGG gcn _ _ 142 [some (.ref x), some (.ref dr), some (.int (zi i))] [] hq520 _
          have G521 : gSg [114] [] [56000, 56001, 56002, 56003, 71006, 114999] ty h tyq520 hq520 := gSg.tr (gSg.ss G498 sS517 (by decide)) xq520 (by decide) (by decide) (fun x hx => by cases hx)
          have t522 : tyq520 x = 71 := gSg.typ xq520 sS517.1 t499 rfl
          have t523 : tyq520 dr = 55 := gSg.typ xq520 sS517.1 t500 rfl
          have t524 : tyq520 sk = 56 := gSg.typ xq520 sS517.1 t501 rfl
          have t525 : tyq520 bv = 114 := gSg.typ xq520 sS517.1 t502 rfl
          have hl526 : hq520.2.2.2.1 bv = hq497.2.2.2.1 bv := gSg.len xq520 sS517.1 t502 rfl
          have t527 : tyq520 cq445_0 = 114 := gSg.typ xq520 sS517.1 t504 rfl
          have hl528 : hq520.2.2.2.1 cq445_0 = hq497.2.2.2.1 cq445_0 := gSg.len xq520 sS517.1 t504 rfl
          have t529 : tyq520 cq460_0 = 114 := gSg.typ xq520 sS517.1 t506 rfl
          have hl530 : hq520.2.2.2.1 cq460_0 = hq497.2.2.2.1 cq460_0 := gSg.len xq520 sS517.1 t506 rfl
          have t531 : tyq520 cq477_0 = 114 := gSg.typ xq520 sS517.1 t508 rfl
          have hl532 : hq520.2.2.2.1 cq477_0 = hq497.2.2.2.1 cq477_0 := gSg.len xq520 sS517.1 t508 rfl
          have t533 : tyq520 cq497_0 = 114 := gSg.typ xq520 sS517.1 tcq497_0 rfl
          have hl534 : hq520.2.2.2.1 cq497_0 = hq497.2.2.2.1 cq497_0 := gSg.len xq520 sS517.1 tcq497_0 rfl
          have s535 := gSg.at xq520 sS517.1 t499 rfl (by decide) s510
          have s536 := gSg.at xq520 sS517.1 t500 rfl (by decide) s511
          have s537 := gSg.at xq520 sS517.1 t499 rfl (by decide) s512
          have s538 := gSg.at xq520 sS517.1 t501 rfl (by decide) s513
          have s539 := gSg.at xq520 sS517.1 t500 rfl (by decide) s514
          have s540 := gSg.at xq520 sS517.1 t500 rfl (by decide) s515
          have s541 := gSg.at xq520 sS517.1 t500 rfl (by decide) ez518
          have uq542 := gSg.uq xq520 uq516 (by decide)
          have sS543 : gSs rT 1027 tyq520 [56000, 56001, 56002, 56003, 71006, 114999] hq520 hq520 := gSs.rf xq520.1
          refine gz_s 1 (pc' := 143) (L' := [some (.ref x), some (.ref dr), some (.int (zi i))]) (S' := [.ref x]) rfl ?_
          refine gs_gtk rfl (by decide) rfl sS543.1 t522 rfl rfl s535 ?_
          refine gz_s 1 (pc' := 147) (L' := [some (.ref x), some (.ref dr), some (.int (zi i))]) (S' := [.int (zi 1), .ref sk]) rfl ?_
          have hl544 : hq520.2.2.2.1 cq520_0 = hq520.2.2.2.1 cq520_0 := congrFun sS543.2.2.2.2.1 cq520_0
          refine gz_call rfl (by decide) rfl (by decide) (by decide) (gcal_of rfl rfl rfl (Nat.le_of_ble_eq_true rfl) (gJ.recv (G := gGG) sS543.1 t524 rfl rfl)) (cl_Sink_putByte _ sS543.1 sk t524 1 ⟨by omega, by omega⟩ cq520_0 ecq520_0 tcq520_0 fq520_0 efq520_0 ⟨by omega, by omega⟩ (by omega) uq542) (fun q545 _ wq545 => ?_)
          obtain ⟨pq545, oq545, hq545⟩ := q545
          obtain ⟨tyq545, xq545, cq545_0, ttq545, fq545_0, ecq545_0, tcq545_0, gq545, efq545_0, afq545_0, bfq545_0, uq545_0, uq545_1, uq545_2, uq545_3, uq545_4⟩ := wq545
          dsimp only at uq545_1 uq545_2 uq545_3 uq545_4
          refine ⟨_, gq545, ?_⟩
          show gz gPP gGG gcn _ _ 150 [some (.ref x), some (.ref dr), some (.int (zi i))] [] hq545 _
          have G546 : gSg [114] [] [56000, 56001, 56002, 56003, 71006, 114999] ty h tyq545 hq545 := gSg.tr (gSg.ss G521 sS543 (by decide)) xq545 (by decide) (by decide) (fun x hx => by cases hx)
          have t547 : tyq545 x = 71 := gSg.typ xq545 sS543.1 t522 rfl
          have t548 : tyq545 dr = 55 := gSg.typ xq545 sS543.1 t523 rfl
          have t549 : tyq545 sk = 56 := gSg.typ xq545 sS543.1 t524 rfl
          have t550 : tyq545 bv = 114 := gSg.typ xq545 sS543.1 t525 rfl
          have hl551 : hq545.2.2.2.1 bv = hq520.2.2.2.1 bv := gSg.len xq545 sS543.1 t525 rfl
          have t552 : tyq545 cq445_0 = 114 := gSg.typ xq545 sS543.1 t527 rfl
          have hl553 : hq545.2.2.2.1 cq445_0 = hq520.2.2.2.1 cq445_0 := gSg.len xq545 sS543.1 t527 rfl
          have t554 : tyq545 cq460_0 = 114 := gSg.typ xq545 sS543.1 t529 rfl
          have hl555 : hq545.2.2.2.1 cq460_0 = hq520.2.2.2.1 cq460_0 := gSg.len xq545 sS543.1 t529 rfl
          have t556 : tyq545 cq477_0 = 114 := gSg.typ xq545 sS543.1 t531 rfl
          have hl557 : hq545.2.2.2.1 cq477_0 = hq520.2.2.2.1 cq477_0 := gSg.len xq545 sS543.1 t531 rfl
          have t558 : tyq545 cq497_0 = 114 := gSg.typ xq545 sS543.1 t533 rfl
          have hl559 : hq545.2.2.2.1 cq497_0 = hq520.2.2.2.1 cq497_0 := gSg.len xq545 sS543.1 t533 rfl
          have t560 : tyq545 cq520_0 = 114 := gSg.typ xq545 sS543.1 tcq520_0 rfl
          have hl561 : hq545.2.2.2.1 cq520_0 = hq520.2.2.2.1 cq520_0 := gSg.len xq545 sS543.1 tcq520_0 rfl
          have s562 := gSg.at xq545 sS543.1 t522 rfl (by decide) s535
          have s563 := gSg.at xq545 sS543.1 t523 rfl (by decide) s536
          have s564 := gSg.at xq545 sS543.1 t522 rfl (by decide) s537
          have s565 := gSg.at xq545 sS543.1 t524 rfl (by decide) s538
          have s566 := gSg.at xq545 sS543.1 t523 rfl (by decide) s539
          have s567 := gSg.at xq545 sS543.1 t523 rfl (by decide) s540
          have s568 := gSg.at xq545 sS543.1 t523 rfl (by decide) s541
          have uq569 := gSg.uq xq545 uq542 (by decide)
          have sS570 : gSs rT 1027 tyq545 [56000, 56001, 56002, 56003, 71006, 114999] hq545 hq545 := gSs.rf xq545.1
          refine gz_s 1 (pc' := 151) (L' := [some (.ref x), some (.ref dr), some (.int (zi i))]) (S' := [.ref x]) rfl ?_
          refine gs_gtk rfl (by decide) rfl sS570.1 t547 rfl rfl s562 ?_
          refine gz_s 1 (pc' := 155) (L' := [some (.ref x), some (.ref dr), some (.int (zi i))]) (S' := [.int (zi 1), .ref sk]) rfl ?_
          have hl571 : hq545.2.2.2.1 cq545_0 = hq545.2.2.2.1 cq545_0 := congrFun sS570.2.2.2.2.1 cq545_0
          refine gz_call rfl (by decide) rfl (by decide) (by decide) (gcal_of rfl rfl rfl (Nat.le_of_ble_eq_true rfl) (gJ.recv (G := gGG) sS570.1 t549 rfl rfl)) (cl_Sink_putByte _ sS570.1 sk t549 1 ⟨by omega, by omega⟩ cq545_0 ecq545_0 tcq545_0 fq545_0 efq545_0 ⟨by omega, by omega⟩ (by omega) uq569) (fun q572 _ wq572 => ?_)
          obtain ⟨pq572, oq572, hq572⟩ := q572
          obtain ⟨tyq572, xq572, cq572_0, ttq572, fq572_0, ecq572_0, tcq572_0, gq572, efq572_0, afq572_0, bfq572_0, uq572_0, uq572_1, uq572_2, uq572_3, uq572_4⟩ := wq572
          dsimp only at uq572_1 uq572_2 uq572_3 uq572_4
          refine ⟨_, gq572, ?_⟩
          show gz gPP gGG gcn _ _ 158 [some (.ref x), some (.ref dr), some (.int (zi i))] [] hq572 _
          have G573 : gSg [114] [] [56000, 56001, 56002, 56003, 71006, 114999] ty h tyq572 hq572 := gSg.tr (gSg.ss G546 sS570 (by decide)) xq572 (by decide) (by decide) (fun x hx => by cases hx)
          have t574 : tyq572 x = 71 := gSg.typ xq572 sS570.1 t547 rfl
          have t575 : tyq572 dr = 55 := gSg.typ xq572 sS570.1 t548 rfl
          have t576 : tyq572 sk = 56 := gSg.typ xq572 sS570.1 t549 rfl
          have t577 : tyq572 bv = 114 := gSg.typ xq572 sS570.1 t550 rfl
          have hl578 : hq572.2.2.2.1 bv = hq545.2.2.2.1 bv := gSg.len xq572 sS570.1 t550 rfl
          have t579 : tyq572 cq445_0 = 114 := gSg.typ xq572 sS570.1 t552 rfl
          have hl580 : hq572.2.2.2.1 cq445_0 = hq545.2.2.2.1 cq445_0 := gSg.len xq572 sS570.1 t552 rfl
          have t581 : tyq572 cq460_0 = 114 := gSg.typ xq572 sS570.1 t554 rfl
          have hl582 : hq572.2.2.2.1 cq460_0 = hq545.2.2.2.1 cq460_0 := gSg.len xq572 sS570.1 t554 rfl
          have t583 : tyq572 cq477_0 = 114 := gSg.typ xq572 sS570.1 t556 rfl
          have hl584 : hq572.2.2.2.1 cq477_0 = hq545.2.2.2.1 cq477_0 := gSg.len xq572 sS570.1 t556 rfl
          have t585 : tyq572 cq497_0 = 114 := gSg.typ xq572 sS570.1 t558 rfl
          have hl586 : hq572.2.2.2.1 cq497_0 = hq545.2.2.2.1 cq497_0 := gSg.len xq572 sS570.1 t558 rfl
          have t587 : tyq572 cq520_0 = 114 := gSg.typ xq572 sS570.1 t560 rfl
          have hl588 : hq572.2.2.2.1 cq520_0 = hq545.2.2.2.1 cq520_0 := gSg.len xq572 sS570.1 t560 rfl
          have t589 : tyq572 cq545_0 = 114 := gSg.typ xq572 sS570.1 tcq545_0 rfl
          have hl590 : hq572.2.2.2.1 cq545_0 = hq545.2.2.2.1 cq545_0 := gSg.len xq572 sS570.1 tcq545_0 rfl
          have s591 := gSg.at xq572 sS570.1 t547 rfl (by decide) s562
          have s592 := gSg.at xq572 sS570.1 t548 rfl (by decide) s563
          have s593 := gSg.at xq572 sS570.1 t547 rfl (by decide) s564
          have s594 := gSg.at xq572 sS570.1 t549 rfl (by decide) s565
          have s595 := gSg.at xq572 sS570.1 t548 rfl (by decide) s566
          have s596 := gSg.at xq572 sS570.1 t548 rfl (by decide) s567
          have s597 := gSg.at xq572 sS570.1 t548 rfl (by decide) s568
          have uq598 := gSg.uq xq572 uq569 (by decide)
          have sS599 : gSs rT 1027 tyq572 [56000, 56001, 56002, 56003, 71006, 114999] hq572 hq572 := gSs.rf xq572.1
          refine gz_s 1 (pc' := 159) (L' := [some (.ref x), some (.ref dr), some (.int (zi i))]) (S' := [.ref x]) rfl ?_
          refine gs_gtk rfl (by decide) rfl sS599.1 t574 rfl rfl s591 ?_
          refine gz_s 1 (pc' := 164) (L' := [some (.ref x), some (.ref dr), some (.int (zi i))]) (S' := [.int (zi 17), .ref sk]) rfl ?_
          have hl600 : hq572.2.2.2.1 cq572_0 = hq572.2.2.2.1 cq572_0 := congrFun sS599.2.2.2.2.1 cq572_0
          refine gz_call rfl (by decide) rfl (by decide) (by decide) (gcal_of rfl rfl rfl (Nat.le_of_ble_eq_true rfl) (gJ.recv (G := gGG) sS599.1 t576 rfl rfl)) (cl_Sink_putByte _ sS599.1 sk t576 17 ⟨by omega, by omega⟩ cq572_0 ecq572_0 tcq572_0 fq572_0 efq572_0 ⟨by omega, by omega⟩ (by omega) uq598) (fun q601 _ wq601 => ?_)
          obtain ⟨pq601, oq601, hq601⟩ := q601
          obtain ⟨tyq601, xq601, cq601_0, ttq601, fq601_0, ecq601_0, tcq601_0, gq601, efq601_0, afq601_0, bfq601_0, uq601_0, uq601_1, uq601_2, uq601_3, uq601_4⟩ := wq601
          dsimp only at uq601_1 uq601_2 uq601_3 uq601_4
          refine ⟨_, gq601, ?_⟩
          show gz gPP gGG gcn _ _ 167 [some (.ref x), some (.ref dr), some (.int (zi i))] [] hq601 _
          have G602 : gSg [114] [] [56000, 56001, 56002, 56003, 71006, 114999] ty h tyq601 hq601 := gSg.tr (gSg.ss G573 sS599 (by decide)) xq601 (by decide) (by decide) (fun x hx => by cases hx)
          have t603 : tyq601 x = 71 := gSg.typ xq601 sS599.1 t574 rfl
          have t604 : tyq601 dr = 55 := gSg.typ xq601 sS599.1 t575 rfl
          have t605 : tyq601 sk = 56 := gSg.typ xq601 sS599.1 t576 rfl
          have t606 : tyq601 bv = 114 := gSg.typ xq601 sS599.1 t577 rfl
          have hl607 : hq601.2.2.2.1 bv = hq572.2.2.2.1 bv := gSg.len xq601 sS599.1 t577 rfl
          have t608 : tyq601 cq445_0 = 114 := gSg.typ xq601 sS599.1 t579 rfl
          have hl609 : hq601.2.2.2.1 cq445_0 = hq572.2.2.2.1 cq445_0 := gSg.len xq601 sS599.1 t579 rfl
          have t610 : tyq601 cq460_0 = 114 := gSg.typ xq601 sS599.1 t581 rfl
          have hl611 : hq601.2.2.2.1 cq460_0 = hq572.2.2.2.1 cq460_0 := gSg.len xq601 sS599.1 t581 rfl
          have t612 : tyq601 cq477_0 = 114 := gSg.typ xq601 sS599.1 t583 rfl
          have hl613 : hq601.2.2.2.1 cq477_0 = hq572.2.2.2.1 cq477_0 := gSg.len xq601 sS599.1 t583 rfl
          have t614 : tyq601 cq497_0 = 114 := gSg.typ xq601 sS599.1 t585 rfl
          have hl615 : hq601.2.2.2.1 cq497_0 = hq572.2.2.2.1 cq497_0 := gSg.len xq601 sS599.1 t585 rfl
          have t616 : tyq601 cq520_0 = 114 := gSg.typ xq601 sS599.1 t587 rfl
          have hl617 : hq601.2.2.2.1 cq520_0 = hq572.2.2.2.1 cq520_0 := gSg.len xq601 sS599.1 t587 rfl
          have t618 : tyq601 cq545_0 = 114 := gSg.typ xq601 sS599.1 t589 rfl
          have hl619 : hq601.2.2.2.1 cq545_0 = hq572.2.2.2.1 cq545_0 := gSg.len xq601 sS599.1 t589 rfl
          have t620 : tyq601 cq572_0 = 114 := gSg.typ xq601 sS599.1 tcq572_0 rfl
          have hl621 : hq601.2.2.2.1 cq572_0 = hq572.2.2.2.1 cq572_0 := gSg.len xq601 sS599.1 tcq572_0 rfl
          have s622 := gSg.at xq601 sS599.1 t574 rfl (by decide) s591
          have s623 := gSg.at xq601 sS599.1 t575 rfl (by decide) s592
          have s624 := gSg.at xq601 sS599.1 t574 rfl (by decide) s593
          have s625 := gSg.at xq601 sS599.1 t576 rfl (by decide) s594
          have s626 := gSg.at xq601 sS599.1 t575 rfl (by decide) s595
          have s627 := gSg.at xq601 sS599.1 t575 rfl (by decide) s596
          have s628 := gSg.at xq601 sS599.1 t575 rfl (by decide) s597
          have uq629 := gSg.uq xq601 uq598 (by decide)
          have sS630 : gSs rT 1027 tyq601 [56000, 56001, 56002, 56003, 71006, 114999] hq601 hq601 := gSs.rf xq601.1
          refine gz_s 1 (pc' := 168) (L' := [some (.ref x), some (.ref dr), some (.int (zi i))]) (S' := [.ref x]) rfl ?_
          refine gs_gtk rfl (by decide) rfl sS630.1 t603 rfl rfl s622 ?_
          refine gz_s 1 (pc' := 172) (L' := [some (.ref x), some (.ref dr), some (.int (zi i))]) (S' := [.int (zi 0), .ref sk]) rfl ?_
          have hl631 : hq601.2.2.2.1 cq601_0 = hq601.2.2.2.1 cq601_0 := congrFun sS630.2.2.2.2.1 cq601_0
          refine gz_call rfl (by decide) rfl (by decide) (by decide) (gcal_of rfl rfl rfl (Nat.le_of_ble_eq_true rfl) (gJ.recv (G := gGG) sS630.1 t605 rfl rfl)) (cl_Sink_putByte _ sS630.1 sk t605 0 ⟨by omega, by omega⟩ cq601_0 ecq601_0 tcq601_0 fq601_0 efq601_0 ⟨by omega, by omega⟩ (by omega) uq629) (fun q632 _ wq632 => ?_)
          obtain ⟨pq632, oq632, hq632⟩ := q632
          obtain ⟨tyq632, xq632, cq632_0, ttq632, fq632_0, ecq632_0, tcq632_0, gq632, efq632_0, afq632_0, bfq632_0, uq632_0, uq632_1, uq632_2, uq632_3, uq632_4⟩ := wq632
          dsimp only at uq632_1 uq632_2 uq632_3 uq632_4
          refine ⟨_, gq632, ?_⟩
          show gz gPP gGG gcn _ _ 175 [some (.ref x), some (.ref dr), some (.int (zi i))] [] hq632 _
          have G633 : gSg [114] [] [56000, 56001, 56002, 56003, 71006, 114999] ty h tyq632 hq632 := gSg.tr (gSg.ss G602 sS630 (by decide)) xq632 (by decide) (by decide) (fun x hx => by cases hx)
          have t634 : tyq632 x = 71 := gSg.typ xq632 sS630.1 t603 rfl
          have t635 : tyq632 dr = 55 := gSg.typ xq632 sS630.1 t604 rfl
          have t636 : tyq632 sk = 56 := gSg.typ xq632 sS630.1 t605 rfl
          have t637 : tyq632 bv = 114 := gSg.typ xq632 sS630.1 t606 rfl
          have hl638 : hq632.2.2.2.1 bv = hq601.2.2.2.1 bv := gSg.len xq632 sS630.1 t606 rfl
          have t639 : tyq632 cq445_0 = 114 := gSg.typ xq632 sS630.1 t608 rfl
          have hl640 : hq632.2.2.2.1 cq445_0 = hq601.2.2.2.1 cq445_0 := gSg.len xq632 sS630.1 t608 rfl
          have t641 : tyq632 cq460_0 = 114 := gSg.typ xq632 sS630.1 t610 rfl
          have hl642 : hq632.2.2.2.1 cq460_0 = hq601.2.2.2.1 cq460_0 := gSg.len xq632 sS630.1 t610 rfl
          have t643 : tyq632 cq477_0 = 114 := gSg.typ xq632 sS630.1 t612 rfl
          have hl644 : hq632.2.2.2.1 cq477_0 = hq601.2.2.2.1 cq477_0 := gSg.len xq632 sS630.1 t612 rfl
          have t645 : tyq632 cq497_0 = 114 := gSg.typ xq632 sS630.1 t614 rfl
          have hl646 : hq632.2.2.2.1 cq497_0 = hq601.2.2.2.1 cq497_0 := gSg.len xq632 sS630.1 t614 rfl
          have t647 : tyq632 cq520_0 = 114 := gSg.typ xq632 sS630.1 t616 rfl
          have hl648 : hq632.2.2.2.1 cq520_0 = hq601.2.2.2.1 cq520_0 := gSg.len xq632 sS630.1 t616 rfl
          have t649 : tyq632 cq545_0 = 114 := gSg.typ xq632 sS630.1 t618 rfl
          have hl650 : hq632.2.2.2.1 cq545_0 = hq601.2.2.2.1 cq545_0 := gSg.len xq632 sS630.1 t618 rfl
          have t651 : tyq632 cq572_0 = 114 := gSg.typ xq632 sS630.1 t620 rfl
          have hl652 : hq632.2.2.2.1 cq572_0 = hq601.2.2.2.1 cq572_0 := gSg.len xq632 sS630.1 t620 rfl
          have t653 : tyq632 cq601_0 = 114 := gSg.typ xq632 sS630.1 tcq601_0 rfl
          have hl654 : hq632.2.2.2.1 cq601_0 = hq601.2.2.2.1 cq601_0 := gSg.len xq632 sS630.1 tcq601_0 rfl
          have s655 := gSg.at xq632 sS630.1 t603 rfl (by decide) s622
          have s656 := gSg.at xq632 sS630.1 t604 rfl (by decide) s623
          have s657 := gSg.at xq632 sS630.1 t603 rfl (by decide) s624
          have s658 := gSg.at xq632 sS630.1 t605 rfl (by decide) s625
          have s659 := gSg.at xq632 sS630.1 t604 rfl (by decide) s626
          have s660 := gSg.at xq632 sS630.1 t604 rfl (by decide) s627
          have s661 := gSg.at xq632 sS630.1 t604 rfl (by decide) s628
          have uq662 := gSg.uq xq632 uq629 (by decide)
          have sS663 : gSs rT 1027 tyq632 [56000, 56001, 56002, 56003, 71006, 114999] hq632 hq632 := gSs.rf xq632.1
          refine gz_s 1 (pc' := 176) (L' := [some (.ref x), some (.ref dr), some (.int (zi i))]) (S' := [.ref x]) rfl ?_
          refine gs_gtk rfl (by decide) rfl sS663.1 t634 rfl rfl s657 ?_
          by_cases hc664 : (z1 : Int) ≤ 0
          · refine gy_ifT (pc' := 211) rfl (by decide) (by decide) (by omega) hc664 ?_
            have hl665 : 1024 ≤ hq632.2.2.2.1 bv ∧ hq632.2.2.2.1 bv ≤ 1000000 := gJ.rowl (G := gGG) sS663.1 t637 rfl
            have hl666 : 1024 ≤ hq632.2.2.2.1 cq445_0 ∧ hq632.2.2.2.1 cq445_0 ≤ 1000000 := gJ.rowl (G := gGG) sS663.1 t639 rfl
            have hl667 : 1024 ≤ hq632.2.2.2.1 cq460_0 ∧ hq632.2.2.2.1 cq460_0 ≤ 1000000 := gJ.rowl (G := gGG) sS663.1 t641 rfl
            have hl668 : 1024 ≤ hq632.2.2.2.1 cq477_0 ∧ hq632.2.2.2.1 cq477_0 ≤ 1000000 := gJ.rowl (G := gGG) sS663.1 t643 rfl
            have hl669 : 1024 ≤ hq632.2.2.2.1 cq497_0 ∧ hq632.2.2.2.1 cq497_0 ≤ 1000000 := gJ.rowl (G := gGG) sS663.1 t645 rfl
            have hl670 : 1024 ≤ hq632.2.2.2.1 cq520_0 ∧ hq632.2.2.2.1 cq520_0 ≤ 1000000 := gJ.rowl (G := gGG) sS663.1 t647 rfl
            have hl671 : 1024 ≤ hq632.2.2.2.1 cq545_0 ∧ hq632.2.2.2.1 cq545_0 ≤ 1000000 := gJ.rowl (G := gGG) sS663.1 t649 rfl
            have hl672 : 1024 ≤ hq632.2.2.2.1 cq572_0 ∧ hq632.2.2.2.1 cq572_0 ≤ 1000000 := gJ.rowl (G := gGG) sS663.1 t651 rfl
            have hl673 : 1024 ≤ hq632.2.2.2.1 cq601_0 ∧ hq632.2.2.2.1 cq601_0 ≤ 1000000 := gJ.rowl (G := gGG) sS663.1 t653 rfl
            have hl674 : 1024 ≤ hq632.2.2.2.1 cq632_0 ∧ hq632.2.2.2.1 cq632_0 ≤ 1000000 := gJ.rowl (G := gGG) sS663.1 tcq632_0 rfl
            have G675 : gSg [114] [] [56000, 56001, 56002, 56003, 71006, 114999] ty h tyq632 hq632 := gSg.ss G633 sS663 (by decide)
            exact gz_end (I := .return_) (len := 1) rfl (Or.inl rfl) ⟨tyq632, G675, cq632_0, trivial, fq632_0, fq6_1, ecq632_0, tcq632_0, rfl, efq632_0, (by omega), (by omega), s658, (by omega), (by omega), (by omega), (by omega), (by dsimp only; omega), (by dsimp only; omega), (by dsimp only; omega), (by dsimp only; omega)⟩
          · refine gy_ifF rfl (by decide) (by decide) (by omega) hc664 ?_
            refine gz_s 1 (pc' := 183) (L' := [some (.ref x), some (.ref dr), some (.int (zi i))]) (S' := [.ref x]) rfl ?_
            refine gs_gtk rfl (by decide) rfl sS663.1 t634 rfl rfl s655 ?_
            refine gz_s 1 (pc' := 189) (L' := [some (.ref x), some (.ref dr), some (.int (zi i))]) (S' := [.int (zi 221), .ref sk]) rfl ?_
            have hl676 : hq632.2.2.2.1 cq632_0 = hq632.2.2.2.1 cq632_0 := congrFun sS663.2.2.2.2.1 cq632_0
            refine gz_call rfl (by decide) rfl (by decide) (by decide) (gcal_of rfl rfl rfl (Nat.le_of_ble_eq_true rfl) (gJ.recv (G := gGG) sS663.1 t636 rfl rfl)) (cl_Sink_putMarker _ sS663.1 sk t636 221 ⟨by omega, by omega⟩ cq632_0 ecq632_0 tcq632_0 fq632_0 efq632_0 ⟨by omega, by omega⟩ (by omega) uq662) (fun q677 _ wq677 => ?_)
            obtain ⟨pq677, oq677, hq677⟩ := q677
            obtain ⟨tyq677, xq677, cq677_0, ttq677, fq677_0, ecq677_0, tcq677_0, gq677, efq677_0, afq677_0, bfq677_0, uq677_0, uq677_1, uq677_2, uq677_3, uq677_4⟩ := wq677
            dsimp only at uq677_1 uq677_2 uq677_3 uq677_4
            refine ⟨_, gq677, ?_⟩
            show gz gPP gGG gcn _ _ 192 [some (.ref x), some (.ref dr), some (.int (zi i))] [] hq677 _
            have G678 : gSg [114] [] [56000, 56001, 56002, 56003, 71006, 114999] ty h tyq677 hq677 := gSg.tr (gSg.ss G633 sS663 (by decide)) xq677 (by decide) (by decide) (fun x hx => by cases hx)
            have t679 : tyq677 x = 71 := gSg.typ xq677 sS663.1 t634 rfl
            have t680 : tyq677 dr = 55 := gSg.typ xq677 sS663.1 t635 rfl
            have t681 : tyq677 sk = 56 := gSg.typ xq677 sS663.1 t636 rfl
            have t682 : tyq677 bv = 114 := gSg.typ xq677 sS663.1 t637 rfl
            have hl683 : hq677.2.2.2.1 bv = hq632.2.2.2.1 bv := gSg.len xq677 sS663.1 t637 rfl
            have t684 : tyq677 cq445_0 = 114 := gSg.typ xq677 sS663.1 t639 rfl
            have hl685 : hq677.2.2.2.1 cq445_0 = hq632.2.2.2.1 cq445_0 := gSg.len xq677 sS663.1 t639 rfl
            have t686 : tyq677 cq460_0 = 114 := gSg.typ xq677 sS663.1 t641 rfl
            have hl687 : hq677.2.2.2.1 cq460_0 = hq632.2.2.2.1 cq460_0 := gSg.len xq677 sS663.1 t641 rfl
            have t688 : tyq677 cq477_0 = 114 := gSg.typ xq677 sS663.1 t643 rfl
            have hl689 : hq677.2.2.2.1 cq477_0 = hq632.2.2.2.1 cq477_0 := gSg.len xq677 sS663.1 t643 rfl
            have t690 : tyq677 cq497_0 = 114 := gSg.typ xq677 sS663.1 t645 rfl
            have hl691 : hq677.2.2.2.1 cq497_0 = hq632.2.2.2.1 cq497_0 := gSg.len xq677 sS663.1 t645 rfl
            have t692 : tyq677 cq520_0 = 114 := gSg.typ xq677 sS663.1 t647 rfl
            have hl693 : hq677.2.2.2.1 cq520_0 = hq632.2.2.2.1 cq520_0 := gSg.len xq677 sS663.1 t647 rfl
            have t694 : tyq677 cq545_0 = 114 := gSg.typ xq677 sS663.1 t649 rfl
            have hl695 : hq677.2.2.2.1 cq545_0 = hq632.2.2.2.1 cq545_0 := gSg.len xq677 sS663.1 t649 rfl
            have t696 : tyq677 cq572_0 = 114 := gSg.typ xq677 sS663.1 t651 rfl
            have hl697 : hq677.2.2.2.1 cq572_0 = hq632.2.2.2.1 cq572_0 := gSg.len xq677 sS663.1 t651 rfl
            have t698 : tyq677 cq601_0 = 114 := gSg.typ xq677 sS663.1 t653 rfl
            have hl699 : hq677.2.2.2.1 cq601_0 = hq632.2.2.2.1 cq601_0 := gSg.len xq677 sS663.1 t653 rfl
            have t700 : tyq677 cq632_0 = 114 := gSg.typ xq677 sS663.1 tcq632_0 rfl
            have hl701 : hq677.2.2.2.1 cq632_0 = hq632.2.2.2.1 cq632_0 := gSg.len xq677 sS663.1 tcq632_0 rfl
            have s702 := gSg.at xq677 sS663.1 t634 rfl (by decide) s655
            have s703 := gSg.at xq677 sS663.1 t635 rfl (by decide) s656
            have s704 := gSg.at xq677 sS663.1 t634 rfl (by decide) s657
            have s705 := gSg.at xq677 sS663.1 t636 rfl (by decide) s658
            have s706 := gSg.at xq677 sS663.1 t635 rfl (by decide) s659
            have s707 := gSg.at xq677 sS663.1 t635 rfl (by decide) s660
            have s708 := gSg.at xq677 sS663.1 t635 rfl (by decide) s661
            have uq709 := gSg.uq xq677 uq662 (by decide)
            have sS710 : gSs rT 1027 tyq677 [56000, 56001, 56002, 56003, 71006, 114999] hq677 hq677 := gSs.rf xq677.1
            refine gz_s 1 (pc' := 193) (L' := [some (.ref x), some (.ref dr), some (.int (zi i))]) (S' := [.ref x]) rfl ?_
            refine gs_gtk rfl (by decide) rfl sS710.1 t679 rfl rfl s702 ?_
            refine gz_s 1 (pc' := 197) (L' := [some (.ref x), some (.ref dr), some (.int (zi i))]) (S' := [.int (zi 4), .ref sk]) rfl ?_
            have hl711 : hq677.2.2.2.1 cq677_0 = hq677.2.2.2.1 cq677_0 := congrFun sS710.2.2.2.2.1 cq677_0
            refine gz_call rfl (by decide) rfl (by decide) (by decide) (gcal_of rfl rfl rfl (Nat.le_of_ble_eq_true rfl) (gJ.recv (G := gGG) sS710.1 t681 rfl rfl)) (cl_Sink_putTwo _ sS710.1 sk t681 4 ⟨by omega, by omega⟩ cq677_0 ecq677_0 tcq677_0 fq677_0 efq677_0 ⟨by omega, by omega⟩ (by omega) uq709) (fun q712 _ wq712 => ?_)
            obtain ⟨pq712, oq712, hq712⟩ := q712
            obtain ⟨tyq712, xq712, cq712_0, ttq712, fq712_0, ecq712_0, tcq712_0, gq712, efq712_0, afq712_0, bfq712_0, uq712_0, uq712_1, uq712_2, uq712_3, uq712_4⟩ := wq712
            dsimp only at uq712_1 uq712_2 uq712_3 uq712_4
            refine ⟨_, gq712, ?_⟩
            show gz gPP gGG gcn _ _ 200 [some (.ref x), some (.ref dr), some (.int (zi i))] [] hq712 _
            have G713 : gSg [114] [] [56000, 56001, 56002, 56003, 71006, 114999] ty h tyq712 hq712 := gSg.tr (gSg.ss G678 sS710 (by decide)) xq712 (by decide) (by decide) (fun x hx => by cases hx)
            have t714 : tyq712 x = 71 := gSg.typ xq712 sS710.1 t679 rfl
            have t715 : tyq712 dr = 55 := gSg.typ xq712 sS710.1 t680 rfl
            have t716 : tyq712 sk = 56 := gSg.typ xq712 sS710.1 t681 rfl
            have t717 : tyq712 bv = 114 := gSg.typ xq712 sS710.1 t682 rfl
            have hl718 : hq712.2.2.2.1 bv = hq677.2.2.2.1 bv := gSg.len xq712 sS710.1 t682 rfl
            have t719 : tyq712 cq445_0 = 114 := gSg.typ xq712 sS710.1 t684 rfl
            have hl720 : hq712.2.2.2.1 cq445_0 = hq677.2.2.2.1 cq445_0 := gSg.len xq712 sS710.1 t684 rfl
            have t721 : tyq712 cq460_0 = 114 := gSg.typ xq712 sS710.1 t686 rfl
            have hl722 : hq712.2.2.2.1 cq460_0 = hq677.2.2.2.1 cq460_0 := gSg.len xq712 sS710.1 t686 rfl
            have t723 : tyq712 cq477_0 = 114 := gSg.typ xq712 sS710.1 t688 rfl
            have hl724 : hq712.2.2.2.1 cq477_0 = hq677.2.2.2.1 cq477_0 := gSg.len xq712 sS710.1 t688 rfl
            have t725 : tyq712 cq497_0 = 114 := gSg.typ xq712 sS710.1 t690 rfl
            have hl726 : hq712.2.2.2.1 cq497_0 = hq677.2.2.2.1 cq497_0 := gSg.len xq712 sS710.1 t690 rfl
            have t727 : tyq712 cq520_0 = 114 := gSg.typ xq712 sS710.1 t692 rfl
            have hl728 : hq712.2.2.2.1 cq520_0 = hq677.2.2.2.1 cq520_0 := gSg.len xq712 sS710.1 t692 rfl
            have t729 : tyq712 cq545_0 = 114 := gSg.typ xq712 sS710.1 t694 rfl
            have hl730 : hq712.2.2.2.1 cq545_0 = hq677.2.2.2.1 cq545_0 := gSg.len xq712 sS710.1 t694 rfl
            have t731 : tyq712 cq572_0 = 114 := gSg.typ xq712 sS710.1 t696 rfl
            have hl732 : hq712.2.2.2.1 cq572_0 = hq677.2.2.2.1 cq572_0 := gSg.len xq712 sS710.1 t696 rfl
            have t733 : tyq712 cq601_0 = 114 := gSg.typ xq712 sS710.1 t698 rfl
            have hl734 : hq712.2.2.2.1 cq601_0 = hq677.2.2.2.1 cq601_0 := gSg.len xq712 sS710.1 t698 rfl
            have t735 : tyq712 cq632_0 = 114 := gSg.typ xq712 sS710.1 t700 rfl
            have hl736 : hq712.2.2.2.1 cq632_0 = hq677.2.2.2.1 cq632_0 := gSg.len xq712 sS710.1 t700 rfl
            have t737 : tyq712 cq677_0 = 114 := gSg.typ xq712 sS710.1 tcq677_0 rfl
            have hl738 : hq712.2.2.2.1 cq677_0 = hq677.2.2.2.1 cq677_0 := gSg.len xq712 sS710.1 tcq677_0 rfl
            have s739 := gSg.at xq712 sS710.1 t679 rfl (by decide) s702
            have s740 := gSg.at xq712 sS710.1 t680 rfl (by decide) s703
            have s741 := gSg.at xq712 sS710.1 t679 rfl (by decide) s704
            have s742 := gSg.at xq712 sS710.1 t681 rfl (by decide) s705
            have s743 := gSg.at xq712 sS710.1 t680 rfl (by decide) s706
            have s744 := gSg.at xq712 sS710.1 t680 rfl (by decide) s707
            have s745 := gSg.at xq712 sS710.1 t680 rfl (by decide) s708
            have uq746 := gSg.uq xq712 uq709 (by decide)
            have sS747 : gSs rT 1027 tyq712 [56000, 56001, 56002, 56003, 71006, 114999] hq712 hq712 := gSs.rf xq712.1
            refine gz_s 1 (pc' := 201) (L' := [some (.ref x), some (.ref dr), some (.int (zi i))]) (S' := [.ref x]) rfl ?_
            refine gs_gtk rfl (by decide) rfl sS747.1 t714 rfl rfl s739 ?_
            refine gz_s 1 (pc' := 205) (L' := [some (.ref x), some (.ref dr), some (.int (zi i))]) (S' := [.ref x, .ref sk]) rfl ?_
            refine gs_gtk rfl (by decide) rfl sS747.1 t714 rfl rfl s741 ?_
            have hl748 : hq712.2.2.2.1 cq712_0 = hq712.2.2.2.1 cq712_0 := congrFun sS747.2.2.2.2.1 cq712_0
            refine gz_call rfl (by decide) rfl (by decide) (by decide) (gcal_of rfl rfl rfl (Nat.le_of_ble_eq_true rfl) (gJ.recv (G := gGG) sS747.1 t716 rfl rfl)) (cl_Sink_putTwo _ sS747.1 sk t716 z1 ⟨by omega, by omega⟩ cq712_0 ecq712_0 tcq712_0 fq712_0 efq712_0 ⟨by omega, by omega⟩ (by omega) uq746) (fun q749 _ wq749 => ?_)
            obtain ⟨pq749, oq749, hq749⟩ := q749
            obtain ⟨tyq749, xq749, cq749_0, ttq749, fq749_0, ecq749_0, tcq749_0, gq749, efq749_0, afq749_0, bfq749_0, uq749_0, uq749_1, uq749_2, uq749_3, uq749_4⟩ := wq749
            dsimp only at uq749_1 uq749_2 uq749_3 uq749_4
            refine ⟨_, gq749, ?_⟩
            show gz gPP gGG gcn _ _ 211 [some (.ref x), some (.ref dr), some (.int (zi i))] [] hq749 _
            have G750 : gSg [114] [] [56000, 56001, 56002, 56003, 71006, 114999] ty h tyq749 hq749 := gSg.tr (gSg.ss G713 sS747 (by decide)) xq749 (by decide) (by decide) (fun x hx => by cases hx)
            have t751 : tyq749 x = 71 := gSg.typ xq749 sS747.1 t714 rfl
            have t752 : tyq749 dr = 55 := gSg.typ xq749 sS747.1 t715 rfl
            have t753 : tyq749 sk = 56 := gSg.typ xq749 sS747.1 t716 rfl
            have t754 : tyq749 bv = 114 := gSg.typ xq749 sS747.1 t717 rfl
            have hl755 : hq749.2.2.2.1 bv = hq712.2.2.2.1 bv := gSg.len xq749 sS747.1 t717 rfl
            have t756 : tyq749 cq445_0 = 114 := gSg.typ xq749 sS747.1 t719 rfl
            have hl757 : hq749.2.2.2.1 cq445_0 = hq712.2.2.2.1 cq445_0 := gSg.len xq749 sS747.1 t719 rfl
            have t758 : tyq749 cq460_0 = 114 := gSg.typ xq749 sS747.1 t721 rfl
            have hl759 : hq749.2.2.2.1 cq460_0 = hq712.2.2.2.1 cq460_0 := gSg.len xq749 sS747.1 t721 rfl
            have t760 : tyq749 cq477_0 = 114 := gSg.typ xq749 sS747.1 t723 rfl
            have hl761 : hq749.2.2.2.1 cq477_0 = hq712.2.2.2.1 cq477_0 := gSg.len xq749 sS747.1 t723 rfl
            have t762 : tyq749 cq497_0 = 114 := gSg.typ xq749 sS747.1 t725 rfl
            have hl763 : hq749.2.2.2.1 cq497_0 = hq712.2.2.2.1 cq497_0 := gSg.len xq749 sS747.1 t725 rfl
            have t764 : tyq749 cq520_0 = 114 := gSg.typ xq749 sS747.1 t727 rfl
            have hl765 : hq749.2.2.2.1 cq520_0 = hq712.2.2.2.1 cq520_0 := gSg.len xq749 sS747.1 t727 rfl
            have t766 : tyq749 cq545_0 = 114 := gSg.typ xq749 sS747.1 t729 rfl
            have hl767 : hq749.2.2.2.1 cq545_0 = hq712.2.2.2.1 cq545_0 := gSg.len xq749 sS747.1 t729 rfl
            have t768 : tyq749 cq572_0 = 114 := gSg.typ xq749 sS747.1 t731 rfl
            have hl769 : hq749.2.2.2.1 cq572_0 = hq712.2.2.2.1 cq572_0 := gSg.len xq749 sS747.1 t731 rfl
            have t770 : tyq749 cq601_0 = 114 := gSg.typ xq749 sS747.1 t733 rfl
            have hl771 : hq749.2.2.2.1 cq601_0 = hq712.2.2.2.1 cq601_0 := gSg.len xq749 sS747.1 t733 rfl
            have t772 : tyq749 cq632_0 = 114 := gSg.typ xq749 sS747.1 t735 rfl
            have hl773 : hq749.2.2.2.1 cq632_0 = hq712.2.2.2.1 cq632_0 := gSg.len xq749 sS747.1 t735 rfl
            have t774 : tyq749 cq677_0 = 114 := gSg.typ xq749 sS747.1 t737 rfl
            have hl775 : hq749.2.2.2.1 cq677_0 = hq712.2.2.2.1 cq677_0 := gSg.len xq749 sS747.1 t737 rfl
            have t776 : tyq749 cq712_0 = 114 := gSg.typ xq749 sS747.1 tcq712_0 rfl
            have hl777 : hq749.2.2.2.1 cq712_0 = hq712.2.2.2.1 cq712_0 := gSg.len xq749 sS747.1 tcq712_0 rfl
            have s778 := gSg.at xq749 sS747.1 t714 rfl (by decide) s739
            have s779 := gSg.at xq749 sS747.1 t715 rfl (by decide) s740
            have s780 := gSg.at xq749 sS747.1 t714 rfl (by decide) s741
            have s781 := gSg.at xq749 sS747.1 t716 rfl (by decide) s742
            have s782 := gSg.at xq749 sS747.1 t715 rfl (by decide) s743
            have s783 := gSg.at xq749 sS747.1 t715 rfl (by decide) s744
            have s784 := gSg.at xq749 sS747.1 t715 rfl (by decide) s745
            have uq785 := gSg.uq xq749 uq746 (by decide)
            have sS786 : gSs rT 1027 tyq749 [56000, 56001, 56002, 56003, 71006, 114999] hq749 hq749 := gSs.rf xq749.1
            have hl787 : 1024 ≤ hq749.2.2.2.1 bv ∧ hq749.2.2.2.1 bv ≤ 1000000 := gJ.rowl (G := gGG) sS786.1 t754 rfl
            have hl788 : 1024 ≤ hq749.2.2.2.1 cq445_0 ∧ hq749.2.2.2.1 cq445_0 ≤ 1000000 := gJ.rowl (G := gGG) sS786.1 t756 rfl
            have hl789 : 1024 ≤ hq749.2.2.2.1 cq460_0 ∧ hq749.2.2.2.1 cq460_0 ≤ 1000000 := gJ.rowl (G := gGG) sS786.1 t758 rfl
            have hl790 : 1024 ≤ hq749.2.2.2.1 cq477_0 ∧ hq749.2.2.2.1 cq477_0 ≤ 1000000 := gJ.rowl (G := gGG) sS786.1 t760 rfl
            have hl791 : 1024 ≤ hq749.2.2.2.1 cq497_0 ∧ hq749.2.2.2.1 cq497_0 ≤ 1000000 := gJ.rowl (G := gGG) sS786.1 t762 rfl
            have hl792 : 1024 ≤ hq749.2.2.2.1 cq520_0 ∧ hq749.2.2.2.1 cq520_0 ≤ 1000000 := gJ.rowl (G := gGG) sS786.1 t764 rfl
            have hl793 : 1024 ≤ hq749.2.2.2.1 cq545_0 ∧ hq749.2.2.2.1 cq545_0 ≤ 1000000 := gJ.rowl (G := gGG) sS786.1 t766 rfl
            have hl794 : 1024 ≤ hq749.2.2.2.1 cq572_0 ∧ hq749.2.2.2.1 cq572_0 ≤ 1000000 := gJ.rowl (G := gGG) sS786.1 t768 rfl
            have hl795 : 1024 ≤ hq749.2.2.2.1 cq601_0 ∧ hq749.2.2.2.1 cq601_0 ≤ 1000000 := gJ.rowl (G := gGG) sS786.1 t770 rfl
            have hl796 : 1024 ≤ hq749.2.2.2.1 cq632_0 ∧ hq749.2.2.2.1 cq632_0 ≤ 1000000 := gJ.rowl (G := gGG) sS786.1 t772 rfl
            have hl797 : 1024 ≤ hq749.2.2.2.1 cq677_0 ∧ hq749.2.2.2.1 cq677_0 ≤ 1000000 := gJ.rowl (G := gGG) sS786.1 t774 rfl
            have hl798 : 1024 ≤ hq749.2.2.2.1 cq712_0 ∧ hq749.2.2.2.1 cq712_0 ≤ 1000000 := gJ.rowl (G := gGG) sS786.1 t776 rfl
            have hl799 : 1024 ≤ hq749.2.2.2.1 cq749_0 ∧ hq749.2.2.2.1 cq749_0 ≤ 1000000 := gJ.rowl (G := gGG) sS786.1 tcq749_0 rfl
            have G800 : gSg [114] [] [56000, 56001, 56002, 56003, 71006, 114999] ty h tyq749 hq749 := gSg.ss G750 sS786 (by decide)
            exact gz_end (I := .return_) (len := 1) rfl (Or.inl rfl) ⟨tyq749, G800, cq749_0, trivial, fq749_0, fq6_1, ecq749_0, tcq749_0, rfl, efq749_0, (by omega), (by omega), s781, (by omega), (by omega), (by omega), (by omega), (by dsimp only; omega), (by dsimp only; omega), (by dsimp only; omega), (by dsimp only; omega)⟩
      · refine gy_icF rfl (by decide) (by decide) (by omega) (by omega) hc84 ?_
        refine gz_s 1 (pc' := 61) (L' := [some (.ref x), some (.ref dr), some (.int (zi i))]) (S' := [.ref x]) rfl ?_
        refine gs_gtk rfl (by decide) rfl sh82.1 lp81c0 rfl rfl lp81k0 ?_
        refine gz_s 1 (pc' := 65) (L' := [some (.ref x), some (.ref dr), some (.int (zi i))]) (S' := [.ref x, .ref sk]) rfl ?_
        refine gs_gtr rfl (by decide) rfl sh82.1 lp81c0 rfl rfl rfl (fun c801 ec801 tc801 => ?_)
        refine gz_s 1 (pc' := 69) (L' := [some (.ref x), some (.ref dr), some (.int (zi i))]) (S' := [.int (zi i), .ref c801, .ref sk]) rfl ?_
        have hl802 : 64 ≤ h82.2.2.2.1 c801 ∧ h82.2.2.2.1 c801 ≤ 64 := gJ.rowl (G := gGG) sh82.1 tc801 rfl
        refine gs_ald rfl (by decide) sh82.1 tc801 rfl rfl rfl (by decide) (fun _ => rfl) (by omega) (by omega) (fun z803 ez803 az803 bz803 => ?_)
        have hl804 : h82.2.2.2.1 bv = h82.2.2.2.1 bv := congrFun sh82.2.2.2.2.1 bv
        refine gz_call rfl (by decide) rfl (by decide) (by decide) (gcal_of rfl rfl rfl (Nat.le_of_ble_eq_true rfl) (gJ.recv (G := gGG) sh82.1 lp81c2 rfl rfl)) (cl_Sink_putByte _ sh82.1 sk lp81c2 z803 ⟨by omega, by omega⟩ bv lp81r0 lp81r1 cv lp81k4 ⟨by omega, by omega⟩ (by omega) lp81u) (fun q805 _ wq805 => ?_)
        obtain ⟨pq805, oq805, hq805⟩ := q805
        obtain ⟨tyq805, xq805, cq805_0, ttq805, fq805_0, ecq805_0, tcq805_0, gq805, efq805_0, afq805_0, bfq805_0, uq805_0, uq805_1, uq805_2, uq805_3, uq805_4⟩ := wq805
        dsimp only at uq805_1 uq805_2 uq805_3 uq805_4
        refine ⟨_, gq805, ?_⟩
        show gz gPP gGG gcn _ _ 73 [some (.ref x), some (.ref dr), some (.int (zi i))] [] hq805 _
        have G806 : gSg [114] [] [56000, 56001, 56002, 56003, 71006, 114999] ty h tyq805 hq805 := gSg.tr (gSg.ss lp81G sh82 (by decide)) xq805 (by decide) (by decide) (fun x hx => by cases hx)
        have t807 : tyq805 x = 71 := gSg.typ xq805 sh82.1 lp81c0 rfl
        have t808 : tyq805 dr = 55 := gSg.typ xq805 sh82.1 lp81c1 rfl
        have t809 : tyq805 sk = 56 := gSg.typ xq805 sh82.1 lp81c2 rfl
        have t810 : tyq805 bv = 114 := gSg.typ xq805 sh82.1 lp81r1 rfl
        have hl811 : hq805.2.2.2.1 bv = h82.2.2.2.1 bv := gSg.len xq805 sh82.1 lp81r1 rfl
        have t812 : tyq805 c801 = 72 := gSg.typ xq805 sh82.1 tc801 rfl
        have s813 := gSg.at xq805 sh82.1 lp81c0 rfl (by decide) lp81k0
        have s814 := gSg.at xq805 sh82.1 lp81c1 rfl (by decide) lp81k1
        have s815 := gSg.at xq805 sh82.1 lp81c0 rfl (by decide) lp81k2
        have s816 := gSg.at xq805 sh82.1 lp81c2 rfl (by decide) lp81k3
        have s817 := gSg.at xq805 sh82.1 lp81c0 rfl (by decide) ec801
        have uq818 := gSg.uq xq805 lp81u (by decide)
        have sS819 : gSs rT 1027 tyq805 [56000, 56001, 56002, 56003, 71006, 114999] hq805 hq805 := gSs.rf xq805.1
        refine gy_s 2 (pc' := 54) (L' := [some (.ref x), some (.ref dr), some (.int ((zi i) + zi 1))]) (S' := []) (L2 := [some (.ref x), some (.ref dr), some (.int (zi (i + 1)))]) (S2 := []) rfl (by simp only [zi_add, zi_sub, zi_mul, zi_neg, zi_and1, zi_and7, zi_and15, zi_and31, zi_and255]) (by simp only [zi_add, zi_sub, zi_mul, zi_neg, zi_and1, zi_and7, zi_and15, zi_and31, zi_and255]) ?_
        have hl820 : 1024 ≤ hq805.2.2.2.1 bv ∧ hq805.2.2.2.1 bv ≤ 1000000 := gJ.rowl (G := gGG) sS819.1 t810 rfl
        have hl821 : 1024 ≤ hq805.2.2.2.1 cq805_0 ∧ hq805.2.2.2.1 cq805_0 ≤ 1000000 := gJ.rowl (G := gGG) sS819.1 tcq805_0 rfl
        have G822 : gSg [114] [] [56000, 56001, 56002, 56003, 71006, 114999] ty h tyq805 hq805 := gSg.ss G806 sS819 (by decide)
        exact gz_wk (ihlp81 tyq805 hq805 cq805_0 (i + 1) fq805_0 (gms lp81m (by omega) (by omega)) G822 uq818 t807 t808 t809 ecq805_0 tcq805_0 ⟨by omega, by omega⟩ ⟨by omega, by omega⟩ (by omega) (by omega) (by omega) (by omega) (by omega) s813 s814 s815 s816 efq805_0) (gLw.s (gLw.s (gLw.s gLw.z)))
  have hl823 : 1024 ≤ hq62.2.2.2.1 bt ∧ hq62.2.2.2.1 bt ≤ 1000000 := gJ.rowl (G := gGG) sS80.1 t67 rfl
  have hl824 : 1024 ≤ hq62.2.2.2.1 cq14_0 ∧ hq62.2.2.2.1 cq14_0 ≤ 1000000 := gJ.rowl (G := gGG) sS80.1 t69 rfl
  have hl825 : 1024 ≤ hq62.2.2.2.1 cq28_0 ∧ hq62.2.2.2.1 cq28_0 ≤ 1000000 := gJ.rowl (G := gGG) sS80.1 t71 rfl
  have hl826 : 1024 ≤ hq62.2.2.2.1 cq44_0 ∧ hq62.2.2.2.1 cq44_0 ≤ 1000000 := gJ.rowl (G := gGG) sS80.1 t73 rfl
  have hl827 : 1024 ≤ hq62.2.2.2.1 cq62_0 ∧ hq62.2.2.2.1 cq62_0 ≤ 1000000 := gJ.rowl (G := gGG) sS80.1 tcq62_0 rfl
  have G828 : gSg [114] [] [56000, 56001, 56002, 56003, 71006, 114999] ty h tyq62 hq62 := gSg.ss G63 sS80 (by decide)
  exact gz_wk (lp81 _ tyq62 hq62 cq62_0 0 fq62_0 (Nat.lt_succ_self _) G828 uq79 t64 t65 t66 ecq62_0 tcq62_0 ⟨by omega, by omega⟩ ⟨by omega, by omega⟩ (by omega) (by omega) (by omega) (by omega) (by omega) s75 s76 s77 s78 efq62_0) (gLw.s (gLw.s (gLw.s gLw.z)))
