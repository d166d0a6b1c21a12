/-! ===== methods of the landed text (by program) ===== -/
set_option maxRecDepth 20000 in
set_option maxHeartbeats 4000000 in
theorem cl_Picture_clearBlocks (d : Nat) {ty : Nat → Nat} {h : gH} (hJ : gJ rT 1027 ty h) (x : Nat) (tx : ty x = 54) (co : Nat) (eco : h.2.2.2.2 x 2 = .ref co) (tco : ty co = 112) (dm : Nat) (edm : h.2.2.2.2 x 3 = .ref dm) (tdm : ty dm = 113) (bl : Int) (ebl : h.2.2.2.2 x 8 = .int (zi bl)) (rbl : 1 ≤ bl ∧ bl ≤ 192) (pp0 : (h.2.2.2.1 co : Int) = 64 * (h.2.2.2.1 dm : Int)) (uq : gUq ty) : gz gPP gGG gcn (d + 1) gt35 0 (gent [.ref x] 1) [] h (fun q _ => ∃ ty9 : Nat → Nat, gSg [112, 113] [] [54002, 54003, 112999, 113999] ty h ty9 q.2.2 ∧ ∃ co2 dm2 : Nat, True ∧ q.2.2.2.2.2.2 x 2 = .ref co2 ∧ ty9 co2 = 112 ∧ q.2.2.2.2.2.2 x 3 = .ref dm2 ∧ ty9 dm2 = 113 ∧ gfin gt35 q.1 q.2.1 = some none ∧ ((q.2.2.2.2.2.1 co2 : Int) = 64 * (q.2.2.2.2.2.1 dm2 : Int)) ∧ (bl ≤ (q.2.2.2.2.2.1 dm2 : Int)) ∧ (((q.2.2.1 : Int) - h.1) ≤ 2 * ((q.2.2.2.2.2.1 dm2 : Int) - h.2.2.2.1 dm)) ∧ (((q.2.2.2.1 : Int) - h.2.1) ≤ 12480 * ((q.2.2.2.2.2.1 dm2 : Int) - h.2.2.2.1 dm)) ∧ ((h.2.2.2.1 dm : Int) ≤ (q.2.2.2.2.2.1 dm2 : Int))) := by
  have hS : gSs rT 1027 ty [54002, 54003, 112999, 113999] h h := gSs.rf hJ
  have G0 : gSg [112, 113] [] [54002, 54003, 112999, 113999] ty h ty h := gSg.rf hJ (fun x hx => by cases hx)
  refine gz_s 1 (pc' := 1) (L' := [some (.ref x)]) (S' := [.ref x]) rfl ?_
  refine gs_gtk rfl (by decide) rfl hS.1 tx rfl rfl edm ?_
  refine gs_len rfl (by decide) hS.1 tdm rfl rfl rfl (fun z1 ez1 az1 bz1 => ?_)
  have cz1 : 0 ≤ z1 ∧ z1 ≤ 192 := ⟨az1, bz1⟩
  refine gz_s 1 (pc' := 6) (L' := [some (.ref x)]) (S' := [.ref x, .int (zi z1)]) rfl ?_
  refine gs_gtk rfl (by decide) rfl hS.1 tx rfl rfl ebl ?_
  by_cases hc2 : (bl : Int) ≤ z1
  · refine gy_icT (pc' := 38) rfl (by decide) (by decide) (by omega) (by omega) hc2 ?_
    refine gz_s 1 (pc' := 39) (L' := [some (.ref x)]) (S' := [.ref x]) rfl ?_
    refine gs_gtk rfl (by decide) rfl hS.1 tx rfl rfl edm ?_
    refine gz_s 1 (pc' := 43) (L' := [some (.ref x)]) (S' := [.int (zi 0), .ref dm]) rfl ?_
    refine gz_call rfl (by decide) rfl (by decide) (by decide) (gcal_of rfl rfl rfl (Nat.le_of_ble_eq_true rfl) rfl) (cl_fill_damaged _ hS.1 dm tdm 0 (by omega) ) (fun q3 _ wq3 => ?_)
    obtain ⟨pq3, oq3, hq3⟩ := q3
    obtain ⟨xq3, gq3⟩ := wq3
    refine ⟨_, gq3, ?_⟩
    show gz gPP gGG gcn _ _ 46 [some (.ref x)] [] hq3 _
    have sq3 : gSs rT 1027 ty [54002, 54003, 112999, 113999] h hq3 := gSs.tr hS xq3 (by decide)
    have s4 := (xq3.2.2.2.2.2 x 2 (by rw [tx]; decide)).trans eco
    have s5 := (xq3.2.2.2.2.2 x 3 (by rw [tx]; decide)).trans edm
    have s6 := (xq3.2.2.2.2.2 x 8 (by rw [tx]; decide)).trans ebl
    refine gz_s 1 (pc' := 47) (L' := [some (.ref x)]) (S' := [.ref x]) rfl ?_
    refine gs_gtk rfl (by decide) rfl sq3.1 tx rfl rfl s4 ?_
    refine gz_s 1 (pc' := 51) (L' := [some (.ref x)]) (S' := [.int (zi 0), .ref co]) rfl ?_
    refine gz_call rfl (by decide) rfl (by decide) (by decide) (gcal_of rfl rfl rfl (Nat.le_of_ble_eq_true rfl) rfl) (cl_fill_coefficients _ sq3.1 co tco 0 (by omega) ) (fun q7 _ wq7 => ?_)
    obtain ⟨pq7, oq7, hq7⟩ := q7
    obtain ⟨xq7, gq7⟩ := wq7
    refine ⟨_, gq7, ?_⟩
    show gz gPP gGG gcn _ _ 54 [some (.ref x)] [] hq7 _
    have sq7 : gSs rT 1027 ty [54002, 54003, 112999, 113999] h hq7 := gSs.tr sq3 xq7 (by decide)
    have s8 := (xq7.2.2.2.2.2 x 2 (by rw [tx]; decide)).trans s4
    have s9 := (xq7.2.2.2.2.2 x 3 (by rw [tx]; decide)).trans s5
    have s10 := (xq7.2.2.2.2.2 x 8 (by rw [tx]; decide)).trans s6
    have k11 := sq7.2.1
    have k11b := sq7.2.2.1
    have hl12 : hq7.2.2.2.1 co = h.2.2.2.1 co := congrFun sq7.2.2.2.2.1 co
    have hl13 : hq7.2.2.2.1 dm = h.2.2.2.1 dm := congrFun sq7.2.2.2.2.1 dm
    have G14 : gSg [112, 113] [] [54002, 54003, 112999, 113999] ty h ty hq7 := gSg.ss G0 sq7 (by decide)
    exact gz_end (I := .return_) (len := 1) rfl (Or.inl rfl) ⟨ty, G14, co, dm, trivial, s8, tco, s9, tdm, rfl, (by dsimp only; omega), (by dsimp only; omega), (by dsimp only; omega), (by dsimp only; omega), (by dsimp only; omega)⟩
  · refine gy_icF rfl (by decide) (by decide) (by omega) (by omega) hc2 ?_
    refine gz_s 2 (pc' := 14) (L' := [some (.ref x)]) (S' := [.ref x, .ref x]) rfl ?_
    refine gs_gtk rfl (by decide) rfl hS.1 tx rfl rfl ebl ?_
    refine gs_newr 113 rfl (by decide) rfl hS.1 (Nat.le_of_lt (Nat.lt_of_le_of_lt (gJ.cell hS.1 tx rfl).1 (gJ.cell hS.1 tx rfl).2.1)) (by omega) (by omega) rfl rfl (by show (0 : Int) ≤ _; omega) (by show _ ≤ (192 : Int); omega) (fun _ _ => gos_i (by decide) (by decide)) (fun ty15 h16 c17 g18 tc17 lc17 nc17 mc17 ec17 dc17 uc17 => ?_)
    have gac17 : h.1 ≤ c17 := by have h8 := G0.2.1; have h9 := hS.2.1; omega
    have uq19 := uc17 uq (Or.inl (by decide))
    have G20 : gSg [112, 113] [] [54002, 54003, 112999, 113999] ty h ty15 h16 := gSg.tr (gSg.ss G0 hS (by decide)) g18 (by decide) (by decide) (fun x hx => by cases hx)
    have t21 : ty15 x = 54 := gSg.typ g18 hS.1 tx rfl
    have t22 : ty15 co = 112 := gSg.typ g18 hS.1 tco rfl
    have hl23 : h16.2.2.2.1 co = h.2.2.2.1 co := gSg.len g18 hS.1 tco rfl
    have t24 : ty15 dm = 113 := gSg.typ g18 hS.1 tdm rfl
    have hl25 : h16.2.2.2.1 dm = h.2.2.2.1 dm := gSg.len g18 hS.1 tdm rfl
    have s26 := gSg.at g18 hS.1 tx rfl (by decide) eco
    have s27 := gSg.at g18 hS.1 tx rfl (by decide) edm
    have s28 := gSg.at g18 hS.1 tx rfl (by decide) ebl
    have sS29 : gSs rT 1027 ty15 [54002, 54003, 112999, 113999] h16 h16 := gSs.rf g18.1
    refine gs_ptr rfl (by decide) rfl sS29 t21 rfl rfl (Or.inl rfl) rfl (Or.inl rfl) (by decide) tc17 (fun h30 sh30 eh30 fh30 => ?_)
    have s31 := (fh30 x 2 (fun q => absurd q.2 (by decide))).trans s26
    have s32 := (fh30 x 8 (fun q => absurd q.2 (by decide))).trans s28
    refine gz_s 2 (pc' := 24) (L' := [some (.ref x)]) (S' := [.ref x, .ref x]) rfl ?_
    refine gs_gtk rfl (by decide) rfl sh30.1 t21 rfl rfl s32 ?_
    refine gy_s 2 (pc' := 30) (L' := [some (.ref x)]) (S' := [.int ((zi bl) * (zi 64)), .ref x]) (L2 := [some (.ref x)]) (S2 := [.int (zi (bl * 64)), .ref x]) rfl (by simp only [zi_add, zi_sub, zi_mul, zi_neg, zi_and1, zi_and7, zi_and15, zi_and31, zi_and255]) (by simp only [zi_add, zi_sub, zi_mul, zi_neg, zi_and1, zi_and7, zi_and15, zi_and31, zi_and255]) ?_
    refine gs_newr 112 rfl (by decide) rfl sh30.1 (Nat.le_of_lt (Nat.lt_of_le_of_lt (gJ.cell sh30.1 t21 rfl).1 (gJ.cell sh30.1 t21 rfl).2.1)) (by omega) (by omega) rfl rfl (by show (0 : Int) ≤ _; omega) (by show _ ≤ (12288 : Int); omega) (fun _ _ => gos_i (by decide) (by decide)) (fun ty33 h34 c35 g36 tc35 lc35 nc35 mc35 ec35 dc35 uc35 => ?_)
    have gac35 : h.1 ≤ c35 := by have h8 := G20.2.1; have h9 := sh30.2.1; omega
    have k37 := sh30.2.1
    have k37b := sh30.2.2.1
    have hl38 : h30.2.2.2.1 co = h16.2.2.2.1 co := congrFun sh30.2.2.2.2.1 co
    have hl39 : h30.2.2.2.1 dm = h16.2.2.2.1 dm := congrFun sh30.2.2.2.2.1 dm
    have hl40 : h30.2.2.2.1 c17 = h16.2.2.2.1 c17 := congrFun sh30.2.2.2.2.1 c17
    have uq41 := uc35 uq19 (Or.inl (by decide))
    have G42 : gSg [112, 113] [] [54002, 54003, 112999, 113999] ty h ty33 h34 := gSg.tr (gSg.ss G20 sh30 (by decide)) g36 (by decide) (by decide) (fun x hx => by cases hx)
    have t43 : ty33 x = 54 := gSg.typ g36 sh30.1 t21 rfl
    have t44 : ty33 co = 112 := gSg.typ g36 sh30.1 t22 rfl
    have hl45 : h34.2.2.2.1 co = h30.2.2.2.1 co := gSg.len g36 sh30.1 t22 rfl
    have t46 : ty33 dm = 113 := gSg.typ g36 sh30.1 t24 rfl
    have hl47 : h34.2.2.2.1 dm = h30.2.2.2.1 dm := gSg.len g36 sh30.1 t24 rfl
    have t48 : ty33 c17 = 113 := gSg.typ g36 sh30.1 tc17 rfl
    have hl49 : h34.2.2.2.1 c17 = h30.2.2.2.1 c17 := gSg.len g36 sh30.1 tc17 rfl
    have s50 := gSg.at g36 sh30.1 t21 rfl (by decide) s31
    have s51 := gSg.at g36 sh30.1 t21 rfl (by decide) s32
    have s52 := gSg.at g36 sh30.1 t21 rfl (by decide) eh30
    have sS53 : gSs rT 1027 ty33 [54002, 54003, 112999, 113999] h34 h34 := gSs.rf g36.1
    refine gs_ptr rfl (by decide) rfl sS53 t43 rfl rfl (Or.inl rfl) rfl (Or.inl rfl) (by decide) tc35 (fun h54 sh54 eh54 fh54 => ?_)
    have s55 := (fh54 x 8 (fun q => absurd q.2 (by decide))).trans s51
    have s56 := (fh54 x 3 (fun q => absurd q.2 (by decide))).trans s52
    refine gz_s 1 (pc' := 54) (L' := [some (.ref x)]) (S' := []) rfl ?_
    have k57 := sh54.2.1
    have k57b := sh54.2.2.1
    have hl58 : h54.2.2.2.1 co = h34.2.2.2.1 co := congrFun sh54.2.2.2.2.1 co
    have hl59 : h54.2.2.2.1 dm = h34.2.2.2.1 dm := congrFun sh54.2.2.2.2.1 dm
    have hl60 : h54.2.2.2.1 c17 = h34.2.2.2.1 c17 := congrFun sh54.2.2.2.2.1 c17
    have hl61 : h54.2.2.2.1 c35 = h34.2.2.2.1 c35 := congrFun sh54.2.2.2.2.1 c35
    have G62 : gSg [112, 113] [] [54002, 54003, 112999, 113999] ty h ty33 h54 := gSg.ss G42 sh54 (by decide)
    exact gz_end (I := .return_) (len := 1) rfl (Or.inl rfl) ⟨ty33, G62, c35, c17, trivial, eh54, tc35, s56, t48, rfl, (by dsimp only; omega), (by dsimp only; omega), (by dsimp only; omega), (by dsimp only; omega), (by dsimp only; omega)⟩
