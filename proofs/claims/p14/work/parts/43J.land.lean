/-! ===== methods of the landed text (by program) ===== -/
set_option maxRecDepth 20000 in
set_option maxHeartbeats 4000000 in
theorem cl_Picture_clearBlocks (d : Nat) {ty : Nat → Nat} {h : gH} (hJ : gJ rT 1027 ty h) (x : Nat) (tx : ty x = 54) (co : Nat) (eco : h.2.2.2.2 x 2 = .ref co) (tco : ty co = 112) (dm : Nat) (edm : h.2.2.2.2 x 3 = .ref dm) (tdm : ty dm = 113) (bl : Int) (ebl : h.2.2.2.2 x 8 = .int (zi bl)) (rbl : 1 ≤ bl ∧ bl ≤ 192) (pp0 : (h.2.2.2.1 co : Int) = 64 * (h.2.2.2.1 dm : Int)) (uq : gUq ty) : gz gPP gGG gcn (d + 1) gt35 0 (gent [.ref x] 1) [] h (fun q _ => ∃ ty9 : Nat → Nat, gSg [112, 113] [] [54002, 54003, 112999, 113999] ty h ty9 q.2.2 ∧ ∃ co2 dm2 : Nat, True ∧ q.2.2.2.2.2.2 x 2 = .ref co2 ∧ ty9 co2 = 112 ∧ q.2.2.2.2.2.2 x 3 = .ref dm2 ∧ ty9 dm2 = 113 ∧ gfin gt35 q.1 q.2.1 = some none ∧ ((q.2.2.2.2.2.1 co2 : Int) = 64 * (q.2.2.2.2.2.1 dm2 : Int)) ∧ (bl ≤ (q.2.2.2.2.2.1 dm2 : Int)) ∧ (((q.2.2.1 : Int) - h.1) ≤ 2 * ((q.2.2.2.2.2.1 dm2 : Int) - h.2.2.2.1 dm)) ∧ (((q.2.2.2.1 : Int) - h.2.1) ≤ 12480 * ((q.2.2.2.2.2.1 dm2 : Int) - h.2.2.2.1 dm)) ∧ ((h.2.2.2.1 dm : Int) ≤ (q.2.2.2.2.2.1 dm2 : Int))) := by
  have hS : gSs rT 1027 ty [54002, 54003, 112999, 113999] h h := gSs.rf hJ
  have G0 : gSg [112, 113] [] [54002, 54003, 112999, 113999] ty h ty h := gSg.rf hJ (fun x hx => by cases hx)
  refine gz_s 1 (pc' := 1) (L' := [some (.ref x)]) (S' := [.ref x]) rfl ?_
  refine gs_gtk rfl (by decide) rfl hS.1 tx rfl rfl edm ?_
  refine gs_len rfl (by decide) hS.1 tdm rfl rfl rfl (fun z1 ez1 az1 bz1 => ?_)
  have cz1 : 0 ≤ z1 ∧ z1 ≤ 192 := ⟨az1, bz1⟩
  refine gz_s 1 (pc' := 6) (L' := [some (.ref x)]) (S' := [.ref x, .int (zi z1)]) rfl ?_
  refine gs_gtk rfl (by decide) rfl hS.1 tx rfl rfl ebl ?_
  by_cases hc2 : (bl : Int) ≤ z1
  · refine gy_icT (pc' := 38) rfl (by decide) (by decide) (by omega) (by omega) hc2 ?_
    refine gz_s 1 (pc' := 39) (L' := [some (.ref x)]) (S' := [.ref x]) rfl ?_
    refine gs_gtk rfl (by decide) rfl hS.1 tx rfl rfl edm ?_
    refine gz_s 1 (pc' := 43) (L' := [some (.ref x)]) (S' := [.int (zi 0), .ref dm]) rfl ?_
    refine gz_call rfl (by decide) rfl (by decide) (by decide) (gcal_of rfl rfl rfl (Nat.le_of_ble_eq_true rfl) rfl) (cl_fill_damaged _ hS.1 dm tdm 0 (by omega) ) (fun q3 _ wq3 => ?_)
    obtain ⟨pq3, oq3, hq3⟩ := q3
    obtain ⟨xq3, gq3⟩ := wq3
    refine ⟨_, gq3, ?_⟩
    show gz gPP gGG gcn _ _ 46 [some (.ref x)] [] hq3 _
    have sq3 : gSs rT 1027 ty [54002, 54003, 112999, 113999] h hq3 := gSs.tr hS xq3 (by decide)
    have s4 := (xq3.2.2.2.2.2 x 2 (by rw [tx]; decide)).trans eco
    have s5 := (xq3.2.2.2.2.2 x 3 (by rw [tx]; decide)).trans edm
    have s6 := (xq3.2.2.2.2.2 x 8 (by rw [tx]; decide)).trans ebl
    refine gz_s 1 (pc' := 47) (L' := [some (.ref x)]) (S' := [.ref x]) rfl ?_
    refine gs_gtk rfl (by decide) rfl sq3.1 tx rfl rfl s4 ?_
    refine gz_s 1 (pc' := 51) (L' := [some (.ref x)]) (S' := [.int (zi 0), .ref co]) rfl ?_
    refine gz_call rfl (by decide) rfl (by decide) (by decide) (gcal_of rfl rfl rfl (Nat.le_of_ble_eq_true rfl) rfl) (cl_fill_coefficients _ sq3.1 co tco 0 (by omega) ) (fun q7 _ wq7 => ?_)
    obtain ⟨pq7, oq7, hq7⟩ := q7
    obtain ⟨xq7, gq7⟩ := wq7
    refine ⟨_, gq7, ?_⟩
    show gz gPP gGG gcn _ _ 54 [some (.ref x)] [] hq7 _
    have sq7 : gSs rT 1027 ty [54002, 54003, 112999, 113999] h hq7 := gSs.tr sq3 xq7 (by decide)
    have s8 := (xq7.2.2.2.2.2 x 2 (by rw [tx]; decide)).trans s4
    have s9 := (xq7.2.2.2.2.2 x 3 (by rw [tx]; decide)).trans s5
    have s10 := (xq7.2.2.2.2.2 x 8 (by rw [tx]; decide)).trans s6
    have k11 := sq7.2.1
    have k11b := sq7.2.2.1
    have hl12 : hq7.2.2.2.1 co = h.2.2.2.1 co := congrFun sq7.2.2.2.2.1 co
    have hl13 : hq7.2.2.2.1 dm = h.2.2.2.1 dm := congrFun sq7.2.2.2.2.1 dm
    have hl14 : 0 ≤ hq7.2.2.2.1 co ∧ hq7.2.2.2.1 co ≤ 12288 := gJ.rowl (G := gGG) sq7.1 tco rfl
    have hl15 : 0 ≤ hq7.2.2.2.1 dm ∧ hq7.2.2.2.1 dm ≤ 192 := gJ.rowl (G := gGG) sq7.1 tdm rfl
    have G16 : gSg [112, 113] [] [54002, 54003, 112999, 113999] ty h ty hq7 := gSg.ss G0 sq7 (by decide)
    exact gz_end (I := .return_) (len := 1) rfl (Or.inl rfl) ⟨ty, G16, co, dm, trivial, s8, tco, s9, tdm, rfl, (by dsimp only; omega), (by dsimp only; omega), (by dsimp only; omega), (by dsimp only; omega), (by dsimp only; omega)⟩
  · refine gy_icF rfl (by decide) (by decide) (by omega) (by omega) hc2 ?_
    refine gz_s 2 (pc' := 14) (L' := [some (.ref x)]) (S' := [.ref x, .ref x]) rfl ?_
    refine gs_gtk rfl (by decide) rfl hS.1 tx rfl rfl ebl ?_
    refine gs_newr 113 rfl (by decide) rfl hS.1 (Nat.le_of_lt (Nat.lt_of_le_of_lt (gJ.cell hS.1 tx rfl).1 (gJ.cell hS.1 tx rfl).2.1)) (by omega) (by omega) rfl rfl (by show (0 : Int) ≤ _; omega) (by show _ ≤ (192 : Int); omega) (fun _ _ => gos_i (by decide) (by decide)) (fun ty17 h18 c19 g20 tc19 lc19 nc19 mc19 ec19 dc19 uc19 => ?_)
    have gac19 : h.1 ≤ c19 := by have h8 := G0.2.1; have h9 := hS.2.1; omega
    have uq21 := uc19 uq (Or.inl (by decide))
    have G22 : gSg [112, 113] [] [54002, 54003, 112999, 113999] ty h ty17 h18 := gSg.tr (gSg.ss G0 hS (by decide)) g20 (by decide) (by decide) (fun x hx => by cases hx)
    have t23 : ty17 x = 54 := gSg.typ g20 hS.1 tx rfl
    have t24 : ty17 co = 112 := gSg.typ g20 hS.1 tco rfl
    have hl25 : h18.2.2.2.1 co = h.2.2.2.1 co := gSg.len g20 hS.1 tco rfl
    have t26 : ty17 dm = 113 := gSg.typ g20 hS.1 tdm rfl
    have hl27 : h18.2.2.2.1 dm = h.2.2.2.1 dm := gSg.len g20 hS.1 tdm rfl
    have s28 := gSg.at g20 hS.1 tx rfl (by decide) eco
    have s29 := gSg.at g20 hS.1 tx rfl (by decide) edm
    have s30 := gSg.at g20 hS.1 tx rfl (by decide) ebl
    have sS31 : gSs rT 1027 ty17 [54002, 54003, 112999, 113999] h18 h18 := gSs.rf g20.1
    refine gs_ptr (s9 := 0) rfl (by decide) rfl sS31 t23 rfl rfl (Or.inl rfl) rfl (Or.inl rfl) (by decide) tc19 (fun h32 sh32 eh32 fh32 => ?_)
    have s33 := (fh32 x 2 (fun q => absurd q.2 (by decide))).trans s28
    have s34 := (fh32 x 8 (fun q => absurd q.2 (by decide))).trans s30
    refine gz_s 2 (pc' := 24) (L' := [some (.ref x)]) (S' := [.ref x, .ref x]) rfl ?_
    refine gs_gtk rfl (by decide) rfl sh32.1 t23 rfl rfl s34 ?_
    refine gy_s 2 (pc' := 30) (L' := [some (.ref x)]) (S' := [.int ((zi bl) * (zi 64)), .ref x]) (L2 := [some (.ref x)]) (S2 := [.int (zi (bl * 64)), .ref x]) rfl (by simp only [zi_add, zi_sub, zi_mul, zi_neg, zi_and1, zi_and7, zi_and15, zi_and31, zi_and255]) (by simp only [zi_add, zi_sub, zi_mul, zi_neg, zi_and1, zi_and7, zi_and15, zi_and31, zi_and255]) ?_
    refine gs_newr 112 rfl (by decide) rfl sh32.1 (Nat.le_of_lt (Nat.lt_of_le_of_lt (gJ.cell sh32.1 t23 rfl).1 (gJ.cell sh32.1 t23 rfl).2.1)) (by omega) (by omega) rfl rfl (by show (0 : Int) ≤ _; omega) (by show _ ≤ (12288 : Int); omega) (fun _ _ => gos_i (by decide) (by decide)) (fun ty35 h36 c37 g38 tc37 lc37 nc37 mc37 ec37 dc37 uc37 => ?_)
    have gac37 : h.1 ≤ c37 := by have h8 := G22.2.1; have h9 := sh32.2.1; omega
    have k39 := sh32.2.1
    have k39b := sh32.2.2.1
    have hl40 : h32.2.2.2.1 co = h18.2.2.2.1 co := congrFun sh32.2.2.2.2.1 co
    have hl41 : h32.2.2.2.1 dm = h18.2.2.2.1 dm := congrFun sh32.2.2.2.2.1 dm
    have hl42 : h32.2.2.2.1 c19 = h18.2.2.2.1 c19 := congrFun sh32.2.2.2.2.1 c19
    have uq43 := uc37 uq21 (Or.inl (by decide))
    have G44 : gSg [112, 113] [] [54002, 54003, 112999, 113999] ty h ty35 h36 := gSg.tr (gSg.ss G22 sh32 (by decide)) g38 (by decide) (by decide) (fun x hx => by cases hx)
    have t45 : ty35 x = 54 := gSg.typ g38 sh32.1 t23 rfl
    have t46 : ty35 co = 112 := gSg.typ g38 sh32.1 t24 rfl
    have hl47 : h36.2.2.2.1 co = h32.2.2.2.1 co := gSg.len g38 sh32.1 t24 rfl
    have t48 : ty35 dm = 113 := gSg.typ g38 sh32.1 t26 rfl
    have hl49 : h36.2.2.2.1 dm = h32.2.2.2.1 dm := gSg.len g38 sh32.1 t26 rfl
    have t50 : ty35 c19 = 113 := gSg.typ g38 sh32.1 tc19 rfl
    have hl51 : h36.2.2.2.1 c19 = h32.2.2.2.1 c19 := gSg.len g38 sh32.1 tc19 rfl
    have s52 := gSg.at g38 sh32.1 t23 rfl (by decide) s33
    have s53 := gSg.at g38 sh32.1 t23 rfl (by decide) s34
    have s54 := gSg.at g38 sh32.1 t23 rfl (by decide) eh32
    have sS55 : gSs rT 1027 ty35 [54002, 54003, 112999, 113999] h36 h36 := gSs.rf g38.1
    refine gs_ptr (s9 := 0) rfl (by decide) rfl sS55 t45 rfl rfl (Or.inl rfl) rfl (Or.inl rfl) (by decide) tc37 (fun h56 sh56 eh56 fh56 => ?_)
    have s57 := (fh56 x 8 (fun q => absurd q.2 (by decide))).trans s53
    have s58 := (fh56 x 3 (fun q => absurd q.2 (by decide))).trans s54
    refine gz_s 1 (pc' := 54) (L' := [some (.ref x)]) (S' := []) rfl ?_
    have k59 := sh56.2.1
    have k59b := sh56.2.2.1
    have hl60 : h56.2.2.2.1 co = h36.2.2.2.1 co := congrFun sh56.2.2.2.2.1 co
    have hl61 : h56.2.2.2.1 dm = h36.2.2.2.1 dm := congrFun sh56.2.2.2.2.1 dm
    have hl62 : h56.2.2.2.1 c19 = h36.2.2.2.1 c19 := congrFun sh56.2.2.2.2.1 c19
    have hl63 : h56.2.2.2.1 c37 = h36.2.2.2.1 c37 := congrFun sh56.2.2.2.2.1 c37
    have hl64 : 0 ≤ h56.2.2.2.1 co ∧ h56.2.2.2.1 co ≤ 12288 := gJ.rowl (G := gGG) sh56.1 t46 rfl
    have hl65 : 0 ≤ h56.2.2.2.1 dm ∧ h56.2.2.2.1 dm ≤ 192 := gJ.rowl (G := gGG) sh56.1 t48 rfl
    have hl66 : 0 ≤ h56.2.2.2.1 c19 ∧ h56.2.2.2.1 c19 ≤ 192 := gJ.rowl (G := gGG) sh56.1 t50 rfl
    have hl67 : 0 ≤ h56.2.2.2.1 c37 ∧ h56.2.2.2.1 c37 ≤ 12288 := gJ.rowl (G := gGG) sh56.1 tc37 rfl
    have G68 : gSg [112, 113] [] [54002, 54003, 112999, 113999] ty h ty35 h56 := gSg.ss G44 sh56 (by decide)
    exact gz_end (I := .return_) (len := 1) rfl (Or.inl rfl) ⟨ty35, G68, c37, c19, trivial, eh56, tc37, s58, t50, rfl, (by dsimp only; omega), (by dsimp only; omega), (by dsimp only; omega), (by dsimp only; omega), (by dsimp only; omega)⟩
