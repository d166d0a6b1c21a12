/-! ===== methods of the landed text (by program) ===== -/
set_option maxRecDepth 20000 in
set_option maxHeartbeats 4000000 in
theorem cw_copyOf (d : Nat) {ty : Nat → Nat} {h : gH} (hJ : gJ rT 1027 ty h) (a : Nat) (ta : ty a = 114) (n : Int) (rn : 1024 ≤ n ∧ n ≤ 1000000) (pp0 : ¬ n = (h.2.2.2.1 a : Int)) (pp1 : (h.2.2.2.1 a : Int) ≤ n) : gz gPP gGG gcn (d + 1) gt65 0 (gent [.ref a, .int (zi n)] 3) [] h (fun q _ => ∃ ty9 : Nat → Nat, gSg [114] [] [114999] ty h ty9 q.2.2 ∧ ∃ a9 : Nat, gfin gt65 q.1 q.2.1 = some (some (.ref a9)) ∧ ty9 a9 = 114 ∧ ((q.2.2.2.2.2.1 a9 : Int) = n) ∧ ((q.2.2.1 : Int) = h.1 + 1) ∧ ((q.2.2.2.1 : Int) = h.2.1 + n) ∧ (∀ j : Nat, (j : Int) < h.2.2.2.1 a → q.2.2.2.2.2.2 a9 j = h.2.2.2.2 a j)) := by
  have hS : gSs rT 1027 ty [114999] h h := gSs.rf hJ
  have G0 : gSg [114] [] [114999] ty h ty h := gSg.rf hJ (fun x hx => by cases hx)
  refine gz_s 2 (pc' := 2) (L' := [some (.ref a), some (.int (zi n)), none]) (S' := [.ref a, .int (zi n)]) rfl ?_
  refine gs_len rfl (by decide) hS.1 ta rfl rfl rfl (fun z1 ez1 az1 bz1 => ?_)
  have cz1 : 1024 ≤ z1 ∧ z1 ≤ 1000000 := ⟨az1, bz1⟩
  refine gy_icT (pc' := 14) rfl (by decide) (by decide) ⟨by omega, by omega⟩ ⟨by omega, by omega⟩ (by first | (simp [zc]; done) | (simp only [zc]; omega)) ?_
  refine gz_s 1 (pc' := 15) (L' := [some (.ref a), some (.int (zi n)), none]) (S' := [.int (zi n)]) rfl ?_
  refine gs_newr 114 rfl (by decide) rfl hS.1 (Nat.le_of_lt (Nat.lt_of_le_of_lt (gJ.cell hS.1 ta rfl).1 (gJ.cell hS.1 ta rfl).2.1)) (by omega) (by omega) rfl rfl (by show (1024 : Int) ≤ _; omega) (by show _ ≤ (1000000 : Int); omega) (fun _ _ => gos_i (by decide) (by decide)) (fun ty2 h3 c4 g5 tc4 lc4 nc4 mc4 ec4 dc4 uc4 => ?_)
  have gac4 : h.1 ≤ c4 := by have h8 := G0.2.1; have h9 := hS.2.1; omega
  have G6 : gSg [114] [] [114999] ty h ty2 h3 := gSg.tr (gSg.ss G0 hS (by decide)) g5 (by decide) (by decide) (fun x hx => by cases hx)
  have t7 : ty2 a = 114 := gSg.typ g5 hS.1 ta rfl
  have hl8 : h3.2.2.2.1 a = h.2.2.2.1 a := gSg.len g5 hS.1 ta rfl
  have sS9 : gSs rT 1027 ty2 [114999] h3 h3 := gSs.rf g5.1
  refine gz_s 6 (pc' := 23) (L' := [some (.ref a), some (.int (zi n)), some (.ref c4)]) (S' := [.ref a, .int (zi 0), .ref c4, .int (zi 0), .ref a]) rfl ?_
  refine gs_len rfl (by decide) sS9.1 t7 rfl rfl rfl (fun z10 ez10 az10 bz10 => ?_)
  have cz10 : 1024 ≤ z10 ∧ z10 ≤ 1000000 := ⟨az10, bz10⟩
  refine gz_s 1 (pc' := 25) (L' := [some (.ref a), some (.int (zi n)), some (.ref c4)]) (S' := [.int (zi n), .int (zi z10), .int (zi 0), .ref c4, .int (zi 0), .ref a]) rfl ?_
  refine gz_call rfl (by decide) rfl (by decide) (by decide) (gcal_of rfl rfl rfl (Nat.le_of_ble_eq_true rfl) rfl) (cl_Math_min _ sS9.1 z10 ⟨by omega, by omega⟩ n ⟨by omega, by omega⟩ ) (fun q11 _ wq11 => ?_)
  obtain ⟨pq11, oq11, hq11⟩ := q11
  obtain ⟨xq11, zq11, gq11, aq11, bq11, uq11_0, uq11_1, uq11_2⟩ := wq11
  refine ⟨_, gq11, ?_⟩
  show gz gPP gGG gcn _ _ 28 [some (.ref a), some (.int (zi n)), some (.ref c4)] [.int (zi zq11), .int (zi 0), .ref c4, .int (zi 0), .ref a] hq11 _
  have sq11 : gSs rT 1027 ty2 [114999] h3 hq11 := gSs.tr sS9 xq11 (by decide)
  have k13 := sq11.2.1
  have k13b := sq11.2.2.1
  have hl14 : hq11.2.2.2.1 a = h3.2.2.2.1 a := congrFun sq11.2.2.2.2.1 a
  have hl15 : hq11.2.2.2.1 c4 = h3.2.2.2.1 c4 := congrFun sq11.2.2.2.2.1 c4
  have hl16 : 1024 ≤ hq11.2.2.2.1 c4 ∧ hq11.2.2.2.1 c4 ≤ 1000000 := gJ.rowl (G := gGG) sq11.1 tc4 rfl
  have hl17 : 1024 ≤ hq11.2.2.2.1 a ∧ hq11.2.2.2.1 a ≤ 1000000 := gJ.rowl (G := gGG) sq11.1 t7 rfl
  refine gs_copyx rfl (by decide) (by omega) rfl sq11 tc4 rfl rfl t7 rfl rfl (Or.inr ⟨rfl, rfl⟩) (by decide) (by decide) (fun _ => rfl) (fun _ => rfl) (by decide) (by decide) (by omega) (by omega) (by omega) (by omega) (by omega) (by decide) (fun _ => (by decide : (114999 : Nat) ∈ ([114999] : List Nat))) (fun h12 sh12 f9h12 x9h12 => ?_)
  have fh12 : ∀ b j, ¬ (b = c4 ∧ True) → h12.2.2.2.2 b j = hq11.2.2.2.2 b j := fun b j hn => f9h12 b j (fun e => hn ⟨e, trivial⟩)
  refine gz_s 1 (pc' := 32) (L' := [some (.ref a), some (.int (zi n)), some (.ref c4)]) (S' := [.ref c4]) rfl ?_
  have k18 := sh12.2.1
  have k18b := sh12.2.2.1
  have hl19 : h12.2.2.2.1 a = h3.2.2.2.1 a := congrFun sh12.2.2.2.2.1 a
  have hl20 : h12.2.2.2.1 c4 = h3.2.2.2.1 c4 := congrFun sh12.2.2.2.2.1 c4
  have hl21 : 1024 ≤ h12.2.2.2.1 a ∧ h12.2.2.2.1 a ≤ 1000000 := gJ.rowl (G := gGG) sh12.1 t7 rfl
  have hl22 : 1024 ≤ h12.2.2.2.1 c4 ∧ h12.2.2.2.1 c4 ≤ 1000000 := gJ.rowl (G := gGG) sh12.1 tc4 rfl
  have hco23 : ∀ j : Nat, (j : Int) < h.2.2.2.1 a → h12.2.2.2.2 c4 j = h.2.2.2.2 a j := fun j hj => by
    have e9 := x9h12 j (by omega)
    rw [(by omega : (0 : Int).toNat + j = j)] at e9
    exact e9.trans ((xq11.2.2.2.2.2 a j (fun w => by cases w)).trans (gSg.at (k := j) g5 hS.1 ta rfl (fun w => by cases w) rfl))
  have G24 : gSg [114] [] [114999] ty h ty2 h12 := gSg.ss G6 sh12 (by decide)
  exact gz_end (I := .areturn) (len := 1) rfl (Or.inl rfl) ⟨ty2, G24, c4, rfl, tc4, (by dsimp only; omega), (by dsimp only; omega), (by dsimp only; omega), hco23⟩
set_option maxRecDepth 20000 in
set_option maxHeartbeats 4000000 in
theorem cw_putByte (d : Nat) {ty : Nat → Nat} {h : gH} (hJ : gJ rT 1027 ty h) (x : Nat) (tx : ty x = 56) (v : Int) (rv : (-2147483648) ≤ v ∧ v ≤ 2147483647) (bt : Nat) (ebt : h.2.2.2.2 x 0 = .ref bt) (tbt : ty bt = 114) (c0 : Int) (ec0 : h.2.2.2.2 x 1 = .int (zi c0)) (rc0 : 0 ≤ c0 ∧ c0 ≤ 499999) (sg : gWt) (pp0 : c0 = sg.1) (pp1 : c0 ≤ (h.2.2.2.1 bt : Int)) (uq : gUq ty) (hysw : gSW ty bt sg h) (hyok : eeOk sg) : gz gPP gGG gcn (d + 2) gt102 0 (gent [.ref x, .int (zi v)] 2) [] h (fun q _ => ∃ ty9 : Nat → Nat, gSg [114] [] [56000, 56001, 114999] ty h ty9 q.2.2 ∧ ∃ bt2 : Nat, True ∧ ∃ c1 : Int, q.2.2.2.2.2.2 x 0 = .ref bt2 ∧ ty9 bt2 = 114 ∧ gfin gt102 q.1 q.2.1 = some none ∧ q.2.2.2.2.2.2 x 1 = .int (zi c1) ∧ 0 ≤ c1 ∧ c1 ≤ 500000 ∧ (c1 = c0 + 1) ∧ (c1 = (eeB sg v).1) ∧ ((eeB sg v).2.1 = sg.2.1) ∧ ((eeB sg v).2.2.1 = sg.2.2.1) ∧ (1024 * ((q.2.2.1 : Int) - h.1) ≤ (q.2.2.2.2.2.1 bt2 : Int) - h.2.2.2.1 bt) ∧ (((q.2.2.2.1 : Int) - h.2.1) ≤ 2 * ((q.2.2.2.2.2.1 bt2 : Int) - h.2.2.2.1 bt)) ∧ ((h.2.2.2.1 bt : Int) ≤ (q.2.2.2.2.2.1 bt2 : Int)) ∧ (c1 ≤ (q.2.2.2.2.2.1 bt2 : Int)) ∧ (gSW ty9 bt2 (eeB sg v) q.2.2) ∧ (eeOk (eeB sg v))) := by
  have hS : gSs rT 1027 ty [56000, 56001, 114999] h h := gSs.rf hJ
  have G0 : gSg [114] [] [56000, 56001, 114999] ty h ty h := gSg.rf hJ (fun x hx => by cases hx)
  have hB1 : (eeB sg v).1 = sg.1 + 1 := rfl
  have hB2 : (eeB sg v).2.1 = sg.2.1 := rfl
  have hB3 : (eeB sg v).2.2.1 = sg.2.2.1 := rfl
  refine gz_s 1 (pc' := 1) (L' := [some (.ref x), some (.int (zi v))]) (S' := [.ref x]) rfl ?_
  refine gs_gtk rfl (by decide) rfl hS.1 tx rfl rfl ec0 ?_
  refine gz_s 1 (pc' := 5) (L' := [some (.ref x), some (.int (zi v))]) (S' := [.ref x, .int (zi c0)]) rfl ?_
  refine gs_gtk rfl (by decide) rfl hS.1 tx rfl rfl ebt ?_
  refine gs_len rfl (by decide) hS.1 tbt rfl rfl rfl (fun z1 ez1 az1 bz1 => ?_)
  have cz1 : 1024 ≤ z1 ∧ z1 ≤ 1000000 := ⟨az1, bz1⟩
  by_cases hc2 : (c0 : Int) < z1
  · refine gy_icT (pc' := 29) rfl (by decide) (by decide) (by omega) (by omega) hc2 ?_
    refine gz_s 1 (pc' := 30) (L' := [some (.ref x), some (.int (zi v))]) (S' := [.ref x]) rfl ?_
    refine gs_gtk rfl (by decide) rfl hS.1 tx rfl rfl ebt ?_
    refine gz_s 1 (pc' := 34) (L' := [some (.ref x), some (.int (zi v))]) (S' := [.ref x, .ref bt]) rfl ?_
    refine gs_gtk rfl (by decide) rfl hS.1 tx rfl rfl ec0 ?_
    refine gz_s 1 (pc' := 38) (L' := [some (.ref x), some (.int (zi v))]) (S' := [.int (zi v), .int (zi c0), .ref bt]) rfl ?_
    refine gy_i2bx rfl (by decide) ?_
    have hb3 := eeS_b (y := v % 256) ⟨by omega, by omega⟩
    have hl4 : 1024 ≤ h.2.2.2.1 bt ∧ h.2.2.2.1 bt ≤ 1000000 := gJ.rowl (G := gGG) hS.1 tbt rfl
    have hl5 : h.2.2.2.1 bt = h.2.2.2.1 bt := congrFun hS.2.2.2.2.1 bt
    refine gs_bastx rfl (by decide) hS tbt rfl rfl rfl (by decide) (fun _ => rfl) (by decide) (by omega) (by omega) (fun _ => (by decide : (114999 : Nat) ∈ ([56000, 56001, 114999] : List Nat))) ⟨by omega, by omega⟩ (fun h6 sh6 eh6 fh6 => ?_)
    have pr7 := gSW.put (i := c0) (v := v) fh6 eh6 (by omega) hysw
    have s8 := (fh6 x 0 (fun q => absurd (((tx).symm.trans (congrArg ty q.1)).trans tbt) (by decide))).trans ebt
    have s9 := (fh6 x 1 (fun q => absurd (((tx).symm.trans (congrArg ty q.1)).trans tbt) (by decide))).trans ec0
    refine gz_s 2 (pc' := 42) (L' := [some (.ref x), some (.int (zi v))]) (S' := [.ref x, .ref x]) rfl ?_
    refine gs_gtk rfl (by decide) rfl sh6.1 tx rfl rfl s9 ?_
    refine gy_s 2 (pc' := 47) (L' := [some (.ref x), some (.int (zi v))]) (S' := [.int ((zi c0) + (zi 1)), .ref x]) (L2 := [some (.ref x), some (.int (zi v))]) (S2 := [.int (zi (c0 + 1)), .ref x]) rfl (by simp only [zi_add, zi_sub, zi_mul, zi_neg, zi_and1, zi_and7, zi_and15, zi_and31, zi_and255]) (by simp only [zi_add, zi_sub, zi_mul, zi_neg, zi_and1, zi_and7, zi_and15, zi_and31, zi_and255]) ?_
    refine gs_put rfl (by decide) rfl sh6 tx rfl rfl rfl rfl (Or.inl rfl) (by decide) (by omega) (by omega) (fun h10 sh10 eh10 fh10 => ?_)
    have pr11 := gSW.pt fh10 tx (by decide) pr7
    have s12 := (fh10 x 0 (fun q => absurd q.2 (by decide))).trans s8
    have k13 := sh10.2.1
    have k13b := sh10.2.2.1
    have hl14 : h10.2.2.2.1 bt = h.2.2.2.1 bt := congrFun sh10.2.2.2.2.1 bt
    have hl15 : 1024 ≤ h10.2.2.2.1 bt ∧ h10.2.2.2.1 bt ≤ 1000000 := gJ.rowl (G := gGG) sh10.1 tbt rfl
    have G16 : gSg [114] [] [56000, 56001, 114999] ty h ty h10 := gSg.ss G0 sh10 (by decide)
    exact gz_end (I := .return_) (len := 1) rfl (Or.inl rfl) ⟨ty, G16, bt, trivial, c0 + 1, s12, tbt, rfl, eh10, (by omega), (by omega), (by omega), (by omega), (by omega), (by omega), (by dsimp only; omega), (by dsimp only; omega), (by dsimp only; omega), (by dsimp only; omega), pr11, (eeOk.B hyok)⟩
  · refine gy_icF rfl (by decide) (by decide) (by omega) (by omega) hc2 ?_
    refine gz_s 2 (pc' := 14) (L' := [some (.ref x), some (.int (zi v))]) (S' := [.ref x, .ref x]) rfl ?_
    refine gs_gtk rfl (by decide) rfl hS.1 tx rfl rfl ebt ?_
    refine gz_s 2 (pc' := 19) (L' := [some (.ref x), some (.int (zi v))]) (S' := [.ref x, .int (zi 2), .ref bt, .ref x]) rfl ?_
    refine gs_gtk rfl (by decide) rfl hS.1 tx rfl rfl ec0 ?_
    refine gy_s 1 (pc' := 23) (L' := [some (.ref x), some (.int (zi v))]) (S' := [.int ((zi 2) * (zi c0)), .ref bt, .ref x]) (L2 := [some (.ref x), some (.int (zi v))]) (S2 := [.int (zi (2 * c0)), .ref bt, .ref x]) rfl (by simp only [zi_add, zi_sub, zi_mul, zi_neg, zi_and1, zi_and7, zi_and15, zi_and31, zi_and255]) (by simp only [zi_add, zi_sub, zi_mul, zi_neg, zi_and1, zi_and7, zi_and15, zi_and31, zi_and255]) ?_
    have hl17 : h.2.2.2.1 bt = h.2.2.2.1 bt := congrFun hS.2.2.2.2.1 bt
    refine gz_call rfl (by decide) rfl (by decide) (by decide) (gcal_of rfl rfl rfl (Nat.le_of_ble_eq_true rfl) rfl) (cw_copyOf _ hS.1 bt tbt (2 * c0) ⟨by omega, by omega⟩ (by omega) (by omega)) (fun q18 _ wq18 => ?_)
    obtain ⟨pq18, oq18, hq18⟩ := q18
    obtain ⟨tyq18, xq18, zq18, gq18, tzq18, uq18_0, uq18_1, uq18_2, yq18_0⟩ := wq18
    dsimp only at uq18_0 uq18_1 uq18_2
    refine ⟨_, gq18, ?_⟩
    show gz gPP gGG gcn _ _ 26 [some (.ref x), some (.int (zi v))] [.ref zq18, .ref x] hq18 _
    have G19 : gSg [114] [] [56000, 56001, 114999] ty h tyq18 hq18 := gSg.tr (gSg.ss G0 hS (by decide)) xq18 (by decide) (by decide) (fun x hx => by cases hx)
    have t20 : tyq18 x = 56 := gSg.typ xq18 hS.1 tx rfl
    have t21 : tyq18 bt = 114 := gSg.typ xq18 hS.1 tbt rfl
    have hl22 : hq18.2.2.2.1 bt = h.2.2.2.1 bt := gSg.len xq18 hS.1 tbt rfl
    have s23 := gSg.at xq18 hS.1 tx rfl (by decide) ebt
    have s24 := gSg.at xq18 hS.1 tx rfl (by decide) ec0
    have uq25 := gSg.uq xq18 uq (by decide)
    have sS26 : gSs rT 1027 tyq18 [56000, 56001, 114999] hq18 hq18 := gSs.rf xq18.1
    have hsw27 : gSW tyq18 zq18 sg hq18 := ⟨tzq18, hysw.2.1, fun j hj => ⟨(hysw.2.2 j hj).1, (yq18_0 j (by omega)).trans (hysw.2.2 j hj).2⟩⟩
    refine gs_ptr (s9 := 0) rfl (by decide) rfl sS26 t20 rfl rfl (Or.inl rfl) rfl (Or.inl rfl) (by decide) tzq18 (fun h28 sh28 eh28 fh28 => ?_)
    have pr29 := gSW.pt fh28 t20 (by decide) hsw27
    have s30 := (fh28 x 1 (fun q => absurd q.2 (by decide))).trans s24
    refine gz_s 1 (pc' := 30) (L' := [some (.ref x), some (.int (zi v))]) (S' := [.ref x]) rfl ?_
    refine gs_gtk rfl (by decide) rfl sh28.1 t20 rfl rfl eh28 ?_
    refine gz_s 1 (pc' := 34) (L' := [some (.ref x), some (.int (zi v))]) (S' := [.ref x, .ref zq18]) rfl ?_
    refine gs_gtk rfl (by decide) rfl sh28.1 t20 rfl rfl s30 ?_
    refine gz_s 1 (pc' := 38) (L' := [some (.ref x), some (.int (zi v))]) (S' := [.int (zi v), .int (zi c0), .ref zq18]) rfl ?_
    refine gy_i2bx rfl (by decide) ?_
    have hb31 := eeS_b (y := v % 256) ⟨by omega, by omega⟩
    have hl32 : 1024 ≤ h28.2.2.2.1 zq18 ∧ h28.2.2.2.1 zq18 ≤ 1000000 := gJ.rowl (G := gGG) sh28.1 tzq18 rfl
    have hl33 : h28.2.2.2.1 zq18 = hq18.2.2.2.1 zq18 := congrFun sh28.2.2.2.2.1 zq18
    refine gs_bastx rfl (by decide) sh28 tzq18 rfl rfl rfl (by decide) (fun _ => rfl) (by decide) (by omega) (by omega) (fun _ => (by decide : (114999 : Nat) ∈ ([56000, 56001, 114999] : List Nat))) ⟨by omega, by omega⟩ (fun h34 sh34 eh34 fh34 => ?_)
    have pr35 := gSW.put (i := c0) (v := v) fh34 eh34 (by omega) pr29
    have s36 := (fh34 x 1 (fun q => absurd (((t20).symm.trans (congrArg tyq18 q.1)).trans tzq18) (by decide))).trans s30
    have s37 := (fh34 x 0 (fun q => absurd (((t20).symm.trans (congrArg tyq18 q.1)).trans tzq18) (by decide))).trans eh28
    refine gz_s 2 (pc' := 42) (L' := [some (.ref x), some (.int (zi v))]) (S' := [.ref x, .ref x]) rfl ?_
    refine gs_gtk rfl (by decide) rfl sh34.1 t20 rfl rfl s36 ?_
    refine gy_s 2 (pc' := 47) (L' := [some (.ref x), some (.int (zi v))]) (S' := [.int ((zi c0) + (zi 1)), .ref x]) (L2 := [some (.ref x), some (.int (zi v))]) (S2 := [.int (zi (c0 + 1)), .ref x]) rfl (by simp only [zi_add, zi_sub, zi_mul, zi_neg, zi_and1, zi_and7, zi_and15, zi_and31, zi_and255]) (by simp only [zi_add, zi_sub, zi_mul, zi_neg, zi_and1, zi_and7, zi_and15, zi_and31, zi_and255]) ?_
    refine gs_put rfl (by decide) rfl sh34 t20 rfl rfl rfl rfl (Or.inl rfl) (by decide) (by omega) (by omega) (fun h38 sh38 eh38 fh38 => ?_)
    have pr39 := gSW.pt fh38 t20 (by decide) pr35
    have s40 := (fh38 x 0 (fun q => absurd q.2 (by decide))).trans s37
    have k41 := sh38.2.1
    have k41b := sh38.2.2.1
    have hl42 : h38.2.2.2.1 bt = hq18.2.2.2.1 bt := congrFun sh38.2.2.2.2.1 bt
    have hl43 : h38.2.2.2.1 zq18 = hq18.2.2.2.1 zq18 := congrFun sh38.2.2.2.2.1 zq18
    have hl44 : 1024 ≤ h38.2.2.2.1 bt ∧ h38.2.2.2.1 bt ≤ 1000000 := gJ.rowl (G := gGG) sh38.1 t21 rfl
    have hl45 : 1024 ≤ h38.2.2.2.1 zq18 ∧ h38.2.2.2.1 zq18 ≤ 1000000 := gJ.rowl (G := gGG) sh38.1 tzq18 rfl
    have G46 : gSg [114] [] [56000, 56001, 114999] ty h tyq18 h38 := gSg.ss G19 sh38 (by decide)
    exact gz_end (I := .return_) (len := 1) rfl (Or.inl rfl) ⟨tyq18, G46, zq18, trivial, c0 + 1, s40, tzq18, rfl, eh38, (by omega), (by omega), (by omega), (by omega), (by omega), (by omega), (by dsimp only; omega), (by dsimp only; omega), (by dsimp only; omega), (by dsimp only; omega), pr39, (eeOk.B hyok)⟩
set_option maxRecDepth 20000 in
set_option maxHeartbeats 4000000 in
theorem cw_putTwo (d : Nat) {ty : Nat → Nat} {h : gH} (hJ : gJ rT 1027 ty h) (x : Nat) (tx : ty x = 56) (v : Int) (rv : (-2147483648) ≤ v ∧ v ≤ 2147483647) (bt : Nat) (ebt : h.2.2.2.2 x 0 = .ref bt) (tbt : ty bt = 114) (c0 : Int) (ec0 : h.2.2.2.2 x 1 = .int (zi c0)) (rc0 : 0 ≤ c0 ∧ c0 ≤ 499998) (sg : gWt) (pp0 : c0 = sg.1) (pp1 : c0 ≤ (h.2.2.2.1 bt : Int)) (uq : gUq ty) (hysw : gSW ty bt sg h) (hyok : eeOk sg) : gz gPP gGG gcn (d + 3) gt103 0 (gent [.ref x, .int (zi v)] 2) [] h (fun q _ => ∃ ty9 : Nat → Nat, gSg [114] [] [56000, 56001, 114999] ty h ty9 q.2.2 ∧ ∃ bt2 : Nat, True ∧ ∃ c1 : Int, q.2.2.2.2.2.2 x 0 = .ref bt2 ∧ ty9 bt2 = 114 ∧ gfin gt103 q.1 q.2.1 = some none ∧ q.2.2.2.2.2.2 x 1 = .int (zi c1) ∧ 0 ≤ c1 ∧ c1 ≤ 500000 ∧ (c1 = c0 + 2) ∧ (c1 = (eeT sg v).1) ∧ ((eeT sg v).2.1 = sg.2.1) ∧ ((eeT sg v).2.2.1 = sg.2.2.1) ∧ (1024 * ((q.2.2.1 : Int) - h.1) ≤ (q.2.2.2.2.2.1 bt2 : Int) - h.2.2.2.1 bt) ∧ (((q.2.2.2.1 : Int) - h.2.1) ≤ 2 * ((q.2.2.2.2.2.1 bt2 : Int) - h.2.2.2.1 bt)) ∧ ((h.2.2.2.1 bt : Int) ≤ (q.2.2.2.2.2.1 bt2 : Int)) ∧ (c1 ≤ (q.2.2.2.2.2.1 bt2 : Int)) ∧ (gSW ty9 bt2 (eeT sg v) q.2.2) ∧ (eeOk (eeT sg v))) := by
  have hS : gSs rT 1027 ty [56000, 56001, 114999] h h := gSs.rf hJ
  have G0 : gSg [114] [] [56000, 56001, 114999] ty h ty h := gSg.rf hJ (fun x hx => by cases hx)
  have hB1 : (eeT sg v).1 = sg.1 + 1 + 1 := rfl
  have hB2 : (eeT sg v).2.1 = sg.2.1 := rfl
  have hB3 : (eeT sg v).2.2.1 = sg.2.2.1 := rfl
  refine gz_s 3 (pc' := 4) (L' := [some (.ref x), some (.int (zi v))]) (S' := [.int (zi 8), .int (zi v), .ref x]) rfl ?_
  refine gy_shc (n := 8) (v := 256) rfl (by decide) (by omega) (by decide) (by decide) rfl ?_
  have hl1 : h.2.2.2.1 bt = h.2.2.2.1 bt := congrFun hS.2.2.2.2.1 bt
  refine gz_call rfl (by decide) rfl (by decide) (by decide) (gcal_of rfl rfl rfl (Nat.le_of_ble_eq_true rfl) (gJ.recv (G := gGG) hS.1 tx rfl rfl)) (cw_putByte _ hS.1 x tx (v / 256) ⟨by omega, by omega⟩ bt ebt tbt c0 ec0 ⟨by omega, by omega⟩ sg (by omega) (by omega) uq hysw hyok) (fun q2 _ wq2 => ?_)
  obtain ⟨pq2, oq2, hq2⟩ := q2
  obtain ⟨tyq2, xq2, cq2_0, ttq2, fq2_0, ecq2_0, tcq2_0, gq2, efq2_0, afq2_0, bfq2_0, uq2_0, uq2_1, uq2_2, uq2_3, uq2_4, uq2_5, uq2_6, uq2_7, yq2_0, yq2_1⟩ := wq2
  dsimp only at uq2_4 uq2_5 uq2_6 uq2_7
  refine ⟨_, gq2, ?_⟩
  show gz gPP gGG gcn _ _ 8 [some (.ref x), some (.int (zi v))] [] hq2 _
  have G3 : gSg [114] [] [56000, 56001, 114999] ty h tyq2 hq2 := gSg.tr (gSg.ss G0 hS (by decide)) xq2 (by decide) (by decide) (fun x hx => by cases hx)
  have t4 : tyq2 x = 56 := gSg.typ xq2 hS.1 tx rfl
  have t5 : tyq2 bt = 114 := gSg.typ xq2 hS.1 tbt rfl
  have hl6 : hq2.2.2.2.1 bt = h.2.2.2.1 bt := gSg.len xq2 hS.1 tbt rfl
  have uq7 := gSg.uq xq2 uq (by decide)
  have sS8 : gSs rT 1027 tyq2 [56000, 56001, 114999] hq2 hq2 := gSs.rf xq2.1
  refine gz_s 2 (pc' := 10) (L' := [some (.ref x), some (.int (zi v))]) (S' := [.int (zi v), .ref x]) rfl ?_
  have hl9 : hq2.2.2.2.1 cq2_0 = hq2.2.2.2.1 cq2_0 := congrFun sS8.2.2.2.2.1 cq2_0
  refine gz_call rfl (by decide) rfl (by decide) (by decide) (gcal_of rfl rfl rfl (Nat.le_of_ble_eq_true rfl) (gJ.recv (G := gGG) sS8.1 t4 rfl rfl)) (cw_putByte _ sS8.1 x t4 v ⟨by omega, by omega⟩ cq2_0 ecq2_0 tcq2_0 fq2_0 efq2_0 ⟨by omega, by omega⟩ (eeB sg (v / 256)) (by omega) (by omega) uq7 yq2_0 yq2_1) (fun q10 _ wq10 => ?_)
  obtain ⟨pq10, oq10, hq10⟩ := q10
  obtain ⟨tyq10, xq10, cq10_0, ttq10, fq10_0, ecq10_0, tcq10_0, gq10, efq10_0, afq10_0, bfq10_0, uq10_0, uq10_1, uq10_2, uq10_3, uq10_4, uq10_5, uq10_6, uq10_7, yq10_0, yq10_1⟩ := wq10
  dsimp only at uq10_4 uq10_5 uq10_6 uq10_7
  refine ⟨_, gq10, ?_⟩
  show gz gPP gGG gcn _ _ 13 [some (.ref x), some (.int (zi v))] [] hq10 _
  have G11 : gSg [114] [] [56000, 56001, 114999] ty h tyq10 hq10 := gSg.tr (gSg.ss G3 sS8 (by decide)) xq10 (by decide) (by decide) (fun x hx => by cases hx)
  have t12 : tyq10 x = 56 := gSg.typ xq10 sS8.1 t4 rfl
  have t13 : tyq10 bt = 114 := gSg.typ xq10 sS8.1 t5 rfl
  have hl14 : hq10.2.2.2.1 bt = hq2.2.2.2.1 bt := gSg.len xq10 sS8.1 t5 rfl
  have t15 : tyq10 cq2_0 = 114 := gSg.typ xq10 sS8.1 tcq2_0 rfl
  have hl16 : hq10.2.2.2.1 cq2_0 = hq2.2.2.2.1 cq2_0 := gSg.len xq10 sS8.1 tcq2_0 rfl
  have uq17 := gSg.uq xq10 uq7 (by decide)
  have sS18 : gSs rT 1027 tyq10 [56000, 56001, 114999] hq10 hq10 := gSs.rf xq10.1
  have hl19 : 1024 ≤ hq10.2.2.2.1 bt ∧ hq10.2.2.2.1 bt ≤ 1000000 := gJ.rowl (G := gGG) sS18.1 t13 rfl
  have hl20 : 1024 ≤ hq10.2.2.2.1 cq2_0 ∧ hq10.2.2.2.1 cq2_0 ≤ 1000000 := gJ.rowl (G := gGG) sS18.1 t15 rfl
  have hl21 : 1024 ≤ hq10.2.2.2.1 cq10_0 ∧ hq10.2.2.2.1 cq10_0 ≤ 1000000 := gJ.rowl (G := gGG) sS18.1 tcq10_0 rfl
  have G22 : gSg [114] [] [56000, 56001, 114999] ty h tyq10 hq10 := gSg.ss G11 sS18 (by decide)
  exact gz_end (I := .return_) (len := 1) rfl (Or.inl rfl) ⟨tyq10, G22, cq10_0, trivial, fq10_0, ecq10_0, tcq10_0, rfl, efq10_0, (by omega), (by omega), (by omega), (by omega), (by omega), (by omega), (by dsimp only; omega), (by dsimp only; omega), (by dsimp only; omega), (by dsimp only; omega), yq10_0, (eeOk.T hyok)⟩
set_option maxRecDepth 20000 in
set_option maxHeartbeats 4000000 in
theorem cw_putMarker (d : Nat) {ty : Nat → Nat} {h : gH} (hJ : gJ rT 1027 ty h) (x : Nat) (tx : ty x = 56) (v : Int) (rv : (-2147483648) ≤ v ∧ v ≤ 2147483647) (bt : Nat) (ebt : h.2.2.2.2 x 0 = .ref bt) (tbt : ty bt = 114) (c0 : Int) (ec0 : h.2.2.2.2 x 1 = .int (zi c0)) (rc0 : 0 ≤ c0 ∧ c0 ≤ 499998) (sg : gWt) (pp0 : c0 = sg.1) (pp1 : c0 ≤ (h.2.2.2.1 bt : Int)) (uq : gUq ty) (hysw : gSW ty bt sg h) (hyok : eeOk sg) : gz gPP gGG gcn (d + 3) gt101 0 (gent [.ref x, .int (zi v)] 2) [] h (fun q _ => ∃ ty9 : Nat → Nat, gSg [114] [] [56000, 56001, 114999] ty h ty9 q.2.2 ∧ ∃ bt2 : Nat, True ∧ ∃ c1 : Int, q.2.2.2.2.2.2 x 0 = .ref bt2 ∧ ty9 bt2 = 114 ∧ gfin gt101 q.1 q.2.1 = some none ∧ q.2.2.2.2.2.2 x 1 = .int (zi c1) ∧ 0 ≤ c1 ∧ c1 ≤ 500000 ∧ (c1 = c0 + 2) ∧ (c1 = (eeM sg v).1) ∧ ((eeM sg v).2.1 = sg.2.1) ∧ ((eeM sg v).2.2.1 = sg.2.2.1) ∧ (1024 * ((q.2.2.1 : Int) - h.1) ≤ (q.2.2.2.2.2.1 bt2 : Int) - h.2.2.2.1 bt) ∧ (((q.2.2.2.1 : Int) - h.2.1) ≤ 2 * ((q.2.2.2.2.2.1 bt2 : Int) - h.2.2.2.1 bt)) ∧ ((h.2.2.2.1 bt : Int) ≤ (q.2.2.2.2.2.1 bt2 : Int)) ∧ (c1 ≤ (q.2.2.2.2.2.1 bt2 : Int)) ∧ (gSW ty9 bt2 (eeM sg v) q.2.2) ∧ (eeOk (eeM sg v))) := by
  have hS : gSs rT 1027 ty [56000, 56001, 114999] h h := gSs.rf hJ
  have G0 : gSg [114] [] [56000, 56001, 114999] ty h ty h := gSg.rf hJ (fun x hx => by cases hx)
  have hB1 : (eeM sg v).1 = sg.1 + 1 + 1 := rfl
  have hB2 : (eeM sg v).2.1 = sg.2.1 := rfl
  have hB3 : (eeM sg v).2.2.1 = sg.2.2.1 := rfl
  refine gz_s 2 (pc' := 4) (L' := [some (.ref x), some (.int (zi v))]) (S' := [.int (zi 255), .ref x]) rfl ?_
  have hl1 : h.2.2.2.1 bt = h.2.2.2.1 bt := congrFun hS.2.2.2.2.1 bt
  refine gz_call rfl (by decide) rfl (by decide) (by decide) (gcal_of rfl rfl rfl (Nat.le_of_ble_eq_true rfl) (gJ.recv (G := gGG) hS.1 tx rfl rfl)) (cw_putByte _ hS.1 x tx 255 ⟨by omega, by omega⟩ bt ebt tbt c0 ec0 ⟨by omega, by omega⟩ sg (by omega) (by omega) uq hysw hyok) (fun q2 _ wq2 => ?_)
  obtain ⟨pq2, oq2, hq2⟩ := q2
  obtain ⟨tyq2, xq2, cq2_0, ttq2, fq2_0, ecq2_0, tcq2_0, gq2, efq2_0, afq2_0, bfq2_0, uq2_0, uq2_1, uq2_2, uq2_3, uq2_4, uq2_5, uq2_6, uq2_7, yq2_0, yq2_1⟩ := wq2
  dsimp only at uq2_4 uq2_5 uq2_6 uq2_7
  refine ⟨_, gq2, ?_⟩
  show gz gPP gGG gcn _ _ 7 [some (.ref x), some (.int (zi v))] [] hq2 _
  have G3 : gSg [114] [] [56000, 56001, 114999] ty h tyq2 hq2 := gSg.tr (gSg.ss G0 hS (by decide)) xq2 (by decide) (by decide) (fun x hx => by cases hx)
  have t4 : tyq2 x = 56 := gSg.typ xq2 hS.1 tx rfl
  have t5 : tyq2 bt = 114 := gSg.typ xq2 hS.1 tbt rfl
  have hl6 : hq2.2.2.2.1 bt = h.2.2.2.1 bt := gSg.len xq2 hS.1 tbt rfl
  have uq7 := gSg.uq xq2 uq (by decide)
  have sS8 : gSs rT 1027 tyq2 [56000, 56001, 114999] hq2 hq2 := gSs.rf xq2.1
  refine gz_s 2 (pc' := 9) (L' := [some (.ref x), some (.int (zi v))]) (S' := [.int (zi v), .ref x]) rfl ?_
  have hl9 : hq2.2.2.2.1 cq2_0 = hq2.2.2.2.1 cq2_0 := congrFun sS8.2.2.2.2.1 cq2_0
  refine gz_call rfl (by decide) rfl (by decide) (by decide) (gcal_of rfl rfl rfl (Nat.le_of_ble_eq_true rfl) (gJ.recv (G := gGG) sS8.1 t4 rfl rfl)) (cw_putByte _ sS8.1 x t4 v ⟨by omega, by omega⟩ cq2_0 ecq2_0 tcq2_0 fq2_0 efq2_0 ⟨by omega, by omega⟩ (eeB sg 255) (by omega) (by omega) uq7 yq2_0 yq2_1) (fun q10 _ wq10 => ?_)
  obtain ⟨pq10, oq10, hq10⟩ := q10
  obtain ⟨tyq10, xq10, cq10_0, ttq10, fq10_0, ecq10_0, tcq10_0, gq10, efq10_0, afq10_0, bfq10_0, uq10_0, uq10_1, uq10_2, uq10_3, uq10_4, uq10_5, uq10_6, uq10_7, yq10_0, yq10_1⟩ := wq10
  dsimp only at uq10_4 uq10_5 uq10_6 uq10_7
  refine ⟨_, gq10, ?_⟩
  show gz gPP gGG gcn _ _ 12 [some (.ref x), some (.int (zi v))] [] hq10 _
  have G11 : gSg [114] [] [56000, 56001, 114999] ty h tyq10 hq10 := gSg.tr (gSg.ss G3 sS8 (by decide)) xq10 (by decide) (by decide) (fun x hx => by cases hx)
  have t12 : tyq10 x = 56 := gSg.typ xq10 sS8.1 t4 rfl
  have t13 : tyq10 bt = 114 := gSg.typ xq10 sS8.1 t5 rfl
  have hl14 : hq10.2.2.2.1 bt = hq2.2.2.2.1 bt := gSg.len xq10 sS8.1 t5 rfl
  have t15 : tyq10 cq2_0 = 114 := gSg.typ xq10 sS8.1 tcq2_0 rfl
  have hl16 : hq10.2.2.2.1 cq2_0 = hq2.2.2.2.1 cq2_0 := gSg.len xq10 sS8.1 tcq2_0 rfl
  have uq17 := gSg.uq xq10 uq7 (by decide)
  have sS18 : gSs rT 1027 tyq10 [56000, 56001, 114999] hq10 hq10 := gSs.rf xq10.1
  have hl19 : 1024 ≤ hq10.2.2.2.1 bt ∧ hq10.2.2.2.1 bt ≤ 1000000 := gJ.rowl (G := gGG) sS18.1 t13 rfl
  have hl20 : 1024 ≤ hq10.2.2.2.1 cq2_0 ∧ hq10.2.2.2.1 cq2_0 ≤ 1000000 := gJ.rowl (G := gGG) sS18.1 t15 rfl
  have hl21 : 1024 ≤ hq10.2.2.2.1 cq10_0 ∧ hq10.2.2.2.1 cq10_0 ≤ 1000000 := gJ.rowl (G := gGG) sS18.1 tcq10_0 rfl
  have G22 : gSg [114] [] [56000, 56001, 114999] ty h tyq10 hq10 := gSg.ss G11 sS18 (by decide)
  exact gz_end (I := .return_) (len := 1) rfl (Or.inl rfl) ⟨tyq10, G22, cq10_0, trivial, fq10_0, ecq10_0, tcq10_0, rfl, efq10_0, (by omega), (by omega), (by omega), (by omega), (by omega), (by omega), (by dsimp only; omega), (by dsimp only; omega), (by dsimp only; omega), (by dsimp only; omega), yq10_0, (eeOk.M hyok)⟩
set_option maxRecDepth 20000 in
set_option maxHeartbeats 4000000 in
theorem cw_putBits (d : Nat) {ty : Nat → Nat} {h : gH} (hJ : gJ rT 1027 ty h) (x : Nat) (tx : ty x = 56) (v : Int) (rv : (-2147483648) ≤ v ∧ v ≤ 2147483647) (n : Int) (rn : 0 ≤ n ∧ n ≤ 32) (bt : Nat) (ebt : h.2.2.2.2 x 0 = .ref bt) (tbt : ty bt = 114) (c0 : Int) (ec0 : h.2.2.2.2 x 1 = .int (zi c0)) (rc0 : 0 ≤ c0 ∧ c0 ≤ 499999) (u0 : Int) (eu0 : h.2.2.2.2 x 2 = .int (zi u0)) (ru0 : 0 ≤ u0 ∧ u0 ≤ 127) (h0 : Int) (eh0 : h.2.2.2.2 x 3 = .int (zi h0)) (rh0 : 0 ≤ h0 ∧ h0 ≤ 7) (sg : gWt) (pp0 : c0 = sg.1) (pp1 : u0 = sg.2.1) (pp2 : h0 = sg.2.2.1) (pp3 : 4 * c0 + h0 + n ≤ 1999990) (pp4 : c0 ≤ (h.2.2.2.1 bt : Int)) (uq : gUq ty) (hysw : gSW ty bt sg h) (hyok : eeOk sg) : gz gPP gGG gcn (d + 3) gt109 0 (gent [.ref x, .int (zi v), .int (zi n)] 4) [] h (fun q _ => ∃ ty9 : Nat → Nat, gSg [114] [] [56000, 56001, 56002, 56003, 114999] ty h ty9 q.2.2 ∧ ∃ bt2 : Nat, True ∧ ∃ c1 u1 h1 : Int, q.2.2.2.2.2.2 x 0 = .ref bt2 ∧ ty9 bt2 = 114 ∧ gfin gt109 q.1 q.2.1 = some none ∧ q.2.2.2.2.2.2 x 1 = .int (zi c1) ∧ 0 ≤ c1 ∧ c1 ≤ 500000 ∧ q.2.2.2.2.2.2 x 2 = .int (zi u1) ∧ 0 ≤ u1 ∧ u1 ≤ 127 ∧ q.2.2.2.2.2.2 x 3 = .int (zi h1) ∧ 0 ≤ h1 ∧ h1 ≤ 7 ∧ (4 * c1 + h1 ≤ 4 * c0 + h0 + n) ∧ (c0 ≤ c1) ∧ (c1 = (eeN v (Int.toNat n) sg).1) ∧ (u1 = (eeN v (Int.toNat n) sg).2.1) ∧ (h1 = (eeN v (Int.toNat n) sg).2.2.1) ∧ (1024 * ((q.2.2.1 : Int) - h.1) ≤ (q.2.2.2.2.2.1 bt2 : Int) - h.2.2.2.1 bt) ∧ (((q.2.2.2.1 : Int) - h.2.1) ≤ 2 * ((q.2.2.2.2.2.1 bt2 : Int) - h.2.2.2.1 bt)) ∧ ((h.2.2.2.1 bt : Int) ≤ (q.2.2.2.2.2.1 bt2 : Int)) ∧ (c1 ≤ (q.2.2.2.2.2.1 bt2 : Int)) ∧ (gSW ty9 bt2 (eeN v (Int.toNat n) sg) q.2.2) ∧ (eeOk (eeN v (Int.toNat n) sg))) := by
  have hS : gSs rT 1027 ty [56000, 56001, 56002, 56003, 114999] h h := gSs.rf hJ
  have G0 : gSg [114] [] [56000, 56001, 56002, 56003, 114999] ty h ty h := gSg.rf hJ (fun x hx => by cases hx)
  refine gy_s 4 (pc' := 4) (L' := [some (.ref x), some (.int (zi v)), some (.int (zi n)), some (.int ((zi n) - (zi 1)))]) (S' := []) (L2 := [some (.ref x), some (.int (zi v)), some (.int (zi n)), some (.int (zi (n - 1)))]) (S2 := []) rfl (by simp only [zi_add, zi_sub, zi_mul, zi_neg, zi_and1, zi_and7, zi_and15, zi_and31, zi_and255]) (by simp only [zi_add, zi_sub, zi_mul, zi_neg, zi_and1, zi_and7, zi_and15, zi_and31, zi_and255]) ?_
  have hk0 : eeK v n.toNat sg (n - 1 - (n - 1)).toNat = sg := by rw [(by omega : (n - 1 - (n - 1)).toNat = 0)]; rfl
  have hk0_1 : (eeK v n.toNat sg (n - 1 - (n - 1)).toNat).1 = sg.1 := by rw [hk0]
  have hk0_21 : (eeK v n.toNat sg (n - 1 - (n - 1)).toNat).2.1 = sg.2.1 := by rw [hk0]
  have hk0_221 : (eeK v n.toNat sg (n - 1 - (n - 1)).toNat).2.2.1 = sg.2.2.1 := by rw [hk0]
  have hsw2 : gSW ty bt (eeK v n.toNat sg (n - 1 - (n - 1)).toNat) h := by rw [hk0]; exact hysw
  have lp1 : ∀ (fu : Nat) (ty4 : Nat → Nat) (h3 : gH) (bv : Nat) (i : Int) (cv : Int) (uv : Int) (hv : Int), (i + 1).toNat < fu → gSg [114] [] [56000, 56001, 56002, 56003, 114999] ty h ty4 h3 → gUq ty4 → ty4 x = 56 → h3.2.2.2.2 x 0 = .ref bv → ty4 bv = 114 → ((-1) ≤ i ∧ i ≤ 31) → (0 ≤ cv ∧ cv ≤ 499999) → (0 ≤ uv ∧ uv ≤ 127) → (0 ≤ hv ∧ hv ≤ 7) → (4 * cv + hv ≤ 4 * c0 + h0 + (n - 1 - i)) → (c0 ≤ cv) → (i ≤ n - 1) → (cv = (eeK v n.toNat sg (n - 1 - i).toNat).1) → (uv = (eeK v n.toNat sg (n - 1 - i).toNat).2.1) → (hv = (eeK v n.toNat sg (n - 1 - i).toNat).2.2.1) → (1024 * ((h3.1 : Int) - h.1) ≤ (h3.2.2.2.1 bv : Int) - h.2.2.2.1 bt) → (((h3.2.1 : Int) - h.2.1) ≤ 2 * ((h3.2.2.2.1 bv : Int) - h.2.2.2.1 bt)) → ((h.2.2.2.1 bt : Int) ≤ (h3.2.2.2.1 bv : Int)) → (cv ≤ (h3.2.2.2.1 bv : Int)) → h3.2.2.2.2 x 1 = .int (zi cv) → h3.2.2.2.2 x 2 = .int (zi uv) → h3.2.2.2.2 x 3 = .int (zi hv) → eeOk sg → gSW ty4 bv (eeK v n.toNat sg (n - 1 - i).toNat) h3 → gz gPP gGG gcn (d + 3) gt109 4 [some (.ref x), some (.int (zi v)), some (.int (zi n)), some (.int (zi i))] [] h3 (fun q _ => ∃ ty9 : Nat → Nat, gSg [114] [] [56000, 56001, 56002, 56003, 114999] ty h ty9 q.2.2 ∧ ∃ bt2 : Nat, True ∧ ∃ c1 u1 h1 : Int, q.2.2.2.2.2.2 x 0 = .ref bt2 ∧ ty9 bt2 = 114 ∧ gfin gt109 q.1 q.2.1 = some none ∧ q.2.2.2.2.2.2 x 1 = .int (zi c1) ∧ 0 ≤ c1 ∧ c1 ≤ 500000 ∧ q.2.2.2.2.2.2 x 2 = .int (zi u1) ∧ 0 ≤ u1 ∧ u1 ≤ 127 ∧ q.2.2.2.2.2.2 x 3 = .int (zi h1) ∧ 0 ≤ h1 ∧ h1 ≤ 7 ∧ (4 * c1 + h1 ≤ 4 * c0 + h0 + n) ∧ (c0 ≤ c1) ∧ (c1 = (eeN v (Int.toNat n) sg).1) ∧ (u1 = (eeN v (Int.toNat n) sg).2.1) ∧ (h1 = (eeN v (Int.toNat n) sg).2.2.1) ∧ (1024 * ((q.2.2.1 : Int) - h.1) ≤ (q.2.2.2.2.2.1 bt2 : Int) - h.2.2.2.1 bt) ∧ (((q.2.2.2.1 : Int) - h.2.1) ≤ 2 * ((q.2.2.2.2.2.1 bt2 : Int) - h.2.2.2.1 bt)) ∧ ((h.2.2.2.1 bt : Int) ≤ (q.2.2.2.2.2.1 bt2 : Int)) ∧ (c1 ≤ (q.2.2.2.2.2.1 bt2 : Int)) ∧ (gSW ty9 bt2 (eeN v (Int.toNat n) sg) q.2.2) ∧ (eeOk (eeN v (Int.toNat n) sg))) := by
    intro fu
    induction fu with
    | zero => intro ty4 h3 bv i cv uv hv hm; exact absurd hm (Nat.not_lt_zero _)
    | succ fu ihlp1 =>
      intro ty4 h3 bv i cv uv hv lp1m lp1G lp1u lp1c0 lp1r0 lp1r1 lp1f0 lp1f1 lp1f2 lp1f3 lp1f4 lp1f5 lp1f6 lp1f7 lp1f8 lp1f9 lp1f10 lp1f11 lp1f12 lp1f13 lp1k0 lp1k1 lp1k2 lp1k3 lp1k4
      have sh3 : gSs rT 1027 ty4 [56000, 56001, 56002, 56003, 114999] h3 h3 := gSs.rf lp1G.1
      refine gz_s 1 (pc' := 5) (L' := [some (.ref x), some (.int (zi v)), some (.int (zi n)), some (.int (zi i))]) (S' := [.int (zi i)]) rfl ?_
      by_cases hc5 : (i : Int) < 0
      · refine gy_ifT (pc' := 82) rfl (by decide) (by decide) (by omega) hc5 ?_
        have hk6 : eeN v (Int.toNat n) sg = eeK v n.toNat sg (n - 1 - i).toNat := by unfold eeN; rw [(by omega : (n - 1 - i).toNat = n.toNat)]
        have hk6_1 : (eeN v (Int.toNat n) sg).1 = (eeK v n.toNat sg (n - 1 - i).toNat).1 := by rw [hk6]
        have hk6_21 : (eeN v (Int.toNat n) sg).2.1 = (eeK v n.toNat sg (n - 1 - i).toNat).2.1 := by rw [hk6]
        have hk6_221 : (eeN v (Int.toNat n) sg).2.2.1 = (eeK v n.toNat sg (n - 1 - i).toNat).2.2.1 := by rw [hk6]
        have hsw7 : gSW ty4 bv (eeN v (Int.toNat n) sg) h3 := by rw [hk6]; exact lp1k4
        have hokN := (eeOk.N (v := v) (n := n.toNat) lp1k3).cur
        have hl8 : 1024 ≤ h3.2.2.2.1 bv ∧ h3.2.2.2.1 bv ≤ 1000000 := gJ.rowl (G := gGG) sh3.1 lp1r1 rfl
        have G9 : gSg [114] [] [56000, 56001, 56002, 56003, 114999] ty h ty4 h3 := gSg.ss lp1G sh3 (by decide)
        exact gz_end (I := .return_) (len := 1) rfl (Or.inl rfl) ⟨ty4, G9, bv, trivial, cv, uv, hv, lp1r0, lp1r1, rfl, lp1k0, (by omega), (by omega), lp1k1, (by omega), (by omega), lp1k2, (by omega), (by omega), (by omega), (by omega), (by omega), (by omega), (by omega), (by dsimp only; omega), (by dsimp only; omega), (by dsimp only; omega), (by dsimp only; omega), hsw7, (eeOk.N lp1k3)⟩
      · refine gy_ifF rfl (by decide) (by decide) (by omega) hc5 ?_
        have hok10 : eeOk (eeK v n.toNat sg (n - 1 - i).toNat) := eeOk.K lp1k3 _
        refine gz_s 3 (pc' := 11) (L' := [some (.ref x), some (.int (zi v)), some (.int (zi n)), some (.int (zi i))]) (S' := [.ref x, .int (zi 2), .ref x]) rfl ?_
        refine gs_gtk rfl (by decide) rfl sh3.1 lp1c0 rfl rfl lp1k1 ?_
        refine gy_s 3 (pc' := 17) (L' := [some (.ref x), some (.int (zi v)), some (.int (zi n)), some (.int (zi i))]) (S' := [.int (zi i), .int (zi v), .int ((zi 2) * (zi uv)), .ref x]) (L2 := [some (.ref x), some (.int (zi v)), some (.int (zi n)), some (.int (zi i))]) (S2 := [.int (zi i), .int (zi v), .int (zi (2 * uv)), .ref x]) rfl (by simp only [zi_add, zi_sub, zi_mul, zi_neg, zi_and1, zi_and7, zi_and15, zi_and31, zi_and255]) (by simp only [zi_add, zi_sub, zi_mul, zi_neg, zi_and1, zi_and7, zi_and15, zi_and31, zi_and255]) ?_
        refine gy_shr rfl (by decide) (by omega) (by omega) ?_
        have hx11 := zsh_c (a := v) (n := i)
        refine gy_s 3 (pc' := 21) (L' := [some (.ref x), some (.int (zi v)), some (.int (zi n)), some (.int (zi i))]) (S' := [.int ((zi (2 * uv)) + ((zi (v / 2 ^ (i).toNat)) &&& (zi 1))), .ref x]) (L2 := [some (.ref x), some (.int (zi v)), some (.int (zi n)), some (.int (zi i))]) (S2 := [.int (zi ((2 * uv) + ((v / 2 ^ (i).toNat) % 2))), .ref x]) rfl (by simp only [zi_add, zi_sub, zi_mul, zi_neg, zi_and1, zi_and7, zi_and15, zi_and31, zi_and255]) (by simp only [zi_add, zi_sub, zi_mul, zi_neg, zi_and1, zi_and7, zi_and15, zi_and31, zi_and255]) ?_
        refine gs_put rfl (by decide) rfl sh3 lp1c0 rfl rfl rfl rfl (Or.inl rfl) (by decide) (by omega) (by omega) (fun h12 sh12 eh12 fh12 => ?_)
        have pr13 := gSW.pt fh12 lp1c0 (by decide) lp1k4
        have s14 := (fh12 x 1 (fun q => absurd q.2 (by decide))).trans lp1k0
        have s15 := (fh12 x 3 (fun q => absurd q.2 (by decide))).trans lp1k2
        have s16 := (fh12 x 0 (fun q => absurd q.2 (by decide))).trans lp1r0
        refine gz_s 2 (pc' := 26) (L' := [some (.ref x), some (.int (zi v)), some (.int (zi n)), some (.int (zi i))]) (S' := [.ref x, .ref x]) rfl ?_
        refine gs_gtk rfl (by decide) rfl sh12.1 lp1c0 rfl rfl s15 ?_
        refine gy_s 2 (pc' := 31) (L' := [some (.ref x), some (.int (zi v)), some (.int (zi n)), some (.int (zi i))]) (S' := [.int ((zi hv) + (zi 1)), .ref x]) (L2 := [some (.ref x), some (.int (zi v)), some (.int (zi n)), some (.int (zi i))]) (S2 := [.int (zi (hv + 1)), .ref x]) rfl (by simp only [zi_add, zi_sub, zi_mul, zi_neg, zi_and1, zi_and7, zi_and15, zi_and31, zi_and255]) (by simp only [zi_add, zi_sub, zi_mul, zi_neg, zi_and1, zi_and7, zi_and15, zi_and31, zi_and255]) ?_
        refine gs_put rfl (by decide) rfl sh12 lp1c0 rfl rfl rfl rfl (Or.inl rfl) (by decide) (by omega) (by omega) (fun h17 sh17 eh17 fh17 => ?_)
        have pr18 := gSW.pt fh17 lp1c0 (by decide) pr13
        have s19 := (fh17 x 1 (fun q => absurd q.2 (by decide))).trans s14
        have s20 := (fh17 x 0 (fun q => absurd q.2 (by decide))).trans s16
        have s21 := (fh17 x 2 (fun q => absurd q.2 (by decide))).trans eh12
        refine gz_s 1 (pc' := 35) (L' := [some (.ref x), some (.int (zi v)), some (.int (zi n)), some (.int (zi i))]) (S' := [.ref x]) rfl ?_
        refine gs_gtk rfl (by decide) rfl sh17.1 lp1c0 rfl rfl eh17 ?_
        refine gz_s 1 (pc' := 40) (L' := [some (.ref x), some (.int (zi v)), some (.int (zi n)), some (.int (zi i))]) (S' := [.int (zi 8), .int (zi (hv + 1))]) rfl ?_
        by_cases hc22 : ¬ (hv + 1 : Int) = 8
        · refine gy_icT (pc' := 76) rfl (by decide) (by decide) (by omega) (by omega) hc22 ?_
          have hk23 : eeK v n.toNat sg (n - 1 - (i + (-1))).toNat = eeb (eeK v n.toNat sg (n - 1 - i).toNat) (v / 2 ^ (i).toNat % 2) := by
            rw [(by omega : (n - 1 - (i + (-1))).toNat = (n - 1 - i).toNat + 1)]
            show eeb (eeK v n.toNat sg (n - 1 - i).toNat) (v / 2 ^ (n.toNat - 1 - (n - 1 - i).toNat) % 2) = _
            rw [(by omega : n.toNat - 1 - (n - 1 - i).toNat = (i).toNat)]
          obtain ⟨hk23a, hk23b, hk23c, hk23d⟩ := eeb_A (s := eeK v n.toNat sg (n - 1 - i).toNat) (b := v / 2 ^ (i).toNat % 2) (by omega)
          have hk23_1 : (eeK v n.toNat sg (n - 1 - (i + (-1))).toNat).1 = (eeb (eeK v n.toNat sg (n - 1 - i).toNat) (v / 2 ^ (i).toNat % 2)).1 := by rw [hk23]
          have hk23_21 : (eeK v n.toNat sg (n - 1 - (i + (-1))).toNat).2.1 = (eeb (eeK v n.toNat sg (n - 1 - i).toNat) (v / 2 ^ (i).toNat % 2)).2.1 := by rw [hk23]
          have hk23_221 : (eeK v n.toNat sg (n - 1 - (i + (-1))).toNat).2.2.1 = (eeb (eeK v n.toNat sg (n - 1 - i).toNat) (v / 2 ^ (i).toNat % 2)).2.2.1 := by rw [hk23]
          have hk23ok := (eeOk.K (v := v) (n := n.toNat) lp1k3 (n - 1 - (i + (-1))).toNat).cur
          have hsw24 : gSW ty4 bv (eeK v n.toNat sg (n - 1 - (i + (-1))).toNat) h17 := by
            rw [hk23]
            exact gSW.eq (by omega) hk23d.symm pr18
          refine gy_s 2 (pc' := 4) (L' := [some (.ref x), some (.int (zi v)), some (.int (zi n)), some (.int ((zi i) + zi (-1)))]) (S' := []) (L2 := [some (.ref x), some (.int (zi v)), some (.int (zi n)), some (.int (zi (i + (-1))))]) (S2 := []) rfl (by simp only [zi_add, zi_sub, zi_mul, zi_neg, zi_and1, zi_and7, zi_and15, zi_and31, zi_and255]) (by simp only [zi_add, zi_sub, zi_mul, zi_neg, zi_and1, zi_and7, zi_and15, zi_and31, zi_and255]) ?_
          have k25 := sh17.2.1
          have k25b := sh17.2.2.1
          have hl26 : h17.2.2.2.1 bv = h3.2.2.2.1 bv := congrFun sh17.2.2.2.2.1 bv
          have hl27 : 1024 ≤ h17.2.2.2.1 bv ∧ h17.2.2.2.1 bv ≤ 1000000 := gJ.rowl (G := gGG) sh17.1 lp1r1 rfl
          have G28 : gSg [114] [] [56000, 56001, 56002, 56003, 114999] ty h ty4 h17 := gSg.ss lp1G sh17 (by decide)
          exact gz_wk (ihlp1 ty4 h17 bv (i + (-1)) cv ((2 * uv) + ((v / 2 ^ (i).toNat) % 2)) (hv + 1) (gms lp1m (by omega) (by omega)) G28 lp1u lp1c0 s20 lp1r1 ⟨by omega, by omega⟩ ⟨by omega, by omega⟩ ⟨by omega, by omega⟩ ⟨by omega, by omega⟩ (by omega) (by omega) (by omega) (by omega) (by omega) (by omega) (by omega) (by omega) (by omega) (by omega) s19 s21 eh17 lp1k3 hsw24) (gLw.s (gLw.s (gLw.s (gLw.s gLw.z))))
        · refine gy_icF rfl (by decide) (by decide) (by omega) (by omega) hc22 ?_
          refine gz_s 2 (pc' := 45) (L' := [some (.ref x), some (.int (zi v)), some (.int (zi n)), some (.int (zi i))]) (S' := [.ref x, .ref x]) rfl ?_
          refine gs_gtk rfl (by decide) rfl sh17.1 lp1c0 rfl rfl s21 ?_
          have k29 := sh17.2.1
          have k29b := sh17.2.2.1
          have hl30 : h17.2.2.2.1 bv = h3.2.2.2.1 bv := congrFun sh17.2.2.2.2.1 bv
          have hl31 : h17.2.2.2.1 bv = h3.2.2.2.1 bv := congrFun sh17.2.2.2.2.1 bv
          refine gz_call rfl (by decide) rfl (by decide) (by decide) (gcal_of rfl rfl rfl (Nat.le_of_ble_eq_true rfl) (gJ.recv (G := gGG) sh17.1 lp1c0 rfl rfl)) (cw_putByte _ sh17.1 x lp1c0 ((2 * uv) + ((v / 2 ^ (i).toNat) % 2)) ⟨by omega, by omega⟩ bv s20 lp1r1 cv s19 ⟨by omega, by omega⟩ (eeK v n.toNat sg (n - 1 - i).toNat) (by omega) (by omega) lp1u pr18 hok10) (fun q32 _ wq32 => ?_)
          obtain ⟨pq32, oq32, hq32⟩ := q32
          obtain ⟨tyq32, xq32, cq32_0, ttq32, fq32_0, ecq32_0, tcq32_0, gq32, efq32_0, afq32_0, bfq32_0, uq32_0, uq32_1, uq32_2, uq32_3, uq32_4, uq32_5, uq32_6, uq32_7, yq32_0, yq32_1⟩ := wq32
          dsimp only at uq32_4 uq32_5 uq32_6 uq32_7
          refine ⟨_, gq32, ?_⟩
          show gz gPP gGG gcn _ _ 51 [some (.ref x), some (.int (zi v)), some (.int (zi n)), some (.int (zi i))] [] hq32 _
          have G33 : gSg [114] [] [56000, 56001, 56002, 56003, 114999] ty h tyq32 hq32 := gSg.tr (gSg.ss lp1G sh17 (by decide)) xq32 (by decide) (by decide) (fun x hx => by cases hx)
          have t34 : tyq32 x = 56 := gSg.typ xq32 sh17.1 lp1c0 rfl
          have t35 : tyq32 bv = 114 := gSg.typ xq32 sh17.1 lp1r1 rfl
          have hl36 : hq32.2.2.2.1 bv = h17.2.2.2.1 bv := gSg.len xq32 sh17.1 lp1r1 rfl
          have s37 := gSg.at xq32 sh17.1 lp1c0 rfl (by decide) s21
          have s38 := gSg.at xq32 sh17.1 lp1c0 rfl (by decide) eh17
          have uq39 := gSg.uq xq32 lp1u (by decide)
          have sS40 : gSs rT 1027 tyq32 [56000, 56001, 56002, 56003, 114999] hq32 hq32 := gSs.rf xq32.1
          refine gz_s 1 (pc' := 52) (L' := [some (.ref x), some (.int (zi v)), some (.int (zi n)), some (.int (zi i))]) (S' := [.ref x]) rfl ?_
          refine gs_gtk rfl (by decide) rfl sS40.1 t34 rfl rfl s37 ?_
          refine gz_s 1 (pc' := 58) (L' := [some (.ref x), some (.int (zi v)), some (.int (zi n)), some (.int (zi i))]) (S' := [.int (zi 255), .int (zi ((2 * uv) + ((v / 2 ^ (i).toNat) % 2)))]) rfl ?_
          by_cases hc41 : ¬ ((2 * uv) + ((v / 2 ^ (i).toNat) % 2) : Int) = 255
          · refine gy_icT (pc' := 66) rfl (by decide) (by decide) (by omega) (by omega) hc41 ?_
            refine gz_s 2 (pc' := 68) (L' := [some (.ref x), some (.int (zi v)), some (.int (zi n)), some (.int (zi i))]) (S' := [.int (zi 0), .ref x]) rfl ?_
            refine gs_put rfl (by decide) rfl sS40 t34 rfl rfl rfl rfl (Or.inl rfl) (by decide) (by omega) (by omega) (fun h42 sh42 eh42 fh42 => ?_)
            have pr43 := gSW.pt fh42 t34 (by decide) yq32_0
            have s44 := (fh42 x 3 (fun q => absurd q.2 (by decide))).trans s38
            have s45 := (fh42 x 0 (fun q => absurd q.2 (by decide))).trans ecq32_0
            have s46 := (fh42 x 1 (fun q => absurd q.2 (by decide))).trans efq32_0
            refine gz_s 2 (pc' := 73) (L' := [some (.ref x), some (.int (zi v)), some (.int (zi n)), some (.int (zi i))]) (S' := [.int (zi 0), .ref x]) rfl ?_
            refine gs_put rfl (by decide) rfl sh42 t34 rfl rfl rfl rfl (Or.inl rfl) (by decide) (by omega) (by omega) (fun h47 sh47 eh47 fh47 => ?_)
            have pr48 := gSW.pt fh47 t34 (by decide) pr43
            have s49 := (fh47 x 0 (fun q => absurd q.2 (by decide))).trans s45
            have s50 := (fh47 x 1 (fun q => absurd q.2 (by decide))).trans s46
            have s51 := (fh47 x 2 (fun q => absurd q.2 (by decide))).trans eh42
            have hk52 : eeK v n.toNat sg (n - 1 - (i + (-1))).toNat = eeb (eeK v n.toNat sg (n - 1 - i).toNat) (v / 2 ^ (i).toNat % 2) := by
              rw [(by omega : (n - 1 - (i + (-1))).toNat = (n - 1 - i).toNat + 1)]
              show eeb (eeK v n.toNat sg (n - 1 - i).toNat) (v / 2 ^ (n.toNat - 1 - (n - 1 - i).toNat) % 2) = _
              rw [(by omega : n.toNat - 1 - (n - 1 - i).toNat = (i).toNat)]
            obtain ⟨hk52a, hk52b, hk52c, hk52d⟩ := eeb_B (s := eeK v n.toNat sg (n - 1 - i).toNat) (b := v / 2 ^ (i).toNat % 2) (w := ((2 * uv) + ((v / 2 ^ (i).toNat) % 2))) (by omega) (by omega) (by omega)
            have hk52_1 : (eeK v n.toNat sg (n - 1 - (i + (-1))).toNat).1 = (eeb (eeK v n.toNat sg (n - 1 - i).toNat) (v / 2 ^ (i).toNat % 2)).1 := by rw [hk52]
            have hk52_21 : (eeK v n.toNat sg (n - 1 - (i + (-1))).toNat).2.1 = (eeb (eeK v n.toNat sg (n - 1 - i).toNat) (v / 2 ^ (i).toNat % 2)).2.1 := by rw [hk52]
            have hk52_221 : (eeK v n.toNat sg (n - 1 - (i + (-1))).toNat).2.2.1 = (eeb (eeK v n.toNat sg (n - 1 - i).toNat) (v / 2 ^ (i).toNat % 2)).2.2.1 := by rw [hk52]
            have hk52ok := (eeOk.K (v := v) (n := n.toNat) lp1k3 (n - 1 - (i + (-1))).toNat).cur
            have hsw53 : gSW tyq32 cq32_0 (eeK v n.toNat sg (n - 1 - (i + (-1))).toNat) h47 := by
              rw [hk52]
              exact gSW.eq (by omega) hk52d.symm pr48
            refine gy_s 2 (pc' := 4) (L' := [some (.ref x), some (.int (zi v)), some (.int (zi n)), some (.int ((zi i) + zi (-1)))]) (S' := []) (L2 := [some (.ref x), some (.int (zi v)), some (.int (zi n)), some (.int (zi (i + (-1))))]) (S2 := []) rfl (by simp only [zi_add, zi_sub, zi_mul, zi_neg, zi_and1, zi_and7, zi_and15, zi_and31, zi_and255]) (by simp only [zi_add, zi_sub, zi_mul, zi_neg, zi_and1, zi_and7, zi_and15, zi_and31, zi_and255]) ?_
            have k54 := sh47.2.1
            have k54b := sh47.2.2.1
            have hl55 : h47.2.2.2.1 bv = hq32.2.2.2.1 bv := congrFun sh47.2.2.2.2.1 bv
            have hl56 : h47.2.2.2.1 cq32_0 = hq32.2.2.2.1 cq32_0 := congrFun sh47.2.2.2.2.1 cq32_0
            have hl57 : 1024 ≤ h47.2.2.2.1 bv ∧ h47.2.2.2.1 bv ≤ 1000000 := gJ.rowl (G := gGG) sh47.1 t35 rfl
            have hl58 : 1024 ≤ h47.2.2.2.1 cq32_0 ∧ h47.2.2.2.1 cq32_0 ≤ 1000000 := gJ.rowl (G := gGG) sh47.1 tcq32_0 rfl
            have G59 : gSg [114] [] [56000, 56001, 56002, 56003, 114999] ty h tyq32 h47 := gSg.ss G33 sh47 (by decide)
            exact gz_wk (ihlp1 tyq32 h47 cq32_0 (i + (-1)) fq32_0 0 0 (gms lp1m (by omega) (by omega)) G59 uq39 t34 s49 tcq32_0 ⟨by omega, by omega⟩ ⟨by omega, by omega⟩ ⟨by omega, by omega⟩ ⟨by omega, by omega⟩ (by omega) (by omega) (by omega) (by omega) (by omega) (by omega) (by omega) (by omega) (by omega) (by omega) s50 s51 eh47 lp1k3 hsw53) (gLw.s (gLw.s (gLw.s (gLw.s gLw.z))))
          · refine gy_icF rfl (by decide) (by decide) (by omega) (by omega) hc41 ?_
            refine gz_s 2 (pc' := 63) (L' := [some (.ref x), some (.int (zi v)), some (.int (zi n)), some (.int (zi i))]) (S' := [.int (zi 0), .ref x]) rfl ?_
            have hl60 : hq32.2.2.2.1 cq32_0 = hq32.2.2.2.1 cq32_0 := congrFun sS40.2.2.2.2.1 cq32_0
            refine gz_call rfl (by decide) rfl (by decide) (by decide) (gcal_of rfl rfl rfl (Nat.le_of_ble_eq_true rfl) (gJ.recv (G := gGG) sS40.1 t34 rfl rfl)) (cw_putByte _ sS40.1 x t34 0 ⟨by omega, by omega⟩ cq32_0 ecq32_0 tcq32_0 fq32_0 efq32_0 ⟨by omega, by omega⟩ (eeB (eeK v n.toNat sg (n - 1 - i).toNat) ((2 * uv) + ((v / 2 ^ (i).toNat) % 2))) (by omega) (by omega) uq39 yq32_0 yq32_1) (fun q61 _ wq61 => ?_)
            obtain ⟨pq61, oq61, hq61⟩ := q61
            obtain ⟨tyq61, xq61, cq61_0, ttq61, fq61_0, ecq61_0, tcq61_0, gq61, efq61_0, afq61_0, bfq61_0, uq61_0, uq61_1, uq61_2, uq61_3, uq61_4, uq61_5, uq61_6, uq61_7, yq61_0, yq61_1⟩ := wq61
            dsimp only at uq61_4 uq61_5 uq61_6 uq61_7
            refine ⟨_, gq61, ?_⟩
            show gz gPP gGG gcn _ _ 66 [some (.ref x), some (.int (zi v)), some (.int (zi n)), some (.int (zi i))] [] hq61 _
            have G62 : gSg [114] [] [56000, 56001, 56002, 56003, 114999] ty h tyq61 hq61 := gSg.tr (gSg.ss G33 sS40 (by decide)) xq61 (by decide) (by decide) (fun x hx => by cases hx)
            have t63 : tyq61 x = 56 := gSg.typ xq61 sS40.1 t34 rfl
            have t64 : tyq61 bv = 114 := gSg.typ xq61 sS40.1 t35 rfl
            have hl65 : hq61.2.2.2.1 bv = hq32.2.2.2.1 bv := gSg.len xq61 sS40.1 t35 rfl
            have t66 : tyq61 cq32_0 = 114 := gSg.typ xq61 sS40.1 tcq32_0 rfl
            have hl67 : hq61.2.2.2.1 cq32_0 = hq32.2.2.2.1 cq32_0 := gSg.len xq61 sS40.1 tcq32_0 rfl
            have s68 := gSg.at xq61 sS40.1 t34 rfl (by decide) s37
            have s69 := gSg.at xq61 sS40.1 t34 rfl (by decide) s38
            have uq70 := gSg.uq xq61 uq39 (by decide)
            have sS71 : gSs rT 1027 tyq61 [56000, 56001, 56002, 56003, 114999] hq61 hq61 := gSs.rf xq61.1
            refine gz_s 2 (pc' := 68) (L' := [some (.ref x), some (.int (zi v)), some (.int (zi n)), some (.int (zi i))]) (S' := [.int (zi 0), .ref x]) rfl ?_
            refine gs_put rfl (by decide) rfl sS71 t63 rfl rfl rfl rfl (Or.inl rfl) (by decide) (by omega) (by omega) (fun h72 sh72 eh72 fh72 => ?_)
            have pr73 := gSW.pt fh72 t63 (by decide) yq61_0
            have s74 := (fh72 x 3 (fun q => absurd q.2 (by decide))).trans s69
            have s75 := (fh72 x 0 (fun q => absurd q.2 (by decide))).trans ecq61_0
            have s76 := (fh72 x 1 (fun q => absurd q.2 (by decide))).trans efq61_0
            refine gz_s 2 (pc' := 73) (L' := [some (.ref x), some (.int (zi v)), some (.int (zi n)), some (.int (zi i))]) (S' := [.int (zi 0), .ref x]) rfl ?_
            refine gs_put rfl (by decide) rfl sh72 t63 rfl rfl rfl rfl (Or.inl rfl) (by decide) (by omega) (by omega) (fun h77 sh77 eh77 fh77 => ?_)
            have pr78 := gSW.pt fh77 t63 (by decide) pr73
            have s79 := (fh77 x 0 (fun q => absurd q.2 (by decide))).trans s75
            have s80 := (fh77 x 1 (fun q => absurd q.2 (by decide))).trans s76
            have s81 := (fh77 x 2 (fun q => absurd q.2 (by decide))).trans eh72
            have hk82 : eeK v n.toNat sg (n - 1 - (i + (-1))).toNat = eeb (eeK v n.toNat sg (n - 1 - i).toNat) (v / 2 ^ (i).toNat % 2) := by
              rw [(by omega : (n - 1 - (i + (-1))).toNat = (n - 1 - i).toNat + 1)]
              show eeb (eeK v n.toNat sg (n - 1 - i).toNat) (v / 2 ^ (n.toNat - 1 - (n - 1 - i).toNat) % 2) = _
              rw [(by omega : n.toNat - 1 - (n - 1 - i).toNat = (i).toNat)]
            obtain ⟨hk82a, hk82b, hk82c, hk82d⟩ := eeb_C (s := eeK v n.toNat sg (n - 1 - i).toNat) (b := v / 2 ^ (i).toNat % 2) (w := ((2 * uv) + ((v / 2 ^ (i).toNat) % 2))) (by omega) (by omega) (by omega)
            have hk82_1 : (eeK v n.toNat sg (n - 1 - (i + (-1))).toNat).1 = (eeb (eeK v n.toNat sg (n - 1 - i).toNat) (v / 2 ^ (i).toNat % 2)).1 := by rw [hk82]
            have hk82_21 : (eeK v n.toNat sg (n - 1 - (i + (-1))).toNat).2.1 = (eeb (eeK v n.toNat sg (n - 1 - i).toNat) (v / 2 ^ (i).toNat % 2)).2.1 := by rw [hk82]
            have hk82_221 : (eeK v n.toNat sg (n - 1 - (i + (-1))).toNat).2.2.1 = (eeb (eeK v n.toNat sg (n - 1 - i).toNat) (v / 2 ^ (i).toNat % 2)).2.2.1 := by rw [hk82]
            have hk82ok := (eeOk.K (v := v) (n := n.toNat) lp1k3 (n - 1 - (i + (-1))).toNat).cur
            have hsw83 : gSW tyq61 cq61_0 (eeK v n.toNat sg (n - 1 - (i + (-1))).toNat) h77 := by
              rw [hk82]
              exact gSW.eq (by omega) hk82d.symm pr78
            refine gy_s 2 (pc' := 4) (L' := [some (.ref x), some (.int (zi v)), some (.int (zi n)), some (.int ((zi i) + zi (-1)))]) (S' := []) (L2 := [some (.ref x), some (.int (zi v)), some (.int (zi n)), some (.int (zi (i + (-1))))]) (S2 := []) rfl (by simp only [zi_add, zi_sub, zi_mul, zi_neg, zi_and1, zi_and7, zi_and15, zi_and31, zi_and255]) (by simp only [zi_add, zi_sub, zi_mul, zi_neg, zi_and1, zi_and7, zi_and15, zi_and31, zi_and255]) ?_
            have k84 := sh77.2.1
            have k84b := sh77.2.2.1
            have hl85 : h77.2.2.2.1 bv = hq61.2.2.2.1 bv := congrFun sh77.2.2.2.2.1 bv
            have hl86 : h77.2.2.2.1 cq32_0 = hq61.2.2.2.1 cq32_0 := congrFun sh77.2.2.2.2.1 cq32_0
            have hl87 : h77.2.2.2.1 cq61_0 = hq61.2.2.2.1 cq61_0 := congrFun sh77.2.2.2.2.1 cq61_0
            have hl88 : 1024 ≤ h77.2.2.2.1 bv ∧ h77.2.2.2.1 bv ≤ 1000000 := gJ.rowl (G := gGG) sh77.1 t64 rfl
            have hl89 : 1024 ≤ h77.2.2.2.1 cq32_0 ∧ h77.2.2.2.1 cq32_0 ≤ 1000000 := gJ.rowl (G := gGG) sh77.1 t66 rfl
            have hl90 : 1024 ≤ h77.2.2.2.1 cq61_0 ∧ h77.2.2.2.1 cq61_0 ≤ 1000000 := gJ.rowl (G := gGG) sh77.1 tcq61_0 rfl
            have G91 : gSg [114] [] [56000, 56001, 56002, 56003, 114999] ty h tyq61 h77 := gSg.ss G62 sh77 (by decide)
            exact gz_wk (ihlp1 tyq61 h77 cq61_0 (i + (-1)) fq61_0 0 0 (gms lp1m (by omega) (by omega)) G91 uq70 t63 s79 tcq61_0 ⟨by omega, by omega⟩ ⟨by omega, by omega⟩ ⟨by omega, by omega⟩ ⟨by omega, by omega⟩ (by omega) (by omega) (by omega) (by omega) (by omega) (by omega) (by omega) (by omega) (by omega) (by omega) s80 s81 eh77 lp1k3 hsw83) (gLw.s (gLw.s (gLw.s (gLw.s gLw.z))))
  have hl92 : 1024 ≤ h.2.2.2.1 bt ∧ h.2.2.2.1 bt ≤ 1000000 := gJ.rowl (G := gGG) hS.1 tbt rfl
  have G93 : gSg [114] [] [56000, 56001, 56002, 56003, 114999] ty h ty h := gSg.ss G0 hS (by decide)
  exact gz_wk (lp1 _ ty h bt (n - 1) c0 u0 h0 (Nat.lt_succ_self _) G93 uq tx ebt tbt ⟨by omega, by omega⟩ ⟨by omega, by omega⟩ ⟨by omega, by omega⟩ ⟨by omega, by omega⟩ (by omega) (by omega) (by omega) (by omega) (by omega) (by omega) (by omega) (by omega) (by omega) (by omega) ec0 eu0 eh0 hyok hsw2) (gLw.s (gLw.s (gLw.s (gLw.s gLw.z))))
set_option maxRecDepth 20000 in
set_option maxHeartbeats 4000000 in
theorem cw_fillByte (d : Nat) {ty : Nat → Nat} {h : gH} (hJ : gJ rT 1027 ty h) (x : Nat) (tx : ty x = 56) (bt : Nat) (ebt : h.2.2.2.2 x 0 = .ref bt) (tbt : ty bt = 114) (c0 : Int) (ec0 : h.2.2.2.2 x 1 = .int (zi c0)) (rc0 : 0 ≤ c0 ∧ c0 ≤ 499999) (u0 : Int) (eu0 : h.2.2.2.2 x 2 = .int (zi u0)) (ru0 : 0 ≤ u0 ∧ u0 ≤ 127) (h0 : Int) (eh0 : h.2.2.2.2 x 3 = .int (zi h0)) (rh0 : 0 ≤ h0 ∧ h0 ≤ 7) (sg : gWt) (pp0 : c0 = sg.1) (pp1 : u0 = sg.2.1) (pp2 : h0 = sg.2.2.1) (pp3 : 4 * c0 + 8 ≤ 1999990) (pp4 : c0 ≤ (h.2.2.2.1 bt : Int)) (uq : gUq ty) (hysw : gSW ty bt sg h) (hyok : eeOk sg) : gz gPP gGG gcn (d + 4) gt108 0 (gent [.ref x] 1) [] h (fun q _ => ∃ ty9 : Nat → Nat, gSg [114] [] [56000, 56001, 56002, 56003, 114999] ty h ty9 q.2.2 ∧ ∃ bt2 : Nat, True ∧ ∃ c1 u1 h1 : Int, q.2.2.2.2.2.2 x 0 = .ref bt2 ∧ ty9 bt2 = 114 ∧ gfin gt108 q.1 q.2.1 = some none ∧ q.2.2.2.2.2.2 x 1 = .int (zi c1) ∧ 0 ≤ c1 ∧ c1 ≤ 500000 ∧ q.2.2.2.2.2.2 x 2 = .int (zi u1) ∧ 0 ≤ u1 ∧ u1 ≤ 127 ∧ q.2.2.2.2.2.2 x 3 = .int (zi h1) ∧ 0 ≤ h1 ∧ h1 ≤ 7 ∧ (4 * c1 + h1 ≤ 4 * c0 + h0 + 8) ∧ (c0 ≤ c1) ∧ (c1 = (eeF sg).1) ∧ (u1 = (eeF sg).2.1) ∧ (h1 = (eeF sg).2.2.1) ∧ (1024 * ((q.2.2.1 : Int) - h.1) ≤ (q.2.2.2.2.2.1 bt2 : Int) - h.2.2.2.1 bt) ∧ (((q.2.2.2.1 : Int) - h.2.1) ≤ 2 * ((q.2.2.2.2.2.1 bt2 : Int) - h.2.2.2.1 bt)) ∧ ((h.2.2.2.1 bt : Int) ≤ (q.2.2.2.2.2.1 bt2 : Int)) ∧ (c1 ≤ (q.2.2.2.2.2.1 bt2 : Int)) ∧ (gSW ty9 bt2 (eeF sg) q.2.2) ∧ (eeOk (eeF sg))) := by
  have hS : gSs rT 1027 ty [56000, 56001, 56002, 56003, 114999] h h := gSs.rf hJ
  have G0 : gSg [114] [] [56000, 56001, 56002, 56003, 114999] ty h ty h := gSg.rf hJ (fun x hx => by cases hx)
  refine gz_s 1 (pc' := 1) (L' := [some (.ref x)]) (S' := [.ref x]) rfl ?_
  refine gs_gtk rfl (by decide) rfl hS.1 tx rfl rfl eh0 ?_
  by_cases hc1 : (h0 : Int) ≤ 0
  · refine gy_ifT (pc' := 21) rfl (by decide) (by decide) (by omega) hc1 ?_
    have hk2 : eeF sg = sg := eeF_n (by omega)
    have hk2_1 : (eeF sg).1 = (sg).1 := by rw [hk2]
    have hk2_21 : (eeF sg).2.1 = (sg).2.1 := by rw [hk2]
    have hk2_221 : (eeF sg).2.2.1 = (sg).2.2.1 := by rw [hk2]
    have hsw3 : gSW ty bt (eeF sg) h := by rw [hk2]; exact hysw
    have hok4 : eeOk (eeF sg) := by rw [hk2]; exact hyok
    have hokN := hok4.cur
    have hl5 : 1024 ≤ h.2.2.2.1 bt ∧ h.2.2.2.1 bt ≤ 1000000 := gJ.rowl (G := gGG) hS.1 tbt rfl
    have G6 : gSg [114] [] [56000, 56001, 56002, 56003, 114999] ty h ty h := gSg.ss G0 hS (by decide)
    exact gz_end (I := .return_) (len := 1) rfl (Or.inl rfl) ⟨ty, G6, bt, trivial, c0, u0, h0, ebt, tbt, rfl, ec0, (by omega), (by omega), eu0, (by omega), (by omega), eh0, (by omega), (by omega), (by omega), (by omega), (by omega), (by omega), (by omega), (by dsimp only; omega), (by dsimp only; omega), (by dsimp only; omega), (by dsimp only; omega), hsw3, hok4⟩
  · refine gy_ifF rfl (by decide) (by decide) (by omega) hc1 ?_
    refine gz_s 4 (pc' := 14) (L' := [some (.ref x)]) (S' := [.ref x, .int (zi 8), .int (zi 255), .ref x]) rfl ?_
    refine gs_gtk rfl (by decide) rfl hS.1 tx rfl rfl eh0 ?_
    refine gy_s 1 (pc' := 18) (L' := [some (.ref x)]) (S' := [.int ((zi 8) - (zi h0)), .int (zi 255), .ref x]) (L2 := [some (.ref x)]) (S2 := [.int (zi (8 - h0)), .int (zi 255), .ref x]) rfl (by simp only [zi_add, zi_sub, zi_mul, zi_neg, zi_and1, zi_and7, zi_and15, zi_and31, zi_and255]) (by simp only [zi_add, zi_sub, zi_mul, zi_neg, zi_and1, zi_and7, zi_and15, zi_and31, zi_and255]) ?_
    have hl7 : h.2.2.2.1 bt = h.2.2.2.1 bt := congrFun hS.2.2.2.2.1 bt
    refine gz_call rfl (by decide) rfl (by decide) (by decide) (gcal_of rfl rfl rfl (Nat.le_of_ble_eq_true rfl) (gJ.recv (G := gGG) hS.1 tx rfl rfl)) (cw_putBits _ hS.1 x tx 255 ⟨by omega, by omega⟩ (8 - h0) ⟨by omega, by omega⟩ bt ebt tbt c0 ec0 ⟨by omega, by omega⟩ u0 eu0 ⟨by omega, by omega⟩ h0 eh0 ⟨by omega, by omega⟩ sg (by omega) (by omega) (by omega) (by omega) (by omega) uq hysw hyok) (fun q8 _ wq8 => ?_)
    obtain ⟨pq8, oq8, hq8⟩ := q8
    obtain ⟨tyq8, xq8, cq8_0, ttq8, fq8_0, fq8_1, fq8_2, ecq8_0, tcq8_0, gq8, efq8_0, afq8_0, bfq8_0, efq8_1, afq8_1, bfq8_1, efq8_2, afq8_2, bfq8_2, uq8_0, uq8_1, uq8_2, uq8_3, uq8_4, uq8_5, uq8_6, uq8_7, uq8_8, yq8_0, yq8_1⟩ := wq8
    dsimp only at uq8_5 uq8_6 uq8_7 uq8_8
    refine ⟨_, gq8, ?_⟩
    show gz gPP gGG gcn _ _ 21 [some (.ref x)] [] hq8 _
    have G9 : gSg [114] [] [56000, 56001, 56002, 56003, 114999] ty h tyq8 hq8 := gSg.tr (gSg.ss G0 hS (by decide)) xq8 (by decide) (by decide) (fun x hx => by cases hx)
    have t10 : tyq8 x = 56 := gSg.typ xq8 hS.1 tx rfl
    have t11 : tyq8 bt = 114 := gSg.typ xq8 hS.1 tbt rfl
    have hl12 : hq8.2.2.2.1 bt = h.2.2.2.1 bt := gSg.len xq8 hS.1 tbt rfl
    have uq13 := gSg.uq xq8 uq (by decide)
    have sS14 : gSs rT 1027 tyq8 [56000, 56001, 56002, 56003, 114999] hq8 hq8 := gSs.rf xq8.1
    have hk15 : eeF sg = eeN 255 (Int.toNat (8 - h0)) sg := eeF_p (by omega) (by omega)
    have hk15_1 : (eeF sg).1 = (eeN 255 (Int.toNat (8 - h0)) sg).1 := by rw [hk15]
    have hk15_21 : (eeF sg).2.1 = (eeN 255 (Int.toNat (8 - h0)) sg).2.1 := by rw [hk15]
    have hk15_221 : (eeF sg).2.2.1 = (eeN 255 (Int.toNat (8 - h0)) sg).2.2.1 := by rw [hk15]
    have hsw16 : gSW tyq8 cq8_0 (eeF sg) hq8 := by rw [hk15]; exact yq8_0
    have hok17 : eeOk (eeF sg) := by rw [hk15]; exact yq8_1
    have hokN := hok17.cur
    have hl18 : 1024 ≤ hq8.2.2.2.1 bt ∧ hq8.2.2.2.1 bt ≤ 1000000 := gJ.rowl (G := gGG) sS14.1 t11 rfl
    have hl19 : 1024 ≤ hq8.2.2.2.1 cq8_0 ∧ hq8.2.2.2.1 cq8_0 ≤ 1000000 := gJ.rowl (G := gGG) sS14.1 tcq8_0 rfl
    have G20 : gSg [114] [] [56000, 56001, 56002, 56003, 114999] ty h tyq8 hq8 := gSg.ss G9 sS14 (by decide)
    exact gz_end (I := .return_) (len := 1) rfl (Or.inl rfl) ⟨tyq8, G20, cq8_0, trivial, fq8_0, fq8_1, fq8_2, ecq8_0, tcq8_0, rfl, efq8_0, (by omega), (by omega), efq8_1, (by omega), (by omega), efq8_2, (by omega), (by omega), (by omega), (by omega), (by omega), (by omega), (by omega), (by dsimp only; omega), (by dsimp only; omega), (by dsimp only; omega), (by dsimp only; omega), hsw16, hok17⟩
set_option maxRecDepth 20000 in
set_option maxHeartbeats 4000000 in
theorem cw_forget (d : Nat) {ty : Nat → Nat} {h : gH} (hJ : gJ rT 1027 ty h) (x : Nat) (tx : ty x = 56) (bt : Nat) (ebt : h.2.2.2.2 x 0 = .ref bt) (tbt : ty bt = 114) (uq : gUq ty) : gz gPP gGG gcn (d + 0) gt100 0 (gent [.ref x] 1) [] h (fun q _ => gSs rT 1027 ty [56001, 56002, 56003] h q.2.2 ∧ ∃ c1 u1 h1 : Int, gfin gt100 q.1 q.2.1 = some none ∧ q.2.2.2.2.2.2 x 1 = .int (zi c1) ∧ 0 ≤ c1 ∧ c1 ≤ 500000 ∧ q.2.2.2.2.2.2 x 2 = .int (zi u1) ∧ 0 ≤ u1 ∧ u1 ≤ 0 ∧ q.2.2.2.2.2.2 x 3 = .int (zi h1) ∧ 0 ≤ h1 ∧ h1 ≤ 0 ∧ (c1 = 0) ∧ (u1 = 0) ∧ (h1 = 0) ∧ (eeOk (0, 0, 0, fun _ => 0)) ∧ (gSW ty bt (0, 0, 0, fun _ => 0) q.2.2)) := by
  have hS : gSs rT 1027 ty [56001, 56002, 56003] h h := gSs.rf hJ
  refine gz_s 2 (pc' := 2) (L' := [some (.ref x)]) (S' := [.int (zi 0), .ref x]) rfl ?_
  refine gs_put rfl (by decide) rfl hS tx rfl rfl rfl rfl (Or.inl rfl) (by decide) (by omega) (by omega) (fun h1 sh1 eh1 fh1 => ?_)
  have s2 := (fh1 x 0 (fun q => absurd q.2 (by decide))).trans ebt
  refine gz_s 2 (pc' := 7) (L' := [some (.ref x)]) (S' := [.int (zi 0), .ref x]) rfl ?_
  refine gs_put rfl (by decide) rfl sh1 tx rfl rfl rfl rfl (Or.inl rfl) (by decide) (by omega) (by omega) (fun h3 sh3 eh3 fh3 => ?_)
  have s4 := (fh3 x 0 (fun q => absurd q.2 (by decide))).trans s2
  have s5 := (fh3 x 1 (fun q => absurd q.2 (by decide))).trans eh1
  refine gz_s 2 (pc' := 12) (L' := [some (.ref x)]) (S' := [.int (zi 0), .ref x]) rfl ?_
  refine gs_put rfl (by decide) rfl sh3 tx rfl rfl rfl rfl (Or.inl rfl) (by decide) (by omega) (by omega) (fun h6 sh6 eh6 fh6 => ?_)
  have s7 := (fh6 x 0 (fun q => absurd q.2 (by decide))).trans s4
  have s8 := (fh6 x 1 (fun q => absurd q.2 (by decide))).trans s5
  have s9 := (fh6 x 2 (fun q => absurd q.2 (by decide))).trans eh3
  exact gz_end (I := .return_) (len := 1) rfl (Or.inl rfl) ⟨sh6, 0, 0, 0, rfl, s8, (by omega), (by omega), s9, (by omega), (by omega), eh6, (by omega), (by omega), (by omega), (by omega), (by omega), eeOk_0, ⟨tbt, Int.le_refl 0, fun j hj => absurd hj (by show ¬ (j : Int) < 0; omega)⟩⟩
