/-! ===== methods of the landed text (by program) ===== -/
set_option maxRecDepth 20000 in
set_option maxHeartbeats 4000000 in
theorem cl_copyOf (d : Nat) {ty : Nat → Nat} {h : gH} (hJ : gJ rT 1027 ty h) (a : Nat) (ta : ty a = 114) (n : Int) (rn : 1024 ≤ n ∧ n ≤ 1000000) (pp0 : ¬ n = (h.2.2.2.1 a : Int)) : gz gPP gGG gcn (d + 1) gt65 0 (gent [.ref a, .int (zi n)] 3) [] h (fun q _ => ∃ ty9 : Nat → Nat, gSg [114] [] [114999] ty h ty9 q.2.2 ∧ ∃ a9 : Nat, gfin gt65 q.1 q.2.1 = some (some (.ref a9)) ∧ ty9 a9 = 114 ∧ ((q.2.2.2.2.2.1 a9 : Int) = n) ∧ ((q.2.2.1 : Int) = h.1 + 1) ∧ ((q.2.2.2.1 : Int) = h.2.1 + n)) := by
  have hS : gSs rT 1027 ty [114999] h h := gSs.rf hJ
  have G0 : gSg [114] [] [114999] ty h ty h := gSg.rf hJ (fun x hx => by cases hx)
  refine gz_s 2 (pc' := 2) (L' := [some (.ref a), some (.int (zi n)), none]) (S' := [.ref a, .int (zi n)]) rfl ?_
  refine gs_len rfl (by decide) hS.1 ta rfl rfl rfl (fun z1 ez1 az1 bz1 => ?_)
  have cz1 : 1024 ≤ z1 ∧ z1 ≤ 1000000 := ⟨az1, bz1⟩
  refine gy_icT (pc' := 14) rfl (by decide) (by decide) (by omega) (by omega) (by first | (simp [zc]; done) | (simp only [zc]; omega)) ?_
  refine gz_s 1 (pc' := 15) (L' := [some (.ref a), some (.int (zi n)), none]) (S' := [.int (zi n)]) rfl ?_
  refine gs_newr 114 rfl (by decide) rfl hS.1 (Nat.le_of_lt (Nat.lt_of_le_of_lt (gJ.cell hS.1 ta rfl).1 (gJ.cell hS.1 ta rfl).2.1)) (by omega) (by omega) rfl rfl (by show (1024 : Int) ≤ _; omega) (by show _ ≤ (1000000 : Int); omega) (fun _ _ => gos_i (by decide) (by decide)) (fun ty2 h3 c4 g5 tc4 lc4 nc4 mc4 ec4 dc4 uc4 => ?_)
  have gac4 : h.1 ≤ c4 := by have h8 := G0.2.1; have h9 := hS.2.1; omega
  have G6 : gSg [114] [] [114999] ty h ty2 h3 := gSg.tr (gSg.ss G0 hS (by decide)) g5 (by decide) (by decide) (fun x hx => by cases hx)
  have t7 : ty2 a = 114 := gSg.typ g5 hS.1 ta rfl
  have hl8 : h3.2.2.2.1 a = h.2.2.2.1 a := gSg.len g5 hS.1 ta rfl
  have sS9 : gSs rT 1027 ty2 [114999] h3 h3 := gSs.rf g5.1
  refine gz_s 6 (pc' := 23) (L' := [some (.ref a), some (.int (zi n)), some (.ref c4)]) (S' := [.ref a, .int (zi 0), .ref c4, .int (zi 0), .ref a]) rfl ?_
  refine gs_len rfl (by decide) sS9.1 t7 rfl rfl rfl (fun z10 ez10 az10 bz10 => ?_)
  have cz10 : 1024 ≤ z10 ∧ z10 ≤ 1000000 := ⟨az10, bz10⟩
  refine gz_s 1 (pc' := 25) (L' := [some (.ref a), some (.int (zi n)), some (.ref c4)]) (S' := [.int (zi n), .int (zi z10), .int (zi 0), .ref c4, .int (zi 0), .ref a]) rfl ?_
  refine gz_call rfl (by decide) rfl (by decide) (by decide) (gcal_of rfl rfl rfl (Nat.le_of_ble_eq_true rfl) rfl) (cl_Math_min _ sS9.1 z10 (by omega) n (by omega) ) (fun q11 _ wq11 => ?_)
  obtain ⟨pq11, oq11, hq11⟩ := q11
  obtain ⟨xq11, zq11, gq11, aq11, bq11, uq11_0, uq11_1, uq11_2⟩ := wq11
  refine ⟨_, gq11, ?_⟩
  show gz gPP gGG gcn _ _ 28 [some (.ref a), some (.int (zi n)), some (.ref c4)] [.int (zi zq11), .int (zi 0), .ref c4, .int (zi 0), .ref a] hq11 _
  have sq11 : gSs rT 1027 ty2 [114999] h3 hq11 := gSs.tr sS9 xq11 (by decide)
  have k13 := sq11.2.1
  have k13b := sq11.2.2.1
  have hl14 : hq11.2.2.2.1 a = h3.2.2.2.1 a := congrFun sq11.2.2.2.2.1 a
  have hl15 : hq11.2.2.2.1 c4 = h3.2.2.2.1 c4 := congrFun sq11.2.2.2.2.1 c4
  have hl16 : 1024 ≤ hq11.2.2.2.1 c4 ∧ hq11.2.2.2.1 c4 ≤ 1000000 := gJ.rowl (G := gGG) sq11.1 tc4 rfl
  have hl17 : 1024 ≤ hq11.2.2.2.1 a ∧ hq11.2.2.2.1 a ≤ 1000000 := gJ.rowl (G := gGG) sq11.1 t7 rfl
  refine gs_copy rfl (by decide) (by omega) rfl sq11 tc4 rfl rfl t7 rfl rfl (Or.inr ⟨rfl, rfl⟩) (by decide) (by decide) (fun _ => rfl) (fun _ => rfl) (by decide) (by decide) (by omega) (by omega) (by omega) (by omega) (by omega) (by decide) (fun _ => (by decide : (114999 : Nat) ∈ ([114999] : List Nat))) (fun h12 sh12 f9h12 => ?_)
  have fh12 : ∀ b j, ¬ (b = c4 ∧ True) → h12.2.2.2.2 b j = hq11.2.2.2.2 b j := fun b j hn => f9h12 b j (fun e => hn ⟨e, trivial⟩)
  refine gz_s 1 (pc' := 32) (L' := [some (.ref a), some (.int (zi n)), some (.ref c4)]) (S' := [.ref c4]) rfl ?_
  have k18 := sh12.2.1
  have k18b := sh12.2.2.1
  have hl19 : h12.2.2.2.1 a = h3.2.2.2.1 a := congrFun sh12.2.2.2.2.1 a
  have hl20 : h12.2.2.2.1 c4 = h3.2.2.2.1 c4 := congrFun sh12.2.2.2.2.1 c4
  have hl21 : 1024 ≤ h12.2.2.2.1 a ∧ h12.2.2.2.1 a ≤ 1000000 := gJ.rowl (G := gGG) sh12.1 t7 rfl
  have hl22 : 1024 ≤ h12.2.2.2.1 c4 ∧ h12.2.2.2.1 c4 ≤ 1000000 := gJ.rowl (G := gGG) sh12.1 tc4 rfl
  have G23 : gSg [114] [] [114999] ty h ty2 h12 := gSg.ss G6 sh12 (by decide)
  exact gz_end (I := .areturn) (len := 1) rfl (Or.inl rfl) ⟨ty2, G23, c4, rfl, tc4, (by dsimp only; omega), (by dsimp only; omega), (by dsimp only; omega)⟩
set_option maxRecDepth 20000 in
set_option maxHeartbeats 4000000 in
theorem cl_Sink_putByte (d : Nat) {ty : Nat → Nat} {h : gH} (hJ : gJ rT 1027 ty h) (x : Nat) (tx : ty x = 56) (v : Int) (rv : (-2147483648) ≤ v ∧ v ≤ 2147483647) (bt : Nat) (ebt : h.2.2.2.2 x 0 = .ref bt) (tbt : ty bt = 114) (c0 : Int) (ec0 : h.2.2.2.2 x 1 = .int (zi c0)) (rc0 : 0 ≤ c0 ∧ c0 ≤ 499999) (pp0 : c0 ≤ (h.2.2.2.1 bt : Int)) (uq : gUq ty) : gz gPP gGG gcn (d + 2) gt102 0 (gent [.ref x, .int (zi v)] 2) [] h (fun q _ => ∃ ty9 : Nat → Nat, gSg [114] [] [56000, 56001, 114999] ty h ty9 q.2.2 ∧ ∃ bt2 : Nat, True ∧ ∃ c1 : Int, q.2.2.2.2.2.2 x 0 = .ref bt2 ∧ ty9 bt2 = 114 ∧ gfin gt102 q.1 q.2.1 = some none ∧ q.2.2.2.2.2.2 x 1 = .int (zi c1) ∧ 0 ≤ c1 ∧ c1 ≤ 500000 ∧ (c1 = c0 + 1) ∧ (1024 * ((q.2.2.1 : Int) - h.1) ≤ (q.2.2.2.2.2.1 bt2 : Int) - h.2.2.2.1 bt) ∧ (((q.2.2.2.1 : Int) - h.2.1) ≤ 2 * ((q.2.2.2.2.2.1 bt2 : Int) - h.2.2.2.1 bt)) ∧ ((h.2.2.2.1 bt : Int) ≤ (q.2.2.2.2.2.1 bt2 : Int)) ∧ (c1 ≤ (q.2.2.2.2.2.1 bt2 : Int))) := by
  have hS : gSs rT 1027 ty [56000, 56001, 114999] h h := gSs.rf hJ
  have G0 : gSg [114] [] [56000, 56001, 114999] ty h ty h := gSg.rf hJ (fun x hx => by cases hx)
  refine gz_s 1 (pc' := 1) (L' := [some (.ref x), some (.int (zi v))]) (S' := [.ref x]) rfl ?_
  refine gs_gtk rfl (by decide) rfl hS.1 tx rfl rfl ec0 ?_
  refine gz_s 1 (pc' := 5) (L' := [some (.ref x), some (.int (zi v))]) (S' := [.ref x, .int (zi c0)]) rfl ?_
  refine gs_gtk rfl (by decide) rfl hS.1 tx rfl rfl ebt ?_
  refine gs_len rfl (by decide) hS.1 tbt rfl rfl rfl (fun z1 ez1 az1 bz1 => ?_)
  have cz1 : 1024 ≤ z1 ∧ z1 ≤ 1000000 := ⟨az1, bz1⟩
  by_cases hc2 : (c0 : Int) < z1
  · refine gy_icT (pc' := 29) rfl (by decide) (by decide) (by omega) (by omega) hc2 ?_
    refine gz_s 1 (pc' := 30) (L' := [some (.ref x), some (.int (zi v))]) (S' := [.ref x]) rfl ?_
    refine gs_gtk rfl (by decide) rfl hS.1 tx rfl rfl ebt ?_
    refine gz_s 1 (pc' := 34) (L' := [some (.ref x), some (.int (zi v))]) (S' := [.ref x, .ref bt]) rfl ?_
    refine gs_gtk rfl (by decide) rfl hS.1 tx rfl rfl ec0 ?_
    refine gz_s 1 (pc' := 38) (L' := [some (.ref x), some (.int (zi v))]) (S' := [.int (zi v), .int (zi c0), .ref bt]) rfl ?_
    refine gy_i2b rfl (by decide) (fun z3 az3 bz3 ez3 => ?_)
    have hl4 : 1024 ≤ h.2.2.2.1 bt ∧ h.2.2.2.1 bt ≤ 1000000 := gJ.rowl (G := gGG) hS.1 tbt rfl
    have hl5 : h.2.2.2.1 bt = h.2.2.2.1 bt := congrFun hS.2.2.2.2.1 bt
    refine gs_bast rfl (by decide) hS tbt rfl rfl rfl (by decide) (fun _ => rfl) (by decide) (by omega) (by omega) (fun _ => (by decide : (114999 : Nat) ∈ ([56000, 56001, 114999] : List Nat))) (fun h6 sh6 fh6 => ?_)
    have s7 := (fh6 x 0 (fun q => absurd (((tx).symm.trans (congrArg ty q.1)).trans tbt) (by decide))).trans ebt
    have s8 := (fh6 x 1 (fun q => absurd (((tx).symm.trans (congrArg ty q.1)).trans tbt) (by decide))).trans ec0
    refine gz_s 2 (pc' := 42) (L' := [some (.ref x), some (.int (zi v))]) (S' := [.ref x, .ref x]) rfl ?_
    refine gs_gtk rfl (by decide) rfl sh6.1 tx rfl rfl s8 ?_
    refine gy_s 2 (pc' := 47) (L' := [some (.ref x), some (.int (zi v))]) (S' := [.int ((zi c0) + (zi 1)), .ref x]) (L2 := [some (.ref x), some (.int (zi v))]) (S2 := [.int (zi (c0 + 1)), .ref x]) rfl (by simp only [zi_add, zi_sub, zi_mul, zi_neg, zi_and1, zi_and7, zi_and15, zi_and31, zi_and255]) (by simp only [zi_add, zi_sub, zi_mul, zi_neg, zi_and1, zi_and7, zi_and15, zi_and31, zi_and255]) ?_
    refine gs_put rfl (by decide) rfl sh6 tx rfl rfl rfl rfl (Or.inl rfl) (by decide) (by omega) (by omega) (fun h9 sh9 eh9 fh9 => ?_)
    have s10 := (fh9 x 0 (fun q => absurd q.2 (by decide))).trans s7
    have k11 := sh9.2.1
    have k11b := sh9.2.2.1
    have hl12 : h9.2.2.2.1 bt = h.2.2.2.1 bt := congrFun sh9.2.2.2.2.1 bt
    have hl13 : 1024 ≤ h9.2.2.2.1 bt ∧ h9.2.2.2.1 bt ≤ 1000000 := gJ.rowl (G := gGG) sh9.1 tbt rfl
    have G14 : gSg [114] [] [56000, 56001, 114999] ty h ty h9 := gSg.ss G0 sh9 (by decide)
    exact gz_end (I := .return_) (len := 1) rfl (Or.inl rfl) ⟨ty, G14, bt, trivial, c0 + 1, s10, tbt, rfl, eh9, (by omega), (by omega), (by omega), (by dsimp only; omega), (by dsimp only; omega), (by dsimp only; omega), (by dsimp only; omega)⟩
  · refine gy_icF rfl (by decide) (by decide) (by omega) (by omega) hc2 ?_
    refine gz_s 2 (pc' := 14) (L' := [some (.ref x), some (.int (zi v))]) (S' := [.ref x, .ref x]) rfl ?_
    refine gs_gtk rfl (by decide) rfl hS.1 tx rfl rfl ebt ?_
    refine gz_s 2 (pc' := 19) (L' := [some (.ref x), some (.int (zi v))]) (S' := [.ref x, .int (zi 2), .ref bt, .ref x]) rfl ?_
    refine gs_gtk rfl (by decide) rfl hS.1 tx rfl rfl ec0 ?_
    refine gy_s 1 (pc' := 23) (L' := [some (.ref x), some (.int (zi v))]) (S' := [.int ((zi 2) * (zi c0)), .ref bt, .ref x]) (L2 := [some (.ref x), some (.int (zi v))]) (S2 := [.int (zi (2 * c0)), .ref bt, .ref x]) rfl (by simp only [zi_add, zi_sub, zi_mul, zi_neg, zi_and1, zi_and7, zi_and15, zi_and31, zi_and255]) (by simp only [zi_add, zi_sub, zi_mul, zi_neg, zi_and1, zi_and7, zi_and15, zi_and31, zi_and255]) ?_
    have hl15 : h.2.2.2.1 bt = h.2.2.2.1 bt := congrFun hS.2.2.2.2.1 bt
    refine gz_call rfl (by decide) rfl (by decide) (by decide) (gcal_of rfl rfl rfl (Nat.le_of_ble_eq_true rfl) rfl) (cl_copyOf _ hS.1 bt tbt (2 * c0) (by omega) (by omega)) (fun q16 _ wq16 => ?_)
    obtain ⟨pq16, oq16, hq16⟩ := q16
    obtain ⟨tyq16, xq16, zq16, gq16, tzq16, uq16_0, uq16_1, uq16_2⟩ := wq16
    dsimp only at uq16_0 uq16_1 uq16_2
    refine ⟨_, gq16, ?_⟩
    show gz gPP gGG gcn _ _ 26 [some (.ref x), some (.int (zi v))] [.ref zq16, .ref x] hq16 _
    have G17 : gSg [114] [] [56000, 56001, 114999] ty h tyq16 hq16 := gSg.tr (gSg.ss G0 hS (by decide)) xq16 (by decide) (by decide) (fun x hx => by cases hx)
    have t18 : tyq16 x = 56 := gSg.typ xq16 hS.1 tx rfl
    have t19 : tyq16 bt = 114 := gSg.typ xq16 hS.1 tbt rfl
    have hl20 : hq16.2.2.2.1 bt = h.2.2.2.1 bt := gSg.len xq16 hS.1 tbt rfl
    have s21 := gSg.at xq16 hS.1 tx rfl (by decide) ebt
    have s22 := gSg.at xq16 hS.1 tx rfl (by decide) ec0
    have uq23 := gSg.uq xq16 uq (by decide)
    have sS24 : gSs rT 1027 tyq16 [56000, 56001, 114999] hq16 hq16 := gSs.rf xq16.1
    refine gs_ptr (s9 := 0) rfl (by decide) rfl sS24 t18 rfl rfl (Or.inl rfl) rfl (Or.inl rfl) (by decide) tzq16 (fun h25 sh25 eh25 fh25 => ?_)
    have s26 := (fh25 x 1 (fun q => absurd q.2 (by decide))).trans s22
    refine gz_s 1 (pc' := 30) (L' := [some (.ref x), some (.int (zi v))]) (S' := [.ref x]) rfl ?_
    refine gs_gtk rfl (by decide) rfl sh25.1 t18 rfl rfl eh25 ?_
    refine gz_s 1 (pc' := 34) (L' := [some (.ref x), some (.int (zi v))]) (S' := [.ref x, .ref zq16]) rfl ?_
    refine gs_gtk rfl (by decide) rfl sh25.1 t18 rfl rfl s26 ?_
    refine gz_s 1 (pc' := 38) (L' := [some (.ref x), some (.int (zi v))]) (S' := [.int (zi v), .int (zi c0), .ref zq16]) rfl ?_
    refine gy_i2b rfl (by decide) (fun z27 az27 bz27 ez27 => ?_)
    have hl28 : 1024 ≤ h25.2.2.2.1 zq16 ∧ h25.2.2.2.1 zq16 ≤ 1000000 := gJ.rowl (G := gGG) sh25.1 tzq16 rfl
    have hl29 : h25.2.2.2.1 zq16 = hq16.2.2.2.1 zq16 := congrFun sh25.2.2.2.2.1 zq16
    refine gs_bast rfl (by decide) sh25 tzq16 rfl rfl rfl (by decide) (fun _ => rfl) (by decide) (by omega) (by omega) (fun _ => (by decide : (114999 : Nat) ∈ ([56000, 56001, 114999] : List Nat))) (fun h30 sh30 fh30 => ?_)
    have s31 := (fh30 x 1 (fun q => absurd (((t18).symm.trans (congrArg tyq16 q.1)).trans tzq16) (by decide))).trans s26
    have s32 := (fh30 x 0 (fun q => absurd (((t18).symm.trans (congrArg tyq16 q.1)).trans tzq16) (by decide))).trans eh25
    refine gz_s 2 (pc' := 42) (L' := [some (.ref x), some (.int (zi v))]) (S' := [.ref x, .ref x]) rfl ?_
    refine gs_gtk rfl (by decide) rfl sh30.1 t18 rfl rfl s31 ?_
    refine gy_s 2 (pc' := 47) (L' := [some (.ref x), some (.int (zi v))]) (S' := [.int ((zi c0) + (zi 1)), .ref x]) (L2 := [some (.ref x), some (.int (zi v))]) (S2 := [.int (zi (c0 + 1)), .ref x]) rfl (by simp only [zi_add, zi_sub, zi_mul, zi_neg, zi_and1, zi_and7, zi_and15, zi_and31, zi_and255]) (by simp only [zi_add, zi_sub, zi_mul, zi_neg, zi_and1, zi_and7, zi_and15, zi_and31, zi_and255]) ?_
    refine gs_put rfl (by decide) rfl sh30 t18 rfl rfl rfl rfl (Or.inl rfl) (by decide) (by omega) (by omega) (fun h33 sh33 eh33 fh33 => ?_)
    have s34 := (fh33 x 0 (fun q => absurd q.2 (by decide))).trans s32
    have k35 := sh33.2.1
    have k35b := sh33.2.2.1
    have hl36 : h33.2.2.2.1 bt = hq16.2.2.2.1 bt := congrFun sh33.2.2.2.2.1 bt
    have hl37 : h33.2.2.2.1 zq16 = hq16.2.2.2.1 zq16 := congrFun sh33.2.2.2.2.1 zq16
    have hl38 : 1024 ≤ h33.2.2.2.1 bt ∧ h33.2.2.2.1 bt ≤ 1000000 := gJ.rowl (G := gGG) sh33.1 t19 rfl
    have hl39 : 1024 ≤ h33.2.2.2.1 zq16 ∧ h33.2.2.2.1 zq16 ≤ 1000000 := gJ.rowl (G := gGG) sh33.1 tzq16 rfl
    have G40 : gSg [114] [] [56000, 56001, 114999] ty h tyq16 h33 := gSg.ss G17 sh33 (by decide)
    exact gz_end (I := .return_) (len := 1) rfl (Or.inl rfl) ⟨tyq16, G40, zq16, trivial, c0 + 1, s34, tzq16, rfl, eh33, (by omega), (by omega), (by omega), (by dsimp only; omega), (by dsimp only; omega), (by dsimp only; omega), (by dsimp only; omega)⟩
set_option maxRecDepth 20000 in
set_option maxHeartbeats 4000000 in
theorem cl_Sink_putTwo (d : Nat) {ty : Nat → Nat} {h : gH} (hJ : gJ rT 1027 ty h) (x : Nat) (tx : ty x = 56) (v : Int) (rv : (-2147483648) ≤ v ∧ v ≤ 2147483647) (bt : Nat) (ebt : h.2.2.2.2 x 0 = .ref bt) (tbt : ty bt = 114) (c0 : Int) (ec0 : h.2.2.2.2 x 1 = .int (zi c0)) (rc0 : 0 ≤ c0 ∧ c0 ≤ 499998) (pp0 : c0 ≤ (h.2.2.2.1 bt : Int)) (uq : gUq ty) : gz gPP gGG gcn (d + 3) gt103 0 (gent [.ref x, .int (zi v)] 2) [] h (fun q _ => ∃ ty9 : Nat → Nat, gSg [114] [] [56000, 56001, 114999] ty h ty9 q.2.2 ∧ ∃ bt2 : Nat, True ∧ ∃ c1 : Int, q.2.2.2.2.2.2 x 0 = .ref bt2 ∧ ty9 bt2 = 114 ∧ gfin gt103 q.1 q.2.1 = some none ∧ q.2.2.2.2.2.2 x 1 = .int (zi c1) ∧ 0 ≤ c1 ∧ c1 ≤ 500000 ∧ (c1 = c0 + 2) ∧ (1024 * ((q.2.2.1 : Int) - h.1) ≤ (q.2.2.2.2.2.1 bt2 : Int) - h.2.2.2.1 bt) ∧ (((q.2.2.2.1 : Int) - h.2.1) ≤ 2 * ((q.2.2.2.2.2.1 bt2 : Int) - h.2.2.2.1 bt)) ∧ ((h.2.2.2.1 bt : Int) ≤ (q.2.2.2.2.2.1 bt2 : Int)) ∧ (c1 ≤ (q.2.2.2.2.2.1 bt2 : Int))) := by
  have hS : gSs rT 1027 ty [56000, 56001, 114999] h h := gSs.rf hJ
  have G0 : gSg [114] [] [56000, 56001, 114999] ty h ty h := gSg.rf hJ (fun x hx => by cases hx)
  refine gz_s 3 (pc' := 4) (L' := [some (.ref x), some (.int (zi v))]) (S' := [.int (zi 8), .int (zi v), .ref x]) rfl ?_
  refine gy_shc (n := 8) (v := 256) rfl (by decide) (by omega) (by decide) (by decide) rfl ?_
  have hl1 : h.2.2.2.1 bt = h.2.2.2.1 bt := congrFun hS.2.2.2.2.1 bt
  refine gz_call rfl (by decide) rfl (by decide) (by decide) (gcal_of rfl rfl rfl (Nat.le_of_ble_eq_true rfl) (gJ.recv (G := gGG) hS.1 tx rfl rfl)) (cl_Sink_putByte _ hS.1 x tx (v / 256) (by omega) bt ebt tbt c0 ec0 (by omega) (by omega) uq) (fun q2 _ wq2 => ?_)
  obtain ⟨pq2, oq2, hq2⟩ := q2
  obtain ⟨tyq2, xq2, cq2_0, ttq2, fq2_0, ecq2_0, tcq2_0, gq2, efq2_0, afq2_0, bfq2_0, uq2_0, uq2_1, uq2_2, uq2_3, uq2_4⟩ := wq2
  dsimp only at uq2_1 uq2_2 uq2_3 uq2_4
  refine ⟨_, gq2, ?_⟩
  show gz gPP gGG gcn _ _ 8 [some (.ref x), some (.int (zi v))] [] hq2 _
  have G3 : gSg [114] [] [56000, 56001, 114999] ty h tyq2 hq2 := gSg.tr (gSg.ss G0 hS (by decide)) xq2 (by decide) (by decide) (fun x hx => by cases hx)
  have t4 : tyq2 x = 56 := gSg.typ xq2 hS.1 tx rfl
  have t5 : tyq2 bt = 114 := gSg.typ xq2 hS.1 tbt rfl
  have hl6 : hq2.2.2.2.1 bt = h.2.2.2.1 bt := gSg.len xq2 hS.1 tbt rfl
  have uq7 := gSg.uq xq2 uq (by decide)
  have sS8 : gSs rT 1027 tyq2 [56000, 56001, 114999] hq2 hq2 := gSs.rf xq2.1
  refine gz_s 2 (pc' := 10) (L' := [some (.ref x), some (.int (zi v))]) (S' := [.int (zi v), .ref x]) rfl ?_
  have hl9 : hq2.2.2.2.1 cq2_0 = hq2.2.2.2.1 cq2_0 := congrFun sS8.2.2.2.2.1 cq2_0
  refine gz_call rfl (by decide) rfl (by decide) (by decide) (gcal_of rfl rfl rfl (Nat.le_of_ble_eq_true rfl) (gJ.recv (G := gGG) sS8.1 t4 rfl rfl)) (cl_Sink_putByte _ sS8.1 x t4 v (by omega) cq2_0 ecq2_0 tcq2_0 fq2_0 efq2_0 (by omega) (by omega) uq7) (fun q10 _ wq10 => ?_)
  obtain ⟨pq10, oq10, hq10⟩ := q10
  obtain ⟨tyq10, xq10, cq10_0, ttq10, fq10_0, ecq10_0, tcq10_0, gq10, efq10_0, afq10_0, bfq10_0, uq10_0, uq10_1, uq10_2, uq10_3, uq10_4⟩ := wq10
  dsimp only at uq10_1 uq10_2 uq10_3 uq10_4
  refine ⟨_, gq10, ?_⟩
  show gz gPP gGG gcn _ _ 13 [some (.ref x), some (.int (zi v))] [] hq10 _
  have G11 : gSg [114] [] [56000, 56001, 114999] ty h tyq10 hq10 := gSg.tr (gSg.ss G3 sS8 (by decide)) xq10 (by decide) (by decide) (fun x hx => by cases hx)
  have t12 : tyq10 x = 56 := gSg.typ xq10 sS8.1 t4 rfl
  have t13 : tyq10 bt = 114 := gSg.typ xq10 sS8.1 t5 rfl
  have hl14 : hq10.2.2.2.1 bt = hq2.2.2.2.1 bt := gSg.len xq10 sS8.1 t5 rfl
  have t15 : tyq10 cq2_0 = 114 := gSg.typ xq10 sS8.1 tcq2_0 rfl
  have hl16 : hq10.2.2.2.1 cq2_0 = hq2.2.2.2.1 cq2_0 := gSg.len xq10 sS8.1 tcq2_0 rfl
  have uq17 := gSg.uq xq10 uq7 (by decide)
  have sS18 : gSs rT 1027 tyq10 [56000, 56001, 114999] hq10 hq10 := gSs.rf xq10.1
  have hl19 : 1024 ≤ hq10.2.2.2.1 bt ∧ hq10.2.2.2.1 bt ≤ 1000000 := gJ.rowl (G := gGG) sS18.1 t13 rfl
  have hl20 : 1024 ≤ hq10.2.2.2.1 cq2_0 ∧ hq10.2.2.2.1 cq2_0 ≤ 1000000 := gJ.rowl (G := gGG) sS18.1 t15 rfl
  have hl21 : 1024 ≤ hq10.2.2.2.1 cq10_0 ∧ hq10.2.2.2.1 cq10_0 ≤ 1000000 := gJ.rowl (G := gGG) sS18.1 tcq10_0 rfl
  have G22 : gSg [114] [] [56000, 56001, 114999] ty h tyq10 hq10 := gSg.ss G11 sS18 (by decide)
  exact gz_end (I := .return_) (len := 1) rfl (Or.inl rfl) ⟨tyq10, G22, cq10_0, trivial, fq10_0, ecq10_0, tcq10_0, rfl, efq10_0, (by omega), (by omega), (by omega), (by dsimp only; omega), (by dsimp only; omega), (by dsimp only; omega), (by dsimp only; omega)⟩
set_option maxRecDepth 20000 in
set_option maxHeartbeats 4000000 in
theorem cl_Sink_putMarker (d : Nat) {ty : Nat → Nat} {h : gH} (hJ : gJ rT 1027 ty h) (x : Nat) (tx : ty x = 56) (v : Int) (rv : (-2147483648) ≤ v ∧ v ≤ 2147483647) (bt : Nat) (ebt : h.2.2.2.2 x 0 = .ref bt) (tbt : ty bt = 114) (c0 : Int) (ec0 : h.2.2.2.2 x 1 = .int (zi c0)) (rc0 : 0 ≤ c0 ∧ c0 ≤ 499998) (pp0 : c0 ≤ (h.2.2.2.1 bt : Int)) (uq : gUq ty) : gz gPP gGG gcn (d + 3) gt101 0 (gent [.ref x, .int (zi v)] 2) [] h (fun q _ => ∃ ty9 : Nat → Nat, gSg [114] [] [56000, 56001, 114999] ty h ty9 q.2.2 ∧ ∃ bt2 : Nat, True ∧ ∃ c1 : Int, q.2.2.2.2.2.2 x 0 = .ref bt2 ∧ ty9 bt2 = 114 ∧ gfin gt101 q.1 q.2.1 = some none ∧ q.2.2.2.2.2.2 x 1 = .int (zi c1) ∧ 0 ≤ c1 ∧ c1 ≤ 500000 ∧ (c1 = c0 + 2) ∧ (1024 * ((q.2.2.1 : Int) - h.1) ≤ (q.2.2.2.2.2.1 bt2 : Int) - h.2.2.2.1 bt) ∧ (((q.2.2.2.1 : Int) - h.2.1) ≤ 2 * ((q.2.2.2.2.2.1 bt2 : Int) - h.2.2.2.1 bt)) ∧ ((h.2.2.2.1 bt : Int) ≤ (q.2.2.2.2.2.1 bt2 : Int)) ∧ (c1 ≤ (q.2.2.2.2.2.1 bt2 : Int))) := by
  have hS : gSs rT 1027 ty [56000, 56001, 114999] h h := gSs.rf hJ
  have G0 : gSg [114] [] [56000, 56001, 114999] ty h ty h := gSg.rf hJ (fun x hx => by cases hx)
  refine gz_s 2 (pc' := 4) (L' := [some (.ref x), some (.int (zi v))]) (S' := [.int (zi 255), .ref x]) rfl ?_
  have hl1 : h.2.2.2.1 bt = h.2.2.2.1 bt := congrFun hS.2.2.2.2.1 bt
  refine gz_call rfl (by decide) rfl (by decide) (by decide) (gcal_of rfl rfl rfl (Nat.le_of_ble_eq_true rfl) (gJ.recv (G := gGG) hS.1 tx rfl rfl)) (cl_Sink_putByte _ hS.1 x tx 255 (by omega) bt ebt tbt c0 ec0 (by omega) (by omega) uq) (fun q2 _ wq2 => ?_)
  obtain ⟨pq2, oq2, hq2⟩ := q2
  obtain ⟨tyq2, xq2, cq2_0, ttq2, fq2_0, ecq2_0, tcq2_0, gq2, efq2_0, afq2_0, bfq2_0, uq2_0, uq2_1, uq2_2, uq2_3, uq2_4⟩ := wq2
  dsimp only at uq2_1 uq2_2 uq2_3 uq2_4
  refine ⟨_, gq2, ?_⟩
  show gz gPP gGG gcn _ _ 7 [some (.ref x), some (.int (zi v))] [] hq2 _
  have G3 : gSg [114] [] [56000, 56001, 114999] ty h tyq2 hq2 := gSg.tr (gSg.ss G0 hS (by decide)) xq2 (by decide) (by decide) (fun x hx => by cases hx)
  have t4 : tyq2 x = 56 := gSg.typ xq2 hS.1 tx rfl
  have t5 : tyq2 bt = 114 := gSg.typ xq2 hS.1 tbt rfl
  have hl6 : hq2.2.2.2.1 bt = h.2.2.2.1 bt := gSg.len xq2 hS.1 tbt rfl
  have uq7 := gSg.uq xq2 uq (by decide)
  have sS8 : gSs rT 1027 tyq2 [56000, 56001, 114999] hq2 hq2 := gSs.rf xq2.1
  refine gz_s 2 (pc' := 9) (L' := [some (.ref x), some (.int (zi v))]) (S' := [.int (zi v), .ref x]) rfl ?_
  have hl9 : hq2.2.2.2.1 cq2_0 = hq2.2.2.2.1 cq2_0 := congrFun sS8.2.2.2.2.1 cq2_0
  refine gz_call rfl (by decide) rfl (by decide) (by decide) (gcal_of rfl rfl rfl (Nat.le_of_ble_eq_true rfl) (gJ.recv (G := gGG) sS8.1 t4 rfl rfl)) (cl_Sink_putByte _ sS8.1 x t4 v (by omega) cq2_0 ecq2_0 tcq2_0 fq2_0 efq2_0 (by omega) (by omega) uq7) (fun q10 _ wq10 => ?_)
  obtain ⟨pq10, oq10, hq10⟩ := q10
  obtain ⟨tyq10, xq10, cq10_0, ttq10, fq10_0, ecq10_0, tcq10_0, gq10, efq10_0, afq10_0, bfq10_0, uq10_0, uq10_1, uq10_2, uq10_3, uq10_4⟩ := wq10
  dsimp only at uq10_1 uq10_2 uq10_3 uq10_4
  refine ⟨_, gq10, ?_⟩
  show gz gPP gGG gcn _ _ 12 [some (.ref x), some (.int (zi v))] [] hq10 _
  have G11 : gSg [114] [] [56000, 56001, 114999] ty h tyq10 hq10 := gSg.tr (gSg.ss G3 sS8 (by decide)) xq10 (by decide) (by decide) (fun x hx => by cases hx)
  have t12 : tyq10 x = 56 := gSg.typ xq10 sS8.1 t4 rfl
  have t13 : tyq10 bt = 114 := gSg.typ xq10 sS8.1 t5 rfl
  have hl14 : hq10.2.2.2.1 bt = hq2.2.2.2.1 bt := gSg.len xq10 sS8.1 t5 rfl
  have t15 : tyq10 cq2_0 = 114 := gSg.typ xq10 sS8.1 tcq2_0 rfl
  have hl16 : hq10.2.2.2.1 cq2_0 = hq2.2.2.2.1 cq2_0 := gSg.len xq10 sS8.1 tcq2_0 rfl
  have uq17 := gSg.uq xq10 uq7 (by decide)
  have sS18 : gSs rT 1027 tyq10 [56000, 56001, 114999] hq10 hq10 := gSs.rf xq10.1
  have hl19 : 1024 ≤ hq10.2.2.2.1 bt ∧ hq10.2.2.2.1 bt ≤ 1000000 := gJ.rowl (G := gGG) sS18.1 t13 rfl
  have hl20 : 1024 ≤ hq10.2.2.2.1 cq2_0 ∧ hq10.2.2.2.1 cq2_0 ≤ 1000000 := gJ.rowl (G := gGG) sS18.1 t15 rfl
  have hl21 : 1024 ≤ hq10.2.2.2.1 cq10_0 ∧ hq10.2.2.2.1 cq10_0 ≤ 1000000 := gJ.rowl (G := gGG) sS18.1 tcq10_0 rfl
  have G22 : gSg [114] [] [56000, 56001, 114999] ty h tyq10 hq10 := gSg.ss G11 sS18 (by decide)
  exact gz_end (I := .return_) (len := 1) rfl (Or.inl rfl) ⟨tyq10, G22, cq10_0, trivial, fq10_0, ecq10_0, tcq10_0, rfl, efq10_0, (by omega), (by omega), (by omega), (by dsimp only; omega), (by dsimp only; omega), (by dsimp only; omega), (by dsimp only; omega)⟩
set_option maxRecDepth 20000 in
set_option maxHeartbeats 4000000 in
theorem cl_Sink_putBits (d : Nat) {ty : Nat → Nat} {h : gH} (hJ : gJ rT 1027 ty h) (x : Nat) (tx : ty x = 56) (v : Int) (rv : (-2147483648) ≤ v ∧ v ≤ 2147483647) (n : Int) (rn : 0 ≤ n ∧ n ≤ 300) (bt : Nat) (ebt : h.2.2.2.2 x 0 = .ref bt) (tbt : ty bt = 114) (c0 : Int) (ec0 : h.2.2.2.2 x 1 = .int (zi c0)) (rc0 : 0 ≤ c0 ∧ c0 ≤ 499999) (h0 : Int) (eh0 : h.2.2.2.2 x 3 = .int (zi h0)) (rh0 : 0 ≤ h0 ∧ h0 ≤ 7) (pp0 : 4 * c0 + h0 + n ≤ 1999990) (pp1 : c0 ≤ (h.2.2.2.1 bt : Int)) (uq : gUq ty) : gz gPP gGG gcn (d + 3) gt109 0 (gent [.ref x, .int (zi v), .int (zi n)] 4) [] h (fun q _ => ∃ ty9 : Nat → Nat, gSg [114] [] [56000, 56001, 56002, 56003, 114999] ty h ty9 q.2.2 ∧ ∃ bt2 : Nat, True ∧ ∃ c1 h1 : Int, q.2.2.2.2.2.2 x 0 = .ref bt2 ∧ ty9 bt2 = 114 ∧ gfin gt109 q.1 q.2.1 = some none ∧ q.2.2.2.2.2.2 x 1 = .int (zi c1) ∧ 0 ≤ c1 ∧ c1 ≤ 500000 ∧ q.2.2.2.2.2.2 x 3 = .int (zi h1) ∧ 0 ≤ h1 ∧ h1 ≤ 7 ∧ (4 * c1 + h1 ≤ 4 * c0 + h0 + n) ∧ (c0 ≤ c1) ∧ (1024 * ((q.2.2.1 : Int) - h.1) ≤ (q.2.2.2.2.2.1 bt2 : Int) - h.2.2.2.1 bt) ∧ (((q.2.2.2.1 : Int) - h.2.1) ≤ 2 * ((q.2.2.2.2.2.1 bt2 : Int) - h.2.2.2.1 bt)) ∧ ((h.2.2.2.1 bt : Int) ≤ (q.2.2.2.2.2.1 bt2 : Int)) ∧ (c1 ≤ (q.2.2.2.2.2.1 bt2 : Int))) := by
  have hS : gSs rT 1027 ty [56000, 56001, 56002, 56003, 114999] h h := gSs.rf hJ
  have G0 : gSg [114] [] [56000, 56001, 56002, 56003, 114999] ty h ty h := gSg.rf hJ (fun x hx => by cases hx)
  refine gy_s 4 (pc' := 4) (L' := [some (.ref x), some (.int (zi v)), some (.int (zi n)), some (.int ((zi n) - (zi 1)))]) (S' := []) (L2 := [some (.ref x), some (.int (zi v)), some (.int (zi n)), some (.int (zi (n - 1)))]) (S2 := []) rfl (by simp only [zi_add, zi_sub, zi_mul, zi_neg, zi_and1, zi_and7, zi_and15, zi_and31, zi_and255]) (by simp only [zi_add, zi_sub, zi_mul, zi_neg, zi_and1, zi_and7, zi_and15, zi_and31, zi_and255]) ?_
  have lp1 : ∀ (fu : Nat) (ty3 : Nat → Nat) (h2 : gH) (bv : Nat) (i : Int) (cv : Int) (hv : Int), (i + 1).toNat < fu → gSg [114] [] [56000, 56001, 56002, 56003, 114999] ty h ty3 h2 → gUq ty3 → ty3 x = 56 → h2.2.2.2.2 x 0 = .ref bv → ty3 bv = 114 → ((-1) ≤ i ∧ i ≤ 299) → (0 ≤ cv ∧ cv ≤ 499999) → (0 ≤ hv ∧ hv ≤ 7) → (4 * cv + hv ≤ 4 * c0 + h0 + (n - 1 - i)) → (c0 ≤ cv) → (i ≤ n - 1) → (1024 * ((h2.1 : Int) - h.1) ≤ (h2.2.2.2.1 bv : Int) - h.2.2.2.1 bt) → (((h2.2.1 : Int) - h.2.1) ≤ 2 * ((h2.2.2.2.1 bv : Int) - h.2.2.2.1 bt)) → ((h.2.2.2.1 bt : Int) ≤ (h2.2.2.2.1 bv : Int)) → (cv ≤ (h2.2.2.2.1 bv : Int)) → h2.2.2.2.2 x 1 = .int (zi cv) → h2.2.2.2.2 x 3 = .int (zi hv) → gz gPP gGG gcn (d + 3) gt109 4 [some (.ref x), some (.int (zi v)), some (.int (zi n)), some (.int (zi i))] [] h2 (fun q _ => ∃ ty9 : Nat → Nat, gSg [114] [] [56000, 56001, 56002, 56003, 114999] ty h ty9 q.2.2 ∧ ∃ bt2 : Nat, True ∧ ∃ c1 h1 : Int, q.2.2.2.2.2.2 x 0 = .ref bt2 ∧ ty9 bt2 = 114 ∧ gfin gt109 q.1 q.2.1 = some none ∧ q.2.2.2.2.2.2 x 1 = .int (zi c1) ∧ 0 ≤ c1 ∧ c1 ≤ 500000 ∧ q.2.2.2.2.2.2 x 3 = .int (zi h1) ∧ 0 ≤ h1 ∧ h1 ≤ 7 ∧ (4 * c1 + h1 ≤ 4 * c0 + h0 + n) ∧ (c0 ≤ c1) ∧ (1024 * ((q.2.2.1 : Int) - h.1) ≤ (q.2.2.2.2.2.1 bt2 : Int) - h.2.2.2.1 bt) ∧ (((q.2.2.2.1 : Int) - h.2.1) ≤ 2 * ((q.2.2.2.2.2.1 bt2 : Int) - h.2.2.2.1 bt)) ∧ ((h.2.2.2.1 bt : Int) ≤ (q.2.2.2.2.2.1 bt2 : Int)) ∧ (c1 ≤ (q.2.2.2.2.2.1 bt2 : Int))) := by
    intro fu
    induction fu with
    | zero => intro ty3 h2 bv i cv hv hm; exact absurd hm (Nat.not_lt_zero _)
    | succ fu ihlp1 =>
      intro ty3 h2 bv i cv hv lp1m lp1G lp1u lp1c0 lp1r0 lp1r1 lp1f0 lp1f1 lp1f2 lp1f3 lp1f4 lp1f5 lp1f6 lp1f7 lp1f8 lp1f9 lp1k0 lp1k1
      have sh2 : gSs rT 1027 ty3 [56000, 56001, 56002, 56003, 114999] h2 h2 := gSs.rf lp1G.1
      refine gz_s 1 (pc' := 5) (L' := [some (.ref x), some (.int (zi v)), some (.int (zi n)), some (.int (zi i))]) (S' := [.int (zi i)]) rfl ?_
      by_cases hc4 : (i : Int) < 0
      · refine gy_ifT (pc' := 82) rfl (by decide) (by decide) (by omega) hc4 ?_
        have hl5 : 1024 ≤ h2.2.2.2.1 bv ∧ h2.2.2.2.1 bv ≤ 1000000 := gJ.rowl (G := gGG) sh2.1 lp1r1 rfl
        have G6 : gSg [114] [] [56000, 56001, 56002, 56003, 114999] ty h ty3 h2 := gSg.ss lp1G sh2 (by decide)
        exact gz_end (I := .return_) (len := 1) rfl (Or.inl rfl) ⟨ty3, G6, bv, trivial, cv, hv, lp1r0, lp1r1, rfl, lp1k0, (by omega), (by omega), lp1k1, (by omega), (by omega), (by omega), (by omega), (by dsimp only; omega), (by dsimp only; omega), (by dsimp only; omega), (by dsimp only; omega)⟩
      · refine gy_ifF rfl (by decide) (by decide) (by omega) hc4 ?_
        refine gz_s 3 (pc' := 11) (L' := [some (.ref x), some (.int (zi v)), some (.int (zi n)), some (.int (zi i))]) (S' := [.ref x, .int (zi 2), .ref x]) rfl ?_
        refine gs_get rfl (by decide) rfl sh2.1 lp1c0 rfl rfl rfl (fun z7 ez7 az7 bz7 => ?_)
        refine gy_s 1 (pc' := 15) (L' := [some (.ref x), some (.int (zi v)), some (.int (zi n)), some (.int (zi i))]) (S' := [.int ((zi 2) * (zi z7)), .ref x]) (L2 := [some (.ref x), some (.int (zi v)), some (.int (zi n)), some (.int (zi i))]) (S2 := [.int (zi (2 * z7)), .ref x]) rfl (by simp only [zi_add, zi_sub, zi_mul, zi_neg, zi_and1, zi_and7, zi_and15, zi_and31, zi_and255]) (by simp only [zi_add, zi_sub, zi_mul, zi_neg, zi_and1, zi_and7, zi_and15, zi_and31, zi_and255]) ?_
        refine gy_any (fun z8 ez8 az8 bz8 => ?_)
        refine gz_s 2 (pc' := 17) (L' := [some (.ref x), some (.int (zi v)), some (.int (zi n)), some (.int (zi i))]) (S' := [.int (zi i), .int (zi v), .int (zi z8), .ref x]) rfl ?_
        refine gy_iiv rfl (by decide) rfl (fun _ _ => rfl) (fun z9 ez9 az9 bz9 => ?_)
        refine gy_s 3 (pc' := 21) (L' := [some (.ref x), some (.int (zi v)), some (.int (zi n)), some (.int (zi i))]) (S' := [.int ((zi z8) + ((zi z9) &&& (zi 1))), .ref x]) (L2 := [some (.ref x), some (.int (zi v)), some (.int (zi n)), some (.int (zi i))]) (S2 := [.int (zi (z8 + (z9 % 2))), .ref x]) rfl (by simp only [zi_add, zi_sub, zi_mul, zi_neg, zi_and1, zi_and7, zi_and15, zi_and31, zi_and255]) (by simp only [zi_add, zi_sub, zi_mul, zi_neg, zi_and1, zi_and7, zi_and15, zi_and31, zi_and255]) ?_
        refine gy_any (fun z10 ez10 az10 bz10 => ?_)
        refine gs_put rfl (by decide) rfl sh2 lp1c0 rfl rfl rfl rfl (Or.inl rfl) (by decide) (by omega) (by omega) (fun h11 sh11 eh11 fh11 => ?_)
        have s12 := (fh11 x 1 (fun q => absurd q.2 (by decide))).trans lp1k0
        have s13 := (fh11 x 3 (fun q => absurd q.2 (by decide))).trans lp1k1
        have s14 := (fh11 x 0 (fun q => absurd q.2 (by decide))).trans lp1r0
        refine gz_s 2 (pc' := 26) (L' := [some (.ref x), some (.int (zi v)), some (.int (zi n)), some (.int (zi i))]) (S' := [.ref x, .ref x]) rfl ?_
        refine gs_gtk rfl (by decide) rfl sh11.1 lp1c0 rfl rfl s13 ?_
        refine gy_s 2 (pc' := 31) (L' := [some (.ref x), some (.int (zi v)), some (.int (zi n)), some (.int (zi i))]) (S' := [.int ((zi hv) + (zi 1)), .ref x]) (L2 := [some (.ref x), some (.int (zi v)), some (.int (zi n)), some (.int (zi i))]) (S2 := [.int (zi (hv + 1)), .ref x]) rfl (by simp only [zi_add, zi_sub, zi_mul, zi_neg, zi_and1, zi_and7, zi_and15, zi_and31, zi_and255]) (by simp only [zi_add, zi_sub, zi_mul, zi_neg, zi_and1, zi_and7, zi_and15, zi_and31, zi_and255]) ?_
        refine gs_put rfl (by decide) rfl sh11 lp1c0 rfl rfl rfl rfl (Or.inl rfl) (by decide) (by omega) (by omega) (fun h15 sh15 eh15 fh15 => ?_)
        have s16 := (fh15 x 1 (fun q => absurd q.2 (by decide))).trans s12
        have s17 := (fh15 x 0 (fun q => absurd q.2 (by decide))).trans s14
        have s18 := (fh15 x 2 (fun q => absurd q.2 (by decide))).trans eh11
        refine gz_s 1 (pc' := 35) (L' := [some (.ref x), some (.int (zi v)), some (.int (zi n)), some (.int (zi i))]) (S' := [.ref x]) rfl ?_
        refine gs_gtk rfl (by decide) rfl sh15.1 lp1c0 rfl rfl eh15 ?_
        refine gz_s 1 (pc' := 40) (L' := [some (.ref x), some (.int (zi v)), some (.int (zi n)), some (.int (zi i))]) (S' := [.int (zi 8), .int (zi (hv + 1))]) rfl ?_
        by_cases hc19 : ¬ (hv + 1 : Int) = 8
        · refine gy_icT (pc' := 76) rfl (by decide) (by decide) (by omega) (by omega) hc19 ?_
          refine gy_s 2 (pc' := 4) (L' := [some (.ref x), some (.int (zi v)), some (.int (zi n)), some (.int ((zi i) + zi (-1)))]) (S' := []) (L2 := [some (.ref x), some (.int (zi v)), some (.int (zi n)), some (.int (zi (i + (-1))))]) (S2 := []) rfl (by simp only [zi_add, zi_sub, zi_mul, zi_neg, zi_and1, zi_and7, zi_and15, zi_and31, zi_and255]) (by simp only [zi_add, zi_sub, zi_mul, zi_neg, zi_and1, zi_and7, zi_and15, zi_and31, zi_and255]) ?_
          have k20 := sh15.2.1
          have k20b := sh15.2.2.1
          have hl21 : h15.2.2.2.1 bv = h2.2.2.2.1 bv := congrFun sh15.2.2.2.2.1 bv
          have hl22 : 1024 ≤ h15.2.2.2.1 bv ∧ h15.2.2.2.1 bv ≤ 1000000 := gJ.rowl (G := gGG) sh15.1 lp1r1 rfl
          have G23 : gSg [114] [] [56000, 56001, 56002, 56003, 114999] ty h ty3 h15 := gSg.ss lp1G sh15 (by decide)
          exact gz_wk (ihlp1 ty3 h15 bv (i + (-1)) cv (hv + 1) (by omega) G23 lp1u lp1c0 s17 lp1r1 (by omega) (by omega) (by omega) (by omega) (by omega) (by omega) (by omega) (by omega) (by omega) (by omega) s16 eh15) (gLw.s (gLw.s (gLw.s (gLw.s gLw.z))))
        · refine gy_icF rfl (by decide) (by decide) (by omega) (by omega) hc19 ?_
          refine gz_s 2 (pc' := 45) (L' := [some (.ref x), some (.int (zi v)), some (.int (zi n)), some (.int (zi i))]) (S' := [.ref x, .ref x]) rfl ?_
          refine gs_gtk rfl (by decide) rfl sh15.1 lp1c0 rfl rfl s18 ?_
          have k24 := sh15.2.1
          have k24b := sh15.2.2.1
          have hl25 : h15.2.2.2.1 bv = h2.2.2.2.1 bv := congrFun sh15.2.2.2.2.1 bv
          have hl26 : h15.2.2.2.1 bv = h2.2.2.2.1 bv := congrFun sh15.2.2.2.2.1 bv
          refine gz_call rfl (by decide) rfl (by decide) (by decide) (gcal_of rfl rfl rfl (Nat.le_of_ble_eq_true rfl) (gJ.recv (G := gGG) sh15.1 lp1c0 rfl rfl)) (cl_Sink_putByte _ sh15.1 x lp1c0 z10 (by omega) bv s17 lp1r1 cv s16 (by omega) (by omega) lp1u) (fun q27 _ wq27 => ?_)
          obtain ⟨pq27, oq27, hq27⟩ := q27
          obtain ⟨tyq27, xq27, cq27_0, ttq27, fq27_0, ecq27_0, tcq27_0, gq27, efq27_0, afq27_0, bfq27_0, uq27_0, uq27_1, uq27_2, uq27_3, uq27_4⟩ := wq27
          dsimp only at uq27_1 uq27_2 uq27_3 uq27_4
          refine ⟨_, gq27, ?_⟩
          show gz gPP gGG gcn _ _ 51 [some (.ref x), some (.int (zi v)), some (.int (zi n)), some (.int (zi i))] [] hq27 _
          have G28 : gSg [114] [] [56000, 56001, 56002, 56003, 114999] ty h tyq27 hq27 := gSg.tr (gSg.ss lp1G sh15 (by decide)) xq27 (by decide) (by decide) (fun x hx => by cases hx)
          have t29 : tyq27 x = 56 := gSg.typ xq27 sh15.1 lp1c0 rfl
          have t30 : tyq27 bv = 114 := gSg.typ xq27 sh15.1 lp1r1 rfl
          have hl31 : hq27.2.2.2.1 bv = h15.2.2.2.1 bv := gSg.len xq27 sh15.1 lp1r1 rfl
          have s32 := gSg.at xq27 sh15.1 lp1c0 rfl (by decide) s18
          have s33 := gSg.at xq27 sh15.1 lp1c0 rfl (by decide) eh15
          have uq34 := gSg.uq xq27 lp1u (by decide)
          have sS35 : gSs rT 1027 tyq27 [56000, 56001, 56002, 56003, 114999] hq27 hq27 := gSs.rf xq27.1
          refine gz_s 1 (pc' := 52) (L' := [some (.ref x), some (.int (zi v)), some (.int (zi n)), some (.int (zi i))]) (S' := [.ref x]) rfl ?_
          refine gs_gtk rfl (by decide) rfl sS35.1 t29 rfl rfl s32 ?_
          refine gz_s 1 (pc' := 58) (L' := [some (.ref x), some (.int (zi v)), some (.int (zi n)), some (.int (zi i))]) (S' := [.int (zi 255), .int (zi z10)]) rfl ?_
          by_cases hc36 : ¬ (z10 : Int) = 255
          · refine gy_icT (pc' := 66) rfl (by decide) (by decide) (by omega) (by omega) hc36 ?_
            refine gz_s 2 (pc' := 68) (L' := [some (.ref x), some (.int (zi v)), some (.int (zi n)), some (.int (zi i))]) (S' := [.int (zi 0), .ref x]) rfl ?_
            refine gs_put rfl (by decide) rfl sS35 t29 rfl rfl rfl rfl (Or.inl rfl) (by decide) (by omega) (by omega) (fun h37 sh37 eh37 fh37 => ?_)
            have s38 := (fh37 x 3 (fun q => absurd q.2 (by decide))).trans s33
            have s39 := (fh37 x 0 (fun q => absurd q.2 (by decide))).trans ecq27_0
            have s40 := (fh37 x 1 (fun q => absurd q.2 (by decide))).trans efq27_0
            refine gz_s 2 (pc' := 73) (L' := [some (.ref x), some (.int (zi v)), some (.int (zi n)), some (.int (zi i))]) (S' := [.int (zi 0), .ref x]) rfl ?_
            refine gs_put rfl (by decide) rfl sh37 t29 rfl rfl rfl rfl (Or.inl rfl) (by decide) (by omega) (by omega) (fun h41 sh41 eh41 fh41 => ?_)
            have s42 := (fh41 x 0 (fun q => absurd q.2 (by decide))).trans s39
            have s43 := (fh41 x 1 (fun q => absurd q.2 (by decide))).trans s40
            have s44 := (fh41 x 2 (fun q => absurd q.2 (by decide))).trans eh37
            refine gy_s 2 (pc' := 4) (L' := [some (.ref x), some (.int (zi v)), some (.int (zi n)), some (.int ((zi i) + zi (-1)))]) (S' := []) (L2 := [some (.ref x), some (.int (zi v)), some (.int (zi n)), some (.int (zi (i + (-1))))]) (S2 := []) rfl (by simp only [zi_add, zi_sub, zi_mul, zi_neg, zi_and1, zi_and7, zi_and15, zi_and31, zi_and255]) (by simp only [zi_add, zi_sub, zi_mul, zi_neg, zi_and1, zi_and7, zi_and15, zi_and31, zi_and255]) ?_
            have k45 := sh41.2.1
            have k45b := sh41.2.2.1
            have hl46 : h41.2.2.2.1 bv = hq27.2.2.2.1 bv := congrFun sh41.2.2.2.2.1 bv
            have hl47 : h41.2.2.2.1 cq27_0 = hq27.2.2.2.1 cq27_0 := congrFun sh41.2.2.2.2.1 cq27_0
            have hl48 : 1024 ≤ h41.2.2.2.1 bv ∧ h41.2.2.2.1 bv ≤ 1000000 := gJ.rowl (G := gGG) sh41.1 t30 rfl
            have hl49 : 1024 ≤ h41.2.2.2.1 cq27_0 ∧ h41.2.2.2.1 cq27_0 ≤ 1000000 := gJ.rowl (G := gGG) sh41.1 tcq27_0 rfl
            have G50 : gSg [114] [] [56000, 56001, 56002, 56003, 114999] ty h tyq27 h41 := gSg.ss G28 sh41 (by decide)
            exact gz_wk (ihlp1 tyq27 h41 cq27_0 (i + (-1)) fq27_0 0 (by omega) G50 uq34 t29 s42 tcq27_0 (by omega) (by omega) (by omega) (by omega) (by omega) (by omega) (by omega) (by omega) (by omega) (by omega) s43 eh41) (gLw.s (gLw.s (gLw.s (gLw.s gLw.z))))
          · refine gy_icF rfl (by decide) (by decide) (by omega) (by omega) hc36 ?_
            refine gz_s 2 (pc' := 63) (L' := [some (.ref x), some (.int (zi v)), some (.int (zi n)), some (.int (zi i))]) (S' := [.int (zi 0), .ref x]) rfl ?_
            have hl51 : hq27.2.2.2.1 cq27_0 = hq27.2.2.2.1 cq27_0 := congrFun sS35.2.2.2.2.1 cq27_0
            refine gz_call rfl (by decide) rfl (by decide) (by decide) (gcal_of rfl rfl rfl (Nat.le_of_ble_eq_true rfl) (gJ.recv (G := gGG) sS35.1 t29 rfl rfl)) (cl_Sink_putByte _ sS35.1 x t29 0 (by omega) cq27_0 ecq27_0 tcq27_0 fq27_0 efq27_0 (by omega) (by omega) uq34) (fun q52 _ wq52 => ?_)
            obtain ⟨pq52, oq52, hq52⟩ := q52
            obtain ⟨tyq52, xq52, cq52_0, ttq52, fq52_0, ecq52_0, tcq52_0, gq52, efq52_0, afq52_0, bfq52_0, uq52_0, uq52_1, uq52_2, uq52_3, uq52_4⟩ := wq52
            dsimp only at uq52_1 uq52_2 uq52_3 uq52_4
            refine ⟨_, gq52, ?_⟩
            show gz gPP gGG gcn _ _ 66 [some (.ref x), some (.int (zi v)), some (.int (zi n)), some (.int (zi i))] [] hq52 _
            have G53 : gSg [114] [] [56000, 56001, 56002, 56003, 114999] ty h tyq52 hq52 := gSg.tr (gSg.ss G28 sS35 (by decide)) xq52 (by decide) (by decide) (fun x hx => by cases hx)
            have t54 : tyq52 x = 56 := gSg.typ xq52 sS35.1 t29 rfl
            have t55 : tyq52 bv = 114 := gSg.typ xq52 sS35.1 t30 rfl
            have hl56 : hq52.2.2.2.1 bv = hq27.2.2.2.1 bv := gSg.len xq52 sS35.1 t30 rfl
            have t57 : tyq52 cq27_0 = 114 := gSg.typ xq52 sS35.1 tcq27_0 rfl
            have hl58 : hq52.2.2.2.1 cq27_0 = hq27.2.2.2.1 cq27_0 := gSg.len xq52 sS35.1 tcq27_0 rfl
            have s59 := gSg.at xq52 sS35.1 t29 rfl (by decide) s32
            have s60 := gSg.at xq52 sS35.1 t29 rfl (by decide) s33
            have uq61 := gSg.uq xq52 uq34 (by decide)
            have sS62 : gSs rT 1027 tyq52 [56000, 56001, 56002, 56003, 114999] hq52 hq52 := gSs.rf xq52.1
            refine gz_s 2 (pc' := 68) (L' := [some (.ref x), some (.int (zi v)), some (.int (zi n)), some (.int (zi i))]) (S' := [.int (zi 0), .ref x]) rfl ?_
            refine gs_put rfl (by decide) rfl sS62 t54 rfl rfl rfl rfl (Or.inl rfl) (by decide) (by omega) (by omega) (fun h63 sh63 eh63 fh63 => ?_)
            have s64 := (fh63 x 3 (fun q => absurd q.2 (by decide))).trans s60
            have s65 := (fh63 x 0 (fun q => absurd q.2 (by decide))).trans ecq52_0
            have s66 := (fh63 x 1 (fun q => absurd q.2 (by decide))).trans efq52_0
            refine gz_s 2 (pc' := 73) (L' := [some (.ref x), some (.int (zi v)), some (.int (zi n)), some (.int (zi i))]) (S' := [.int (zi 0), .ref x]) rfl ?_
            refine gs_put rfl (by decide) rfl sh63 t54 rfl rfl rfl rfl (Or.inl rfl) (by decide) (by omega) (by omega) (fun h67 sh67 eh67 fh67 => ?_)
            have s68 := (fh67 x 0 (fun q => absurd q.2 (by decide))).trans s65
            have s69 := (fh67 x 1 (fun q => absurd q.2 (by decide))).trans s66
            have s70 := (fh67 x 2 (fun q => absurd q.2 (by decide))).trans eh63
            refine gy_s 2 (pc' := 4) (L' := [some (.ref x), some (.int (zi v)), some (.int (zi n)), some (.int ((zi i) + zi (-1)))]) (S' := []) (L2 := [some (.ref x), some (.int (zi v)), some (.int (zi n)), some (.int (zi (i + (-1))))]) (S2 := []) rfl (by simp only [zi_add, zi_sub, zi_mul, zi_neg, zi_and1, zi_and7, zi_and15, zi_and31, zi_and255]) (by simp only [zi_add, zi_sub, zi_mul, zi_neg, zi_and1, zi_and7, zi_and15, zi_and31, zi_and255]) ?_
            have k71 := sh67.2.1
            have k71b := sh67.2.2.1
            have hl72 : h67.2.2.2.1 bv = hq52.2.2.2.1 bv := congrFun sh67.2.2.2.2.1 bv
            have hl73 : h67.2.2.2.1 cq27_0 = hq52.2.2.2.1 cq27_0 := congrFun sh67.2.2.2.2.1 cq27_0
            have hl74 : h67.2.2.2.1 cq52_0 = hq52.2.2.2.1 cq52_0 := congrFun sh67.2.2.2.2.1 cq52_0
            have hl75 : 1024 ≤ h67.2.2.2.1 bv ∧ h67.2.2.2.1 bv ≤ 1000000 := gJ.rowl (G := gGG) sh67.1 t55 rfl
            have hl76 : 1024 ≤ h67.2.2.2.1 cq27_0 ∧ h67.2.2.2.1 cq27_0 ≤ 1000000 := gJ.rowl (G := gGG) sh67.1 t57 rfl
            have hl77 : 1024 ≤ h67.2.2.2.1 cq52_0 ∧ h67.2.2.2.1 cq52_0 ≤ 1000000 := gJ.rowl (G := gGG) sh67.1 tcq52_0 rfl
            have G78 : gSg [114] [] [56000, 56001, 56002, 56003, 114999] ty h tyq52 h67 := gSg.ss G53 sh67 (by decide)
            exact gz_wk (ihlp1 tyq52 h67 cq52_0 (i + (-1)) fq52_0 0 (by omega) G78 uq61 t54 s68 tcq52_0 (by omega) (by omega) (by omega) (by omega) (by omega) (by omega) (by omega) (by omega) (by omega) (by omega) s69 eh67) (gLw.s (gLw.s (gLw.s (gLw.s gLw.z))))
  have hl79 : 1024 ≤ h.2.2.2.1 bt ∧ h.2.2.2.1 bt ≤ 1000000 := gJ.rowl (G := gGG) hS.1 tbt rfl
  have G80 : gSg [114] [] [56000, 56001, 56002, 56003, 114999] ty h ty h := gSg.ss G0 hS (by decide)
  exact gz_wk (lp1 _ ty h bt (n - 1) c0 h0 (Nat.lt_succ_self _) G80 uq tx ebt tbt (by omega) (by omega) (by omega) (by omega) (by omega) (by omega) (by omega) (by omega) (by omega) (by omega) ec0 eh0) (gLw.s (gLw.s (gLw.s (gLw.s gLw.z))))
set_option maxRecDepth 20000 in
set_option maxHeartbeats 4000000 in
theorem cl_Sink_fillByte (d : Nat) {ty : Nat → Nat} {h : gH} (hJ : gJ rT 1027 ty h) (x : Nat) (tx : ty x = 56) (bt : Nat) (ebt : h.2.2.2.2 x 0 = .ref bt) (tbt : ty bt = 114) (c0 : Int) (ec0 : h.2.2.2.2 x 1 = .int (zi c0)) (rc0 : 0 ≤ c0 ∧ c0 ≤ 499999) (h0 : Int) (eh0 : h.2.2.2.2 x 3 = .int (zi h0)) (rh0 : 0 ≤ h0 ∧ h0 ≤ 7) (pp0 : 4 * c0 + 8 ≤ 1999990) (pp1 : c0 ≤ (h.2.2.2.1 bt : Int)) (uq : gUq ty) : gz gPP gGG gcn (d + 4) gt108 0 (gent [.ref x] 1) [] h (fun q _ => ∃ ty9 : Nat → Nat, gSg [114] [] [56000, 56001, 56002, 56003, 114999] ty h ty9 q.2.2 ∧ ∃ bt2 : Nat, True ∧ ∃ c1 h1 : Int, q.2.2.2.2.2.2 x 0 = .ref bt2 ∧ ty9 bt2 = 114 ∧ gfin gt108 q.1 q.2.1 = some none ∧ q.2.2.2.2.2.2 x 1 = .int (zi c1) ∧ 0 ≤ c1 ∧ c1 ≤ 500000 ∧ q.2.2.2.2.2.2 x 3 = .int (zi h1) ∧ 0 ≤ h1 ∧ h1 ≤ 7 ∧ (4 * c1 + h1 ≤ 4 * c0 + h0 + 8) ∧ (c0 ≤ c1) ∧ (1024 * ((q.2.2.1 : Int) - h.1) ≤ (q.2.2.2.2.2.1 bt2 : Int) - h.2.2.2.1 bt) ∧ (((q.2.2.2.1 : Int) - h.2.1) ≤ 2 * ((q.2.2.2.2.2.1 bt2 : Int) - h.2.2.2.1 bt)) ∧ ((h.2.2.2.1 bt : Int) ≤ (q.2.2.2.2.2.1 bt2 : Int)) ∧ (c1 ≤ (q.2.2.2.2.2.1 bt2 : Int))) := by
  have hS : gSs rT 1027 ty [56000, 56001, 56002, 56003, 114999] h h := gSs.rf hJ
  have G0 : gSg [114] [] [56000, 56001, 56002, 56003, 114999] ty h ty h := gSg.rf hJ (fun x hx => by cases hx)
  refine gz_s 1 (pc' := 1) (L' := [some (.ref x)]) (S' := [.ref x]) rfl ?_
  refine gs_gtk rfl (by decide) rfl hS.1 tx rfl rfl eh0 ?_
  by_cases hc1 : (h0 : Int) ≤ 0
  · refine gy_ifT (pc' := 21) rfl (by decide) (by decide) (by omega) hc1 ?_
    have hl2 : 1024 ≤ h.2.2.2.1 bt ∧ h.2.2.2.1 bt ≤ 1000000 := gJ.rowl (G := gGG) hS.1 tbt rfl
    have G3 : gSg [114] [] [56000, 56001, 56002, 56003, 114999] ty h ty h := gSg.ss G0 hS (by decide)
    exact gz_end (I := .return_) (len := 1) rfl (Or.inl rfl) ⟨ty, G3, bt, trivial, c0, h0, ebt, tbt, rfl, ec0, (by omega), (by omega), eh0, (by omega), (by omega), (by omega), (by omega), (by dsimp only; omega), (by dsimp only; omega), (by dsimp only; omega), (by dsimp only; omega)⟩
  · refine gy_ifF rfl (by decide) (by decide) (by omega) hc1 ?_
    refine gz_s 4 (pc' := 14) (L' := [some (.ref x)]) (S' := [.ref x, .int (zi 8), .int (zi 255), .ref x]) rfl ?_
    refine gs_gtk rfl (by decide) rfl hS.1 tx rfl rfl eh0 ?_
    refine gy_s 1 (pc' := 18) (L' := [some (.ref x)]) (S' := [.int ((zi 8) - (zi h0)), .int (zi 255), .ref x]) (L2 := [some (.ref x)]) (S2 := [.int (zi (8 - h0)), .int (zi 255), .ref x]) rfl (by simp only [zi_add, zi_sub, zi_mul, zi_neg, zi_and1, zi_and7, zi_and15, zi_and31, zi_and255]) (by simp only [zi_add, zi_sub, zi_mul, zi_neg, zi_and1, zi_and7, zi_and15, zi_and31, zi_and255]) ?_
    have hl4 : h.2.2.2.1 bt = h.2.2.2.1 bt := congrFun hS.2.2.2.2.1 bt
    refine gz_call rfl (by decide) rfl (by decide) (by decide) (gcal_of rfl rfl rfl (Nat.le_of_ble_eq_true rfl) (gJ.recv (G := gGG) hS.1 tx rfl rfl)) (cl_Sink_putBits _ hS.1 x tx 255 (by omega) (8 - h0) (by omega) bt ebt tbt c0 ec0 (by omega) h0 eh0 (by omega) (by omega) (by omega) uq) (fun q5 _ wq5 => ?_)
    obtain ⟨pq5, oq5, hq5⟩ := q5
    obtain ⟨tyq5, xq5, cq5_0, ttq5, fq5_0, fq5_1, ecq5_0, tcq5_0, gq5, efq5_0, afq5_0, bfq5_0, efq5_1, afq5_1, bfq5_1, uq5_0, uq5_1, uq5_2, uq5_3, uq5_4, uq5_5⟩ := wq5
    dsimp only at uq5_2 uq5_3 uq5_4 uq5_5
    refine ⟨_, gq5, ?_⟩
    show gz gPP gGG gcn _ _ 21 [some (.ref x)] [] hq5 _
    have G6 : gSg [114] [] [56000, 56001, 56002, 56003, 114999] ty h tyq5 hq5 := gSg.tr (gSg.ss G0 hS (by decide)) xq5 (by decide) (by decide) (fun x hx => by cases hx)
    have t7 : tyq5 x = 56 := gSg.typ xq5 hS.1 tx rfl
    have t8 : tyq5 bt = 114 := gSg.typ xq5 hS.1 tbt rfl
    have hl9 : hq5.2.2.2.1 bt = h.2.2.2.1 bt := gSg.len xq5 hS.1 tbt rfl
    have uq10 := gSg.uq xq5 uq (by decide)
    have sS11 : gSs rT 1027 tyq5 [56000, 56001, 56002, 56003, 114999] hq5 hq5 := gSs.rf xq5.1
    have hl12 : 1024 ≤ hq5.2.2.2.1 bt ∧ hq5.2.2.2.1 bt ≤ 1000000 := gJ.rowl (G := gGG) sS11.1 t8 rfl
    have hl13 : 1024 ≤ hq5.2.2.2.1 cq5_0 ∧ hq5.2.2.2.1 cq5_0 ≤ 1000000 := gJ.rowl (G := gGG) sS11.1 tcq5_0 rfl
    have G14 : gSg [114] [] [56000, 56001, 56002, 56003, 114999] ty h tyq5 hq5 := gSg.ss G6 sS11 (by decide)
    exact gz_end (I := .return_) (len := 1) rfl (Or.inl rfl) ⟨tyq5, G14, cq5_0, trivial, fq5_0, fq5_1, ecq5_0, tcq5_0, rfl, efq5_0, (by omega), (by omega), efq5_1, (by omega), (by omega), (by omega), (by omega), (by dsimp only; omega), (by dsimp only; omega), (by dsimp only; omega), (by dsimp only; omega)⟩
set_option maxRecDepth 20000 in
set_option maxHeartbeats 4000000 in
theorem cl_Sink_forget (d : Nat) {ty : Nat → Nat} {h : gH} (hJ : gJ rT 1027 ty h) (x : Nat) (tx : ty x = 56) (uq : gUq ty) : gz gPP gGG gcn (d + 0) gt100 0 (gent [.ref x] 1) [] h (fun q _ => gSs rT 1027 ty [56001, 56002, 56003] h q.2.2 ∧ ∃ c1 h1 : Int, gfin gt100 q.1 q.2.1 = some none ∧ q.2.2.2.2.2.2 x 1 = .int (zi c1) ∧ 0 ≤ c1 ∧ c1 ≤ 500000 ∧ q.2.2.2.2.2.2 x 3 = .int (zi h1) ∧ 0 ≤ h1 ∧ h1 ≤ 8 ∧ (c1 = 0) ∧ (h1 = 0)) := by
  have hS : gSs rT 1027 ty [56001, 56002, 56003] h h := gSs.rf hJ
  refine gz_s 2 (pc' := 2) (L' := [some (.ref x)]) (S' := [.int (zi 0), .ref x]) rfl ?_
  refine gs_put rfl (by decide) rfl hS tx rfl rfl rfl rfl (Or.inl rfl) (by decide) (by omega) (by omega) (fun h1 sh1 eh1 fh1 => ?_)
  refine gz_s 2 (pc' := 7) (L' := [some (.ref x)]) (S' := [.int (zi 0), .ref x]) rfl ?_
  refine gs_put rfl (by decide) rfl sh1 tx rfl rfl rfl rfl (Or.inl rfl) (by decide) (by omega) (by omega) (fun h2 sh2 eh2 fh2 => ?_)
  have s3 := (fh2 x 1 (fun q => absurd q.2 (by decide))).trans eh1
  refine gz_s 2 (pc' := 12) (L' := [some (.ref x)]) (S' := [.int (zi 0), .ref x]) rfl ?_
  refine gs_put rfl (by decide) rfl sh2 tx rfl rfl rfl rfl (Or.inl rfl) (by decide) (by omega) (by omega) (fun h4 sh4 eh4 fh4 => ?_)
  have s5 := (fh4 x 1 (fun q => absurd q.2 (by decide))).trans s3
  have s6 := (fh4 x 2 (fun q => absurd q.2 (by decide))).trans eh2
  exact gz_end (I := .return_) (len := 1) rfl (Or.inl rfl) ⟨sh4, 0, 0, rfl, s5, (by omega), (by omega), eh4, (by omega), (by omega), (by omega), (by omega)⟩
