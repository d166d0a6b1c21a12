/-! ===== methods of the landed text (by program) ===== -/
set_option maxRecDepth 20000 in
set_option maxHeartbeats 4000000 in
theorem cl_copyOf (d : Nat) {ty : Nat → Nat} {h : gH} (hJ : gJ rT 1027 ty h) (a : Nat) (ta : ty a = 114) (n : Int) (rn : 1024 ≤ n ∧ n ≤ 1000000) (pp0 : ¬ n = (h.2.2.2.1 a : Int)) : gz gPP gGG gcn (d + 1) gt65 0 (gent [.ref a, .int (zi n)] 3) [] h (fun q _ => ∃ ty9 : Nat → Nat, gSg [114] [] [114999] ty h ty9 q.2.2 ∧ ∃ a9 : Nat, gfin gt65 q.1 q.2.1 = some (some (.ref a9)) ∧ ty9 a9 = 114 ∧ ((q.2.2.2.2.2.1 a9 : Int) = n) ∧ ((q.2.2.1 : Int) = h.1 + 1) ∧ ((q.2.2.2.1 : Int) = h.2.1 + n)) := by
  have hS : gSs rT 1027 ty [114999] h h := gSs.rf hJ
  have G0 : gSg [114] [] [114999] ty h ty h := gSg.rf hJ (fun x hx => by cases hx)
  refine gz_s 2 (pc' := 2) (L' := [some (.ref a), some (.int (zi n)), none]) (S' := [.ref a, .int (zi n)]) rfl ?_
  refine gs_len rfl (by decide) hS.1 ta rfl rfl rfl (fun z1 ez1 az1 bz1 => ?_)
  have cz1 : 1024 ≤ z1 ∧ z1 ≤ 1000000 := ⟨az1, bz1⟩
  refine gy_icT (pc' := 14) rfl (by decide) (by decide) (by omega) (by omega) (by first | (simp [zc]; done) | (simp only [zc]; omega)) ?_
  refine gz_s 1 (pc' := 15) (L' := [some (.ref a), some (.int (zi n)), none]) (S' := [.int (zi n)]) rfl ?_
  refine gs_newr 114 rfl (by decide) rfl hS.1 (Nat.le_of_lt (Nat.lt_of_le_of_lt (gJ.cell hS.1 ta rfl).1 (gJ.cell hS.1 ta rfl).2.1)) (by omega) (by omega) rfl rfl (by show (1024 : Int) ≤ _; omega) (by show _ ≤ (1000000 : Int); omega) (fun _ _ => gos_i (by decide) (by decide)) (fun ty2 h3 c4 g5 tc4 lc4 nc4 mc4 ec4 dc4 uc4 => ?_)
  have gac4 : h.1 ≤ c4 := by have h8 := G0.2.1; have h9 := hS.2.1; omega
  have G6 : gSg [114] [] [114999] ty h ty2 h3 := gSg.tr (gSg.ss G0 hS (by decide)) g5 (by decide) (by decide) (fun x hx => by cases hx)
  have t7 : ty2 a = 114 := gSg.typ g5 hS.1 ta rfl
  have hl8 : h3.2.2.2.1 a = h.2.2.2.1 a := gSg.len g5 hS.1 ta rfl
  have sS9 : gSs rT 1027 ty2 [114999] h3 h3 := gSs.rf g5.1
  refine gz_s 6 (pc' := 23) (L' := [some (.ref a), some (.int (zi n)), some (.ref c4)]) (S' := [.ref a, .int (zi 0), .ref c4, .int (zi 0), .ref a]) rfl ?_
  refine gs_len rfl (by decide) sS9.1 t7 rfl rfl rfl (fun z10 ez10 az10 bz10 => ?_)
  have cz10 : 1024 ≤ z10 ∧ z10 ≤ 1000000 := ⟨az10, bz10⟩
  refine gz_s 1 (pc' := 25) (L' := [some (.ref a), some (.int (zi n)), some (.ref c4)]) (S' := [.int (zi n), .int (zi z10), .int (zi 0), .ref c4, .int (zi 0), .ref a]) rfl ?_
  refine gz_call rfl (by decide) rfl (by decide) (by decide) (gcal_of rfl rfl rfl (Nat.le_of_ble_eq_true rfl) rfl) (cl_Math_min _ sS9.1 z10 (by omega) n (by omega) ) (fun q11 _ wq11 => ?_)
  obtain ⟨pq11, oq11, hq11⟩ := q11
  obtain ⟨xq11, zq11, gq11, aq11, bq11, uq11_0, uq11_1, uq11_2⟩ := wq11
  refine ⟨_, gq11, ?_⟩
  show gz gPP gGG gcn _ _ 28 [some (.ref a), some (.int (zi n)), some (.ref c4)] [.int (zi zq11), .int (zi 0), .ref c4, .int (zi 0), .ref a] hq11 _
  have sq11 : gSs rT 1027 ty2 [114999] h3 hq11 := gSs.tr sS9 xq11 (by decide)
  have k13 := sq11.2.1
  have k13b := sq11.2.2.1
  have hl14 : hq11.2.2.2.1 a = h3.2.2.2.1 a := congrFun sq11.2.2.2.2.1 a
  have hl15 : hq11.2.2.2.1 c4 = h3.2.2.2.1 c4 := congrFun sq11.2.2.2.2.1 c4
  have hl16 : 1024 ≤ hq11.2.2.2.1 c4 ∧ hq11.2.2.2.1 c4 ≤ 1000000 := gJ.rowl (G := gGG) sq11.1 tc4 rfl
  have hl17 : 1024 ≤ hq11.2.2.2.1 a ∧ hq11.2.2.2.1 a ≤ 1000000 := gJ.rowl (G := gGG) sq11.1 t7 rfl
  refine gs_copy rfl (by decide) (by omega) rfl sq11 tc4 rfl rfl t7 rfl rfl (Or.inr ⟨rfl, rfl⟩) (by decide) (by decide) (fun _ => rfl) (fun _ => rfl) (by decide) (by decide) (by omega) (by omega) (by omega) (by omega) (by omega) (by decide) (fun _ => (by decide : (114999 : Nat) ∈ ([114999] : List Nat))) (fun h12 sh12 f9h12 => ?_)
  have fh12 : ∀ b j, ¬ (b = c4 ∧ True) → h12.2.2.2.2 b j = hq11.2.2.2.2 b j := fun b j hn => f9h12 b j (fun e => hn ⟨e, trivial⟩)
  refine gz_s 1 (pc' := 32) (L' := [some (.ref a), some (.int (zi n)), some (.ref c4)]) (S' := [.ref c4]) rfl ?_
  have k18 := sh12.2.1
  have k18b := sh12.2.2.1
  have hl19 : h12.2.2.2.1 a = h3.2.2.2.1 a := congrFun sh12.2.2.2.2.1 a
  have hl20 : h12.2.2.2.1 c4 = h3.2.2.2.1 c4 := congrFun sh12.2.2.2.2.1 c4
  have G21 : gSg [114] [] [114999] ty h ty2 h12 := gSg.ss G6 sh12 (by decide)
  exact gz_end (I := .areturn) (len := 1) rfl (Or.inl rfl) ⟨ty2, G21, c4, rfl, tc4, (by dsimp only; omega), (by dsimp only; omega), (by dsimp only; omega)⟩
set_option maxRecDepth 20000 in
set_option maxHeartbeats 4000000 in
theorem cl_Sink_putByte (d : Nat) {ty : Nat → Nat} {h : gH} (hJ : gJ rT 1027 ty h) (x : Nat) (tx : ty x = 56) (v : Int) (rv : (-2147483648) ≤ v ∧ v ≤ 2147483647) (bt : Nat) (ebt : h.2.2.2.2 x 0 = .ref bt) (tbt : ty bt = 114) (c0 : Int) (ec0 : h.2.2.2.2 x 1 = .int (zi c0)) (rc0 : 0 ≤ c0 ∧ c0 ≤ 499999) (pp0 : c0 ≤ (h.2.2.2.1 bt : Int)) (uq : gUq ty) : gz gPP gGG gcn (d + 2) gt102 0 (gent [.ref x, .int (zi v)] 2) [] h (fun q _ => ∃ ty9 : Nat → Nat, gSg [114] [] [56000, 56001, 114999] ty h ty9 q.2.2 ∧ ∃ bt2 : Nat, True ∧ ∃ c1 : Int, q.2.2.2.2.2.2 x 0 = .ref bt2 ∧ ty9 bt2 = 114 ∧ gfin gt102 q.1 q.2.1 = some none ∧ q.2.2.2.2.2.2 x 1 = .int (zi c1) ∧ 0 ≤ c1 ∧ c1 ≤ 500000 ∧ (c1 = c0 + 1) ∧ (1024 * ((q.2.2.1 : Int) - h.1) ≤ (q.2.2.2.2.2.1 bt2 : Int) - h.2.2.2.1 bt) ∧ (((q.2.2.2.1 : Int) - h.2.1) ≤ 2 * ((q.2.2.2.2.2.1 bt2 : Int) - h.2.2.2.1 bt)) ∧ ((h.2.2.2.1 bt : Int) ≤ (q.2.2.2.2.2.1 bt2 : Int)) ∧ (c1 ≤ (q.2.2.2.2.2.1 bt2 : Int))) := by
  have hS : gSs rT 1027 ty [56000, 56001, 114999] h h := gSs.rf hJ
  have G0 : gSg [114] [] [56000, 56001, 114999] ty h ty h := gSg.rf hJ (fun x hx => by cases hx)
  refine gz_s 1 (pc' := 1) (L' := [some (.ref x), some (.int (zi v))]) (S' := [.ref x]) rfl ?_
  refine gs_gtk rfl (by decide) rfl hS.1 tx rfl rfl ec0 ?_
  refine gz_s 1 (pc' := 5) (L' := [some (.ref x), some (.int (zi v))]) (S' := [.ref x, .int (zi c0)]) rfl ?_
  refine gs_gtk rfl (by decide) rfl hS.1 tx rfl rfl ebt ?_
  refine gs_len rfl (by decide) hS.1 tbt rfl rfl rfl (fun z1 ez1 az1 bz1 => ?_)
  have cz1 : 1024 ≤ z1 ∧ z1 ≤ 1000000 := ⟨az1, bz1⟩
  by_cases hc2 : (c0 : Int) < z1
  · refine gy_icT (pc' := 29) rfl (by decide) (by decide) (by omega) (by omega) hc2 ?_
    refine gz_s 1 (pc' := 30) (L' := [some (.ref x), some (.int (zi v))]) (S' := [.ref x]) rfl ?_
    refine gs_gtk rfl (by decide) rfl hS.1 tx rfl rfl ebt ?_
    refine gz_s 1 (pc' := 34) (L' := [some (.ref x), some (.int (zi v))]) (S' := [.ref x, .ref bt]) rfl ?_
    refine gs_gtk rfl (by decide) rfl hS.1 tx rfl rfl ec0 ?_
    refine gz_s 1 (pc' := 38) (L' := [some (.ref x), some (.int (zi v))]) (S' := [.int (zi v), .int (zi c0), .ref bt]) rfl ?_
    refine gy_i2b rfl (by decide) (fun z3 az3 bz3 ez3 => ?_)
    have hl4 : 1024 ≤ h.2.2.2.1 bt ∧ h.2.2.2.1 bt ≤ 1000000 := gJ.rowl (G := gGG) hS.1 tbt rfl
    have hl5 : h.2.2.2.1 bt = h.2.2.2.1 bt := congrFun hS.2.2.2.2.1 bt
    refine gs_bast rfl (by decide) hS tbt rfl rfl rfl (by decide) (fun _ => rfl) (by decide) (by omega) (by omega) (fun _ => (by decide : (114999 : Nat) ∈ ([56000, 56001, 114999] : List Nat))) (fun h6 sh6 fh6 => ?_)
    have s7 := (fh6 x 0 (fun q => absurd (((tx).symm.trans (congrArg ty q.1)).trans tbt) (by decide))).trans ebt
    have s8 := (fh6 x 1 (fun q => absurd (((tx).symm.trans (congrArg ty q.1)).trans tbt) (by decide))).trans ec0
    refine gz_s 2 (pc' := 42) (L' := [some (.ref x), some (.int (zi v))]) (S' := [.ref x, .ref x]) rfl ?_
    refine gs_gtk rfl (by decide) rfl sh6.1 tx rfl rfl s8 ?_
    refine gy_s 2 (pc' := 47) (L' := [some (.ref x), some (.int (zi v))]) (S' := [.int ((zi c0) + (zi 1)), .ref x]) (L2 := [some (.ref x), some (.int (zi v))]) (S2 := [.int (zi (c0 + 1)), .ref x]) rfl (by simp only [zi_add, zi_sub, zi_mul, zi_neg, zi_and1, zi_and7, zi_and15, zi_and31, zi_and255]) (by simp only [zi_add, zi_sub, zi_mul, zi_neg, zi_and1, zi_and7, zi_and15, zi_and31, zi_and255]) ?_
    refine gs_put rfl (by decide) rfl sh6 tx rfl rfl rfl rfl (Or.inl rfl) (by decide) (by omega) (by omega) (fun h9 sh9 eh9 fh9 => ?_)
    have s10 := (fh9 x 0 (fun q => absurd q.2 (by decide))).trans s7
    have k11 := sh9.2.1
    have k11b := sh9.2.2.1
    have hl12 : h9.2.2.2.1 bt = h.2.2.2.1 bt := congrFun sh9.2.2.2.2.1 bt
    have G13 : gSg [114] [] [56000, 56001, 114999] ty h ty h9 := gSg.ss G0 sh9 (by decide)
    exact gz_end (I := .return_) (len := 1) rfl (Or.inl rfl) ⟨ty, G13, bt, trivial, c0 + 1, s10, tbt, rfl, eh9, (by omega), (by omega), (by omega), (by dsimp only; omega), (by dsimp only; omega), (by dsimp only; omega), (by dsimp only; omega)⟩
  · refine gy_icF rfl (by decide) (by decide) (by omega) (by omega) hc2 ?_
    refine gz_s 2 (pc' := 14) (L' := [some (.ref x), some (.int (zi v))]) (S' := [.ref x, .ref x]) rfl ?_
    refine gs_gtk rfl (by decide) rfl hS.1 tx rfl rfl ebt ?_
    refine gz_s 2 (pc' := 19) (L' := [some (.ref x), some (.int (zi v))]) (S' := [.ref x, .int (zi 2), .ref bt, .ref x]) rfl ?_
    refine gs_gtk rfl (by decide) rfl hS.1 tx rfl rfl ec0 ?_
    refine gy_s 1 (pc' := 23) (L' := [some (.ref x), some (.int (zi v))]) (S' := [.int ((zi 2) * (zi c0)), .ref bt, .ref x]) (L2 := [some (.ref x), some (.int (zi v))]) (S2 := [.int (zi (2 * c0)), .ref bt, .ref x]) rfl (by simp only [zi_add, zi_sub, zi_mul, zi_neg, zi_and1, zi_and7, zi_and15, zi_and31, zi_and255]) (by simp only [zi_add, zi_sub, zi_mul, zi_neg, zi_and1, zi_and7, zi_and15, zi_and31, zi_and255]) ?_
    have hl14 : h.2.2.2.1 bt = h.2.2.2.1 bt := congrFun hS.2.2.2.2.1 bt
    refine gz_call rfl (by decide) rfl (by decide) (by decide) (gcal_of rfl rfl rfl (Nat.le_of_ble_eq_true rfl) rfl) (cl_copyOf _ hS.1 bt tbt (2 * c0) (by omega) (by omega)) (fun q15 _ wq15 => ?_)
    obtain ⟨pq15, oq15, hq15⟩ := q15
    obtain ⟨tyq15, xq15, zq15, gq15, tzq15, uq15_0, uq15_1, uq15_2⟩ := wq15
    dsimp only at uq15_0 uq15_1 uq15_2
    refine ⟨_, gq15, ?_⟩
    show gz gPP gGG gcn _ _ 26 [some (.ref x), some (.int (zi v))] [.ref zq15, .ref x] hq15 _
    have G16 : gSg [114] [] [56000, 56001, 114999] ty h tyq15 hq15 := gSg.tr (gSg.ss G0 hS (by decide)) xq15 (by decide) (by decide) (fun x hx => by cases hx)
    have t17 : tyq15 x = 56 := gSg.typ xq15 hS.1 tx rfl
    have t18 : tyq15 bt = 114 := gSg.typ xq15 hS.1 tbt rfl
    have hl19 : hq15.2.2.2.1 bt = h.2.2.2.1 bt := gSg.len xq15 hS.1 tbt rfl
    have s20 := gSg.at xq15 hS.1 tx rfl (by decide) ebt
    have s21 := gSg.at xq15 hS.1 tx rfl (by decide) ec0
    have uq22 := gSg.uq xq15 uq (by decide)
    have sS23 : gSs rT 1027 tyq15 [56000, 56001, 114999] hq15 hq15 := gSs.rf xq15.1
    refine gs_ptr rfl (by decide) rfl sS23 t17 rfl rfl (Or.inl rfl) rfl (Or.inl rfl) (by decide) tzq15 (fun h24 sh24 eh24 fh24 => ?_)
    have s25 := (fh24 x 1 (fun q => absurd q.2 (by decide))).trans s21
    refine gz_s 1 (pc' := 30) (L' := [some (.ref x), some (.int (zi v))]) (S' := [.ref x]) rfl ?_
    refine gs_gtk rfl (by decide) rfl sh24.1 t17 rfl rfl eh24 ?_
    refine gz_s 1 (pc' := 34) (L' := [some (.ref x), some (.int (zi v))]) (S' := [.ref x, .ref zq15]) rfl ?_
    refine gs_gtk rfl (by decide) rfl sh24.1 t17 rfl rfl s25 ?_
    refine gz_s 1 (pc' := 38) (L' := [some (.ref x), some (.int (zi v))]) (S' := [.int (zi v), .int (zi c0), .ref zq15]) rfl ?_
    refine gy_i2b rfl (by decide) (fun z26 az26 bz26 ez26 => ?_)
    have hl27 : 1024 ≤ h24.2.2.2.1 zq15 ∧ h24.2.2.2.1 zq15 ≤ 1000000 := gJ.rowl (G := gGG) sh24.1 tzq15 rfl
    have hl28 : h24.2.2.2.1 zq15 = hq15.2.2.2.1 zq15 := congrFun sh24.2.2.2.2.1 zq15
    refine gs_bast rfl (by decide) sh24 tzq15 rfl rfl rfl (by decide) (fun _ => rfl) (by decide) (by omega) (by omega) (fun _ => (by decide : (114999 : Nat) ∈ ([56000, 56001, 114999] : List Nat))) (fun h29 sh29 fh29 => ?_)
    have s30 := (fh29 x 1 (fun q => absurd (((t17).symm.trans (congrArg tyq15 q.1)).trans tzq15) (by decide))).trans s25
    have s31 := (fh29 x 0 (fun q => absurd (((t17).symm.trans (congrArg tyq15 q.1)).trans tzq15) (by decide))).trans eh24
    refine gz_s 2 (pc' := 42) (L' := [some (.ref x), some (.int (zi v))]) (S' := [.ref x, .ref x]) rfl ?_
    refine gs_gtk rfl (by decide) rfl sh29.1 t17 rfl rfl s30 ?_
    refine gy_s 2 (pc' := 47) (L' := [some (.ref x), some (.int (zi v))]) (S' := [.int ((zi c0) + (zi 1)), .ref x]) (L2 := [some (.ref x), some (.int (zi v))]) (S2 := [.int (zi (c0 + 1)), .ref x]) rfl (by simp only [zi_add, zi_sub, zi_mul, zi_neg, zi_and1, zi_and7, zi_and15, zi_and31, zi_and255]) (by simp only [zi_add, zi_sub, zi_mul, zi_neg, zi_and1, zi_and7, zi_and15, zi_and31, zi_and255]) ?_
    refine gs_put rfl (by decide) rfl sh29 t17 rfl rfl rfl rfl (Or.inl rfl) (by decide) (by omega) (by omega) (fun h32 sh32 eh32 fh32 => ?_)
    have s33 := (fh32 x 0 (fun q => absurd q.2 (by decide))).trans s31
    have k34 := sh32.2.1
    have k34b := sh32.2.2.1
    have hl35 : h32.2.2.2.1 bt = hq15.2.2.2.1 bt := congrFun sh32.2.2.2.2.1 bt
    have hl36 : h32.2.2.2.1 zq15 = hq15.2.2.2.1 zq15 := congrFun sh32.2.2.2.2.1 zq15
    have G37 : gSg [114] [] [56000, 56001, 114999] ty h tyq15 h32 := gSg.ss G16 sh32 (by decide)
    exact gz_end (I := .return_) (len := 1) rfl (Or.inl rfl) ⟨tyq15, G37, zq15, trivial, c0 + 1, s33, tzq15, rfl, eh32, (by omega), (by omega), (by omega), (by dsimp only; omega), (by dsimp only; omega), (by dsimp only; omega), (by dsimp only; omega)⟩
set_option maxRecDepth 20000 in
set_option maxHeartbeats 4000000 in
theorem cl_Sink_putTwo (d : Nat) {ty : Nat → Nat} {h : gH} (hJ : gJ rT 1027 ty h) (x : Nat) (tx : ty x = 56) (v : Int) (rv : (-2147483648) ≤ v ∧ v ≤ 2147483647) (bt : Nat) (ebt : h.2.2.2.2 x 0 = .ref bt) (tbt : ty bt = 114) (c0 : Int) (ec0 : h.2.2.2.2 x 1 = .int (zi c0)) (rc0 : 0 ≤ c0 ∧ c0 ≤ 499998) (pp0 : c0 ≤ (h.2.2.2.1 bt : Int)) (uq : gUq ty) : gz gPP gGG gcn (d + 3) gt103 0 (gent [.ref x, .int (zi v)] 2) [] h (fun q _ => ∃ ty9 : Nat → Nat, gSg [114] [] [56000, 56001, 114999] ty h ty9 q.2.2 ∧ ∃ bt2 : Nat, True ∧ ∃ c1 : Int, q.2.2.2.2.2.2 x 0 = .ref bt2 ∧ ty9 bt2 = 114 ∧ gfin gt103 q.1 q.2.1 = some none ∧ q.2.2.2.2.2.2 x 1 = .int (zi c1) ∧ 0 ≤ c1 ∧ c1 ≤ 500000 ∧ (c1 = c0 + 2) ∧ (1024 * ((q.2.2.1 : Int) - h.1) ≤ (q.2.2.2.2.2.1 bt2 : Int) - h.2.2.2.1 bt) ∧ (((q.2.2.2.1 : Int) - h.2.1) ≤ 2 * ((q.2.2.2.2.2.1 bt2 : Int) - h.2.2.2.1 bt)) ∧ ((h.2.2.2.1 bt : Int) ≤ (q.2.2.2.2.2.1 bt2 : Int)) ∧ (c1 ≤ (q.2.2.2.2.2.1 bt2 : Int))) := by
  have hS : gSs rT 1027 ty [56000, 56001, 114999] h h := gSs.rf hJ
  have G0 : gSg [114] [] [56000, 56001, 114999] ty h ty h := gSg.rf hJ (fun x hx => by cases hx)
  refine gz_s 3 (pc' := 4) (L' := [some (.ref x), some (.int (zi v))]) (S' := [.int (zi 8), .int (zi v), .ref x]) rfl ?_
  refine gy_shc (n := 8) (v := 256) rfl (by decide) (by omega) (by decide) (by decide) rfl ?_
  have hl1 : h.2.2.2.1 bt = h.2.2.2.1 bt := congrFun hS.2.2.2.2.1 bt
  refine gz_call rfl (by decide) rfl (by decide) (by decide) (gcal_of rfl rfl rfl (Nat.le_of_ble_eq_true rfl) (gJ.recv (G := gGG) hS.1 tx rfl rfl)) (cl_Sink_putByte _ hS.1 x tx (v / 256) (by omega) bt ebt tbt c0 ec0 (by omega) (by omega) uq) (fun q2 _ wq2 => ?_)
  obtain ⟨pq2, oq2, hq2⟩ := q2
  obtain ⟨tyq2, xq2, cq2_0, ttq2, fq2_0, ecq2_0, tcq2_0, gq2, efq2_0, afq2_0, bfq2_0, uq2_0, uq2_1, uq2_2, uq2_3, uq2_4⟩ := wq2
  dsimp only at uq2_1 uq2_2 uq2_3 uq2_4
  refine ⟨_, gq2, ?_⟩
  show gz gPP gGG gcn _ _ 8 [some (.ref x), some (.int (zi v))] [] hq2 _
  have G3 : gSg [114] [] [56000, 56001, 114999] ty h tyq2 hq2 := gSg.tr (gSg.ss G0 hS (by decide)) xq2 (by decide) (by decide) (fun x hx => by cases hx)
  have t4 : tyq2 x = 56 := gSg.typ xq2 hS.1 tx rfl
  have t5 : tyq2 bt = 114 := gSg.typ xq2 hS.1 tbt rfl
  have hl6 : hq2.2.2.2.1 bt = h.2.2.2.1 bt := gSg.len xq2 hS.1 tbt rfl
  have uq7 := gSg.uq xq2 uq (by decide)
  have sS8 : gSs rT 1027 tyq2 [56000, 56001, 114999] hq2 hq2 := gSs.rf xq2.1
  refine gz_s 2 (pc' := 10) (L' := [some (.ref x), some (.int (zi v))]) (S' := [.int (zi v), .ref x]) rfl ?_
  have hl9 : hq2.2.2.2.1 cq2_0 = hq2.2.2.2.1 cq2_0 := congrFun sS8.2.2.2.2.1 cq2_0
  refine gz_call rfl (by decide) rfl (by decide) (by decide) (gcal_of rfl rfl rfl (Nat.le_of_ble_eq_true rfl) (gJ.recv (G := gGG) sS8.1 t4 rfl rfl)) (cl_Sink_putByte _ sS8.1 x t4 v (by omega) cq2_0 ecq2_0 tcq2_0 fq2_0 efq2_0 (by omega) (by omega) uq7) (fun q10 _ wq10 => ?_)
  obtain ⟨pq10, oq10, hq10⟩ := q10
  obtain ⟨tyq10, xq10, cq10_0, ttq10, fq10_0, ecq10_0, tcq10_0, gq10, efq10_0, afq10_0, bfq10_0, uq10_0, uq10_1, uq10_2, uq10_3, uq10_4⟩ := wq10
  dsimp only at uq10_1 uq10_2 uq10_3 uq10_4
  refine ⟨_, gq10, ?_⟩
  show gz gPP gGG gcn _ _ 13 [some (.ref x), some (.int (zi v))] [] hq10 _
  have G11 : gSg [114] [] [56000, 56001, 114999] ty h tyq10 hq10 := gSg.tr (gSg.ss G3 sS8 (by decide)) xq10 (by decide) (by decide) (fun x hx => by cases hx)
  have t12 : tyq10 x = 56 := gSg.typ xq10 sS8.1 t4 rfl
  have t13 : tyq10 bt = 114 := gSg.typ xq10 sS8.1 t5 rfl
  have hl14 : hq10.2.2.2.1 bt = hq2.2.2.2.1 bt := gSg.len xq10 sS8.1 t5 rfl
  have t15 : tyq10 cq2_0 = 114 := gSg.typ xq10 sS8.1 tcq2_0 rfl
  have hl16 : hq10.2.2.2.1 cq2_0 = hq2.2.2.2.1 cq2_0 := gSg.len xq10 sS8.1 tcq2_0 rfl
  have uq17 := gSg.uq xq10 uq7 (by decide)
  have sS18 : gSs rT 1027 tyq10 [56000, 56001, 114999] hq10 hq10 := gSs.rf xq10.1
  have G19 : gSg [114] [] [56000, 56001, 114999] ty h tyq10 hq10 := gSg.ss G11 sS18 (by decide)
  exact gz_end (I := .return_) (len := 1) rfl (Or.inl rfl) ⟨tyq10, G19, cq10_0, trivial, fq10_0, ecq10_0, tcq10_0, rfl, efq10_0, (by omega), (by omega), (by omega), (by dsimp only; omega), (by dsimp only; omega), (by dsimp only; omega), (by dsimp only; omega)⟩
set_option maxRecDepth 20000 in
set_option maxHeartbeats 4000000 in
theorem cl_Sink_putMarker (d : Nat) {ty : Nat → Nat} {h : gH} (hJ : gJ rT 1027 ty h) (x : Nat) (tx : ty x = 56) (v : Int) (rv : (-2147483648) ≤ v ∧ v ≤ 2147483647) (bt : Nat) (ebt : h.2.2.2.2 x 0 = .ref bt) (tbt : ty bt = 114) (c0 : Int) (ec0 : h.2.2.2.2 x 1 = .int (zi c0)) (rc0 : 0 ≤ c0 ∧ c0 ≤ 499998) (pp0 : c0 ≤ (h.2.2.2.1 bt : Int)) (uq : gUq ty) : gz gPP gGG gcn (d + 3) gt101 0 (gent [.ref x, .int (zi v)] 2) [] h (fun q _ => ∃ ty9 : Nat → Nat, gSg [114] [] [56000, 56001, 114999] ty h ty9 q.2.2 ∧ ∃ bt2 : Nat, True ∧ ∃ c1 : Int, q.2.2.2.2.2.2 x 0 = .ref bt2 ∧ ty9 bt2 = 114 ∧ gfin gt101 q.1 q.2.1 = some none ∧ q.2.2.2.2.2.2 x 1 = .int (zi c1) ∧ 0 ≤ c1 ∧ c1 ≤ 500000 ∧ (c1 = c0 + 2) ∧ (1024 * ((q.2.2.1 : Int) - h.1) ≤ (q.2.2.2.2.2.1 bt2 : Int) - h.2.2.2.1 bt) ∧ (((q.2.2.2.1 : Int) - h.2.1) ≤ 2 * ((q.2.2.2.2.2.1 bt2 : Int) - h.2.2.2.1 bt)) ∧ ((h.2.2.2.1 bt : Int) ≤ (q.2.2.2.2.2.1 bt2 : Int)) ∧ (c1 ≤ (q.2.2.2.2.2.1 bt2 : Int))) := by
  have hS : gSs rT 1027 ty [56000, 56001, 114999] h h := gSs.rf hJ
  have G0 : gSg [114] [] [56000, 56001, 114999] ty h ty h := gSg.rf hJ (fun x hx => by cases hx)
  refine gz_s 2 (pc' := 4) (L' := [some (.ref x), some (.int (zi v))]) (S' := [.int (zi 255), .ref x]) rfl ?_
  have hl1 : h.2.2.2.1 bt = h.2.2.2.1 bt := congrFun hS.2.2.2.2.1 bt
  refine gz_call rfl (by decide) rfl (by decide) (by decide) (gcal_of rfl rfl rfl (Nat.le_of_ble_eq_true rfl) (gJ.recv (G := gGG) hS.1 tx rfl rfl)) (cl_Sink_putByte _ hS.1 x tx 255 (by omega) bt ebt tbt c0 ec0 (by omega) (by omega) uq) (fun q2 _ wq2 => ?_)
  obtain ⟨pq2, oq2, hq2⟩ := q2
  obtain ⟨tyq2, xq2, cq2_0, ttq2, fq2_0, ecq2_0, tcq2_0, gq2, efq2_0, afq2_0, bfq2_0, uq2_0, uq2_1, uq2_2, uq2_3, uq2_4⟩ := wq2
  dsimp only at uq2_1 uq2_2 uq2_3 uq2_4
  refine ⟨_, gq2, ?_⟩
  show gz gPP gGG gcn _ _ 7 [some (.ref x), some (.int (zi v))] [] hq2 _
  have G3 : gSg [114] [] [56000, 56001, 114999] ty h tyq2 hq2 := gSg.tr (gSg.ss G0 hS (by decide)) xq2 (by decide) (by decide) (fun x hx => by cases hx)
  have t4 : tyq2 x = 56 := gSg.typ xq2 hS.1 tx rfl
  have t5 : tyq2 bt = 114 := gSg.typ xq2 hS.1 tbt rfl
  have hl6 : hq2.2.2.2.1 bt = h.2.2.2.1 bt := gSg.len xq2 hS.1 tbt rfl
  have uq7 := gSg.uq xq2 uq (by decide)
  have sS8 : gSs rT 1027 tyq2 [56000, 56001, 114999] hq2 hq2 := gSs.rf xq2.1
  refine gz_s 2 (pc' := 9) (L' := [some (.ref x), some (.int (zi v))]) (S' := [.int (zi v), .ref x]) rfl ?_
  have hl9 : hq2.2.2.2.1 cq2_0 = hq2.2.2.2.1 cq2_0 := congrFun sS8.2.2.2.2.1 cq2_0
  refine gz_call rfl (by decide) rfl (by decide) (by decide) (gcal_of rfl rfl rfl (Nat.le_of_ble_eq_true rfl) (gJ.recv (G := gGG) sS8.1 t4 rfl rfl)) (cl_Sink_putByte _ sS8.1 x t4 v (by omega) cq2_0 ecq2_0 tcq2_0 fq2_0 efq2_0 (by omega) (by omega) uq7) (fun q10 _ wq10 => ?_)
  obtain ⟨pq10, oq10, hq10⟩ := q10
  obtain ⟨tyq10, xq10, cq10_0, ttq10, fq10_0, ecq10_0, tcq10_0, gq10, efq10_0, afq10_0, bfq10_0, uq10_0, uq10_1, uq10_2, uq10_3, uq10_4⟩ := wq10
  dsimp only at uq10_1 uq10_2 uq10_3 uq10_4
  refine ⟨_, gq10, ?_⟩
  show gz gPP gGG gcn _ _ 12 [some (.ref x), some (.int (zi v))] [] hq10 _
  have G11 : gSg [114] [] [56000, 56001, 114999] ty h tyq10 hq10 := gSg.tr (gSg.ss G3 sS8 (by decide)) xq10 (by decide) (by decide) (fun x hx => by cases hx)
  have t12 : tyq10 x = 56 := gSg.typ xq10 sS8.1 t4 rfl
  have t13 : tyq10 bt = 114 := gSg.typ xq10 sS8.1 t5 rfl
  have hl14 : hq10.2.2.2.1 bt = hq2.2.2.2.1 bt := gSg.len xq10 sS8.1 t5 rfl
  have t15 : tyq10 cq2_0 = 114 := gSg.typ xq10 sS8.1 tcq2_0 rfl
  have hl16 : hq10.2.2.2.1 cq2_0 = hq2.2.2.2.1 cq2_0 := gSg.len xq10 sS8.1 tcq2_0 rfl
  have uq17 := gSg.uq xq10 uq7 (by decide)
  have sS18 : gSs rT 1027 tyq10 [56000, 56001, 114999] hq10 hq10 := gSs.rf xq10.1
  have G19 : gSg [114] [] [56000, 56001, 114999] ty h tyq10 hq10 := gSg.ss G11 sS18 (by decide)
  exact gz_end (I := .return_) (len := 1) rfl (Or.inl rfl) ⟨tyq10, G19, cq10_0, trivial, fq10_0, ecq10_0, tcq10_0, rfl, efq10_0, (by omega), (by omega), (by omega), (by dsimp only; omega), (by dsimp only; omega), (by dsimp only; omega), (by dsimp only; omega)⟩
set_option maxRecDepth 20000 in
set_option maxHeartbeats 4000000 in
theorem cl_Sink_putBits (d : Nat) {ty : Nat → Nat} {h : gH} (hJ : gJ rT 1027 ty h) (x : Nat) (tx : ty x = 56) (v : Int) (rv : (-2147483648) ≤ v ∧ v ≤ 2147483647) (n : Int) (rn : 0 ≤ n ∧ n ≤ 300) (bt : Nat) (ebt : h.2.2.2.2 x 0 = .ref bt) (tbt : ty bt = 114) (c0 : Int) (ec0 : h.2.2.2.2 x 1 = .int (zi c0)) (rc0 : 0 ≤ c0 ∧ c0 ≤ 499999) (h0 : Int) (eh0 : h.2.2.2.2 x 3 = .int (zi h0)) (rh0 : 0 ≤ h0 ∧ h0 ≤ 7) (pp0 : 4 * c0 + h0 + n ≤ 1999990) (pp1 : c0 ≤ (h.2.2.2.1 bt : Int)) (uq : gUq ty) : gz gPP gGG gcn (d + 3) gt109 0 (gent [.ref x, .int (zi v), .int (zi n)] 4) [] h (fun q _ => ∃ ty9 : Nat → Nat, gSg [114] [] [56000, 56001, 56002, 56003, 114999] ty h ty9 q.2.2 ∧ ∃ bt2 : Nat, True ∧ ∃ c1 h1 : Int, q.2.2.2.2.2.2 x 0 = .ref bt2 ∧ ty9 bt2 = 114 ∧ gfin gt109 q.1 q.2.1 = some none ∧ q.2.2.2.2.2.2 x 1 = .int (zi c1) ∧ 0 ≤ c1 ∧ c1 ≤ 500000 ∧ q.2.2.2.2.2.2 x 3 = .int (zi h1) ∧ 0 ≤ h1 ∧ h1 ≤ 7 ∧ (4 * c1 + h1 ≤ 4 * c0 + h0 + n) ∧ (c0 ≤ c1) ∧ (1024 * ((q.2.2.1 : Int) - h.1) ≤ (q.2.2.2.2.2.1 bt2 : Int) - h.2.2.2.1 bt) ∧ (((q.2.2.2.1 : Int) - h.2.1) ≤ 2 * ((q.2.2.2.2.2.1 bt2 : Int) - h.2.2.2.1 bt)) ∧ ((h.2.2.2.1 bt : Int) ≤ (q.2.2.2.2.2.1 bt2 : Int)) ∧ (c1 ≤ (q.2.2.2.2.2.1 bt2 : Int))) := by
  have hS : gSs rT 1027 ty [56000, 56001, 56002, 56003, 114999] h h := gSs.rf hJ
  have G0 : gSg [114] [] [56000, 56001, 56002, 56003, 114999] ty h ty h := gSg.rf hJ (fun x hx => by cases hx)
  refine gy_s 4 (pc' := 4) (L' := [some (.ref x), some (.int (zi v)), some (.int (zi n)), some (.int ((zi n) - (zi 1)))]) (S' := []) (L2 := [some (.ref x), some (.int (zi v)), some (.int (zi n)), some (.int (zi (n - 1)))]) (S2 := []) rfl (by simp only [zi_add, zi_sub, zi_mul, zi_neg, zi_and1, zi_and7, zi_and15, zi_and31, zi_and255]) (by simp only [zi_add, zi_sub, zi_mul, zi_neg, zi_and1, zi_and7, zi_and15, zi_and31, zi_and255]) ?_
  have lp1 : ∀ (fu : Nat) (ty3 : Nat → Nat) (h2 : gH) (bv : Nat) (i : Int) (cv : Int) (hv : Int), (i + 1).toNat < fu → gSg [114] [] [56000, 56001, 56002, 56003, 114999] ty h ty3 h2 → gUq ty3 → ty3 x = 56 → h2.2.2.2.2 x 0 = .ref bv → ty3 bv = 114 → ((-1) ≤ i ∧ i ≤ 299) → (0 ≤ cv ∧ cv ≤ 499999) → (0 ≤ hv ∧ hv ≤ 7) → (4 * cv + hv ≤ 4 * c0 + h0 + (n - 1 - i)) → (c0 ≤ cv) → (i ≤ n - 1) → (1024 * ((h2.1 : Int) - h.1) ≤ (h2.2.2.2.1 bv : Int) - h.2.2.2.1 bt) → (((h2.2.1 : Int) - h.2.1) ≤ 2 * ((h2.2.2.2.1 bv : Int) - h.2.2.2.1 bt)) → ((h.2.2.2.1 bt : Int) ≤ (h2.2.2.2.1 bv : Int)) → (cv ≤ (h2.2.2.2.1 bv : Int)) → h2.2.2.2.2 x 1 = .int (zi cv) → h2.2.2.2.2 x 3 = .int (zi hv) → gz gPP gGG gcn (d + 3) gt109 4 [some (.ref x), some (.int (zi v)), some (.int (zi n)), some (.int (zi i))] [] h2 (fun q _ => ∃ ty9 : Nat → Nat, gSg [114] [] [56000, 56001, 56002, 56003, 114999] ty h ty9 q.2.2 ∧ ∃ bt2 : Nat, True ∧ ∃ c1 h1 : Int, q.2.2.2.2.2.2 x 0 = .ref bt2 ∧ ty9 bt2 = 114 ∧ gfin gt109 q.1 q.2.1 = some none ∧ q.2.2.2.2.2.2 x 1 = .int (zi c1) ∧ 0 ≤ c1 ∧ c1 ≤ 500000 ∧ q.2.2.2.2.2.2 x 3 = .int (zi h1) ∧ 0 ≤ h1 ∧ h1 ≤ 7 ∧ (4 * c1 + h1 ≤ 4 * c0 + h0 + n) ∧ (c0 ≤ c1) ∧ (1024 * ((q.2.2.1 : Int) - h.1) ≤ (q.2.2.2.2.2.1 bt2 : Int) - h.2.2.2.1 bt) ∧ (((q.2.2.2.1 : Int) - h.2.1) ≤ 2 * ((q.2.2.2.2.2.1 bt2 : Int) - h.2.2.2.1 bt)) ∧ ((h.2.2.2.1 bt : Int) ≤ (q.2.2.2.2.2.1 bt2 : Int)) ∧ (c1 ≤ (q.2.2.2.2.2.1 bt2 : Int))) := by
    intro fu
    induction fu with
    | zero => intro ty3 h2 bv i cv hv hm; exact absurd hm (Nat.not_lt_zero _)
    | succ fu ihlp1 =>
      intro ty3 h2 bv i cv hv lp1m lp1G lp1u lp1c0 lp1r0 lp1r1 lp1f0 lp1f1 lp1f2 lp1f3 lp1f4 lp1f5 lp1f6 lp1f7 lp1f8 lp1f9 lp1k0 lp1k1
      have sh2 : gSs rT 1027 ty3 [56000, 56001, 56002, 56003, 114999] h2 h2 := gSs.rf lp1G.1
      refine gz_s 1 (pc' := 5) (L' := [some (.ref x), some (.int (zi v)), some (.int (zi n)), some (.int (zi i))]) (S' := [.int (zi i)]) rfl ?_
      by_cases hc4 : (i : Int) < 0
      · refine gy_ifT (pc' := 82) rfl (by decide) (by decide) (by omega) hc4 ?_
        have G5 : gSg [114] [] [56000, 56001, 56002, 56003, 114999] ty h ty3 h2 := gSg.ss lp1G sh2 (by decide)
        exact gz_end (I := .return_) (len := 1) rfl (Or.inl rfl) ⟨ty3, G5, bv, trivial, cv, hv, lp1r0, lp1r1, rfl, lp1k0, (by omega), (by omega), lp1k1, (by omega), (by omega), (by omega), (by omega), (by dsimp only; omega), (by dsimp only; omega), (by dsimp only; omega), (by dsimp only; omega)⟩
      · refine gy_ifF rfl (by decide) (by decide) (by omega) hc4 ?_
        refine gz_s 3 (pc' := 11) (L' := [some (.ref x), some (.int (zi v)), some (.int (zi n)), some (.int (zi i))]) (S' := [.ref x, .int (zi 2), .ref x]) rfl ?_
        refine gs_get rfl (by decide) rfl sh2.1 lp1c0 rfl rfl rfl (fun z6 ez6 az6 bz6 => ?_)
        refine gy_s 1 (pc' := 15) (L' := [some (.ref x), some (.int (zi v)), some (.int (zi n)), some (.int (zi i))]) (S' := [.int ((zi 2) * (zi z6)), .ref x]) (L2 := [some (.ref x), some (.int (zi v)), some (.int (zi n)), some (.int (zi i))]) (S2 := [.int (zi (2 * z6)), .ref x]) rfl (by simp only [zi_add, zi_sub, zi_mul, zi_neg, zi_and1, zi_and7, zi_and15, zi_and31, zi_and255]) (by simp only [zi_add, zi_sub, zi_mul, zi_neg, zi_and1, zi_and7, zi_and15, zi_and31, zi_and255]) ?_
        refine gy_any (fun z7 ez7 az7 bz7 => ?_)
        refine gz_s 2 (pc' := 17) (L' := [some (.ref x), some (.int (zi v)), some (.int (zi n)), some (.int (zi i))]) (S' := [.int (zi i), .int (zi v), .int (zi z7), .ref x]) rfl ?_
        refine gy_iiv rfl (by decide) rfl (fun _ _ => rfl) (fun z8 ez8 az8 bz8 => ?_)
        refine gy_s 3 (pc' := 21) (L' := [some (.ref x), some (.int (zi v)), some (.int (zi n)), some (.int (zi i))]) (S' := [.int ((zi z7) + ((zi z8) &&& (zi 1))), .ref x]) (L2 := [some (.ref x), some (.int (zi v)), some (.int (zi n)), some (.int (zi i))]) (S2 := [.int (zi (z7 + (z8 % 2))), .ref x]) rfl (by simp only [zi_add, zi_sub, zi_mul, zi_neg, zi_and1, zi_and7, zi_and15, zi_and31, zi_and255]) (by simp only [zi_add, zi_sub, zi_mul, zi_neg, zi_and1, zi_and7, zi_and15, zi_and31, zi_and255]) ?_
        refine gy_any (fun z9 ez9 az9 bz9 => ?_)
        refine gs_put rfl (by decide) rfl sh2 lp1c0 rfl rfl rfl rfl (Or.inl rfl) (by decide) (by omega) (by omega) (fun h10 sh10 eh10 fh10 => ?_)
        have s11 := (fh10 x 1 (fun q => absurd q.2 (by decide))).trans lp1k0
        have s12 := (fh10 x 3 (fun q => absurd q.2 (by decide))).trans lp1k1
        have s13 := (fh10 x 0 (fun q => absurd q.2 (by decide))).trans lp1r0
        refine gz_s 2 (pc' := 26) (L' := [some (.ref x), some (.int (zi v)), some (.int (zi n)), some (.int (zi i))]) (S' := [.ref x, .ref x]) rfl ?_
        refine gs_gtk rfl (by decide) rfl sh10.1 lp1c0 rfl rfl s12 ?_
        refine gy_s 2 (pc' := 31) (L' := [some (.ref x), some (.int (zi v)), some (.int (zi n)), some (.int (zi i))]) (S' := [.int ((zi hv) + (zi 1)), .ref x]) (L2 := [some (.ref x), some (.int (zi v)), some (.int (zi n)), some (.int (zi i))]) (S2 := [.int (zi (hv + 1)), .ref x]) rfl (by simp only [zi_add, zi_sub, zi_mul, zi_neg, zi_and1, zi_and7, zi_and15, zi_and31, zi_and255]) (by simp only [zi_add, zi_sub, zi_mul, zi_neg, zi_and1, zi_and7, zi_and15, zi_and31, zi_and255]) ?_
        refine gs_put rfl (by decide) rfl sh10 lp1c0 rfl rfl rfl rfl (Or.inl rfl) (by decide) (by omega) (by omega) (fun h14 sh14 eh14 fh14 => ?_)
        have s15 := (fh14 x 1 (fun q => absurd q.2 (by decide))).trans s11
        have s16 := (fh14 x 0 (fun q => absurd q.2 (by decide))).trans s13
        have s17 := (fh14 x 2 (fun q => absurd q.2 (by decide))).trans eh10
        refine gz_s 1 (pc' := 35) (L' := [some (.ref x), some (.int (zi v)), some (.int (zi n)), some (.int (zi i))]) (S' := [.ref x]) rfl ?_
        refine gs_gtk rfl (by decide) rfl sh14.1 lp1c0 rfl rfl eh14 ?_
        refine gz_s 1 (pc' := 40) (L' := [some (.ref x), some (.int (zi v)), some (.int (zi n)), some (.int (zi i))]) (S' := [.int (zi 8), .int (zi (hv + 1))]) rfl ?_
        by_cases hc18 : ¬ (hv + 1 : Int) = 8
        · refine gy_icT (pc' := 76) rfl (by decide) (by decide) (by omega) (by omega) hc18 ?_
          refine gy_s 2 (pc' := 4) (L' := [some (.ref x), some (.int (zi v)), some (.int (zi n)), some (.int ((zi i) + zi (-1)))]) (S' := []) (L2 := [some (.ref x), some (.int (zi v)), some (.int (zi n)), some (.int (zi (i + (-1))))]) (S2 := []) rfl (by simp only [zi_add, zi_sub, zi_mul, zi_neg, zi_and1, zi_and7, zi_and15, zi_and31, zi_and255]) (by simp only [zi_add, zi_sub, zi_mul, zi_neg, zi_and1, zi_and7, zi_and15, zi_and31, zi_and255]) ?_
          have k19 := sh14.2.1
          have k19b := sh14.2.2.1
          have hl20 : h14.2.2.2.1 bv = h2.2.2.2.1 bv := congrFun sh14.2.2.2.2.1 bv
          have G21 : gSg [114] [] [56000, 56001, 56002, 56003, 114999] ty h ty3 h14 := gSg.ss lp1G sh14 (by decide)
          exact gz_wk (ihlp1 ty3 h14 bv (i + (-1)) cv (hv + 1) (by omega) G21 lp1u lp1c0 s16 lp1r1 (by omega) (by omega) (by omega) (by omega) (by omega) (by omega) (by omega) (by omega) (by omega) (by omega) s15 eh14) (gLw.s (gLw.s (gLw.s (gLw.s gLw.z))))
        · refine gy_icF rfl (by decide) (by decide) (by omega) (by omega) hc18 ?_
          refine gz_s 2 (pc' := 45) (L' := [some (.ref x), some (.int (zi v)), some (.int (zi n)), some (.int (zi i))]) (S' := [.ref x, .ref x]) rfl ?_
          refine gs_gtk rfl (by decide) rfl sh14.1 lp1c0 rfl rfl s17 ?_
          have k22 := sh14.2.1
          have k22b := sh14.2.2.1
          have hl23 : h14.2.2.2.1 bv = h2.2.2.2.1 bv := congrFun sh14.2.2.2.2.1 bv
          have hl24 : h14.2.2.2.1 bv = h2.2.2.2.1 bv := congrFun sh14.2.2.2.2.1 bv
          refine gz_call rfl (by decide) rfl (by decide) (by decide) (gcal_of rfl rfl rfl (Nat.le_of_ble_eq_true rfl) (gJ.recv (G := gGG) sh14.1 lp1c0 rfl rfl)) (cl_Sink_putByte _ sh14.1 x lp1c0 z9 (by omega) bv s16 lp1r1 cv s15 (by omega) (by omega) lp1u) (fun q25 _ wq25 => ?_)
          obtain ⟨pq25, oq25, hq25⟩ := q25
          obtain ⟨tyq25, xq25, cq25_0, ttq25, fq25_0, ecq25_0, tcq25_0, gq25, efq25_0, afq25_0, bfq25_0, uq25_0, uq25_1, uq25_2, uq25_3, uq25_4⟩ := wq25
          dsimp only at uq25_1 uq25_2 uq25_3 uq25_4
          refine ⟨_, gq25, ?_⟩
          show gz gPP gGG gcn _ _ 51 [some (.ref x), some (.int (zi v)), some (.int (zi n)), some (.int (zi i))] [] hq25 _
          have G26 : gSg [114] [] [56000, 56001, 56002, 56003, 114999] ty h tyq25 hq25 := gSg.tr (gSg.ss lp1G sh14 (by decide)) xq25 (by decide) (by decide) (fun x hx => by cases hx)
          have t27 : tyq25 x = 56 := gSg.typ xq25 sh14.1 lp1c0 rfl
          have t28 : tyq25 bv = 114 := gSg.typ xq25 sh14.1 lp1r1 rfl
          have hl29 : hq25.2.2.2.1 bv = h14.2.2.2.1 bv := gSg.len xq25 sh14.1 lp1r1 rfl
          have s30 := gSg.at xq25 sh14.1 lp1c0 rfl (by decide) s17
          have s31 := gSg.at xq25 sh14.1 lp1c0 rfl (by decide) eh14
          have uq32 := gSg.uq xq25 lp1u (by decide)
          have sS33 : gSs rT 1027 tyq25 [56000, 56001, 56002, 56003, 114999] hq25 hq25 := gSs.rf xq25.1
          refine gz_s 1 (pc' := 52) (L' := [some (.ref x), some (.int (zi v)), some (.int (zi n)), some (.int (zi i))]) (S' := [.ref x]) rfl ?_
          refine gs_gtk rfl (by decide) rfl sS33.1 t27 rfl rfl s30 ?_
          refine gz_s 1 (pc' := 58) (L' := [some (.ref x), some (.int (zi v)), some (.int (zi n)), some (.int (zi i))]) (S' := [.int (zi 255), .int (zi z9)]) rfl ?_
          by_cases hc34 : ¬ (z9 : Int) = 255
          · refine gy_icT (pc' := 66) rfl (by decide) (by decide) (by omega) (by omega) hc34 ?_
            refine gz_s 2 (pc' := 68) (L' := [some (.ref x), some (.int (zi v)), some (.int (zi n)), some (.int (zi i))]) (S' := [.int (zi 0), .ref x]) rfl ?_
            refine gs_put rfl (by decide) rfl sS33 t27 rfl rfl rfl rfl (Or.inl rfl) (by decide) (by omega) (by omega) (fun h35 sh35 eh35 fh35 => ?_)
            have s36 := (fh35 x 3 (fun q => absurd q.2 (by decide))).trans s31
            have s37 := (fh35 x 0 (fun q => absurd q.2 (by decide))).trans ecq25_0
            have s38 := (fh35 x 1 (fun q => absurd q.2 (by decide))).trans efq25_0
            refine gz_s 2 (pc' := 73) (L' := [some (.ref x), some (.int (zi v)), some (.int (zi n)), some (.int (zi i))]) (S' := [.int (zi 0), .ref x]) rfl ?_
            refine gs_put rfl (by decide) rfl sh35 t27 rfl rfl rfl rfl (Or.inl rfl) (by decide) (by omega) (by omega) (fun h39 sh39 eh39 fh39 => ?_)
            have s40 := (fh39 x 0 (fun q => absurd q.2 (by decide))).trans s37
            have s41 := (fh39 x 1 (fun q => absurd q.2 (by decide))).trans s38
            have s42 := (fh39 x 2 (fun q => absurd q.2 (by decide))).trans eh35
            refine gy_s 2 (pc' := 4) (L' := [some (.ref x), some (.int (zi v)), some (.int (zi n)), some (.int ((zi i) + zi (-1)))]) (S' := []) (L2 := [some (.ref x), some (.int (zi v)), some (.int (zi n)), some (.int (zi (i + (-1))))]) (S2 := []) rfl (by simp only [zi_add, zi_sub, zi_mul, zi_neg, zi_and1, zi_and7, zi_and15, zi_and31, zi_and255]) (by simp only [zi_add, zi_sub, zi_mul, zi_neg, zi_and1, zi_and7, zi_and15, zi_and31, zi_and255]) ?_
            have k43 := sh39.2.1
            have k43b := sh39.2.2.1
            have hl44 : h39.2.2.2.1 bv = hq25.2.2.2.1 bv := congrFun sh39.2.2.2.2.1 bv
            have hl45 : h39.2.2.2.1 cq25_0 = hq25.2.2.2.1 cq25_0 := congrFun sh39.2.2.2.2.1 cq25_0
            have G46 : gSg [114] [] [56000, 56001, 56002, 56003, 114999] ty h tyq25 h39 := gSg.ss G26 sh39 (by decide)
            exact gz_wk (ihlp1 tyq25 h39 cq25_0 (i + (-1)) fq25_0 0 (by omega) G46 uq32 t27 s40 tcq25_0 (by omega) (by omega) (by omega) (by omega) (by omega) (by omega) (by omega) (by omega) (by omega) (by omega) s41 eh39) (gLw.s (gLw.s (gLw.s (gLw.s gLw.z))))
          · refine gy_icF rfl (by decide) (by decide) (by omega) (by omega) hc34 ?_
            refine gz_s 2 (pc' := 63) (L' := [some (.ref x), some (.int (zi v)), some (.int (zi n)), some (.int (zi i))]) (S' := [.int (zi 0), .ref x]) rfl ?_
            have hl47 : hq25.2.2.2.1 cq25_0 = hq25.2.2.2.1 cq25_0 := congrFun sS33.2.2.2.2.1 cq25_0
            refine gz_call rfl (by decide) rfl (by decide) (by decide) (gcal_of rfl rfl rfl (Nat.le_of_ble_eq_true rfl) (gJ.recv (G := gGG) sS33.1 t27 rfl rfl)) (cl_Sink_putByte _ sS33.1 x t27 0 (by omega) cq25_0 ecq25_0 tcq25_0 fq25_0 efq25_0 (by omega) (by omega) uq32) (fun q48 _ wq48 => ?_)
            obtain ⟨pq48, oq48, hq48⟩ := q48
            obtain ⟨tyq48, xq48, cq48_0, ttq48, fq48_0, ecq48_0, tcq48_0, gq48, efq48_0, afq48_0, bfq48_0, uq48_0, uq48_1, uq48_2, uq48_3, uq48_4⟩ := wq48
            dsimp only at uq48_1 uq48_2 uq48_3 uq48_4
            refine ⟨_, gq48, ?_⟩
            show gz gPP gGG gcn _ _ 66 [some (.ref x), some (.int (zi v)), some (.int (zi n)), some (.int (zi i))] [] hq48 _
            have G49 : gSg [114] [] [56000, 56001, 56002, 56003, 114999] ty h tyq48 hq48 := gSg.tr (gSg.ss G26 sS33 (by decide)) xq48 (by decide) (by decide) (fun x hx => by cases hx)
            have t50 : tyq48 x = 56 := gSg.typ xq48 sS33.1 t27 rfl
            have t51 : tyq48 bv = 114 := gSg.typ xq48 sS33.1 t28 rfl
            have hl52 : hq48.2.2.2.1 bv = hq25.2.2.2.1 bv := gSg.len xq48 sS33.1 t28 rfl
            have t53 : tyq48 cq25_0 = 114 := gSg.typ xq48 sS33.1 tcq25_0 rfl
            have hl54 : hq48.2.2.2.1 cq25_0 = hq25.2.2.2.1 cq25_0 := gSg.len xq48 sS33.1 tcq25_0 rfl
            have s55 := gSg.at xq48 sS33.1 t27 rfl (by decide) s30
            have s56 := gSg.at xq48 sS33.1 t27 rfl (by decide) s31
            have uq57 := gSg.uq xq48 uq32 (by decide)
            have sS58 : gSs rT 1027 tyq48 [56000, 56001, 56002, 56003, 114999] hq48 hq48 := gSs.rf xq48.1
            refine gz_s 2 (pc' := 68) (L' := [some (.ref x), some (.int (zi v)), some (.int (zi n)), some (.int (zi i))]) (S' := [.int (zi 0), .ref x]) rfl ?_
            refine gs_put rfl (by decide) rfl sS58 t50 rfl rfl rfl rfl (Or.inl rfl) (by decide) (by omega) (by omega) (fun h59 sh59 eh59 fh59 => ?_)
            have s60 := (fh59 x 3 (fun q => absurd q.2 (by decide))).trans s56
            have s61 := (fh59 x 0 (fun q => absurd q.2 (by decide))).trans ecq48_0
            have s62 := (fh59 x 1 (fun q => absurd q.2 (by decide))).trans efq48_0
            refine gz_s 2 (pc' := 73) (L' := [some (.ref x), some (.int (zi v)), some (.int (zi n)), some (.int (zi i))]) (S' := [.int (zi 0), .ref x]) rfl ?_
            refine gs_put rfl (by decide) rfl sh59 t50 rfl rfl rfl rfl (Or.inl rfl) (by decide) (by omega) (by omega) (fun h63 sh63 eh63 fh63 => ?_)
            have s64 := (fh63 x 0 (fun q => absurd q.2 (by decide))).trans s61
            have s65 := (fh63 x 1 (fun q => absurd q.2 (by decide))).trans s62
            have s66 := (fh63 x 2 (fun q => absurd q.2 (by decide))).trans eh59
            refine gy_s 2 (pc' := 4) (L' := [some (.ref x), some (.int (zi v)), some (.int (zi n)), some (.int ((zi i) + zi (-1)))]) (S' := []) (L2 := [some (.ref x), some (.int (zi v)), some (.int (zi n)), some (.int (zi (i + (-1))))]) (S2 := []) rfl (by simp only [zi_add, zi_sub, zi_mul, zi_neg, zi_and1, zi_and7, zi_and15, zi_and31, zi_and255]) (by simp only [zi_add, zi_sub, zi_mul, zi_neg, zi_and1, zi_and7, zi_and15, zi_and31, zi_and255]) ?_
            have k67 := sh63.2.1
            have k67b := sh63.2.2.1
            have hl68 : h63.2.2.2.1 bv = hq48.2.2.2.1 bv := congrFun sh63.2.2.2.2.1 bv
            have hl69 : h63.2.2.2.1 cq25_0 = hq48.2.2.2.1 cq25_0 := congrFun sh63.2.2.2.2.1 cq25_0
            have hl70 : h63.2.2.2.1 cq48_0 = hq48.2.2.2.1 cq48_0 := congrFun sh63.2.2.2.2.1 cq48_0
            have G71 : gSg [114] [] [56000, 56001, 56002, 56003, 114999] ty h tyq48 h63 := gSg.ss G49 sh63 (by decide)
            exact gz_wk (ihlp1 tyq48 h63 cq48_0 (i + (-1)) fq48_0 0 (by omega) G71 uq57 t50 s64 tcq48_0 (by omega) (by omega) (by omega) (by omega) (by omega) (by omega) (by omega) (by omega) (by omega) (by omega) s65 eh63) (gLw.s (gLw.s (gLw.s (gLw.s gLw.z))))
  have G72 : gSg [114] [] [56000, 56001, 56002, 56003, 114999] ty h ty h := gSg.ss G0 hS (by decide)
  exact gz_wk (lp1 _ ty h bt (n - 1) c0 h0 (Nat.lt_succ_self _) G72 uq tx ebt tbt (by omega) (by omega) (by omega) (by omega) (by omega) (by omega) (by omega) (by omega) (by omega) (by omega) ec0 eh0) (gLw.s (gLw.s (gLw.s (gLw.s gLw.z))))
set_option maxRecDepth 20000 in
set_option maxHeartbeats 4000000 in
theorem cl_Sink_fillByte (d : Nat) {ty : Nat → Nat} {h : gH} (hJ : gJ rT 1027 ty h) (x : Nat) (tx : ty x = 56) (bt : Nat) (ebt : h.2.2.2.2 x 0 = .ref bt) (tbt : ty bt = 114) (c0 : Int) (ec0 : h.2.2.2.2 x 1 = .int (zi c0)) (rc0 : 0 ≤ c0 ∧ c0 ≤ 499999) (h0 : Int) (eh0 : h.2.2.2.2 x 3 = .int (zi h0)) (rh0 : 0 ≤ h0 ∧ h0 ≤ 7) (pp0 : 4 * c0 + 8 ≤ 1999990) (pp1 : c0 ≤ (h.2.2.2.1 bt : Int)) (uq : gUq ty) : gz gPP gGG gcn (d + 4) gt108 0 (gent [.ref x] 1) [] h (fun q _ => ∃ ty9 : Nat → Nat, gSg [114] [] [56000, 56001, 56002, 56003, 114999] ty h ty9 q.2.2 ∧ ∃ bt2 : Nat, True ∧ ∃ c1 h1 : Int, q.2.2.2.2.2.2 x 0 = .ref bt2 ∧ ty9 bt2 = 114 ∧ gfin gt108 q.1 q.2.1 = some none ∧ q.2.2.2.2.2.2 x 1 = .int (zi c1) ∧ 0 ≤ c1 ∧ c1 ≤ 500000 ∧ q.2.2.2.2.2.2 x 3 = .int (zi h1) ∧ 0 ≤ h1 ∧ h1 ≤ 7 ∧ (4 * c1 + h1 ≤ 4 * c0 + h0 + 8) ∧ (c0 ≤ c1) ∧ (1024 * ((q.2.2.1 : Int) - h.1) ≤ (q.2.2.2.2.2.1 bt2 : Int) - h.2.2.2.1 bt) ∧ (((q.2.2.2.1 : Int) - h.2.1) ≤ 2 * ((q.2.2.2.2.2.1 bt2 : Int) - h.2.2.2.1 bt)) ∧ ((h.2.2.2.1 bt : Int) ≤ (q.2.2.2.2.2.1 bt2 : Int)) ∧ (c1 ≤ (q.2.2.2.2.2.1 bt2 : Int))) := by
  have hS : gSs rT 1027 ty [56000, 56001, 56002, 56003, 114999] h h := gSs.rf hJ
  have G0 : gSg [114] [] [56000, 56001, 56002, 56003, 114999] ty h ty h := gSg.rf hJ (fun x hx => by cases hx)
  refine gz_s 1 (pc' := 1) (L' := [some (.ref x)]) (S' := [.ref x]) rfl ?_
  refine gs_gtk rfl (by decide) rfl hS.1 tx rfl rfl eh0 ?_
  by_cases hc1 : (h0 : Int) ≤ 0
  · refine gy_ifT (pc' := 21) rfl (by decide) (by decide) (by omega) hc1 ?_
    have G2 : gSg [114] [] [56000, 56001, 56002, 56003, 114999] ty h ty h := gSg.ss G0 hS (by decide)
    exact gz_end (I := .return_) (len := 1) rfl (Or.inl rfl) ⟨ty, G2, bt, trivial, c0, h0, ebt, tbt, rfl, ec0, (by omega), (by omega), eh0, (by omega), (by omega), (by omega), (by omega), (by dsimp only; omega), (by dsimp only; omega), (by dsimp only; omega), (by dsimp only; omega)⟩
  · refine gy_ifF rfl (by decide) (by decide) (by omega) hc1 ?_
    refine gz_s 4 (pc' := 14) (L' := [some (.ref x)]) (S' := [.ref x, .int (zi 8), .int (zi 255), .ref x]) rfl ?_
    refine gs_gtk rfl (by decide) rfl hS.1 tx rfl rfl eh0 ?_
    refine gy_s 1 (pc' := 18) (L' := [some (.ref x)]) (S' := [.int ((zi 8) - (zi h0)), .int (zi 255), .ref x]) (L2 := [some (.ref x)]) (S2 := [.int (zi (8 - h0)), .int (zi 255), .ref x]) rfl (by simp only [zi_add, zi_sub, zi_mul, zi_neg, zi_and1, zi_and7, zi_and15, zi_and31, zi_and255]) (by simp only [zi_add, zi_sub, zi_mul, zi_neg, zi_and1, zi_and7, zi_and15, zi_and31, zi_and255]) ?_
    have hl3 : h.2.2.2.1 bt = h.2.2.2.1 bt := congrFun hS.2.2.2.2.1 bt
    refine gz_call rfl (by decide) rfl (by decide) (by decide) (gcal_of rfl rfl rfl (Nat.le_of_ble_eq_true rfl) (gJ.recv (G := gGG) hS.1 tx rfl rfl)) (cl_Sink_putBits _ hS.1 x tx 255 (by omega) (8 - h0) (by omega) bt ebt tbt c0 ec0 (by omega) h0 eh0 (by omega) (by omega) (by omega) uq) (fun q4 _ wq4 => ?_)
    obtain ⟨pq4, oq4, hq4⟩ := q4
    obtain ⟨tyq4, xq4, cq4_0, ttq4, fq4_0, fq4_1, ecq4_0, tcq4_0, gq4, efq4_0, afq4_0, bfq4_0, efq4_1, afq4_1, bfq4_1, uq4_0, uq4_1, uq4_2, uq4_3, uq4_4, uq4_5⟩ := wq4
    dsimp only at uq4_2 uq4_3 uq4_4 uq4_5
    refine ⟨_, gq4, ?_⟩
    show gz gPP gGG gcn _ _ 21 [some (.ref x)] [] hq4 _
    have G5 : gSg [114] [] [56000, 56001, 56002, 56003, 114999] ty h tyq4 hq4 := gSg.tr (gSg.ss G0 hS (by decide)) xq4 (by decide) (by decide) (fun x hx => by cases hx)
    have t6 : tyq4 x = 56 := gSg.typ xq4 hS.1 tx rfl
    have t7 : tyq4 bt = 114 := gSg.typ xq4 hS.1 tbt rfl
    have hl8 : hq4.2.2.2.1 bt = h.2.2.2.1 bt := gSg.len xq4 hS.1 tbt rfl
    have uq9 := gSg.uq xq4 uq (by decide)
    have sS10 : gSs rT 1027 tyq4 [56000, 56001, 56002, 56003, 114999] hq4 hq4 := gSs.rf xq4.1
    have G11 : gSg [114] [] [56000, 56001, 56002, 56003, 114999] ty h tyq4 hq4 := gSg.ss G5 sS10 (by decide)
    exact gz_end (I := .return_) (len := 1) rfl (Or.inl rfl) ⟨tyq4, G11, cq4_0, trivial, fq4_0, fq4_1, ecq4_0, tcq4_0, rfl, efq4_0, (by omega), (by omega), efq4_1, (by omega), (by omega), (by omega), (by omega), (by dsimp only; omega), (by dsimp only; omega), (by dsimp only; omega), (by dsimp only; omega)⟩
set_option maxRecDepth 20000 in
set_option maxHeartbeats 4000000 in
theorem cl_Sink_forget (d : Nat) {ty : Nat → Nat} {h : gH} (hJ : gJ rT 1027 ty h) (x : Nat) (tx : ty x = 56) (uq : gUq ty) : gz gPP gGG gcn (d + 0) gt100 0 (gent [.ref x] 1) [] h (fun q _ => gSs rT 1027 ty [56001, 56002, 56003] h q.2.2 ∧ ∃ c1 h1 : Int, gfin gt100 q.1 q.2.1 = some none ∧ q.2.2.2.2.2.2 x 1 = .int (zi c1) ∧ 0 ≤ c1 ∧ c1 ≤ 500000 ∧ q.2.2.2.2.2.2 x 3 = .int (zi h1) ∧ 0 ≤ h1 ∧ h1 ≤ 8 ∧ (c1 = 0) ∧ (h1 = 0)) := by
  have hS : gSs rT 1027 ty [56001, 56002, 56003] h h := gSs.rf hJ
  refine gz_s 2 (pc' := 2) (L' := [some (.ref x)]) (S' := [.int (zi 0), .ref x]) rfl ?_
  refine gs_put rfl (by decide) rfl hS tx rfl rfl rfl rfl (Or.inl rfl) (by decide) (by omega) (by omega) (fun h1 sh1 eh1 fh1 => ?_)
  refine gz_s 2 (pc' := 7) (L' := [some (.ref x)]) (S' := [.int (zi 0), .ref x]) rfl ?_
  refine gs_put rfl (by decide) rfl sh1 tx rfl rfl rfl rfl (Or.inl rfl) (by decide) (by omega) (by omega) (fun h2 sh2 eh2 fh2 => ?_)
  have s3 := (fh2 x 1 (fun q => absurd q.2 (by decide))).trans eh1
  refine gz_s 2 (pc' := 12) (L' := [some (.ref x)]) (S' := [.int (zi 0), .ref x]) rfl ?_
  refine gs_put rfl (by decide) rfl sh2 tx rfl rfl rfl rfl (Or.inl rfl) (by decide) (by omega) (by omega) (fun h4 sh4 eh4 fh4 => ?_)
  have s5 := (fh4 x 1 (fun q => absurd q.2 (by decide))).trans s3
  have s6 := (fh4 x 2 (fun q => absurd q.2 (by decide))).trans eh2
  exact gz_end (I := .return_) (len := 1) rfl (Or.inl rfl) ⟨sh4, 0, 0, rfl, s5, (by omega), (by omega), eh4, (by omega), (by omega), (by omega), (by omega)⟩
