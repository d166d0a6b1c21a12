/-! ===== methods of the landed text (by program) ===== -/
set_option maxRecDepth 20000 in
set_option maxHeartbeats 4000000 in
theorem cl_Draft_putPoint (d : Nat) {ty : Nat → Nat} {h : gH} (hJ : gJ rT 1027 ty h) (x : Nat) (tx : ty x = 55) (a : Int) (ra : 0 ≤ a ∧ a ≤ 31) (b : Int) (rb : 0 ≤ b ∧ b ≤ 31) (v : Int) (rv : 0 ≤ v ∧ v ≤ 255) (w0 : Int) (ew0 : h.2.2.2.2 x 1 = .int (zi w0)) (rw0 : 0 ≤ w0 ∧ w0 ≤ 32) (h0 : Int) (eh0 : h.2.2.2.2 x 2 = .int (zi h0)) (rh0 : 0 ≤ h0 ∧ h0 ≤ 32) (f : Nat → Int) (uq : gUq ty) (hyf59 : gRoB ty 59 f h) : gz gPP gGG gcn (d + 1) gt87 0 (gent [.ref x, .int (zi a), .int (zi b), .int (zi v)] 5) [] h (fun q _ => gSs rT 1027 ty [55001, 55002, 59999] h q.2.2 ∧ ∃ z w1 h1 : Int, gfin gt87 q.1 q.2.1 = some (some (.int (zi z))) ∧ 0 ≤ z ∧ z ≤ 255 ∧ q.2.2.2.2.2.2 x 1 = .int (zi w1) ∧ 0 ≤ w1 ∧ w1 ≤ 32 ∧ q.2.2.2.2.2.2 x 2 = .int (zi h1) ∧ 0 ≤ h1 ∧ h1 ≤ 32 ∧ (1 ≤ w1) ∧ (1 ≤ h1) ∧ (z = f (b * 32 + a).toNat) ∧ (gRoB ty 59 (gfu f (b * 32 + a).toNat v) q.2.2)) := by
  have hS : gSs rT 1027 ty [55001, 55002, 59999] h h := gSs.rf hJ
  refine gz_s 1 (pc' := 1) (L' := [some (.ref x), some (.int (zi a)), some (.int (zi b)), some (.int (zi v)), none]) (S' := [.ref x]) rfl ?_
  refine gs_gtr rfl (by decide) rfl hS.1 tx rfl rfl rfl (fun c1 ec1 tc1 => ?_)
  refine gy_s 5 (pc' := 10) (L' := [some (.ref x), some (.int (zi a)), some (.int (zi b)), some (.int (zi v)), none]) (S' := [.int (((zi b) * (zi 32)) + (zi a)), .ref c1]) (L2 := [some (.ref x), some (.int (zi a)), some (.int (zi b)), some (.int (zi v)), none]) (S2 := [.int (zi ((b * 32) + a)), .ref c1]) rfl (by simp only [zi_add, zi_sub, zi_mul, zi_neg, zi_and1, zi_and7, zi_and15, zi_and31, zi_and255]) (by simp only [zi_add, zi_sub, zi_mul, zi_neg, zi_and1, zi_and7, zi_and15, zi_and31, zi_and255]) ?_
  have hl2 : 1024 ≤ h.2.2.2.1 c1 ∧ h.2.2.2.1 c1 ≤ 1024 := gJ.rowl (G := gGG) hS.1 tc1 rfl
  refine gs_ald rfl (by decide) hS.1 tc1 rfl rfl rfl (by decide) (fun _ => rfl) (by omega) (by omega) (fun z3 ez3 az3 bz3 => ?_)
  have hf4 := gRoB.at (i := (b * 32) + a) (z := z3) hyf59 tc1 ez3 (by omega) (by omega) (by omega)
  have hfx : z3 = f (b * 32 + a).toNat := ((congrArg f (by omega)).trans hf4).symm
  refine gz_s 2 (pc' := 14) (L' := [some (.ref x), some (.int (zi a)), some (.int (zi b)), some (.int (zi v)), some (.int (zi z3))]) (S' := [.ref x]) rfl ?_
  refine gs_gtk rfl (by decide) rfl hS.1 tx rfl rfl ec1 ?_
  refine gy_s 6 (pc' := 24) (L' := [some (.ref x), some (.int (zi a)), some (.int (zi b)), some (.int (zi v)), some (.int (zi z3))]) (S' := [.int (zi v), .int (((zi b) * (zi 32)) + (zi a)), .ref c1]) (L2 := [some (.ref x), some (.int (zi a)), some (.int (zi b)), some (.int (zi v)), some (.int (zi z3))]) (S2 := [.int (zi v), .int (zi ((b * 32) + a)), .ref c1]) rfl (by simp only [zi_add, zi_sub, zi_mul, zi_neg, zi_and1, zi_and7, zi_and15, zi_and31, zi_and255]) (by simp only [zi_add, zi_sub, zi_mul, zi_neg, zi_and1, zi_and7, zi_and15, zi_and31, zi_and255]) ?_
  have hl5 : 1024 ≤ h.2.2.2.1 c1 ∧ h.2.2.2.1 c1 ≤ 1024 := gJ.rowl (G := gGG) hS.1 tc1 rfl
  refine gs_ast rfl (by decide) hS tc1 rfl rfl rfl (by decide) (fun _ => rfl) (by omega) (by omega) (fun _ => (by decide : (59999 : Nat) ∈ ([55001, 55002, 59999] : List Nat))) (by omega) (by omega) (fun h6 sh6 eh6 fh6 => ?_)
  have pr7 := gRoB.put (i := (b * 32) + a) (z := v) uq tc1 (by decide) fh6 eh6 (by omega) (by omega) hyf59
  have s8 := (fh6 x 1 (fun q => absurd (((tx).symm.trans (congrArg ty q.1)).trans tc1) (by decide))).trans ew0
  have s9 := (fh6 x 2 (fun q => absurd (((tx).symm.trans (congrArg ty q.1)).trans tc1) (by decide))).trans eh0
  have s10 := (fh6 x 0 (fun q => absurd (((tx).symm.trans (congrArg ty q.1)).trans tc1) (by decide))).trans ec1
  have pr11 := gEl.set (i := (b * 32) + a) (z := v) uq tc1 (by decide) eh6 (by omega) (by omega)
  refine gz_s 2 (pc' := 27) (L' := [some (.ref x), some (.int (zi a)), some (.int (zi b)), some (.int (zi v)), some (.int (zi z3))]) (S' := [.ref x, .ref x]) rfl ?_
  refine gs_gtk rfl (by decide) rfl sh6.1 tx rfl rfl s8 ?_
  refine gy_s 3 (pc' := 33) (L' := [some (.ref x), some (.int (zi a)), some (.int (zi b)), some (.int (zi v)), some (.int (zi z3))]) (S' := [.int ((zi a) + (zi 1)), .int (zi w0), .ref x]) (L2 := [some (.ref x), some (.int (zi a)), some (.int (zi b)), some (.int (zi v)), some (.int (zi z3))]) (S2 := [.int (zi (a + 1)), .int (zi w0), .ref x]) rfl (by simp only [zi_add, zi_sub, zi_mul, zi_neg, zi_and1, zi_and7, zi_and15, zi_and31, zi_and255]) (by simp only [zi_add, zi_sub, zi_mul, zi_neg, zi_and1, zi_and7, zi_and15, zi_and31, zi_and255]) ?_
  refine gz_call rfl (by decide) rfl (by decide) (by decide) (gcal_of rfl rfl rfl (Nat.le_of_ble_eq_true rfl) rfl) (cl_Math_max _ sh6.1 w0 (by omega) (a + 1) (by omega) ) (fun q12 _ wq12 => ?_)
  obtain ⟨pq12, oq12, hq12⟩ := q12
  obtain ⟨xq12, zq12, gq12, aq12, bq12, uq12_0, uq12_1, uq12_2⟩ := wq12
  refine ⟨_, gq12, ?_⟩
  show gz gPP gGG gcn _ _ 36 [some (.ref x), some (.int (zi a)), some (.int (zi b)), some (.int (zi v)), some (.int (zi z3))] [.int (zi zq12), .ref x] hq12 _
  have sq12 : gSs rT 1027 ty [55001, 55002, 59999] h hq12 := gSs.tr sh6 xq12 (by decide)
  have s13 := (xq12.2.2.2.2.2 x 1 (by rw [tx]; decide)).trans s8
  have s14 := (xq12.2.2.2.2.2 x 2 (by rw [tx]; decide)).trans s9
  have s15 := (xq12.2.2.2.2.2 x 0 (by rw [tx]; decide)).trans s10
  have pr16 := gRoB.fr xq12.2 (by decide) pr7
  have pr17 := gEl.fr xq12.2 (by decide) (fun _ => rfl) pr11
  refine gs_put rfl (by decide) rfl sq12 tx rfl rfl rfl rfl (Or.inl rfl) (by decide) (by omega) (by omega) (fun h18 sh18 eh18 fh18 => ?_)
  have pr19 := gRoB.pt fh18 tx (by decide) pr16
  have pr20 := gEl.pt fh18 tx (by decide) pr17
  have s21 := (fh18 x 2 (fun q => absurd q.2 (by decide))).trans s14
  have s22 := (fh18 x 0 (fun q => absurd q.2 (by decide))).trans s15
  refine gz_s 2 (pc' := 41) (L' := [some (.ref x), some (.int (zi a)), some (.int (zi b)), some (.int (zi v)), some (.int (zi z3))]) (S' := [.ref x, .ref x]) rfl ?_
  refine gs_gtk rfl (by decide) rfl sh18.1 tx rfl rfl s21 ?_
  refine gy_s 3 (pc' := 47) (L' := [some (.ref x), some (.int (zi a)), some (.int (zi b)), some (.int (zi v)), some (.int (zi z3))]) (S' := [.int ((zi b) + (zi 1)), .int (zi h0), .ref x]) (L2 := [some (.ref x), some (.int (zi a)), some (.int (zi b)), some (.int (zi v)), some (.int (zi z3))]) (S2 := [.int (zi (b + 1)), .int (zi h0), .ref x]) rfl (by simp only [zi_add, zi_sub, zi_mul, zi_neg, zi_and1, zi_and7, zi_and15, zi_and31, zi_and255]) (by simp only [zi_add, zi_sub, zi_mul, zi_neg, zi_and1, zi_and7, zi_and15, zi_and31, zi_and255]) ?_
  refine gz_call rfl (by decide) rfl (by decide) (by decide) (gcal_of rfl rfl rfl (Nat.le_of_ble_eq_true rfl) rfl) (cl_Math_max _ sh18.1 h0 (by omega) (b + 1) (by omega) ) (fun q23 _ wq23 => ?_)
  obtain ⟨pq23, oq23, hq23⟩ := q23
  obtain ⟨xq23, zq23, gq23, aq23, bq23, uq23_0, uq23_1, uq23_2⟩ := wq23
  refine ⟨_, gq23, ?_⟩
  show gz gPP gGG gcn _ _ 50 [some (.ref x), some (.int (zi a)), some (.int (zi b)), some (.int (zi v)), some (.int (zi z3))] [.int (zi zq23), .ref x] hq23 _
  have sq23 : gSs rT 1027 ty [55001, 55002, 59999] h hq23 := gSs.tr sh18 xq23 (by decide)
  have s24 := (xq23.2.2.2.2.2 x 2 (by rw [tx]; decide)).trans s21
  have s25 := (xq23.2.2.2.2.2 x 0 (by rw [tx]; decide)).trans s22
  have s26 := (xq23.2.2.2.2.2 x 1 (by rw [tx]; decide)).trans eh18
  have pr27 := gRoB.fr xq23.2 (by decide) pr19
  have pr28 := gEl.fr xq23.2 (by decide) (fun _ => rfl) pr20
  refine gs_put rfl (by decide) rfl sq23 tx rfl rfl rfl rfl (Or.inl rfl) (by decide) (by omega) (by omega) (fun h29 sh29 eh29 fh29 => ?_)
  have pr30 := gRoB.pt fh29 tx (by decide) pr27
  have pr31 := gEl.pt fh29 tx (by decide) pr28
  have s32 := (fh29 x 0 (fun q => absurd q.2 (by decide))).trans s25
  have s33 := (fh29 x 1 (fun q => absurd q.2 (by decide))).trans s26
  refine gz_s 1 (pc' := 55) (L' := [some (.ref x), some (.int (zi a)), some (.int (zi b)), some (.int (zi v)), some (.int (zi z3))]) (S' := [.int (zi z3)]) rfl ?_
  have hrw34 : gRoB ty 59 (gfu f (b * 32 + a).toNat v) h29 := by
    rw [(by omega : b * 32 + a = (b * 32) + a)]
    exact pr30
  exact gz_end (I := .ireturn) (len := 1) rfl (Or.inl rfl) ⟨sh29, z3, zq12, zq23, rfl, (by omega), (by omega), s33, (by omega), (by omega), eh29, (by omega), (by omega), (by omega), (by omega), (by omega), hrw34⟩
set_option maxRecDepth 20000 in
set_option maxHeartbeats 4000000 in
theorem cl_Draft_filledPoint (d : Nat) {ty : Nat → Nat} {h : gH} (hJ : gJ rT 1027 ty h) (x : Nat) (tx : ty x = 55) (a : Int) (ra : 0 ≤ a ∧ a ≤ 200) (b : Int) (rb : 0 ≤ b ∧ b ≤ 200) (uq : gUq ty) : gz gPP gGG gcn (d + 1) gt95 0 (gent [.ref x, .int (zi a), .int (zi b)] 5) [] h (fun q _ => gSs rT 1027 ty [] h q.2.2 ∧ ∃ z : Int, gfin gt95 q.1 q.2.1 = some (some (.int (zi z))) ∧ 0 ≤ z ∧ z ≤ 255) := by
  have hS : gSs rT 1027 ty [] h h := gSs.rf hJ
  refine gz_s 3 (pc' := 3) (L' := [some (.ref x), some (.int (zi a)), some (.int (zi b)), none, none]) (S' := [.ref x, .int (zi b), .int (zi 0)]) rfl ?_
  refine gs_get rfl (by decide) rfl hS.1 tx rfl rfl rfl (fun z1 ez1 az1 bz1 => ?_)
  refine gy_s 2 (pc' := 8) (L' := [some (.ref x), some (.int (zi a)), some (.int (zi b)), none, none]) (S' := [.int ((zi z1) - (zi 1)), .int (zi b), .int (zi 0)]) (L2 := [some (.ref x), some (.int (zi a)), some (.int (zi b)), none, none]) (S2 := [.int (zi (z1 - 1)), .int (zi b), .int (zi 0)]) rfl (by simp only [zi_add, zi_sub, zi_mul, zi_neg, zi_and1, zi_and7, zi_and15, zi_and31, zi_and255]) (by simp only [zi_add, zi_sub, zi_mul, zi_neg, zi_and1, zi_and7, zi_and15, zi_and31, zi_and255]) ?_
  refine gz_call rfl (by decide) rfl (by decide) (by decide) (gcal_of rfl rfl rfl (Nat.le_of_ble_eq_true rfl) rfl) (cl_Math_min _ hS.1 b (by omega) (z1 - 1) (by omega) ) (fun q2 _ wq2 => ?_)
  obtain ⟨pq2, oq2, hq2⟩ := q2
  obtain ⟨xq2, zq2, gq2, aq2, bq2, uq2_0, uq2_1, uq2_2⟩ := wq2
  refine ⟨_, gq2, ?_⟩
  show gz gPP gGG gcn _ _ 11 [some (.ref x), some (.int (zi a)), some (.int (zi b)), none, none] [.int (zi zq2), .int (zi 0)] hq2 _
  have sq2 : gSs rT 1027 ty [] h hq2 := gSs.tr hS xq2 (by decide)
  have s3 := (xq2.2.2.2.2.2 x 2 (by rw [tx]; decide)).trans ez1
  refine gz_call rfl (by decide) rfl (by decide) (by decide) (gcal_of rfl rfl rfl (Nat.le_of_ble_eq_true rfl) rfl) (cl_Math_max _ sq2.1 0 (by omega) zq2 (by omega) ) (fun q4 _ wq4 => ?_)
  obtain ⟨pq4, oq4, hq4⟩ := q4
  obtain ⟨xq4, zq4, gq4, aq4, bq4, uq4_0, uq4_1, uq4_2⟩ := wq4
  refine ⟨_, gq4, ?_⟩
  show gz gPP gGG gcn _ _ 14 [some (.ref x), some (.int (zi a)), some (.int (zi b)), none, none] [.int (zi zq4)] hq4 _
  have sq4 : gSs rT 1027 ty [] h hq4 := gSs.tr sq2 xq4 (by decide)
  have s5 := (xq4.2.2.2.2.2 x 2 (by rw [tx]; decide)).trans s3
  refine gz_s 4 (pc' := 18) (L' := [some (.ref x), some (.int (zi a)), some (.int (zi b)), some (.int (zi zq4)), none]) (S' := [.ref x, .int (zi a), .int (zi 0)]) rfl ?_
  refine gs_get rfl (by decide) rfl sq4.1 tx rfl rfl rfl (fun z6 ez6 az6 bz6 => ?_)
  refine gy_s 2 (pc' := 23) (L' := [some (.ref x), some (.int (zi a)), some (.int (zi b)), some (.int (zi zq4)), none]) (S' := [.int ((zi z6) - (zi 1)), .int (zi a), .int (zi 0)]) (L2 := [some (.ref x), some (.int (zi a)), some (.int (zi b)), some (.int (zi zq4)), none]) (S2 := [.int (zi (z6 - 1)), .int (zi a), .int (zi 0)]) rfl (by simp only [zi_add, zi_sub, zi_mul, zi_neg, zi_and1, zi_and7, zi_and15, zi_and31, zi_and255]) (by simp only [zi_add, zi_sub, zi_mul, zi_neg, zi_and1, zi_and7, zi_and15, zi_and31, zi_and255]) ?_
  refine gz_call rfl (by decide) rfl (by decide) (by decide) (gcal_of rfl rfl rfl (Nat.le_of_ble_eq_true rfl) rfl) (cl_Math_min _ sq4.1 a (by omega) (z6 - 1) (by omega) ) (fun q7 _ wq7 => ?_)
  obtain ⟨pq7, oq7, hq7⟩ := q7
  obtain ⟨xq7, zq7, gq7, aq7, bq7, uq7_0, uq7_1, uq7_2⟩ := wq7
  refine ⟨_, gq7, ?_⟩
  show gz gPP gGG gcn _ _ 26 [some (.ref x), some (.int (zi a)), some (.int (zi b)), some (.int (zi zq4)), none] [.int (zi zq7), .int (zi 0)] hq7 _
  have sq7 : gSs rT 1027 ty [] h hq7 := gSs.tr sq4 xq7 (by decide)
  have s8 := (xq7.2.2.2.2.2 x 2 (by rw [tx]; decide)).trans s5
  have s9 := (xq7.2.2.2.2.2 x 1 (by rw [tx]; decide)).trans ez6
  refine gz_call rfl (by decide) rfl (by decide) (by decide) (gcal_of rfl rfl rfl (Nat.le_of_ble_eq_true rfl) rfl) (cl_Math_max _ sq7.1 0 (by omega) zq7 (by omega) ) (fun q10 _ wq10 => ?_)
  obtain ⟨pq10, oq10, hq10⟩ := q10
  obtain ⟨xq10, zq10, gq10, aq10, bq10, uq10_0, uq10_1, uq10_2⟩ := wq10
  refine ⟨_, gq10, ?_⟩
  show gz gPP gGG gcn _ _ 29 [some (.ref x), some (.int (zi a)), some (.int (zi b)), some (.int (zi zq4)), none] [.int (zi zq10)] hq10 _
  have sq10 : gSs rT 1027 ty [] h hq10 := gSs.tr sq7 xq10 (by decide)
  have s11 := (xq10.2.2.2.2.2 x 2 (by rw [tx]; decide)).trans s8
  have s12 := (xq10.2.2.2.2.2 x 1 (by rw [tx]; decide)).trans s9
  refine gz_s 2 (pc' := 32) (L' := [some (.ref x), some (.int (zi a)), some (.int (zi b)), some (.int (zi zq4)), some (.int (zi zq10))]) (S' := [.ref x]) rfl ?_
  refine gs_gtr rfl (by decide) rfl sq10.1 tx rfl rfl rfl (fun c13 ec13 tc13 => ?_)
  refine gy_s 5 (pc' := 42) (L' := [some (.ref x), some (.int (zi a)), some (.int (zi b)), some (.int (zi zq4)), some (.int (zi zq10))]) (S' := [.int (((zi zq4) * (zi 32)) + (zi zq10)), .ref c13]) (L2 := [some (.ref x), some (.int (zi a)), some (.int (zi b)), some (.int (zi zq4)), some (.int (zi zq10))]) (S2 := [.int (zi ((zq4 * 32) + zq10)), .ref c13]) rfl (by simp only [zi_add, zi_sub, zi_mul, zi_neg, zi_and1, zi_and7, zi_and15, zi_and31, zi_and255]) (by simp only [zi_add, zi_sub, zi_mul, zi_neg, zi_and1, zi_and7, zi_and15, zi_and31, zi_and255]) ?_
  have hl14 : 1024 ≤ hq10.2.2.2.1 c13 ∧ hq10.2.2.2.1 c13 ≤ 1024 := gJ.rowl (G := gGG) sq10.1 tc13 rfl
  refine gs_ald rfl (by decide) sq10.1 tc13 rfl rfl rfl (by decide) (fun _ => rfl) (by omega) (by omega) (fun z15 ez15 az15 bz15 => ?_)
  exact gz_end (I := .ireturn) (len := 1) rfl (Or.inl rfl) ⟨sq10, z15, rfl, (by omega), (by omega)⟩
set_option maxRecDepth 20000 in
set_option maxHeartbeats 4000000 in
theorem cl_fill_lowest (d : Nat) {ty : Nat → Nat} {h : gH} (hJ : gJ rT 1027 ty h) (a : Nat) (ta : ty a = 64) (v : Int) (rv : (-1) ≤ v ∧ v ≤ 3) (uq : gUq ty) : gz gPP gGG gcn (d + 0) gt5 0 (gent [.ref a, .int (zi v)] 4) [] h (fun q _ => gSs rT 1027 ty [64999] h q.2.2 ∧ gfin gt5 q.1 q.2.1 = some none ∧ (gOy ty 64 v 64 q.2.2)) := by
  have hS : gSs rT 1027 ty [64999] h h := gSs.rf hJ
  refine gz_s 3 (pc' := 3) (L' := [some (.ref a), some (.int (zi v)), some (.int (zi 0)), none]) (S' := [.ref a]) rfl ?_
  refine gs_len rfl (by decide) hS.1 ta rfl rfl rfl (fun z1 ez1 az1 bz1 => ?_)
  have cz1 : 64 ≤ z1 ∧ z1 ≤ 64 := ⟨az1, bz1⟩
  refine gz_s 1 (pc' := 5) (L' := [some (.ref a), some (.int (zi v)), some (.int (zi 0)), some (.int (zi z1))]) (S' := []) rfl ?_
  have hoy3 : gOy ty 64 v 0 h := ⟨_, gRow.mk uq ta (by decide) (fun _ => rfl), fun j hj => absurd hj (by omega)⟩
  have lp2 : ∀ (fu : Nat) (h4 : gH) (k : Int), (65 - k).toNat < fu → gSs rT 1027 ty [64999] h h4 → (0 ≤ k ∧ k ≤ 64) → gOy ty 64 v k h4 → gz gPP gGG gcn (d + 0) gt5 5 [some (.ref a), some (.int (zi v)), some (.int (zi k)), some (.int (zi z1))] [] h4 (fun q _ => gSs rT 1027 ty [64999] h q.2.2 ∧ gfin gt5 q.1 q.2.1 = some none ∧ (gOy ty 64 v 64 q.2.2)) := by
    intro fu
    induction fu with
    | zero => intro h4 k hm; exact absurd hm (Nat.not_lt_zero _)
    | succ fu ihlp2 =>
      intro h4 k lp2m sh4 lp2f0 lp2k0
      have hln : h4.2.2.2.1 a = h.2.2.2.1 a := congrFun sh4.2.2.2.2.1 a
      refine gz_s 2 (pc' := 7) (L' := [some (.ref a), some (.int (zi v)), some (.int (zi k)), some (.int (zi z1))]) (S' := [.int (zi z1), .int (zi k)]) rfl ?_
      by_cases hc5 : (z1 : Int) ≤ k
      · refine gy_icT (pc' := 20) rfl (by decide) (by decide) (by omega) (by omega) hc5 ?_
        have hoy6 : gOy ty 64 v 64 h4 := by
          have e9 := lp2k0
          rw [(by omega : k = 64)] at e9
          exact e9
        exact gz_end (I := .return_) (len := 1) rfl (Or.inl rfl) ⟨sh4, rfl, hoy6⟩
      · refine gy_icF rfl (by decide) (by decide) (by omega) (by omega) hc5 ?_
        refine gz_s 3 (pc' := 13) (L' := [some (.ref a), some (.int (zi v)), some (.int (zi k)), some (.int (zi z1))]) (S' := [.int (zi v), .int (zi k), .ref a]) rfl ?_
        obtain ⟨f9, rf9, of9⟩ := lp2k0
        have hl7 : 64 ≤ h4.2.2.2.1 a ∧ h4.2.2.2.1 a ≤ 64 := gJ.rowl (G := gGG) sh4.1 ta rfl
        refine gs_ast rfl (by decide) sh4 ta rfl rfl rfl (by decide) (fun _ => rfl) (by omega) (by omega) (fun _ => (by decide : (64999 : Nat) ∈ ([64999] : List Nat))) (by omega) (by omega) (fun h8 sh8 eh8 fh8 => ?_)
        have pr9 := gRow.put (i := k) (z := v) uq ta (by decide) fh8 eh8 (by omega) (by omega) rf9
        have pr10 := gEl.set (i := k) (z := v) uq ta (by decide) eh8 (by omega) (by omega)
        have hoy11 : gOy ty 64 v (k + 1) h8 := gOy.step (by omega) pr9 of9
        refine gy_s 2 (pc' := 5) (L' := [some (.ref a), some (.int (zi v)), some (.int ((zi k) + zi 1)), some (.int (zi z1))]) (S' := []) (L2 := [some (.ref a), some (.int (zi v)), some (.int (zi (k + 1))), some (.int (zi z1))]) (S2 := []) rfl (by simp only [zi_add, zi_sub, zi_mul, zi_neg, zi_and1, zi_and7, zi_and15, zi_and31, zi_and255]) (by simp only [zi_add, zi_sub, zi_mul, zi_neg, zi_and1, zi_and7, zi_and15, zi_and31, zi_and255]) ?_
        exact gz_wk (ihlp2 h8 (k + 1) (by omega) sh8 (by omega) hoy11) (gLw.s (gLw.s (gLw.s (gLw.s gLw.z))))
  exact gz_wk (lp2 _ h 0 (Nat.lt_succ_self _) hS (by omega) hoy3) (gLw.s (gLw.s (gLw.s (gLw.s gLw.z))))
set_option maxRecDepth 20000 in
set_option maxHeartbeats 4000000 in
theorem cl_fill_tables (d : Nat) {ty : Nat → Nat} {h : gH} (hJ : gJ rT 1027 ty h) (a : Nat) (ta : ty a = 53) (v : Int) (rv : 0 ≤ v ∧ v ≤ 255) : gz gPP gGG gcn (d + 0) gt5 0 (gent [.ref a, .int (zi v)] 4) [] h (fun q _ => gSs rT 1027 ty [53999] h q.2.2 ∧ gfin gt5 q.1 q.2.1 = some none) := by
  have hS : gSs rT 1027 ty [53999] h h := gSs.rf hJ
  refine gz_s 3 (pc' := 3) (L' := [some (.ref a), some (.int (zi v)), some (.int (zi 0)), none]) (S' := [.ref a]) rfl ?_
  refine gs_len rfl (by decide) hS.1 ta rfl rfl rfl (fun z1 ez1 az1 bz1 => ?_)
  have cz1 : 256 ≤ z1 ∧ z1 ≤ 256 := ⟨az1, bz1⟩
  refine gz_s 1 (pc' := 5) (L' := [some (.ref a), some (.int (zi v)), some (.int (zi 0)), some (.int (zi z1))]) (S' := []) rfl ?_
  have lp2 : ∀ (fu : Nat) (h3 : gH) (k : Int), (1000001 - k).toNat < fu → gSs rT 1027 ty [53999] h h3 → (0 ≤ k ∧ k ≤ 1000000) → gz gPP gGG gcn (d + 0) gt5 5 [some (.ref a), some (.int (zi v)), some (.int (zi k)), some (.int (zi z1))] [] h3 (fun q _ => gSs rT 1027 ty [53999] h q.2.2 ∧ gfin gt5 q.1 q.2.1 = some none) := by
    intro fu
    induction fu with
    | zero => intro h3 k hm; exact absurd hm (Nat.not_lt_zero _)
    | succ fu ihlp2 =>
      intro h3 k lp2m sh3 lp2f0 
      have hln : h3.2.2.2.1 a = h.2.2.2.1 a := congrFun sh3.2.2.2.2.1 a
      refine gz_s 2 (pc' := 7) (L' := [some (.ref a), some (.int (zi v)), some (.int (zi k)), some (.int (zi z1))]) (S' := [.int (zi z1), .int (zi k)]) rfl ?_
      by_cases hc4 : (z1 : Int) ≤ k
      · refine gy_icT (pc' := 20) rfl (by decide) (by decide) (by omega) (by omega) hc4 ?_
        exact gz_end (I := .return_) (len := 1) rfl (Or.inl rfl) ⟨sh3, rfl⟩
      · refine gy_icF rfl (by decide) (by decide) (by omega) (by omega) hc4 ?_
        refine gz_s 3 (pc' := 13) (L' := [some (.ref a), some (.int (zi v)), some (.int (zi k)), some (.int (zi z1))]) (S' := [.int (zi v), .int (zi k), .ref a]) rfl ?_
        have hl5 : 256 ≤ h3.2.2.2.1 a ∧ h3.2.2.2.1 a ≤ 256 := gJ.rowl (G := gGG) sh3.1 ta rfl
        refine gs_ast rfl (by decide) sh3 ta rfl rfl rfl (by decide) (fun _ => rfl) (by omega) (by omega) (fun _ => (by decide : (53999 : Nat) ∈ ([53999] : List Nat))) (by omega) (by omega) (fun h6 sh6 eh6 fh6 => ?_)
        refine gy_s 2 (pc' := 5) (L' := [some (.ref a), some (.int (zi v)), some (.int ((zi k) + zi 1)), some (.int (zi z1))]) (S' := []) (L2 := [some (.ref a), some (.int (zi v)), some (.int (zi (k + 1))), some (.int (zi z1))]) (S2 := []) rfl (by simp only [zi_add, zi_sub, zi_mul, zi_neg, zi_and1, zi_and7, zi_and15, zi_and31, zi_and255]) (by simp only [zi_add, zi_sub, zi_mul, zi_neg, zi_and1, zi_and7, zi_and15, zi_and31, zi_and255]) ?_
        exact gz_wk (ihlp2 h6 (k + 1) (by omega) sh6 (by omega) ) (gLw.s (gLw.s (gLw.s (gLw.s gLw.z))))
  exact gz_wk (lp2 _ h 0 (Nat.lt_succ_self _) hS (by omega) ) (gLw.s (gLw.s (gLw.s (gLw.s gLw.z))))
set_option maxRecDepth 20000 in
set_option maxHeartbeats 4000000 in
theorem cl_Arrays_rangeCheck (d : Nat) {ty : Nat → Nat} {h : gH} (hJ : gJ rT 1027 ty h) (n : Int) (rn : 0 ≤ n ∧ n ≤ 1000000) (f : Int) (rf : 0 ≤ f ∧ f ≤ 1000000) (t : Int) (rt : 0 ≤ t ∧ t ≤ 1000000) (pp0 : f ≤ t) (pp1 : t ≤ n) : gz gPP gGG gcn (d + 0) gt64 0 (gent [.int (zi n), .int (zi f), .int (zi t)] 3) [] h (fun q _ => gSs rT 1027 ty [] h q.2.2 ∧ gfin gt64 q.1 q.2.1 = some none) := by
  have hS : gSs rT 1027 ty [] h h := gSs.rf hJ
  refine gz_s 2 (pc' := 2) (L' := [some (.int (zi n)), some (.int (zi f)), some (.int (zi t))]) (S' := [.int (zi t), .int (zi f)]) rfl ?_
  refine gy_icT (pc' := 46) rfl (by decide) (by decide) (by omega) (by omega) (by first | (simp [zc]; done) | (simp only [zc]; omega)) ?_
  refine gz_s 1 (pc' := 47) (L' := [some (.int (zi n)), some (.int (zi f)), some (.int (zi t))]) (S' := [.int (zi f)]) rfl ?_
  refine gy_ifT (pc' := 59) rfl (by decide) (by decide) (by omega) (by first | (simp [zc]; done) | (simp only [zc]; omega)) ?_
  refine gz_s 2 (pc' := 61) (L' := [some (.int (zi n)), some (.int (zi f)), some (.int (zi t))]) (S' := [.int (zi n), .int (zi t)]) rfl ?_
  refine gy_icT (pc' := 73) rfl (by decide) (by decide) (by omega) (by omega) (by first | (simp [zc]; done) | (simp only [zc]; omega)) ?_
  exact gz_end (I := .return_) (len := 1) rfl (Or.inl rfl) ⟨hS, rfl⟩
set_option maxRecDepth 20000 in
set_option maxHeartbeats 4000000 in
theorem cl_fill_range (d : Nat) {ty : Nat → Nat} {h : gH} (hJ : gJ rT 1027 ty h) (a : Nat) (ta : ty a = 64) (f : Int) (rf : 0 ≤ f ∧ f ≤ 63) (t : Int) (rt : 1 ≤ t ∧ t ≤ 64) (v : Int) (rv : 0 ≤ v ∧ v ≤ 3) (cf : Nat → Int) (pp0 : f ≤ t) (uq : gUq ty) (hyf64 : gRow ty 64 cf h) (hyce2 : ∀ j : Int, f ≤ j → j < t → v + 1 ≤ gcr (cf j.toNat)) : gz gPP gGG gcn (d + 1) gt63 0 (gent [.ref a, .int (zi f), .int (zi t), .int (zi v)] 5) [] h (fun q _ => gSs rT 1027 ty [64999] h q.2.2 ∧ gfin gt63 q.1 q.2.1 = some none ∧ (gCr ty cf f t v q.2.2)) := by
  have hS : gSs rT 1027 ty [64999] h h := gSs.rf hJ
  refine gz_s 1 (pc' := 1) (L' := [some (.ref a), some (.int (zi f)), some (.int (zi t)), some (.int (zi v)), none]) (S' := [.ref a]) rfl ?_
  refine gs_len rfl (by decide) hS.1 ta rfl rfl rfl (fun z1 ez1 az1 bz1 => ?_)
  have cz1 : 64 ≤ z1 ∧ z1 ≤ 64 := ⟨az1, bz1⟩
  refine gz_s 2 (pc' := 4) (L' := [some (.ref a), some (.int (zi f)), some (.int (zi t)), some (.int (zi v)), none]) (S' := [.int (zi t), .int (zi f), .int (zi z1)]) rfl ?_
  refine gz_call rfl (by decide) rfl (by decide) (by decide) (gcal_of rfl rfl rfl (Nat.le_of_ble_eq_true rfl) rfl) (cl_Arrays_rangeCheck _ hS.1 z1 (by omega) f (by omega) t (by omega) (by omega) (by omega)) (fun q2 _ wq2 => ?_)
  obtain ⟨pq2, oq2, hq2⟩ := q2
  obtain ⟨xq2, gq2⟩ := wq2
  refine ⟨_, gq2, ?_⟩
  show gz gPP gGG gcn _ _ 7 [some (.ref a), some (.int (zi f)), some (.int (zi t)), some (.int (zi v)), none] [] hq2 _
  have sq2 : gSs rT 1027 ty [64999] h hq2 := gSs.tr hS xq2 (by decide)
  have pr3 := gRow.fr xq2.2 (by decide) hyf64
  refine gz_s 2 (pc' := 10) (L' := [some (.ref a), some (.int (zi f)), some (.int (zi t)), some (.int (zi v)), some (.int (zi f))]) (S' := []) rfl ?_
  have hcr5 : gCr ty cf f f v hq2 := ⟨cf, pr3, gCm.zero⟩
  have lp4 : ∀ (fu : Nat) (h6 : gH) (k : Int), (65 - k).toNat < fu → gSs rT 1027 ty [64999] h h6 → (0 ≤ k ∧ k ≤ 64) → (f ≤ k) → (k ≤ t) → (∀ j : Int, f ≤ j → j < t → v + 1 ≤ gcr (cf j.toNat)) → gCr ty cf f k v h6 → gz gPP gGG gcn (d + 1) gt63 10 [some (.ref a), some (.int (zi f)), some (.int (zi t)), some (.int (zi v)), some (.int (zi k))] [] h6 (fun q _ => gSs rT 1027 ty [64999] h q.2.2 ∧ gfin gt63 q.1 q.2.1 = some none ∧ (gCr ty cf f t v q.2.2)) := by
    intro fu
    induction fu with
    | zero => intro h6 k hm; exact absurd hm (Nat.not_lt_zero _)
    | succ fu ihlp4 =>
      intro h6 k lp4m sh6 lp4f0 lp4f1 lp4f2 lp4k0 lp4k1
      refine gz_s 2 (pc' := 13) (L' := [some (.ref a), some (.int (zi f)), some (.int (zi t)), some (.int (zi v)), some (.int (zi k))]) (S' := [.int (zi t), .int (zi k)]) rfl ?_
      by_cases hc7 : (t : Int) ≤ k
      · refine gy_icT (pc' := 27) rfl (by decide) (by decide) (by omega) (by omega) hc7 ?_
        have hcr8 : gCr ty cf f t v h6 := by
          have e9 := lp4k1
          rw [(by omega : k = t)] at e9
          exact e9
        exact gz_end (I := .return_) (len := 1) rfl (Or.inl rfl) ⟨sh6, rfl, hcr8⟩
      · refine gy_icF rfl (by decide) (by decide) (by omega) (by omega) hc7 ?_
        refine gz_s 3 (pc' := 20) (L' := [some (.ref a), some (.int (zi f)), some (.int (zi t)), some (.int (zi v)), some (.int (zi k))]) (S' := [.int (zi v), .int (zi k), .ref a]) rfl ?_
        obtain ⟨c2, rc2, hcm⟩ := lp4k1
        have hl9 : 64 ≤ h6.2.2.2.1 a ∧ h6.2.2.2.1 a ≤ 64 := gJ.rowl (G := gGG) sh6.1 ta rfl
        refine gs_ast rfl (by decide) sh6 ta rfl rfl rfl (by decide) (fun _ => rfl) (by omega) (by omega) (fun _ => (by decide : (64999 : Nat) ∈ ([64999] : List Nat))) (by omega) (by omega) (fun h10 sh10 eh10 fh10 => ?_)
        have pr11 := gRow.put (i := k) (z := v) uq ta (by decide) fh10 eh10 (by omega) (by omega) rc2
        have pr12 := gEl.set (i := k) (z := v) uq ta (by decide) eh10 (by omega) (by omega)
        have e7 := lp4k0 k (by omega) (by omega)
        have hcr13 : gCr ty cf f (k + 1) v h10 := ⟨_, pr11, hcm.step (by omega) (by omega) e7 (by omega)⟩
        refine gy_s 2 (pc' := 10) (L' := [some (.ref a), some (.int (zi f)), some (.int (zi t)), some (.int (zi v)), some (.int ((zi k) + zi 1))]) (S' := []) (L2 := [some (.ref a), some (.int (zi f)), some (.int (zi t)), some (.int (zi v)), some (.int (zi (k + 1)))]) (S2 := []) rfl (by simp only [zi_add, zi_sub, zi_mul, zi_neg, zi_and1, zi_and7, zi_and15, zi_and31, zi_and255]) (by simp only [zi_add, zi_sub, zi_mul, zi_neg, zi_and1, zi_and7, zi_and15, zi_and31, zi_and255]) ?_
        exact gz_wk (ihlp4 h10 (k + 1) (by omega) sh10 (by omega) (by omega) (by omega) lp4k0 hcr13) (gLw.s (gLw.s (gLw.s (gLw.s (gLw.s gLw.z)))))
  exact gz_wk (lp4 _ hq2 f (Nat.lt_succ_self _) sq2 (by omega) (by omega) (by omega) hyce2 hcr5) (gLw.s (gLw.s (gLw.s (gLw.s (gLw.s gLw.z)))))
set_option maxRecDepth 20000 in
set_option maxHeartbeats 4000000 in
theorem cl_Draft_tellScan (d : Nat) {ty : Nat → Nat} {h : gH} (hJ : gJ rT 1027 ty h) (x : Nat) (tx : ty x = 55) (a : Int) (ra : (-2147483648) ≤ a ∧ a ≤ 2147483647) (b : Int) (rb : (-2147483648) ≤ b ∧ b ≤ 2147483647) (t : Int) (rt : (-2147483648) ≤ t ∧ t ≤ 2147483647) (n0 : Int) (en0 : h.2.2.2.2 x 8 = .int (zi n0)) (rn0 : 0 ≤ n0 ∧ n0 ≤ 10) (uq : gUq ty) (hytc : gTc ty n0 h) : gz gPP gGG gcn (d + 2) gt62 0 (gent [.ref x, .int (zi a), .int (zi b), .int (zi t)] 8) [] h (fun q _ => gSs rT 1027 ty [55008, 60999, 61999, 62999, 63999, 64999] h q.2.2 ∧ ∃ z n1 : Int, gfin gt62 q.1 q.2.1 = some (some (.int (zi z))) ∧ 0 ≤ z ∧ z ≤ 10 ∧ q.2.2.2.2.2.2 x 8 = .int (zi n1) ∧ 0 ≤ n1 ∧ n1 ≤ 10 ∧ (gTc ty n1 q.2.2)) := by
  have hS : gSs rT 1027 ty [55008, 60999, 61999, 62999, 63999, 64999] h h := gSs.rf hJ
  have hts0 := hytc
  obtain ⟨tf, tt, cf, rf, rt, rc, tle, tsm⟩ := hts0
  refine gz_s 1 (pc' := 1) (L' := [some (.ref x), some (.int (zi a)), some (.int (zi b)), some (.int (zi t)), none, none, none, none]) (S' := [.int (zi a)]) rfl ?_
  have jn1 : ∀ (jn1v0 : Int), ((0 ≤ jn1v0) ∧ (jn1v0 ≤ 1) ∧ (jn1v0 = 1 → (a = 0 ∧ b = 0))) → gz gPP gGG gcn (d + 2) gt62 13 [some (.ref x), some (.int (zi a)), some (.int (zi b)), some (.int (zi t)), none, none, none, none] [.int (zi jn1v0)] h (fun q _ => gSs rT 1027 ty [55008, 60999, 61999, 62999, 63999, 64999] h q.2.2 ∧ ∃ z n1 : Int, gfin gt62 q.1 q.2.1 = some (some (.int (zi z))) ∧ 0 ≤ z ∧ z ≤ 10 ∧ q.2.2.2.2.2.2 x 8 = .int (zi n1) ∧ 0 ≤ n1 ∧ n1 ≤ 10 ∧ (gTc ty n1 q.2.2)) := by
    intro jn1v0 jn1d
    refine gz_s 3 (pc' := 17) (L' := [some (.ref x), some (.int (zi a)), some (.int (zi b)), some (.int (zi t)), some (.int (zi jn1v0)), none, none, none]) (S' := [.int (zi 1), .int (zi a)]) rfl ?_
    have jn2 : ∀ (jn2v0 : Int), ((0 ≤ jn2v0) ∧ (jn2v0 ≤ 1) ∧ (jn2v0 = 1 → (1 ≤ a ∧ a ≤ b ∧ b ≤ 63))) → gz gPP gGG gcn (d + 2) gt62 45 [some (.ref x), some (.int (zi a)), some (.int (zi b)), some (.int (zi t)), some (.int (zi jn1v0)), none, none, none] [.int (zi jn2v0)] h (fun q _ => gSs rT 1027 ty [55008, 60999, 61999, 62999, 63999, 64999] h q.2.2 ∧ ∃ z n1 : Int, gfin gt62 q.1 q.2.1 = some (some (.int (zi z))) ∧ 0 ≤ z ∧ z ≤ 10 ∧ q.2.2.2.2.2.2 x 8 = .int (zi n1) ∧ 0 ≤ n1 ∧ n1 ≤ 10 ∧ (gTc ty n1 q.2.2)) := by
      intro jn2v0 jn2d
      refine gz_s 2 (pc' := 49) (L' := [some (.ref x), some (.int (zi a)), some (.int (zi b)), some (.int (zi t)), some (.int (zi jn1v0)), some (.int (zi jn2v0)), none, none]) (S' := [.int (zi jn1v0)]) rfl ?_
      by_cases hc3 : ¬ (jn1v0 : Int) = 0
      · refine gy_ifT (pc' := 57) rfl (by decide) (by decide) (by omega) hc3 ?_
        refine gz_s 1 (pc' := 58) (L' := [some (.ref x), some (.int (zi a)), some (.int (zi b)), some (.int (zi t)), some (.int (zi jn1v0)), some (.int (zi jn2v0)), none, none]) (S' := [.int (zi t)]) rfl ?_
        by_cases hc4 : (t : Int) < 0
        · refine gy_ifT (pc' := 75) rfl (by decide) (by decide) (by omega) hc4 ?_
          refine gz_s 1 (pc' := 76) (L' := [some (.ref x), some (.int (zi a)), some (.int (zi b)), some (.int (zi t)), some (.int (zi jn1v0)), some (.int (zi jn2v0)), none, none]) (S' := [.int (zi 0)]) rfl ?_
          exact gz_end (I := .ireturn) (len := 1) rfl (Or.inl rfl) ⟨hS, 0, n0, rfl, (by omega), (by omega), en0, (by omega), (by omega), hytc⟩
        · refine gy_ifF rfl (by decide) (by decide) (by omega) hc4 ?_
          refine gz_s 2 (pc' := 63) (L' := [some (.ref x), some (.int (zi a)), some (.int (zi b)), some (.int (zi t)), some (.int (zi jn1v0)), some (.int (zi jn2v0)), none, none]) (S' := [.int (zi 3), .int (zi t)]) rfl ?_
          by_cases hc5 : (3 : Int) < t
          · refine gy_icT (pc' := 75) rfl (by decide) (by decide) (by omega) (by omega) hc5 ?_
            refine gz_s 1 (pc' := 76) (L' := [some (.ref x), some (.int (zi a)), some (.int (zi b)), some (.int (zi t)), some (.int (zi jn1v0)), some (.int (zi jn2v0)), none, none]) (S' := [.int (zi 0)]) rfl ?_
            exact gz_end (I := .ireturn) (len := 1) rfl (Or.inl rfl) ⟨hS, 0, n0, rfl, (by omega), (by omega), en0, (by omega), (by omega), hytc⟩
          · refine gy_icF rfl (by decide) (by decide) (by omega) (by omega) hc5 ?_
            refine gz_s 1 (pc' := 67) (L' := [some (.ref x), some (.int (zi a)), some (.int (zi b)), some (.int (zi t)), some (.int (zi jn1v0)), some (.int (zi jn2v0)), none, none]) (S' := [.ref x]) rfl ?_
            refine gs_gtk rfl (by decide) rfl hS.1 tx rfl rfl en0 ?_
            refine gz_s 1 (pc' := 72) (L' := [some (.ref x), some (.int (zi a)), some (.int (zi b)), some (.int (zi t)), some (.int (zi jn1v0)), some (.int (zi jn2v0)), none, none]) (S' := [.int (zi 10), .int (zi n0)]) rfl ?_
            by_cases hc6 : (n0 : Int) < 10
            · refine gy_icT (pc' := 77) rfl (by decide) (by decide) (by omega) (by omega) hc6 ?_
              refine gz_s 1 (pc' := 78) (L' := [some (.ref x), some (.int (zi a)), some (.int (zi b)), some (.int (zi t)), some (.int (zi jn1v0)), some (.int (zi jn2v0)), none, none]) (S' := [.ref x]) rfl ?_
              refine gs_gtr rfl (by decide) rfl hS.1 tx rfl rfl rfl (fun c7 ec7 tc7 => ?_)
              refine gz_s 1 (pc' := 82) (L' := [some (.ref x), some (.int (zi a)), some (.int (zi b)), some (.int (zi t)), some (.int (zi jn1v0)), some (.int (zi jn2v0)), none, none]) (S' := [.int (zi a), .ref c7]) rfl ?_
              have hl8 : 64 ≤ h.2.2.2.1 c7 ∧ h.2.2.2.1 c7 ≤ 64 := gJ.rowl (G := gGG) hS.1 tc7 rfl
              refine gs_ald rfl (by decide) hS.1 tc7 rfl rfl rfl (by decide) (fun _ => rfl) (by omega) (by omega) (fun z9 ez9 az9 bz9 => ?_)
              have hf10 := gRow.at (i := a) (z := z9) rc tc7 ez9 (by omega) (by omega) (by omega)
              refine gz_s 3 (pc' := 88) (L' := [some (.ref x), some (.int (zi a)), some (.int (zi b)), some (.int (zi t)), some (.int (zi jn1v0)), some (.int (zi jn2v0)), some (.int (zi z9)), none]) (S' := [.int (zi (-1)), .int (zi z9)]) rfl ?_
              by_cases hc11 : (z9 : Int) = (-1)
              · refine gy_icT (pc' := 101) rfl (by decide) (by decide) (by omega) (by omega) hc11 ?_
                refine gz_s 2 (pc' := 104) (L' := [some (.ref x), some (.int (zi a)), some (.int (zi b)), some (.int (zi t)), some (.int (zi jn1v0)), some (.int (zi jn2v0)), some (.int (zi z9)), some (.int (zi a))]) (S' := []) rfl ?_
                have lp12 : ∀ (fu : Nat) (h13 : gH) (k : Int), (65 - k).toNat < fu → gSs rT 1027 ty [55008, 60999, 61999, 62999, 63999, 64999] h h13 → (0 ≤ k ∧ k ≤ 64) → (a ≤ k) → (k ≤ b + 1) → (0 ≤ a) → (a ≤ b) → (b ≤ 63) → (0 ≤ t) → (t ≤ 3) → (z9 = -1 ∨ z9 = t + 1) → h13.2.2.2.2 x 8 = .int (zi n0) → h13.2.2.2.2 x 9 = .ref c7 → gTc ty n0 h13 → gRow ty 60 tf h13 → gRow ty 61 tt h13 → gRow ty 64 cf h13 → (∀ j : Int, a ≤ j → j < k → cf j.toNat = cf a.toNat) → gz gPP gGG gcn (d + 2) gt62 104 [some (.ref x), some (.int (zi a)), some (.int (zi b)), some (.int (zi t)), some (.int (zi jn1v0)), some (.int (zi jn2v0)), some (.int (zi z9)), some (.int (zi k))] [] h13 (fun q _ => gSs rT 1027 ty [55008, 60999, 61999, 62999, 63999, 64999] h q.2.2 ∧ ∃ z n1 : Int, gfin gt62 q.1 q.2.1 = some (some (.int (zi z))) ∧ 0 ≤ z ∧ z ≤ 10 ∧ q.2.2.2.2.2.2 x 8 = .int (zi n1) ∧ 0 ≤ n1 ∧ n1 ≤ 10 ∧ (gTc ty n1 q.2.2)) := by
                  intro fu
                  induction fu with
                  | zero => intro h13 k hm; exact absurd hm (Nat.not_lt_zero _)
                  | succ fu ihlp12 =>
                    intro h13 k lp12m sh13 lp12f0 lp12f1 lp12f2 lp12f3 lp12f4 lp12f5 lp12f6 lp12f7 lp12f8 lp12k0 lp12k1 lp12k2 lp12k3 lp12k4 lp12k5 lp12k6
                    refine gz_s 2 (pc' := 107) (L' := [some (.ref x), some (.int (zi a)), some (.int (zi b)), some (.int (zi t)), some (.int (zi jn1v0)), some (.int (zi jn2v0)), some (.int (zi z9)), some (.int (zi k))]) (S' := [.int (zi b), .int (zi k)]) rfl ?_
                    by_cases hc14 : (b : Int) < k
                    · refine gy_icT (pc' := 130) rfl (by decide) (by decide) (by omega) (by omega) hc14 ?_
                      have hce15 : ∀ j : Int, a ≤ j → j < b + 1 → t + 1 ≤ gcr (cf j.toNat) := fun j h1 h2 => by
                        rw [lp12k6 j h1 (by omega)]
                        unfold gcr
                        split <;> omega
                      refine gz_s 1 (pc' := 131) (L' := [some (.ref x), some (.int (zi a)), some (.int (zi b)), some (.int (zi t)), some (.int (zi jn1v0)), some (.int (zi jn2v0)), some (.int (zi z9)), some (.int (zi k))]) (S' := [.ref x]) rfl ?_
                      refine gs_gtk rfl (by decide) rfl sh13.1 tx rfl rfl lp12k1 ?_
                      refine gy_s 5 (pc' := 139) (L' := [some (.ref x), some (.int (zi a)), some (.int (zi b)), some (.int (zi t)), some (.int (zi jn1v0)), some (.int (zi jn2v0)), some (.int (zi z9)), some (.int (zi k))]) (S' := [.int (zi t), .int ((zi b) + (zi 1)), .int (zi a), .ref c7]) (L2 := [some (.ref x), some (.int (zi a)), some (.int (zi b)), some (.int (zi t)), some (.int (zi jn1v0)), some (.int (zi jn2v0)), some (.int (zi z9)), some (.int (zi k))]) (S2 := [.int (zi t), .int (zi (b + 1)), .int (zi a), .ref c7]) rfl (by simp only [zi_add, zi_sub, zi_mul, zi_neg, zi_and1, zi_and7, zi_and15, zi_and31, zi_and255]) (by simp only [zi_add, zi_sub, zi_mul, zi_neg, zi_and1, zi_and7, zi_and15, zi_and31, zi_and255]) ?_
                      refine gz_call rfl (by decide) rfl (by decide) (by decide) (gcal_of rfl rfl rfl (Nat.le_of_ble_eq_true rfl) rfl) (cl_fill_range _ sh13.1 c7 tc7 a (by omega) (b + 1) (by omega) t (by omega) cf (by omega) uq lp12k5 hce15) (fun q16 _ wq16 => ?_)
                      obtain ⟨pq16, oq16, hq16⟩ := q16
                      obtain ⟨xq16, gq16, yq16_0⟩ := wq16
                      refine ⟨_, gq16, ?_⟩
                      show gz gPP gGG gcn _ _ 142 [some (.ref x), some (.int (zi a)), some (.int (zi b)), some (.int (zi t)), some (.int (zi jn1v0)), some (.int (zi jn2v0)), some (.int (zi z9)), some (.int (zi k))] [] hq16 _
                      have sq16 : gSs rT 1027 ty [55008, 60999, 61999, 62999, 63999, 64999] h hq16 := gSs.tr sh13 xq16 (by decide)
                      have s17 := (xq16.2.2.2.2.2 x 8 (by rw [tx]; decide)).trans lp12k0
                      have s18 := (xq16.2.2.2.2.2 x 9 (by rw [tx]; decide)).trans lp12k1
                      have pr19 := gRow.fr xq16.2 (by decide) lp12k3
                      have pr20 := gRow.fr xq16.2 (by decide) lp12k4
                      refine gz_s 1 (pc' := 143) (L' := [some (.ref x), some (.int (zi a)), some (.int (zi b)), some (.int (zi t)), some (.int (zi jn1v0)), some (.int (zi jn2v0)), some (.int (zi z9)), some (.int (zi k))]) (S' := [.ref x]) rfl ?_
                      refine gs_gtr rfl (by decide) rfl sq16.1 tx rfl rfl rfl (fun c21 ec21 tc21 => ?_)
                      refine gz_s 1 (pc' := 147) (L' := [some (.ref x), some (.int (zi a)), some (.int (zi b)), some (.int (zi t)), some (.int (zi jn1v0)), some (.int (zi jn2v0)), some (.int (zi z9)), some (.int (zi k))]) (S' := [.ref x, .ref c21]) rfl ?_
                      refine gs_gtk rfl (by decide) rfl sq16.1 tx rfl rfl s17 ?_
                      refine gz_s 1 (pc' := 151) (L' := [some (.ref x), some (.int (zi a)), some (.int (zi b)), some (.int (zi t)), some (.int (zi jn1v0)), some (.int (zi jn2v0)), some (.int (zi z9)), some (.int (zi k))]) (S' := [.int (zi a), .int (zi n0), .ref c21]) rfl ?_
                      have hl22 : 10 ≤ hq16.2.2.2.1 c21 ∧ hq16.2.2.2.1 c21 ≤ 10 := gJ.rowl (G := gGG) sq16.1 tc21 rfl
                      refine gs_ast rfl (by decide) sq16 tc21 rfl rfl rfl (by decide) (fun _ => rfl) (by omega) (by omega) (fun _ => (by decide : (60999 : Nat) ∈ ([55008, 60999, 61999, 62999, 63999, 64999] : List Nat))) (by omega) (by omega) (fun h23 sh23 eh23 fh23 => ?_)
                      have pr24 := gRow.put (i := n0) (z := a) uq tc21 (by decide) fh23 eh23 (by omega) (by omega) pr19
                      have pr25 := gRow.pt fh23 tc21 (by decide) pr20
                      have pr26 := gCr.pt fh23 tc21 (by decide) yq16_0
                      have s27 := (fh23 x 8 (fun q => absurd (((tx).symm.trans (congrArg ty q.1)).trans tc21) (by decide))).trans s17
                      have s28 := (fh23 x 9 (fun q => absurd (((tx).symm.trans (congrArg ty q.1)).trans tc21) (by decide))).trans s18
                      have s29 := (fh23 x 4 (fun q => absurd (((tx).symm.trans (congrArg ty q.1)).trans tc21) (by decide))).trans ec21
                      have pr30 := gEl.set (i := n0) (z := a) uq tc21 (by decide) eh23 (by omega) (by omega)
                      refine gz_s 1 (pc' := 153) (L' := [some (.ref x), some (.int (zi a)), some (.int (zi b)), some (.int (zi t)), some (.int (zi jn1v0)), some (.int (zi jn2v0)), some (.int (zi z9)), some (.int (zi k))]) (S' := [.ref x]) rfl ?_
                      refine gs_gtr rfl (by decide) rfl sh23.1 tx rfl rfl rfl (fun c31 ec31 tc31 => ?_)
                      refine gz_s 1 (pc' := 157) (L' := [some (.ref x), some (.int (zi a)), some (.int (zi b)), some (.int (zi t)), some (.int (zi jn1v0)), some (.int (zi jn2v0)), some (.int (zi z9)), some (.int (zi k))]) (S' := [.ref x, .ref c31]) rfl ?_
                      refine gs_gtk rfl (by decide) rfl sh23.1 tx rfl rfl s27 ?_
                      refine gz_s 1 (pc' := 161) (L' := [some (.ref x), some (.int (zi a)), some (.int (zi b)), some (.int (zi t)), some (.int (zi jn1v0)), some (.int (zi jn2v0)), some (.int (zi z9)), some (.int (zi k))]) (S' := [.int (zi b), .int (zi n0), .ref c31]) rfl ?_
                      have hl32 : 10 ≤ h23.2.2.2.1 c31 ∧ h23.2.2.2.1 c31 ≤ 10 := gJ.rowl (G := gGG) sh23.1 tc31 rfl
                      refine gs_ast rfl (by decide) sh23 tc31 rfl rfl rfl (by decide) (fun _ => rfl) (by omega) (by omega) (fun _ => (by decide : (61999 : Nat) ∈ ([55008, 60999, 61999, 62999, 63999, 64999] : List Nat))) (by omega) (by omega) (fun h33 sh33 eh33 fh33 => ?_)
                      have pr34 := gRow.pt fh33 tc31 (by decide) pr24
                      have pr35 := gRow.put (i := n0) (z := b) uq tc31 (by decide) fh33 eh33 (by omega) (by omega) pr25
                      have pr36 := gCr.pt fh33 tc31 (by decide) pr26
                      have pr37 := gEl.pt fh33 tc31 (by decide) pr30
                      have s38 := (fh33 x 8 (fun q => absurd (((tx).symm.trans (congrArg ty q.1)).trans tc31) (by decide))).trans s27
                      have s39 := (fh33 x 9 (fun q => absurd (((tx).symm.trans (congrArg ty q.1)).trans tc31) (by decide))).trans s28
                      have s40 := (fh33 x 4 (fun q => absurd (((tx).symm.trans (congrArg ty q.1)).trans tc31) (by decide))).trans s29
                      have s41 := (fh33 x 5 (fun q => absurd (((tx).symm.trans (congrArg ty q.1)).trans tc31) (by decide))).trans ec31
                      have pr42 := gEl.set (i := n0) (z := b) uq tc31 (by decide) eh33 (by omega) (by omega)
                      refine gz_s 1 (pc' := 163) (L' := [some (.ref x), some (.int (zi a)), some (.int (zi b)), some (.int (zi t)), some (.int (zi jn1v0)), some (.int (zi jn2v0)), some (.int (zi z9)), some (.int (zi k))]) (S' := [.ref x]) rfl ?_
                      refine gs_gtr rfl (by decide) rfl sh33.1 tx rfl rfl rfl (fun c43 ec43 tc43 => ?_)
                      refine gz_s 1 (pc' := 167) (L' := [some (.ref x), some (.int (zi a)), some (.int (zi b)), some (.int (zi t)), some (.int (zi jn1v0)), some (.int (zi jn2v0)), some (.int (zi z9)), some (.int (zi k))]) (S' := [.ref x, .ref c43]) rfl ?_
                      refine gs_gtk rfl (by decide) rfl sh33.1 tx rfl rfl s38 ?_
                      refine gz_s 2 (pc' := 173) (L' := [some (.ref x), some (.int (zi a)), some (.int (zi b)), some (.int (zi t)), some (.int (zi jn1v0)), some (.int (zi jn2v0)), some (.int (zi z9)), some (.int (zi k))]) (S' := [.int (zi z9), .int (zi 0), .int (zi n0), .ref c43]) rfl ?_
                      refine gz_call rfl (by decide) rfl (by decide) (by decide) (gcal_of rfl rfl rfl (Nat.le_of_ble_eq_true rfl) rfl) (cl_Math_max _ sh33.1 0 (by omega) z9 (by omega) ) (fun q44 _ wq44 => ?_)
                      obtain ⟨pq44, oq44, hq44⟩ := q44
                      obtain ⟨xq44, zq44, gq44, aq44, bq44, uq44_0, uq44_1, uq44_2⟩ := wq44
                      refine ⟨_, gq44, ?_⟩
                      show gz gPP gGG gcn _ _ 176 [some (.ref x), some (.int (zi a)), some (.int (zi b)), some (.int (zi t)), some (.int (zi jn1v0)), some (.int (zi jn2v0)), some (.int (zi z9)), some (.int (zi k))] [.int (zi zq44), .int (zi n0), .ref c43] hq44 _
                      have sq44 : gSs rT 1027 ty [55008, 60999, 61999, 62999, 63999, 64999] h hq44 := gSs.tr sh33 xq44 (by decide)
                      have s45 := (xq44.2.2.2.2.2 x 8 (by rw [tx]; decide)).trans s38
                      have s46 := (xq44.2.2.2.2.2 x 9 (by rw [tx]; decide)).trans s39
                      have s47 := (xq44.2.2.2.2.2 x 4 (by rw [tx]; decide)).trans s40
                      have s48 := (xq44.2.2.2.2.2 x 5 (by rw [tx]; decide)).trans s41
                      have s49 := (xq44.2.2.2.2.2 x 6 (by rw [tx]; decide)).trans ec43
                      have pr50 := gRow.fr xq44.2 (by decide) pr34
                      have pr51 := gRow.fr xq44.2 (by decide) pr35
                      have pr52 := gCr.fr xq44.2 (by decide) pr36
                      have pr53 := gEl.fr xq44.2 (by decide) (fun _ => rfl) pr37
                      have pr54 := gEl.fr xq44.2 (by decide) (fun _ => rfl) pr42
                      have hl55 : 10 ≤ hq44.2.2.2.1 c43 ∧ hq44.2.2.2.1 c43 ≤ 10 := gJ.rowl (G := gGG) sq44.1 tc43 rfl
                      refine gs_ast rfl (by decide) sq44 tc43 rfl rfl rfl (by decide) (fun _ => rfl) (by omega) (by omega) (fun _ => (by decide : (62999 : Nat) ∈ ([55008, 60999, 61999, 62999, 63999, 64999] : List Nat))) (by omega) (by omega) (fun h56 sh56 eh56 fh56 => ?_)
                      have pr57 := gRow.pt fh56 tc43 (by decide) pr50
                      have pr58 := gRow.pt fh56 tc43 (by decide) pr51
                      have pr59 := gCr.pt fh56 tc43 (by decide) pr52
                      have pr60 := gEl.pt fh56 tc43 (by decide) pr53
                      have pr61 := gEl.pt fh56 tc43 (by decide) pr54
                      have s62 := (fh56 x 8 (fun q => absurd (((tx).symm.trans (congrArg ty q.1)).trans tc43) (by decide))).trans s45
                      have s63 := (fh56 x 9 (fun q => absurd (((tx).symm.trans (congrArg ty q.1)).trans tc43) (by decide))).trans s46
                      have s64 := (fh56 x 4 (fun q => absurd (((tx).symm.trans (congrArg ty q.1)).trans tc43) (by decide))).trans s47
                      have s65 := (fh56 x 5 (fun q => absurd (((tx).symm.trans (congrArg ty q.1)).trans tc43) (by decide))).trans s48
                      have s66 := (fh56 x 6 (fun q => absurd (((tx).symm.trans (congrArg ty q.1)).trans tc43) (by decide))).trans s49
                      have pr67 := gEl.set (i := n0) (z := zq44) uq tc43 (by decide) eh56 (by omega) (by omega)
                      refine gz_s 1 (pc' := 178) (L' := [some (.ref x), some (.int (zi a)), some (.int (zi b)), some (.int (zi t)), some (.int (zi jn1v0)), some (.int (zi jn2v0)), some (.int (zi z9)), some (.int (zi k))]) (S' := [.ref x]) rfl ?_
                      refine gs_gtr rfl (by decide) rfl sh56.1 tx rfl rfl rfl (fun c68 ec68 tc68 => ?_)
                      refine gz_s 1 (pc' := 182) (L' := [some (.ref x), some (.int (zi a)), some (.int (zi b)), some (.int (zi t)), some (.int (zi jn1v0)), some (.int (zi jn2v0)), some (.int (zi z9)), some (.int (zi k))]) (S' := [.ref x, .ref c68]) rfl ?_
                      refine gs_gtk rfl (by decide) rfl sh56.1 tx rfl rfl s62 ?_
                      refine gz_s 1 (pc' := 186) (L' := [some (.ref x), some (.int (zi a)), some (.int (zi b)), some (.int (zi t)), some (.int (zi jn1v0)), some (.int (zi jn2v0)), some (.int (zi z9)), some (.int (zi k))]) (S' := [.int (zi t), .int (zi n0), .ref c68]) rfl ?_
                      have hl69 : 10 ≤ h56.2.2.2.1 c68 ∧ h56.2.2.2.1 c68 ≤ 10 := gJ.rowl (G := gGG) sh56.1 tc68 rfl
                      refine gs_ast rfl (by decide) sh56 tc68 rfl rfl rfl (by decide) (fun _ => rfl) (by omega) (by omega) (fun _ => (by decide : (63999 : Nat) ∈ ([55008, 60999, 61999, 62999, 63999, 64999] : List Nat))) (by omega) (by omega) (fun h70 sh70 eh70 fh70 => ?_)
                      have pr71 := gRow.pt fh70 tc68 (by decide) pr57
                      have pr72 := gRow.pt fh70 tc68 (by decide) pr58
                      have pr73 := gCr.pt fh70 tc68 (by decide) pr59
                      have pr74 := gEl.pt fh70 tc68 (by decide) pr60
                      have pr75 := gEl.pt fh70 tc68 (by decide) pr61
                      have pr76 := gEl.pt fh70 tc68 (by decide) pr67
                      have s77 := (fh70 x 8 (fun q => absurd (((tx).symm.trans (congrArg ty q.1)).trans tc68) (by decide))).trans s62
                      have s78 := (fh70 x 9 (fun q => absurd (((tx).symm.trans (congrArg ty q.1)).trans tc68) (by decide))).trans s63
                      have s79 := (fh70 x 4 (fun q => absurd (((tx).symm.trans (congrArg ty q.1)).trans tc68) (by decide))).trans s64
                      have s80 := (fh70 x 5 (fun q => absurd (((tx).symm.trans (congrArg ty q.1)).trans tc68) (by decide))).trans s65
                      have s81 := (fh70 x 6 (fun q => absurd (((tx).symm.trans (congrArg ty q.1)).trans tc68) (by decide))).trans s66
                      have s82 := (fh70 x 7 (fun q => absurd (((tx).symm.trans (congrArg ty q.1)).trans tc68) (by decide))).trans ec68
                      have pr83 := gEl.set (i := n0) (z := t) uq tc68 (by decide) eh70 (by omega) (by omega)
                      refine gz_s 2 (pc' := 189) (L' := [some (.ref x), some (.int (zi a)), some (.int (zi b)), some (.int (zi t)), some (.int (zi jn1v0)), some (.int (zi jn2v0)), some (.int (zi z9)), some (.int (zi k))]) (S' := [.ref x, .ref x]) rfl ?_
                      refine gs_gtk rfl (by decide) rfl sh70.1 tx rfl rfl s77 ?_
                      refine gy_s 2 (pc' := 194) (L' := [some (.ref x), some (.int (zi a)), some (.int (zi b)), some (.int (zi t)), some (.int (zi jn1v0)), some (.int (zi jn2v0)), some (.int (zi z9)), some (.int (zi k))]) (S' := [.int ((zi n0) + (zi 1)), .ref x]) (L2 := [some (.ref x), some (.int (zi a)), some (.int (zi b)), some (.int (zi t)), some (.int (zi jn1v0)), some (.int (zi jn2v0)), some (.int (zi z9)), some (.int (zi k))]) (S2 := [.int (zi (n0 + 1)), .ref x]) rfl (by simp only [zi_add, zi_sub, zi_mul, zi_neg, zi_and1, zi_and7, zi_and15, zi_and31, zi_and255]) (by simp only [zi_add, zi_sub, zi_mul, zi_neg, zi_and1, zi_and7, zi_and15, zi_and31, zi_and255]) ?_
                      refine gs_put rfl (by decide) rfl sh70 tx rfl rfl rfl rfl (Or.inl rfl) (by decide) (by omega) (by omega) (fun h84 sh84 eh84 fh84 => ?_)
                      have pr85 := gRow.pt fh84 tx (by decide) pr71
                      have pr86 := gRow.pt fh84 tx (by decide) pr72
                      have pr87 := gCr.pt fh84 tx (by decide) pr73
                      have pr88 := gEl.pt fh84 tx (by decide) pr74
                      have pr89 := gEl.pt fh84 tx (by decide) pr75
                      have pr90 := gEl.pt fh84 tx (by decide) pr76
                      have pr91 := gEl.pt fh84 tx (by decide) pr83
                      have s92 := (fh84 x 9 (fun q => absurd q.2 (by decide))).trans s78
                      have s93 := (fh84 x 4 (fun q => absurd q.2 (by decide))).trans s79
                      have s94 := (fh84 x 5 (fun q => absurd q.2 (by decide))).trans s80
                      have s95 := (fh84 x 6 (fun q => absurd q.2 (by decide))).trans s81
                      have s96 := (fh84 x 7 (fun q => absurd q.2 (by decide))).trans s82
                      obtain ⟨c2, rc2, hcm⟩ := pr87
                      have hts97 : gTc ty (n0 + 1) h84 := gTc.tell (by omega) pr85 pr86 rc2 tle tsm hcm (by omega) (by omega)
                      refine gz_s 1 (pc' := 198) (L' := [some (.ref x), some (.int (zi a)), some (.int (zi b)), some (.int (zi t)), some (.int (zi jn1v0)), some (.int (zi jn2v0)), some (.int (zi z9)), some (.int (zi k))]) (S' := [.ref x]) rfl ?_
                      refine gs_gtk rfl (by decide) rfl sh84.1 tx rfl rfl eh84 ?_
                      exact gz_end (I := .ireturn) (len := 1) rfl (Or.inl rfl) ⟨sh84, n0 + 1, n0 + 1, rfl, (by omega), (by omega), eh84, (by omega), (by omega), hts97⟩
                    · refine gy_icF rfl (by decide) (by decide) (by omega) (by omega) hc14 ?_
                      refine gz_s 1 (pc' := 111) (L' := [some (.ref x), some (.int (zi a)), some (.int (zi b)), some (.int (zi t)), some (.int (zi jn1v0)), some (.int (zi jn2v0)), some (.int (zi z9)), some (.int (zi k))]) (S' := [.ref x]) rfl ?_
                      refine gs_gtk rfl (by decide) rfl sh13.1 tx rfl rfl lp12k1 ?_
                      refine gz_s 1 (pc' := 116) (L' := [some (.ref x), some (.int (zi a)), some (.int (zi b)), some (.int (zi t)), some (.int (zi jn1v0)), some (.int (zi jn2v0)), some (.int (zi z9)), some (.int (zi k))]) (S' := [.int (zi k), .ref c7]) rfl ?_
                      have hl98 : 64 ≤ h13.2.2.2.1 c7 ∧ h13.2.2.2.1 c7 ≤ 64 := gJ.rowl (G := gGG) sh13.1 tc7 rfl
                      refine gs_ald rfl (by decide) sh13.1 tc7 rfl rfl rfl (by decide) (fun _ => rfl) (by omega) (by omega) (fun z99 ez99 az99 bz99 => ?_)
                      have hf100 := gRow.at (i := k) (z := z99) lp12k5 tc7 ez99 (by omega) (by omega) (by omega)
                      refine gz_s 1 (pc' := 119) (L' := [some (.ref x), some (.int (zi a)), some (.int (zi b)), some (.int (zi t)), some (.int (zi jn1v0)), some (.int (zi jn2v0)), some (.int (zi z9)), some (.int (zi k))]) (S' := [.int (zi z9), .int (zi z99)]) rfl ?_
                      by_cases hc101 : (z99 : Int) = z9
                      · refine gy_icT (pc' := 124) rfl (by decide) (by decide) (by omega) (by omega) hc101 ?_
                        have hce102 : ∀ j : Int, a ≤ j → j < k + 1 → cf j.toNat = cf a.toNat := fun j h1 h2 => by
                          by_cases e : j = k
                          · subst e; omega
                          · exact lp12k6 j h1 (by omega)
                        refine gy_s 2 (pc' := 104) (L' := [some (.ref x), some (.int (zi a)), some (.int (zi b)), some (.int (zi t)), some (.int (zi jn1v0)), some (.int (zi jn2v0)), some (.int (zi z9)), some (.int ((zi k) + zi 1))]) (S' := []) (L2 := [some (.ref x), some (.int (zi a)), some (.int (zi b)), some (.int (zi t)), some (.int (zi jn1v0)), some (.int (zi jn2v0)), some (.int (zi z9)), some (.int (zi (k + 1)))]) (S2 := []) rfl (by simp only [zi_add, zi_sub, zi_mul, zi_neg, zi_and1, zi_and7, zi_and15, zi_and31, zi_and255]) (by simp only [zi_add, zi_sub, zi_mul, zi_neg, zi_and1, zi_and7, zi_and15, zi_and31, zi_and255]) ?_
                        exact gz_wk (ihlp12 h13 (k + 1) (by omega) sh13 (by omega) (by omega) (by omega) (by omega) (by omega) (by omega) (by omega) (by omega) (by omega) lp12k0 lp12k1 lp12k2 lp12k3 lp12k4 lp12k5 hce102) (gLw.s (gLw.s (gLw.s (gLw.s (gLw.s (gLw.s (gLw.s (gLw.s gLw.z))))))))
                      · refine gy_icF rfl (by decide) (by decide) (by omega) (by omega) hc101 ?_
                        refine gz_s 1 (pc' := 123) (L' := [some (.ref x), some (.int (zi a)), some (.int (zi b)), some (.int (zi t)), some (.int (zi jn1v0)), some (.int (zi jn2v0)), some (.int (zi z9)), some (.int (zi k))]) (S' := [.int (zi 0)]) rfl ?_
                        exact gz_end (I := .ireturn) (len := 1) rfl (Or.inl rfl) ⟨sh13, 0, n0, rfl, (by omega), (by omega), lp12k0, (by omega), (by omega), lp12k2⟩
                exact gz_wk (lp12 _ h a (Nat.lt_succ_self _) hS (by omega) (by omega) (by omega) (by omega) (by omega) (by omega) (by omega) (by omega) (by omega) en0 ec7 hytc rf rt rc (fun j h1 h2 => absurd h2 (by omega))) (gLw.s (gLw.s (gLw.s (gLw.s (gLw.s (gLw.s (gLw.s (gLw.s gLw.z))))))))
              · refine gy_icF rfl (by decide) (by decide) (by omega) (by omega) hc11 ?_
                refine gy_s 4 (pc' := 96) (L' := [some (.ref x), some (.int (zi a)), some (.int (zi b)), some (.int (zi t)), some (.int (zi jn1v0)), some (.int (zi jn2v0)), some (.int (zi z9)), none]) (S' := [.int ((zi t) + (zi 1)), .int (zi z9)]) (L2 := [some (.ref x), some (.int (zi a)), some (.int (zi b)), some (.int (zi t)), some (.int (zi jn1v0)), some (.int (zi jn2v0)), some (.int (zi z9)), none]) (S2 := [.int (zi (t + 1)), .int (zi z9)]) rfl (by simp only [zi_add, zi_sub, zi_mul, zi_neg, zi_and1, zi_and7, zi_and15, zi_and31, zi_and255]) (by simp only [zi_add, zi_sub, zi_mul, zi_neg, zi_and1, zi_and7, zi_and15, zi_and31, zi_and255]) ?_
                by_cases hc103 : (z9 : Int) = t + 1
                · refine gy_icT (pc' := 101) rfl (by decide) (by decide) (by omega) (by omega) hc103 ?_
                  refine gz_s 2 (pc' := 104) (L' := [some (.ref x), some (.int (zi a)), some (.int (zi b)), some (.int (zi t)), some (.int (zi jn1v0)), some (.int (zi jn2v0)), some (.int (zi z9)), some (.int (zi a))]) (S' := []) rfl ?_
                  have lp104 : ∀ (fu : Nat) (h105 : gH) (k : Int), (65 - k).toNat < fu → gSs rT 1027 ty [55008, 60999, 61999, 62999, 63999, 64999] h h105 → (0 ≤ k ∧ k ≤ 64) → (a ≤ k) → (k ≤ b + 1) → (0 ≤ a) → (a ≤ b) → (b ≤ 63) → (0 ≤ t) → (t ≤ 3) → (z9 = -1 ∨ z9 = t + 1) → h105.2.2.2.2 x 8 = .int (zi n0) → h105.2.2.2.2 x 9 = .ref c7 → gTc ty n0 h105 → gRow ty 60 tf h105 → gRow ty 61 tt h105 → gRow ty 64 cf h105 → (∀ j : Int, a ≤ j → j < k → cf j.toNat = cf a.toNat) → gz gPP gGG gcn (d + 2) gt62 104 [some (.ref x), some (.int (zi a)), some (.int (zi b)), some (.int (zi t)), some (.int (zi jn1v0)), some (.int (zi jn2v0)), some (.int (zi z9)), some (.int (zi k))] [] h105 (fun q _ => gSs rT 1027 ty [55008, 60999, 61999, 62999, 63999, 64999] h q.2.2 ∧ ∃ z n1 : Int, gfin gt62 q.1 q.2.1 = some (some (.int (zi z))) ∧ 0 ≤ z ∧ z ≤ 10 ∧ q.2.2.2.2.2.2 x 8 = .int (zi n1) ∧ 0 ≤ n1 ∧ n1 ≤ 10 ∧ (gTc ty n1 q.2.2)) := by
                    intro fu
                    induction fu with
                    | zero => intro h105 k hm; exact absurd hm (Nat.not_lt_zero _)
                    | succ fu ihlp104 =>
                      intro h105 k lp104m sh105 lp104f0 lp104f1 lp104f2 lp104f3 lp104f4 lp104f5 lp104f6 lp104f7 lp104f8 lp104k0 lp104k1 lp104k2 lp104k3 lp104k4 lp104k5 lp104k6
                      refine gz_s 2 (pc' := 107) (L' := [some (.ref x), some (.int (zi a)), some (.int (zi b)), some (.int (zi t)), some (.int (zi jn1v0)), some (.int (zi jn2v0)), some (.int (zi z9)), some (.int (zi k))]) (S' := [.int (zi b), .int (zi k)]) rfl ?_
                      by_cases hc106 : (b : Int) < k
                      · refine gy_icT (pc' := 130) rfl (by decide) (by decide) (by omega) (by omega) hc106 ?_
                        have hce107 : ∀ j : Int, a ≤ j → j < b + 1 → t + 1 ≤ gcr (cf j.toNat) := fun j h1 h2 => by
                          rw [lp104k6 j h1 (by omega)]
                          unfold gcr
                          split <;> omega
                        refine gz_s 1 (pc' := 131) (L' := [some (.ref x), some (.int (zi a)), some (.int (zi b)), some (.int (zi t)), some (.int (zi jn1v0)), some (.int (zi jn2v0)), some (.int (zi z9)), some (.int (zi k))]) (S' := [.ref x]) rfl ?_
                        refine gs_gtk rfl (by decide) rfl sh105.1 tx rfl rfl lp104k1 ?_
                        refine gy_s 5 (pc' := 139) (L' := [some (.ref x), some (.int (zi a)), some (.int (zi b)), some (.int (zi t)), some (.int (zi jn1v0)), some (.int (zi jn2v0)), some (.int (zi z9)), some (.int (zi k))]) (S' := [.int (zi t), .int ((zi b) + (zi 1)), .int (zi a), .ref c7]) (L2 := [some (.ref x), some (.int (zi a)), some (.int (zi b)), some (.int (zi t)), some (.int (zi jn1v0)), some (.int (zi jn2v0)), some (.int (zi z9)), some (.int (zi k))]) (S2 := [.int (zi t), .int (zi (b + 1)), .int (zi a), .ref c7]) rfl (by simp only [zi_add, zi_sub, zi_mul, zi_neg, zi_and1, zi_and7, zi_and15, zi_and31, zi_and255]) (by simp only [zi_add, zi_sub, zi_mul, zi_neg, zi_and1, zi_and7, zi_and15, zi_and31, zi_and255]) ?_
                        refine gz_call rfl (by decide) rfl (by decide) (by decide) (gcal_of rfl rfl rfl (Nat.le_of_ble_eq_true rfl) rfl) (cl_fill_range _ sh105.1 c7 tc7 a (by omega) (b + 1) (by omega) t (by omega) cf (by omega) uq lp104k5 hce107) (fun q108 _ wq108 => ?_)
                        obtain ⟨pq108, oq108, hq108⟩ := q108
                        obtain ⟨xq108, gq108, yq108_0⟩ := wq108
                        refine ⟨_, gq108, ?_⟩
                        show gz gPP gGG gcn _ _ 142 [some (.ref x), some (.int (zi a)), some (.int (zi b)), some (.int (zi t)), some (.int (zi jn1v0)), some (.int (zi jn2v0)), some (.int (zi z9)), some (.int (zi k))] [] hq108 _
                        have sq108 : gSs rT 1027 ty [55008, 60999, 61999, 62999, 63999, 64999] h hq108 := gSs.tr sh105 xq108 (by decide)
                        have s109 := (xq108.2.2.2.2.2 x 8 (by rw [tx]; decide)).trans lp104k0
                        have s110 := (xq108.2.2.2.2.2 x 9 (by rw [tx]; decide)).trans lp104k1
                        have pr111 := gRow.fr xq108.2 (by decide) lp104k3
                        have pr112 := gRow.fr xq108.2 (by decide) lp104k4
                        refine gz_s 1 (pc' := 143) (L' := [some (.ref x), some (.int (zi a)), some (.int (zi b)), some (.int (zi t)), some (.int (zi jn1v0)), some (.int (zi jn2v0)), some (.int (zi z9)), some (.int (zi k))]) (S' := [.ref x]) rfl ?_
                        refine gs_gtr rfl (by decide) rfl sq108.1 tx rfl rfl rfl (fun c113 ec113 tc113 => ?_)
                        refine gz_s 1 (pc' := 147) (L' := [some (.ref x), some (.int (zi a)), some (.int (zi b)), some (.int (zi t)), some (.int (zi jn1v0)), some (.int (zi jn2v0)), some (.int (zi z9)), some (.int (zi k))]) (S' := [.ref x, .ref c113]) rfl ?_
                        refine gs_gtk rfl (by decide) rfl sq108.1 tx rfl rfl s109 ?_
                        refine gz_s 1 (pc' := 151) (L' := [some (.ref x), some (.int (zi a)), some (.int (zi b)), some (.int (zi t)), some (.int (zi jn1v0)), some (.int (zi jn2v0)), some (.int (zi z9)), some (.int (zi k))]) (S' := [.int (zi a), .int (zi n0), .ref c113]) rfl ?_
                        have hl114 : 10 ≤ hq108.2.2.2.1 c113 ∧ hq108.2.2.2.1 c113 ≤ 10 := gJ.rowl (G := gGG) sq108.1 tc113 rfl
                        refine gs_ast rfl (by decide) sq108 tc113 rfl rfl rfl (by decide) (fun _ => rfl) (by omega) (by omega) (fun _ => (by decide : (60999 : Nat) ∈ ([55008, 60999, 61999, 62999, 63999, 64999] : List Nat))) (by omega) (by omega) (fun h115 sh115 eh115 fh115 => ?_)
                        have pr116 := gRow.put (i := n0) (z := a) uq tc113 (by decide) fh115 eh115 (by omega) (by omega) pr111
                        have pr117 := gRow.pt fh115 tc113 (by decide) pr112
                        have pr118 := gCr.pt fh115 tc113 (by decide) yq108_0
                        have s119 := (fh115 x 8 (fun q => absurd (((tx).symm.trans (congrArg ty q.1)).trans tc113) (by decide))).trans s109
                        have s120 := (fh115 x 9 (fun q => absurd (((tx).symm.trans (congrArg ty q.1)).trans tc113) (by decide))).trans s110
                        have s121 := (fh115 x 4 (fun q => absurd (((tx).symm.trans (congrArg ty q.1)).trans tc113) (by decide))).trans ec113
                        have pr122 := gEl.set (i := n0) (z := a) uq tc113 (by decide) eh115 (by omega) (by omega)
                        refine gz_s 1 (pc' := 153) (L' := [some (.ref x), some (.int (zi a)), some (.int (zi b)), some (.int (zi t)), some (.int (zi jn1v0)), some (.int (zi jn2v0)), some (.int (zi z9)), some (.int (zi k))]) (S' := [.ref x]) rfl ?_
                        refine gs_gtr rfl (by decide) rfl sh115.1 tx rfl rfl rfl (fun c123 ec123 tc123 => ?_)
                        refine gz_s 1 (pc' := 157) (L' := [some (.ref x), some (.int (zi a)), some (.int (zi b)), some (.int (zi t)), some (.int (zi jn1v0)), some (.int (zi jn2v0)), some (.int (zi z9)), some (.int (zi k))]) (S' := [.ref x, .ref c123]) rfl ?_
                        refine gs_gtk rfl (by decide) rfl sh115.1 tx rfl rfl s119 ?_
                        refine gz_s 1 (pc' := 161) (L' := [some (.ref x), some (.int (zi a)), some (.int (zi b)), some (.int (zi t)), some (.int (zi jn1v0)), some (.int (zi jn2v0)), some (.int (zi z9)), some (.int (zi k))]) (S' := [.int (zi b), .int (zi n0), .ref c123]) rfl ?_
                        have hl124 : 10 ≤ h115.2.2.2.1 c123 ∧ h115.2.2.2.1 c123 ≤ 10 := gJ.rowl (G := gGG) sh115.1 tc123 rfl
                        refine gs_ast rfl (by decide) sh115 tc123 rfl rfl rfl (by decide) (fun _ => rfl) (by omega) (by omega) (fun _ => (by decide : (61999 : Nat) ∈ ([55008, 60999, 61999, 62999, 63999, 64999] : List Nat))) (by omega) (by omega) (fun h125 sh125 eh125 fh125 => ?_)
                        have pr126 := gRow.pt fh125 tc123 (by decide) pr116
                        have pr127 := gRow.put (i := n0) (z := b) uq tc123 (by decide) fh125 eh125 (by omega) (by omega) pr117
                        have pr128 := gCr.pt fh125 tc123 (by decide) pr118
                        have pr129 := gEl.pt fh125 tc123 (by decide) pr122
                        have s130 := (fh125 x 8 (fun q => absurd (((tx).symm.trans (congrArg ty q.1)).trans tc123) (by decide))).trans s119
                        have s131 := (fh125 x 9 (fun q => absurd (((tx).symm.trans (congrArg ty q.1)).trans tc123) (by decide))).trans s120
                        have s132 := (fh125 x 4 (fun q => absurd (((tx).symm.trans (congrArg ty q.1)).trans tc123) (by decide))).trans s121
                        have s133 := (fh125 x 5 (fun q => absurd (((tx).symm.trans (congrArg ty q.1)).trans tc123) (by decide))).trans ec123
                        have pr134 := gEl.set (i := n0) (z := b) uq tc123 (by decide) eh125 (by omega) (by omega)
                        refine gz_s 1 (pc' := 163) (L' := [some (.ref x), some (.int (zi a)), some (.int (zi b)), some (.int (zi t)), some (.int (zi jn1v0)), some (.int (zi jn2v0)), some (.int (zi z9)), some (.int (zi k))]) (S' := [.ref x]) rfl ?_
                        refine gs_gtr rfl (by decide) rfl sh125.1 tx rfl rfl rfl (fun c135 ec135 tc135 => ?_)
                        refine gz_s 1 (pc' := 167) (L' := [some (.ref x), some (.int (zi a)), some (.int (zi b)), some (.int (zi t)), some (.int (zi jn1v0)), some (.int (zi jn2v0)), some (.int (zi z9)), some (.int (zi k))]) (S' := [.ref x, .ref c135]) rfl ?_
                        refine gs_gtk rfl (by decide) rfl sh125.1 tx rfl rfl s130 ?_
                        refine gz_s 2 (pc' := 173) (L' := [some (.ref x), some (.int (zi a)), some (.int (zi b)), some (.int (zi t)), some (.int (zi jn1v0)), some (.int (zi jn2v0)), some (.int (zi z9)), some (.int (zi k))]) (S' := [.int (zi z9), .int (zi 0), .int (zi n0), .ref c135]) rfl ?_
                        refine gz_call rfl (by decide) rfl (by decide) (by decide) (gcal_of rfl rfl rfl (Nat.le_of_ble_eq_true rfl) rfl) (cl_Math_max _ sh125.1 0 (by omega) z9 (by omega) ) (fun q136 _ wq136 => ?_)
                        obtain ⟨pq136, oq136, hq136⟩ := q136
                        obtain ⟨xq136, zq136, gq136, aq136, bq136, uq136_0, uq136_1, uq136_2⟩ := wq136
                        refine ⟨_, gq136, ?_⟩
                        show gz gPP gGG gcn _ _ 176 [some (.ref x), some (.int (zi a)), some (.int (zi b)), some (.int (zi t)), some (.int (zi jn1v0)), some (.int (zi jn2v0)), some (.int (zi z9)), some (.int (zi k))] [.int (zi zq136), .int (zi n0), .ref c135] hq136 _
                        have sq136 : gSs rT 1027 ty [55008, 60999, 61999, 62999, 63999, 64999] h hq136 := gSs.tr sh125 xq136 (by decide)
                        have s137 := (xq136.2.2.2.2.2 x 8 (by rw [tx]; decide)).trans s130
                        have s138 := (xq136.2.2.2.2.2 x 9 (by rw [tx]; decide)).trans s131
                        have s139 := (xq136.2.2.2.2.2 x 4 (by rw [tx]; decide)).trans s132
                        have s140 := (xq136.2.2.2.2.2 x 5 (by rw [tx]; decide)).trans s133
                        have s141 := (xq136.2.2.2.2.2 x 6 (by rw [tx]; decide)).trans ec135
                        have pr142 := gRow.fr xq136.2 (by decide) pr126
                        have pr143 := gRow.fr xq136.2 (by decide) pr127
                        have pr144 := gCr.fr xq136.2 (by decide) pr128
                        have pr145 := gEl.fr xq136.2 (by decide) (fun _ => rfl) pr129
                        have pr146 := gEl.fr xq136.2 (by decide) (fun _ => rfl) pr134
                        have hl147 : 10 ≤ hq136.2.2.2.1 c135 ∧ hq136.2.2.2.1 c135 ≤ 10 := gJ.rowl (G := gGG) sq136.1 tc135 rfl
                        refine gs_ast rfl (by decide) sq136 tc135 rfl rfl rfl (by decide) (fun _ => rfl) (by omega) (by omega) (fun _ => (by decide : (62999 : Nat) ∈ ([55008, 60999, 61999, 62999, 63999, 64999] : List Nat))) (by omega) (by omega) (fun h148 sh148 eh148 fh148 => ?_)
                        have pr149 := gRow.pt fh148 tc135 (by decide) pr142
                        have pr150 := gRow.pt fh148 tc135 (by decide) pr143
                        have pr151 := gCr.pt fh148 tc135 (by decide) pr144
                        have pr152 := gEl.pt fh148 tc135 (by decide) pr145
                        have pr153 := gEl.pt fh148 tc135 (by decide) pr146
                        have s154 := (fh148 x 8 (fun q => absurd (((tx).symm.trans (congrArg ty q.1)).trans tc135) (by decide))).trans s137
                        have s155 := (fh148 x 9 (fun q => absurd (((tx).symm.trans (congrArg ty q.1)).trans tc135) (by decide))).trans s138
                        have s156 := (fh148 x 4 (fun q => absurd (((tx).symm.trans (congrArg ty q.1)).trans tc135) (by decide))).trans s139
                        have s157 := (fh148 x 5 (fun q => absurd (((tx).symm.trans (congrArg ty q.1)).trans tc135) (by decide))).trans s140
                        have s158 := (fh148 x 6 (fun q => absurd (((tx).symm.trans (congrArg ty q.1)).trans tc135) (by decide))).trans s141
                        have pr159 := gEl.set (i := n0) (z := zq136) uq tc135 (by decide) eh148 (by omega) (by omega)
                        refine gz_s 1 (pc' := 178) (L' := [some (.ref x), some (.int (zi a)), some (.int (zi b)), some (.int (zi t)), some (.int (zi jn1v0)), some (.int (zi jn2v0)), some (.int (zi z9)), some (.int (zi k))]) (S' := [.ref x]) rfl ?_
                        refine gs_gtr rfl (by decide) rfl sh148.1 tx rfl rfl rfl (fun c160 ec160 tc160 => ?_)
                        refine gz_s 1 (pc' := 182) (L' := [some (.ref x), some (.int (zi a)), some (.int (zi b)), some (.int (zi t)), some (.int (zi jn1v0)), some (.int (zi jn2v0)), some (.int (zi z9)), some (.int (zi k))]) (S' := [.ref x, .ref c160]) rfl ?_
                        refine gs_gtk rfl (by decide) rfl sh148.1 tx rfl rfl s154 ?_
                        refine gz_s 1 (pc' := 186) (L' := [some (.ref x), some (.int (zi a)), some (.int (zi b)), some (.int (zi t)), some (.int (zi jn1v0)), some (.int (zi jn2v0)), some (.int (zi z9)), some (.int (zi k))]) (S' := [.int (zi t), .int (zi n0), .ref c160]) rfl ?_
                        have hl161 : 10 ≤ h148.2.2.2.1 c160 ∧ h148.2.2.2.1 c160 ≤ 10 := gJ.rowl (G := gGG) sh148.1 tc160 rfl
                        refine gs_ast rfl (by decide) sh148 tc160 rfl rfl rfl (by decide) (fun _ => rfl) (by omega) (by omega) (fun _ => (by decide : (63999 : Nat) ∈ ([55008, 60999, 61999, 62999, 63999, 64999] : List Nat))) (by omega) (by omega) (fun h162 sh162 eh162 fh162 => ?_)
                        have pr163 := gRow.pt fh162 tc160 (by decide) pr149
                        have pr164 := gRow.pt fh162 tc160 (by decide) pr150
                        have pr165 := gCr.pt fh162 tc160 (by decide) pr151
                        have pr166 := gEl.pt fh162 tc160 (by decide) pr152
                        have pr167 := gEl.pt fh162 tc160 (by decide) pr153
                        have pr168 := gEl.pt fh162 tc160 (by decide) pr159
                        have s169 := (fh162 x 8 (fun q => absurd (((tx).symm.trans (congrArg ty q.1)).trans tc160) (by decide))).trans s154
                        have s170 := (fh162 x 9 (fun q => absurd (((tx).symm.trans (congrArg ty q.1)).trans tc160) (by decide))).trans s155
                        have s171 := (fh162 x 4 (fun q => absurd (((tx).symm.trans (congrArg ty q.1)).trans tc160) (by decide))).trans s156
                        have s172 := (fh162 x 5 (fun q => absurd (((tx).symm.trans (congrArg ty q.1)).trans tc160) (by decide))).trans s157
                        have s173 := (fh162 x 6 (fun q => absurd (((tx).symm.trans (congrArg ty q.1)).trans tc160) (by decide))).trans s158
                        have s174 := (fh162 x 7 (fun q => absurd (((tx).symm.trans (congrArg ty q.1)).trans tc160) (by decide))).trans ec160
                        have pr175 := gEl.set (i := n0) (z := t) uq tc160 (by decide) eh162 (by omega) (by omega)
                        refine gz_s 2 (pc' := 189) (L' := [some (.ref x), some (.int (zi a)), some (.int (zi b)), some (.int (zi t)), some (.int (zi jn1v0)), some (.int (zi jn2v0)), some (.int (zi z9)), some (.int (zi k))]) (S' := [.ref x, .ref x]) rfl ?_
                        refine gs_gtk rfl (by decide) rfl sh162.1 tx rfl rfl s169 ?_
                        refine gy_s 2 (pc' := 194) (L' := [some (.ref x), some (.int (zi a)), some (.int (zi b)), some (.int (zi t)), some (.int (zi jn1v0)), some (.int (zi jn2v0)), some (.int (zi z9)), some (.int (zi k))]) (S' := [.int ((zi n0) + (zi 1)), .ref x]) (L2 := [some (.ref x), some (.int (zi a)), some (.int (zi b)), some (.int (zi t)), some (.int (zi jn1v0)), some (.int (zi jn2v0)), some (.int (zi z9)), some (.int (zi k))]) (S2 := [.int (zi (n0 + 1)), .ref x]) rfl (by simp only [zi_add, zi_sub, zi_mul, zi_neg, zi_and1, zi_and7, zi_and15, zi_and31, zi_and255]) (by simp only [zi_add, zi_sub, zi_mul, zi_neg, zi_and1, zi_and7, zi_and15, zi_and31, zi_and255]) ?_
                        refine gs_put rfl (by decide) rfl sh162 tx rfl rfl rfl rfl (Or.inl rfl) (by decide) (by omega) (by omega) (fun h176 sh176 eh176 fh176 => ?_)
                        have pr177 := gRow.pt fh176 tx (by decide) pr163
                        have pr178 := gRow.pt fh176 tx (by decide) pr164
                        have pr179 := gCr.pt fh176 tx (by decide) pr165
                        have pr180 := gEl.pt fh176 tx (by decide) pr166
                        have pr181 := gEl.pt fh176 tx (by decide) pr167
                        have pr182 := gEl.pt fh176 tx (by decide) pr168
                        have pr183 := gEl.pt fh176 tx (by decide) pr175
                        have s184 := (fh176 x 9 (fun q => absurd q.2 (by decide))).trans s170
                        have s185 := (fh176 x 4 (fun q => absurd q.2 (by decide))).trans s171
                        have s186 := (fh176 x 5 (fun q => absurd q.2 (by decide))).trans s172
                        have s187 := (fh176 x 6 (fun q => absurd q.2 (by decide))).trans s173
                        have s188 := (fh176 x 7 (fun q => absurd q.2 (by decide))).trans s174
                        obtain ⟨c2, rc2, hcm⟩ := pr179
                        have hts189 : gTc ty (n0 + 1) h176 := gTc.tell (by omega) pr177 pr178 rc2 tle tsm hcm (by omega) (by omega)
                        refine gz_s 1 (pc' := 198) (L' := [some (.ref x), some (.int (zi a)), some (.int (zi b)), some (.int (zi t)), some (.int (zi jn1v0)), some (.int (zi jn2v0)), some (.int (zi z9)), some (.int (zi k))]) (S' := [.ref x]) rfl ?_
                        refine gs_gtk rfl (by decide) rfl sh176.1 tx rfl rfl eh176 ?_
                        exact gz_end (I := .ireturn) (len := 1) rfl (Or.inl rfl) ⟨sh176, n0 + 1, n0 + 1, rfl, (by omega), (by omega), eh176, (by omega), (by omega), hts189⟩
                      · refine gy_icF rfl (by decide) (by decide) (by omega) (by omega) hc106 ?_
                        refine gz_s 1 (pc' := 111) (L' := [some (.ref x), some (.int (zi a)), some (.int (zi b)), some (.int (zi t)), some (.int (zi jn1v0)), some (.int (zi jn2v0)), some (.int (zi z9)), some (.int (zi k))]) (S' := [.ref x]) rfl ?_
                        refine gs_gtk rfl (by decide) rfl sh105.1 tx rfl rfl lp104k1 ?_
                        refine gz_s 1 (pc' := 116) (L' := [some (.ref x), some (.int (zi a)), some (.int (zi b)), some (.int (zi t)), some (.int (zi jn1v0)), some (.int (zi jn2v0)), some (.int (zi z9)), some (.int (zi k))]) (S' := [.int (zi k), .ref c7]) rfl ?_
                        have hl190 : 64 ≤ h105.2.2.2.1 c7 ∧ h105.2.2.2.1 c7 ≤ 64 := gJ.rowl (G := gGG) sh105.1 tc7 rfl
                        refine gs_ald rfl (by decide) sh105.1 tc7 rfl rfl rfl (by decide) (fun _ => rfl) (by omega) (by omega) (fun z191 ez191 az191 bz191 => ?_)
                        have hf192 := gRow.at (i := k) (z := z191) lp104k5 tc7 ez191 (by omega) (by omega) (by omega)
                        refine gz_s 1 (pc' := 119) (L' := [some (.ref x), some (.int (zi a)), some (.int (zi b)), some (.int (zi t)), some (.int (zi jn1v0)), some (.int (zi jn2v0)), some (.int (zi z9)), some (.int (zi k))]) (S' := [.int (zi z9), .int (zi z191)]) rfl ?_
                        by_cases hc193 : (z191 : Int) = z9
                        · refine gy_icT (pc' := 124) rfl (by decide) (by decide) (by omega) (by omega) hc193 ?_
                          have hce194 : ∀ j : Int, a ≤ j → j < k + 1 → cf j.toNat = cf a.toNat := fun j h1 h2 => by
                            by_cases e : j = k
                            · subst e; omega
                            · exact lp104k6 j h1 (by omega)
                          refine gy_s 2 (pc' := 104) (L' := [some (.ref x), some (.int (zi a)), some (.int (zi b)), some (.int (zi t)), some (.int (zi jn1v0)), some (.int (zi jn2v0)), some (.int (zi z9)), some (.int ((zi k) + zi 1))]) (S' := []) (L2 := [some (.ref x), some (.int (zi a)), some (.int (zi b)), some (.int (zi t)), some (.int (zi jn1v0)), some (.int (zi jn2v0)), some (.int (zi z9)), some (.int (zi (k + 1)))]) (S2 := []) rfl (by simp only [zi_add, zi_sub, zi_mul, zi_neg, zi_and1, zi_and7, zi_and15, zi_and31, zi_and255]) (by simp only [zi_add, zi_sub, zi_mul, zi_neg, zi_and1, zi_and7, zi_and15, zi_and31, zi_and255]) ?_
                          exact gz_wk (ihlp104 h105 (k + 1) (by omega) sh105 (by omega) (by omega) (by omega) (by omega) (by omega) (by omega) (by omega) (by omega) (by omega) lp104k0 lp104k1 lp104k2 lp104k3 lp104k4 lp104k5 hce194) (gLw.s (gLw.s (gLw.s (gLw.s (gLw.s (gLw.s (gLw.s (gLw.s gLw.z))))))))
                        · refine gy_icF rfl (by decide) (by decide) (by omega) (by omega) hc193 ?_
                          refine gz_s 1 (pc' := 123) (L' := [some (.ref x), some (.int (zi a)), some (.int (zi b)), some (.int (zi t)), some (.int (zi jn1v0)), some (.int (zi jn2v0)), some (.int (zi z9)), some (.int (zi k))]) (S' := [.int (zi 0)]) rfl ?_
                          exact gz_end (I := .ireturn) (len := 1) rfl (Or.inl rfl) ⟨sh105, 0, n0, rfl, (by omega), (by omega), lp104k0, (by omega), (by omega), lp104k2⟩
                  exact gz_wk (lp104 _ h a (Nat.lt_succ_self _) hS (by omega) (by omega) (by omega) (by omega) (by omega) (by omega) (by omega) (by omega) (by omega) en0 ec7 hytc rf rt rc (fun j h1 h2 => absurd h2 (by omega))) (gLw.s (gLw.s (gLw.s (gLw.s (gLw.s (gLw.s (gLw.s (gLw.s gLw.z))))))))
                · refine gy_icF rfl (by decide) (by decide) (by omega) (by omega) hc103 ?_
                  refine gz_s 1 (pc' := 100) (L' := [some (.ref x), some (.int (zi a)), some (.int (zi b)), some (.int (zi t)), some (.int (zi jn1v0)), some (.int (zi jn2v0)), some (.int (zi z9)), none]) (S' := [.int (zi 0)]) rfl ?_
                  exact gz_end (I := .ireturn) (len := 1) rfl (Or.inl rfl) ⟨hS, 0, n0, rfl, (by omega), (by omega), en0, (by omega), (by omega), hytc⟩
            · refine gy_icF rfl (by decide) (by decide) (by omega) (by omega) hc6 ?_
              refine gz_s 1 (pc' := 76) (L' := [some (.ref x), some (.int (zi a)), some (.int (zi b)), some (.int (zi t)), some (.int (zi jn1v0)), some (.int (zi jn2v0)), none, none]) (S' := [.int (zi 0)]) rfl ?_
              exact gz_end (I := .ireturn) (len := 1) rfl (Or.inl rfl) ⟨hS, 0, n0, rfl, (by omega), (by omega), en0, (by omega), (by omega), hytc⟩
      · refine gy_ifF rfl (by decide) (by decide) (by omega) hc3 ?_
        refine gz_s 1 (pc' := 54) (L' := [some (.ref x), some (.int (zi a)), some (.int (zi b)), some (.int (zi t)), some (.int (zi jn1v0)), some (.int (zi jn2v0)), none, none]) (S' := [.int (zi jn2v0)]) rfl ?_
        by_cases hc195 : (jn2v0 : Int) = 0
        · refine gy_ifT (pc' := 75) rfl (by decide) (by decide) (by omega) hc195 ?_
          refine gz_s 1 (pc' := 76) (L' := [some (.ref x), some (.int (zi a)), some (.int (zi b)), some (.int (zi t)), some (.int (zi jn1v0)), some (.int (zi jn2v0)), none, none]) (S' := [.int (zi 0)]) rfl ?_
          exact gz_end (I := .ireturn) (len := 1) rfl (Or.inl rfl) ⟨hS, 0, n0, rfl, (by omega), (by omega), en0, (by omega), (by omega), hytc⟩
        · refine gy_ifF rfl (by decide) (by decide) (by omega) hc195 ?_
          refine gz_s 1 (pc' := 58) (L' := [some (.ref x), some (.int (zi a)), some (.int (zi b)), some (.int (zi t)), some (.int (zi jn1v0)), some (.int (zi jn2v0)), none, none]) (S' := [.int (zi t)]) rfl ?_
          by_cases hc196 : (t : Int) < 0
          · refine gy_ifT (pc' := 75) rfl (by decide) (by decide) (by omega) hc196 ?_
            refine gz_s 1 (pc' := 76) (L' := [some (.ref x), some (.int (zi a)), some (.int (zi b)), some (.int (zi t)), some (.int (zi jn1v0)), some (.int (zi jn2v0)), none, none]) (S' := [.int (zi 0)]) rfl ?_
            exact gz_end (I := .ireturn) (len := 1) rfl (Or.inl rfl) ⟨hS, 0, n0, rfl, (by omega), (by omega), en0, (by omega), (by omega), hytc⟩
          · refine gy_ifF rfl (by decide) (by decide) (by omega) hc196 ?_
            refine gz_s 2 (pc' := 63) (L' := [some (.ref x), some (.int (zi a)), some (.int (zi b)), some (.int (zi t)), some (.int (zi jn1v0)), some (.int (zi jn2v0)), none, none]) (S' := [.int (zi 3), .int (zi t)]) rfl ?_
            by_cases hc197 : (3 : Int) < t
            · refine gy_icT (pc' := 75) rfl (by decide) (by decide) (by omega) (by omega) hc197 ?_
              refine gz_s 1 (pc' := 76) (L' := [some (.ref x), some (.int (zi a)), some (.int (zi b)), some (.int (zi t)), some (.int (zi jn1v0)), some (.int (zi jn2v0)), none, none]) (S' := [.int (zi 0)]) rfl ?_
              exact gz_end (I := .ireturn) (len := 1) rfl (Or.inl rfl) ⟨hS, 0, n0, rfl, (by omega), (by omega), en0, (by omega), (by omega), hytc⟩
            · refine gy_icF rfl (by decide) (by decide) (by omega) (by omega) hc197 ?_
              refine gz_s 1 (pc' := 67) (L' := [some (.ref x), some (.int (zi a)), some (.int (zi b)), some (.int (zi t)), some (.int (zi jn1v0)), some (.int (zi jn2v0)), none, none]) (S' := [.ref x]) rfl ?_
              refine gs_gtk rfl (by decide) rfl hS.1 tx rfl rfl en0 ?_
              refine gz_s 1 (pc' := 72) (L' := [some (.ref x), some (.int (zi a)), some (.int (zi b)), some (.int (zi t)), some (.int (zi jn1v0)), some (.int (zi jn2v0)), none, none]) (S' := [.int (zi 10), .int (zi n0)]) rfl ?_
              by_cases hc198 : (n0 : Int) < 10
              · refine gy_icT (pc' := 77) rfl (by decide) (by decide) (by omega) (by omega) hc198 ?_
                refine gz_s 1 (pc' := 78) (L' := [some (.ref x), some (.int (zi a)), some (.int (zi b)), some (.int (zi t)), some (.int (zi jn1v0)), some (.int (zi jn2v0)), none, none]) (S' := [.ref x]) rfl ?_
                refine gs_gtr rfl (by decide) rfl hS.1 tx rfl rfl rfl (fun c199 ec199 tc199 => ?_)
                refine gz_s 1 (pc' := 82) (L' := [some (.ref x), some (.int (zi a)), some (.int (zi b)), some (.int (zi t)), some (.int (zi jn1v0)), some (.int (zi jn2v0)), none, none]) (S' := [.int (zi a), .ref c199]) rfl ?_
                have hl200 : 64 ≤ h.2.2.2.1 c199 ∧ h.2.2.2.1 c199 ≤ 64 := gJ.rowl (G := gGG) hS.1 tc199 rfl
                refine gs_ald rfl (by decide) hS.1 tc199 rfl rfl rfl (by decide) (fun _ => rfl) (by omega) (by omega) (fun z201 ez201 az201 bz201 => ?_)
                have hf202 := gRow.at (i := a) (z := z201) rc tc199 ez201 (by omega) (by omega) (by omega)
                refine gz_s 3 (pc' := 88) (L' := [some (.ref x), some (.int (zi a)), some (.int (zi b)), some (.int (zi t)), some (.int (zi jn1v0)), some (.int (zi jn2v0)), some (.int (zi z201)), none]) (S' := [.int (zi (-1)), .int (zi z201)]) rfl ?_
                by_cases hc203 : (z201 : Int) = (-1)
                · refine gy_icT (pc' := 101) rfl (by decide) (by decide) (by omega) (by omega) hc203 ?_
                  refine gz_s 2 (pc' := 104) (L' := [some (.ref x), some (.int (zi a)), some (.int (zi b)), some (.int (zi t)), some (.int (zi jn1v0)), some (.int (zi jn2v0)), some (.int (zi z201)), some (.int (zi a))]) (S' := []) rfl ?_
                  have lp204 : ∀ (fu : Nat) (h205 : gH) (k : Int), (65 - k).toNat < fu → gSs rT 1027 ty [55008, 60999, 61999, 62999, 63999, 64999] h h205 → (0 ≤ k ∧ k ≤ 64) → (a ≤ k) → (k ≤ b + 1) → (0 ≤ a) → (a ≤ b) → (b ≤ 63) → (0 ≤ t) → (t ≤ 3) → (z201 = -1 ∨ z201 = t + 1) → h205.2.2.2.2 x 8 = .int (zi n0) → h205.2.2.2.2 x 9 = .ref c199 → gTc ty n0 h205 → gRow ty 60 tf h205 → gRow ty 61 tt h205 → gRow ty 64 cf h205 → (∀ j : Int, a ≤ j → j < k → cf j.toNat = cf a.toNat) → gz gPP gGG gcn (d + 2) gt62 104 [some (.ref x), some (.int (zi a)), some (.int (zi b)), some (.int (zi t)), some (.int (zi jn1v0)), some (.int (zi jn2v0)), some (.int (zi z201)), some (.int (zi k))] [] h205 (fun q _ => gSs rT 1027 ty [55008, 60999, 61999, 62999, 63999, 64999] h q.2.2 ∧ ∃ z n1 : Int, gfin gt62 q.1 q.2.1 = some (some (.int (zi z))) ∧ 0 ≤ z ∧ z ≤ 10 ∧ q.2.2.2.2.2.2 x 8 = .int (zi n1) ∧ 0 ≤ n1 ∧ n1 ≤ 10 ∧ (gTc ty n1 q.2.2)) := by
                    intro fu
                    induction fu with
                    | zero => intro h205 k hm; exact absurd hm (Nat.not_lt_zero _)
                    | succ fu ihlp204 =>
                      intro h205 k lp204m sh205 lp204f0 lp204f1 lp204f2 lp204f3 lp204f4 lp204f5 lp204f6 lp204f7 lp204f8 lp204k0 lp204k1 lp204k2 lp204k3 lp204k4 lp204k5 lp204k6
                      refine gz_s 2 (pc' := 107) (L' := [some (.ref x), some (.int (zi a)), some (.int (zi b)), some (.int (zi t)), some (.int (zi jn1v0)), some (.int (zi jn2v0)), some (.int (zi z201)), some (.int (zi k))]) (S' := [.int (zi b), .int (zi k)]) rfl ?_
                      by_cases hc206 : (b : Int) < k
                      · refine gy_icT (pc' := 130) rfl (by decide) (by decide) (by omega) (by omega) hc206 ?_
                        have hce207 : ∀ j : Int, a ≤ j → j < b + 1 → t + 1 ≤ gcr (cf j.toNat) := fun j h1 h2 => by
                          rw [lp204k6 j h1 (by omega)]
                          unfold gcr
                          split <;> omega
                        refine gz_s 1 (pc' := 131) (L' := [some (.ref x), some (.int (zi a)), some (.int (zi b)), some (.int (zi t)), some (.int (zi jn1v0)), some (.int (zi jn2v0)), some (.int (zi z201)), some (.int (zi k))]) (S' := [.ref x]) rfl ?_
                        refine gs_gtk rfl (by decide) rfl sh205.1 tx rfl rfl lp204k1 ?_
                        refine gy_s 5 (pc' := 139) (L' := [some (.ref x), some (.int (zi a)), some (.int (zi b)), some (.int (zi t)), some (.int (zi jn1v0)), some (.int (zi jn2v0)), some (.int (zi z201)), some (.int (zi k))]) (S' := [.int (zi t), .int ((zi b) + (zi 1)), .int (zi a), .ref c199]) (L2 := [some (.ref x), some (.int (zi a)), some (.int (zi b)), some (.int (zi t)), some (.int (zi jn1v0)), some (.int (zi jn2v0)), some (.int (zi z201)), some (.int (zi k))]) (S2 := [.int (zi t), .int (zi (b + 1)), .int (zi a), .ref c199]) rfl (by simp only [zi_add, zi_sub, zi_mul, zi_neg, zi_and1, zi_and7, zi_and15, zi_and31, zi_and255]) (by simp only [zi_add, zi_sub, zi_mul, zi_neg, zi_and1, zi_and7, zi_and15, zi_and31, zi_and255]) ?_
                        refine gz_call rfl (by decide) rfl (by decide) (by decide) (gcal_of rfl rfl rfl (Nat.le_of_ble_eq_true rfl) rfl) (cl_fill_range _ sh205.1 c199 tc199 a (by omega) (b + 1) (by omega) t (by omega) cf (by omega) uq lp204k5 hce207) (fun q208 _ wq208 => ?_)
                        obtain ⟨pq208, oq208, hq208⟩ := q208
                        obtain ⟨xq208, gq208, yq208_0⟩ := wq208
                        refine ⟨_, gq208, ?_⟩
                        show gz gPP gGG gcn _ _ 142 [some (.ref x), some (.int (zi a)), some (.int (zi b)), some (.int (zi t)), some (.int (zi jn1v0)), some (.int (zi jn2v0)), some (.int (zi z201)), some (.int (zi k))] [] hq208 _
                        have sq208 : gSs rT 1027 ty [55008, 60999, 61999, 62999, 63999, 64999] h hq208 := gSs.tr sh205 xq208 (by decide)
                        have s209 := (xq208.2.2.2.2.2 x 8 (by rw [tx]; decide)).trans lp204k0
                        have s210 := (xq208.2.2.2.2.2 x 9 (by rw [tx]; decide)).trans lp204k1
                        have pr211 := gRow.fr xq208.2 (by decide) lp204k3
                        have pr212 := gRow.fr xq208.2 (by decide) lp204k4
                        refine gz_s 1 (pc' := 143) (L' := [some (.ref x), some (.int (zi a)), some (.int (zi b)), some (.int (zi t)), some (.int (zi jn1v0)), some (.int (zi jn2v0)), some (.int (zi z201)), some (.int (zi k))]) (S' := [.ref x]) rfl ?_
                        refine gs_gtr rfl (by decide) rfl sq208.1 tx rfl rfl rfl (fun c213 ec213 tc213 => ?_)
                        refine gz_s 1 (pc' := 147) (L' := [some (.ref x), some (.int (zi a)), some (.int (zi b)), some (.int (zi t)), some (.int (zi jn1v0)), some (.int (zi jn2v0)), some (.int (zi z201)), some (.int (zi k))]) (S' := [.ref x, .ref c213]) rfl ?_
                        refine gs_gtk rfl (by decide) rfl sq208.1 tx rfl rfl s209 ?_
                        refine gz_s 1 (pc' := 151) (L' := [some (.ref x), some (.int (zi a)), some (.int (zi b)), some (.int (zi t)), some (.int (zi jn1v0)), some (.int (zi jn2v0)), some (.int (zi z201)), some (.int (zi k))]) (S' := [.int (zi a), .int (zi n0), .ref c213]) rfl ?_
                        have hl214 : 10 ≤ hq208.2.2.2.1 c213 ∧ hq208.2.2.2.1 c213 ≤ 10 := gJ.rowl (G := gGG) sq208.1 tc213 rfl
                        refine gs_ast rfl (by decide) sq208 tc213 rfl rfl rfl (by decide) (fun _ => rfl) (by omega) (by omega) (fun _ => (by decide : (60999 : Nat) ∈ ([55008, 60999, 61999, 62999, 63999, 64999] : List Nat))) (by omega) (by omega) (fun h215 sh215 eh215 fh215 => ?_)
                        have pr216 := gRow.put (i := n0) (z := a) uq tc213 (by decide) fh215 eh215 (by omega) (by omega) pr211
                        have pr217 := gRow.pt fh215 tc213 (by decide) pr212
                        have pr218 := gCr.pt fh215 tc213 (by decide) yq208_0
                        have s219 := (fh215 x 8 (fun q => absurd (((tx).symm.trans (congrArg ty q.1)).trans tc213) (by decide))).trans s209
                        have s220 := (fh215 x 9 (fun q => absurd (((tx).symm.trans (congrArg ty q.1)).trans tc213) (by decide))).trans s210
                        have s221 := (fh215 x 4 (fun q => absurd (((tx).symm.trans (congrArg ty q.1)).trans tc213) (by decide))).trans ec213
                        have pr222 := gEl.set (i := n0) (z := a) uq tc213 (by decide) eh215 (by omega) (by omega)
                        refine gz_s 1 (pc' := 153) (L' := [some (.ref x), some (.int (zi a)), some (.int (zi b)), some (.int (zi t)), some (.int (zi jn1v0)), some (.int (zi jn2v0)), some (.int (zi z201)), some (.int (zi k))]) (S' := [.ref x]) rfl ?_
                        refine gs_gtr rfl (by decide) rfl sh215.1 tx rfl rfl rfl (fun c223 ec223 tc223 => ?_)
                        refine gz_s 1 (pc' := 157) (L' := [some (.ref x), some (.int (zi a)), some (.int (zi b)), some (.int (zi t)), some (.int (zi jn1v0)), some (.int (zi jn2v0)), some (.int (zi z201)), some (.int (zi k))]) (S' := [.ref x, .ref c223]) rfl ?_
                        refine gs_gtk rfl (by decide) rfl sh215.1 tx rfl rfl s219 ?_
                        refine gz_s 1 (pc' := 161) (L' := [some (.ref x), some (.int (zi a)), some (.int (zi b)), some (.int (zi t)), some (.int (zi jn1v0)), some (.int (zi jn2v0)), some (.int (zi z201)), some (.int (zi k))]) (S' := [.int (zi b), .int (zi n0), .ref c223]) rfl ?_
                        have hl224 : 10 ≤ h215.2.2.2.1 c223 ∧ h215.2.2.2.1 c223 ≤ 10 := gJ.rowl (G := gGG) sh215.1 tc223 rfl
                        refine gs_ast rfl (by decide) sh215 tc223 rfl rfl rfl (by decide) (fun _ => rfl) (by omega) (by omega) (fun _ => (by decide : (61999 : Nat) ∈ ([55008, 60999, 61999, 62999, 63999, 64999] : List Nat))) (by omega) (by omega) (fun h225 sh225 eh225 fh225 => ?_)
                        have pr226 := gRow.pt fh225 tc223 (by decide) pr216
                        have pr227 := gRow.put (i := n0) (z := b) uq tc223 (by decide) fh225 eh225 (by omega) (by omega) pr217
                        have pr228 := gCr.pt fh225 tc223 (by decide) pr218
                        have pr229 := gEl.pt fh225 tc223 (by decide) pr222
                        have s230 := (fh225 x 8 (fun q => absurd (((tx).symm.trans (congrArg ty q.1)).trans tc223) (by decide))).trans s219
                        have s231 := (fh225 x 9 (fun q => absurd (((tx).symm.trans (congrArg ty q.1)).trans tc223) (by decide))).trans s220
                        have s232 := (fh225 x 4 (fun q => absurd (((tx).symm.trans (congrArg ty q.1)).trans tc223) (by decide))).trans s221
                        have s233 := (fh225 x 5 (fun q => absurd (((tx).symm.trans (congrArg ty q.1)).trans tc223) (by decide))).trans ec223
                        have pr234 := gEl.set (i := n0) (z := b) uq tc223 (by decide) eh225 (by omega) (by omega)
                        refine gz_s 1 (pc' := 163) (L' := [some (.ref x), some (.int (zi a)), some (.int (zi b)), some (.int (zi t)), some (.int (zi jn1v0)), some (.int (zi jn2v0)), some (.int (zi z201)), some (.int (zi k))]) (S' := [.ref x]) rfl ?_
                        refine gs_gtr rfl (by decide) rfl sh225.1 tx rfl rfl rfl (fun c235 ec235 tc235 => ?_)
                        refine gz_s 1 (pc' := 167) (L' := [some (.ref x), some (.int (zi a)), some (.int (zi b)), some (.int (zi t)), some (.int (zi jn1v0)), some (.int (zi jn2v0)), some (.int (zi z201)), some (.int (zi k))]) (S' := [.ref x, .ref c235]) rfl ?_
                        refine gs_gtk rfl (by decide) rfl sh225.1 tx rfl rfl s230 ?_
                        refine gz_s 2 (pc' := 173) (L' := [some (.ref x), some (.int (zi a)), some (.int (zi b)), some (.int (zi t)), some (.int (zi jn1v0)), some (.int (zi jn2v0)), some (.int (zi z201)), some (.int (zi k))]) (S' := [.int (zi z201), .int (zi 0), .int (zi n0), .ref c235]) rfl ?_
                        refine gz_call rfl (by decide) rfl (by decide) (by decide) (gcal_of rfl rfl rfl (Nat.le_of_ble_eq_true rfl) rfl) (cl_Math_max _ sh225.1 0 (by omega) z201 (by omega) ) (fun q236 _ wq236 => ?_)
                        obtain ⟨pq236, oq236, hq236⟩ := q236
                        obtain ⟨xq236, zq236, gq236, aq236, bq236, uq236_0, uq236_1, uq236_2⟩ := wq236
                        refine ⟨_, gq236, ?_⟩
                        show gz gPP gGG gcn _ _ 176 [some (.ref x), some (.int (zi a)), some (.int (zi b)), some (.int (zi t)), some (.int (zi jn1v0)), some (.int (zi jn2v0)), some (.int (zi z201)), some (.int (zi k))] [.int (zi zq236), .int (zi n0), .ref c235] hq236 _
                        have sq236 : gSs rT 1027 ty [55008, 60999, 61999, 62999, 63999, 64999] h hq236 := gSs.tr sh225 xq236 (by decide)
                        have s237 := (xq236.2.2.2.2.2 x 8 (by rw [tx]; decide)).trans s230
                        have s238 := (xq236.2.2.2.2.2 x 9 (by rw [tx]; decide)).trans s231
                        have s239 := (xq236.2.2.2.2.2 x 4 (by rw [tx]; decide)).trans s232
                        have s240 := (xq236.2.2.2.2.2 x 5 (by rw [tx]; decide)).trans s233
                        have s241 := (xq236.2.2.2.2.2 x 6 (by rw [tx]; decide)).trans ec235
                        have pr242 := gRow.fr xq236.2 (by decide) pr226
                        have pr243 := gRow.fr xq236.2 (by decide) pr227
                        have pr244 := gCr.fr xq236.2 (by decide) pr228
                        have pr245 := gEl.fr xq236.2 (by decide) (fun _ => rfl) pr229
                        have pr246 := gEl.fr xq236.2 (by decide) (fun _ => rfl) pr234
                        have hl247 : 10 ≤ hq236.2.2.2.1 c235 ∧ hq236.2.2.2.1 c235 ≤ 10 := gJ.rowl (G := gGG) sq236.1 tc235 rfl
                        refine gs_ast rfl (by decide) sq236 tc235 rfl rfl rfl (by decide) (fun _ => rfl) (by omega) (by omega) (fun _ => (by decide : (62999 : Nat) ∈ ([55008, 60999, 61999, 62999, 63999, 64999] : List Nat))) (by omega) (by omega) (fun h248 sh248 eh248 fh248 => ?_)
                        have pr249 := gRow.pt fh248 tc235 (by decide) pr242
                        have pr250 := gRow.pt fh248 tc235 (by decide) pr243
                        have pr251 := gCr.pt fh248 tc235 (by decide) pr244
                        have pr252 := gEl.pt fh248 tc235 (by decide) pr245
                        have pr253 := gEl.pt fh248 tc235 (by decide) pr246
                        have s254 := (fh248 x 8 (fun q => absurd (((tx).symm.trans (congrArg ty q.1)).trans tc235) (by decide))).trans s237
                        have s255 := (fh248 x 9 (fun q => absurd (((tx).symm.trans (congrArg ty q.1)).trans tc235) (by decide))).trans s238
                        have s256 := (fh248 x 4 (fun q => absurd (((tx).symm.trans (congrArg ty q.1)).trans tc235) (by decide))).trans s239
                        have s257 := (fh248 x 5 (fun q => absurd (((tx).symm.trans (congrArg ty q.1)).trans tc235) (by decide))).trans s240
                        have s258 := (fh248 x 6 (fun q => absurd (((tx).symm.trans (congrArg ty q.1)).trans tc235) (by decide))).trans s241
                        have pr259 := gEl.set (i := n0) (z := zq236) uq tc235 (by decide) eh248 (by omega) (by omega)
                        refine gz_s 1 (pc' := 178) (L' := [some (.ref x), some (.int (zi a)), some (.int (zi b)), some (.int (zi t)), some (.int (zi jn1v0)), some (.int (zi jn2v0)), some (.int (zi z201)), some (.int (zi k))]) (S' := [.ref x]) rfl ?_
                        refine gs_gtr rfl (by decide) rfl sh248.1 tx rfl rfl rfl (fun c260 ec260 tc260 => ?_)
                        refine gz_s 1 (pc' := 182) (L' := [some (.ref x), some (.int (zi a)), some (.int (zi b)), some (.int (zi t)), some (.int (zi jn1v0)), some (.int (zi jn2v0)), some (.int (zi z201)), some (.int (zi k))]) (S' := [.ref x, .ref c260]) rfl ?_
                        refine gs_gtk rfl (by decide) rfl sh248.1 tx rfl rfl s254 ?_
                        refine gz_s 1 (pc' := 186) (L' := [some (.ref x), some (.int (zi a)), some (.int (zi b)), some (.int (zi t)), some (.int (zi jn1v0)), some (.int (zi jn2v0)), some (.int (zi z201)), some (.int (zi k))]) (S' := [.int (zi t), .int (zi n0), .ref c260]) rfl ?_
                        have hl261 : 10 ≤ h248.2.2.2.1 c260 ∧ h248.2.2.2.1 c260 ≤ 10 := gJ.rowl (G := gGG) sh248.1 tc260 rfl
                        refine gs_ast rfl (by decide) sh248 tc260 rfl rfl rfl (by decide) (fun _ => rfl) (by omega) (by omega) (fun _ => (by decide : (63999 : Nat) ∈ ([55008, 60999, 61999, 62999, 63999, 64999] : List Nat))) (by omega) (by omega) (fun h262 sh262 eh262 fh262 => ?_)
                        have pr263 := gRow.pt fh262 tc260 (by decide) pr249
                        have pr264 := gRow.pt fh262 tc260 (by decide) pr250
                        have pr265 := gCr.pt fh262 tc260 (by decide) pr251
                        have pr266 := gEl.pt fh262 tc260 (by decide) pr252
                        have pr267 := gEl.pt fh262 tc260 (by decide) pr253
                        have pr268 := gEl.pt fh262 tc260 (by decide) pr259
                        have s269 := (fh262 x 8 (fun q => absurd (((tx).symm.trans (congrArg ty q.1)).trans tc260) (by decide))).trans s254
                        have s270 := (fh262 x 9 (fun q => absurd (((tx).symm.trans (congrArg ty q.1)).trans tc260) (by decide))).trans s255
                        have s271 := (fh262 x 4 (fun q => absurd (((tx).symm.trans (congrArg ty q.1)).trans tc260) (by decide))).trans s256
                        have s272 := (fh262 x 5 (fun q => absurd (((tx).symm.trans (congrArg ty q.1)).trans tc260) (by decide))).trans s257
                        have s273 := (fh262 x 6 (fun q => absurd (((tx).symm.trans (congrArg ty q.1)).trans tc260) (by decide))).trans s258
                        have s274 := (fh262 x 7 (fun q => absurd (((tx).symm.trans (congrArg ty q.1)).trans tc260) (by decide))).trans ec260
                        have pr275 := gEl.set (i := n0) (z := t) uq tc260 (by decide) eh262 (by omega) (by omega)
                        refine gz_s 2 (pc' := 189) (L' := [some (.ref x), some (.int (zi a)), some (.int (zi b)), some (.int (zi t)), some (.int (zi jn1v0)), some (.int (zi jn2v0)), some (.int (zi z201)), some (.int (zi k))]) (S' := [.ref x, .ref x]) rfl ?_
                        refine gs_gtk rfl (by decide) rfl sh262.1 tx rfl rfl s269 ?_
                        refine gy_s 2 (pc' := 194) (L' := [some (.ref x), some (.int (zi a)), some (.int (zi b)), some (.int (zi t)), some (.int (zi jn1v0)), some (.int (zi jn2v0)), some (.int (zi z201)), some (.int (zi k))]) (S' := [.int ((zi n0) + (zi 1)), .ref x]) (L2 := [some (.ref x), some (.int (zi a)), some (.int (zi b)), some (.int (zi t)), some (.int (zi jn1v0)), some (.int (zi jn2v0)), some (.int (zi z201)), some (.int (zi k))]) (S2 := [.int (zi (n0 + 1)), .ref x]) rfl (by simp only [zi_add, zi_sub, zi_mul, zi_neg, zi_and1, zi_and7, zi_and15, zi_and31, zi_and255]) (by simp only [zi_add, zi_sub, zi_mul, zi_neg, zi_and1, zi_and7, zi_and15, zi_and31, zi_and255]) ?_
                        refine gs_put rfl (by decide) rfl sh262 tx rfl rfl rfl rfl (Or.inl rfl) (by decide) (by omega) (by omega) (fun h276 sh276 eh276 fh276 => ?_)
                        have pr277 := gRow.pt fh276 tx (by decide) pr263
                        have pr278 := gRow.pt fh276 tx (by decide) pr264
                        have pr279 := gCr.pt fh276 tx (by decide) pr265
                        have pr280 := gEl.pt fh276 tx (by decide) pr266
                        have pr281 := gEl.pt fh276 tx (by decide) pr267
                        have pr282 := gEl.pt fh276 tx (by decide) pr268
                        have pr283 := gEl.pt fh276 tx (by decide) pr275
                        have s284 := (fh276 x 9 (fun q => absurd q.2 (by decide))).trans s270
                        have s285 := (fh276 x 4 (fun q => absurd q.2 (by decide))).trans s271
                        have s286 := (fh276 x 5 (fun q => absurd q.2 (by decide))).trans s272
                        have s287 := (fh276 x 6 (fun q => absurd q.2 (by decide))).trans s273
                        have s288 := (fh276 x 7 (fun q => absurd q.2 (by decide))).trans s274
                        obtain ⟨c2, rc2, hcm⟩ := pr279
                        have hts289 : gTc ty (n0 + 1) h276 := gTc.tell (by omega) pr277 pr278 rc2 tle tsm hcm (by omega) (by omega)
                        refine gz_s 1 (pc' := 198) (L' := [some (.ref x), some (.int (zi a)), some (.int (zi b)), some (.int (zi t)), some (.int (zi jn1v0)), some (.int (zi jn2v0)), some (.int (zi z201)), some (.int (zi k))]) (S' := [.ref x]) rfl ?_
                        refine gs_gtk rfl (by decide) rfl sh276.1 tx rfl rfl eh276 ?_
                        exact gz_end (I := .ireturn) (len := 1) rfl (Or.inl rfl) ⟨sh276, n0 + 1, n0 + 1, rfl, (by omega), (by omega), eh276, (by omega), (by omega), hts289⟩
                      · refine gy_icF rfl (by decide) (by decide) (by omega) (by omega) hc206 ?_
                        refine gz_s 1 (pc' := 111) (L' := [some (.ref x), some (.int (zi a)), some (.int (zi b)), some (.int (zi t)), some (.int (zi jn1v0)), some (.int (zi jn2v0)), some (.int (zi z201)), some (.int (zi k))]) (S' := [.ref x]) rfl ?_
                        refine gs_gtk rfl (by decide) rfl sh205.1 tx rfl rfl lp204k1 ?_
                        refine gz_s 1 (pc' := 116) (L' := [some (.ref x), some (.int (zi a)), some (.int (zi b)), some (.int (zi t)), some (.int (zi jn1v0)), some (.int (zi jn2v0)), some (.int (zi z201)), some (.int (zi k))]) (S' := [.int (zi k), .ref c199]) rfl ?_
                        have hl290 : 64 ≤ h205.2.2.2.1 c199 ∧ h205.2.2.2.1 c199 ≤ 64 := gJ.rowl (G := gGG) sh205.1 tc199 rfl
                        refine gs_ald rfl (by decide) sh205.1 tc199 rfl rfl rfl (by decide) (fun _ => rfl) (by omega) (by omega) (fun z291 ez291 az291 bz291 => ?_)
                        have hf292 := gRow.at (i := k) (z := z291) lp204k5 tc199 ez291 (by omega) (by omega) (by omega)
                        refine gz_s 1 (pc' := 119) (L' := [some (.ref x), some (.int (zi a)), some (.int (zi b)), some (.int (zi t)), some (.int (zi jn1v0)), some (.int (zi jn2v0)), some (.int (zi z201)), some (.int (zi k))]) (S' := [.int (zi z201), .int (zi z291)]) rfl ?_
                        by_cases hc293 : (z291 : Int) = z201
                        · refine gy_icT (pc' := 124) rfl (by decide) (by decide) (by omega) (by omega) hc293 ?_
                          have hce294 : ∀ j : Int, a ≤ j → j < k + 1 → cf j.toNat = cf a.toNat := fun j h1 h2 => by
                            by_cases e : j = k
                            · subst e; omega
                            · exact lp204k6 j h1 (by omega)
                          refine gy_s 2 (pc' := 104) (L' := [some (.ref x), some (.int (zi a)), some (.int (zi b)), some (.int (zi t)), some (.int (zi jn1v0)), some (.int (zi jn2v0)), some (.int (zi z201)), some (.int ((zi k) + zi 1))]) (S' := []) (L2 := [some (.ref x), some (.int (zi a)), some (.int (zi b)), some (.int (zi t)), some (.int (zi jn1v0)), some (.int (zi jn2v0)), some (.int (zi z201)), some (.int (zi (k + 1)))]) (S2 := []) rfl (by simp only [zi_add, zi_sub, zi_mul, zi_neg, zi_and1, zi_and7, zi_and15, zi_and31, zi_and255]) (by simp only [zi_add, zi_sub, zi_mul, zi_neg, zi_and1, zi_and7, zi_and15, zi_and31, zi_and255]) ?_
                          exact gz_wk (ihlp204 h205 (k + 1) (by omega) sh205 (by omega) (by omega) (by omega) (by omega) (by omega) (by omega) (by omega) (by omega) (by omega) lp204k0 lp204k1 lp204k2 lp204k3 lp204k4 lp204k5 hce294) (gLw.s (gLw.s (gLw.s (gLw.s (gLw.s (gLw.s (gLw.s (gLw.s gLw.z))))))))
                        · refine gy_icF rfl (by decide) (by decide) (by omega) (by omega) hc293 ?_
                          refine gz_s 1 (pc' := 123) (L' := [some (.ref x), some (.int (zi a)), some (.int (zi b)), some (.int (zi t)), some (.int (zi jn1v0)), some (.int (zi jn2v0)), some (.int (zi z201)), some (.int (zi k))]) (S' := [.int (zi 0)]) rfl ?_
                          exact gz_end (I := .ireturn) (len := 1) rfl (Or.inl rfl) ⟨sh205, 0, n0, rfl, (by omega), (by omega), lp204k0, (by omega), (by omega), lp204k2⟩
                  exact gz_wk (lp204 _ h a (Nat.lt_succ_self _) hS (by omega) (by omega) (by omega) (by omega) (by omega) (by omega) (by omega) (by omega) (by omega) en0 ec199 hytc rf rt rc (fun j h1 h2 => absurd h2 (by omega))) (gLw.s (gLw.s (gLw.s (gLw.s (gLw.s (gLw.s (gLw.s (gLw.s gLw.z))))))))
                · refine gy_icF rfl (by decide) (by decide) (by omega) (by omega) hc203 ?_
                  refine gy_s 4 (pc' := 96) (L' := [some (.ref x), some (.int (zi a)), some (.int (zi b)), some (.int (zi t)), some (.int (zi jn1v0)), some (.int (zi jn2v0)), some (.int (zi z201)), none]) (S' := [.int ((zi t) + (zi 1)), .int (zi z201)]) (L2 := [some (.ref x), some (.int (zi a)), some (.int (zi b)), some (.int (zi t)), some (.int (zi jn1v0)), some (.int (zi jn2v0)), some (.int (zi z201)), none]) (S2 := [.int (zi (t + 1)), .int (zi z201)]) rfl (by simp only [zi_add, zi_sub, zi_mul, zi_neg, zi_and1, zi_and7, zi_and15, zi_and31, zi_and255]) (by simp only [zi_add, zi_sub, zi_mul, zi_neg, zi_and1, zi_and7, zi_and15, zi_and31, zi_and255]) ?_
                  by_cases hc295 : (z201 : Int) = t + 1
                  · refine gy_icT (pc' := 101) rfl (by decide) (by decide) (by omega) (by omega) hc295 ?_
                    refine gz_s 2 (pc' := 104) (L' := [some (.ref x), some (.int (zi a)), some (.int (zi b)), some (.int (zi t)), some (.int (zi jn1v0)), some (.int (zi jn2v0)), some (.int (zi z201)), some (.int (zi a))]) (S' := []) rfl ?_
                    have lp296 : ∀ (fu : Nat) (h297 : gH) (k : Int), (65 - k).toNat < fu → gSs rT 1027 ty [55008, 60999, 61999, 62999, 63999, 64999] h h297 → (0 ≤ k ∧ k ≤ 64) → (a ≤ k) → (k ≤ b + 1) → (0 ≤ a) → (a ≤ b) → (b ≤ 63) → (0 ≤ t) → (t ≤ 3) → (z201 = -1 ∨ z201 = t + 1) → h297.2.2.2.2 x 8 = .int (zi n0) → h297.2.2.2.2 x 9 = .ref c199 → gTc ty n0 h297 → gRow ty 60 tf h297 → gRow ty 61 tt h297 → gRow ty 64 cf h297 → (∀ j : Int, a ≤ j → j < k → cf j.toNat = cf a.toNat) → gz gPP gGG gcn (d + 2) gt62 104 [some (.ref x), some (.int (zi a)), some (.int (zi b)), some (.int (zi t)), some (.int (zi jn1v0)), some (.int (zi jn2v0)), some (.int (zi z201)), some (.int (zi k))] [] h297 (fun q _ => gSs rT 1027 ty [55008, 60999, 61999, 62999, 63999, 64999] h q.2.2 ∧ ∃ z n1 : Int, gfin gt62 q.1 q.2.1 = some (some (.int (zi z))) ∧ 0 ≤ z ∧ z ≤ 10 ∧ q.2.2.2.2.2.2 x 8 = .int (zi n1) ∧ 0 ≤ n1 ∧ n1 ≤ 10 ∧ (gTc ty n1 q.2.2)) := by
                      intro fu
                      induction fu with
                      | zero => intro h297 k hm; exact absurd hm (Nat.not_lt_zero _)
                      | succ fu ihlp296 =>
                        intro h297 k lp296m sh297 lp296f0 lp296f1 lp296f2 lp296f3 lp296f4 lp296f5 lp296f6 lp296f7 lp296f8 lp296k0 lp296k1 lp296k2 lp296k3 lp296k4 lp296k5 lp296k6
                        refine gz_s 2 (pc' := 107) (L' := [some (.ref x), some (.int (zi a)), some (.int (zi b)), some (.int (zi t)), some (.int (zi jn1v0)), some (.int (zi jn2v0)), some (.int (zi z201)), some (.int (zi k))]) (S' := [.int (zi b), .int (zi k)]) rfl ?_
                        by_cases hc298 : (b : Int) < k
                        · refine gy_icT (pc' := 130) rfl (by decide) (by decide) (by omega) (by omega) hc298 ?_
                          have hce299 : ∀ j : Int, a ≤ j → j < b + 1 → t + 1 ≤ gcr (cf j.toNat) := fun j h1 h2 => by
                            rw [lp296k6 j h1 (by omega)]
                            unfold gcr
                            split <;> omega
                          refine gz_s 1 (pc' := 131) (L' := [some (.ref x), some (.int (zi a)), some (.int (zi b)), some (.int (zi t)), some (.int (zi jn1v0)), some (.int (zi jn2v0)), some (.int (zi z201)), some (.int (zi k))]) (S' := [.ref x]) rfl ?_
                          refine gs_gtk rfl (by decide) rfl sh297.1 tx rfl rfl lp296k1 ?_
                          refine gy_s 5 (pc' := 139) (L' := [some (.ref x), some (.int (zi a)), some (.int (zi b)), some (.int (zi t)), some (.int (zi jn1v0)), some (.int (zi jn2v0)), some (.int (zi z201)), some (.int (zi k))]) (S' := [.int (zi t), .int ((zi b) + (zi 1)), .int (zi a), .ref c199]) (L2 := [some (.ref x), some (.int (zi a)), some (.int (zi b)), some (.int (zi t)), some (.int (zi jn1v0)), some (.int (zi jn2v0)), some (.int (zi z201)), some (.int (zi k))]) (S2 := [.int (zi t), .int (zi (b + 1)), .int (zi a), .ref c199]) rfl (by simp only [zi_add, zi_sub, zi_mul, zi_neg, zi_and1, zi_and7, zi_and15, zi_and31, zi_and255]) (by simp only [zi_add, zi_sub, zi_mul, zi_neg, zi_and1, zi_and7, zi_and15, zi_and31, zi_and255]) ?_
                          refine gz_call rfl (by decide) rfl (by decide) (by decide) (gcal_of rfl rfl rfl (Nat.le_of_ble_eq_true rfl) rfl) (cl_fill_range _ sh297.1 c199 tc199 a (by omega) (b + 1) (by omega) t (by omega) cf (by omega) uq lp296k5 hce299) (fun q300 _ wq300 => ?_)
                          obtain ⟨pq300, oq300, hq300⟩ := q300
                          obtain ⟨xq300, gq300, yq300_0⟩ := wq300
                          refine ⟨_, gq300, ?_⟩
                          show gz gPP gGG gcn _ _ 142 [some (.ref x), some (.int (zi a)), some (.int (zi b)), some (.int (zi t)), some (.int (zi jn1v0)), some (.int (zi jn2v0)), some (.int (zi z201)), some (.int (zi k))] [] hq300 _
                          have sq300 : gSs rT 1027 ty [55008, 60999, 61999, 62999, 63999, 64999] h hq300 := gSs.tr sh297 xq300 (by decide)
                          have s301 := (xq300.2.2.2.2.2 x 8 (by rw [tx]; decide)).trans lp296k0
                          have s302 := (xq300.2.2.2.2.2 x 9 (by rw [tx]; decide)).trans lp296k1
                          have pr303 := gRow.fr xq300.2 (by decide) lp296k3
                          have pr304 := gRow.fr xq300.2 (by decide) lp296k4
                          refine gz_s 1 (pc' := 143) (L' := [some (.ref x), some (.int (zi a)), some (.int (zi b)), some (.int (zi t)), some (.int (zi jn1v0)), some (.int (zi jn2v0)), some (.int (zi z201)), some (.int (zi k))]) (S' := [.ref x]) rfl ?_
                          refine gs_gtr rfl (by decide) rfl sq300.1 tx rfl rfl rfl (fun c305 ec305 tc305 => ?_)
                          refine gz_s 1 (pc' := 147) (L' := [some (.ref x), some (.int (zi a)), some (.int (zi b)), some (.int (zi t)), some (.int (zi jn1v0)), some (.int (zi jn2v0)), some (.int (zi z201)), some (.int (zi k))]) (S' := [.ref x, .ref c305]) rfl ?_
                          refine gs_gtk rfl (by decide) rfl sq300.1 tx rfl rfl s301 ?_
                          refine gz_s 1 (pc' := 151) (L' := [some (.ref x), some (.int (zi a)), some (.int (zi b)), some (.int (zi t)), some (.int (zi jn1v0)), some (.int (zi jn2v0)), some (.int (zi z201)), some (.int (zi k))]) (S' := [.int (zi a), .int (zi n0), .ref c305]) rfl ?_
                          have hl306 : 10 ≤ hq300.2.2.2.1 c305 ∧ hq300.2.2.2.1 c305 ≤ 10 := gJ.rowl (G := gGG) sq300.1 tc305 rfl
                          refine gs_ast rfl (by decide) sq300 tc305 rfl rfl rfl (by decide) (fun _ => rfl) (by omega) (by omega) (fun _ => (by decide : (60999 : Nat) ∈ ([55008, 60999, 61999, 62999, 63999, 64999] : List Nat))) (by omega) (by omega) (fun h307 sh307 eh307 fh307 => ?_)
                          have pr308 := gRow.put (i := n0) (z := a) uq tc305 (by decide) fh307 eh307 (by omega) (by omega) pr303
                          have pr309 := gRow.pt fh307 tc305 (by decide) pr304
                          have pr310 := gCr.pt fh307 tc305 (by decide) yq300_0
                          have s311 := (fh307 x 8 (fun q => absurd (((tx).symm.trans (congrArg ty q.1)).trans tc305) (by decide))).trans s301
                          have s312 := (fh307 x 9 (fun q => absurd (((tx).symm.trans (congrArg ty q.1)).trans tc305) (by decide))).trans s302
                          have s313 := (fh307 x 4 (fun q => absurd (((tx).symm.trans (congrArg ty q.1)).trans tc305) (by decide))).trans ec305
                          have pr314 := gEl.set (i := n0) (z := a) uq tc305 (by decide) eh307 (by omega) (by omega)
                          refine gz_s 1 (pc' := 153) (L' := [some (.ref x), some (.int (zi a)), some (.int (zi b)), some (.int (zi t)), some (.int (zi jn1v0)), some (.int (zi jn2v0)), some (.int (zi z201)), some (.int (zi k))]) (S' := [.ref x]) rfl ?_
                          refine gs_gtr rfl (by decide) rfl sh307.1 tx rfl rfl rfl (fun c315 ec315 tc315 => ?_)
                          refine gz_s 1 (pc' := 157) (L' := [some (.ref x), some (.int (zi a)), some (.int (zi b)), some (.int (zi t)), some (.int (zi jn1v0)), some (.int (zi jn2v0)), some (.int (zi z201)), some (.int (zi k))]) (S' := [.ref x, .ref c315]) rfl ?_
                          refine gs_gtk rfl (by decide) rfl sh307.1 tx rfl rfl s311 ?_
                          refine gz_s 1 (pc' := 161) (L' := [some (.ref x), some (.int (zi a)), some (.int (zi b)), some (.int (zi t)), some (.int (zi jn1v0)), some (.int (zi jn2v0)), some (.int (zi z201)), some (.int (zi k))]) (S' := [.int (zi b), .int (zi n0), .ref c315]) rfl ?_
                          have hl316 : 10 ≤ h307.2.2.2.1 c315 ∧ h307.2.2.2.1 c315 ≤ 10 := gJ.rowl (G := gGG) sh307.1 tc315 rfl
                          refine gs_ast rfl (by decide) sh307 tc315 rfl rfl rfl (by decide) (fun _ => rfl) (by omega) (by omega) (fun _ => (by decide : (61999 : Nat) ∈ ([55008, 60999, 61999, 62999, 63999, 64999] : List Nat))) (by omega) (by omega) (fun h317 sh317 eh317 fh317 => ?_)
                          have pr318 := gRow.pt fh317 tc315 (by decide) pr308
                          have pr319 := gRow.put (i := n0) (z := b) uq tc315 (by decide) fh317 eh317 (by omega) (by omega) pr309
                          have pr320 := gCr.pt fh317 tc315 (by decide) pr310
                          have pr321 := gEl.pt fh317 tc315 (by decide) pr314
                          have s322 := (fh317 x 8 (fun q => absurd (((tx).symm.trans (congrArg ty q.1)).trans tc315) (by decide))).trans s311
                          have s323 := (fh317 x 9 (fun q => absurd (((tx).symm.trans (congrArg ty q.1)).trans tc315) (by decide))).trans s312
                          have s324 := (fh317 x 4 (fun q => absurd (((tx).symm.trans (congrArg ty q.1)).trans tc315) (by decide))).trans s313
                          have s325 := (fh317 x 5 (fun q => absurd (((tx).symm.trans (congrArg ty q.1)).trans tc315) (by decide))).trans ec315
                          have pr326 := gEl.set (i := n0) (z := b) uq tc315 (by decide) eh317 (by omega) (by omega)
                          refine gz_s 1 (pc' := 163) (L' := [some (.ref x), some (.int (zi a)), some (.int (zi b)), some (.int (zi t)), some (.int (zi jn1v0)), some (.int (zi jn2v0)), some (.int (zi z201)), some (.int (zi k))]) (S' := [.ref x]) rfl ?_
                          refine gs_gtr rfl (by decide) rfl sh317.1 tx rfl rfl rfl (fun c327 ec327 tc327 => ?_)
                          refine gz_s 1 (pc' := 167) (L' := [some (.ref x), some (.int (zi a)), some (.int (zi b)), some (.int (zi t)), some (.int (zi jn1v0)), some (.int (zi jn2v0)), some (.int (zi z201)), some (.int (zi k))]) (S' := [.ref x, .ref c327]) rfl ?_
                          refine gs_gtk rfl (by decide) rfl sh317.1 tx rfl rfl s322 ?_
                          refine gz_s 2 (pc' := 173) (L' := [some (.ref x), some (.int (zi a)), some (.int (zi b)), some (.int (zi t)), some (.int (zi jn1v0)), some (.int (zi jn2v0)), some (.int (zi z201)), some (.int (zi k))]) (S' := [.int (zi z201), .int (zi 0), .int (zi n0), .ref c327]) rfl ?_
                          refine gz_call rfl (by decide) rfl (by decide) (by decide) (gcal_of rfl rfl rfl (Nat.le_of_ble_eq_true rfl) rfl) (cl_Math_max _ sh317.1 0 (by omega) z201 (by omega) ) (fun q328 _ wq328 => ?_)
                          obtain ⟨pq328, oq328, hq328⟩ := q328
                          obtain ⟨xq328, zq328, gq328, aq328, bq328, uq328_0, uq328_1, uq328_2⟩ := wq328
                          refine ⟨_, gq328, ?_⟩
                          show gz gPP gGG gcn _ _ 176 [some (.ref x), some (.int (zi a)), some (.int (zi b)), some (.int (zi t)), some (.int (zi jn1v0)), some (.int (zi jn2v0)), some (.int (zi z201)), some (.int (zi k))] [.int (zi zq328), .int (zi n0), .ref c327] hq328 _
                          have sq328 : gSs rT 1027 ty [55008, 60999, 61999, 62999, 63999, 64999] h hq328 := gSs.tr sh317 xq328 (by decide)
                          have s329 := (xq328.2.2.2.2.2 x 8 (by rw [tx]; decide)).trans s322
                          have s330 := (xq328.2.2.2.2.2 x 9 (by rw [tx]; decide)).trans s323
                          have s331 := (xq328.2.2.2.2.2 x 4 (by rw [tx]; decide)).trans s324
                          have s332 := (xq328.2.2.2.2.2 x 5 (by rw [tx]; decide)).trans s325
                          have s333 := (xq328.2.2.2.2.2 x 6 (by rw [tx]; decide)).trans ec327
                          have pr334 := gRow.fr xq328.2 (by decide) pr318
                          have pr335 := gRow.fr xq328.2 (by decide) pr319
                          have pr336 := gCr.fr xq328.2 (by decide) pr320
                          have pr337 := gEl.fr xq328.2 (by decide) (fun _ => rfl) pr321
                          have pr338 := gEl.fr xq328.2 (by decide) (fun _ => rfl) pr326
                          have hl339 : 10 ≤ hq328.2.2.2.1 c327 ∧ hq328.2.2.2.1 c327 ≤ 10 := gJ.rowl (G := gGG) sq328.1 tc327 rfl
                          refine gs_ast rfl (by decide) sq328 tc327 rfl rfl rfl (by decide) (fun _ => rfl) (by omega) (by omega) (fun _ => (by decide : (62999 : Nat) ∈ ([55008, 60999, 61999, 62999, 63999, 64999] : List Nat))) (by omega) (by omega) (fun h340 sh340 eh340 fh340 => ?_)
                          have pr341 := gRow.pt fh340 tc327 (by decide) pr334
                          have pr342 := gRow.pt fh340 tc327 (by decide) pr335
                          have pr343 := gCr.pt fh340 tc327 (by decide) pr336
                          have pr344 := gEl.pt fh340 tc327 (by decide) pr337
                          have pr345 := gEl.pt fh340 tc327 (by decide) pr338
                          have s346 := (fh340 x 8 (fun q => absurd (((tx).symm.trans (congrArg ty q.1)).trans tc327) (by decide))).trans s329
                          have s347 := (fh340 x 9 (fun q => absurd (((tx).symm.trans (congrArg ty q.1)).trans tc327) (by decide))).trans s330
                          have s348 := (fh340 x 4 (fun q => absurd (((tx).symm.trans (congrArg ty q.1)).trans tc327) (by decide))).trans s331
                          have s349 := (fh340 x 5 (fun q => absurd (((tx).symm.trans (congrArg ty q.1)).trans tc327) (by decide))).trans s332
                          have s350 := (fh340 x 6 (fun q => absurd (((tx).symm.trans (congrArg ty q.1)).trans tc327) (by decide))).trans s333
                          have pr351 := gEl.set (i := n0) (z := zq328) uq tc327 (by decide) eh340 (by omega) (by omega)
                          refine gz_s 1 (pc' := 178) (L' := [some (.ref x), some (.int (zi a)), some (.int (zi b)), some (.int (zi t)), some (.int (zi jn1v0)), some (.int (zi jn2v0)), some (.int (zi z201)), some (.int (zi k))]) (S' := [.ref x]) rfl ?_
                          refine gs_gtr rfl (by decide) rfl sh340.1 tx rfl rfl rfl (fun c352 ec352 tc352 => ?_)
                          refine gz_s 1 (pc' := 182) (L' := [some (.ref x), some (.int (zi a)), some (.int (zi b)), some (.int (zi t)), some (.int (zi jn1v0)), some (.int (zi jn2v0)), some (.int (zi z201)), some (.int (zi k))]) (S' := [.ref x, .ref c352]) rfl ?_
                          refine gs_gtk rfl (by decide) rfl sh340.1 tx rfl rfl s346 ?_
                          refine gz_s 1 (pc' := 186) (L' := [some (.ref x), some (.int (zi a)), some (.int (zi b)), some (.int (zi t)), some (.int (zi jn1v0)), some (.int (zi jn2v0)), some (.int (zi z201)), some (.int (zi k))]) (S' := [.int (zi t), .int (zi n0), .ref c352]) rfl ?_
                          have hl353 : 10 ≤ h340.2.2.2.1 c352 ∧ h340.2.2.2.1 c352 ≤ 10 := gJ.rowl (G := gGG) sh340.1 tc352 rfl
                          refine gs_ast rfl (by decide) sh340 tc352 rfl rfl rfl (by decide) (fun _ => rfl) (by omega) (by omega) (fun _ => (by decide : (63999 : Nat) ∈ ([55008, 60999, 61999, 62999, 63999, 64999] : List Nat))) (by omega) (by omega) (fun h354 sh354 eh354 fh354 => ?_)
                          have pr355 := gRow.pt fh354 tc352 (by decide) pr341
                          have pr356 := gRow.pt fh354 tc352 (by decide) pr342
                          have pr357 := gCr.pt fh354 tc352 (by decide) pr343
                          have pr358 := gEl.pt fh354 tc352 (by decide) pr344
                          have pr359 := gEl.pt fh354 tc352 (by decide) pr345
                          have pr360 := gEl.pt fh354 tc352 (by decide) pr351
                          have s361 := (fh354 x 8 (fun q => absurd (((tx).symm.trans (congrArg ty q.1)).trans tc352) (by decide))).trans s346
                          have s362 := (fh354 x 9 (fun q => absurd (((tx).symm.trans (congrArg ty q.1)).trans tc352) (by decide))).trans s347
                          have s363 := (fh354 x 4 (fun q => absurd (((tx).symm.trans (congrArg ty q.1)).trans tc352) (by decide))).trans s348
                          have s364 := (fh354 x 5 (fun q => absurd (((tx).symm.trans (congrArg ty q.1)).trans tc352) (by decide))).trans s349
                          have s365 := (fh354 x 6 (fun q => absurd (((tx).symm.trans (congrArg ty q.1)).trans tc352) (by decide))).trans s350
                          have s366 := (fh354 x 7 (fun q => absurd (((tx).symm.trans (congrArg ty q.1)).trans tc352) (by decide))).trans ec352
                          have pr367 := gEl.set (i := n0) (z := t) uq tc352 (by decide) eh354 (by omega) (by omega)
                          refine gz_s 2 (pc' := 189) (L' := [some (.ref x), some (.int (zi a)), some (.int (zi b)), some (.int (zi t)), some (.int (zi jn1v0)), some (.int (zi jn2v0)), some (.int (zi z201)), some (.int (zi k))]) (S' := [.ref x, .ref x]) rfl ?_
                          refine gs_gtk rfl (by decide) rfl sh354.1 tx rfl rfl s361 ?_
                          refine gy_s 2 (pc' := 194) (L' := [some (.ref x), some (.int (zi a)), some (.int (zi b)), some (.int (zi t)), some (.int (zi jn1v0)), some (.int (zi jn2v0)), some (.int (zi z201)), some (.int (zi k))]) (S' := [.int ((zi n0) + (zi 1)), .ref x]) (L2 := [some (.ref x), some (.int (zi a)), some (.int (zi b)), some (.int (zi t)), some (.int (zi jn1v0)), some (.int (zi jn2v0)), some (.int (zi z201)), some (.int (zi k))]) (S2 := [.int (zi (n0 + 1)), .ref x]) rfl (by simp only [zi_add, zi_sub, zi_mul, zi_neg, zi_and1, zi_and7, zi_and15, zi_and31, zi_and255]) (by simp only [zi_add, zi_sub, zi_mul, zi_neg, zi_and1, zi_and7, zi_and15, zi_and31, zi_and255]) ?_
                          refine gs_put rfl (by decide) rfl sh354 tx rfl rfl rfl rfl (Or.inl rfl) (by decide) (by omega) (by omega) (fun h368 sh368 eh368 fh368 => ?_)
                          have pr369 := gRow.pt fh368 tx (by decide) pr355
                          have pr370 := gRow.pt fh368 tx (by decide) pr356
                          have pr371 := gCr.pt fh368 tx (by decide) pr357
                          have pr372 := gEl.pt fh368 tx (by decide) pr358
                          have pr373 := gEl.pt fh368 tx (by decide) pr359
                          have pr374 := gEl.pt fh368 tx (by decide) pr360
                          have pr375 := gEl.pt fh368 tx (by decide) pr367
                          have s376 := (fh368 x 9 (fun q => absurd q.2 (by decide))).trans s362
                          have s377 := (fh368 x 4 (fun q => absurd q.2 (by decide))).trans s363
                          have s378 := (fh368 x 5 (fun q => absurd q.2 (by decide))).trans s364
                          have s379 := (fh368 x 6 (fun q => absurd q.2 (by decide))).trans s365
                          have s380 := (fh368 x 7 (fun q => absurd q.2 (by decide))).trans s366
                          obtain ⟨c2, rc2, hcm⟩ := pr371
                          have hts381 : gTc ty (n0 + 1) h368 := gTc.tell (by omega) pr369 pr370 rc2 tle tsm hcm (by omega) (by omega)
                          refine gz_s 1 (pc' := 198) (L' := [some (.ref x), some (.int (zi a)), some (.int (zi b)), some (.int (zi t)), some (.int (zi jn1v0)), some (.int (zi jn2v0)), some (.int (zi z201)), some (.int (zi k))]) (S' := [.ref x]) rfl ?_
                          refine gs_gtk rfl (by decide) rfl sh368.1 tx rfl rfl eh368 ?_
                          exact gz_end (I := .ireturn) (len := 1) rfl (Or.inl rfl) ⟨sh368, n0 + 1, n0 + 1, rfl, (by omega), (by omega), eh368, (by omega), (by omega), hts381⟩
                        · refine gy_icF rfl (by decide) (by decide) (by omega) (by omega) hc298 ?_
                          refine gz_s 1 (pc' := 111) (L' := [some (.ref x), some (.int (zi a)), some (.int (zi b)), some (.int (zi t)), some (.int (zi jn1v0)), some (.int (zi jn2v0)), some (.int (zi z201)), some (.int (zi k))]) (S' := [.ref x]) rfl ?_
                          refine gs_gtk rfl (by decide) rfl sh297.1 tx rfl rfl lp296k1 ?_
                          refine gz_s 1 (pc' := 116) (L' := [some (.ref x), some (.int (zi a)), some (.int (zi b)), some (.int (zi t)), some (.int (zi jn1v0)), some (.int (zi jn2v0)), some (.int (zi z201)), some (.int (zi k))]) (S' := [.int (zi k), .ref c199]) rfl ?_
                          have hl382 : 64 ≤ h297.2.2.2.1 c199 ∧ h297.2.2.2.1 c199 ≤ 64 := gJ.rowl (G := gGG) sh297.1 tc199 rfl
                          refine gs_ald rfl (by decide) sh297.1 tc199 rfl rfl rfl (by decide) (fun _ => rfl) (by omega) (by omega) (fun z383 ez383 az383 bz383 => ?_)
                          have hf384 := gRow.at (i := k) (z := z383) lp296k5 tc199 ez383 (by omega) (by omega) (by omega)
                          refine gz_s 1 (pc' := 119) (L' := [some (.ref x), some (.int (zi a)), some (.int (zi b)), some (.int (zi t)), some (.int (zi jn1v0)), some (.int (zi jn2v0)), some (.int (zi z201)), some (.int (zi k))]) (S' := [.int (zi z201), .int (zi z383)]) rfl ?_
                          by_cases hc385 : (z383 : Int) = z201
                          · refine gy_icT (pc' := 124) rfl (by decide) (by decide) (by omega) (by omega) hc385 ?_
                            have hce386 : ∀ j : Int, a ≤ j → j < k + 1 → cf j.toNat = cf a.toNat := fun j h1 h2 => by
                              by_cases e : j = k
                              · subst e; omega
                              · exact lp296k6 j h1 (by omega)
                            refine gy_s 2 (pc' := 104) (L' := [some (.ref x), some (.int (zi a)), some (.int (zi b)), some (.int (zi t)), some (.int (zi jn1v0)), some (.int (zi jn2v0)), some (.int (zi z201)), some (.int ((zi k) + zi 1))]) (S' := []) (L2 := [some (.ref x), some (.int (zi a)), some (.int (zi b)), some (.int (zi t)), some (.int (zi jn1v0)), some (.int (zi jn2v0)), some (.int (zi z201)), some (.int (zi (k + 1)))]) (S2 := []) rfl (by simp only [zi_add, zi_sub, zi_mul, zi_neg, zi_and1, zi_and7, zi_and15, zi_and31, zi_and255]) (by simp only [zi_add, zi_sub, zi_mul, zi_neg, zi_and1, zi_and7, zi_and15, zi_and31, zi_and255]) ?_
                            exact gz_wk (ihlp296 h297 (k + 1) (by omega) sh297 (by omega) (by omega) (by omega) (by omega) (by omega) (by omega) (by omega) (by omega) (by omega) lp296k0 lp296k1 lp296k2 lp296k3 lp296k4 lp296k5 hce386) (gLw.s (gLw.s (gLw.s (gLw.s (gLw.s (gLw.s (gLw.s (gLw.s gLw.z))))))))
                          · refine gy_icF rfl (by decide) (by decide) (by omega) (by omega) hc385 ?_
                            refine gz_s 1 (pc' := 123) (L' := [some (.ref x), some (.int (zi a)), some (.int (zi b)), some (.int (zi t)), some (.int (zi jn1v0)), some (.int (zi jn2v0)), some (.int (zi z201)), some (.int (zi k))]) (S' := [.int (zi 0)]) rfl ?_
                            exact gz_end (I := .ireturn) (len := 1) rfl (Or.inl rfl) ⟨sh297, 0, n0, rfl, (by omega), (by omega), lp296k0, (by omega), (by omega), lp296k2⟩
                    exact gz_wk (lp296 _ h a (Nat.lt_succ_self _) hS (by omega) (by omega) (by omega) (by omega) (by omega) (by omega) (by omega) (by omega) (by omega) en0 ec199 hytc rf rt rc (fun j h1 h2 => absurd h2 (by omega))) (gLw.s (gLw.s (gLw.s (gLw.s (gLw.s (gLw.s (gLw.s (gLw.s gLw.z))))))))
                  · refine gy_icF rfl (by decide) (by decide) (by omega) (by omega) hc295 ?_
                    refine gz_s 1 (pc' := 100) (L' := [some (.ref x), some (.int (zi a)), some (.int (zi b)), some (.int (zi t)), some (.int (zi jn1v0)), some (.int (zi jn2v0)), some (.int (zi z201)), none]) (S' := [.int (zi 0)]) rfl ?_
                    exact gz_end (I := .ireturn) (len := 1) rfl (Or.inl rfl) ⟨hS, 0, n0, rfl, (by omega), (by omega), en0, (by omega), (by omega), hytc⟩
              · refine gy_icF rfl (by decide) (by decide) (by omega) (by omega) hc198 ?_
                refine gz_s 1 (pc' := 76) (L' := [some (.ref x), some (.int (zi a)), some (.int (zi b)), some (.int (zi t)), some (.int (zi jn1v0)), some (.int (zi jn2v0)), none, none]) (S' := [.int (zi 0)]) rfl ?_
                exact gz_end (I := .ireturn) (len := 1) rfl (Or.inl rfl) ⟨hS, 0, n0, rfl, (by omega), (by omega), en0, (by omega), (by omega), hytc⟩
    by_cases hc387 : (a : Int) < 1
    · refine gy_icT (pc' := 44) rfl (by decide) (by decide) (by omega) (by omega) hc387 ?_
      refine gz_s 1 (pc' := 45) (L' := [some (.ref x), some (.int (zi a)), some (.int (zi b)), some (.int (zi t)), some (.int (zi jn1v0)), none, none, none]) (S' := [.int (zi 0)]) rfl ?_
      exact jn2 0 (by omega)
    · refine gy_icF rfl (by decide) (by decide) (by omega) (by omega) hc387 ?_
      refine gz_s 2 (pc' := 22) (L' := [some (.ref x), some (.int (zi a)), some (.int (zi b)), some (.int (zi t)), some (.int (zi jn1v0)), none, none, none]) (S' := [.int (zi b), .int (zi a)]) rfl ?_
      by_cases hc388 : (b : Int) < a
      · refine gy_icT (pc' := 44) rfl (by decide) (by decide) (by omega) (by omega) hc388 ?_
        refine gz_s 1 (pc' := 45) (L' := [some (.ref x), some (.int (zi a)), some (.int (zi b)), some (.int (zi t)), some (.int (zi jn1v0)), none, none, none]) (S' := [.int (zi 0)]) rfl ?_
        exact jn2 0 (by omega)
      · refine gy_icF rfl (by decide) (by decide) (by omega) (by omega) hc388 ?_
        refine gz_s 2 (pc' := 28) (L' := [some (.ref x), some (.int (zi a)), some (.int (zi b)), some (.int (zi t)), some (.int (zi jn1v0)), none, none, none]) (S' := [.int (zi 63), .int (zi b)]) rfl ?_
        by_cases hc389 : (63 : Int) < b
        · refine gy_icT (pc' := 44) rfl (by decide) (by decide) (by omega) (by omega) hc389 ?_
          refine gz_s 1 (pc' := 45) (L' := [some (.ref x), some (.int (zi a)), some (.int (zi b)), some (.int (zi t)), some (.int (zi jn1v0)), none, none, none]) (S' := [.int (zi 0)]) rfl ?_
          exact jn2 0 (by omega)
        · refine gy_icF rfl (by decide) (by decide) (by omega) (by omega) hc389 ?_
          refine gz_s 1 (pc' := 32) (L' := [some (.ref x), some (.int (zi a)), some (.int (zi b)), some (.int (zi t)), some (.int (zi jn1v0)), none, none, none]) (S' := [.ref x]) rfl ?_
          refine gs_gtr rfl (by decide) rfl hS.1 tx rfl rfl rfl (fun c390 ec390 tc390 => ?_)
          refine gz_s 1 (pc' := 36) (L' := [some (.ref x), some (.int (zi a)), some (.int (zi b)), some (.int (zi t)), some (.int (zi jn1v0)), none, none, none]) (S' := [.int (zi 0), .ref c390]) rfl ?_
          have hl391 : 64 ≤ h.2.2.2.1 c390 ∧ h.2.2.2.1 c390 ≤ 64 := gJ.rowl (G := gGG) hS.1 tc390 rfl
          refine gs_ald rfl (by decide) hS.1 tc390 rfl rfl rfl (by decide) (fun _ => rfl) (by omega) (by omega) (fun z392 ez392 az392 bz392 => ?_)
          have hf393 := gRow.at (i := 0) (z := z392) rc tc390 ez392 (by omega) (by omega) (by omega)
          by_cases hc394 : (z392 : Int) < 0
          · refine gy_ifT (pc' := 44) rfl (by decide) (by decide) (by omega) hc394 ?_
            refine gz_s 1 (pc' := 45) (L' := [some (.ref x), some (.int (zi a)), some (.int (zi b)), some (.int (zi t)), some (.int (zi jn1v0)), none, none, none]) (S' := [.int (zi 0)]) rfl ?_
            exact jn2 0 (by omega)
          · refine gy_ifF rfl (by decide) (by decide) (by omega) hc394 ?_
            refine gz_s 2 (pc' := 45) (L' := [some (.ref x), some (.int (zi a)), some (.int (zi b)), some (.int (zi t)), some (.int (zi jn1v0)), none, none, none]) (S' := [.int (zi 1)]) rfl ?_
            exact jn2 1 (by omega)
  by_cases hc395 : ¬ (a : Int) = 0
  · refine gy_ifT (pc' := 12) rfl (by decide) (by decide) (by omega) hc395 ?_
    refine gz_s 1 (pc' := 13) (L' := [some (.ref x), some (.int (zi a)), some (.int (zi b)), some (.int (zi t)), none, none, none, none]) (S' := [.int (zi 0)]) rfl ?_
    exact jn1 0 (by omega)
  · refine gy_ifF rfl (by decide) (by decide) (by omega) hc395 ?_
    refine gz_s 1 (pc' := 5) (L' := [some (.ref x), some (.int (zi a)), some (.int (zi b)), some (.int (zi t)), none, none, none, none]) (S' := [.int (zi b)]) rfl ?_
    by_cases hc396 : ¬ (b : Int) = 0
    · refine gy_ifT (pc' := 12) rfl (by decide) (by decide) (by omega) hc396 ?_
      refine gz_s 1 (pc' := 13) (L' := [some (.ref x), some (.int (zi a)), some (.int (zi b)), some (.int (zi t)), none, none, none, none]) (S' := [.int (zi 0)]) rfl ?_
      exact jn1 0 (by omega)
    · refine gy_ifF rfl (by decide) (by decide) (by omega) hc396 ?_
      refine gz_s 2 (pc' := 13) (L' := [some (.ref x), some (.int (zi a)), some (.int (zi b)), some (.int (zi t)), none, none, none, none]) (S' := [.int (zi 1)]) rfl ?_
      exact jn1 1 (by omega)
set_option maxRecDepth 20000 in
set_option maxHeartbeats 4000000 in
theorem cl_Draft_forgetScans (d : Nat) {ty : Nat → Nat} {h : gH} (hJ : gJ rT 1027 ty h) (x : Nat) (tx : ty x = 55) (uq : gUq ty) : gz gPP gGG gcn (d + 1) gt128 0 (gent [.ref x] 1) [] h (fun q _ => gSs rT 1027 ty [55008, 64999] h q.2.2 ∧ ∃ n1 : Int, gfin gt128 q.1 q.2.1 = some none ∧ q.2.2.2.2.2.2 x 8 = .int (zi n1) ∧ 0 ≤ n1 ∧ n1 ≤ 10 ∧ (n1 = 0) ∧ (gTc ty 0 q.2.2)) := by
  have hS : gSs rT 1027 ty [55008, 64999] h h := gSs.rf hJ
  refine gz_s 2 (pc' := 2) (L' := [some (.ref x)]) (S' := [.int (zi 0), .ref x]) rfl ?_
  refine gs_put rfl (by decide) rfl hS tx rfl rfl rfl rfl (Or.inl rfl) (by decide) (by omega) (by omega) (fun h1 sh1 eh1 fh1 => ?_)
  refine gz_s 1 (pc' := 6) (L' := [some (.ref x)]) (S' := [.ref x]) rfl ?_
  refine gs_gtr rfl (by decide) rfl sh1.1 tx rfl rfl rfl (fun c2 ec2 tc2 => ?_)
  refine gz_s 1 (pc' := 10) (L' := [some (.ref x)]) (S' := [.int (zi (-1)), .ref c2]) rfl ?_
  refine gz_call rfl (by decide) rfl (by decide) (by decide) (gcal_of rfl rfl rfl (Nat.le_of_ble_eq_true rfl) rfl) (cl_fill_lowest _ sh1.1 c2 tc2 (-1) (by omega) uq) (fun q3 _ wq3 => ?_)
  obtain ⟨pq3, oq3, hq3⟩ := q3
  obtain ⟨xq3, gq3, yq3_0⟩ := wq3
  refine ⟨_, gq3, ?_⟩
  show gz gPP gGG gcn _ _ 13 [some (.ref x)] [] hq3 _
  have sq3 : gSs rT 1027 ty [55008, 64999] h hq3 := gSs.tr sh1 xq3 (by decide)
  have s4 := (xq3.2.2.2.2.2 x 8 (by rw [tx]; decide)).trans eh1
  have s5 := (xq3.2.2.2.2.2 x 9 (by rw [tx]; decide)).trans ec2
  obtain ⟨c6, ec6, tc6⟩ := gJ.ref (k := 4) (G := gGG) sq3.1 tx rfl rfl rfl
  obtain ⟨c7, ec7, tc7⟩ := gJ.ref (k := 5) (G := gGG) sq3.1 tx rfl rfl rfl
  have hts8 : gTc ty 0 hq3 := gTc.anew (gRow.mk uq tc6 (by decide) (fun _ => rfl)) (gRow.mk uq tc7 (by decide) (fun _ => rfl)) yq3_0
  exact gz_end (I := .return_) (len := 1) rfl (Or.inl rfl) ⟨sq3, 0, rfl, s4, (by omega), (by omega), (by omega), hts8⟩
