/-! ===== methods of the landed text (by program) ===== -/
set_option maxRecDepth 20000 in
set_option maxHeartbeats 4000000 in
theorem cl_Draft_putPoint (d : Nat) {ty : Nat → Nat} {h : gH} (hJ : gJ rT 1027 ty h) (x : Nat) (tx : ty x = 55) (a : Int) (ra : 0 ≤ a ∧ a ≤ 31) (b : Int) (rb : 0 ≤ b ∧ b ≤ 31) (v : Int) (rv : 0 ≤ v ∧ v ≤ 255) (w0 : Int) (ew0 : h.2.2.2.2 x 1 = .int (zi w0)) (rw0 : 0 ≤ w0 ∧ w0 ≤ 32) (h0 : Int) (eh0 : h.2.2.2.2 x 2 = .int (zi h0)) (rh0 : 0 ≤ h0 ∧ h0 ≤ 32) (uq : gUq ty) : gz gPP gGG gcn (d + 1) gt87 0 (gent [.ref x, .int (zi a), .int (zi b), .int (zi v)] 5) [] h (fun q _ => gSs rT 1027 ty [55001, 55002, 59999] h q.2.2 ∧ ∃ z w1 h1 : Int, gfin gt87 q.1 q.2.1 = some (some (.int (zi z))) ∧ 0 ≤ z ∧ z ≤ 255 ∧ q.2.2.2.2.2.2 x 1 = .int (zi w1) ∧ 0 ≤ w1 ∧ w1 ≤ 32 ∧ q.2.2.2.2.2.2 x 2 = .int (zi h1) ∧ 0 ≤ h1 ∧ h1 ≤ 32 ∧ (1 ≤ w1) ∧ (1 ≤ h1) ∧ (a < w0 → w1 = w0) ∧ (w0 ≤ a → w1 = a + 1)) := by
  have hS : gSs rT 1027 ty [55001, 55002, 59999] h h := gSs.rf hJ
  refine gz_s 1 (pc' := 1) (L' := [some (.ref x), some (.int (zi a)), some (.int (zi b)), some (.int (zi v)), none]) (S' := [.ref x]) rfl ?_
  refine gs_gtr rfl (by decide) rfl hS.1 tx rfl rfl rfl (fun c1 ec1 tc1 => ?_)
  refine gy_s 5 (pc' := 10) (L' := [some (.ref x), some (.int (zi a)), some (.int (zi b)), some (.int (zi v)), none]) (S' := [.int (((zi b) * (zi 32)) + (zi a)), .ref c1]) (L2 := [some (.ref x), some (.int (zi a)), some (.int (zi b)), some (.int (zi v)), none]) (S2 := [.int (zi ((b * 32) + a)), .ref c1]) rfl (by simp only [zi_add, zi_sub, zi_mul, zi_neg, zi_and1, zi_and7, zi_and15, zi_and31, zi_and255]) (by simp only [zi_add, zi_sub, zi_mul, zi_neg, zi_and1, zi_and7, zi_and15, zi_and31, zi_and255]) ?_
  have hl2 : 1024 ≤ h.2.2.2.1 c1 ∧ h.2.2.2.1 c1 ≤ 1024 := gJ.rowl (G := gGG) hS.1 tc1 rfl
  refine gs_ald rfl (by decide) hS.1 tc1 rfl rfl rfl (by decide) (fun _ => rfl) (by omega) (by omega) (fun z3 ez3 az3 bz3 => ?_)
  refine gz_s 2 (pc' := 14) (L' := [some (.ref x), some (.int (zi a)), some (.int (zi b)), some (.int (zi v)), some (.int (zi z3))]) (S' := [.ref x]) rfl ?_
  refine gs_gtk rfl (by decide) rfl hS.1 tx rfl rfl ec1 ?_
  refine gy_s 6 (pc' := 24) (L' := [some (.ref x), some (.int (zi a)), some (.int (zi b)), some (.int (zi v)), some (.int (zi z3))]) (S' := [.int (zi v), .int (((zi b) * (zi 32)) + (zi a)), .ref c1]) (L2 := [some (.ref x), some (.int (zi a)), some (.int (zi b)), some (.int (zi v)), some (.int (zi z3))]) (S2 := [.int (zi v), .int (zi ((b * 32) + a)), .ref c1]) rfl (by simp only [zi_add, zi_sub, zi_mul, zi_neg, zi_and1, zi_and7, zi_and15, zi_and31, zi_and255]) (by simp only [zi_add, zi_sub, zi_mul, zi_neg, zi_and1, zi_and7, zi_and15, zi_and31, zi_and255]) ?_
  have hl4 : 1024 ≤ h.2.2.2.1 c1 ∧ h.2.2.2.1 c1 ≤ 1024 := gJ.rowl (G := gGG) hS.1 tc1 rfl
  refine gs_ast rfl (by decide) hS tc1 rfl rfl rfl (by decide) (fun _ => rfl) (by omega) (by omega) (fun _ => (by decide : (59999 : Nat) ∈ ([55001, 55002, 59999] : List Nat))) (by omega) (by omega) (fun h5 sh5 eh5 fh5 => ?_)
  have s6 := (fh5 x 1 (fun q => absurd (((tx).symm.trans (congrArg ty q.1)).trans tc1) (by decide))).trans ew0
  have s7 := (fh5 x 2 (fun q => absurd (((tx).symm.trans (congrArg ty q.1)).trans tc1) (by decide))).trans eh0
  have s8 := (fh5 x 0 (fun q => absurd (((tx).symm.trans (congrArg ty q.1)).trans tc1) (by decide))).trans ec1
  have pr9 := gEl.set (i := (b * 32) + a) (z := v) uq tc1 (by decide) eh5 (by omega) (by omega)
  refine gz_s 2 (pc' := 27) (L' := [some (.ref x), some (.int (zi a)), some (.int (zi b)), some (.int (zi v)), some (.int (zi z3))]) (S' := [.ref x, .ref x]) rfl ?_
  refine gs_gtk rfl (by decide) rfl sh5.1 tx rfl rfl s6 ?_
  refine gy_s 3 (pc' := 33) (L' := [some (.ref x), some (.int (zi a)), some (.int (zi b)), some (.int (zi v)), some (.int (zi z3))]) (S' := [.int ((zi a) + (zi 1)), .int (zi w0), .ref x]) (L2 := [some (.ref x), some (.int (zi a)), some (.int (zi b)), some (.int (zi v)), some (.int (zi z3))]) (S2 := [.int (zi (a + 1)), .int (zi w0), .ref x]) rfl (by simp only [zi_add, zi_sub, zi_mul, zi_neg, zi_and1, zi_and7, zi_and15, zi_and31, zi_and255]) (by simp only [zi_add, zi_sub, zi_mul, zi_neg, zi_and1, zi_and7, zi_and15, zi_and31, zi_and255]) ?_
  refine gz_call rfl (by decide) rfl (by decide) (by decide) (gcal_of rfl rfl rfl (Nat.le_of_ble_eq_true rfl) rfl) (cl_Math_max _ sh5.1 w0 (by omega) (a + 1) (by omega) ) (fun q10 _ wq10 => ?_)
  obtain ⟨pq10, oq10, hq10⟩ := q10
  obtain ⟨xq10, zq10, gq10, aq10, bq10, uq10_0, uq10_1, uq10_2⟩ := wq10
  refine ⟨_, gq10, ?_⟩
  show gz gPP gGG gcn _ _ 36 [some (.ref x), some (.int (zi a)), some (.int (zi b)), some (.int (zi v)), some (.int (zi z3))] [.int (zi zq10), .ref x] hq10 _
  have sq10 : gSs rT 1027 ty [55001, 55002, 59999] h hq10 := gSs.tr sh5 xq10 (by decide)
  have s11 := (xq10.2.2.2.2.2 x 1 (by rw [tx]; decide)).trans s6
  have s12 := (xq10.2.2.2.2.2 x 2 (by rw [tx]; decide)).trans s7
  have s13 := (xq10.2.2.2.2.2 x 0 (by rw [tx]; decide)).trans s8
  have pr14 := gEl.fr xq10.2 (by decide) (fun _ => rfl) pr9
  refine gs_put rfl (by decide) rfl sq10 tx rfl rfl rfl rfl (Or.inl rfl) (by decide) (by omega) (by omega) (fun h15 sh15 eh15 fh15 => ?_)
  have pr16 := gEl.pt fh15 tx (by decide) pr14
  have s17 := (fh15 x 2 (fun q => absurd q.2 (by decide))).trans s12
  have s18 := (fh15 x 0 (fun q => absurd q.2 (by decide))).trans s13
  refine gz_s 2 (pc' := 41) (L' := [some (.ref x), some (.int (zi a)), some (.int (zi b)), some (.int (zi v)), some (.int (zi z3))]) (S' := [.ref x, .ref x]) rfl ?_
  refine gs_gtk rfl (by decide) rfl sh15.1 tx rfl rfl s17 ?_
  refine gy_s 3 (pc' := 47) (L' := [some (.ref x), some (.int (zi a)), some (.int (zi b)), some (.int (zi v)), some (.int (zi z3))]) (S' := [.int ((zi b) + (zi 1)), .int (zi h0), .ref x]) (L2 := [some (.ref x), some (.int (zi a)), some (.int (zi b)), some (.int (zi v)), some (.int (zi z3))]) (S2 := [.int (zi (b + 1)), .int (zi h0), .ref x]) rfl (by simp only [zi_add, zi_sub, zi_mul, zi_neg, zi_and1, zi_and7, zi_and15, zi_and31, zi_and255]) (by simp only [zi_add, zi_sub, zi_mul, zi_neg, zi_and1, zi_and7, zi_and15, zi_and31, zi_and255]) ?_
  refine gz_call rfl (by decide) rfl (by decide) (by decide) (gcal_of rfl rfl rfl (Nat.le_of_ble_eq_true rfl) rfl) (cl_Math_max _ sh15.1 h0 (by omega) (b + 1) (by omega) ) (fun q19 _ wq19 => ?_)
  obtain ⟨pq19, oq19, hq19⟩ := q19
  obtain ⟨xq19, zq19, gq19, aq19, bq19, uq19_0, uq19_1, uq19_2⟩ := wq19
  refine ⟨_, gq19, ?_⟩
  show gz gPP gGG gcn _ _ 50 [some (.ref x), some (.int (zi a)), some (.int (zi b)), some (.int (zi v)), some (.int (zi z3))] [.int (zi zq19), .ref x] hq19 _
  have sq19 : gSs rT 1027 ty [55001, 55002, 59999] h hq19 := gSs.tr sh15 xq19 (by decide)
  have s20 := (xq19.2.2.2.2.2 x 2 (by rw [tx]; decide)).trans s17
  have s21 := (xq19.2.2.2.2.2 x 0 (by rw [tx]; decide)).trans s18
  have s22 := (xq19.2.2.2.2.2 x 1 (by rw [tx]; decide)).trans eh15
  have pr23 := gEl.fr xq19.2 (by decide) (fun _ => rfl) pr16
  refine gs_put rfl (by decide) rfl sq19 tx rfl rfl rfl rfl (Or.inl rfl) (by decide) (by omega) (by omega) (fun h24 sh24 eh24 fh24 => ?_)
  have pr25 := gEl.pt fh24 tx (by decide) pr23
  have s26 := (fh24 x 0 (fun q => absurd q.2 (by decide))).trans s21
  have s27 := (fh24 x 1 (fun q => absurd q.2 (by decide))).trans s22
  refine gz_s 1 (pc' := 55) (L' := [some (.ref x), some (.int (zi a)), some (.int (zi b)), some (.int (zi v)), some (.int (zi z3))]) (S' := [.int (zi z3)]) rfl ?_
  exact gz_end (I := .ireturn) (len := 1) rfl (Or.inl rfl) ⟨sh24, z3, zq10, zq19, rfl, (by omega), (by omega), s27, (by omega), (by omega), eh24, (by omega), (by omega), (by omega), (by omega), (by omega), (by omega)⟩
set_option maxRecDepth 20000 in
set_option maxHeartbeats 4000000 in
theorem cl_Draft_filledPoint (d : Nat) {ty : Nat → Nat} {h : gH} (hJ : gJ rT 1027 ty h) (x : Nat) (tx : ty x = 55) (a : Int) (ra : 0 ≤ a ∧ a ≤ 200) (b : Int) (rb : 0 ≤ b ∧ b ≤ 200) (uq : gUq ty) : gz gPP gGG gcn (d + 1) gt95 0 (gent [.ref x, .int (zi a), .int (zi b)] 5) [] h (fun q _ => gSs rT 1027 ty [] h q.2.2 ∧ ∃ z : Int, gfin gt95 q.1 q.2.1 = some (some (.int (zi z))) ∧ 0 ≤ z ∧ z ≤ 255) := by
  have hS : gSs rT 1027 ty [] h h := gSs.rf hJ
  refine gz_s 3 (pc' := 3) (L' := [some (.ref x), some (.int (zi a)), some (.int (zi b)), none, none]) (S' := [.ref x, .int (zi b), .int (zi 0)]) rfl ?_
  refine gs_get rfl (by decide) rfl hS.1 tx rfl rfl rfl (fun z1 ez1 az1 bz1 => ?_)
  refine gy_s 2 (pc' := 8) (L' := [some (.ref x), some (.int (zi a)), some (.int (zi b)), none, none]) (S' := [.int ((zi z1) - (zi 1)), .int (zi b), .int (zi 0)]) (L2 := [some (.ref x), some (.int (zi a)), some (.int (zi b)), none, none]) (S2 := [.int (zi (z1 - 1)), .int (zi b), .int (zi 0)]) rfl (by simp only [zi_add, zi_sub, zi_mul, zi_neg, zi_and1, zi_and7, zi_and15, zi_and31, zi_and255]) (by simp only [zi_add, zi_sub, zi_mul, zi_neg, zi_and1, zi_and7, zi_and15, zi_and31, zi_and255]) ?_
  refine gz_call rfl (by decide) rfl (by decide) (by decide) (gcal_of rfl rfl rfl (Nat.le_of_ble_eq_true rfl) rfl) (cl_Math_min _ hS.1 b (by omega) (z1 - 1) (by omega) ) (fun q2 _ wq2 => ?_)
  obtain ⟨pq2, oq2, hq2⟩ := q2
  obtain ⟨xq2, zq2, gq2, aq2, bq2, uq2_0, uq2_1, uq2_2⟩ := wq2
  refine ⟨_, gq2, ?_⟩
  show gz gPP gGG gcn _ _ 11 [some (.ref x), some (.int (zi a)), some (.int (zi b)), none, none] [.int (zi zq2), .int (zi 0)] hq2 _
  have sq2 : gSs rT 1027 ty [] h hq2 := gSs.tr hS xq2 (by decide)
  have s3 := (xq2.2.2.2.2.2 x 2 (by rw [tx]; decide)).trans ez1
  refine gz_call rfl (by decide) rfl (by decide) (by decide) (gcal_of rfl rfl rfl (Nat.le_of_ble_eq_true rfl) rfl) (cl_Math_max _ sq2.1 0 (by omega) zq2 (by omega) ) (fun q4 _ wq4 => ?_)
  obtain ⟨pq4, oq4, hq4⟩ := q4
  obtain ⟨xq4, zq4, gq4, aq4, bq4, uq4_0, uq4_1, uq4_2⟩ := wq4
  refine ⟨_, gq4, ?_⟩
  show gz gPP gGG gcn _ _ 14 [some (.ref x), some (.int (zi a)), some (.int (zi b)), none, none] [.int (zi zq4)] hq4 _
  have sq4 : gSs rT 1027 ty [] h hq4 := gSs.tr sq2 xq4 (by decide)
  have s5 := (xq4.2.2.2.2.2 x 2 (by rw [tx]; decide)).trans s3
  refine gz_s 4 (pc' := 18) (L' := [some (.ref x), some (.int (zi a)), some (.int (zi b)), some (.int (zi zq4)), none]) (S' := [.ref x, .int (zi a), .int (zi 0)]) rfl ?_
  refine gs_get rfl (by decide) rfl sq4.1 tx rfl rfl rfl (fun z6 ez6 az6 bz6 => ?_)
  refine gy_s 2 (pc' := 23) (L' := [some (.ref x), some (.int (zi a)), some (.int (zi b)), some (.int (zi zq4)), none]) (S' := [.int ((zi z6) - (zi 1)), .int (zi a), .int (zi 0)]) (L2 := [some (.ref x), some (.int (zi a)), some (.int (zi b)), some (.int (zi zq4)), none]) (S2 := [.int (zi (z6 - 1)), .int (zi a), .int (zi 0)]) rfl (by simp only [zi_add, zi_sub, zi_mul, zi_neg, zi_and1, zi_and7, zi_and15, zi_and31, zi_and255]) (by simp only [zi_add, zi_sub, zi_mul, zi_neg, zi_and1, zi_and7, zi_and15, zi_and31, zi_and255]) ?_
  refine gz_call rfl (by decide) rfl (by decide) (by decide) (gcal_of rfl rfl rfl (Nat.le_of_ble_eq_true rfl) rfl) (cl_Math_min _ sq4.1 a (by omega) (z6 - 1) (by omega) ) (fun q7 _ wq7 => ?_)
  obtain ⟨pq7, oq7, hq7⟩ := q7
  obtain ⟨xq7, zq7, gq7, aq7, bq7, uq7_0, uq7_1, uq7_2⟩ := wq7
  refine ⟨_, gq7, ?_⟩
  show gz gPP gGG gcn _ _ 26 [some (.ref x), some (.int (zi a)), some (.int (zi b)), some (.int (zi zq4)), none] [.int (zi zq7), .int (zi 0)] hq7 _
  have sq7 : gSs rT 1027 ty [] h hq7 := gSs.tr sq4 xq7 (by decide)
  have s8 := (xq7.2.2.2.2.2 x 2 (by rw [tx]; decide)).trans s5
  have s9 := (xq7.2.2.2.2.2 x 1 (by rw [tx]; decide)).trans ez6
  refine gz_call rfl (by decide) rfl (by decide) (by decide) (gcal_of rfl rfl rfl (Nat.le_of_ble_eq_true rfl) rfl) (cl_Math_max _ sq7.1 0 (by omega) zq7 (by omega) ) (fun q10 _ wq10 => ?_)
  obtain ⟨pq10, oq10, hq10⟩ := q10
  obtain ⟨xq10, zq10, gq10, aq10, bq10, uq10_0, uq10_1, uq10_2⟩ := wq10
  refine ⟨_, gq10, ?_⟩
  show gz gPP gGG gcn _ _ 29 [some (.ref x), some (.int (zi a)), some (.int (zi b)), some (.int (zi zq4)), none] [.int (zi zq10)] hq10 _
  have sq10 : gSs rT 1027 ty [] h hq10 := gSs.tr sq7 xq10 (by decide)
  have s11 := (xq10.2.2.2.2.2 x 2 (by rw [tx]; decide)).trans s8
  have s12 := (xq10.2.2.2.2.2 x 1 (by rw [tx]; decide)).trans s9
  refine gz_s 2 (pc' := 32) (L' := [some (.ref x), some (.int (zi a)), some (.int (zi b)), some (.int (zi zq4)), some (.int (zi zq10))]) (S' := [.ref x]) rfl ?_
  refine gs_gtr rfl (by decide) rfl sq10.1 tx rfl rfl rfl (fun c13 ec13 tc13 => ?_)
  refine gy_s 5 (pc' := 42) (L' := [some (.ref x), some (.int (zi a)), some (.int (zi b)), some (.int (zi zq4)), some (.int (zi zq10))]) (S' := [.int (((zi zq4) * (zi 32)) + (zi zq10)), .ref c13]) (L2 := [some (.ref x), some (.int (zi a)), some (.int (zi b)), some (.int (zi zq4)), some (.int (zi zq10))]) (S2 := [.int (zi ((zq4 * 32) + zq10)), .ref c13]) rfl (by simp only [zi_add, zi_sub, zi_mul, zi_neg, zi_and1, zi_and7, zi_and15, zi_and31, zi_and255]) (by simp only [zi_add, zi_sub, zi_mul, zi_neg, zi_and1, zi_and7, zi_and15, zi_and31, zi_and255]) ?_
  have hl14 : 1024 ≤ hq10.2.2.2.1 c13 ∧ hq10.2.2.2.1 c13 ≤ 1024 := gJ.rowl (G := gGG) sq10.1 tc13 rfl
  refine gs_ald rfl (by decide) sq10.1 tc13 rfl rfl rfl (by decide) (fun _ => rfl) (by omega) (by omega) (fun z15 ez15 az15 bz15 => ?_)
  exact gz_end (I := .ireturn) (len := 1) rfl (Or.inl rfl) ⟨sq10, z15, rfl, (by omega), (by omega)⟩
set_option maxRecDepth 20000 in
set_option maxHeartbeats 4000000 in
theorem cl_fill_lowest (d : Nat) {ty : Nat → Nat} {h : gH} (hJ : gJ rT 1027 ty h) (a : Nat) (ta : ty a = 64) (v : Int) (rv : (-1) ≤ v ∧ v ≤ 3) (uq : gUq ty) : gz gPP gGG gcn (d + 0) gt5 0 (gent [.ref a, .int (zi v)] 4) [] h (fun q _ => gSs rT 1027 ty [64999] h q.2.2 ∧ gfin gt5 q.1 q.2.1 = some none ∧ (gOy ty 64 v 64 q.2.2)) := by
  have hS : gSs rT 1027 ty [64999] h h := gSs.rf hJ
  refine gz_s 3 (pc' := 3) (L' := [some (.ref a), some (.int (zi v)), some (.int (zi 0)), none]) (S' := [.ref a]) rfl ?_
  refine gs_len rfl (by decide) hS.1 ta rfl rfl rfl (fun z1 ez1 az1 bz1 => ?_)
  have cz1 : 64 ≤ z1 ∧ z1 ≤ 64 := ⟨az1, bz1⟩
  refine gz_s 1 (pc' := 5) (L' := [some (.ref a), some (.int (zi v)), some (.int (zi 0)), some (.int (zi z1))]) (S' := []) rfl ?_
  have hoy3 : gOy ty 64 v 0 h := ⟨_, gRow.mk uq ta (by decide) (fun _ => rfl), fun j hj => absurd hj (by omega)⟩
  have lp2 : ∀ (fu : Nat) (h4 : gH) (k : Int), (65 - k).toNat < fu → gSs rT 1027 ty [64999] h h4 → (0 ≤ k ∧ k ≤ 64) → gOy ty 64 v k h4 → gz gPP gGG gcn (d + 0) gt5 5 [some (.ref a), some (.int (zi v)), some (.int (zi k)), some (.int (zi z1))] [] h4 (fun q _ => gSs rT 1027 ty [64999] h q.2.2 ∧ gfin gt5 q.1 q.2.1 = some none ∧ (gOy ty 64 v 64 q.2.2)) := by
    intro fu
    induction fu with
    | zero => intro h4 k hm; exact absurd hm (Nat.not_lt_zero _)
    | succ fu ihlp2 =>
      intro h4 k lp2m sh4 lp2f0 lp2k0
      have hln : h4.2.2.2.1 a = h.2.2.2.1 a := congrFun sh4.2.2.2.2.1 a
      refine gz_s 2 (pc' := 7) (L' := [some (.ref a), some (.int (zi v)), some (.int (zi k)), some (.int (zi z1))]) (S' := [.int (zi z1), .int (zi k)]) rfl ?_
      by_cases hc5 : (z1 : Int) ≤ k
      · refine gy_icT (pc' := 20) rfl (by decide) (by decide) (by omega) (by omega) hc5 ?_
        have hoy6 : gOy ty 64 v 64 h4 := by
          have e9 := lp2k0
          rw [(by omega : k = 64)] at e9
          exact e9
        exact gz_end (I := .return_) (len := 1) rfl (Or.inl rfl) ⟨sh4, rfl, hoy6⟩
      · refine gy_icF rfl (by decide) (by decide) (by omega) (by omega) hc5 ?_
        refine gz_s 3 (pc' := 13) (L' := [some (.ref a), some (.int (zi v)), some (.int (zi k)), some (.int (zi z1))]) (S' := [.int (zi v), .int (zi k), .ref a]) rfl ?_
        obtain ⟨f9, rf9, of9⟩ := lp2k0
        have hl7 : 64 ≤ h4.2.2.2.1 a ∧ h4.2.2.2.1 a ≤ 64 := gJ.rowl (G := gGG) sh4.1 ta rfl
        refine gs_ast rfl (by decide) sh4 ta rfl rfl rfl (by decide) (fun _ => rfl) (by omega) (by omega) (fun _ => (by decide : (64999 : Nat) ∈ ([64999] : List Nat))) (by omega) (by omega) (fun h8 sh8 eh8 fh8 => ?_)
        have pr9 := gRow.put (i := k) (z := v) uq ta (by decide) fh8 eh8 (by omega) (by omega) rf9
        have pr10 := gEl.set (i := k) (z := v) uq ta (by decide) eh8 (by omega) (by omega)
        have hoy11 : gOy ty 64 v (k + 1) h8 := gOy.step (by omega) pr9 of9
        refine gy_s 2 (pc' := 5) (L' := [some (.ref a), some (.int (zi v)), some (.int ((zi k) + zi 1)), some (.int (zi z1))]) (S' := []) (L2 := [some (.ref a), some (.int (zi v)), some (.int (zi (k + 1))), some (.int (zi z1))]) (S2 := []) rfl (by simp only [zi_add, zi_sub, zi_mul, zi_neg, zi_and1, zi_and7, zi_and15, zi_and31, zi_and255]) (by simp only [zi_add, zi_sub, zi_mul, zi_neg, zi_and1, zi_and7, zi_and15, zi_and31, zi_and255]) ?_
        exact gz_wk (ihlp2 h8 (k + 1) (by omega) sh8 (by omega) hoy11) (gLw.s (gLw.s (gLw.s (gLw.s gLw.z))))
  exact gz_wk (lp2 _ h 0 (Nat.lt_succ_self _) hS (by omega) hoy3) (gLw.s (gLw.s (gLw.s (gLw.s gLw.z))))
set_option maxRecDepth 20000 in
set_option maxHeartbeats 4000000 in
theorem cl_fill_tables (d : Nat) {ty : Nat → Nat} {h : gH} (hJ : gJ rT 1027 ty h) (a : Nat) (ta : ty a = 53) (v : Int) (rv : 0 ≤ v ∧ v ≤ 255) : gz gPP gGG gcn (d + 0) gt5 0 (gent [.ref a, .int (zi v)] 4) [] h (fun q _ => gSs rT 1027 ty [53999] h q.2.2 ∧ gfin gt5 q.1 q.2.1 = some none) := by
  have hS : gSs rT 1027 ty [53999] h h := gSs.rf hJ
  refine gz_s 3 (pc' := 3) (L' := [some (.ref a), some (.int (zi v)), some (.int (zi 0)), none]) (S' := [.ref a]) rfl ?_
  refine gs_len rfl (by decide) hS.1 ta rfl rfl rfl (fun z1 ez1 az1 bz1 => ?_)
  have cz1 : 256 ≤ z1 ∧ z1 ≤ 256 := ⟨az1, bz1⟩
  refine gz_s 1 (pc' := 5) (L' := [some (.ref a), some (.int (zi v)), some (.int (zi 0)), some (.int (zi z1))]) (S' := []) rfl ?_
  have lp2 : ∀ (fu : Nat) (h3 : gH) (k : Int), (1000001 - k).toNat < fu → gSs rT 1027 ty [53999] h h3 → (0 ≤ k ∧ k ≤ 1000000) → gz gPP gGG gcn (d + 0) gt5 5 [some (.ref a), some (.int (zi v)), some (.int (zi k)), some (.int (zi z1))] [] h3 (fun q _ => gSs rT 1027 ty [53999] h q.2.2 ∧ gfin gt5 q.1 q.2.1 = some none) := by
    intro fu
    induction fu with
    | zero => intro h3 k hm; exact absurd hm (Nat.not_lt_zero _)
    | succ fu ihlp2 =>
      intro h3 k lp2m sh3 lp2f0 
      have hln : h3.2.2.2.1 a = h.2.2.2.1 a := congrFun sh3.2.2.2.2.1 a
      refine gz_s 2 (pc' := 7) (L' := [some (.ref a), some (.int (zi v)), some (.int (zi k)), some (.int (zi z1))]) (S' := [.int (zi z1), .int (zi k)]) rfl ?_
      by_cases hc4 : (z1 : Int) ≤ k
      · refine gy_icT (pc' := 20) rfl (by decide) (by decide) (by omega) (by omega) hc4 ?_
        exact gz_end (I := .return_) (len := 1) rfl (Or.inl rfl) ⟨sh3, rfl⟩
      · refine gy_icF rfl (by decide) (by decide) (by omega) (by omega) hc4 ?_
        refine gz_s 3 (pc' := 13) (L' := [some (.ref a), some (.int (zi v)), some (.int (zi k)), some (.int (zi z1))]) (S' := [.int (zi v), .int (zi k), .ref a]) rfl ?_
        have hl5 : 256 ≤ h3.2.2.2.1 a ∧ h3.2.2.2.1 a ≤ 256 := gJ.rowl (G := gGG) sh3.1 ta rfl
        refine gs_ast rfl (by decide) sh3 ta rfl rfl rfl (by decide) (fun _ => rfl) (by omega) (by omega) (fun _ => (by decide : (53999 : Nat) ∈ ([53999] : List Nat))) (by omega) (by omega) (fun h6 sh6 eh6 fh6 => ?_)
        refine gy_s 2 (pc' := 5) (L' := [some (.ref a), some (.int (zi v)), some (.int ((zi k) + zi 1)), some (.int (zi z1))]) (S' := []) (L2 := [some (.ref a), some (.int (zi v)), some (.int (zi (k + 1))), some (.int (zi z1))]) (S2 := []) rfl (by simp only [zi_add, zi_sub, zi_mul, zi_neg, zi_and1, zi_and7, zi_and15, zi_and31, zi_and255]) (by simp only [zi_add, zi_sub, zi_mul, zi_neg, zi_and1, zi_and7, zi_and15, zi_and31, zi_and255]) ?_
        exact gz_wk (ihlp2 h6 (k + 1) (by omega) sh6 (by omega) ) (gLw.s (gLw.s (gLw.s (gLw.s gLw.z))))
  exact gz_wk (lp2 _ h 0 (Nat.lt_succ_self _) hS (by omega) ) (gLw.s (gLw.s (gLw.s (gLw.s gLw.z))))
set_option maxRecDepth 20000 in
set_option maxHeartbeats 4000000 in
theorem cl_Arrays_rangeCheck (d : Nat) {ty : Nat → Nat} {h : gH} (hJ : gJ rT 1027 ty h) (n : Int) (rn : 0 ≤ n ∧ n ≤ 1000000) (f : Int) (rf : 0 ≤ f ∧ f ≤ 1000000) (t : Int) (rt : 0 ≤ t ∧ t ≤ 1000000) (pp0 : f ≤ t) (pp1 : t ≤ n) : gz gPP gGG gcn (d + 0) gt64 0 (gent [.int (zi n), .int (zi f), .int (zi t)] 3) [] h (fun q _ => gSs rT 1027 ty [] h q.2.2 ∧ gfin gt64 q.1 q.2.1 = some none) := by
  have hS : gSs rT 1027 ty [] h h := gSs.rf hJ
  refine gz_s 2 (pc' := 2) (L' := [some (.int (zi n)), some (.int (zi f)), some (.int (zi t))]) (S' := [.int (zi t), .int (zi f)]) rfl ?_
  refine gy_icT (pc' := 46) rfl (by decide) (by decide) (by omega) (by omega) (by first | (simp [zc]; done) | (simp only [zc]; omega)) ?_
  refine gz_s 1 (pc' := 47) (L' := [some (.int (zi n)), some (.int (zi f)), some (.int (zi t))]) (S' := [.int (zi f)]) rfl ?_
  refine gy_ifT (pc' := 59) rfl (by decide) (by decide) (by omega) (by first | (simp [zc]; done) | (simp only [zc]; omega)) ?_
  refine gz_s 2 (pc' := 61) (L' := [some (.int (zi n)), some (.int (zi f)), some (.int (zi t))]) (S' := [.int (zi n), .int (zi t)]) rfl ?_
  refine gy_icT (pc' := 73) rfl (by decide) (by decide) (by omega) (by omega) (by first | (simp [zc]; done) | (simp only [zc]; omega)) ?_
  exact gz_end (I := .return_) (len := 1) rfl (Or.inl rfl) ⟨hS, rfl⟩
set_option maxRecDepth 20000 in
set_option maxHeartbeats 4000000 in
theorem cl_fill_range (d : Nat) {ty : Nat → Nat} {h : gH} (hJ : gJ rT 1027 ty h) (a : Nat) (ta : ty a = 64) (f : Int) (rf : 0 ≤ f ∧ f ≤ 63) (t : Int) (rt : 1 ≤ t ∧ t ≤ 64) (v : Int) (rv : 0 ≤ v ∧ v ≤ 3) (cf : Nat → Int) (pp0 : f ≤ t) (uq : gUq ty) (hyf64 : gRow ty 64 cf h) (hyce2 : ∀ j : Int, f ≤ j → j < t → v + 1 ≤ gcr (cf j.toNat)) : gz gPP gGG gcn (d + 1) gt63 0 (gent [.ref a, .int (zi f), .int (zi t), .int (zi v)] 5) [] h (fun q _ => gSs rT 1027 ty [64999] h q.2.2 ∧ gfin gt63 q.1 q.2.1 = some none ∧ (gCr ty cf f t v q.2.2)) := by
  have hS : gSs rT 1027 ty [64999] h h := gSs.rf hJ
  refine gz_s 1 (pc' := 1) (L' := [some (.ref a), some (.int (zi f)), some (.int (zi t)), some (.int (zi v)), none]) (S' := [.ref a]) rfl ?_
  refine gs_len rfl (by decide) hS.1 ta rfl rfl rfl (fun z1 ez1 az1 bz1 => ?_)
  have cz1 : 64 ≤ z1 ∧ z1 ≤ 64 := ⟨az1, bz1⟩
  refine gz_s 2 (pc' := 4) (L' := [some (.ref a), some (.int (zi f)), some (.int (zi t)), some (.int (zi v)), none]) (S' := [.int (zi t), .int (zi f), .int (zi z1)]) rfl ?_
  refine gz_call rfl (by decide) rfl (by decide) (by decide) (gcal_of rfl rfl rfl (Nat.le_of_ble_eq_true rfl) rfl) (cl_Arrays_rangeCheck _ hS.1 z1 (by omega) f (by omega) t (by omega) (by omega) (by omega)) (fun q2 _ wq2 => ?_)
  obtain ⟨pq2, oq2, hq2⟩ := q2
  obtain ⟨xq2, gq2⟩ := wq2
  refine ⟨_, gq2, ?_⟩
  show gz gPP gGG gcn _ _ 7 [some (.ref a), some (.int (zi f)), some (.int (zi t)), some (.int (zi v)), none] [] hq2 _
  have sq2 : gSs rT 1027 ty [64999] h hq2 := gSs.tr hS xq2 (by decide)
  have pr3 := gRow.fr xq2.2 (by decide) hyf64
  refine gz_s 2 (pc' := 10) (L' := [some (.ref a), some (.int (zi f)), some (.int (zi t)), some (.int (zi v)), some (.int (zi f))]) (S' := []) rfl ?_
  have hcr5 : gCr ty cf f f v hq2 := ⟨cf, pr3, gCm.zero⟩
  have lp4 : ∀ (fu : Nat) (h6 : gH) (k : Int), (65 - k).toNat < fu → gSs rT 1027 ty [64999] h h6 → (0 ≤ k ∧ k ≤ 64) → (f ≤ k) → (k ≤ t) → (∀ j : Int, f ≤ j → j < t → v + 1 ≤ gcr (cf j.toNat)) → gCr ty cf f k v h6 → gz gPP gGG gcn (d + 1) gt63 10 [some (.ref a), some (.int (zi f)), some (.int (zi t)), some (.int (zi v)), some (.int (zi k))] [] h6 (fun q _ => gSs rT 1027 ty [64999] h q.2.2 ∧ gfin gt63 q.1 q.2.1 = some none ∧ (gCr ty cf f t v q.2.2)) := by
    intro fu
    induction fu with
    | zero => intro h6 k hm; exact absurd hm (Nat.not_lt_zero _)
    | succ fu ihlp4 =>
      intro h6 k lp4m sh6 lp4f0 lp4f1 lp4f2 lp4k0 lp4k1
      refine gz_s 2 (pc' := 13) (L' := [some (.ref a), some (.int (zi f)), some (.int (zi t)), some (.int (zi v)), some (.int (zi k))]) (S' := [.int (zi t), .int (zi k)]) rfl ?_
      by_cases hc7 : (t : Int) ≤ k
      · refine gy_icT (pc' := 27) rfl (by decide) (by decide) (by omega) (by omega) hc7 ?_
        have hcr8 : gCr ty cf f t v h6 := by
          have e9 := lp4k1
          rw [(by omega : k = t)] at e9
          exact e9
        exact gz_end (I := .return_) (len := 1) rfl (Or.inl rfl) ⟨sh6, rfl, hcr8⟩
      · refine gy_icF rfl (by decide) (by decide) (by omega) (by omega) hc7 ?_
        refine gz_s 3 (pc' := 20) (L' := [some (.ref a), some (.int (zi f)), some (.int (zi t)), some (.int (zi v)), some (.int (zi k))]) (S' := [.int (zi v), .int (zi k), .ref a]) rfl ?_
        obtain ⟨c2, rc2, hcm⟩ := lp4k1
        have hl9 : 64 ≤ h6.2.2.2.1 a ∧ h6.2.2.2.1 a ≤ 64 := gJ.rowl (G := gGG) sh6.1 ta rfl
        refine gs_ast rfl (by decide) sh6 ta rfl rfl rfl (by decide) (fun _ => rfl) (by omega) (by omega) (fun _ => (by decide : (64999 : Nat) ∈ ([64999] : List Nat))) (by omega) (by omega) (fun h10 sh10 eh10 fh10 => ?_)
        have pr11 := gRow.put (i := k) (z := v) uq ta (by decide) fh10 eh10 (by omega) (by omega) rc2
        have pr12 := gEl.set (i := k) (z := v) uq ta (by decide) eh10 (by omega) (by omega)
        have e7 := lp4k0 k (by omega) (by omega)
        have hcr13 : gCr ty cf f (k + 1) v h10 := ⟨_, pr11, hcm.step (by omega) (by omega) e7 (by omega)⟩
        refine gy_s 2 (pc' := 10) (L' := [some (.ref a), some (.int (zi f)), some (.int (zi t)), some (.int (zi v)), some (.int ((zi k) + zi 1))]) (S' := []) (L2 := [some (.ref a), some (.int (zi f)), some (.int (zi t)), some (.int (zi v)), some (.int (zi (k + 1)))]) (S2 := []) rfl (by simp only [zi_add, zi_sub, zi_mul, zi_neg, zi_and1, zi_and7, zi_and15, zi_and31, zi_and255]) (by simp only [zi_add, zi_sub, zi_mul, zi_neg, zi_and1, zi_and7, zi_and15, zi_and31, zi_and255]) ?_
        exact gz_wk (ihlp4 h10 (k + 1) (by omega) sh10 (by omega) (by omega) (by omega) lp4k0 hcr13) (gLw.s (gLw.s (gLw.s (gLw.s (gLw.s gLw.z)))))
  exact gz_wk (lp4 _ hq2 f (Nat.lt_succ_self _) sq2 (by omega) (by omega) (by omega) hyce2 hcr5) (gLw.s (gLw.s (gLw.s (gLw.s (gLw.s gLw.z)))))
set_option maxRecDepth 20000 in
set_option maxHeartbeats 4000000 in
theorem cl_Draft_tellScan (d : Nat) {ty : Nat → Nat} {h : gH} (hJ : gJ rT 1027 ty h) (x : Nat) (tx : ty x = 55) (a : Int) (ra : (-2147483648) ≤ a ∧ a ≤ 2147483647) (b : Int) (rb : (-2147483648) ≤ b ∧ b ≤ 2147483647) (t : Int) (rt : (-2147483648) ≤ t ∧ t ≤ 2147483647) (n0 : Int) (en0 : h.2.2.2.2 x 8 = .int (zi n0)) (rn0 : 0 ≤ n0 ∧ n0 ≤ 10) (f : Nat → Int) (uq : gUq ty) (hytc : gTc ty n0 h) (hyf64 : gRow ty 64 f h) : gz gPP gGG gcn (d + 2) gt62 0 (gent [.ref x, .int (zi a), .int (zi b), .int (zi t)] 8) [] h (fun q _ => gSs rT 1027 ty [55008, 60999, 61999, 62999, 63999, 64999] h q.2.2 ∧ ∃ z n1 : Int, gfin gt62 q.1 q.2.1 = some (some (.int (zi z))) ∧ 0 ≤ z ∧ z ≤ 10 ∧ q.2.2.2.2.2.2 x 8 = .int (zi n1) ∧ 0 ≤ n1 ∧ n1 ≤ 10 ∧ (gTc ty n1 q.2.2) ∧ (gSz f n0 a b t z n1) ∧ (gSx ty 64 f n0 a b t q.2.2)) := by
  have hS : gSs rT 1027 ty [55008, 60999, 61999, 62999, 63999, 64999] h h := gSs.rf hJ
  have hts0 := hytc
  obtain ⟨tf, tt, cf, rf, rt, rc, tle, tsm⟩ := hts0
  obtain ⟨c1, ec1, tc1⟩ := gJ.ref (k := 9) (G := gGG) hS.1 tx rfl rfl rfl
  have ecf : gEq 64 cf f := gRow.eqv rc hyf64 tc1
  refine gz_s 1 (pc' := 1) (L' := [some (.ref x), some (.int (zi a)), some (.int (zi b)), some (.int (zi t)), none, none, none, none]) (S' := [.int (zi a)]) rfl ?_
  have jn2 : ∀ (jn2v0 : Int), ((0 ≤ jn2v0) ∧ (jn2v0 ≤ 1) ∧ (jn2v0 = 1 ↔ (a = 0 ∧ b = 0))) → gz gPP gGG gcn (d + 2) gt62 13 [some (.ref x), some (.int (zi a)), some (.int (zi b)), some (.int (zi t)), none, none, none, none] [.int (zi jn2v0)] h (fun q _ => gSs rT 1027 ty [55008, 60999, 61999, 62999, 63999, 64999] h q.2.2 ∧ ∃ z n1 : Int, gfin gt62 q.1 q.2.1 = some (some (.int (zi z))) ∧ 0 ≤ z ∧ z ≤ 10 ∧ q.2.2.2.2.2.2 x 8 = .int (zi n1) ∧ 0 ≤ n1 ∧ n1 ≤ 10 ∧ (gTc ty n1 q.2.2) ∧ (gSz f n0 a b t z n1) ∧ (gSx ty 64 f n0 a b t q.2.2)) := by
    intro jn2v0 jn2d
    refine gz_s 3 (pc' := 17) (L' := [some (.ref x), some (.int (zi a)), some (.int (zi b)), some (.int (zi t)), some (.int (zi jn2v0)), none, none, none]) (S' := [.int (zi 1), .int (zi a)]) rfl ?_
    have jn3 : ∀ (jn3v0 : Int), ((0 ≤ jn3v0) ∧ (jn3v0 ≤ 1) ∧ (jn3v0 = 1 ↔ (1 ≤ a ∧ a ≤ b ∧ b ≤ 63 ∧ 0 ≤ cf (0 : Int).toNat))) → gz gPP gGG gcn (d + 2) gt62 45 [some (.ref x), some (.int (zi a)), some (.int (zi b)), some (.int (zi t)), some (.int (zi jn2v0)), none, none, none] [.int (zi jn3v0)] h (fun q _ => gSs rT 1027 ty [55008, 60999, 61999, 62999, 63999, 64999] h q.2.2 ∧ ∃ z n1 : Int, gfin gt62 q.1 q.2.1 = some (some (.int (zi z))) ∧ 0 ≤ z ∧ z ≤ 10 ∧ q.2.2.2.2.2.2 x 8 = .int (zi n1) ∧ 0 ≤ n1 ∧ n1 ≤ 10 ∧ (gTc ty n1 q.2.2) ∧ (gSz f n0 a b t z n1) ∧ (gSx ty 64 f n0 a b t q.2.2)) := by
      intro jn3v0 jn3d
      refine gz_s 2 (pc' := 49) (L' := [some (.ref x), some (.int (zi a)), some (.int (zi b)), some (.int (zi t)), some (.int (zi jn2v0)), some (.int (zi jn3v0)), none, none]) (S' := [.int (zi jn2v0)]) rfl ?_
      by_cases hc4 : ¬ (jn2v0 : Int) = 0
      · refine gy_ifT (pc' := 57) rfl (by decide) (by decide) (by omega) hc4 ?_
        refine gz_s 1 (pc' := 58) (L' := [some (.ref x), some (.int (zi a)), some (.int (zi b)), some (.int (zi t)), some (.int (zi jn2v0)), some (.int (zi jn3v0)), none, none]) (S' := [.int (zi t)]) rfl ?_
        by_cases hc5 : (t : Int) < 0
        · refine gy_ifT (pc' := 75) rfl (by decide) (by decide) (by omega) hc5 ?_
          refine gz_s 1 (pc' := 76) (L' := [some (.ref x), some (.int (zi a)), some (.int (zi b)), some (.int (zi t)), some (.int (zi jn2v0)), some (.int (zi jn3v0)), none, none]) (S' := [.int (zi 0)]) rfl ?_
          have hsk6 : ¬ gSk cf n0 a b t := fun w => by obtain ⟨w1, w2, w3, w4, w5⟩ := w; omega
          have hsz7 : gSz f n0 a b t 0 n0 := gSz.no ecf hsk6 (by omega) (by omega)
          have hsx8 : gSx ty 64 f n0 a b t h := gSx.no ecf rc hsk6
          exact gz_end (I := .ireturn) (len := 1) rfl (Or.inl rfl) ⟨hS, 0, n0, rfl, (by omega), (by omega), en0, (by omega), (by omega), hytc, hsz7, hsx8⟩
        · refine gy_ifF rfl (by decide) (by decide) (by omega) hc5 ?_
          refine gz_s 2 (pc' := 63) (L' := [some (.ref x), some (.int (zi a)), some (.int (zi b)), some (.int (zi t)), some (.int (zi jn2v0)), some (.int (zi jn3v0)), none, none]) (S' := [.int (zi 3), .int (zi t)]) rfl ?_
          by_cases hc9 : (3 : Int) < t
          · refine gy_icT (pc' := 75) rfl (by decide) (by decide) (by omega) (by omega) hc9 ?_
            refine gz_s 1 (pc' := 76) (L' := [some (.ref x), some (.int (zi a)), some (.int (zi b)), some (.int (zi t)), some (.int (zi jn2v0)), some (.int (zi jn3v0)), none, none]) (S' := [.int (zi 0)]) rfl ?_
            have hsk10 : ¬ gSk cf n0 a b t := fun w => by obtain ⟨w1, w2, w3, w4, w5⟩ := w; omega
            have hsz11 : gSz f n0 a b t 0 n0 := gSz.no ecf hsk10 (by omega) (by omega)
            have hsx12 : gSx ty 64 f n0 a b t h := gSx.no ecf rc hsk10
            exact gz_end (I := .ireturn) (len := 1) rfl (Or.inl rfl) ⟨hS, 0, n0, rfl, (by omega), (by omega), en0, (by omega), (by omega), hytc, hsz11, hsx12⟩
          · refine gy_icF rfl (by decide) (by decide) (by omega) (by omega) hc9 ?_
            refine gz_s 1 (pc' := 67) (L' := [some (.ref x), some (.int (zi a)), some (.int (zi b)), some (.int (zi t)), some (.int (zi jn2v0)), some (.int (zi jn3v0)), none, none]) (S' := [.ref x]) rfl ?_
            refine gs_gtk rfl (by decide) rfl hS.1 tx rfl rfl en0 ?_
            refine gz_s 1 (pc' := 72) (L' := [some (.ref x), some (.int (zi a)), some (.int (zi b)), some (.int (zi t)), some (.int (zi jn2v0)), some (.int (zi jn3v0)), none, none]) (S' := [.int (zi 10), .int (zi n0)]) rfl ?_
            by_cases hc13 : (n0 : Int) < 10
            · refine gy_icT (pc' := 77) rfl (by decide) (by decide) (by omega) (by omega) hc13 ?_
              refine gz_s 1 (pc' := 78) (L' := [some (.ref x), some (.int (zi a)), some (.int (zi b)), some (.int (zi t)), some (.int (zi jn2v0)), some (.int (zi jn3v0)), none, none]) (S' := [.ref x]) rfl ?_
              refine gs_gtk rfl (by decide) rfl hS.1 tx rfl rfl ec1 ?_
              refine gz_s 1 (pc' := 82) (L' := [some (.ref x), some (.int (zi a)), some (.int (zi b)), some (.int (zi t)), some (.int (zi jn2v0)), some (.int (zi jn3v0)), none, none]) (S' := [.int (zi a), .ref c1]) rfl ?_
              have hl14 : 64 ≤ h.2.2.2.1 c1 ∧ h.2.2.2.1 c1 ≤ 64 := gJ.rowl (G := gGG) hS.1 tc1 rfl
              refine gs_ald rfl (by decide) hS.1 tc1 rfl rfl rfl (by decide) (fun _ => rfl) (by omega) (by omega) (fun z15 ez15 az15 bz15 => ?_)
              have hf16 := gRow.at (i := a) (z := z15) rc tc1 ez15 (by omega) (by omega) (by omega)
              refine gz_s 3 (pc' := 88) (L' := [some (.ref x), some (.int (zi a)), some (.int (zi b)), some (.int (zi t)), some (.int (zi jn2v0)), some (.int (zi jn3v0)), some (.int (zi z15)), none]) (S' := [.int (zi (-1)), .int (zi z15)]) rfl ?_
              by_cases hc17 : (z15 : Int) = (-1)
              · refine gy_icT (pc' := 101) rfl (by decide) (by decide) (by omega) (by omega) hc17 ?_
                refine gz_s 2 (pc' := 104) (L' := [some (.ref x), some (.int (zi a)), some (.int (zi b)), some (.int (zi t)), some (.int (zi jn2v0)), some (.int (zi jn3v0)), some (.int (zi z15)), some (.int (zi a))]) (S' := []) rfl ?_
                have lp18 : ∀ (fu : Nat) (h19 : gH) (k : Int), (65 - k).toNat < fu → gSs rT 1027 ty [55008, 60999, 61999, 62999, 63999, 64999] h h19 → (0 ≤ k ∧ k ≤ 64) → (a ≤ k) → (k ≤ b + 1) → (0 ≤ a) → (a ≤ b) → (b ≤ 63) → (0 ≤ t) → (t ≤ 3) → (z15 = -1 ∨ z15 = t + 1) → h19.2.2.2.2 x 8 = .int (zi n0) → h19.2.2.2.2 x 9 = .ref c1 → gTc ty n0 h19 → gRow ty 64 cf h19 → gRow ty 60 tf h19 → gRow ty 61 tt h19 → (∀ j : Int, a ≤ j → j < k → cf j.toNat = cf a.toNat) → gz gPP gGG gcn (d + 2) gt62 104 [some (.ref x), some (.int (zi a)), some (.int (zi b)), some (.int (zi t)), some (.int (zi jn2v0)), some (.int (zi jn3v0)), some (.int (zi z15)), some (.int (zi k))] [] h19 (fun q _ => gSs rT 1027 ty [55008, 60999, 61999, 62999, 63999, 64999] h q.2.2 ∧ ∃ z n1 : Int, gfin gt62 q.1 q.2.1 = some (some (.int (zi z))) ∧ 0 ≤ z ∧ z ≤ 10 ∧ q.2.2.2.2.2.2 x 8 = .int (zi n1) ∧ 0 ≤ n1 ∧ n1 ≤ 10 ∧ (gTc ty n1 q.2.2) ∧ (gSz f n0 a b t z n1) ∧ (gSx ty 64 f n0 a b t q.2.2)) := by
                  intro fu
                  induction fu with
                  | zero => intro h19 k hm; exact absurd hm (Nat.not_lt_zero _)
                  | succ fu ihlp18 =>
                    intro h19 k lp18m sh19 lp18f0 lp18f1 lp18f2 lp18f3 lp18f4 lp18f5 lp18f6 lp18f7 lp18f8 lp18k0 lp18k1 lp18k2 lp18k3 lp18k4 lp18k5 lp18k6
                    refine gz_s 2 (pc' := 107) (L' := [some (.ref x), some (.int (zi a)), some (.int (zi b)), some (.int (zi t)), some (.int (zi jn2v0)), some (.int (zi jn3v0)), some (.int (zi z15)), some (.int (zi k))]) (S' := [.int (zi b), .int (zi k)]) rfl ?_
                    by_cases hc20 : (b : Int) < k
                    · refine gy_icT (pc' := 130) rfl (by decide) (by decide) (by omega) (by omega) hc20 ?_
                      have hce21 : ∀ j : Int, a ≤ j → j < b + 1 → t + 1 ≤ gcr (cf j.toNat) := fun j h1 h2 => by
                        rw [lp18k6 j h1 (by omega)]
                        unfold gcr
                        split <;> omega
                      refine gz_s 1 (pc' := 131) (L' := [some (.ref x), some (.int (zi a)), some (.int (zi b)), some (.int (zi t)), some (.int (zi jn2v0)), some (.int (zi jn3v0)), some (.int (zi z15)), some (.int (zi k))]) (S' := [.ref x]) rfl ?_
                      refine gs_gtk rfl (by decide) rfl sh19.1 tx rfl rfl lp18k1 ?_
                      refine gy_s 5 (pc' := 139) (L' := [some (.ref x), some (.int (zi a)), some (.int (zi b)), some (.int (zi t)), some (.int (zi jn2v0)), some (.int (zi jn3v0)), some (.int (zi z15)), some (.int (zi k))]) (S' := [.int (zi t), .int ((zi b) + (zi 1)), .int (zi a), .ref c1]) (L2 := [some (.ref x), some (.int (zi a)), some (.int (zi b)), some (.int (zi t)), some (.int (zi jn2v0)), some (.int (zi jn3v0)), some (.int (zi z15)), some (.int (zi k))]) (S2 := [.int (zi t), .int (zi (b + 1)), .int (zi a), .ref c1]) rfl (by simp only [zi_add, zi_sub, zi_mul, zi_neg, zi_and1, zi_and7, zi_and15, zi_and31, zi_and255]) (by simp only [zi_add, zi_sub, zi_mul, zi_neg, zi_and1, zi_and7, zi_and15, zi_and31, zi_and255]) ?_
                      refine gz_call rfl (by decide) rfl (by decide) (by decide) (gcal_of rfl rfl rfl (Nat.le_of_ble_eq_true rfl) rfl) (cl_fill_range _ sh19.1 c1 tc1 a (by omega) (b + 1) (by omega) t (by omega) cf (by omega) uq lp18k3 hce21) (fun q22 _ wq22 => ?_)
                      obtain ⟨pq22, oq22, hq22⟩ := q22
                      obtain ⟨xq22, gq22, yq22_0⟩ := wq22
                      refine ⟨_, gq22, ?_⟩
                      show gz gPP gGG gcn _ _ 142 [some (.ref x), some (.int (zi a)), some (.int (zi b)), some (.int (zi t)), some (.int (zi jn2v0)), some (.int (zi jn3v0)), some (.int (zi z15)), some (.int (zi k))] [] hq22 _
                      have sq22 : gSs rT 1027 ty [55008, 60999, 61999, 62999, 63999, 64999] h hq22 := gSs.tr sh19 xq22 (by decide)
                      have s23 := (xq22.2.2.2.2.2 x 8 (by rw [tx]; decide)).trans lp18k0
                      have s24 := (xq22.2.2.2.2.2 x 9 (by rw [tx]; decide)).trans lp18k1
                      have pr25 := gRow.fr xq22.2 (by decide) lp18k4
                      have pr26 := gRow.fr xq22.2 (by decide) lp18k5
                      refine gz_s 1 (pc' := 143) (L' := [some (.ref x), some (.int (zi a)), some (.int (zi b)), some (.int (zi t)), some (.int (zi jn2v0)), some (.int (zi jn3v0)), some (.int (zi z15)), some (.int (zi k))]) (S' := [.ref x]) rfl ?_
                      refine gs_gtr rfl (by decide) rfl sq22.1 tx rfl rfl rfl (fun c27 ec27 tc27 => ?_)
                      refine gz_s 1 (pc' := 147) (L' := [some (.ref x), some (.int (zi a)), some (.int (zi b)), some (.int (zi t)), some (.int (zi jn2v0)), some (.int (zi jn3v0)), some (.int (zi z15)), some (.int (zi k))]) (S' := [.ref x, .ref c27]) rfl ?_
                      refine gs_gtk rfl (by decide) rfl sq22.1 tx rfl rfl s23 ?_
                      refine gz_s 1 (pc' := 151) (L' := [some (.ref x), some (.int (zi a)), some (.int (zi b)), some (.int (zi t)), some (.int (zi jn2v0)), some (.int (zi jn3v0)), some (.int (zi z15)), some (.int (zi k))]) (S' := [.int (zi a), .int (zi n0), .ref c27]) rfl ?_
                      have hl28 : 10 ≤ hq22.2.2.2.1 c27 ∧ hq22.2.2.2.1 c27 ≤ 10 := gJ.rowl (G := gGG) sq22.1 tc27 rfl
                      refine gs_ast rfl (by decide) sq22 tc27 rfl rfl rfl (by decide) (fun _ => rfl) (by omega) (by omega) (fun _ => (by decide : (60999 : Nat) ∈ ([55008, 60999, 61999, 62999, 63999, 64999] : List Nat))) (by omega) (by omega) (fun h29 sh29 eh29 fh29 => ?_)
                      have pr30 := gRow.put (i := n0) (z := a) uq tc27 (by decide) fh29 eh29 (by omega) (by omega) pr25
                      have pr31 := gRow.pt fh29 tc27 (by decide) pr26
                      have pr32 := gCr.pt fh29 tc27 (by decide) yq22_0
                      have s33 := (fh29 x 8 (fun q => absurd (((tx).symm.trans (congrArg ty q.1)).trans tc27) (by decide))).trans s23
                      have s34 := (fh29 x 9 (fun q => absurd (((tx).symm.trans (congrArg ty q.1)).trans tc27) (by decide))).trans s24
                      have s35 := (fh29 x 4 (fun q => absurd (((tx).symm.trans (congrArg ty q.1)).trans tc27) (by decide))).trans ec27
                      have pr36 := gEl.set (i := n0) (z := a) uq tc27 (by decide) eh29 (by omega) (by omega)
                      refine gz_s 1 (pc' := 153) (L' := [some (.ref x), some (.int (zi a)), some (.int (zi b)), some (.int (zi t)), some (.int (zi jn2v0)), some (.int (zi jn3v0)), some (.int (zi z15)), some (.int (zi k))]) (S' := [.ref x]) rfl ?_
                      refine gs_gtr rfl (by decide) rfl sh29.1 tx rfl rfl rfl (fun c37 ec37 tc37 => ?_)
                      refine gz_s 1 (pc' := 157) (L' := [some (.ref x), some (.int (zi a)), some (.int (zi b)), some (.int (zi t)), some (.int (zi jn2v0)), some (.int (zi jn3v0)), some (.int (zi z15)), some (.int (zi k))]) (S' := [.ref x, .ref c37]) rfl ?_
                      refine gs_gtk rfl (by decide) rfl sh29.1 tx rfl rfl s33 ?_
                      refine gz_s 1 (pc' := 161) (L' := [some (.ref x), some (.int (zi a)), some (.int (zi b)), some (.int (zi t)), some (.int (zi jn2v0)), some (.int (zi jn3v0)), some (.int (zi z15)), some (.int (zi k))]) (S' := [.int (zi b), .int (zi n0), .ref c37]) rfl ?_
                      have hl38 : 10 ≤ h29.2.2.2.1 c37 ∧ h29.2.2.2.1 c37 ≤ 10 := gJ.rowl (G := gGG) sh29.1 tc37 rfl
                      refine gs_ast rfl (by decide) sh29 tc37 rfl rfl rfl (by decide) (fun _ => rfl) (by omega) (by omega) (fun _ => (by decide : (61999 : Nat) ∈ ([55008, 60999, 61999, 62999, 63999, 64999] : List Nat))) (by omega) (by omega) (fun h39 sh39 eh39 fh39 => ?_)
                      have pr40 := gRow.pt fh39 tc37 (by decide) pr30
                      have pr41 := gRow.put (i := n0) (z := b) uq tc37 (by decide) fh39 eh39 (by omega) (by omega) pr31
                      have pr42 := gCr.pt fh39 tc37 (by decide) pr32
                      have pr43 := gEl.pt fh39 tc37 (by decide) pr36
                      have s44 := (fh39 x 8 (fun q => absurd (((tx).symm.trans (congrArg ty q.1)).trans tc37) (by decide))).trans s33
                      have s45 := (fh39 x 9 (fun q => absurd (((tx).symm.trans (congrArg ty q.1)).trans tc37) (by decide))).trans s34
                      have s46 := (fh39 x 4 (fun q => absurd (((tx).symm.trans (congrArg ty q.1)).trans tc37) (by decide))).trans s35
                      have s47 := (fh39 x 5 (fun q => absurd (((tx).symm.trans (congrArg ty q.1)).trans tc37) (by decide))).trans ec37
                      have pr48 := gEl.set (i := n0) (z := b) uq tc37 (by decide) eh39 (by omega) (by omega)
                      refine gz_s 1 (pc' := 163) (L' := [some (.ref x), some (.int (zi a)), some (.int (zi b)), some (.int (zi t)), some (.int (zi jn2v0)), some (.int (zi jn3v0)), some (.int (zi z15)), some (.int (zi k))]) (S' := [.ref x]) rfl ?_
                      refine gs_gtr rfl (by decide) rfl sh39.1 tx rfl rfl rfl (fun c49 ec49 tc49 => ?_)
                      refine gz_s 1 (pc' := 167) (L' := [some (.ref x), some (.int (zi a)), some (.int (zi b)), some (.int (zi t)), some (.int (zi jn2v0)), some (.int (zi jn3v0)), some (.int (zi z15)), some (.int (zi k))]) (S' := [.ref x, .ref c49]) rfl ?_
                      refine gs_gtk rfl (by decide) rfl sh39.1 tx rfl rfl s44 ?_
                      refine gz_s 2 (pc' := 173) (L' := [some (.ref x), some (.int (zi a)), some (.int (zi b)), some (.int (zi t)), some (.int (zi jn2v0)), some (.int (zi jn3v0)), some (.int (zi z15)), some (.int (zi k))]) (S' := [.int (zi z15), .int (zi 0), .int (zi n0), .ref c49]) rfl ?_
                      refine gz_call rfl (by decide) rfl (by decide) (by decide) (gcal_of rfl rfl rfl (Nat.le_of_ble_eq_true rfl) rfl) (cl_Math_max _ sh39.1 0 (by omega) z15 (by omega) ) (fun q50 _ wq50 => ?_)
                      obtain ⟨pq50, oq50, hq50⟩ := q50
                      obtain ⟨xq50, zq50, gq50, aq50, bq50, uq50_0, uq50_1, uq50_2⟩ := wq50
                      refine ⟨_, gq50, ?_⟩
                      show gz gPP gGG gcn _ _ 176 [some (.ref x), some (.int (zi a)), some (.int (zi b)), some (.int (zi t)), some (.int (zi jn2v0)), some (.int (zi jn3v0)), some (.int (zi z15)), some (.int (zi k))] [.int (zi zq50), .int (zi n0), .ref c49] hq50 _
                      have sq50 : gSs rT 1027 ty [55008, 60999, 61999, 62999, 63999, 64999] h hq50 := gSs.tr sh39 xq50 (by decide)
                      have s51 := (xq50.2.2.2.2.2 x 8 (by rw [tx]; decide)).trans s44
                      have s52 := (xq50.2.2.2.2.2 x 9 (by rw [tx]; decide)).trans s45
                      have s53 := (xq50.2.2.2.2.2 x 4 (by rw [tx]; decide)).trans s46
                      have s54 := (xq50.2.2.2.2.2 x 5 (by rw [tx]; decide)).trans s47
                      have s55 := (xq50.2.2.2.2.2 x 6 (by rw [tx]; decide)).trans ec49
                      have pr56 := gRow.fr xq50.2 (by decide) pr40
                      have pr57 := gRow.fr xq50.2 (by decide) pr41
                      have pr58 := gCr.fr xq50.2 (by decide) pr42
                      have pr59 := gEl.fr xq50.2 (by decide) (fun _ => rfl) pr43
                      have pr60 := gEl.fr xq50.2 (by decide) (fun _ => rfl) pr48
                      have hl61 : 10 ≤ hq50.2.2.2.1 c49 ∧ hq50.2.2.2.1 c49 ≤ 10 := gJ.rowl (G := gGG) sq50.1 tc49 rfl
                      refine gs_ast rfl (by decide) sq50 tc49 rfl rfl rfl (by decide) (fun _ => rfl) (by omega) (by omega) (fun _ => (by decide : (62999 : Nat) ∈ ([55008, 60999, 61999, 62999, 63999, 64999] : List Nat))) (by omega) (by omega) (fun h62 sh62 eh62 fh62 => ?_)
                      have pr63 := gRow.pt fh62 tc49 (by decide) pr56
                      have pr64 := gRow.pt fh62 tc49 (by decide) pr57
                      have pr65 := gCr.pt fh62 tc49 (by decide) pr58
                      have pr66 := gEl.pt fh62 tc49 (by decide) pr59
                      have pr67 := gEl.pt fh62 tc49 (by decide) pr60
                      have s68 := (fh62 x 8 (fun q => absurd (((tx).symm.trans (congrArg ty q.1)).trans tc49) (by decide))).trans s51
                      have s69 := (fh62 x 9 (fun q => absurd (((tx).symm.trans (congrArg ty q.1)).trans tc49) (by decide))).trans s52
                      have s70 := (fh62 x 4 (fun q => absurd (((tx).symm.trans (congrArg ty q.1)).trans tc49) (by decide))).trans s53
                      have s71 := (fh62 x 5 (fun q => absurd (((tx).symm.trans (congrArg ty q.1)).trans tc49) (by decide))).trans s54
                      have s72 := (fh62 x 6 (fun q => absurd (((tx).symm.trans (congrArg ty q.1)).trans tc49) (by decide))).trans s55
                      have pr73 := gEl.set (i := n0) (z := zq50) uq tc49 (by decide) eh62 (by omega) (by omega)
                      refine gz_s 1 (pc' := 178) (L' := [some (.ref x), some (.int (zi a)), some (.int (zi b)), some (.int (zi t)), some (.int (zi jn2v0)), some (.int (zi jn3v0)), some (.int (zi z15)), some (.int (zi k))]) (S' := [.ref x]) rfl ?_
                      refine gs_gtr rfl (by decide) rfl sh62.1 tx rfl rfl rfl (fun c74 ec74 tc74 => ?_)
                      refine gz_s 1 (pc' := 182) (L' := [some (.ref x), some (.int (zi a)), some (.int (zi b)), some (.int (zi t)), some (.int (zi jn2v0)), some (.int (zi jn3v0)), some (.int (zi z15)), some (.int (zi k))]) (S' := [.ref x, .ref c74]) rfl ?_
                      refine gs_gtk rfl (by decide) rfl sh62.1 tx rfl rfl s68 ?_
                      refine gz_s 1 (pc' := 186) (L' := [some (.ref x), some (.int (zi a)), some (.int (zi b)), some (.int (zi t)), some (.int (zi jn2v0)), some (.int (zi jn3v0)), some (.int (zi z15)), some (.int (zi k))]) (S' := [.int (zi t), .int (zi n0), .ref c74]) rfl ?_
                      have hl75 : 10 ≤ h62.2.2.2.1 c74 ∧ h62.2.2.2.1 c74 ≤ 10 := gJ.rowl (G := gGG) sh62.1 tc74 rfl
                      refine gs_ast rfl (by decide) sh62 tc74 rfl rfl rfl (by decide) (fun _ => rfl) (by omega) (by omega) (fun _ => (by decide : (63999 : Nat) ∈ ([55008, 60999, 61999, 62999, 63999, 64999] : List Nat))) (by omega) (by omega) (fun h76 sh76 eh76 fh76 => ?_)
                      have pr77 := gRow.pt fh76 tc74 (by decide) pr63
                      have pr78 := gRow.pt fh76 tc74 (by decide) pr64
                      have pr79 := gCr.pt fh76 tc74 (by decide) pr65
                      have pr80 := gEl.pt fh76 tc74 (by decide) pr66
                      have pr81 := gEl.pt fh76 tc74 (by decide) pr67
                      have pr82 := gEl.pt fh76 tc74 (by decide) pr73
                      have s83 := (fh76 x 8 (fun q => absurd (((tx).symm.trans (congrArg ty q.1)).trans tc74) (by decide))).trans s68
                      have s84 := (fh76 x 9 (fun q => absurd (((tx).symm.trans (congrArg ty q.1)).trans tc74) (by decide))).trans s69
                      have s85 := (fh76 x 4 (fun q => absurd (((tx).symm.trans (congrArg ty q.1)).trans tc74) (by decide))).trans s70
                      have s86 := (fh76 x 5 (fun q => absurd (((tx).symm.trans (congrArg ty q.1)).trans tc74) (by decide))).trans s71
                      have s87 := (fh76 x 6 (fun q => absurd (((tx).symm.trans (congrArg ty q.1)).trans tc74) (by decide))).trans s72
                      have s88 := (fh76 x 7 (fun q => absurd (((tx).symm.trans (congrArg ty q.1)).trans tc74) (by decide))).trans ec74
                      have pr89 := gEl.set (i := n0) (z := t) uq tc74 (by decide) eh76 (by omega) (by omega)
                      refine gz_s 2 (pc' := 189) (L' := [some (.ref x), some (.int (zi a)), some (.int (zi b)), some (.int (zi t)), some (.int (zi jn2v0)), some (.int (zi jn3v0)), some (.int (zi z15)), some (.int (zi k))]) (S' := [.ref x, .ref x]) rfl ?_
                      refine gs_gtk rfl (by decide) rfl sh76.1 tx rfl rfl s83 ?_
                      refine gy_s 2 (pc' := 194) (L' := [some (.ref x), some (.int (zi a)), some (.int (zi b)), some (.int (zi t)), some (.int (zi jn2v0)), some (.int (zi jn3v0)), some (.int (zi z15)), some (.int (zi k))]) (S' := [.int ((zi n0) + (zi 1)), .ref x]) (L2 := [some (.ref x), some (.int (zi a)), some (.int (zi b)), some (.int (zi t)), some (.int (zi jn2v0)), some (.int (zi jn3v0)), some (.int (zi z15)), some (.int (zi k))]) (S2 := [.int (zi (n0 + 1)), .ref x]) rfl (by simp only [zi_add, zi_sub, zi_mul, zi_neg, zi_and1, zi_and7, zi_and15, zi_and31, zi_and255]) (by simp only [zi_add, zi_sub, zi_mul, zi_neg, zi_and1, zi_and7, zi_and15, zi_and31, zi_and255]) ?_
                      refine gs_put rfl (by decide) rfl sh76 tx rfl rfl rfl rfl (Or.inl rfl) (by decide) (by omega) (by omega) (fun h90 sh90 eh90 fh90 => ?_)
                      have pr91 := gRow.pt fh90 tx (by decide) pr77
                      have pr92 := gRow.pt fh90 tx (by decide) pr78
                      have pr93 := gCr.pt fh90 tx (by decide) pr79
                      have pr94 := gEl.pt fh90 tx (by decide) pr80
                      have pr95 := gEl.pt fh90 tx (by decide) pr81
                      have pr96 := gEl.pt fh90 tx (by decide) pr82
                      have pr97 := gEl.pt fh90 tx (by decide) pr89
                      have s98 := (fh90 x 9 (fun q => absurd q.2 (by decide))).trans s84
                      have s99 := (fh90 x 4 (fun q => absurd q.2 (by decide))).trans s85
                      have s100 := (fh90 x 5 (fun q => absurd q.2 (by decide))).trans s86
                      have s101 := (fh90 x 6 (fun q => absurd q.2 (by decide))).trans s87
                      have s102 := (fh90 x 7 (fun q => absurd q.2 (by decide))).trans s88
                      obtain ⟨c2, rc2, hcm⟩ := pr93
                      have hts103 : gTc ty (n0 + 1) h90 := gTc.tell (by omega) pr91 pr92 rc2 tle tsm hcm (by omega) (by omega)
                      refine gz_s 1 (pc' := 198) (L' := [some (.ref x), some (.int (zi a)), some (.int (zi b)), some (.int (zi t)), some (.int (zi jn2v0)), some (.int (zi jn3v0)), some (.int (zi z15)), some (.int (zi k))]) (S' := [.ref x]) rfl ?_
                      refine gs_gtk rfl (by decide) rfl sh90.1 tx rfl rfl eh90 ?_
                      have hsk104 : gSk cf n0 a b t := ⟨by omega, ⟨by omega, by omega⟩, by omega, by omega, fun j h1 h2 => lp18k6 j h1 (by omega)⟩
                      have hsz105 : gSz f n0 a b t (n0 + 1) (n0 + 1) := gSz.ys ecf hsk104 (by omega) (by omega)
                      have hsx106 : gSx ty 64 f n0 a b t h90 := gSx.ys ecf rc2 (by omega) (by omega) hcm hsk104
                      exact gz_end (I := .ireturn) (len := 1) rfl (Or.inl rfl) ⟨sh90, n0 + 1, n0 + 1, rfl, (by omega), (by omega), eh90, (by omega), (by omega), hts103, hsz105, hsx106⟩
                    · refine gy_icF rfl (by decide) (by decide) (by omega) (by omega) hc20 ?_
                      refine gz_s 1 (pc' := 111) (L' := [some (.ref x), some (.int (zi a)), some (.int (zi b)), some (.int (zi t)), some (.int (zi jn2v0)), some (.int (zi jn3v0)), some (.int (zi z15)), some (.int (zi k))]) (S' := [.ref x]) rfl ?_
                      refine gs_gtk rfl (by decide) rfl sh19.1 tx rfl rfl lp18k1 ?_
                      refine gz_s 1 (pc' := 116) (L' := [some (.ref x), some (.int (zi a)), some (.int (zi b)), some (.int (zi t)), some (.int (zi jn2v0)), some (.int (zi jn3v0)), some (.int (zi z15)), some (.int (zi k))]) (S' := [.int (zi k), .ref c1]) rfl ?_
                      have hl107 : 64 ≤ h19.2.2.2.1 c1 ∧ h19.2.2.2.1 c1 ≤ 64 := gJ.rowl (G := gGG) sh19.1 tc1 rfl
                      refine gs_ald rfl (by decide) sh19.1 tc1 rfl rfl rfl (by decide) (fun _ => rfl) (by omega) (by omega) (fun z108 ez108 az108 bz108 => ?_)
                      have hf109 := gRow.at (i := k) (z := z108) lp18k3 tc1 ez108 (by omega) (by omega) (by omega)
                      refine gz_s 1 (pc' := 119) (L' := [some (.ref x), some (.int (zi a)), some (.int (zi b)), some (.int (zi t)), some (.int (zi jn2v0)), some (.int (zi jn3v0)), some (.int (zi z15)), some (.int (zi k))]) (S' := [.int (zi z15), .int (zi z108)]) rfl ?_
                      by_cases hc110 : (z108 : Int) = z15
                      · refine gy_icT (pc' := 124) rfl (by decide) (by decide) (by omega) (by omega) hc110 ?_
                        have hce111 : ∀ j : Int, a ≤ j → j < k + 1 → cf j.toNat = cf a.toNat := fun j h1 h2 => by
                          by_cases e : j = k
                          · subst e; omega
                          · exact lp18k6 j h1 (by omega)
                        refine gy_s 2 (pc' := 104) (L' := [some (.ref x), some (.int (zi a)), some (.int (zi b)), some (.int (zi t)), some (.int (zi jn2v0)), some (.int (zi jn3v0)), some (.int (zi z15)), some (.int ((zi k) + zi 1))]) (S' := []) (L2 := [some (.ref x), some (.int (zi a)), some (.int (zi b)), some (.int (zi t)), some (.int (zi jn2v0)), some (.int (zi jn3v0)), some (.int (zi z15)), some (.int (zi (k + 1)))]) (S2 := []) rfl (by simp only [zi_add, zi_sub, zi_mul, zi_neg, zi_and1, zi_and7, zi_and15, zi_and31, zi_and255]) (by simp only [zi_add, zi_sub, zi_mul, zi_neg, zi_and1, zi_and7, zi_and15, zi_and31, zi_and255]) ?_
                        exact gz_wk (ihlp18 h19 (k + 1) (by omega) sh19 (by omega) (by omega) (by omega) (by omega) (by omega) (by omega) (by omega) (by omega) (by omega) lp18k0 lp18k1 lp18k2 lp18k3 lp18k4 lp18k5 hce111) (gLw.s (gLw.s (gLw.s (gLw.s (gLw.s (gLw.s (gLw.s (gLw.s gLw.z))))))))
                      · refine gy_icF rfl (by decide) (by decide) (by omega) (by omega) hc110 ?_
                        refine gz_s 1 (pc' := 123) (L' := [some (.ref x), some (.int (zi a)), some (.int (zi b)), some (.int (zi t)), some (.int (zi jn2v0)), some (.int (zi jn3v0)), some (.int (zi z15)), some (.int (zi k))]) (S' := [.int (zi 0)]) rfl ?_
                        have hsk112 : ¬ gSk cf n0 a b t := fun w => by have w5 := w.2.2.2.2 k (by omega) (by omega); omega
                        have hsz113 : gSz f n0 a b t 0 n0 := gSz.no ecf hsk112 (by omega) (by omega)
                        have hsx114 : gSx ty 64 f n0 a b t h19 := gSx.no ecf lp18k3 hsk112
                        exact gz_end (I := .ireturn) (len := 1) rfl (Or.inl rfl) ⟨sh19, 0, n0, rfl, (by omega), (by omega), lp18k0, (by omega), (by omega), lp18k2, hsz113, hsx114⟩
                exact gz_wk (lp18 _ h a (Nat.lt_succ_self _) hS (by omega) (by omega) (by omega) (by omega) (by omega) (by omega) (by omega) (by omega) (by omega) en0 ec1 hytc rc rf rt (fun j h1 h2 => absurd h2 (by omega))) (gLw.s (gLw.s (gLw.s (gLw.s (gLw.s (gLw.s (gLw.s (gLw.s gLw.z))))))))
              · refine gy_icF rfl (by decide) (by decide) (by omega) (by omega) hc17 ?_
                refine gy_s 4 (pc' := 96) (L' := [some (.ref x), some (.int (zi a)), some (.int (zi b)), some (.int (zi t)), some (.int (zi jn2v0)), some (.int (zi jn3v0)), some (.int (zi z15)), none]) (S' := [.int ((zi t) + (zi 1)), .int (zi z15)]) (L2 := [some (.ref x), some (.int (zi a)), some (.int (zi b)), some (.int (zi t)), some (.int (zi jn2v0)), some (.int (zi jn3v0)), some (.int (zi z15)), none]) (S2 := [.int (zi (t + 1)), .int (zi z15)]) rfl (by simp only [zi_add, zi_sub, zi_mul, zi_neg, zi_and1, zi_and7, zi_and15, zi_and31, zi_and255]) (by simp only [zi_add, zi_sub, zi_mul, zi_neg, zi_and1, zi_and7, zi_and15, zi_and31, zi_and255]) ?_
                by_cases hc115 : (z15 : Int) = t + 1
                · refine gy_icT (pc' := 101) rfl (by decide) (by decide) (by omega) (by omega) hc115 ?_
                  refine gz_s 2 (pc' := 104) (L' := [some (.ref x), some (.int (zi a)), some (.int (zi b)), some (.int (zi t)), some (.int (zi jn2v0)), some (.int (zi jn3v0)), some (.int (zi z15)), some (.int (zi a))]) (S' := []) rfl ?_
                  have lp116 : ∀ (fu : Nat) (h117 : gH) (k : Int), (65 - k).toNat < fu → gSs rT 1027 ty [55008, 60999, 61999, 62999, 63999, 64999] h h117 → (0 ≤ k ∧ k ≤ 64) → (a ≤ k) → (k ≤ b + 1) → (0 ≤ a) → (a ≤ b) → (b ≤ 63) → (0 ≤ t) → (t ≤ 3) → (z15 = -1 ∨ z15 = t + 1) → h117.2.2.2.2 x 8 = .int (zi n0) → h117.2.2.2.2 x 9 = .ref c1 → gTc ty n0 h117 → gRow ty 64 cf h117 → gRow ty 60 tf h117 → gRow ty 61 tt h117 → (∀ j : Int, a ≤ j → j < k → cf j.toNat = cf a.toNat) → gz gPP gGG gcn (d + 2) gt62 104 [some (.ref x), some (.int (zi a)), some (.int (zi b)), some (.int (zi t)), some (.int (zi jn2v0)), some (.int (zi jn3v0)), some (.int (zi z15)), some (.int (zi k))] [] h117 (fun q _ => gSs rT 1027 ty [55008, 60999, 61999, 62999, 63999, 64999] h q.2.2 ∧ ∃ z n1 : Int, gfin gt62 q.1 q.2.1 = some (some (.int (zi z))) ∧ 0 ≤ z ∧ z ≤ 10 ∧ q.2.2.2.2.2.2 x 8 = .int (zi n1) ∧ 0 ≤ n1 ∧ n1 ≤ 10 ∧ (gTc ty n1 q.2.2) ∧ (gSz f n0 a b t z n1) ∧ (gSx ty 64 f n0 a b t q.2.2)) := by
                    intro fu
                    induction fu with
                    | zero => intro h117 k hm; exact absurd hm (Nat.not_lt_zero _)
                    | succ fu ihlp116 =>
                      intro h117 k lp116m sh117 lp116f0 lp116f1 lp116f2 lp116f3 lp116f4 lp116f5 lp116f6 lp116f7 lp116f8 lp116k0 lp116k1 lp116k2 lp116k3 lp116k4 lp116k5 lp116k6
                      refine gz_s 2 (pc' := 107) (L' := [some (.ref x), some (.int (zi a)), some (.int (zi b)), some (.int (zi t)), some (.int (zi jn2v0)), some (.int (zi jn3v0)), some (.int (zi z15)), some (.int (zi k))]) (S' := [.int (zi b), .int (zi k)]) rfl ?_
                      by_cases hc118 : (b : Int) < k
                      · refine gy_icT (pc' := 130) rfl (by decide) (by decide) (by omega) (by omega) hc118 ?_
                        have hce119 : ∀ j : Int, a ≤ j → j < b + 1 → t + 1 ≤ gcr (cf j.toNat) := fun j h1 h2 => by
                          rw [lp116k6 j h1 (by omega)]
                          unfold gcr
                          split <;> omega
                        refine gz_s 1 (pc' := 131) (L' := [some (.ref x), some (.int (zi a)), some (.int (zi b)), some (.int (zi t)), some (.int (zi jn2v0)), some (.int (zi jn3v0)), some (.int (zi z15)), some (.int (zi k))]) (S' := [.ref x]) rfl ?_
                        refine gs_gtk rfl (by decide) rfl sh117.1 tx rfl rfl lp116k1 ?_
                        refine gy_s 5 (pc' := 139) (L' := [some (.ref x), some (.int (zi a)), some (.int (zi b)), some (.int (zi t)), some (.int (zi jn2v0)), some (.int (zi jn3v0)), some (.int (zi z15)), some (.int (zi k))]) (S' := [.int (zi t), .int ((zi b) + (zi 1)), .int (zi a), .ref c1]) (L2 := [some (.ref x), some (.int (zi a)), some (.int (zi b)), some (.int (zi t)), some (.int (zi jn2v0)), some (.int (zi jn3v0)), some (.int (zi z15)), some (.int (zi k))]) (S2 := [.int (zi t), .int (zi (b + 1)), .int (zi a), .ref c1]) rfl (by simp only [zi_add, zi_sub, zi_mul, zi_neg, zi_and1, zi_and7, zi_and15, zi_and31, zi_and255]) (by simp only [zi_add, zi_sub, zi_mul, zi_neg, zi_and1, zi_and7, zi_and15, zi_and31, zi_and255]) ?_
                        refine gz_call rfl (by decide) rfl (by decide) (by decide) (gcal_of rfl rfl rfl (Nat.le_of_ble_eq_true rfl) rfl) (cl_fill_range _ sh117.1 c1 tc1 a (by omega) (b + 1) (by omega) t (by omega) cf (by omega) uq lp116k3 hce119) (fun q120 _ wq120 => ?_)
                        obtain ⟨pq120, oq120, hq120⟩ := q120
                        obtain ⟨xq120, gq120, yq120_0⟩ := wq120
                        refine ⟨_, gq120, ?_⟩
                        show gz gPP gGG gcn _ _ 142 [some (.ref x), some (.int (zi a)), some (.int (zi b)), some (.int (zi t)), some (.int (zi jn2v0)), some (.int (zi jn3v0)), some (.int (zi z15)), some (.int (zi k))] [] hq120 _
                        have sq120 : gSs rT 1027 ty [55008, 60999, 61999, 62999, 63999, 64999] h hq120 := gSs.tr sh117 xq120 (by decide)
                        have s121 := (xq120.2.2.2.2.2 x 8 (by rw [tx]; decide)).trans lp116k0
                        have s122 := (xq120.2.2.2.2.2 x 9 (by rw [tx]; decide)).trans lp116k1
                        have pr123 := gRow.fr xq120.2 (by decide) lp116k4
                        have pr124 := gRow.fr xq120.2 (by decide) lp116k5
                        refine gz_s 1 (pc' := 143) (L' := [some (.ref x), some (.int (zi a)), some (.int (zi b)), some (.int (zi t)), some (.int (zi jn2v0)), some (.int (zi jn3v0)), some (.int (zi z15)), some (.int (zi k))]) (S' := [.ref x]) rfl ?_
                        refine gs_gtr rfl (by decide) rfl sq120.1 tx rfl rfl rfl (fun c125 ec125 tc125 => ?_)
                        refine gz_s 1 (pc' := 147) (L' := [some (.ref x), some (.int (zi a)), some (.int (zi b)), some (.int (zi t)), some (.int (zi jn2v0)), some (.int (zi jn3v0)), some (.int (zi z15)), some (.int (zi k))]) (S' := [.ref x, .ref c125]) rfl ?_
                        refine gs_gtk rfl (by decide) rfl sq120.1 tx rfl rfl s121 ?_
                        refine gz_s 1 (pc' := 151) (L' := [some (.ref x), some (.int (zi a)), some (.int (zi b)), some (.int (zi t)), some (.int (zi jn2v0)), some (.int (zi jn3v0)), some (.int (zi z15)), some (.int (zi k))]) (S' := [.int (zi a), .int (zi n0), .ref c125]) rfl ?_
                        have hl126 : 10 ≤ hq120.2.2.2.1 c125 ∧ hq120.2.2.2.1 c125 ≤ 10 := gJ.rowl (G := gGG) sq120.1 tc125 rfl
                        refine gs_ast rfl (by decide) sq120 tc125 rfl rfl rfl (by decide) (fun _ => rfl) (by omega) (by omega) (fun _ => (by decide : (60999 : Nat) ∈ ([55008, 60999, 61999, 62999, 63999, 64999] : List Nat))) (by omega) (by omega) (fun h127 sh127 eh127 fh127 => ?_)
                        have pr128 := gRow.put (i := n0) (z := a) uq tc125 (by decide) fh127 eh127 (by omega) (by omega) pr123
                        have pr129 := gRow.pt fh127 tc125 (by decide) pr124
                        have pr130 := gCr.pt fh127 tc125 (by decide) yq120_0
                        have s131 := (fh127 x 8 (fun q => absurd (((tx).symm.trans (congrArg ty q.1)).trans tc125) (by decide))).trans s121
                        have s132 := (fh127 x 9 (fun q => absurd (((tx).symm.trans (congrArg ty q.1)).trans tc125) (by decide))).trans s122
                        have s133 := (fh127 x 4 (fun q => absurd (((tx).symm.trans (congrArg ty q.1)).trans tc125) (by decide))).trans ec125
                        have pr134 := gEl.set (i := n0) (z := a) uq tc125 (by decide) eh127 (by omega) (by omega)
                        refine gz_s 1 (pc' := 153) (L' := [some (.ref x), some (.int (zi a)), some (.int (zi b)), some (.int (zi t)), some (.int (zi jn2v0)), some (.int (zi jn3v0)), some (.int (zi z15)), some (.int (zi k))]) (S' := [.ref x]) rfl ?_
                        refine gs_gtr rfl (by decide) rfl sh127.1 tx rfl rfl rfl (fun c135 ec135 tc135 => ?_)
                        refine gz_s 1 (pc' := 157) (L' := [some (.ref x), some (.int (zi a)), some (.int (zi b)), some (.int (zi t)), some (.int (zi jn2v0)), some (.int (zi jn3v0)), some (.int (zi z15)), some (.int (zi k))]) (S' := [.ref x, .ref c135]) rfl ?_
                        refine gs_gtk rfl (by decide) rfl sh127.1 tx rfl rfl s131 ?_
                        refine gz_s 1 (pc' := 161) (L' := [some (.ref x), some (.int (zi a)), some (.int (zi b)), some (.int (zi t)), some (.int (zi jn2v0)), some (.int (zi jn3v0)), some (.int (zi z15)), some (.int (zi k))]) (S' := [.int (zi b), .int (zi n0), .ref c135]) rfl ?_
                        have hl136 : 10 ≤ h127.2.2.2.1 c135 ∧ h127.2.2.2.1 c135 ≤ 10 := gJ.rowl (G := gGG) sh127.1 tc135 rfl
                        refine gs_ast rfl (by decide) sh127 tc135 rfl rfl rfl (by decide) (fun _ => rfl) (by omega) (by omega) (fun _ => (by decide : (61999 : Nat) ∈ ([55008, 60999, 61999, 62999, 63999, 64999] : List Nat))) (by omega) (by omega) (fun h137 sh137 eh137 fh137 => ?_)
                        have pr138 := gRow.pt fh137 tc135 (by decide) pr128
                        have pr139 := gRow.put (i := n0) (z := b) uq tc135 (by decide) fh137 eh137 (by omega) (by omega) pr129
                        have pr140 := gCr.pt fh137 tc135 (by decide) pr130
                        have pr141 := gEl.pt fh137 tc135 (by decide) pr134
                        have s142 := (fh137 x 8 (fun q => absurd (((tx).symm.trans (congrArg ty q.1)).trans tc135) (by decide))).trans s131
                        have s143 := (fh137 x 9 (fun q => absurd (((tx).symm.trans (congrArg ty q.1)).trans tc135) (by decide))).trans s132
                        have s144 := (fh137 x 4 (fun q => absurd (((tx).symm.trans (congrArg ty q.1)).trans tc135) (by decide))).trans s133
                        have s145 := (fh137 x 5 (fun q => absurd (((tx).symm.trans (congrArg ty q.1)).trans tc135) (by decide))).trans ec135
                        have pr146 := gEl.set (i := n0) (z := b) uq tc135 (by decide) eh137 (by omega) (by omega)
                        refine gz_s 1 (pc' := 163) (L' := [some (.ref x), some (.int (zi a)), some (.int (zi b)), some (.int (zi t)), some (.int (zi jn2v0)), some (.int (zi jn3v0)), some (.int (zi z15)), some (.int (zi k))]) (S' := [.ref x]) rfl ?_
                        refine gs_gtr rfl (by decide) rfl sh137.1 tx rfl rfl rfl (fun c147 ec147 tc147 => ?_)
                        refine gz_s 1 (pc' := 167) (L' := [some (.ref x), some (.int (zi a)), some (.int (zi b)), some (.int (zi t)), some (.int (zi jn2v0)), some (.int (zi jn3v0)), some (.int (zi z15)), some (.int (zi k))]) (S' := [.ref x, .ref c147]) rfl ?_
                        refine gs_gtk rfl (by decide) rfl sh137.1 tx rfl rfl s142 ?_
                        refine gz_s 2 (pc' := 173) (L' := [some (.ref x), some (.int (zi a)), some (.int (zi b)), some (.int (zi t)), some (.int (zi jn2v0)), some (.int (zi jn3v0)), some (.int (zi z15)), some (.int (zi k))]) (S' := [.int (zi z15), .int (zi 0), .int (zi n0), .ref c147]) rfl ?_
                        refine gz_call rfl (by decide) rfl (by decide) (by decide) (gcal_of rfl rfl rfl (Nat.le_of_ble_eq_true rfl) rfl) (cl_Math_max _ sh137.1 0 (by omega) z15 (by omega) ) (fun q148 _ wq148 => ?_)
                        obtain ⟨pq148, oq148, hq148⟩ := q148
                        obtain ⟨xq148, zq148, gq148, aq148, bq148, uq148_0, uq148_1, uq148_2⟩ := wq148
                        refine ⟨_, gq148, ?_⟩
                        show gz gPP gGG gcn _ _ 176 [some (.ref x), some (.int (zi a)), some (.int (zi b)), some (.int (zi t)), some (.int (zi jn2v0)), some (.int (zi jn3v0)), some (.int (zi z15)), some (.int (zi k))] [.int (zi zq148), .int (zi n0), .ref c147] hq148 _
                        have sq148 : gSs rT 1027 ty [55008, 60999, 61999, 62999, 63999, 64999] h hq148 := gSs.tr sh137 xq148 (by decide)
                        have s149 := (xq148.2.2.2.2.2 x 8 (by rw [tx]; decide)).trans s142
                        have s150 := (xq148.2.2.2.2.2 x 9 (by rw [tx]; decide)).trans s143
                        have s151 := (xq148.2.2.2.2.2 x 4 (by rw [tx]; decide)).trans s144
                        have s152 := (xq148.2.2.2.2.2 x 5 (by rw [tx]; decide)).trans s145
                        have s153 := (xq148.2.2.2.2.2 x 6 (by rw [tx]; decide)).trans ec147
                        have pr154 := gRow.fr xq148.2 (by decide) pr138
                        have pr155 := gRow.fr xq148.2 (by decide) pr139
                        have pr156 := gCr.fr xq148.2 (by decide) pr140
                        have pr157 := gEl.fr xq148.2 (by decide) (fun _ => rfl) pr141
                        have pr158 := gEl.fr xq148.2 (by decide) (fun _ => rfl) pr146
                        have hl159 : 10 ≤ hq148.2.2.2.1 c147 ∧ hq148.2.2.2.1 c147 ≤ 10 := gJ.rowl (G := gGG) sq148.1 tc147 rfl
                        refine gs_ast rfl (by decide) sq148 tc147 rfl rfl rfl (by decide) (fun _ => rfl) (by omega) (by omega) (fun _ => (by decide : (62999 : Nat) ∈ ([55008, 60999, 61999, 62999, 63999, 64999] : List Nat))) (by omega) (by omega) (fun h160 sh160 eh160 fh160 => ?_)
                        have pr161 := gRow.pt fh160 tc147 (by decide) pr154
                        have pr162 := gRow.pt fh160 tc147 (by decide) pr155
                        have pr163 := gCr.pt fh160 tc147 (by decide) pr156
                        have pr164 := gEl.pt fh160 tc147 (by decide) pr157
                        have pr165 := gEl.pt fh160 tc147 (by decide) pr158
                        have s166 := (fh160 x 8 (fun q => absurd (((tx).symm.trans (congrArg ty q.1)).trans tc147) (by decide))).trans s149
                        have s167 := (fh160 x 9 (fun q => absurd (((tx).symm.trans (congrArg ty q.1)).trans tc147) (by decide))).trans s150
                        have s168 := (fh160 x 4 (fun q => absurd (((tx).symm.trans (congrArg ty q.1)).trans tc147) (by decide))).trans s151
                        have s169 := (fh160 x 5 (fun q => absurd (((tx).symm.trans (congrArg ty q.1)).trans tc147) (by decide))).trans s152
                        have s170 := (fh160 x 6 (fun q => absurd (((tx).symm.trans (congrArg ty q.1)).trans tc147) (by decide))).trans s153
                        have pr171 := gEl.set (i := n0) (z := zq148) uq tc147 (by decide) eh160 (by omega) (by omega)
                        refine gz_s 1 (pc' := 178) (L' := [some (.ref x), some (.int (zi a)), some (.int (zi b)), some (.int (zi t)), some (.int (zi jn2v0)), some (.int (zi jn3v0)), some (.int (zi z15)), some (.int (zi k))]) (S' := [.ref x]) rfl ?_
                        refine gs_gtr rfl (by decide) rfl sh160.1 tx rfl rfl rfl (fun c172 ec172 tc172 => ?_)
                        refine gz_s 1 (pc' := 182) (L' := [some (.ref x), some (.int (zi a)), some (.int (zi b)), some (.int (zi t)), some (.int (zi jn2v0)), some (.int (zi jn3v0)), some (.int (zi z15)), some (.int (zi k))]) (S' := [.ref x, .ref c172]) rfl ?_
                        refine gs_gtk rfl (by decide) rfl sh160.1 tx rfl rfl s166 ?_
                        refine gz_s 1 (pc' := 186) (L' := [some (.ref x), some (.int (zi a)), some (.int (zi b)), some (.int (zi t)), some (.int (zi jn2v0)), some (.int (zi jn3v0)), some (.int (zi z15)), some (.int (zi k))]) (S' := [.int (zi t), .int (zi n0), .ref c172]) rfl ?_
                        have hl173 : 10 ≤ h160.2.2.2.1 c172 ∧ h160.2.2.2.1 c172 ≤ 10 := gJ.rowl (G := gGG) sh160.1 tc172 rfl
                        refine gs_ast rfl (by decide) sh160 tc172 rfl rfl rfl (by decide) (fun _ => rfl) (by omega) (by omega) (fun _ => (by decide : (63999 : Nat) ∈ ([55008, 60999, 61999, 62999, 63999, 64999] : List Nat))) (by omega) (by omega) (fun h174 sh174 eh174 fh174 => ?_)
                        have pr175 := gRow.pt fh174 tc172 (by decide) pr161
                        have pr176 := gRow.pt fh174 tc172 (by decide) pr162
                        have pr177 := gCr.pt fh174 tc172 (by decide) pr163
                        have pr178 := gEl.pt fh174 tc172 (by decide) pr164
                        have pr179 := gEl.pt fh174 tc172 (by decide) pr165
                        have pr180 := gEl.pt fh174 tc172 (by decide) pr171
                        have s181 := (fh174 x 8 (fun q => absurd (((tx).symm.trans (congrArg ty q.1)).trans tc172) (by decide))).trans s166
                        have s182 := (fh174 x 9 (fun q => absurd (((tx).symm.trans (congrArg ty q.1)).trans tc172) (by decide))).trans s167
                        have s183 := (fh174 x 4 (fun q => absurd (((tx).symm.trans (congrArg ty q.1)).trans tc172) (by decide))).trans s168
                        have s184 := (fh174 x 5 (fun q => absurd (((tx).symm.trans (congrArg ty q.1)).trans tc172) (by decide))).trans s169
                        have s185 := (fh174 x 6 (fun q => absurd (((tx).symm.trans (congrArg ty q.1)).trans tc172) (by decide))).trans s170
                        have s186 := (fh174 x 7 (fun q => absurd (((tx).symm.trans (congrArg ty q.1)).trans tc172) (by decide))).trans ec172
                        have pr187 := gEl.set (i := n0) (z := t) uq tc172 (by decide) eh174 (by omega) (by omega)
                        refine gz_s 2 (pc' := 189) (L' := [some (.ref x), some (.int (zi a)), some (.int (zi b)), some (.int (zi t)), some (.int (zi jn2v0)), some (.int (zi jn3v0)), some (.int (zi z15)), some (.int (zi k))]) (S' := [.ref x, .ref x]) rfl ?_
                        refine gs_gtk rfl (by decide) rfl sh174.1 tx rfl rfl s181 ?_
                        refine gy_s 2 (pc' := 194) (L' := [some (.ref x), some (.int (zi a)), some (.int (zi b)), some (.int (zi t)), some (.int (zi jn2v0)), some (.int (zi jn3v0)), some (.int (zi z15)), some (.int (zi k))]) (S' := [.int ((zi n0) + (zi 1)), .ref x]) (L2 := [some (.ref x), some (.int (zi a)), some (.int (zi b)), some (.int (zi t)), some (.int (zi jn2v0)), some (.int (zi jn3v0)), some (.int (zi z15)), some (.int (zi k))]) (S2 := [.int (zi (n0 + 1)), .ref x]) rfl (by simp only [zi_add, zi_sub, zi_mul, zi_neg, zi_and1, zi_and7, zi_and15, zi_and31, zi_and255]) (by simp only [zi_add, zi_sub, zi_mul, zi_neg, zi_and1, zi_and7, zi_and15, zi_and31, zi_and255]) ?_
                        refine gs_put rfl (by decide) rfl sh174 tx rfl rfl rfl rfl (Or.inl rfl) (by decide) (by omega) (by omega) (fun h188 sh188 eh188 fh188 => ?_)
                        have pr189 := gRow.pt fh188 tx (by decide) pr175
                        have pr190 := gRow.pt fh188 tx (by decide) pr176
                        have pr191 := gCr.pt fh188 tx (by decide) pr177
                        have pr192 := gEl.pt fh188 tx (by decide) pr178
                        have pr193 := gEl.pt fh188 tx (by decide) pr179
                        have pr194 := gEl.pt fh188 tx (by decide) pr180
                        have pr195 := gEl.pt fh188 tx (by decide) pr187
                        have s196 := (fh188 x 9 (fun q => absurd q.2 (by decide))).trans s182
                        have s197 := (fh188 x 4 (fun q => absurd q.2 (by decide))).trans s183
                        have s198 := (fh188 x 5 (fun q => absurd q.2 (by decide))).trans s184
                        have s199 := (fh188 x 6 (fun q => absurd q.2 (by decide))).trans s185
                        have s200 := (fh188 x 7 (fun q => absurd q.2 (by decide))).trans s186
                        obtain ⟨c2, rc2, hcm⟩ := pr191
                        have hts201 : gTc ty (n0 + 1) h188 := gTc.tell (by omega) pr189 pr190 rc2 tle tsm hcm (by omega) (by omega)
                        refine gz_s 1 (pc' := 198) (L' := [some (.ref x), some (.int (zi a)), some (.int (zi b)), some (.int (zi t)), some (.int (zi jn2v0)), some (.int (zi jn3v0)), some (.int (zi z15)), some (.int (zi k))]) (S' := [.ref x]) rfl ?_
                        refine gs_gtk rfl (by decide) rfl sh188.1 tx rfl rfl eh188 ?_
                        have hsk202 : gSk cf n0 a b t := ⟨by omega, ⟨by omega, by omega⟩, by omega, by omega, fun j h1 h2 => lp116k6 j h1 (by omega)⟩
                        have hsz203 : gSz f n0 a b t (n0 + 1) (n0 + 1) := gSz.ys ecf hsk202 (by omega) (by omega)
                        have hsx204 : gSx ty 64 f n0 a b t h188 := gSx.ys ecf rc2 (by omega) (by omega) hcm hsk202
                        exact gz_end (I := .ireturn) (len := 1) rfl (Or.inl rfl) ⟨sh188, n0 + 1, n0 + 1, rfl, (by omega), (by omega), eh188, (by omega), (by omega), hts201, hsz203, hsx204⟩
                      · refine gy_icF rfl (by decide) (by decide) (by omega) (by omega) hc118 ?_
                        refine gz_s 1 (pc' := 111) (L' := [some (.ref x), some (.int (zi a)), some (.int (zi b)), some (.int (zi t)), some (.int (zi jn2v0)), some (.int (zi jn3v0)), some (.int (zi z15)), some (.int (zi k))]) (S' := [.ref x]) rfl ?_
                        refine gs_gtk rfl (by decide) rfl sh117.1 tx rfl rfl lp116k1 ?_
                        refine gz_s 1 (pc' := 116) (L' := [some (.ref x), some (.int (zi a)), some (.int (zi b)), some (.int (zi t)), some (.int (zi jn2v0)), some (.int (zi jn3v0)), some (.int (zi z15)), some (.int (zi k))]) (S' := [.int (zi k), .ref c1]) rfl ?_
                        have hl205 : 64 ≤ h117.2.2.2.1 c1 ∧ h117.2.2.2.1 c1 ≤ 64 := gJ.rowl (G := gGG) sh117.1 tc1 rfl
                        refine gs_ald rfl (by decide) sh117.1 tc1 rfl rfl rfl (by decide) (fun _ => rfl) (by omega) (by omega) (fun z206 ez206 az206 bz206 => ?_)
                        have hf207 := gRow.at (i := k) (z := z206) lp116k3 tc1 ez206 (by omega) (by omega) (by omega)
                        refine gz_s 1 (pc' := 119) (L' := [some (.ref x), some (.int (zi a)), some (.int (zi b)), some (.int (zi t)), some (.int (zi jn2v0)), some (.int (zi jn3v0)), some (.int (zi z15)), some (.int (zi k))]) (S' := [.int (zi z15), .int (zi z206)]) rfl ?_
                        by_cases hc208 : (z206 : Int) = z15
                        · refine gy_icT (pc' := 124) rfl (by decide) (by decide) (by omega) (by omega) hc208 ?_
                          have hce209 : ∀ j : Int, a ≤ j → j < k + 1 → cf j.toNat = cf a.toNat := fun j h1 h2 => by
                            by_cases e : j = k
                            · subst e; omega
                            · exact lp116k6 j h1 (by omega)
                          refine gy_s 2 (pc' := 104) (L' := [some (.ref x), some (.int (zi a)), some (.int (zi b)), some (.int (zi t)), some (.int (zi jn2v0)), some (.int (zi jn3v0)), some (.int (zi z15)), some (.int ((zi k) + zi 1))]) (S' := []) (L2 := [some (.ref x), some (.int (zi a)), some (.int (zi b)), some (.int (zi t)), some (.int (zi jn2v0)), some (.int (zi jn3v0)), some (.int (zi z15)), some (.int (zi (k + 1)))]) (S2 := []) rfl (by simp only [zi_add, zi_sub, zi_mul, zi_neg, zi_and1, zi_and7, zi_and15, zi_and31, zi_and255]) (by simp only [zi_add, zi_sub, zi_mul, zi_neg, zi_and1, zi_and7, zi_and15, zi_and31, zi_and255]) ?_
                          exact gz_wk (ihlp116 h117 (k + 1) (by omega) sh117 (by omega) (by omega) (by omega) (by omega) (by omega) (by omega) (by omega) (by omega) (by omega) lp116k0 lp116k1 lp116k2 lp116k3 lp116k4 lp116k5 hce209) (gLw.s (gLw.s (gLw.s (gLw.s (gLw.s (gLw.s (gLw.s (gLw.s gLw.z))))))))
                        · refine gy_icF rfl (by decide) (by decide) (by omega) (by omega) hc208 ?_
                          refine gz_s 1 (pc' := 123) (L' := [some (.ref x), some (.int (zi a)), some (.int (zi b)), some (.int (zi t)), some (.int (zi jn2v0)), some (.int (zi jn3v0)), some (.int (zi z15)), some (.int (zi k))]) (S' := [.int (zi 0)]) rfl ?_
                          have hsk210 : ¬ gSk cf n0 a b t := fun w => by have w5 := w.2.2.2.2 k (by omega) (by omega); omega
                          have hsz211 : gSz f n0 a b t 0 n0 := gSz.no ecf hsk210 (by omega) (by omega)
                          have hsx212 : gSx ty 64 f n0 a b t h117 := gSx.no ecf lp116k3 hsk210
                          exact gz_end (I := .ireturn) (len := 1) rfl (Or.inl rfl) ⟨sh117, 0, n0, rfl, (by omega), (by omega), lp116k0, (by omega), (by omega), lp116k2, hsz211, hsx212⟩
                  exact gz_wk (lp116 _ h a (Nat.lt_succ_self _) hS (by omega) (by omega) (by omega) (by omega) (by omega) (by omega) (by omega) (by omega) (by omega) en0 ec1 hytc rc rf rt (fun j h1 h2 => absurd h2 (by omega))) (gLw.s (gLw.s (gLw.s (gLw.s (gLw.s (gLw.s (gLw.s (gLw.s gLw.z))))))))
                · refine gy_icF rfl (by decide) (by decide) (by omega) (by omega) hc115 ?_
                  refine gz_s 1 (pc' := 100) (L' := [some (.ref x), some (.int (zi a)), some (.int (zi b)), some (.int (zi t)), some (.int (zi jn2v0)), some (.int (zi jn3v0)), some (.int (zi z15)), none]) (S' := [.int (zi 0)]) rfl ?_
                  have hsk213 : ¬ gSk cf n0 a b t := fun w => by obtain ⟨w1, w2, w3, w4, w5⟩ := w; omega
                  have hsz214 : gSz f n0 a b t 0 n0 := gSz.no ecf hsk213 (by omega) (by omega)
                  have hsx215 : gSx ty 64 f n0 a b t h := gSx.no ecf rc hsk213
                  exact gz_end (I := .ireturn) (len := 1) rfl (Or.inl rfl) ⟨hS, 0, n0, rfl, (by omega), (by omega), en0, (by omega), (by omega), hytc, hsz214, hsx215⟩
            · refine gy_icF rfl (by decide) (by decide) (by omega) (by omega) hc13 ?_
              refine gz_s 1 (pc' := 76) (L' := [some (.ref x), some (.int (zi a)), some (.int (zi b)), some (.int (zi t)), some (.int (zi jn2v0)), some (.int (zi jn3v0)), none, none]) (S' := [.int (zi 0)]) rfl ?_
              have hsk216 : ¬ gSk cf n0 a b t := fun w => by obtain ⟨w1, w2, w3, w4, w5⟩ := w; omega
              have hsz217 : gSz f n0 a b t 0 n0 := gSz.no ecf hsk216 (by omega) (by omega)
              have hsx218 : gSx ty 64 f n0 a b t h := gSx.no ecf rc hsk216
              exact gz_end (I := .ireturn) (len := 1) rfl (Or.inl rfl) ⟨hS, 0, n0, rfl, (by omega), (by omega), en0, (by omega), (by omega), hytc, hsz217, hsx218⟩
      · refine gy_ifF rfl (by decide) (by decide) (by omega) hc4 ?_
        refine gz_s 1 (pc' := 54) (L' := [some (.ref x), some (.int (zi a)), some (.int (zi b)), some (.int (zi t)), some (.int (zi jn2v0)), some (.int (zi jn3v0)), none, none]) (S' := [.int (zi jn3v0)]) rfl ?_
        by_cases hc219 : (jn3v0 : Int) = 0
        · refine gy_ifT (pc' := 75) rfl (by decide) (by decide) (by omega) hc219 ?_
          refine gz_s 1 (pc' := 76) (L' := [some (.ref x), some (.int (zi a)), some (.int (zi b)), some (.int (zi t)), some (.int (zi jn2v0)), some (.int (zi jn3v0)), none, none]) (S' := [.int (zi 0)]) rfl ?_
          have hsk220 : ¬ gSk cf n0 a b t := fun w => by obtain ⟨w1, w2, w3, w4, w5⟩ := w; omega
          have hsz221 : gSz f n0 a b t 0 n0 := gSz.no ecf hsk220 (by omega) (by omega)
          have hsx222 : gSx ty 64 f n0 a b t h := gSx.no ecf rc hsk220
          exact gz_end (I := .ireturn) (len := 1) rfl (Or.inl rfl) ⟨hS, 0, n0, rfl, (by omega), (by omega), en0, (by omega), (by omega), hytc, hsz221, hsx222⟩
        · refine gy_ifF rfl (by decide) (by decide) (by omega) hc219 ?_
          refine gz_s 1 (pc' := 58) (L' := [some (.ref x), some (.int (zi a)), some (.int (zi b)), some (.int (zi t)), some (.int (zi jn2v0)), some (.int (zi jn3v0)), none, none]) (S' := [.int (zi t)]) rfl ?_
          by_cases hc223 : (t : Int) < 0
          · refine gy_ifT (pc' := 75) rfl (by decide) (by decide) (by omega) hc223 ?_
            refine gz_s 1 (pc' := 76) (L' := [some (.ref x), some (.int (zi a)), some (.int (zi b)), some (.int (zi t)), some (.int (zi jn2v0)), some (.int (zi jn3v0)), none, none]) (S' := [.int (zi 0)]) rfl ?_
            have hsk224 : ¬ gSk cf n0 a b t := fun w => by obtain ⟨w1, w2, w3, w4, w5⟩ := w; omega
            have hsz225 : gSz f n0 a b t 0 n0 := gSz.no ecf hsk224 (by omega) (by omega)
            have hsx226 : gSx ty 64 f n0 a b t h := gSx.no ecf rc hsk224
            exact gz_end (I := .ireturn) (len := 1) rfl (Or.inl rfl) ⟨hS, 0, n0, rfl, (by omega), (by omega), en0, (by omega), (by omega), hytc, hsz225, hsx226⟩
          · refine gy_ifF rfl (by decide) (by decide) (by omega) hc223 ?_
            refine gz_s 2 (pc' := 63) (L' := [some (.ref x), some (.int (zi a)), some (.int (zi b)), some (.int (zi t)), some (.int (zi jn2v0)), some (.int (zi jn3v0)), none, none]) (S' := [.int (zi 3), .int (zi t)]) rfl ?_
            by_cases hc227 : (3 : Int) < t
            · refine gy_icT (pc' := 75) rfl (by decide) (by decide) (by omega) (by omega) hc227 ?_
              refine gz_s 1 (pc' := 76) (L' := [some (.ref x), some (.int (zi a)), some (.int (zi b)), some (.int (zi t)), some (.int (zi jn2v0)), some (.int (zi jn3v0)), none, none]) (S' := [.int (zi 0)]) rfl ?_
              have hsk228 : ¬ gSk cf n0 a b t := fun w => by obtain ⟨w1, w2, w3, w4, w5⟩ := w; omega
              have hsz229 : gSz f n0 a b t 0 n0 := gSz.no ecf hsk228 (by omega) (by omega)
              have hsx230 : gSx ty 64 f n0 a b t h := gSx.no ecf rc hsk228
              exact gz_end (I := .ireturn) (len := 1) rfl (Or.inl rfl) ⟨hS, 0, n0, rfl, (by omega), (by omega), en0, (by omega), (by omega), hytc, hsz229, hsx230⟩
            · refine gy_icF rfl (by decide) (by decide) (by omega) (by omega) hc227 ?_
              refine gz_s 1 (pc' := 67) (L' := [some (.ref x), some (.int (zi a)), some (.int (zi b)), some (.int (zi t)), some (.int (zi jn2v0)), some (.int (zi jn3v0)), none, none]) (S' := [.ref x]) rfl ?_
              refine gs_gtk rfl (by decide) rfl hS.1 tx rfl rfl en0 ?_
              refine gz_s 1 (pc' := 72) (L' := [some (.ref x), some (.int (zi a)), some (.int (zi b)), some (.int (zi t)), some (.int (zi jn2v0)), some (.int (zi jn3v0)), none, none]) (S' := [.int (zi 10), .int (zi n0)]) rfl ?_
              by_cases hc231 : (n0 : Int) < 10
              · refine gy_icT (pc' := 77) rfl (by decide) (by decide) (by omega) (by omega) hc231 ?_
                refine gz_s 1 (pc' := 78) (L' := [some (.ref x), some (.int (zi a)), some (.int (zi b)), some (.int (zi t)), some (.int (zi jn2v0)), some (.int (zi jn3v0)), none, none]) (S' := [.ref x]) rfl ?_
                refine gs_gtk rfl (by decide) rfl hS.1 tx rfl rfl ec1 ?_
                refine gz_s 1 (pc' := 82) (L' := [some (.ref x), some (.int (zi a)), some (.int (zi b)), some (.int (zi t)), some (.int (zi jn2v0)), some (.int (zi jn3v0)), none, none]) (S' := [.int (zi a), .ref c1]) rfl ?_
                have hl232 : 64 ≤ h.2.2.2.1 c1 ∧ h.2.2.2.1 c1 ≤ 64 := gJ.rowl (G := gGG) hS.1 tc1 rfl
                refine gs_ald rfl (by decide) hS.1 tc1 rfl rfl rfl (by decide) (fun _ => rfl) (by omega) (by omega) (fun z233 ez233 az233 bz233 => ?_)
                have hf234 := gRow.at (i := a) (z := z233) rc tc1 ez233 (by omega) (by omega) (by omega)
                refine gz_s 3 (pc' := 88) (L' := [some (.ref x), some (.int (zi a)), some (.int (zi b)), some (.int (zi t)), some (.int (zi jn2v0)), some (.int (zi jn3v0)), some (.int (zi z233)), none]) (S' := [.int (zi (-1)), .int (zi z233)]) rfl ?_
                by_cases hc235 : (z233 : Int) = (-1)
                · refine gy_icT (pc' := 101) rfl (by decide) (by decide) (by omega) (by omega) hc235 ?_
                  refine gz_s 2 (pc' := 104) (L' := [some (.ref x), some (.int (zi a)), some (.int (zi b)), some (.int (zi t)), some (.int (zi jn2v0)), some (.int (zi jn3v0)), some (.int (zi z233)), some (.int (zi a))]) (S' := []) rfl ?_
                  have lp236 : ∀ (fu : Nat) (h237 : gH) (k : Int), (65 - k).toNat < fu → gSs rT 1027 ty [55008, 60999, 61999, 62999, 63999, 64999] h h237 → (0 ≤ k ∧ k ≤ 64) → (a ≤ k) → (k ≤ b + 1) → (0 ≤ a) → (a ≤ b) → (b ≤ 63) → (0 ≤ t) → (t ≤ 3) → (z233 = -1 ∨ z233 = t + 1) → h237.2.2.2.2 x 8 = .int (zi n0) → h237.2.2.2.2 x 9 = .ref c1 → gTc ty n0 h237 → gRow ty 64 cf h237 → gRow ty 60 tf h237 → gRow ty 61 tt h237 → (∀ j : Int, a ≤ j → j < k → cf j.toNat = cf a.toNat) → gz gPP gGG gcn (d + 2) gt62 104 [some (.ref x), some (.int (zi a)), some (.int (zi b)), some (.int (zi t)), some (.int (zi jn2v0)), some (.int (zi jn3v0)), some (.int (zi z233)), some (.int (zi k))] [] h237 (fun q _ => gSs rT 1027 ty [55008, 60999, 61999, 62999, 63999, 64999] h q.2.2 ∧ ∃ z n1 : Int, gfin gt62 q.1 q.2.1 = some (some (.int (zi z))) ∧ 0 ≤ z ∧ z ≤ 10 ∧ q.2.2.2.2.2.2 x 8 = .int (zi n1) ∧ 0 ≤ n1 ∧ n1 ≤ 10 ∧ (gTc ty n1 q.2.2) ∧ (gSz f n0 a b t z n1) ∧ (gSx ty 64 f n0 a b t q.2.2)) := by
                    intro fu
                    induction fu with
                    | zero => intro h237 k hm; exact absurd hm (Nat.not_lt_zero _)
                    | succ fu ihlp236 =>
                      intro h237 k lp236m sh237 lp236f0 lp236f1 lp236f2 lp236f3 lp236f4 lp236f5 lp236f6 lp236f7 lp236f8 lp236k0 lp236k1 lp236k2 lp236k3 lp236k4 lp236k5 lp236k6
                      refine gz_s 2 (pc' := 107) (L' := [some (.ref x), some (.int (zi a)), some (.int (zi b)), some (.int (zi t)), some (.int (zi jn2v0)), some (.int (zi jn3v0)), some (.int (zi z233)), some (.int (zi k))]) (S' := [.int (zi b), .int (zi k)]) rfl ?_
                      by_cases hc238 : (b : Int) < k
                      · refine gy_icT (pc' := 130) rfl (by decide) (by decide) (by omega) (by omega) hc238 ?_
                        have hce239 : ∀ j : Int, a ≤ j → j < b + 1 → t + 1 ≤ gcr (cf j.toNat) := fun j h1 h2 => by
                          rw [lp236k6 j h1 (by omega)]
                          unfold gcr
                          split <;> omega
                        refine gz_s 1 (pc' := 131) (L' := [some (.ref x), some (.int (zi a)), some (.int (zi b)), some (.int (zi t)), some (.int (zi jn2v0)), some (.int (zi jn3v0)), some (.int (zi z233)), some (.int (zi k))]) (S' := [.ref x]) rfl ?_
                        refine gs_gtk rfl (by decide) rfl sh237.1 tx rfl rfl lp236k1 ?_
                        refine gy_s 5 (pc' := 139) (L' := [some (.ref x), some (.int (zi a)), some (.int (zi b)), some (.int (zi t)), some (.int (zi jn2v0)), some (.int (zi jn3v0)), some (.int (zi z233)), some (.int (zi k))]) (S' := [.int (zi t), .int ((zi b) + (zi 1)), .int (zi a), .ref c1]) (L2 := [some (.ref x), some (.int (zi a)), some (.int (zi b)), some (.int (zi t)), some (.int (zi jn2v0)), some (.int (zi jn3v0)), some (.int (zi z233)), some (.int (zi k))]) (S2 := [.int (zi t), .int (zi (b + 1)), .int (zi a), .ref c1]) rfl (by simp only [zi_add, zi_sub, zi_mul, zi_neg, zi_and1, zi_and7, zi_and15, zi_and31, zi_and255]) (by simp only [zi_add, zi_sub, zi_mul, zi_neg, zi_and1, zi_and7, zi_and15, zi_and31, zi_and255]) ?_
                        refine gz_call rfl (by decide) rfl (by decide) (by decide) (gcal_of rfl rfl rfl (Nat.le_of_ble_eq_true rfl) rfl) (cl_fill_range _ sh237.1 c1 tc1 a (by omega) (b + 1) (by omega) t (by omega) cf (by omega) uq lp236k3 hce239) (fun q240 _ wq240 => ?_)
                        obtain ⟨pq240, oq240, hq240⟩ := q240
                        obtain ⟨xq240, gq240, yq240_0⟩ := wq240
                        refine ⟨_, gq240, ?_⟩
                        show gz gPP gGG gcn _ _ 142 [some (.ref x), some (.int (zi a)), some (.int (zi b)), some (.int (zi t)), some (.int (zi jn2v0)), some (.int (zi jn3v0)), some (.int (zi z233)), some (.int (zi k))] [] hq240 _
                        have sq240 : gSs rT 1027 ty [55008, 60999, 61999, 62999, 63999, 64999] h hq240 := gSs.tr sh237 xq240 (by decide)
                        have s241 := (xq240.2.2.2.2.2 x 8 (by rw [tx]; decide)).trans lp236k0
                        have s242 := (xq240.2.2.2.2.2 x 9 (by rw [tx]; decide)).trans lp236k1
                        have pr243 := gRow.fr xq240.2 (by decide) lp236k4
                        have pr244 := gRow.fr xq240.2 (by decide) lp236k5
                        refine gz_s 1 (pc' := 143) (L' := [some (.ref x), some (.int (zi a)), some (.int (zi b)), some (.int (zi t)), some (.int (zi jn2v0)), some (.int (zi jn3v0)), some (.int (zi z233)), some (.int (zi k))]) (S' := [.ref x]) rfl ?_
                        refine gs_gtr rfl (by decide) rfl sq240.1 tx rfl rfl rfl (fun c245 ec245 tc245 => ?_)
                        refine gz_s 1 (pc' := 147) (L' := [some (.ref x), some (.int (zi a)), some (.int (zi b)), some (.int (zi t)), some (.int (zi jn2v0)), some (.int (zi jn3v0)), some (.int (zi z233)), some (.int (zi k))]) (S' := [.ref x, .ref c245]) rfl ?_
                        refine gs_gtk rfl (by decide) rfl sq240.1 tx rfl rfl s241 ?_
                        refine gz_s 1 (pc' := 151) (L' := [some (.ref x), some (.int (zi a)), some (.int (zi b)), some (.int (zi t)), some (.int (zi jn2v0)), some (.int (zi jn3v0)), some (.int (zi z233)), some (.int (zi k))]) (S' := [.int (zi a), .int (zi n0), .ref c245]) rfl ?_
                        have hl246 : 10 ≤ hq240.2.2.2.1 c245 ∧ hq240.2.2.2.1 c245 ≤ 10 := gJ.rowl (G := gGG) sq240.1 tc245 rfl
                        refine gs_ast rfl (by decide) sq240 tc245 rfl rfl rfl (by decide) (fun _ => rfl) (by omega) (by omega) (fun _ => (by decide : (60999 : Nat) ∈ ([55008, 60999, 61999, 62999, 63999, 64999] : List Nat))) (by omega) (by omega) (fun h247 sh247 eh247 fh247 => ?_)
                        have pr248 := gRow.put (i := n0) (z := a) uq tc245 (by decide) fh247 eh247 (by omega) (by omega) pr243
                        have pr249 := gRow.pt fh247 tc245 (by decide) pr244
                        have pr250 := gCr.pt fh247 tc245 (by decide) yq240_0
                        have s251 := (fh247 x 8 (fun q => absurd (((tx).symm.trans (congrArg ty q.1)).trans tc245) (by decide))).trans s241
                        have s252 := (fh247 x 9 (fun q => absurd (((tx).symm.trans (congrArg ty q.1)).trans tc245) (by decide))).trans s242
                        have s253 := (fh247 x 4 (fun q => absurd (((tx).symm.trans (congrArg ty q.1)).trans tc245) (by decide))).trans ec245
                        have pr254 := gEl.set (i := n0) (z := a) uq tc245 (by decide) eh247 (by omega) (by omega)
                        refine gz_s 1 (pc' := 153) (L' := [some (.ref x), some (.int (zi a)), some (.int (zi b)), some (.int (zi t)), some (.int (zi jn2v0)), some (.int (zi jn3v0)), some (.int (zi z233)), some (.int (zi k))]) (S' := [.ref x]) rfl ?_
                        refine gs_gtr rfl (by decide) rfl sh247.1 tx rfl rfl rfl (fun c255 ec255 tc255 => ?_)
                        refine gz_s 1 (pc' := 157) (L' := [some (.ref x), some (.int (zi a)), some (.int (zi b)), some (.int (zi t)), some (.int (zi jn2v0)), some (.int (zi jn3v0)), some (.int (zi z233)), some (.int (zi k))]) (S' := [.ref x, .ref c255]) rfl ?_
                        refine gs_gtk rfl (by decide) rfl sh247.1 tx rfl rfl s251 ?_
                        refine gz_s 1 (pc' := 161) (L' := [some (.ref x), some (.int (zi a)), some (.int (zi b)), some (.int (zi t)), some (.int (zi jn2v0)), some (.int (zi jn3v0)), some (.int (zi z233)), some (.int (zi k))]) (S' := [.int (zi b), .int (zi n0), .ref c255]) rfl ?_
                        have hl256 : 10 ≤ h247.2.2.2.1 c255 ∧ h247.2.2.2.1 c255 ≤ 10 := gJ.rowl (G := gGG) sh247.1 tc255 rfl
                        refine gs_ast rfl (by decide) sh247 tc255 rfl rfl rfl (by decide) (fun _ => rfl) (by omega) (by omega) (fun _ => (by decide : (61999 : Nat) ∈ ([55008, 60999, 61999, 62999, 63999, 64999] : List Nat))) (by omega) (by omega) (fun h257 sh257 eh257 fh257 => ?_)
                        have pr258 := gRow.pt fh257 tc255 (by decide) pr248
                        have pr259 := gRow.put (i := n0) (z := b) uq tc255 (by decide) fh257 eh257 (by omega) (by omega) pr249
                        have pr260 := gCr.pt fh257 tc255 (by decide) pr250
                        have pr261 := gEl.pt fh257 tc255 (by decide) pr254
                        have s262 := (fh257 x 8 (fun q => absurd (((tx).symm.trans (congrArg ty q.1)).trans tc255) (by decide))).trans s251
                        have s263 := (fh257 x 9 (fun q => absurd (((tx).symm.trans (congrArg ty q.1)).trans tc255) (by decide))).trans s252
                        have s264 := (fh257 x 4 (fun q => absurd (((tx).symm.trans (congrArg ty q.1)).trans tc255) (by decide))).trans s253
                        have s265 := (fh257 x 5 (fun q => absurd (((tx).symm.trans (congrArg ty q.1)).trans tc255) (by decide))).trans ec255
                        have pr266 := gEl.set (i := n0) (z := b) uq tc255 (by decide) eh257 (by omega) (by omega)
                        refine gz_s 1 (pc' := 163) (L' := [some (.ref x), some (.int (zi a)), some (.int (zi b)), some (.int (zi t)), some (.int (zi jn2v0)), some (.int (zi jn3v0)), some (.int (zi z233)), some (.int (zi k))]) (S' := [.ref x]) rfl ?_
                        refine gs_gtr rfl (by decide) rfl sh257.1 tx rfl rfl rfl (fun c267 ec267 tc267 => ?_)
                        refine gz_s 1 (pc' := 167) (L' := [some (.ref x), some (.int (zi a)), some (.int (zi b)), some (.int (zi t)), some (.int (zi jn2v0)), some (.int (zi jn3v0)), some (.int (zi z233)), some (.int (zi k))]) (S' := [.ref x, .ref c267]) rfl ?_
                        refine gs_gtk rfl (by decide) rfl sh257.1 tx rfl rfl s262 ?_
                        refine gz_s 2 (pc' := 173) (L' := [some (.ref x), some (.int (zi a)), some (.int (zi b)), some (.int (zi t)), some (.int (zi jn2v0)), some (.int (zi jn3v0)), some (.int (zi z233)), some (.int (zi k))]) (S' := [.int (zi z233), .int (zi 0), .int (zi n0), .ref c267]) rfl ?_
                        refine gz_call rfl (by decide) rfl (by decide) (by decide) (gcal_of rfl rfl rfl (Nat.le_of_ble_eq_true rfl) rfl) (cl_Math_max _ sh257.1 0 (by omega) z233 (by omega) ) (fun q268 _ wq268 => ?_)
                        obtain ⟨pq268, oq268, hq268⟩ := q268
                        obtain ⟨xq268, zq268, gq268, aq268, bq268, uq268_0, uq268_1, uq268_2⟩ := wq268
                        refine ⟨_, gq268, ?_⟩
                        show gz gPP gGG gcn _ _ 176 [some (.ref x), some (.int (zi a)), some (.int (zi b)), some (.int (zi t)), some (.int (zi jn2v0)), some (.int (zi jn3v0)), some (.int (zi z233)), some (.int (zi k))] [.int (zi zq268), .int (zi n0), .ref c267] hq268 _
                        have sq268 : gSs rT 1027 ty [55008, 60999, 61999, 62999, 63999, 64999] h hq268 := gSs.tr sh257 xq268 (by decide)
                        have s269 := (xq268.2.2.2.2.2 x 8 (by rw [tx]; decide)).trans s262
                        have s270 := (xq268.2.2.2.2.2 x 9 (by rw [tx]; decide)).trans s263
                        have s271 := (xq268.2.2.2.2.2 x 4 (by rw [tx]; decide)).trans s264
                        have s272 := (xq268.2.2.2.2.2 x 5 (by rw [tx]; decide)).trans s265
                        have s273 := (xq268.2.2.2.2.2 x 6 (by rw [tx]; decide)).trans ec267
                        have pr274 := gRow.fr xq268.2 (by decide) pr258
                        have pr275 := gRow.fr xq268.2 (by decide) pr259
                        have pr276 := gCr.fr xq268.2 (by decide) pr260
                        have pr277 := gEl.fr xq268.2 (by decide) (fun _ => rfl) pr261
                        have pr278 := gEl.fr xq268.2 (by decide) (fun _ => rfl) pr266
                        have hl279 : 10 ≤ hq268.2.2.2.1 c267 ∧ hq268.2.2.2.1 c267 ≤ 10 := gJ.rowl (G := gGG) sq268.1 tc267 rfl
                        refine gs_ast rfl (by decide) sq268 tc267 rfl rfl rfl (by decide) (fun _ => rfl) (by omega) (by omega) (fun _ => (by decide : (62999 : Nat) ∈ ([55008, 60999, 61999, 62999, 63999, 64999] : List Nat))) (by omega) (by omega) (fun h280 sh280 eh280 fh280 => ?_)
                        have pr281 := gRow.pt fh280 tc267 (by decide) pr274
                        have pr282 := gRow.pt fh280 tc267 (by decide) pr275
                        have pr283 := gCr.pt fh280 tc267 (by decide) pr276
                        have pr284 := gEl.pt fh280 tc267 (by decide) pr277
                        have pr285 := gEl.pt fh280 tc267 (by decide) pr278
                        have s286 := (fh280 x 8 (fun q => absurd (((tx).symm.trans (congrArg ty q.1)).trans tc267) (by decide))).trans s269
                        have s287 := (fh280 x 9 (fun q => absurd (((tx).symm.trans (congrArg ty q.1)).trans tc267) (by decide))).trans s270
                        have s288 := (fh280 x 4 (fun q => absurd (((tx).symm.trans (congrArg ty q.1)).trans tc267) (by decide))).trans s271
                        have s289 := (fh280 x 5 (fun q => absurd (((tx).symm.trans (congrArg ty q.1)).trans tc267) (by decide))).trans s272
                        have s290 := (fh280 x 6 (fun q => absurd (((tx).symm.trans (congrArg ty q.1)).trans tc267) (by decide))).trans s273
                        have pr291 := gEl.set (i := n0) (z := zq268) uq tc267 (by decide) eh280 (by omega) (by omega)
                        refine gz_s 1 (pc' := 178) (L' := [some (.ref x), some (.int (zi a)), some (.int (zi b)), some (.int (zi t)), some (.int (zi jn2v0)), some (.int (zi jn3v0)), some (.int (zi z233)), some (.int (zi k))]) (S' := [.ref x]) rfl ?_
                        refine gs_gtr rfl (by decide) rfl sh280.1 tx rfl rfl rfl (fun c292 ec292 tc292 => ?_)
                        refine gz_s 1 (pc' := 182) (L' := [some (.ref x), some (.int (zi a)), some (.int (zi b)), some (.int (zi t)), some (.int (zi jn2v0)), some (.int (zi jn3v0)), some (.int (zi z233)), some (.int (zi k))]) (S' := [.ref x, .ref c292]) rfl ?_
                        refine gs_gtk rfl (by decide) rfl sh280.1 tx rfl rfl s286 ?_
                        refine gz_s 1 (pc' := 186) (L' := [some (.ref x), some (.int (zi a)), some (.int (zi b)), some (.int (zi t)), some (.int (zi jn2v0)), some (.int (zi jn3v0)), some (.int (zi z233)), some (.int (zi k))]) (S' := [.int (zi t), .int (zi n0), .ref c292]) rfl ?_
                        have hl293 : 10 ≤ h280.2.2.2.1 c292 ∧ h280.2.2.2.1 c292 ≤ 10 := gJ.rowl (G := gGG) sh280.1 tc292 rfl
                        refine gs_ast rfl (by decide) sh280 tc292 rfl rfl rfl (by decide) (fun _ => rfl) (by omega) (by omega) (fun _ => (by decide : (63999 : Nat) ∈ ([55008, 60999, 61999, 62999, 63999, 64999] : List Nat))) (by omega) (by omega) (fun h294 sh294 eh294 fh294 => ?_)
                        have pr295 := gRow.pt fh294 tc292 (by decide) pr281
                        have pr296 := gRow.pt fh294 tc292 (by decide) pr282
                        have pr297 := gCr.pt fh294 tc292 (by decide) pr283
                        have pr298 := gEl.pt fh294 tc292 (by decide) pr284
                        have pr299 := gEl.pt fh294 tc292 (by decide) pr285
                        have pr300 := gEl.pt fh294 tc292 (by decide) pr291
                        have s301 := (fh294 x 8 (fun q => absurd (((tx).symm.trans (congrArg ty q.1)).trans tc292) (by decide))).trans s286
                        have s302 := (fh294 x 9 (fun q => absurd (((tx).symm.trans (congrArg ty q.1)).trans tc292) (by decide))).trans s287
                        have s303 := (fh294 x 4 (fun q => absurd (((tx).symm.trans (congrArg ty q.1)).trans tc292) (by decide))).trans s288
                        have s304 := (fh294 x 5 (fun q => absurd (((tx).symm.trans (congrArg ty q.1)).trans tc292) (by decide))).trans s289
                        have s305 := (fh294 x 6 (fun q => absurd (((tx).symm.trans (congrArg ty q.1)).trans tc292) (by decide))).trans s290
                        have s306 := (fh294 x 7 (fun q => absurd (((tx).symm.trans (congrArg ty q.1)).trans tc292) (by decide))).trans ec292
                        have pr307 := gEl.set (i := n0) (z := t) uq tc292 (by decide) eh294 (by omega) (by omega)
                        refine gz_s 2 (pc' := 189) (L' := [some (.ref x), some (.int (zi a)), some (.int (zi b)), some (.int (zi t)), some (.int (zi jn2v0)), some (.int (zi jn3v0)), some (.int (zi z233)), some (.int (zi k))]) (S' := [.ref x, .ref x]) rfl ?_
                        refine gs_gtk rfl (by decide) rfl sh294.1 tx rfl rfl s301 ?_
                        refine gy_s 2 (pc' := 194) (L' := [some (.ref x), some (.int (zi a)), some (.int (zi b)), some (.int (zi t)), some (.int (zi jn2v0)), some (.int (zi jn3v0)), some (.int (zi z233)), some (.int (zi k))]) (S' := [.int ((zi n0) + (zi 1)), .ref x]) (L2 := [some (.ref x), some (.int (zi a)), some (.int (zi b)), some (.int (zi t)), some (.int (zi jn2v0)), some (.int (zi jn3v0)), some (.int (zi z233)), some (.int (zi k))]) (S2 := [.int (zi (n0 + 1)), .ref x]) rfl (by simp only [zi_add, zi_sub, zi_mul, zi_neg, zi_and1, zi_and7, zi_and15, zi_and31, zi_and255]) (by simp only [zi_add, zi_sub, zi_mul, zi_neg, zi_and1, zi_and7, zi_and15, zi_and31, zi_and255]) ?_
                        refine gs_put rfl (by decide) rfl sh294 tx rfl rfl rfl rfl (Or.inl rfl) (by decide) (by omega) (by omega) (fun h308 sh308 eh308 fh308 => ?_)
                        have pr309 := gRow.pt fh308 tx (by decide) pr295
                        have pr310 := gRow.pt fh308 tx (by decide) pr296
                        have pr311 := gCr.pt fh308 tx (by decide) pr297
                        have pr312 := gEl.pt fh308 tx (by decide) pr298
                        have pr313 := gEl.pt fh308 tx (by decide) pr299
                        have pr314 := gEl.pt fh308 tx (by decide) pr300
                        have pr315 := gEl.pt fh308 tx (by decide) pr307
                        have s316 := (fh308 x 9 (fun q => absurd q.2 (by decide))).trans s302
                        have s317 := (fh308 x 4 (fun q => absurd q.2 (by decide))).trans s303
                        have s318 := (fh308 x 5 (fun q => absurd q.2 (by decide))).trans s304
                        have s319 := (fh308 x 6 (fun q => absurd q.2 (by decide))).trans s305
                        have s320 := (fh308 x 7 (fun q => absurd q.2 (by decide))).trans s306
                        obtain ⟨c2, rc2, hcm⟩ := pr311
                        have hts321 : gTc ty (n0 + 1) h308 := gTc.tell (by omega) pr309 pr310 rc2 tle tsm hcm (by omega) (by omega)
                        refine gz_s 1 (pc' := 198) (L' := [some (.ref x), some (.int (zi a)), some (.int (zi b)), some (.int (zi t)), some (.int (zi jn2v0)), some (.int (zi jn3v0)), some (.int (zi z233)), some (.int (zi k))]) (S' := [.ref x]) rfl ?_
                        refine gs_gtk rfl (by decide) rfl sh308.1 tx rfl rfl eh308 ?_
                        have hsk322 : gSk cf n0 a b t := ⟨by omega, ⟨by omega, by omega⟩, by omega, by omega, fun j h1 h2 => lp236k6 j h1 (by omega)⟩
                        have hsz323 : gSz f n0 a b t (n0 + 1) (n0 + 1) := gSz.ys ecf hsk322 (by omega) (by omega)
                        have hsx324 : gSx ty 64 f n0 a b t h308 := gSx.ys ecf rc2 (by omega) (by omega) hcm hsk322
                        exact gz_end (I := .ireturn) (len := 1) rfl (Or.inl rfl) ⟨sh308, n0 + 1, n0 + 1, rfl, (by omega), (by omega), eh308, (by omega), (by omega), hts321, hsz323, hsx324⟩
                      · refine gy_icF rfl (by decide) (by decide) (by omega) (by omega) hc238 ?_
                        refine gz_s 1 (pc' := 111) (L' := [some (.ref x), some (.int (zi a)), some (.int (zi b)), some (.int (zi t)), some (.int (zi jn2v0)), some (.int (zi jn3v0)), some (.int (zi z233)), some (.int (zi k))]) (S' := [.ref x]) rfl ?_
                        refine gs_gtk rfl (by decide) rfl sh237.1 tx rfl rfl lp236k1 ?_
                        refine gz_s 1 (pc' := 116) (L' := [some (.ref x), some (.int (zi a)), some (.int (zi b)), some (.int (zi t)), some (.int (zi jn2v0)), some (.int (zi jn3v0)), some (.int (zi z233)), some (.int (zi k))]) (S' := [.int (zi k), .ref c1]) rfl ?_
                        have hl325 : 64 ≤ h237.2.2.2.1 c1 ∧ h237.2.2.2.1 c1 ≤ 64 := gJ.rowl (G := gGG) sh237.1 tc1 rfl
                        refine gs_ald rfl (by decide) sh237.1 tc1 rfl rfl rfl (by decide) (fun _ => rfl) (by omega) (by omega) (fun z326 ez326 az326 bz326 => ?_)
                        have hf327 := gRow.at (i := k) (z := z326) lp236k3 tc1 ez326 (by omega) (by omega) (by omega)
                        refine gz_s 1 (pc' := 119) (L' := [some (.ref x), some (.int (zi a)), some (.int (zi b)), some (.int (zi t)), some (.int (zi jn2v0)), some (.int (zi jn3v0)), some (.int (zi z233)), some (.int (zi k))]) (S' := [.int (zi z233), .int (zi z326)]) rfl ?_
                        by_cases hc328 : (z326 : Int) = z233
                        · refine gy_icT (pc' := 124) rfl (by decide) (by decide) (by omega) (by omega) hc328 ?_
                          have hce329 : ∀ j : Int, a ≤ j → j < k + 1 → cf j.toNat = cf a.toNat := fun j h1 h2 => by
                            by_cases e : j = k
                            · subst e; omega
                            · exact lp236k6 j h1 (by omega)
                          refine gy_s 2 (pc' := 104) (L' := [some (.ref x), some (.int (zi a)), some (.int (zi b)), some (.int (zi t)), some (.int (zi jn2v0)), some (.int (zi jn3v0)), some (.int (zi z233)), some (.int ((zi k) + zi 1))]) (S' := []) (L2 := [some (.ref x), some (.int (zi a)), some (.int (zi b)), some (.int (zi t)), some (.int (zi jn2v0)), some (.int (zi jn3v0)), some (.int (zi z233)), some (.int (zi (k + 1)))]) (S2 := []) rfl (by simp only [zi_add, zi_sub, zi_mul, zi_neg, zi_and1, zi_and7, zi_and15, zi_and31, zi_and255]) (by simp only [zi_add, zi_sub, zi_mul, zi_neg, zi_and1, zi_and7, zi_and15, zi_and31, zi_and255]) ?_
                          exact gz_wk (ihlp236 h237 (k + 1) (by omega) sh237 (by omega) (by omega) (by omega) (by omega) (by omega) (by omega) (by omega) (by omega) (by omega) lp236k0 lp236k1 lp236k2 lp236k3 lp236k4 lp236k5 hce329) (gLw.s (gLw.s (gLw.s (gLw.s (gLw.s (gLw.s (gLw.s (gLw.s gLw.z))))))))
                        · refine gy_icF rfl (by decide) (by decide) (by omega) (by omega) hc328 ?_
                          refine gz_s 1 (pc' := 123) (L' := [some (.ref x), some (.int (zi a)), some (.int (zi b)), some (.int (zi t)), some (.int (zi jn2v0)), some (.int (zi jn3v0)), some (.int (zi z233)), some (.int (zi k))]) (S' := [.int (zi 0)]) rfl ?_
                          have hsk330 : ¬ gSk cf n0 a b t := fun w => by have w5 := w.2.2.2.2 k (by omega) (by omega); omega
                          have hsz331 : gSz f n0 a b t 0 n0 := gSz.no ecf hsk330 (by omega) (by omega)
                          have hsx332 : gSx ty 64 f n0 a b t h237 := gSx.no ecf lp236k3 hsk330
                          exact gz_end (I := .ireturn) (len := 1) rfl (Or.inl rfl) ⟨sh237, 0, n0, rfl, (by omega), (by omega), lp236k0, (by omega), (by omega), lp236k2, hsz331, hsx332⟩
                  exact gz_wk (lp236 _ h a (Nat.lt_succ_self _) hS (by omega) (by omega) (by omega) (by omega) (by omega) (by omega) (by omega) (by omega) (by omega) en0 ec1 hytc rc rf rt (fun j h1 h2 => absurd h2 (by omega))) (gLw.s (gLw.s (gLw.s (gLw.s (gLw.s (gLw.s (gLw.s (gLw.s gLw.z))))))))
                · refine gy_icF rfl (by decide) (by decide) (by omega) (by omega) hc235 ?_
                  refine gy_s 4 (pc' := 96) (L' := [some (.ref x), some (.int (zi a)), some (.int (zi b)), some (.int (zi t)), some (.int (zi jn2v0)), some (.int (zi jn3v0)), some (.int (zi z233)), none]) (S' := [.int ((zi t) + (zi 1)), .int (zi z233)]) (L2 := [some (.ref x), some (.int (zi a)), some (.int (zi b)), some (.int (zi t)), some (.int (zi jn2v0)), some (.int (zi jn3v0)), some (.int (zi z233)), none]) (S2 := [.int (zi (t + 1)), .int (zi z233)]) rfl (by simp only [zi_add, zi_sub, zi_mul, zi_neg, zi_and1, zi_and7, zi_and15, zi_and31, zi_and255]) (by simp only [zi_add, zi_sub, zi_mul, zi_neg, zi_and1, zi_and7, zi_and15, zi_and31, zi_and255]) ?_
                  by_cases hc333 : (z233 : Int) = t + 1
                  · refine gy_icT (pc' := 101) rfl (by decide) (by decide) (by omega) (by omega) hc333 ?_
                    refine gz_s 2 (pc' := 104) (L' := [some (.ref x), some (.int (zi a)), some (.int (zi b)), some (.int (zi t)), some (.int (zi jn2v0)), some (.int (zi jn3v0)), some (.int (zi z233)), some (.int (zi a))]) (S' := []) rfl ?_
                    have lp334 : ∀ (fu : Nat) (h335 : gH) (k : Int), (65 - k).toNat < fu → gSs rT 1027 ty [55008, 60999, 61999, 62999, 63999, 64999] h h335 → (0 ≤ k ∧ k ≤ 64) → (a ≤ k) → (k ≤ b + 1) → (0 ≤ a) → (a ≤ b) → (b ≤ 63) → (0 ≤ t) → (t ≤ 3) → (z233 = -1 ∨ z233 = t + 1) → h335.2.2.2.2 x 8 = .int (zi n0) → h335.2.2.2.2 x 9 = .ref c1 → gTc ty n0 h335 → gRow ty 64 cf h335 → gRow ty 60 tf h335 → gRow ty 61 tt h335 → (∀ j : Int, a ≤ j → j < k → cf j.toNat = cf a.toNat) → gz gPP gGG gcn (d + 2) gt62 104 [some (.ref x), some (.int (zi a)), some (.int (zi b)), some (.int (zi t)), some (.int (zi jn2v0)), some (.int (zi jn3v0)), some (.int (zi z233)), some (.int (zi k))] [] h335 (fun q _ => gSs rT 1027 ty [55008, 60999, 61999, 62999, 63999, 64999] h q.2.2 ∧ ∃ z n1 : Int, gfin gt62 q.1 q.2.1 = some (some (.int (zi z))) ∧ 0 ≤ z ∧ z ≤ 10 ∧ q.2.2.2.2.2.2 x 8 = .int (zi n1) ∧ 0 ≤ n1 ∧ n1 ≤ 10 ∧ (gTc ty n1 q.2.2) ∧ (gSz f n0 a b t z n1) ∧ (gSx ty 64 f n0 a b t q.2.2)) := by
                      intro fu
                      induction fu with
                      | zero => intro h335 k hm; exact absurd hm (Nat.not_lt_zero _)
                      | succ fu ihlp334 =>
                        intro h335 k lp334m sh335 lp334f0 lp334f1 lp334f2 lp334f3 lp334f4 lp334f5 lp334f6 lp334f7 lp334f8 lp334k0 lp334k1 lp334k2 lp334k3 lp334k4 lp334k5 lp334k6
                        refine gz_s 2 (pc' := 107) (L' := [some (.ref x), some (.int (zi a)), some (.int (zi b)), some (.int (zi t)), some (.int (zi jn2v0)), some (.int (zi jn3v0)), some (.int (zi z233)), some (.int (zi k))]) (S' := [.int (zi b), .int (zi k)]) rfl ?_
                        by_cases hc336 : (b : Int) < k
                        · refine gy_icT (pc' := 130) rfl (by decide) (by decide) (by omega) (by omega) hc336 ?_
                          have hce337 : ∀ j : Int, a ≤ j → j < b + 1 → t + 1 ≤ gcr (cf j.toNat) := fun j h1 h2 => by
                            rw [lp334k6 j h1 (by omega)]
                            unfold gcr
                            split <;> omega
                          refine gz_s 1 (pc' := 131) (L' := [some (.ref x), some (.int (zi a)), some (.int (zi b)), some (.int (zi t)), some (.int (zi jn2v0)), some (.int (zi jn3v0)), some (.int (zi z233)), some (.int (zi k))]) (S' := [.ref x]) rfl ?_
                          refine gs_gtk rfl (by decide) rfl sh335.1 tx rfl rfl lp334k1 ?_
                          refine gy_s 5 (pc' := 139) (L' := [some (.ref x), some (.int (zi a)), some (.int (zi b)), some (.int (zi t)), some (.int (zi jn2v0)), some (.int (zi jn3v0)), some (.int (zi z233)), some (.int (zi k))]) (S' := [.int (zi t), .int ((zi b) + (zi 1)), .int (zi a), .ref c1]) (L2 := [some (.ref x), some (.int (zi a)), some (.int (zi b)), some (.int (zi t)), some (.int (zi jn2v0)), some (.int (zi jn3v0)), some (.int (zi z233)), some (.int (zi k))]) (S2 := [.int (zi t), .int (zi (b + 1)), .int (zi a), .ref c1]) rfl (by simp only [zi_add, zi_sub, zi_mul, zi_neg, zi_and1, zi_and7, zi_and15, zi_and31, zi_and255]) (by simp only [zi_add, zi_sub, zi_mul, zi_neg, zi_and1, zi_and7, zi_and15, zi_and31, zi_and255]) ?_
                          refine gz_call rfl (by decide) rfl (by decide) (by decide) (gcal_of rfl rfl rfl (Nat.le_of_ble_eq_true rfl) rfl) (cl_fill_range _ sh335.1 c1 tc1 a (by omega) (b + 1) (by omega) t (by omega) cf (by omega) uq lp334k3 hce337) (fun q338 _ wq338 => ?_)
                          obtain ⟨pq338, oq338, hq338⟩ := q338
                          obtain ⟨xq338, gq338, yq338_0⟩ := wq338
                          refine ⟨_, gq338, ?_⟩
                          show gz gPP gGG gcn _ _ 142 [some (.ref x), some (.int (zi a)), some (.int (zi b)), some (.int (zi t)), some (.int (zi jn2v0)), some (.int (zi jn3v0)), some (.int (zi z233)), some (.int (zi k))] [] hq338 _
                          have sq338 : gSs rT 1027 ty [55008, 60999, 61999, 62999, 63999, 64999] h hq338 := gSs.tr sh335 xq338 (by decide)
                          have s339 := (xq338.2.2.2.2.2 x 8 (by rw [tx]; decide)).trans lp334k0
                          have s340 := (xq338.2.2.2.2.2 x 9 (by rw [tx]; decide)).trans lp334k1
                          have pr341 := gRow.fr xq338.2 (by decide) lp334k4
                          have pr342 := gRow.fr xq338.2 (by decide) lp334k5
                          refine gz_s 1 (pc' := 143) (L' := [some (.ref x), some (.int (zi a)), some (.int (zi b)), some (.int (zi t)), some (.int (zi jn2v0)), some (.int (zi jn3v0)), some (.int (zi z233)), some (.int (zi k))]) (S' := [.ref x]) rfl ?_
                          refine gs_gtr rfl (by decide) rfl sq338.1 tx rfl rfl rfl (fun c343 ec343 tc343 => ?_)
                          refine gz_s 1 (pc' := 147) (L' := [some (.ref x), some (.int (zi a)), some (.int (zi b)), some (.int (zi t)), some (.int (zi jn2v0)), some (.int (zi jn3v0)), some (.int (zi z233)), some (.int (zi k))]) (S' := [.ref x, .ref c343]) rfl ?_
                          refine gs_gtk rfl (by decide) rfl sq338.1 tx rfl rfl s339 ?_
                          refine gz_s 1 (pc' := 151) (L' := [some (.ref x), some (.int (zi a)), some (.int (zi b)), some (.int (zi t)), some (.int (zi jn2v0)), some (.int (zi jn3v0)), some (.int (zi z233)), some (.int (zi k))]) (S' := [.int (zi a), .int (zi n0), .ref c343]) rfl ?_
                          have hl344 : 10 ≤ hq338.2.2.2.1 c343 ∧ hq338.2.2.2.1 c343 ≤ 10 := gJ.rowl (G := gGG) sq338.1 tc343 rfl
                          refine gs_ast rfl (by decide) sq338 tc343 rfl rfl rfl (by decide) (fun _ => rfl) (by omega) (by omega) (fun _ => (by decide : (60999 : Nat) ∈ ([55008, 60999, 61999, 62999, 63999, 64999] : List Nat))) (by omega) (by omega) (fun h345 sh345 eh345 fh345 => ?_)
                          have pr346 := gRow.put (i := n0) (z := a) uq tc343 (by decide) fh345 eh345 (by omega) (by omega) pr341
                          have pr347 := gRow.pt fh345 tc343 (by decide) pr342
                          have pr348 := gCr.pt fh345 tc343 (by decide) yq338_0
                          have s349 := (fh345 x 8 (fun q => absurd (((tx).symm.trans (congrArg ty q.1)).trans tc343) (by decide))).trans s339
                          have s350 := (fh345 x 9 (fun q => absurd (((tx).symm.trans (congrArg ty q.1)).trans tc343) (by decide))).trans s340
                          have s351 := (fh345 x 4 (fun q => absurd (((tx).symm.trans (congrArg ty q.1)).trans tc343) (by decide))).trans ec343
                          have pr352 := gEl.set (i := n0) (z := a) uq tc343 (by decide) eh345 (by omega) (by omega)
                          refine gz_s 1 (pc' := 153) (L' := [some (.ref x), some (.int (zi a)), some (.int (zi b)), some (.int (zi t)), some (.int (zi jn2v0)), some (.int (zi jn3v0)), some (.int (zi z233)), some (.int (zi k))]) (S' := [.ref x]) rfl ?_
                          refine gs_gtr rfl (by decide) rfl sh345.1 tx rfl rfl rfl (fun c353 ec353 tc353 => ?_)
                          refine gz_s 1 (pc' := 157) (L' := [some (.ref x), some (.int (zi a)), some (.int (zi b)), some (.int (zi t)), some (.int (zi jn2v0)), some (.int (zi jn3v0)), some (.int (zi z233)), some (.int (zi k))]) (S' := [.ref x, .ref c353]) rfl ?_
                          refine gs_gtk rfl (by decide) rfl sh345.1 tx rfl rfl s349 ?_
                          refine gz_s 1 (pc' := 161) (L' := [some (.ref x), some (.int (zi a)), some (.int (zi b)), some (.int (zi t)), some (.int (zi jn2v0)), some (.int (zi jn3v0)), some (.int (zi z233)), some (.int (zi k))]) (S' := [.int (zi b), .int (zi n0), .ref c353]) rfl ?_
                          have hl354 : 10 ≤ h345.2.2.2.1 c353 ∧ h345.2.2.2.1 c353 ≤ 10 := gJ.rowl (G := gGG) sh345.1 tc353 rfl
                          refine gs_ast rfl (by decide) sh345 tc353 rfl rfl rfl (by decide) (fun _ => rfl) (by omega) (by omega) (fun _ => (by decide : (61999 : Nat) ∈ ([55008, 60999, 61999, 62999, 63999, 64999] : List Nat))) (by omega) (by omega) (fun h355 sh355 eh355 fh355 => ?_)
                          have pr356 := gRow.pt fh355 tc353 (by decide) pr346
                          have pr357 := gRow.put (i := n0) (z := b) uq tc353 (by decide) fh355 eh355 (by omega) (by omega) pr347
                          have pr358 := gCr.pt fh355 tc353 (by decide) pr348
                          have pr359 := gEl.pt fh355 tc353 (by decide) pr352
                          have s360 := (fh355 x 8 (fun q => absurd (((tx).symm.trans (congrArg ty q.1)).trans tc353) (by decide))).trans s349
                          have s361 := (fh355 x 9 (fun q => absurd (((tx).symm.trans (congrArg ty q.1)).trans tc353) (by decide))).trans s350
                          have s362 := (fh355 x 4 (fun q => absurd (((tx).symm.trans (congrArg ty q.1)).trans tc353) (by decide))).trans s351
                          have s363 := (fh355 x 5 (fun q => absurd (((tx).symm.trans (congrArg ty q.1)).trans tc353) (by decide))).trans ec353
                          have pr364 := gEl.set (i := n0) (z := b) uq tc353 (by decide) eh355 (by omega) (by omega)
                          refine gz_s 1 (pc' := 163) (L' := [some (.ref x), some (.int (zi a)), some (.int (zi b)), some (.int (zi t)), some (.int (zi jn2v0)), some (.int (zi jn3v0)), some (.int (zi z233)), some (.int (zi k))]) (S' := [.ref x]) rfl ?_
                          refine gs_gtr rfl (by decide) rfl sh355.1 tx rfl rfl rfl (fun c365 ec365 tc365 => ?_)
                          refine gz_s 1 (pc' := 167) (L' := [some (.ref x), some (.int (zi a)), some (.int (zi b)), some (.int (zi t)), some (.int (zi jn2v0)), some (.int (zi jn3v0)), some (.int (zi z233)), some (.int (zi k))]) (S' := [.ref x, .ref c365]) rfl ?_
                          refine gs_gtk rfl (by decide) rfl sh355.1 tx rfl rfl s360 ?_
                          refine gz_s 2 (pc' := 173) (L' := [some (.ref x), some (.int (zi a)), some (.int (zi b)), some (.int (zi t)), some (.int (zi jn2v0)), some (.int (zi jn3v0)), some (.int (zi z233)), some (.int (zi k))]) (S' := [.int (zi z233), .int (zi 0), .int (zi n0), .ref c365]) rfl ?_
                          refine gz_call rfl (by decide) rfl (by decide) (by decide) (gcal_of rfl rfl rfl (Nat.le_of_ble_eq_true rfl) rfl) (cl_Math_max _ sh355.1 0 (by omega) z233 (by omega) ) (fun q366 _ wq366 => ?_)
                          obtain ⟨pq366, oq366, hq366⟩ := q366
                          obtain ⟨xq366, zq366, gq366, aq366, bq366, uq366_0, uq366_1, uq366_2⟩ := wq366
                          refine ⟨_, gq366, ?_⟩
                          show gz gPP gGG gcn _ _ 176 [some (.ref x), some (.int (zi a)), some (.int (zi b)), some (.int (zi t)), some (.int (zi jn2v0)), some (.int (zi jn3v0)), some (.int (zi z233)), some (.int (zi k))] [.int (zi zq366), .int (zi n0), .ref c365] hq366 _
                          have sq366 : gSs rT 1027 ty [55008, 60999, 61999, 62999, 63999, 64999] h hq366 := gSs.tr sh355 xq366 (by decide)
                          have s367 := (xq366.2.2.2.2.2 x 8 (by rw [tx]; decide)).trans s360
                          have s368 := (xq366.2.2.2.2.2 x 9 (by rw [tx]; decide)).trans s361
                          have s369 := (xq366.2.2.2.2.2 x 4 (by rw [tx]; decide)).trans s362
                          have s370 := (xq366.2.2.2.2.2 x 5 (by rw [tx]; decide)).trans s363
                          have s371 := (xq366.2.2.2.2.2 x 6 (by rw [tx]; decide)).trans ec365
                          have pr372 := gRow.fr xq366.2 (by decide) pr356
                          have pr373 := gRow.fr xq366.2 (by decide) pr357
                          have pr374 := gCr.fr xq366.2 (by decide) pr358
                          have pr375 := gEl.fr xq366.2 (by decide) (fun _ => rfl) pr359
                          have pr376 := gEl.fr xq366.2 (by decide) (fun _ => rfl) pr364
                          have hl377 : 10 ≤ hq366.2.2.2.1 c365 ∧ hq366.2.2.2.1 c365 ≤ 10 := gJ.rowl (G := gGG) sq366.1 tc365 rfl
                          refine gs_ast rfl (by decide) sq366 tc365 rfl rfl rfl (by decide) (fun _ => rfl) (by omega) (by omega) (fun _ => (by decide : (62999 : Nat) ∈ ([55008, 60999, 61999, 62999, 63999, 64999] : List Nat))) (by omega) (by omega) (fun h378 sh378 eh378 fh378 => ?_)
                          have pr379 := gRow.pt fh378 tc365 (by decide) pr372
                          have pr380 := gRow.pt fh378 tc365 (by decide) pr373
                          have pr381 := gCr.pt fh378 tc365 (by decide) pr374
                          have pr382 := gEl.pt fh378 tc365 (by decide) pr375
                          have pr383 := gEl.pt fh378 tc365 (by decide) pr376
                          have s384 := (fh378 x 8 (fun q => absurd (((tx).symm.trans (congrArg ty q.1)).trans tc365) (by decide))).trans s367
                          have s385 := (fh378 x 9 (fun q => absurd (((tx).symm.trans (congrArg ty q.1)).trans tc365) (by decide))).trans s368
                          have s386 := (fh378 x 4 (fun q => absurd (((tx).symm.trans (congrArg ty q.1)).trans tc365) (by decide))).trans s369
                          have s387 := (fh378 x 5 (fun q => absurd (((tx).symm.trans (congrArg ty q.1)).trans tc365) (by decide))).trans s370
                          have s388 := (fh378 x 6 (fun q => absurd (((tx).symm.trans (congrArg ty q.1)).trans tc365) (by decide))).trans s371
                          have pr389 := gEl.set (i := n0) (z := zq366) uq tc365 (by decide) eh378 (by omega) (by omega)
                          refine gz_s 1 (pc' := 178) (L' := [some (.ref x), some (.int (zi a)), some (.int (zi b)), some (.int (zi t)), some (.int (zi jn2v0)), some (.int (zi jn3v0)), some (.int (zi z233)), some (.int (zi k))]) (S' := [.ref x]) rfl ?_
                          refine gs_gtr rfl (by decide) rfl sh378.1 tx rfl rfl rfl (fun c390 ec390 tc390 => ?_)
                          refine gz_s 1 (pc' := 182) (L' := [some (.ref x), some (.int (zi a)), some (.int (zi b)), some (.int (zi t)), some (.int (zi jn2v0)), some (.int (zi jn3v0)), some (.int (zi z233)), some (.int (zi k))]) (S' := [.ref x, .ref c390]) rfl ?_
                          refine gs_gtk rfl (by decide) rfl sh378.1 tx rfl rfl s384 ?_
                          refine gz_s 1 (pc' := 186) (L' := [some (.ref x), some (.int (zi a)), some (.int (zi b)), some (.int (zi t)), some (.int (zi jn2v0)), some (.int (zi jn3v0)), some (.int (zi z233)), some (.int (zi k))]) (S' := [.int (zi t), .int (zi n0), .ref c390]) rfl ?_
                          have hl391 : 10 ≤ h378.2.2.2.1 c390 ∧ h378.2.2.2.1 c390 ≤ 10 := gJ.rowl (G := gGG) sh378.1 tc390 rfl
                          refine gs_ast rfl (by decide) sh378 tc390 rfl rfl rfl (by decide) (fun _ => rfl) (by omega) (by omega) (fun _ => (by decide : (63999 : Nat) ∈ ([55008, 60999, 61999, 62999, 63999, 64999] : List Nat))) (by omega) (by omega) (fun h392 sh392 eh392 fh392 => ?_)
                          have pr393 := gRow.pt fh392 tc390 (by decide) pr379
                          have pr394 := gRow.pt fh392 tc390 (by decide) pr380
                          have pr395 := gCr.pt fh392 tc390 (by decide) pr381
                          have pr396 := gEl.pt fh392 tc390 (by decide) pr382
                          have pr397 := gEl.pt fh392 tc390 (by decide) pr383
                          have pr398 := gEl.pt fh392 tc390 (by decide) pr389
                          have s399 := (fh392 x 8 (fun q => absurd (((tx).symm.trans (congrArg ty q.1)).trans tc390) (by decide))).trans s384
                          have s400 := (fh392 x 9 (fun q => absurd (((tx).symm.trans (congrArg ty q.1)).trans tc390) (by decide))).trans s385
                          have s401 := (fh392 x 4 (fun q => absurd (((tx).symm.trans (congrArg ty q.1)).trans tc390) (by decide))).trans s386
                          have s402 := (fh392 x 5 (fun q => absurd (((tx).symm.trans (congrArg ty q.1)).trans tc390) (by decide))).trans s387
                          have s403 := (fh392 x 6 (fun q => absurd (((tx).symm.trans (congrArg ty q.1)).trans tc390) (by decide))).trans s388
                          have s404 := (fh392 x 7 (fun q => absurd (((tx).symm.trans (congrArg ty q.1)).trans tc390) (by decide))).trans ec390
                          have pr405 := gEl.set (i := n0) (z := t) uq tc390 (by decide) eh392 (by omega) (by omega)
                          refine gz_s 2 (pc' := 189) (L' := [some (.ref x), some (.int (zi a)), some (.int (zi b)), some (.int (zi t)), some (.int (zi jn2v0)), some (.int (zi jn3v0)), some (.int (zi z233)), some (.int (zi k))]) (S' := [.ref x, .ref x]) rfl ?_
                          refine gs_gtk rfl (by decide) rfl sh392.1 tx rfl rfl s399 ?_
                          refine gy_s 2 (pc' := 194) (L' := [some (.ref x), some (.int (zi a)), some (.int (zi b)), some (.int (zi t)), some (.int (zi jn2v0)), some (.int (zi jn3v0)), some (.int (zi z233)), some (.int (zi k))]) (S' := [.int ((zi n0) + (zi 1)), .ref x]) (L2 := [some (.ref x), some (.int (zi a)), some (.int (zi b)), some (.int (zi t)), some (.int (zi jn2v0)), some (.int (zi jn3v0)), some (.int (zi z233)), some (.int (zi k))]) (S2 := [.int (zi (n0 + 1)), .ref x]) rfl (by simp only [zi_add, zi_sub, zi_mul, zi_neg, zi_and1, zi_and7, zi_and15, zi_and31, zi_and255]) (by simp only [zi_add, zi_sub, zi_mul, zi_neg, zi_and1, zi_and7, zi_and15, zi_and31, zi_and255]) ?_
                          refine gs_put rfl (by decide) rfl sh392 tx rfl rfl rfl rfl (Or.inl rfl) (by decide) (by omega) (by omega) (fun h406 sh406 eh406 fh406 => ?_)
                          have pr407 := gRow.pt fh406 tx (by decide) pr393
                          have pr408 := gRow.pt fh406 tx (by decide) pr394
                          have pr409 := gCr.pt fh406 tx (by decide) pr395
                          have pr410 := gEl.pt fh406 tx (by decide) pr396
                          have pr411 := gEl.pt fh406 tx (by decide) pr397
                          have pr412 := gEl.pt fh406 tx (by decide) pr398
                          have pr413 := gEl.pt fh406 tx (by decide) pr405
                          have s414 := (fh406 x 9 (fun q => absurd q.2 (by decide))).trans s400
                          have s415 := (fh406 x 4 (fun q => absurd q.2 (by decide))).trans s401
                          have s416 := (fh406 x 5 (fun q => absurd q.2 (by decide))).trans s402
                          have s417 := (fh406 x 6 (fun q => absurd q.2 (by decide))).trans s403
                          have s418 := (fh406 x 7 (fun q => absurd q.2 (by decide))).trans s404
                          obtain ⟨c2, rc2, hcm⟩ := pr409
                          have hts419 : gTc ty (n0 + 1) h406 := gTc.tell (by omega) pr407 pr408 rc2 tle tsm hcm (by omega) (by omega)
                          refine gz_s 1 (pc' := 198) (L' := [some (.ref x), some (.int (zi a)), some (.int (zi b)), some (.int (zi t)), some (.int (zi jn2v0)), some (.int (zi jn3v0)), some (.int (zi z233)), some (.int (zi k))]) (S' := [.ref x]) rfl ?_
                          refine gs_gtk rfl (by decide) rfl sh406.1 tx rfl rfl eh406 ?_
                          have hsk420 : gSk cf n0 a b t := ⟨by omega, ⟨by omega, by omega⟩, by omega, by omega, fun j h1 h2 => lp334k6 j h1 (by omega)⟩
                          have hsz421 : gSz f n0 a b t (n0 + 1) (n0 + 1) := gSz.ys ecf hsk420 (by omega) (by omega)
                          have hsx422 : gSx ty 64 f n0 a b t h406 := gSx.ys ecf rc2 (by omega) (by omega) hcm hsk420
                          exact gz_end (I := .ireturn) (len := 1) rfl (Or.inl rfl) ⟨sh406, n0 + 1, n0 + 1, rfl, (by omega), (by omega), eh406, (by omega), (by omega), hts419, hsz421, hsx422⟩
                        · refine gy_icF rfl (by decide) (by decide) (by omega) (by omega) hc336 ?_
                          refine gz_s 1 (pc' := 111) (L' := [some (.ref x), some (.int (zi a)), some (.int (zi b)), some (.int (zi t)), some (.int (zi jn2v0)), some (.int (zi jn3v0)), some (.int (zi z233)), some (.int (zi k))]) (S' := [.ref x]) rfl ?_
                          refine gs_gtk rfl (by decide) rfl sh335.1 tx rfl rfl lp334k1 ?_
                          refine gz_s 1 (pc' := 116) (L' := [some (.ref x), some (.int (zi a)), some (.int (zi b)), some (.int (zi t)), some (.int (zi jn2v0)), some (.int (zi jn3v0)), some (.int (zi z233)), some (.int (zi k))]) (S' := [.int (zi k), .ref c1]) rfl ?_
                          have hl423 : 64 ≤ h335.2.2.2.1 c1 ∧ h335.2.2.2.1 c1 ≤ 64 := gJ.rowl (G := gGG) sh335.1 tc1 rfl
                          refine gs_ald rfl (by decide) sh335.1 tc1 rfl rfl rfl (by decide) (fun _ => rfl) (by omega) (by omega) (fun z424 ez424 az424 bz424 => ?_)
                          have hf425 := gRow.at (i := k) (z := z424) lp334k3 tc1 ez424 (by omega) (by omega) (by omega)
                          refine gz_s 1 (pc' := 119) (L' := [some (.ref x), some (.int (zi a)), some (.int (zi b)), some (.int (zi t)), some (.int (zi jn2v0)), some (.int (zi jn3v0)), some (.int (zi z233)), some (.int (zi k))]) (S' := [.int (zi z233), .int (zi z424)]) rfl ?_
                          by_cases hc426 : (z424 : Int) = z233
                          · refine gy_icT (pc' := 124) rfl (by decide) (by decide) (by omega) (by omega) hc426 ?_
                            have hce427 : ∀ j : Int, a ≤ j → j < k + 1 → cf j.toNat = cf a.toNat := fun j h1 h2 => by
                              by_cases e : j = k
                              · subst e; omega
                              · exact lp334k6 j h1 (by omega)
                            refine gy_s 2 (pc' := 104) (L' := [some (.ref x), some (.int (zi a)), some (.int (zi b)), some (.int (zi t)), some (.int (zi jn2v0)), some (.int (zi jn3v0)), some (.int (zi z233)), some (.int ((zi k) + zi 1))]) (S' := []) (L2 := [some (.ref x), some (.int (zi a)), some (.int (zi b)), some (.int (zi t)), some (.int (zi jn2v0)), some (.int (zi jn3v0)), some (.int (zi z233)), some (.int (zi (k + 1)))]) (S2 := []) rfl (by simp only [zi_add, zi_sub, zi_mul, zi_neg, zi_and1, zi_and7, zi_and15, zi_and31, zi_and255]) (by simp only [zi_add, zi_sub, zi_mul, zi_neg, zi_and1, zi_and7, zi_and15, zi_and31, zi_and255]) ?_
                            exact gz_wk (ihlp334 h335 (k + 1) (by omega) sh335 (by omega) (by omega) (by omega) (by omega) (by omega) (by omega) (by omega) (by omega) (by omega) lp334k0 lp334k1 lp334k2 lp334k3 lp334k4 lp334k5 hce427) (gLw.s (gLw.s (gLw.s (gLw.s (gLw.s (gLw.s (gLw.s (gLw.s gLw.z))))))))
                          · refine gy_icF rfl (by decide) (by decide) (by omega) (by omega) hc426 ?_
                            refine gz_s 1 (pc' := 123) (L' := [some (.ref x), some (.int (zi a)), some (.int (zi b)), some (.int (zi t)), some (.int (zi jn2v0)), some (.int (zi jn3v0)), some (.int (zi z233)), some (.int (zi k))]) (S' := [.int (zi 0)]) rfl ?_
                            have hsk428 : ¬ gSk cf n0 a b t := fun w => by have w5 := w.2.2.2.2 k (by omega) (by omega); omega
                            have hsz429 : gSz f n0 a b t 0 n0 := gSz.no ecf hsk428 (by omega) (by omega)
                            have hsx430 : gSx ty 64 f n0 a b t h335 := gSx.no ecf lp334k3 hsk428
                            exact gz_end (I := .ireturn) (len := 1) rfl (Or.inl rfl) ⟨sh335, 0, n0, rfl, (by omega), (by omega), lp334k0, (by omega), (by omega), lp334k2, hsz429, hsx430⟩
                    exact gz_wk (lp334 _ h a (Nat.lt_succ_self _) hS (by omega) (by omega) (by omega) (by omega) (by omega) (by omega) (by omega) (by omega) (by omega) en0 ec1 hytc rc rf rt (fun j h1 h2 => absurd h2 (by omega))) (gLw.s (gLw.s (gLw.s (gLw.s (gLw.s (gLw.s (gLw.s (gLw.s gLw.z))))))))
                  · refine gy_icF rfl (by decide) (by decide) (by omega) (by omega) hc333 ?_
                    refine gz_s 1 (pc' := 100) (L' := [some (.ref x), some (.int (zi a)), some (.int (zi b)), some (.int (zi t)), some (.int (zi jn2v0)), some (.int (zi jn3v0)), some (.int (zi z233)), none]) (S' := [.int (zi 0)]) rfl ?_
                    have hsk431 : ¬ gSk cf n0 a b t := fun w => by obtain ⟨w1, w2, w3, w4, w5⟩ := w; omega
                    have hsz432 : gSz f n0 a b t 0 n0 := gSz.no ecf hsk431 (by omega) (by omega)
                    have hsx433 : gSx ty 64 f n0 a b t h := gSx.no ecf rc hsk431
                    exact gz_end (I := .ireturn) (len := 1) rfl (Or.inl rfl) ⟨hS, 0, n0, rfl, (by omega), (by omega), en0, (by omega), (by omega), hytc, hsz432, hsx433⟩
              · refine gy_icF rfl (by decide) (by decide) (by omega) (by omega) hc231 ?_
                refine gz_s 1 (pc' := 76) (L' := [some (.ref x), some (.int (zi a)), some (.int (zi b)), some (.int (zi t)), some (.int (zi jn2v0)), some (.int (zi jn3v0)), none, none]) (S' := [.int (zi 0)]) rfl ?_
                have hsk434 : ¬ gSk cf n0 a b t := fun w => by obtain ⟨w1, w2, w3, w4, w5⟩ := w; omega
                have hsz435 : gSz f n0 a b t 0 n0 := gSz.no ecf hsk434 (by omega) (by omega)
                have hsx436 : gSx ty 64 f n0 a b t h := gSx.no ecf rc hsk434
                exact gz_end (I := .ireturn) (len := 1) rfl (Or.inl rfl) ⟨hS, 0, n0, rfl, (by omega), (by omega), en0, (by omega), (by omega), hytc, hsz435, hsx436⟩
    by_cases hc437 : (a : Int) < 1
    · refine gy_icT (pc' := 44) rfl (by decide) (by decide) (by omega) (by omega) hc437 ?_
      refine gz_s 1 (pc' := 45) (L' := [some (.ref x), some (.int (zi a)), some (.int (zi b)), some (.int (zi t)), some (.int (zi jn2v0)), none, none, none]) (S' := [.int (zi 0)]) rfl ?_
      exact jn3 0 (by omega)
    · refine gy_icF rfl (by decide) (by decide) (by omega) (by omega) hc437 ?_
      refine gz_s 2 (pc' := 22) (L' := [some (.ref x), some (.int (zi a)), some (.int (zi b)), some (.int (zi t)), some (.int (zi jn2v0)), none, none, none]) (S' := [.int (zi b), .int (zi a)]) rfl ?_
      by_cases hc438 : (b : Int) < a
      · refine gy_icT (pc' := 44) rfl (by decide) (by decide) (by omega) (by omega) hc438 ?_
        refine gz_s 1 (pc' := 45) (L' := [some (.ref x), some (.int (zi a)), some (.int (zi b)), some (.int (zi t)), some (.int (zi jn2v0)), none, none, none]) (S' := [.int (zi 0)]) rfl ?_
        exact jn3 0 (by omega)
      · refine gy_icF rfl (by decide) (by decide) (by omega) (by omega) hc438 ?_
        refine gz_s 2 (pc' := 28) (L' := [some (.ref x), some (.int (zi a)), some (.int (zi b)), some (.int (zi t)), some (.int (zi jn2v0)), none, none, none]) (S' := [.int (zi 63), .int (zi b)]) rfl ?_
        by_cases hc439 : (63 : Int) < b
        · refine gy_icT (pc' := 44) rfl (by decide) (by decide) (by omega) (by omega) hc439 ?_
          refine gz_s 1 (pc' := 45) (L' := [some (.ref x), some (.int (zi a)), some (.int (zi b)), some (.int (zi t)), some (.int (zi jn2v0)), none, none, none]) (S' := [.int (zi 0)]) rfl ?_
          exact jn3 0 (by omega)
        · refine gy_icF rfl (by decide) (by decide) (by omega) (by omega) hc439 ?_
          refine gz_s 1 (pc' := 32) (L' := [some (.ref x), some (.int (zi a)), some (.int (zi b)), some (.int (zi t)), some (.int (zi jn2v0)), none, none, none]) (S' := [.ref x]) rfl ?_
          refine gs_gtk rfl (by decide) rfl hS.1 tx rfl rfl ec1 ?_
          refine gz_s 1 (pc' := 36) (L' := [some (.ref x), some (.int (zi a)), some (.int (zi b)), some (.int (zi t)), some (.int (zi jn2v0)), none, none, none]) (S' := [.int (zi 0), .ref c1]) rfl ?_
          have hl440 : 64 ≤ h.2.2.2.1 c1 ∧ h.2.2.2.1 c1 ≤ 64 := gJ.rowl (G := gGG) hS.1 tc1 rfl
          refine gs_ald rfl (by decide) hS.1 tc1 rfl rfl rfl (by decide) (fun _ => rfl) (by omega) (by omega) (fun z441 ez441 az441 bz441 => ?_)
          have hf442 := gRow.at (i := 0) (z := z441) rc tc1 ez441 (by omega) (by omega) (by omega)
          by_cases hc443 : (z441 : Int) < 0
          · refine gy_ifT (pc' := 44) rfl (by decide) (by decide) (by omega) hc443 ?_
            refine gz_s 1 (pc' := 45) (L' := [some (.ref x), some (.int (zi a)), some (.int (zi b)), some (.int (zi t)), some (.int (zi jn2v0)), none, none, none]) (S' := [.int (zi 0)]) rfl ?_
            exact jn3 0 (by omega)
          · refine gy_ifF rfl (by decide) (by decide) (by omega) hc443 ?_
            refine gz_s 2 (pc' := 45) (L' := [some (.ref x), some (.int (zi a)), some (.int (zi b)), some (.int (zi t)), some (.int (zi jn2v0)), none, none, none]) (S' := [.int (zi 1)]) rfl ?_
            exact jn3 1 (by omega)
  by_cases hc444 : ¬ (a : Int) = 0
  · refine gy_ifT (pc' := 12) rfl (by decide) (by decide) (by omega) hc444 ?_
    refine gz_s 1 (pc' := 13) (L' := [some (.ref x), some (.int (zi a)), some (.int (zi b)), some (.int (zi t)), none, none, none, none]) (S' := [.int (zi 0)]) rfl ?_
    exact jn2 0 (by omega)
  · refine gy_ifF rfl (by decide) (by decide) (by omega) hc444 ?_
    refine gz_s 1 (pc' := 5) (L' := [some (.ref x), some (.int (zi a)), some (.int (zi b)), some (.int (zi t)), none, none, none, none]) (S' := [.int (zi b)]) rfl ?_
    by_cases hc445 : ¬ (b : Int) = 0
    · refine gy_ifT (pc' := 12) rfl (by decide) (by decide) (by omega) hc445 ?_
      refine gz_s 1 (pc' := 13) (L' := [some (.ref x), some (.int (zi a)), some (.int (zi b)), some (.int (zi t)), none, none, none, none]) (S' := [.int (zi 0)]) rfl ?_
      exact jn2 0 (by omega)
    · refine gy_ifF rfl (by decide) (by decide) (by omega) hc445 ?_
      refine gz_s 2 (pc' := 13) (L' := [some (.ref x), some (.int (zi a)), some (.int (zi b)), some (.int (zi t)), none, none, none, none]) (S' := [.int (zi 1)]) rfl ?_
      exact jn2 1 (by omega)
set_option maxRecDepth 20000 in
set_option maxHeartbeats 4000000 in
theorem cl_Draft_forgetScans (d : Nat) {ty : Nat → Nat} {h : gH} (hJ : gJ rT 1027 ty h) (x : Nat) (tx : ty x = 55) (uq : gUq ty) : gz gPP gGG gcn (d + 1) gt128 0 (gent [.ref x] 1) [] h (fun q _ => gSs rT 1027 ty [55008, 64999] h q.2.2 ∧ ∃ n1 : Int, gfin gt128 q.1 q.2.1 = some none ∧ q.2.2.2.2.2.2 x 8 = .int (zi n1) ∧ 0 ≤ n1 ∧ n1 ≤ 10 ∧ (n1 = 0) ∧ (gTc ty 0 q.2.2) ∧ (gOy ty 64 (-1) 64 q.2.2)) := by
  have hS : gSs rT 1027 ty [55008, 64999] h h := gSs.rf hJ
  refine gz_s 2 (pc' := 2) (L' := [some (.ref x)]) (S' := [.int (zi 0), .ref x]) rfl ?_
  refine gs_put rfl (by decide) rfl hS tx rfl rfl rfl rfl (Or.inl rfl) (by decide) (by omega) (by omega) (fun h1 sh1 eh1 fh1 => ?_)
  refine gz_s 1 (pc' := 6) (L' := [some (.ref x)]) (S' := [.ref x]) rfl ?_
  refine gs_gtr rfl (by decide) rfl sh1.1 tx rfl rfl rfl (fun c2 ec2 tc2 => ?_)
  refine gz_s 1 (pc' := 10) (L' := [some (.ref x)]) (S' := [.int (zi (-1)), .ref c2]) rfl ?_
  refine gz_call rfl (by decide) rfl (by decide) (by decide) (gcal_of rfl rfl rfl (Nat.le_of_ble_eq_true rfl) rfl) (cl_fill_lowest _ sh1.1 c2 tc2 (-1) (by omega) uq) (fun q3 _ wq3 => ?_)
  obtain ⟨pq3, oq3, hq3⟩ := q3
  obtain ⟨xq3, gq3, yq3_0⟩ := wq3
  refine ⟨_, gq3, ?_⟩
  show gz gPP gGG gcn _ _ 13 [some (.ref x)] [] hq3 _
  have sq3 : gSs rT 1027 ty [55008, 64999] h hq3 := gSs.tr sh1 xq3 (by decide)
  have s4 := (xq3.2.2.2.2.2 x 8 (by rw [tx]; decide)).trans eh1
  have s5 := (xq3.2.2.2.2.2 x 9 (by rw [tx]; decide)).trans ec2
  obtain ⟨c6, ec6, tc6⟩ := gJ.ref (k := 4) (G := gGG) sq3.1 tx rfl rfl rfl
  obtain ⟨c7, ec7, tc7⟩ := gJ.ref (k := 5) (G := gGG) sq3.1 tx rfl rfl rfl
  have hts8 : gTc ty 0 hq3 := gTc.anew (gRow.mk uq tc6 (by decide) (fun _ => rfl)) (gRow.mk uq tc7 (by decide) (fun _ => rfl)) yq3_0
  exact gz_end (I := .return_) (len := 1) rfl (Or.inl rfl) ⟨sq3, 0, rfl, s4, (by omega), (by omega), (by omega), hts8, yq3_0⟩
