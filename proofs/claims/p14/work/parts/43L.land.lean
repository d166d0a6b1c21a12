/-! ===== methods of the landed text (by program) ===== -/
set_option maxRecDepth 20000 in
set_option maxHeartbeats 4000000 in
theorem cl_Draft_putPoint (d : Nat) {ty : Nat → Nat} {h : gH} (hJ : gJ rT 1027 ty h) (x : Nat) (tx : ty x = 55) (a : Int) (ra : 0 ≤ a ∧ a ≤ 31) (b : Int) (rb : 0 ≤ b ∧ b ≤ 31) (v : Int) (rv : 0 ≤ v ∧ v ≤ 255) (w0 : Int) (ew0 : h.2.2.2.2 x 1 = .int (zi w0)) (rw0 : 0 ≤ w0 ∧ w0 ≤ 32) (h0 : Int) (eh0 : h.2.2.2.2 x 2 = .int (zi h0)) (rh0 : 0 ≤ h0 ∧ h0 ≤ 32) (f : Nat → Int) (uq : gUq ty) (hyf59 : gRn 1024 ty 59 f h) : gz gPP gGG gcn (d + 1) gt87 0 (gent [.ref x, .int (zi a), .int (zi b), .int (zi v)] 5) [] h (fun q _ => gSs rT 1027 ty [55001, 55002, 59999] h q.2.2 ∧ ∃ z w1 h1 : Int, gfin gt87 q.1 q.2.1 = some (some (.int (zi z))) ∧ 0 ≤ z ∧ z ≤ 255 ∧ q.2.2.2.2.2.2 x 1 = .int (zi w1) ∧ 0 ≤ w1 ∧ w1 ≤ 32 ∧ q.2.2.2.2.2.2 x 2 = .int (zi h1) ∧ 0 ≤ h1 ∧ h1 ≤ 32 ∧ (1 ≤ w1) ∧ (1 ≤ h1) ∧ (z = f (b * 32 + a).toNat) ∧ (a < w0 → w1 = w0) ∧ (w0 ≤ a → w1 = a + 1) ∧ (b < h0 → h1 = h0) ∧ (h0 ≤ b → h1 = b + 1) ∧ (gRn 1024 ty 59 (gfu f (b * 32 + a).toNat v) q.2.2)) := by
  have hS : gSs rT 1027 ty [55001, 55002, 59999] h h := gSs.rf hJ
  refine gz_s 1 (pc' := 1) (L' := [some (.ref x), some (.int (zi a)), some (.int (zi b)), some (.int (zi v)), none]) (S' := [.ref x]) rfl ?_
  refine gs_gtr rfl (by decide) rfl hS.1 tx rfl rfl rfl (fun c1 ec1 tc1 => ?_)
  refine gy_s 5 (pc' := 10) (L' := [some (.ref x), some (.int (zi a)), some (.int (zi b)), some (.int (zi v)), none]) (S' := [.int (((zi b) * (zi 32)) + (zi a)), .ref c1]) (L2 := [some (.ref x), some (.int (zi a)), some (.int (zi b)), some (.int (zi v)), none]) (S2 := [.int (zi ((b * 32) + a)), .ref c1]) rfl (by simp only [zi_add, zi_sub, zi_mul, zi_neg, zi_and1, zi_and7, zi_and15, zi_and31, zi_and255]) (by simp only [zi_add, zi_sub, zi_mul, zi_neg, zi_and1, zi_and7, zi_and15, zi_and31, zi_and255]) ?_
  have hl2 : 1024 ≤ h.2.2.2.1 c1 ∧ h.2.2.2.1 c1 ≤ 1024 := gJ.rowl (G := gGG) hS.1 tc1 rfl
  refine gs_ald rfl (by decide) hS.1 tc1 rfl rfl rfl (by decide) (fun _ => rfl) (by omega) (by omega) (fun z3 ez3 az3 bz3 => ?_)
  have hf4 := gRn.at (i := (b * 32) + a) (z := z3) hyf59 tc1 ez3 (by omega) (by omega) (by omega)
  have hfx : z3 = f (b * 32 + a).toNat := ((congrArg f (by omega)).trans hf4).symm
  refine gz_s 2 (pc' := 14) (L' := [some (.ref x), some (.int (zi a)), some (.int (zi b)), some (.int (zi v)), some (.int (zi z3))]) (S' := [.ref x]) rfl ?_
  refine gs_gtk rfl (by decide) rfl hS.1 tx rfl rfl ec1 ?_
  refine gy_s 6 (pc' := 24) (L' := [some (.ref x), some (.int (zi a)), some (.int (zi b)), some (.int (zi v)), some (.int (zi z3))]) (S' := [.int (zi v), .int (((zi b) * (zi 32)) + (zi a)), .ref c1]) (L2 := [some (.ref x), some (.int (zi a)), some (.int (zi b)), some (.int (zi v)), some (.int (zi z3))]) (S2 := [.int (zi v), .int (zi ((b * 32) + a)), .ref c1]) rfl (by simp only [zi_add, zi_sub, zi_mul, zi_neg, zi_and1, zi_and7, zi_and15, zi_and31, zi_and255]) (by simp only [zi_add, zi_sub, zi_mul, zi_neg, zi_and1, zi_and7, zi_and15, zi_and31, zi_and255]) ?_
  have hl5 : 1024 ≤ h.2.2.2.1 c1 ∧ h.2.2.2.1 c1 ≤ 1024 := gJ.rowl (G := gGG) hS.1 tc1 rfl
  refine gs_ast rfl (by decide) hS tc1 rfl rfl rfl (by decide) (fun _ => rfl) (by omega) (by omega) (fun _ => (by decide : (59999 : Nat) ∈ ([55001, 55002, 59999] : List Nat))) (by omega) (by omega) (fun h6 sh6 eh6 fh6 => ?_)
  have pr7 := gRn.put (i := (b * 32) + a) (z := v) uq tc1 (by decide) fh6 eh6 (by omega) (by omega) hyf59
  have s8 := (fh6 x 1 (fun q => absurd (((tx).symm.trans (congrArg ty q.1)).trans tc1) (by decide))).trans ew0
  have s9 := (fh6 x 2 (fun q => absurd (((tx).symm.trans (congrArg ty q.1)).trans tc1) (by decide))).trans eh0
  have s10 := (fh6 x 0 (fun q => absurd (((tx).symm.trans (congrArg ty q.1)).trans tc1) (by decide))).trans ec1
  have pr11 := gEl.set (i := (b * 32) + a) (z := v) uq tc1 (by decide) eh6 (by omega) (by omega)
  refine gz_s 2 (pc' := 27) (L' := [some (.ref x), some (.int (zi a)), some (.int (zi b)), some (.int (zi v)), some (.int (zi z3))]) (S' := [.ref x, .ref x]) rfl ?_
  refine gs_gtk rfl (by decide) rfl sh6.1 tx rfl rfl s8 ?_
  refine gy_s 3 (pc' := 33) (L' := [some (.ref x), some (.int (zi a)), some (.int (zi b)), some (.int (zi v)), some (.int (zi z3))]) (S' := [.int ((zi a) + (zi 1)), .int (zi w0), .ref x]) (L2 := [some (.ref x), some (.int (zi a)), some (.int (zi b)), some (.int (zi v)), some (.int (zi z3))]) (S2 := [.int (zi (a + 1)), .int (zi w0), .ref x]) rfl (by simp only [zi_add, zi_sub, zi_mul, zi_neg, zi_and1, zi_and7, zi_and15, zi_and31, zi_and255]) (by simp only [zi_add, zi_sub, zi_mul, zi_neg, zi_and1, zi_and7, zi_and15, zi_and31, zi_and255]) ?_
  refine gz_call rfl (by decide) rfl (by decide) (by decide) (gcal_of rfl rfl rfl (Nat.le_of_ble_eq_true rfl) rfl) (cl_Math_max _ sh6.1 w0 (by omega) (a + 1) (by omega) ) (fun q12 _ wq12 => ?_)
  obtain ⟨pq12, oq12, hq12⟩ := q12
  obtain ⟨xq12, zq12, gq12, aq12, bq12, uq12_0, uq12_1, uq12_2⟩ := wq12
  refine ⟨_, gq12, ?_⟩
  show gz gPP gGG gcn _ _ 36 [some (.ref x), some (.int (zi a)), some (.int (zi b)), some (.int (zi v)), some (.int (zi z3))] [.int (zi zq12), .ref x] hq12 _
  have sq12 : gSs rT 1027 ty [55001, 55002, 59999] h hq12 := gSs.tr sh6 xq12 (by decide)
  have s13 := (xq12.2.2.2.2.2 x 1 (by rw [tx]; decide)).trans s8
  have s14 := (xq12.2.2.2.2.2 x 2 (by rw [tx]; decide)).trans s9
  have s15 := (xq12.2.2.2.2.2 x 0 (by rw [tx]; decide)).trans s10
  have pr16 := gRn.fr xq12.2 (by decide) pr7
  have pr17 := gEl.fr xq12.2 (by decide) (fun _ => rfl) pr11
  refine gs_put rfl (by decide) rfl sq12 tx rfl rfl rfl rfl (Or.inl rfl) (by decide) (by omega) (by omega) (fun h18 sh18 eh18 fh18 => ?_)
  have pr19 := gRn.pt fh18 tx (by decide) pr16
  have pr20 := gEl.pt fh18 tx (by decide) pr17
  have s21 := (fh18 x 2 (fun q => absurd q.2 (by decide))).trans s14
  have s22 := (fh18 x 0 (fun q => absurd q.2 (by decide))).trans s15
  refine gz_s 2 (pc' := 41) (L' := [some (.ref x), some (.int (zi a)), some (.int (zi b)), some (.int (zi v)), some (.int (zi z3))]) (S' := [.ref x, .ref x]) rfl ?_
  refine gs_gtk rfl (by decide) rfl sh18.1 tx rfl rfl s21 ?_
  refine gy_s 3 (pc' := 47) (L' := [some (.ref x), some (.int (zi a)), some (.int (zi b)), some (.int (zi v)), some (.int (zi z3))]) (S' := [.int ((zi b) + (zi 1)), .int (zi h0), .ref x]) (L2 := [some (.ref x), some (.int (zi a)), some (.int (zi b)), some (.int (zi v)), some (.int (zi z3))]) (S2 := [.int (zi (b + 1)), .int (zi h0), .ref x]) rfl (by simp only [zi_add, zi_sub, zi_mul, zi_neg, zi_and1, zi_and7, zi_and15, zi_and31, zi_and255]) (by simp only [zi_add, zi_sub, zi_mul, zi_neg, zi_and1, zi_and7, zi_and15, zi_and31, zi_and255]) ?_
  refine gz_call rfl (by decide) rfl (by decide) (by decide) (gcal_of rfl rfl rfl (Nat.le_of_ble_eq_true rfl) rfl) (cl_Math_max _ sh18.1 h0 (by omega) (b + 1) (by omega) ) (fun q23 _ wq23 => ?_)
  obtain ⟨pq23, oq23, hq23⟩ := q23
  obtain ⟨xq23, zq23, gq23, aq23, bq23, uq23_0, uq23_1, uq23_2⟩ := wq23
  refine ⟨_, gq23, ?_⟩
  show gz gPP gGG gcn _ _ 50 [some (.ref x), some (.int (zi a)), some (.int (zi b)), some (.int (zi v)), some (.int (zi z3))] [.int (zi zq23), .ref x] hq23 _
  have sq23 : gSs rT 1027 ty [55001, 55002, 59999] h hq23 := gSs.tr sh18 xq23 (by decide)
  have s24 := (xq23.2.2.2.2.2 x 2 (by rw [tx]; decide)).trans s21
  have s25 := (xq23.2.2.2.2.2 x 0 (by rw [tx]; decide)).trans s22
  have s26 := (xq23.2.2.2.2.2 x 1 (by rw [tx]; decide)).trans eh18
  have pr27 := gRn.fr xq23.2 (by decide) pr19
  have pr28 := gEl.fr xq23.2 (by decide) (fun _ => rfl) pr20
  refine gs_put rfl (by decide) rfl sq23 tx rfl rfl rfl rfl (Or.inl rfl) (by decide) (by omega) (by omega) (fun h29 sh29 eh29 fh29 => ?_)
  have pr30 := gRn.pt fh29 tx (by decide) pr27
  have pr31 := gEl.pt fh29 tx (by decide) pr28
  have s32 := (fh29 x 0 (fun q => absurd q.2 (by decide))).trans s25
  have s33 := (fh29 x 1 (fun q => absurd q.2 (by decide))).trans s26
  refine gz_s 1 (pc' := 55) (L' := [some (.ref x), some (.int (zi a)), some (.int (zi b)), some (.int (zi v)), some (.int (zi z3))]) (S' := [.int (zi z3)]) rfl ?_
  have hrw34 : gRn 1024 ty 59 (gfu f (b * 32 + a).toNat v) h29 := by
    rw [(by omega : b * 32 + a = (b * 32) + a)]
    exact pr30
  exact gz_end (I := .ireturn) (len := 1) rfl (Or.inl rfl) ⟨sh29, z3, zq12, zq23, rfl, (by omega), (by omega), s33, (by omega), (by omega), eh29, (by omega), (by omega), (by omega), (by omega), (by omega), (by omega), (by omega), (by omega), (by omega), hrw34⟩
set_option maxRecDepth 20000 in
set_option maxHeartbeats 4000000 in
theorem cl_fill_lowest (d : Nat) {ty : Nat → Nat} {h : gH} (hJ : gJ rT 1027 ty h) (a : Nat) (ta : ty a = 64) (v : Int) (rv : (-1) ≤ v ∧ v ≤ 3) (uq : gUq ty) : gz gPP gGG gcn (d + 0) gt5 0 (gent [.ref a, .int (zi v)] 4) [] h (fun q _ => gSs rT 1027 ty [64999] h q.2.2 ∧ gfin gt5 q.1 q.2.1 = some none ∧ (gOy ty 64 v 64 q.2.2)) := by
  have hS : gSs rT 1027 ty [64999] h h := gSs.rf hJ
  refine gz_s 3 (pc' := 3) (L' := [some (.ref a), some (.int (zi v)), some (.int (zi 0)), none]) (S' := [.ref a]) rfl ?_
  refine gs_len rfl (by decide) hS.1 ta rfl rfl rfl (fun z1 ez1 az1 bz1 => ?_)
  have cz1 : 64 ≤ z1 ∧ z1 ≤ 64 := ⟨az1, bz1⟩
  refine gz_s 1 (pc' := 5) (L' := [some (.ref a), some (.int (zi v)), some (.int (zi 0)), some (.int (zi z1))]) (S' := []) rfl ?_
  have hoy3 : gOy ty 64 v 0 h := ⟨_, gRow.mk uq ta (by decide) (fun _ => rfl), fun j hj => absurd hj (by omega)⟩
  have lp2 : ∀ (fu : Nat) (h4 : gH) (k : Int), (65 - k).toNat < fu → gSs rT 1027 ty [64999] h h4 → (0 ≤ k ∧ k ≤ 64) → gOy ty 64 v k h4 → gz gPP gGG gcn (d + 0) gt5 5 [some (.ref a), some (.int (zi v)), some (.int (zi k)), some (.int (zi z1))] [] h4 (fun q _ => gSs rT 1027 ty [64999] h q.2.2 ∧ gfin gt5 q.1 q.2.1 = some none ∧ (gOy ty 64 v 64 q.2.2)) := by
    intro fu
    induction fu with
    | zero => intro h4 k hm; exact absurd hm (Nat.not_lt_zero _)
    | succ fu ihlp2 =>
      intro h4 k lp2m sh4 lp2f0 lp2k0
      have hln : h4.2.2.2.1 a = h.2.2.2.1 a := congrFun sh4.2.2.2.2.1 a
      refine gz_s 2 (pc' := 7) (L' := [some (.ref a), some (.int (zi v)), some (.int (zi k)), some (.int (zi z1))]) (S' := [.int (zi z1), .int (zi k)]) rfl ?_
      by_cases hc5 : (z1 : Int) ≤ k
      · refine gy_icT (pc' := 20) rfl (by decide) (by decide) (by omega) (by omega) hc5 ?_
        have hoy6 : gOy ty 64 v 64 h4 := by
          have e9 := lp2k0
          rw [(by omega : k = 64)] at e9
          exact e9
        exact gz_end (I := .return_) (len := 1) rfl (Or.inl rfl) ⟨sh4, rfl, hoy6⟩
      · refine gy_icF rfl (by decide) (by decide) (by omega) (by omega) hc5 ?_
        refine gz_s 3 (pc' := 13) (L' := [some (.ref a), some (.int (zi v)), some (.int (zi k)), some (.int (zi z1))]) (S' := [.int (zi v), .int (zi k), .ref a]) rfl ?_
        obtain ⟨f9, rf9, of9⟩ := lp2k0
        have hl7 : 64 ≤ h4.2.2.2.1 a ∧ h4.2.2.2.1 a ≤ 64 := gJ.rowl (G := gGG) sh4.1 ta rfl
        refine gs_ast rfl (by decide) sh4 ta rfl rfl rfl (by decide) (fun _ => rfl) (by omega) (by omega) (fun _ => (by decide : (64999 : Nat) ∈ ([64999] : List Nat))) (by omega) (by omega) (fun h8 sh8 eh8 fh8 => ?_)
        have pr9 := gRow.put (i := k) (z := v) uq ta (by decide) fh8 eh8 (by omega) (by omega) rf9
        have pr10 := gEl.set (i := k) (z := v) uq ta (by decide) eh8 (by omega) (by omega)
        have hoy11 : gOy ty 64 v (k + 1) h8 := gOy.step (by omega) pr9 of9
        refine gy_s 2 (pc' := 5) (L' := [some (.ref a), some (.int (zi v)), some (.int ((zi k) + zi 1)), some (.int (zi z1))]) (S' := []) (L2 := [some (.ref a), some (.int (zi v)), some (.int (zi (k + 1))), some (.int (zi z1))]) (S2 := []) rfl (by simp only [zi_add, zi_sub, zi_mul, zi_neg, zi_and1, zi_and7, zi_and15, zi_and31, zi_and255]) (by simp only [zi_add, zi_sub, zi_mul, zi_neg, zi_and1, zi_and7, zi_and15, zi_and31, zi_and255]) ?_
        exact gz_wk (ihlp2 h8 (k + 1) (by omega) sh8 (by omega) hoy11) (gLw.s (gLw.s (gLw.s (gLw.s gLw.z))))
  exact gz_wk (lp2 _ h 0 (Nat.lt_succ_self _) hS (by omega) hoy3) (gLw.s (gLw.s (gLw.s (gLw.s gLw.z))))
set_option maxRecDepth 20000 in
set_option maxHeartbeats 4000000 in
theorem cl_fill_tables (d : Nat) {ty : Nat → Nat} {h : gH} (hJ : gJ rT 1027 ty h) (a : Nat) (ta : ty a = 53) (v : Int) (rv : 0 ≤ v ∧ v ≤ 255) (uq : gUq ty) : gz gPP gGG gcn (d + 0) gt5 0 (gent [.ref a, .int (zi v)] 4) [] h (fun q _ => gSs rT 1027 ty [53999] h q.2.2 ∧ gfin gt5 q.1 q.2.1 = some none ∧ (gOy ty 53 v 256 q.2.2)) := by
  have hS : gSs rT 1027 ty [53999] h h := gSs.rf hJ
  refine gz_s 3 (pc' := 3) (L' := [some (.ref a), some (.int (zi v)), some (.int (zi 0)), none]) (S' := [.ref a]) rfl ?_
  refine gs_len rfl (by decide) hS.1 ta rfl rfl rfl (fun z1 ez1 az1 bz1 => ?_)
  have cz1 : 256 ≤ z1 ∧ z1 ≤ 256 := ⟨az1, bz1⟩
  refine gz_s 1 (pc' := 5) (L' := [some (.ref a), some (.int (zi v)), some (.int (zi 0)), some (.int (zi z1))]) (S' := []) rfl ?_
  have hoy3 : gOy ty 53 v 0 h := ⟨_, gRow.mk uq ta (by decide) (fun _ => rfl), fun j hj => absurd hj (by omega)⟩
  have lp2 : ∀ (fu : Nat) (h4 : gH) (k : Int), (257 - k).toNat < fu → gSs rT 1027 ty [53999] h h4 → (0 ≤ k ∧ k ≤ 256) → gOy ty 53 v k h4 → gz gPP gGG gcn (d + 0) gt5 5 [some (.ref a), some (.int (zi v)), some (.int (zi k)), some (.int (zi z1))] [] h4 (fun q _ => gSs rT 1027 ty [53999] h q.2.2 ∧ gfin gt5 q.1 q.2.1 = some none ∧ (gOy ty 53 v 256 q.2.2)) := by
    intro fu
    induction fu with
    | zero => intro h4 k hm; exact absurd hm (Nat.not_lt_zero _)
    | succ fu ihlp2 =>
      intro h4 k lp2m sh4 lp2f0 lp2k0
      have hln : h4.2.2.2.1 a = h.2.2.2.1 a := congrFun sh4.2.2.2.2.1 a
      refine gz_s 2 (pc' := 7) (L' := [some (.ref a), some (.int (zi v)), some (.int (zi k)), some (.int (zi z1))]) (S' := [.int (zi z1), .int (zi k)]) rfl ?_
      by_cases hc5 : (z1 : Int) ≤ k
      · refine gy_icT (pc' := 20) rfl (by decide) (by decide) (by omega) (by omega) hc5 ?_
        have hoy6 : gOy ty 53 v 256 h4 := by
          have e9 := lp2k0
          rw [(by omega : k = 256)] at e9
          exact e9
        exact gz_end (I := .return_) (len := 1) rfl (Or.inl rfl) ⟨sh4, rfl, hoy6⟩
      · refine gy_icF rfl (by decide) (by decide) (by omega) (by omega) hc5 ?_
        refine gz_s 3 (pc' := 13) (L' := [some (.ref a), some (.int (zi v)), some (.int (zi k)), some (.int (zi z1))]) (S' := [.int (zi v), .int (zi k), .ref a]) rfl ?_
        obtain ⟨f9, rf9, of9⟩ := lp2k0
        have hl7 : 256 ≤ h4.2.2.2.1 a ∧ h4.2.2.2.1 a ≤ 256 := gJ.rowl (G := gGG) sh4.1 ta rfl
        refine gs_ast rfl (by decide) sh4 ta rfl rfl rfl (by decide) (fun _ => rfl) (by omega) (by omega) (fun _ => (by decide : (53999 : Nat) ∈ ([53999] : List Nat))) (by omega) (by omega) (fun h8 sh8 eh8 fh8 => ?_)
        have pr9 := gRow.put (i := k) (z := v) uq ta (by decide) fh8 eh8 (by omega) (by omega) rf9
        have pr10 := gEl.set (i := k) (z := v) uq ta (by decide) eh8 (by omega) (by omega)
        have hoy11 : gOy ty 53 v (k + 1) h8 := gOy.step (by omega) pr9 of9
        refine gy_s 2 (pc' := 5) (L' := [some (.ref a), some (.int (zi v)), some (.int ((zi k) + zi 1)), some (.int (zi z1))]) (S' := []) (L2 := [some (.ref a), some (.int (zi v)), some (.int (zi (k + 1))), some (.int (zi z1))]) (S2 := []) rfl (by simp only [zi_add, zi_sub, zi_mul, zi_neg, zi_and1, zi_and7, zi_and15, zi_and31, zi_and255]) (by simp only [zi_add, zi_sub, zi_mul, zi_neg, zi_and1, zi_and7, zi_and15, zi_and31, zi_and255]) ?_
        exact gz_wk (ihlp2 h8 (k + 1) (by omega) sh8 (by omega) hoy11) (gLw.s (gLw.s (gLw.s (gLw.s gLw.z))))
  exact gz_wk (lp2 _ h 0 (Nat.lt_succ_self _) hS (by omega) hoy3) (gLw.s (gLw.s (gLw.s (gLw.s gLw.z))))
set_option maxRecDepth 20000 in
set_option maxHeartbeats 4000000 in
theorem cl_Arrays_rangeCheck (d : Nat) {ty : Nat → Nat} {h : gH} (hJ : gJ rT 1027 ty h) (n : Int) (rn : 0 ≤ n ∧ n ≤ 1000000) (f : Int) (rf : 0 ≤ f ∧ f ≤ 1000000) (t : Int) (rt : 0 ≤ t ∧ t ≤ 1000000) (pp0 : f ≤ t) (pp1 : t ≤ n) : gz gPP gGG gcn (d + 0) gt64 0 (gent [.int (zi n), .int (zi f), .int (zi t)] 3) [] h (fun q _ => gSs rT 1027 ty [] h q.2.2 ∧ gfin gt64 q.1 q.2.1 = some none) := by
  have hS : gSs rT 1027 ty [] h h := gSs.rf hJ
  refine gz_s 2 (pc' := 2) (L' := [some (.int (zi n)), some (.int (zi f)), some (.int (zi t))]) (S' := [.int (zi t), .int (zi f)]) rfl ?_
  refine gy_icT (pc' := 46) rfl (by decide) (by decide) (by omega) (by omega) (by first | (simp [zc]; done) | (simp only [zc]; omega)) ?_
  refine gz_s 1 (pc' := 47) (L' := [some (.int (zi n)), some (.int (zi f)), some (.int (zi t))]) (S' := [.int (zi f)]) rfl ?_
  refine gy_ifT (pc' := 59) rfl (by decide) (by decide) (by omega) (by first | (simp [zc]; done) | (simp only [zc]; omega)) ?_
  refine gz_s 2 (pc' := 61) (L' := [some (.int (zi n)), some (.int (zi f)), some (.int (zi t))]) (S' := [.int (zi n), .int (zi t)]) rfl ?_
  refine gy_icT (pc' := 73) rfl (by decide) (by decide) (by omega) (by omega) (by first | (simp [zc]; done) | (simp only [zc]; omega)) ?_
  exact gz_end (I := .return_) (len := 1) rfl (Or.inl rfl) ⟨hS, rfl⟩
set_option maxRecDepth 20000 in
set_option maxHeartbeats 4000000 in
theorem cl_fill_range (d : Nat) {ty : Nat → Nat} {h : gH} (hJ : gJ rT 1027 ty h) (a : Nat) (ta : ty a = 64) (f : Int) (rf : 0 ≤ f ∧ f ≤ 63) (t : Int) (rt : 1 ≤ t ∧ t ≤ 64) (v : Int) (rv : 0 ≤ v ∧ v ≤ 3) (cf : Nat → Int) (pp0 : f ≤ t) (uq : gUq ty) (hyf64 : gRow ty 64 cf h) (hyce2 : ∀ j : Int, f ≤ j → j < t → v + 1 ≤ gcr (cf j.toNat)) : gz gPP gGG gcn (d + 1) gt63 0 (gent [.ref a, .int (zi f), .int (zi t), .int (zi v)] 5) [] h (fun q _ => gSs rT 1027 ty [64999] h q.2.2 ∧ gfin gt63 q.1 q.2.1 = some none ∧ (gCr ty cf f t v q.2.2)) := by
  have hS : gSs rT 1027 ty [64999] h h := gSs.rf hJ
  refine gz_s 1 (pc' := 1) (L' := [some (.ref a), some (.int (zi f)), some (.int (zi t)), some (.int (zi v)), none]) (S' := [.ref a]) rfl ?_
  refine gs_len rfl (by decide) hS.1 ta rfl rfl rfl (fun z1 ez1 az1 bz1 => ?_)
  have cz1 : 64 ≤ z1 ∧ z1 ≤ 64 := ⟨az1, bz1⟩
  refine gz_s 2 (pc' := 4) (L' := [some (.ref a), some (.int (zi f)), some (.int (zi t)), some (.int (zi v)), none]) (S' := [.int (zi t), .int (zi f), .int (zi z1)]) rfl ?_
  refine gz_call rfl (by decide) rfl (by decide) (by decide) (gcal_of rfl rfl rfl (Nat.le_of_ble_eq_true rfl) rfl) (cl_Arrays_rangeCheck _ hS.1 z1 (by omega) f (by omega) t (by omega) (by omega) (by omega)) (fun q2 _ wq2 => ?_)
  obtain ⟨pq2, oq2, hq2⟩ := q2
  obtain ⟨xq2, gq2⟩ := wq2
  refine ⟨_, gq2, ?_⟩
  show gz gPP gGG gcn _ _ 7 [some (.ref a), some (.int (zi f)), some (.int (zi t)), some (.int (zi v)), none] [] hq2 _
  have sq2 : gSs rT 1027 ty [64999] h hq2 := gSs.tr hS xq2 (by decide)
  have pr3 := gRow.fr xq2.2 (by decide) hyf64
  refine gz_s 2 (pc' := 10) (L' := [some (.ref a), some (.int (zi f)), some (.int (zi t)), some (.int (zi v)), some (.int (zi f))]) (S' := []) rfl ?_
  have hcr5 : gCr ty cf f f v hq2 := ⟨cf, pr3, gCm.zero⟩
  have lp4 : ∀ (fu : Nat) (h6 : gH) (k : Int), (65 - k).toNat < fu → gSs rT 1027 ty [64999] h h6 → (0 ≤ k ∧ k ≤ 64) → (f ≤ k) → (k ≤ t) → (∀ j : Int, f ≤ j → j < t → v + 1 ≤ gcr (cf j.toNat)) → gCr ty cf f k v h6 → gz gPP gGG gcn (d + 1) gt63 10 [some (.ref a), some (.int (zi f)), some (.int (zi t)), some (.int (zi v)), some (.int (zi k))] [] h6 (fun q _ => gSs rT 1027 ty [64999] h q.2.2 ∧ gfin gt63 q.1 q.2.1 = some none ∧ (gCr ty cf f t v q.2.2)) := by
    intro fu
    induction fu with
    | zero => intro h6 k hm; exact absurd hm (Nat.not_lt_zero _)
    | succ fu ihlp4 =>
      intro h6 k lp4m sh6 lp4f0 lp4f1 lp4f2 lp4k0 lp4k1
      refine gz_s 2 (pc' := 13) (L' := [some (.ref a), some (.int (zi f)), some (.int (zi t)), some (.int (zi v)), some (.int (zi k))]) (S' := [.int (zi t), .int (zi k)]) rfl ?_
      by_cases hc7 : (t : Int) ≤ k
      · refine gy_icT (pc' := 27) rfl (by decide) (by decide) (by omega) (by omega) hc7 ?_
        have hcr8 : gCr ty cf f t v h6 := by
          have e9 := lp4k1
          rw [(by omega : k = t)] at e9
          exact e9
        exact gz_end (I := .return_) (len := 1) rfl (Or.inl rfl) ⟨sh6, rfl, hcr8⟩
      · refine gy_icF rfl (by decide) (by decide) (by omega) (by omega) hc7 ?_
        refine gz_s 3 (pc' := 20) (L' := [some (.ref a), some (.int (zi f)), some (.int (zi t)), some (.int (zi v)), some (.int (zi k))]) (S' := [.int (zi v), .int (zi k), .ref a]) rfl ?_
        obtain ⟨c2, rc2, hcm⟩ := lp4k1
        have hl9 : 64 ≤ h6.2.2.2.1 a ∧ h6.2.2.2.1 a ≤ 64 := gJ.rowl (G := gGG) sh6.1 ta rfl
        refine gs_ast rfl (by decide) sh6 ta rfl rfl rfl (by decide) (fun _ => rfl) (by omega) (by omega) (fun _ => (by decide : (64999 : Nat) ∈ ([64999] : List Nat))) (by omega) (by omega) (fun h10 sh10 eh10 fh10 => ?_)
        have pr11 := gRow.put (i := k) (z := v) uq ta (by decide) fh10 eh10 (by omega) (by omega) rc2
        have pr12 := gEl.set (i := k) (z := v) uq ta (by decide) eh10 (by omega) (by omega)
        have e7 := lp4k0 k (by omega) (by omega)
        have hcr13 : gCr ty cf f (k + 1) v h10 := ⟨_, pr11, hcm.step (by omega) (by omega) e7 (by omega)⟩
        refine gy_s 2 (pc' := 10) (L' := [some (.ref a), some (.int (zi f)), some (.int (zi t)), some (.int (zi v)), some (.int ((zi k) + zi 1))]) (S' := []) (L2 := [some (.ref a), some (.int (zi f)), some (.int (zi t)), some (.int (zi v)), some (.int (zi (k + 1)))]) (S2 := []) rfl (by simp only [zi_add, zi_sub, zi_mul, zi_neg, zi_and1, zi_and7, zi_and15, zi_and31, zi_and255]) (by simp only [zi_add, zi_sub, zi_mul, zi_neg, zi_and1, zi_and7, zi_and15, zi_and31, zi_and255]) ?_
        exact gz_wk (ihlp4 h10 (k + 1) (by omega) sh10 (by omega) (by omega) (by omega) lp4k0 hcr13) (gLw.s (gLw.s (gLw.s (gLw.s (gLw.s gLw.z)))))
  exact gz_wk (lp4 _ hq2 f (Nat.lt_succ_self _) sq2 (by omega) (by omega) (by omega) hyce2 hcr5) (gLw.s (gLw.s (gLw.s (gLw.s (gLw.s gLw.z)))))
set_option maxRecDepth 20000 in
set_option maxHeartbeats 4000000 in
theorem cl_Draft_tellScan (d : Nat) {ty : Nat → Nat} {h : gH} (hJ : gJ rT 1027 ty h) (x : Nat) (tx : ty x = 55) (a : Int) (ra : (-2147483648) ≤ a ∧ a ≤ 2147483647) (b : Int) (rb : (-2147483648) ≤ b ∧ b ≤ 2147483647) (t : Int) (rt : (-2147483648) ≤ t ∧ t ≤ 2147483647) (n0 : Int) (en0 : h.2.2.2.2 x 8 = .int (zi n0)) (rn0 : 0 ≤ n0 ∧ n0 ≤ 10) (S : gSS) (uq : gUq ty) (hytc : gTc ty n0 h) (hyxr : gXr ty S h) : gz gPP gGG gcn (d + 2) gt62 0 (gent [.ref x, .int (zi a), .int (zi b), .int (zi t)] 8) [] h (fun q _ => gSs rT 1027 ty [55008, 60999, 61999, 62999, 63999, 64999] h q.2.2 ∧ ∃ z n1 : Int, gfin gt62 q.1 q.2.1 = some (some (.int (zi z))) ∧ 0 ≤ z ∧ z ≤ 10 ∧ q.2.2.2.2.2.2 x 8 = .int (zi n1) ∧ 0 ≤ n1 ∧ n1 ≤ 10 ∧ (gTc ty n1 q.2.2) ∧ (gSz S.1.2.2.2.2.2.2 n0 a b t z n1) ∧ (gXr ty (eQ2 n0 S a b t) q.2.2)) := by
  have hS : gSs rT 1027 ty [55008, 60999, 61999, 62999, 63999, 64999] h h := gSs.rf hJ
  have hts0 := hytc
  obtain ⟨tf, tt, cf, rf, rt, rc, tle, tsm⟩ := hts0
  obtain ⟨xr1, xr2, xr3, xr4, xr5, xr6, xr7⟩ := hyxr
  obtain ⟨c8, ec8, tc8⟩ := gJ.ref (k := 4) (G := gGG) hS.1 tx rfl rfl rfl
  have etf := gRow.eqn (N := 10) (by decide) rf xr3 tc8
  obtain ⟨c9, ec9, tc9⟩ := gJ.ref (k := 5) (G := gGG) hS.1 tx rfl rfl rfl
  have ett := gRow.eqn (N := 10) (by decide) rt xr4 tc9
  obtain ⟨c10, ec10, tc10⟩ := gJ.ref (k := 9) (G := gGG) hS.1 tx rfl rfl rfl
  have ecf := gRow.eqn (N := 64) (by decide) rc xr7 tc10
  refine gz_s 1 (pc' := 1) (L' := [some (.ref x), some (.int (zi a)), some (.int (zi b)), some (.int (zi t)), none, none, none, none]) (S' := [.int (zi a)]) rfl ?_
  have jn11 : ∀ (jn11v0 : Int), ((0 ≤ jn11v0) ∧ (jn11v0 ≤ 1) ∧ (jn11v0 = 1 ↔ (a = 0 ∧ b = 0))) → gz gPP gGG gcn (d + 2) gt62 13 [some (.ref x), some (.int (zi a)), some (.int (zi b)), some (.int (zi t)), none, none, none, none] [.int (zi jn11v0)] h (fun q _ => gSs rT 1027 ty [55008, 60999, 61999, 62999, 63999, 64999] h q.2.2 ∧ ∃ z n1 : Int, gfin gt62 q.1 q.2.1 = some (some (.int (zi z))) ∧ 0 ≤ z ∧ z ≤ 10 ∧ q.2.2.2.2.2.2 x 8 = .int (zi n1) ∧ 0 ≤ n1 ∧ n1 ≤ 10 ∧ (gTc ty n1 q.2.2) ∧ (gSz S.1.2.2.2.2.2.2 n0 a b t z n1) ∧ (gXr ty (eQ2 n0 S a b t) q.2.2)) := by
    intro jn11v0 jn11d
    refine gz_s 3 (pc' := 17) (L' := [some (.ref x), some (.int (zi a)), some (.int (zi b)), some (.int (zi t)), some (.int (zi jn11v0)), none, none, none]) (S' := [.int (zi 1), .int (zi a)]) rfl ?_
    have jn12 : ∀ (jn12v0 : Int), ((0 ≤ jn12v0) ∧ (jn12v0 ≤ 1) ∧ (jn12v0 = 1 ↔ (1 ≤ a ∧ a ≤ b ∧ b ≤ 63 ∧ 0 ≤ cf (0 : Int).toNat))) → gz gPP gGG gcn (d + 2) gt62 45 [some (.ref x), some (.int (zi a)), some (.int (zi b)), some (.int (zi t)), some (.int (zi jn11v0)), none, none, none] [.int (zi jn12v0)] h (fun q _ => gSs rT 1027 ty [55008, 60999, 61999, 62999, 63999, 64999] h q.2.2 ∧ ∃ z n1 : Int, gfin gt62 q.1 q.2.1 = some (some (.int (zi z))) ∧ 0 ≤ z ∧ z ≤ 10 ∧ q.2.2.2.2.2.2 x 8 = .int (zi n1) ∧ 0 ≤ n1 ∧ n1 ≤ 10 ∧ (gTc ty n1 q.2.2) ∧ (gSz S.1.2.2.2.2.2.2 n0 a b t z n1) ∧ (gXr ty (eQ2 n0 S a b t) q.2.2)) := by
      intro jn12v0 jn12d
      refine gz_s 2 (pc' := 49) (L' := [some (.ref x), some (.int (zi a)), some (.int (zi b)), some (.int (zi t)), some (.int (zi jn11v0)), some (.int (zi jn12v0)), none, none]) (S' := [.int (zi jn11v0)]) rfl ?_
      by_cases hc13 : ¬ (jn11v0 : Int) = 0
      · refine gy_ifT (pc' := 57) rfl (by decide) (by decide) (by omega) hc13 ?_
        refine gz_s 1 (pc' := 58) (L' := [some (.ref x), some (.int (zi a)), some (.int (zi b)), some (.int (zi t)), some (.int (zi jn11v0)), some (.int (zi jn12v0)), none, none]) (S' := [.int (zi t)]) rfl ?_
        by_cases hc14 : (t : Int) < 0
        · refine gy_ifT (pc' := 75) rfl (by decide) (by decide) (by omega) hc14 ?_
          refine gz_s 1 (pc' := 76) (L' := [some (.ref x), some (.int (zi a)), some (.int (zi b)), some (.int (zi t)), some (.int (zi jn11v0)), some (.int (zi jn12v0)), none, none]) (S' := [.int (zi 0)]) rfl ?_
          have hsk15 : ¬ gSk S.1.2.2.2.2.2.2 n0 a b t := fun w => by obtain ⟨w1, w2, w3, w4, w5⟩ := gSk.cg ecf.sy w; omega
          have hsz16 : gSz S.1.2.2.2.2.2.2 n0 a b t 0 n0 := ⟨fun w => absurd w hsk15, fun _ => ⟨by omega, by omega⟩⟩
          have hxr17 : gXr ty (eQ2 n0 S a b t) h := by
            rw [eQ2_n hsk15]
            exact ⟨xr1, xr2, gRow.Rn (by decide) etf rf, gRow.Rn (by decide) ett rt, xr5, xr6, gRow.Rn (by decide) ecf rc⟩
          exact gz_end (I := .ireturn) (len := 1) rfl (Or.inl rfl) ⟨hS, 0, n0, rfl, (by omega), (by omega), en0, (by omega), (by omega), hytc, hsz16, hxr17⟩
        · refine gy_ifF rfl (by decide) (by decide) (by omega) hc14 ?_
          refine gz_s 2 (pc' := 63) (L' := [some (.ref x), some (.int (zi a)), some (.int (zi b)), some (.int (zi t)), some (.int (zi jn11v0)), some (.int (zi jn12v0)), none, none]) (S' := [.int (zi 3), .int (zi t)]) rfl ?_
          by_cases hc18 : (3 : Int) < t
          · refine gy_icT (pc' := 75) rfl (by decide) (by decide) (by omega) (by omega) hc18 ?_
            refine gz_s 1 (pc' := 76) (L' := [some (.ref x), some (.int (zi a)), some (.int (zi b)), some (.int (zi t)), some (.int (zi jn11v0)), some (.int (zi jn12v0)), none, none]) (S' := [.int (zi 0)]) rfl ?_
            have hsk19 : ¬ gSk S.1.2.2.2.2.2.2 n0 a b t := fun w => by obtain ⟨w1, w2, w3, w4, w5⟩ := gSk.cg ecf.sy w; omega
            have hsz20 : gSz S.1.2.2.2.2.2.2 n0 a b t 0 n0 := ⟨fun w => absurd w hsk19, fun _ => ⟨by omega, by omega⟩⟩
            have hxr21 : gXr ty (eQ2 n0 S a b t) h := by
              rw [eQ2_n hsk19]
              exact ⟨xr1, xr2, gRow.Rn (by decide) etf rf, gRow.Rn (by decide) ett rt, xr5, xr6, gRow.Rn (by decide) ecf rc⟩
            exact gz_end (I := .ireturn) (len := 1) rfl (Or.inl rfl) ⟨hS, 0, n0, rfl, (by omega), (by omega), en0, (by omega), (by omega), hytc, hsz20, hxr21⟩
          · refine gy_icF rfl (by decide) (by decide) (by omega) (by omega) hc18 ?_
            refine gz_s 1 (pc' := 67) (L' := [some (.ref x), some (.int (zi a)), some (.int (zi b)), some (.int (zi t)), some (.int (zi jn11v0)), some (.int (zi jn12v0)), none, none]) (S' := [.ref x]) rfl ?_
            refine gs_gtk rfl (by decide) rfl hS.1 tx rfl rfl en0 ?_
            refine gz_s 1 (pc' := 72) (L' := [some (.ref x), some (.int (zi a)), some (.int (zi b)), some (.int (zi t)), some (.int (zi jn11v0)), some (.int (zi jn12v0)), none, none]) (S' := [.int (zi 10), .int (zi n0)]) rfl ?_
            by_cases hc22 : (n0 : Int) < 10
            · refine gy_icT (pc' := 77) rfl (by decide) (by decide) (by omega) (by omega) hc22 ?_
              refine gz_s 1 (pc' := 78) (L' := [some (.ref x), some (.int (zi a)), some (.int (zi b)), some (.int (zi t)), some (.int (zi jn11v0)), some (.int (zi jn12v0)), none, none]) (S' := [.ref x]) rfl ?_
              refine gs_gtk rfl (by decide) rfl hS.1 tx rfl rfl ec10 ?_
              refine gz_s 1 (pc' := 82) (L' := [some (.ref x), some (.int (zi a)), some (.int (zi b)), some (.int (zi t)), some (.int (zi jn11v0)), some (.int (zi jn12v0)), none, none]) (S' := [.int (zi a), .ref c10]) rfl ?_
              have hl23 : 64 ≤ h.2.2.2.1 c10 ∧ h.2.2.2.1 c10 ≤ 64 := gJ.rowl (G := gGG) hS.1 tc10 rfl
              refine gs_ald rfl (by decide) hS.1 tc10 rfl rfl rfl (by decide) (fun _ => rfl) (by omega) (by omega) (fun z24 ez24 az24 bz24 => ?_)
              have hf25 := gRow.at (i := a) (z := z24) rc tc10 ez24 (by omega) (by omega) (by omega)
              refine gz_s 3 (pc' := 88) (L' := [some (.ref x), some (.int (zi a)), some (.int (zi b)), some (.int (zi t)), some (.int (zi jn11v0)), some (.int (zi jn12v0)), some (.int (zi z24)), none]) (S' := [.int (zi (-1)), .int (zi z24)]) rfl ?_
              by_cases hc26 : (z24 : Int) = (-1)
              · refine gy_icT (pc' := 101) rfl (by decide) (by decide) (by omega) (by omega) hc26 ?_
                refine gz_s 2 (pc' := 104) (L' := [some (.ref x), some (.int (zi a)), some (.int (zi b)), some (.int (zi t)), some (.int (zi jn11v0)), some (.int (zi jn12v0)), some (.int (zi z24)), some (.int (zi a))]) (S' := []) rfl ?_
                have lp27 : ∀ (fu : Nat) (h28 : gH) (k : Int), (65 - k).toNat < fu → gSs rT 1027 ty [55008, 60999, 61999, 62999, 63999, 64999] h h28 → (0 ≤ k ∧ k ≤ 64) → (a ≤ k) → (k ≤ b + 1) → (0 ≤ a) → (a ≤ b) → (b ≤ 63) → (0 ≤ t) → (t ≤ 3) → (z24 = -1 ∨ z24 = t + 1) → h28.2.2.2.2 x 8 = .int (zi n0) → h28.2.2.2.2 x 4 = .ref c8 → h28.2.2.2.2 x 5 = .ref c9 → h28.2.2.2.2 x 9 = .ref c10 → gTc ty n0 h28 → gRn 256 ty 53 S.1.1 h28 → gRn 1024 ty 59 S.1.2.1 h28 → gRn 10 ty 62 S.1.2.2.2.2.1 h28 → gRn 10 ty 63 S.1.2.2.2.2.2.1 h28 → gRow ty 60 tf h28 → gRow ty 61 tt h28 → gRow ty 64 cf h28 → (∀ j : Int, a ≤ j → j < k → cf j.toNat = cf a.toNat) → gz gPP gGG gcn (d + 2) gt62 104 [some (.ref x), some (.int (zi a)), some (.int (zi b)), some (.int (zi t)), some (.int (zi jn11v0)), some (.int (zi jn12v0)), some (.int (zi z24)), some (.int (zi k))] [] h28 (fun q _ => gSs rT 1027 ty [55008, 60999, 61999, 62999, 63999, 64999] h q.2.2 ∧ ∃ z n1 : Int, gfin gt62 q.1 q.2.1 = some (some (.int (zi z))) ∧ 0 ≤ z ∧ z ≤ 10 ∧ q.2.2.2.2.2.2 x 8 = .int (zi n1) ∧ 0 ≤ n1 ∧ n1 ≤ 10 ∧ (gTc ty n1 q.2.2) ∧ (gSz S.1.2.2.2.2.2.2 n0 a b t z n1) ∧ (gXr ty (eQ2 n0 S a b t) q.2.2)) := by
                  intro fu
                  induction fu with
                  | zero => intro h28 k hm; exact absurd hm (Nat.not_lt_zero _)
                  | succ fu ihlp27 =>
                    intro h28 k lp27m sh28 lp27f0 lp27f1 lp27f2 lp27f3 lp27f4 lp27f5 lp27f6 lp27f7 lp27f8 lp27k0 lp27k1 lp27k2 lp27k3 lp27k4 lp27k5 lp27k6 lp27k7 lp27k8 lp27k9 lp27k10 lp27k11 lp27k12
                    refine gz_s 2 (pc' := 107) (L' := [some (.ref x), some (.int (zi a)), some (.int (zi b)), some (.int (zi t)), some (.int (zi jn11v0)), some (.int (zi jn12v0)), some (.int (zi z24)), some (.int (zi k))]) (S' := [.int (zi b), .int (zi k)]) rfl ?_
                    by_cases hc29 : (b : Int) < k
                    · refine gy_icT (pc' := 130) rfl (by decide) (by decide) (by omega) (by omega) hc29 ?_
                      have hce30 : ∀ j : Int, a ≤ j → j < b + 1 → t + 1 ≤ gcr (cf j.toNat) := fun j h1 h2 => by
                        rw [lp27k12 j h1 (by omega)]
                        unfold gcr
                        split <;> omega
                      refine gz_s 1 (pc' := 131) (L' := [some (.ref x), some (.int (zi a)), some (.int (zi b)), some (.int (zi t)), some (.int (zi jn11v0)), some (.int (zi jn12v0)), some (.int (zi z24)), some (.int (zi k))]) (S' := [.ref x]) rfl ?_
                      refine gs_gtk rfl (by decide) rfl sh28.1 tx rfl rfl lp27k3 ?_
                      refine gy_s 5 (pc' := 139) (L' := [some (.ref x), some (.int (zi a)), some (.int (zi b)), some (.int (zi t)), some (.int (zi jn11v0)), some (.int (zi jn12v0)), some (.int (zi z24)), some (.int (zi k))]) (S' := [.int (zi t), .int ((zi b) + (zi 1)), .int (zi a), .ref c10]) (L2 := [some (.ref x), some (.int (zi a)), some (.int (zi b)), some (.int (zi t)), some (.int (zi jn11v0)), some (.int (zi jn12v0)), some (.int (zi z24)), some (.int (zi k))]) (S2 := [.int (zi t), .int (zi (b + 1)), .int (zi a), .ref c10]) rfl (by simp only [zi_add, zi_sub, zi_mul, zi_neg, zi_and1, zi_and7, zi_and15, zi_and31, zi_and255]) (by simp only [zi_add, zi_sub, zi_mul, zi_neg, zi_and1, zi_and7, zi_and15, zi_and31, zi_and255]) ?_
                      refine gz_call rfl (by decide) rfl (by decide) (by decide) (gcal_of rfl rfl rfl (Nat.le_of_ble_eq_true rfl) rfl) (cl_fill_range _ sh28.1 c10 tc10 a (by omega) (b + 1) (by omega) t (by omega) cf (by omega) uq lp27k11 hce30) (fun q31 _ wq31 => ?_)
                      obtain ⟨pq31, oq31, hq31⟩ := q31
                      obtain ⟨xq31, gq31, yq31_0⟩ := wq31
                      refine ⟨_, gq31, ?_⟩
                      show gz gPP gGG gcn _ _ 142 [some (.ref x), some (.int (zi a)), some (.int (zi b)), some (.int (zi t)), some (.int (zi jn11v0)), some (.int (zi jn12v0)), some (.int (zi z24)), some (.int (zi k))] [] hq31 _
                      have sq31 : gSs rT 1027 ty [55008, 60999, 61999, 62999, 63999, 64999] h hq31 := gSs.tr sh28 xq31 (by decide)
                      have s32 := (xq31.2.2.2.2.2 x 8 (by rw [tx]; decide)).trans lp27k0
                      have s33 := (xq31.2.2.2.2.2 x 4 (by rw [tx]; decide)).trans lp27k1
                      have s34 := (xq31.2.2.2.2.2 x 5 (by rw [tx]; decide)).trans lp27k2
                      have s35 := (xq31.2.2.2.2.2 x 9 (by rw [tx]; decide)).trans lp27k3
                      have pr36 := gRn.fr xq31.2 (by decide) lp27k5
                      have pr37 := gRn.fr xq31.2 (by decide) lp27k6
                      have pr38 := gRn.fr xq31.2 (by decide) lp27k7
                      have pr39 := gRn.fr xq31.2 (by decide) lp27k8
                      have pr40 := gRow.fr xq31.2 (by decide) lp27k9
                      have pr41 := gRow.fr xq31.2 (by decide) lp27k10
                      refine gz_s 1 (pc' := 143) (L' := [some (.ref x), some (.int (zi a)), some (.int (zi b)), some (.int (zi t)), some (.int (zi jn11v0)), some (.int (zi jn12v0)), some (.int (zi z24)), some (.int (zi k))]) (S' := [.ref x]) rfl ?_
                      refine gs_gtk rfl (by decide) rfl sq31.1 tx rfl rfl s33 ?_
                      refine gz_s 1 (pc' := 147) (L' := [some (.ref x), some (.int (zi a)), some (.int (zi b)), some (.int (zi t)), some (.int (zi jn11v0)), some (.int (zi jn12v0)), some (.int (zi z24)), some (.int (zi k))]) (S' := [.ref x, .ref c8]) rfl ?_
                      refine gs_gtk rfl (by decide) rfl sq31.1 tx rfl rfl s32 ?_
                      refine gz_s 1 (pc' := 151) (L' := [some (.ref x), some (.int (zi a)), some (.int (zi b)), some (.int (zi t)), some (.int (zi jn11v0)), some (.int (zi jn12v0)), some (.int (zi z24)), some (.int (zi k))]) (S' := [.int (zi a), .int (zi n0), .ref c8]) rfl ?_
                      have hl42 : 10 ≤ hq31.2.2.2.1 c8 ∧ hq31.2.2.2.1 c8 ≤ 10 := gJ.rowl (G := gGG) sq31.1 tc8 rfl
                      refine gs_ast rfl (by decide) sq31 tc8 rfl rfl rfl (by decide) (fun _ => rfl) (by omega) (by omega) (fun _ => (by decide : (60999 : Nat) ∈ ([55008, 60999, 61999, 62999, 63999, 64999] : List Nat))) (by omega) (by omega) (fun h43 sh43 eh43 fh43 => ?_)
                      have pr44 := gRn.pt fh43 tc8 (by decide) pr36
                      have pr45 := gRn.pt fh43 tc8 (by decide) pr37
                      have pr46 := gRn.pt fh43 tc8 (by decide) pr38
                      have pr47 := gRn.pt fh43 tc8 (by decide) pr39
                      have pr48 := gRow.put (i := n0) (z := a) uq tc8 (by decide) fh43 eh43 (by omega) (by omega) pr40
                      have pr49 := gRow.pt fh43 tc8 (by decide) pr41
                      have pr50 := gCr.pt fh43 tc8 (by decide) yq31_0
                      have s51 := (fh43 x 8 (fun q => absurd (((tx).symm.trans (congrArg ty q.1)).trans tc8) (by decide))).trans s32
                      have s52 := (fh43 x 4 (fun q => absurd (((tx).symm.trans (congrArg ty q.1)).trans tc8) (by decide))).trans s33
                      have s53 := (fh43 x 5 (fun q => absurd (((tx).symm.trans (congrArg ty q.1)).trans tc8) (by decide))).trans s34
                      have s54 := (fh43 x 9 (fun q => absurd (((tx).symm.trans (congrArg ty q.1)).trans tc8) (by decide))).trans s35
                      have pr55 := gEl.set (i := n0) (z := a) uq tc8 (by decide) eh43 (by omega) (by omega)
                      refine gz_s 1 (pc' := 153) (L' := [some (.ref x), some (.int (zi a)), some (.int (zi b)), some (.int (zi t)), some (.int (zi jn11v0)), some (.int (zi jn12v0)), some (.int (zi z24)), some (.int (zi k))]) (S' := [.ref x]) rfl ?_
                      refine gs_gtk rfl (by decide) rfl sh43.1 tx rfl rfl s53 ?_
                      refine gz_s 1 (pc' := 157) (L' := [some (.ref x), some (.int (zi a)), some (.int (zi b)), some (.int (zi t)), some (.int (zi jn11v0)), some (.int (zi jn12v0)), some (.int (zi z24)), some (.int (zi k))]) (S' := [.ref x, .ref c9]) rfl ?_
                      refine gs_gtk rfl (by decide) rfl sh43.1 tx rfl rfl s51 ?_
                      refine gz_s 1 (pc' := 161) (L' := [some (.ref x), some (.int (zi a)), some (.int (zi b)), some (.int (zi t)), some (.int (zi jn11v0)), some (.int (zi jn12v0)), some (.int (zi z24)), some (.int (zi k))]) (S' := [.int (zi b), .int (zi n0), .ref c9]) rfl ?_
                      have hl56 : 10 ≤ h43.2.2.2.1 c9 ∧ h43.2.2.2.1 c9 ≤ 10 := gJ.rowl (G := gGG) sh43.1 tc9 rfl
                      refine gs_ast rfl (by decide) sh43 tc9 rfl rfl rfl (by decide) (fun _ => rfl) (by omega) (by omega) (fun _ => (by decide : (61999 : Nat) ∈ ([55008, 60999, 61999, 62999, 63999, 64999] : List Nat))) (by omega) (by omega) (fun h57 sh57 eh57 fh57 => ?_)
                      have pr58 := gRn.pt fh57 tc9 (by decide) pr44
                      have pr59 := gRn.pt fh57 tc9 (by decide) pr45
                      have pr60 := gRn.pt fh57 tc9 (by decide) pr46
                      have pr61 := gRn.pt fh57 tc9 (by decide) pr47
                      have pr62 := gRow.pt fh57 tc9 (by decide) pr48
                      have pr63 := gRow.put (i := n0) (z := b) uq tc9 (by decide) fh57 eh57 (by omega) (by omega) pr49
                      have pr64 := gCr.pt fh57 tc9 (by decide) pr50
                      have pr65 := gEl.pt fh57 tc9 (by decide) pr55
                      have s66 := (fh57 x 8 (fun q => absurd (((tx).symm.trans (congrArg ty q.1)).trans tc9) (by decide))).trans s51
                      have s67 := (fh57 x 4 (fun q => absurd (((tx).symm.trans (congrArg ty q.1)).trans tc9) (by decide))).trans s52
                      have s68 := (fh57 x 5 (fun q => absurd (((tx).symm.trans (congrArg ty q.1)).trans tc9) (by decide))).trans s53
                      have s69 := (fh57 x 9 (fun q => absurd (((tx).symm.trans (congrArg ty q.1)).trans tc9) (by decide))).trans s54
                      have pr70 := gEl.set (i := n0) (z := b) uq tc9 (by decide) eh57 (by omega) (by omega)
                      refine gz_s 1 (pc' := 163) (L' := [some (.ref x), some (.int (zi a)), some (.int (zi b)), some (.int (zi t)), some (.int (zi jn11v0)), some (.int (zi jn12v0)), some (.int (zi z24)), some (.int (zi k))]) (S' := [.ref x]) rfl ?_
                      refine gs_gtr rfl (by decide) rfl sh57.1 tx rfl rfl rfl (fun c71 ec71 tc71 => ?_)
                      refine gz_s 1 (pc' := 167) (L' := [some (.ref x), some (.int (zi a)), some (.int (zi b)), some (.int (zi t)), some (.int (zi jn11v0)), some (.int (zi jn12v0)), some (.int (zi z24)), some (.int (zi k))]) (S' := [.ref x, .ref c71]) rfl ?_
                      refine gs_gtk rfl (by decide) rfl sh57.1 tx rfl rfl s66 ?_
                      refine gz_s 2 (pc' := 173) (L' := [some (.ref x), some (.int (zi a)), some (.int (zi b)), some (.int (zi t)), some (.int (zi jn11v0)), some (.int (zi jn12v0)), some (.int (zi z24)), some (.int (zi k))]) (S' := [.int (zi z24), .int (zi 0), .int (zi n0), .ref c71]) rfl ?_
                      refine gz_call rfl (by decide) rfl (by decide) (by decide) (gcal_of rfl rfl rfl (Nat.le_of_ble_eq_true rfl) rfl) (cl_Math_max _ sh57.1 0 (by omega) z24 (by omega) ) (fun q72 _ wq72 => ?_)
                      obtain ⟨pq72, oq72, hq72⟩ := q72
                      obtain ⟨xq72, zq72, gq72, aq72, bq72, uq72_0, uq72_1, uq72_2⟩ := wq72
                      refine ⟨_, gq72, ?_⟩
                      show gz gPP gGG gcn _ _ 176 [some (.ref x), some (.int (zi a)), some (.int (zi b)), some (.int (zi t)), some (.int (zi jn11v0)), some (.int (zi jn12v0)), some (.int (zi z24)), some (.int (zi k))] [.int (zi zq72), .int (zi n0), .ref c71] hq72 _
                      have sq72 : gSs rT 1027 ty [55008, 60999, 61999, 62999, 63999, 64999] h hq72 := gSs.tr sh57 xq72 (by decide)
                      have s73 := (xq72.2.2.2.2.2 x 8 (by rw [tx]; decide)).trans s66
                      have s74 := (xq72.2.2.2.2.2 x 4 (by rw [tx]; decide)).trans s67
                      have s75 := (xq72.2.2.2.2.2 x 5 (by rw [tx]; decide)).trans s68
                      have s76 := (xq72.2.2.2.2.2 x 9 (by rw [tx]; decide)).trans s69
                      have s77 := (xq72.2.2.2.2.2 x 6 (by rw [tx]; decide)).trans ec71
                      have pr78 := gRn.fr xq72.2 (by decide) pr58
                      have pr79 := gRn.fr xq72.2 (by decide) pr59
                      have pr80 := gRn.fr xq72.2 (by decide) pr60
                      have pr81 := gRn.fr xq72.2 (by decide) pr61
                      have pr82 := gRow.fr xq72.2 (by decide) pr62
                      have pr83 := gRow.fr xq72.2 (by decide) pr63
                      have pr84 := gCr.fr xq72.2 (by decide) pr64
                      have pr85 := gEl.fr xq72.2 (by decide) (fun _ => rfl) pr65
                      have pr86 := gEl.fr xq72.2 (by decide) (fun _ => rfl) pr70
                      have hl87 : 10 ≤ hq72.2.2.2.1 c71 ∧ hq72.2.2.2.1 c71 ≤ 10 := gJ.rowl (G := gGG) sq72.1 tc71 rfl
                      refine gs_ast rfl (by decide) sq72 tc71 rfl rfl rfl (by decide) (fun _ => rfl) (by omega) (by omega) (fun _ => (by decide : (62999 : Nat) ∈ ([55008, 60999, 61999, 62999, 63999, 64999] : List Nat))) (by omega) (by omega) (fun h88 sh88 eh88 fh88 => ?_)
                      have pr89 := gRn.pt fh88 tc71 (by decide) pr78
                      have pr90 := gRn.pt fh88 tc71 (by decide) pr79
                      have pr91 := gRn.put (i := n0) (z := zq72) uq tc71 (by decide) fh88 eh88 (by omega) (by omega) pr80
                      have pr92 := gRn.pt fh88 tc71 (by decide) pr81
                      have pr93 := gRow.pt fh88 tc71 (by decide) pr82
                      have pr94 := gRow.pt fh88 tc71 (by decide) pr83
                      have pr95 := gCr.pt fh88 tc71 (by decide) pr84
                      have pr96 := gEl.pt fh88 tc71 (by decide) pr85
                      have pr97 := gEl.pt fh88 tc71 (by decide) pr86
                      have s98 := (fh88 x 8 (fun q => absurd (((tx).symm.trans (congrArg ty q.1)).trans tc71) (by decide))).trans s73
                      have s99 := (fh88 x 4 (fun q => absurd (((tx).symm.trans (congrArg ty q.1)).trans tc71) (by decide))).trans s74
                      have s100 := (fh88 x 5 (fun q => absurd (((tx).symm.trans (congrArg ty q.1)).trans tc71) (by decide))).trans s75
                      have s101 := (fh88 x 9 (fun q => absurd (((tx).symm.trans (congrArg ty q.1)).trans tc71) (by decide))).trans s76
                      have s102 := (fh88 x 6 (fun q => absurd (((tx).symm.trans (congrArg ty q.1)).trans tc71) (by decide))).trans s77
                      have pr103 := gEl.set (i := n0) (z := zq72) uq tc71 (by decide) eh88 (by omega) (by omega)
                      refine gz_s 1 (pc' := 178) (L' := [some (.ref x), some (.int (zi a)), some (.int (zi b)), some (.int (zi t)), some (.int (zi jn11v0)), some (.int (zi jn12v0)), some (.int (zi z24)), some (.int (zi k))]) (S' := [.ref x]) rfl ?_
                      refine gs_gtr rfl (by decide) rfl sh88.1 tx rfl rfl rfl (fun c104 ec104 tc104 => ?_)
                      refine gz_s 1 (pc' := 182) (L' := [some (.ref x), some (.int (zi a)), some (.int (zi b)), some (.int (zi t)), some (.int (zi jn11v0)), some (.int (zi jn12v0)), some (.int (zi z24)), some (.int (zi k))]) (S' := [.ref x, .ref c104]) rfl ?_
                      refine gs_gtk rfl (by decide) rfl sh88.1 tx rfl rfl s98 ?_
                      refine gz_s 1 (pc' := 186) (L' := [some (.ref x), some (.int (zi a)), some (.int (zi b)), some (.int (zi t)), some (.int (zi jn11v0)), some (.int (zi jn12v0)), some (.int (zi z24)), some (.int (zi k))]) (S' := [.int (zi t), .int (zi n0), .ref c104]) rfl ?_
                      have hl105 : 10 ≤ h88.2.2.2.1 c104 ∧ h88.2.2.2.1 c104 ≤ 10 := gJ.rowl (G := gGG) sh88.1 tc104 rfl
                      refine gs_ast rfl (by decide) sh88 tc104 rfl rfl rfl (by decide) (fun _ => rfl) (by omega) (by omega) (fun _ => (by decide : (63999 : Nat) ∈ ([55008, 60999, 61999, 62999, 63999, 64999] : List Nat))) (by omega) (by omega) (fun h106 sh106 eh106 fh106 => ?_)
                      have pr107 := gRn.pt fh106 tc104 (by decide) pr89
                      have pr108 := gRn.pt fh106 tc104 (by decide) pr90
                      have pr109 := gRn.pt fh106 tc104 (by decide) pr91
                      have pr110 := gRn.put (i := n0) (z := t) uq tc104 (by decide) fh106 eh106 (by omega) (by omega) pr92
                      have pr111 := gRow.pt fh106 tc104 (by decide) pr93
                      have pr112 := gRow.pt fh106 tc104 (by decide) pr94
                      have pr113 := gCr.pt fh106 tc104 (by decide) pr95
                      have pr114 := gEl.pt fh106 tc104 (by decide) pr96
                      have pr115 := gEl.pt fh106 tc104 (by decide) pr97
                      have pr116 := gEl.pt fh106 tc104 (by decide) pr103
                      have s117 := (fh106 x 8 (fun q => absurd (((tx).symm.trans (congrArg ty q.1)).trans tc104) (by decide))).trans s98
                      have s118 := (fh106 x 4 (fun q => absurd (((tx).symm.trans (congrArg ty q.1)).trans tc104) (by decide))).trans s99
                      have s119 := (fh106 x 5 (fun q => absurd (((tx).symm.trans (congrArg ty q.1)).trans tc104) (by decide))).trans s100
                      have s120 := (fh106 x 9 (fun q => absurd (((tx).symm.trans (congrArg ty q.1)).trans tc104) (by decide))).trans s101
                      have s121 := (fh106 x 6 (fun q => absurd (((tx).symm.trans (congrArg ty q.1)).trans tc104) (by decide))).trans s102
                      have s122 := (fh106 x 7 (fun q => absurd (((tx).symm.trans (congrArg ty q.1)).trans tc104) (by decide))).trans ec104
                      have pr123 := gEl.set (i := n0) (z := t) uq tc104 (by decide) eh106 (by omega) (by omega)
                      refine gz_s 2 (pc' := 189) (L' := [some (.ref x), some (.int (zi a)), some (.int (zi b)), some (.int (zi t)), some (.int (zi jn11v0)), some (.int (zi jn12v0)), some (.int (zi z24)), some (.int (zi k))]) (S' := [.ref x, .ref x]) rfl ?_
                      refine gs_gtk rfl (by decide) rfl sh106.1 tx rfl rfl s117 ?_
                      refine gy_s 2 (pc' := 194) (L' := [some (.ref x), some (.int (zi a)), some (.int (zi b)), some (.int (zi t)), some (.int (zi jn11v0)), some (.int (zi jn12v0)), some (.int (zi z24)), some (.int (zi k))]) (S' := [.int ((zi n0) + (zi 1)), .ref x]) (L2 := [some (.ref x), some (.int (zi a)), some (.int (zi b)), some (.int (zi t)), some (.int (zi jn11v0)), some (.int (zi jn12v0)), some (.int (zi z24)), some (.int (zi k))]) (S2 := [.int (zi (n0 + 1)), .ref x]) rfl (by simp only [zi_add, zi_sub, zi_mul, zi_neg, zi_and1, zi_and7, zi_and15, zi_and31, zi_and255]) (by simp only [zi_add, zi_sub, zi_mul, zi_neg, zi_and1, zi_and7, zi_and15, zi_and31, zi_and255]) ?_
                      refine gs_put rfl (by decide) rfl sh106 tx rfl rfl rfl rfl (Or.inl rfl) (by decide) (by omega) (by omega) (fun h124 sh124 eh124 fh124 => ?_)
                      have pr125 := gRn.pt fh124 tx (by decide) pr107
                      have pr126 := gRn.pt fh124 tx (by decide) pr108
                      have pr127 := gRn.pt fh124 tx (by decide) pr109
                      have pr128 := gRn.pt fh124 tx (by decide) pr110
                      have pr129 := gRow.pt fh124 tx (by decide) pr111
                      have pr130 := gRow.pt fh124 tx (by decide) pr112
                      have pr131 := gCr.pt fh124 tx (by decide) pr113
                      have pr132 := gEl.pt fh124 tx (by decide) pr114
                      have pr133 := gEl.pt fh124 tx (by decide) pr115
                      have pr134 := gEl.pt fh124 tx (by decide) pr116
                      have pr135 := gEl.pt fh124 tx (by decide) pr123
                      have s136 := (fh124 x 4 (fun q => absurd q.2 (by decide))).trans s118
                      have s137 := (fh124 x 5 (fun q => absurd q.2 (by decide))).trans s119
                      have s138 := (fh124 x 9 (fun q => absurd q.2 (by decide))).trans s120
                      have s139 := (fh124 x 6 (fun q => absurd q.2 (by decide))).trans s121
                      have s140 := (fh124 x 7 (fun q => absurd q.2 (by decide))).trans s122
                      obtain ⟨c2, rc2, hcm⟩ := pr131
                      have hts141 : gTc ty (n0 + 1) h124 := gTc.tell (by omega) pr129 pr130 rc2 tle tsm hcm (by omega) (by omega)
                      refine gz_s 1 (pc' := 198) (L' := [some (.ref x), some (.int (zi a)), some (.int (zi b)), some (.int (zi t)), some (.int (zi jn11v0)), some (.int (zi jn12v0)), some (.int (zi z24)), some (.int (zi k))]) (S' := [.ref x]) rfl ?_
                      refine gs_gtk rfl (by decide) rfl sh124.1 tx rfl rfl eh124 ?_
                      have hsk142 : gSk S.1.2.2.2.2.2.2 n0 a b t := gSk.cg ecf (gSk.mk (by omega) ⟨by omega, by omega⟩ (by omega) (by omega) (fun j h1 h2 => lp27k12 j h1 (by omega)))
                      have hsz143 : gSz S.1.2.2.2.2.2.2 n0 a b t (n0 + 1) (n0 + 1) := ⟨fun _ => ⟨by omega, by omega⟩, fun w => absurd hsk142 w⟩
                      have hxr144v : zq72 = if S.1.2.2.2.2.2.2 a.toNat = -1 then 0 else S.1.2.2.2.2.2.2 a.toNat := by have e9 := ecf a.toNat (by omega); rw [← e9]; split <;> omega
                      have hxr144h := pr127
                      rw [hxr144v] at hxr144h
                      have hxr144 : gXr ty (eQ2 n0 S a b t) h124 := by
                        rw [eQ2_y hsk142]
                        exact ⟨pr125, pr126, gRow.Rn (by decide) etf.fu pr129, gRow.Rn (by decide) ett.fu pr130, hxr144h, pr128, gRow.Rn (by decide) (fun j hj => by rw [hcm.2.2.2 (by omega) j, ecf j hj]; first | rfl | (rw [show kb = b + 1 by omega]; rfl)) rc2⟩
                      exact gz_end (I := .ireturn) (len := 1) rfl (Or.inl rfl) ⟨sh124, n0 + 1, n0 + 1, rfl, (by omega), (by omega), eh124, (by omega), (by omega), hts141, hsz143, hxr144⟩
                    · refine gy_icF rfl (by decide) (by decide) (by omega) (by omega) hc29 ?_
                      refine gz_s 1 (pc' := 111) (L' := [some (.ref x), some (.int (zi a)), some (.int (zi b)), some (.int (zi t)), some (.int (zi jn11v0)), some (.int (zi jn12v0)), some (.int (zi z24)), some (.int (zi k))]) (S' := [.ref x]) rfl ?_
                      refine gs_gtk rfl (by decide) rfl sh28.1 tx rfl rfl lp27k3 ?_
                      refine gz_s 1 (pc' := 116) (L' := [some (.ref x), some (.int (zi a)), some (.int (zi b)), some (.int (zi t)), some (.int (zi jn11v0)), some (.int (zi jn12v0)), some (.int (zi z24)), some (.int (zi k))]) (S' := [.int (zi k), .ref c10]) rfl ?_
                      have hl145 : 64 ≤ h28.2.2.2.1 c10 ∧ h28.2.2.2.1 c10 ≤ 64 := gJ.rowl (G := gGG) sh28.1 tc10 rfl
                      refine gs_ald rfl (by decide) sh28.1 tc10 rfl rfl rfl (by decide) (fun _ => rfl) (by omega) (by omega) (fun z146 ez146 az146 bz146 => ?_)
                      have hf147 := gRow.at (i := k) (z := z146) lp27k11 tc10 ez146 (by omega) (by omega) (by omega)
                      refine gz_s 1 (pc' := 119) (L' := [some (.ref x), some (.int (zi a)), some (.int (zi b)), some (.int (zi t)), some (.int (zi jn11v0)), some (.int (zi jn12v0)), some (.int (zi z24)), some (.int (zi k))]) (S' := [.int (zi z24), .int (zi z146)]) rfl ?_
                      by_cases hc148 : (z146 : Int) = z24
                      · refine gy_icT (pc' := 124) rfl (by decide) (by decide) (by omega) (by omega) hc148 ?_
                        have hce149 : ∀ j : Int, a ≤ j → j < k + 1 → cf j.toNat = cf a.toNat := fun j h1 h2 => by
                          by_cases e : j = k
                          · subst e; omega
                          · exact lp27k12 j h1 (by omega)
                        refine gy_s 2 (pc' := 104) (L' := [some (.ref x), some (.int (zi a)), some (.int (zi b)), some (.int (zi t)), some (.int (zi jn11v0)), some (.int (zi jn12v0)), some (.int (zi z24)), some (.int ((zi k) + zi 1))]) (S' := []) (L2 := [some (.ref x), some (.int (zi a)), some (.int (zi b)), some (.int (zi t)), some (.int (zi jn11v0)), some (.int (zi jn12v0)), some (.int (zi z24)), some (.int (zi (k + 1)))]) (S2 := []) rfl (by simp only [zi_add, zi_sub, zi_mul, zi_neg, zi_and1, zi_and7, zi_and15, zi_and31, zi_and255]) (by simp only [zi_add, zi_sub, zi_mul, zi_neg, zi_and1, zi_and7, zi_and15, zi_and31, zi_and255]) ?_
                        exact gz_wk (ihlp27 h28 (k + 1) (by omega) sh28 (by omega) (by omega) (by omega) (by omega) (by omega) (by omega) (by omega) (by omega) (by omega) lp27k0 lp27k1 lp27k2 lp27k3 lp27k4 lp27k5 lp27k6 lp27k7 lp27k8 lp27k9 lp27k10 lp27k11 hce149) (gLw.s (gLw.s (gLw.s (gLw.s (gLw.s (gLw.s (gLw.s (gLw.s gLw.z))))))))
                      · refine gy_icF rfl (by decide) (by decide) (by omega) (by omega) hc148 ?_
                        refine gz_s 1 (pc' := 123) (L' := [some (.ref x), some (.int (zi a)), some (.int (zi b)), some (.int (zi t)), some (.int (zi jn11v0)), some (.int (zi jn12v0)), some (.int (zi z24)), some (.int (zi k))]) (S' := [.int (zi 0)]) rfl ?_
                        have hsk150 : ¬ gSk S.1.2.2.2.2.2.2 n0 a b t := fun w => by have w5 := (gSk.cg ecf.sy w).at (j := k) (by omega) (by omega); omega
                        have hsz151 : gSz S.1.2.2.2.2.2.2 n0 a b t 0 n0 := ⟨fun w => absurd w hsk150, fun _ => ⟨by omega, by omega⟩⟩
                        have hxr152 : gXr ty (eQ2 n0 S a b t) h28 := by
                          rw [eQ2_n hsk150]
                          exact ⟨lp27k5, lp27k6, gRow.Rn (by decide) etf lp27k9, gRow.Rn (by decide) ett lp27k10, lp27k7, lp27k8, gRow.Rn (by decide) ecf lp27k11⟩
                        exact gz_end (I := .ireturn) (len := 1) rfl (Or.inl rfl) ⟨sh28, 0, n0, rfl, (by omega), (by omega), lp27k0, (by omega), (by omega), lp27k4, hsz151, hxr152⟩
                exact gz_wk (lp27 _ h a (Nat.lt_succ_self _) hS (by omega) (by omega) (by omega) (by omega) (by omega) (by omega) (by omega) (by omega) (by omega) en0 ec8 ec9 ec10 hytc xr1 xr2 xr5 xr6 rf rt rc (fun j h1 h2 => absurd h2 (by omega))) (gLw.s (gLw.s (gLw.s (gLw.s (gLw.s (gLw.s (gLw.s (gLw.s gLw.z))))))))
              · refine gy_icF rfl (by decide) (by decide) (by omega) (by omega) hc26 ?_
                refine gy_s 4 (pc' := 96) (L' := [some (.ref x), some (.int (zi a)), some (.int (zi b)), some (.int (zi t)), some (.int (zi jn11v0)), some (.int (zi jn12v0)), some (.int (zi z24)), none]) (S' := [.int ((zi t) + (zi 1)), .int (zi z24)]) (L2 := [some (.ref x), some (.int (zi a)), some (.int (zi b)), some (.int (zi t)), some (.int (zi jn11v0)), some (.int (zi jn12v0)), some (.int (zi z24)), none]) (S2 := [.int (zi (t + 1)), .int (zi z24)]) rfl (by simp only [zi_add, zi_sub, zi_mul, zi_neg, zi_and1, zi_and7, zi_and15, zi_and31, zi_and255]) (by simp only [zi_add, zi_sub, zi_mul, zi_neg, zi_and1, zi_and7, zi_and15, zi_and31, zi_and255]) ?_
                by_cases hc153 : (z24 : Int) = t + 1
                · refine gy_icT (pc' := 101) rfl (by decide) (by decide) (by omega) (by omega) hc153 ?_
                  refine gz_s 2 (pc' := 104) (L' := [some (.ref x), some (.int (zi a)), some (.int (zi b)), some (.int (zi t)), some (.int (zi jn11v0)), some (.int (zi jn12v0)), some (.int (zi z24)), some (.int (zi a))]) (S' := []) rfl ?_
                  have lp154 : ∀ (fu : Nat) (h155 : gH) (k : Int), (65 - k).toNat < fu → gSs rT 1027 ty [55008, 60999, 61999, 62999, 63999, 64999] h h155 → (0 ≤ k ∧ k ≤ 64) → (a ≤ k) → (k ≤ b + 1) → (0 ≤ a) → (a ≤ b) → (b ≤ 63) → (0 ≤ t) → (t ≤ 3) → (z24 = -1 ∨ z24 = t + 1) → h155.2.2.2.2 x 8 = .int (zi n0) → h155.2.2.2.2 x 4 = .ref c8 → h155.2.2.2.2 x 5 = .ref c9 → h155.2.2.2.2 x 9 = .ref c10 → gTc ty n0 h155 → gRn 256 ty 53 S.1.1 h155 → gRn 1024 ty 59 S.1.2.1 h155 → gRn 10 ty 62 S.1.2.2.2.2.1 h155 → gRn 10 ty 63 S.1.2.2.2.2.2.1 h155 → gRow ty 60 tf h155 → gRow ty 61 tt h155 → gRow ty 64 cf h155 → (∀ j : Int, a ≤ j → j < k → cf j.toNat = cf a.toNat) → gz gPP gGG gcn (d + 2) gt62 104 [some (.ref x), some (.int (zi a)), some (.int (zi b)), some (.int (zi t)), some (.int (zi jn11v0)), some (.int (zi jn12v0)), some (.int (zi z24)), some (.int (zi k))] [] h155 (fun q _ => gSs rT 1027 ty [55008, 60999, 61999, 62999, 63999, 64999] h q.2.2 ∧ ∃ z n1 : Int, gfin gt62 q.1 q.2.1 = some (some (.int (zi z))) ∧ 0 ≤ z ∧ z ≤ 10 ∧ q.2.2.2.2.2.2 x 8 = .int (zi n1) ∧ 0 ≤ n1 ∧ n1 ≤ 10 ∧ (gTc ty n1 q.2.2) ∧ (gSz S.1.2.2.2.2.2.2 n0 a b t z n1) ∧ (gXr ty (eQ2 n0 S a b t) q.2.2)) := by
                    intro fu
                    induction fu with
                    | zero => intro h155 k hm; exact absurd hm (Nat.not_lt_zero _)
                    | succ fu ihlp154 =>
                      intro h155 k lp154m sh155 lp154f0 lp154f1 lp154f2 lp154f3 lp154f4 lp154f5 lp154f6 lp154f7 lp154f8 lp154k0 lp154k1 lp154k2 lp154k3 lp154k4 lp154k5 lp154k6 lp154k7 lp154k8 lp154k9 lp154k10 lp154k11 lp154k12
                      refine gz_s 2 (pc' := 107) (L' := [some (.ref x), some (.int (zi a)), some (.int (zi b)), some (.int (zi t)), some (.int (zi jn11v0)), some (.int (zi jn12v0)), some (.int (zi z24)), some (.int (zi k))]) (S' := [.int (zi b), .int (zi k)]) rfl ?_
                      by_cases hc156 : (b : Int) < k
                      · refine gy_icT (pc' := 130) rfl (by decide) (by decide) (by omega) (by omega) hc156 ?_
                        have hce157 : ∀ j : Int, a ≤ j → j < b + 1 → t + 1 ≤ gcr (cf j.toNat) := fun j h1 h2 => by
                          rw [lp154k12 j h1 (by omega)]
                          unfold gcr
                          split <;> omega
                        refine gz_s 1 (pc' := 131) (L' := [some (.ref x), some (.int (zi a)), some (.int (zi b)), some (.int (zi t)), some (.int (zi jn11v0)), some (.int (zi jn12v0)), some (.int (zi z24)), some (.int (zi k))]) (S' := [.ref x]) rfl ?_
                        refine gs_gtk rfl (by decide) rfl sh155.1 tx rfl rfl lp154k3 ?_
                        refine gy_s 5 (pc' := 139) (L' := [some (.ref x), some (.int (zi a)), some (.int (zi b)), some (.int (zi t)), some (.int (zi jn11v0)), some (.int (zi jn12v0)), some (.int (zi z24)), some (.int (zi k))]) (S' := [.int (zi t), .int ((zi b) + (zi 1)), .int (zi a), .ref c10]) (L2 := [some (.ref x), some (.int (zi a)), some (.int (zi b)), some (.int (zi t)), some (.int (zi jn11v0)), some (.int (zi jn12v0)), some (.int (zi z24)), some (.int (zi k))]) (S2 := [.int (zi t), .int (zi (b + 1)), .int (zi a), .ref c10]) rfl (by simp only [zi_add, zi_sub, zi_mul, zi_neg, zi_and1, zi_and7, zi_and15, zi_and31, zi_and255]) (by simp only [zi_add, zi_sub, zi_mul, zi_neg, zi_and1, zi_and7, zi_and15, zi_and31, zi_and255]) ?_
                        refine gz_call rfl (by decide) rfl (by decide) (by decide) (gcal_of rfl rfl rfl (Nat.le_of_ble_eq_true rfl) rfl) (cl_fill_range _ sh155.1 c10 tc10 a (by omega) (b + 1) (by omega) t (by omega) cf (by omega) uq lp154k11 hce157) (fun q158 _ wq158 => ?_)
                        obtain ⟨pq158, oq158, hq158⟩ := q158
                        obtain ⟨xq158, gq158, yq158_0⟩ := wq158
                        refine ⟨_, gq158, ?_⟩
                        show gz gPP gGG gcn _ _ 142 [some (.ref x), some (.int (zi a)), some (.int (zi b)), some (.int (zi t)), some (.int (zi jn11v0)), some (.int (zi jn12v0)), some (.int (zi z24)), some (.int (zi k))] [] hq158 _
                        have sq158 : gSs rT 1027 ty [55008, 60999, 61999, 62999, 63999, 64999] h hq158 := gSs.tr sh155 xq158 (by decide)
                        have s159 := (xq158.2.2.2.2.2 x 8 (by rw [tx]; decide)).trans lp154k0
                        have s160 := (xq158.2.2.2.2.2 x 4 (by rw [tx]; decide)).trans lp154k1
                        have s161 := (xq158.2.2.2.2.2 x 5 (by rw [tx]; decide)).trans lp154k2
                        have s162 := (xq158.2.2.2.2.2 x 9 (by rw [tx]; decide)).trans lp154k3
                        have pr163 := gRn.fr xq158.2 (by decide) lp154k5
                        have pr164 := gRn.fr xq158.2 (by decide) lp154k6
                        have pr165 := gRn.fr xq158.2 (by decide) lp154k7
                        have pr166 := gRn.fr xq158.2 (by decide) lp154k8
                        have pr167 := gRow.fr xq158.2 (by decide) lp154k9
                        have pr168 := gRow.fr xq158.2 (by decide) lp154k10
                        refine gz_s 1 (pc' := 143) (L' := [some (.ref x), some (.int (zi a)), some (.int (zi b)), some (.int (zi t)), some (.int (zi jn11v0)), some (.int (zi jn12v0)), some (.int (zi z24)), some (.int (zi k))]) (S' := [.ref x]) rfl ?_
                        refine gs_gtk rfl (by decide) rfl sq158.1 tx rfl rfl s160 ?_
                        refine gz_s 1 (pc' := 147) (L' := [some (.ref x), some (.int (zi a)), some (.int (zi b)), some (.int (zi t)), some (.int (zi jn11v0)), some (.int (zi jn12v0)), some (.int (zi z24)), some (.int (zi k))]) (S' := [.ref x, .ref c8]) rfl ?_
                        refine gs_gtk rfl (by decide) rfl sq158.1 tx rfl rfl s159 ?_
                        refine gz_s 1 (pc' := 151) (L' := [some (.ref x), some (.int (zi a)), some (.int (zi b)), some (.int (zi t)), some (.int (zi jn11v0)), some (.int (zi jn12v0)), some (.int (zi z24)), some (.int (zi k))]) (S' := [.int (zi a), .int (zi n0), .ref c8]) rfl ?_
                        have hl169 : 10 ≤ hq158.2.2.2.1 c8 ∧ hq158.2.2.2.1 c8 ≤ 10 := gJ.rowl (G := gGG) sq158.1 tc8 rfl
                        refine gs_ast rfl (by decide) sq158 tc8 rfl rfl rfl (by decide) (fun _ => rfl) (by omega) (by omega) (fun _ => (by decide : (60999 : Nat) ∈ ([55008, 60999, 61999, 62999, 63999, 64999] : List Nat))) (by omega) (by omega) (fun h170 sh170 eh170 fh170 => ?_)
                        have pr171 := gRn.pt fh170 tc8 (by decide) pr163
                        have pr172 := gRn.pt fh170 tc8 (by decide) pr164
                        have pr173 := gRn.pt fh170 tc8 (by decide) pr165
                        have pr174 := gRn.pt fh170 tc8 (by decide) pr166
                        have pr175 := gRow.put (i := n0) (z := a) uq tc8 (by decide) fh170 eh170 (by omega) (by omega) pr167
                        have pr176 := gRow.pt fh170 tc8 (by decide) pr168
                        have pr177 := gCr.pt fh170 tc8 (by decide) yq158_0
                        have s178 := (fh170 x 8 (fun q => absurd (((tx).symm.trans (congrArg ty q.1)).trans tc8) (by decide))).trans s159
                        have s179 := (fh170 x 4 (fun q => absurd (((tx).symm.trans (congrArg ty q.1)).trans tc8) (by decide))).trans s160
                        have s180 := (fh170 x 5 (fun q => absurd (((tx).symm.trans (congrArg ty q.1)).trans tc8) (by decide))).trans s161
                        have s181 := (fh170 x 9 (fun q => absurd (((tx).symm.trans (congrArg ty q.1)).trans tc8) (by decide))).trans s162
                        have pr182 := gEl.set (i := n0) (z := a) uq tc8 (by decide) eh170 (by omega) (by omega)
                        refine gz_s 1 (pc' := 153) (L' := [some (.ref x), some (.int (zi a)), some (.int (zi b)), some (.int (zi t)), some (.int (zi jn11v0)), some (.int (zi jn12v0)), some (.int (zi z24)), some (.int (zi k))]) (S' := [.ref x]) rfl ?_
                        refine gs_gtk rfl (by decide) rfl sh170.1 tx rfl rfl s180 ?_
                        refine gz_s 1 (pc' := 157) (L' := [some (.ref x), some (.int (zi a)), some (.int (zi b)), some (.int (zi t)), some (.int (zi jn11v0)), some (.int (zi jn12v0)), some (.int (zi z24)), some (.int (zi k))]) (S' := [.ref x, .ref c9]) rfl ?_
                        refine gs_gtk rfl (by decide) rfl sh170.1 tx rfl rfl s178 ?_
                        refine gz_s 1 (pc' := 161) (L' := [some (.ref x), some (.int (zi a)), some (.int (zi b)), some (.int (zi t)), some (.int (zi jn11v0)), some (.int (zi jn12v0)), some (.int (zi z24)), some (.int (zi k))]) (S' := [.int (zi b), .int (zi n0), .ref c9]) rfl ?_
                        have hl183 : 10 ≤ h170.2.2.2.1 c9 ∧ h170.2.2.2.1 c9 ≤ 10 := gJ.rowl (G := gGG) sh170.1 tc9 rfl
                        refine gs_ast rfl (by decide) sh170 tc9 rfl rfl rfl (by decide) (fun _ => rfl) (by omega) (by omega) (fun _ => (by decide : (61999 : Nat) ∈ ([55008, 60999, 61999, 62999, 63999, 64999] : List Nat))) (by omega) (by omega) (fun h184 sh184 eh184 fh184 => ?_)
                        have pr185 := gRn.pt fh184 tc9 (by decide) pr171
                        have pr186 := gRn.pt fh184 tc9 (by decide) pr172
                        have pr187 := gRn.pt fh184 tc9 (by decide) pr173
                        have pr188 := gRn.pt fh184 tc9 (by decide) pr174
                        have pr189 := gRow.pt fh184 tc9 (by decide) pr175
                        have pr190 := gRow.put (i := n0) (z := b) uq tc9 (by decide) fh184 eh184 (by omega) (by omega) pr176
                        have pr191 := gCr.pt fh184 tc9 (by decide) pr177
                        have pr192 := gEl.pt fh184 tc9 (by decide) pr182
                        have s193 := (fh184 x 8 (fun q => absurd (((tx).symm.trans (congrArg ty q.1)).trans tc9) (by decide))).trans s178
                        have s194 := (fh184 x 4 (fun q => absurd (((tx).symm.trans (congrArg ty q.1)).trans tc9) (by decide))).trans s179
                        have s195 := (fh184 x 5 (fun q => absurd (((tx).symm.trans (congrArg ty q.1)).trans tc9) (by decide))).trans s180
                        have s196 := (fh184 x 9 (fun q => absurd (((tx).symm.trans (congrArg ty q.1)).trans tc9) (by decide))).trans s181
                        have pr197 := gEl.set (i := n0) (z := b) uq tc9 (by decide) eh184 (by omega) (by omega)
                        refine gz_s 1 (pc' := 163) (L' := [some (.ref x), some (.int (zi a)), some (.int (zi b)), some (.int (zi t)), some (.int (zi jn11v0)), some (.int (zi jn12v0)), some (.int (zi z24)), some (.int (zi k))]) (S' := [.ref x]) rfl ?_
                        refine gs_gtr rfl (by decide) rfl sh184.1 tx rfl rfl rfl (fun c198 ec198 tc198 => ?_)
                        refine gz_s 1 (pc' := 167) (L' := [some (.ref x), some (.int (zi a)), some (.int (zi b)), some (.int (zi t)), some (.int (zi jn11v0)), some (.int (zi jn12v0)), some (.int (zi z24)), some (.int (zi k))]) (S' := [.ref x, .ref c198]) rfl ?_
                        refine gs_gtk rfl (by decide) rfl sh184.1 tx rfl rfl s193 ?_
                        refine gz_s 2 (pc' := 173) (L' := [some (.ref x), some (.int (zi a)), some (.int (zi b)), some (.int (zi t)), some (.int (zi jn11v0)), some (.int (zi jn12v0)), some (.int (zi z24)), some (.int (zi k))]) (S' := [.int (zi z24), .int (zi 0), .int (zi n0), .ref c198]) rfl ?_
                        refine gz_call rfl (by decide) rfl (by decide) (by decide) (gcal_of rfl rfl rfl (Nat.le_of_ble_eq_true rfl) rfl) (cl_Math_max _ sh184.1 0 (by omega) z24 (by omega) ) (fun q199 _ wq199 => ?_)
                        obtain ⟨pq199, oq199, hq199⟩ := q199
                        obtain ⟨xq199, zq199, gq199, aq199, bq199, uq199_0, uq199_1, uq199_2⟩ := wq199
                        refine ⟨_, gq199, ?_⟩
                        show gz gPP gGG gcn _ _ 176 [some (.ref x), some (.int (zi a)), some (.int (zi b)), some (.int (zi t)), some (.int (zi jn11v0)), some (.int (zi jn12v0)), some (.int (zi z24)), some (.int (zi k))] [.int (zi zq199), .int (zi n0), .ref c198] hq199 _
                        have sq199 : gSs rT 1027 ty [55008, 60999, 61999, 62999, 63999, 64999] h hq199 := gSs.tr sh184 xq199 (by decide)
                        have s200 := (xq199.2.2.2.2.2 x 8 (by rw [tx]; decide)).trans s193
                        have s201 := (xq199.2.2.2.2.2 x 4 (by rw [tx]; decide)).trans s194
                        have s202 := (xq199.2.2.2.2.2 x 5 (by rw [tx]; decide)).trans s195
                        have s203 := (xq199.2.2.2.2.2 x 9 (by rw [tx]; decide)).trans s196
                        have s204 := (xq199.2.2.2.2.2 x 6 (by rw [tx]; decide)).trans ec198
                        have pr205 := gRn.fr xq199.2 (by decide) pr185
                        have pr206 := gRn.fr xq199.2 (by decide) pr186
                        have pr207 := gRn.fr xq199.2 (by decide) pr187
                        have pr208 := gRn.fr xq199.2 (by decide) pr188
                        have pr209 := gRow.fr xq199.2 (by decide) pr189
                        have pr210 := gRow.fr xq199.2 (by decide) pr190
                        have pr211 := gCr.fr xq199.2 (by decide) pr191
                        have pr212 := gEl.fr xq199.2 (by decide) (fun _ => rfl) pr192
                        have pr213 := gEl.fr xq199.2 (by decide) (fun _ => rfl) pr197
                        have hl214 : 10 ≤ hq199.2.2.2.1 c198 ∧ hq199.2.2.2.1 c198 ≤ 10 := gJ.rowl (G := gGG) sq199.1 tc198 rfl
                        refine gs_ast rfl (by decide) sq199 tc198 rfl rfl rfl (by decide) (fun _ => rfl) (by omega) (by omega) (fun _ => (by decide : (62999 : Nat) ∈ ([55008, 60999, 61999, 62999, 63999, 64999] : List Nat))) (by omega) (by omega) (fun h215 sh215 eh215 fh215 => ?_)
                        have pr216 := gRn.pt fh215 tc198 (by decide) pr205
                        have pr217 := gRn.pt fh215 tc198 (by decide) pr206
                        have pr218 := gRn.put (i := n0) (z := zq199) uq tc198 (by decide) fh215 eh215 (by omega) (by omega) pr207
                        have pr219 := gRn.pt fh215 tc198 (by decide) pr208
                        have pr220 := gRow.pt fh215 tc198 (by decide) pr209
                        have pr221 := gRow.pt fh215 tc198 (by decide) pr210
                        have pr222 := gCr.pt fh215 tc198 (by decide) pr211
                        have pr223 := gEl.pt fh215 tc198 (by decide) pr212
                        have pr224 := gEl.pt fh215 tc198 (by decide) pr213
                        have s225 := (fh215 x 8 (fun q => absurd (((tx).symm.trans (congrArg ty q.1)).trans tc198) (by decide))).trans s200
                        have s226 := (fh215 x 4 (fun q => absurd (((tx).symm.trans (congrArg ty q.1)).trans tc198) (by decide))).trans s201
                        have s227 := (fh215 x 5 (fun q => absurd (((tx).symm.trans (congrArg ty q.1)).trans tc198) (by decide))).trans s202
                        have s228 := (fh215 x 9 (fun q => absurd (((tx).symm.trans (congrArg ty q.1)).trans tc198) (by decide))).trans s203
                        have s229 := (fh215 x 6 (fun q => absurd (((tx).symm.trans (congrArg ty q.1)).trans tc198) (by decide))).trans s204
                        have pr230 := gEl.set (i := n0) (z := zq199) uq tc198 (by decide) eh215 (by omega) (by omega)
                        refine gz_s 1 (pc' := 178) (L' := [some (.ref x), some (.int (zi a)), some (.int (zi b)), some (.int (zi t)), some (.int (zi jn11v0)), some (.int (zi jn12v0)), some (.int (zi z24)), some (.int (zi k))]) (S' := [.ref x]) rfl ?_
                        refine gs_gtr rfl (by decide) rfl sh215.1 tx rfl rfl rfl (fun c231 ec231 tc231 => ?_)
                        refine gz_s 1 (pc' := 182) (L' := [some (.ref x), some (.int (zi a)), some (.int (zi b)), some (.int (zi t)), some (.int (zi jn11v0)), some (.int (zi jn12v0)), some (.int (zi z24)), some (.int (zi k))]) (S' := [.ref x, .ref c231]) rfl ?_
                        refine gs_gtk rfl (by decide) rfl sh215.1 tx rfl rfl s225 ?_
                        refine gz_s 1 (pc' := 186) (L' := [some (.ref x), some (.int (zi a)), some (.int (zi b)), some (.int (zi t)), some (.int (zi jn11v0)), some (.int (zi jn12v0)), some (.int (zi z24)), some (.int (zi k))]) (S' := [.int (zi t), .int (zi n0), .ref c231]) rfl ?_
                        have hl232 : 10 ≤ h215.2.2.2.1 c231 ∧ h215.2.2.2.1 c231 ≤ 10 := gJ.rowl (G := gGG) sh215.1 tc231 rfl
                        refine gs_ast rfl (by decide) sh215 tc231 rfl rfl rfl (by decide) (fun _ => rfl) (by omega) (by omega) (fun _ => (by decide : (63999 : Nat) ∈ ([55008, 60999, 61999, 62999, 63999, 64999] : List Nat))) (by omega) (by omega) (fun h233 sh233 eh233 fh233 => ?_)
                        have pr234 := gRn.pt fh233 tc231 (by decide) pr216
                        have pr235 := gRn.pt fh233 tc231 (by decide) pr217
                        have pr236 := gRn.pt fh233 tc231 (by decide) pr218
                        have pr237 := gRn.put (i := n0) (z := t) uq tc231 (by decide) fh233 eh233 (by omega) (by omega) pr219
                        have pr238 := gRow.pt fh233 tc231 (by decide) pr220
                        have pr239 := gRow.pt fh233 tc231 (by decide) pr221
                        have pr240 := gCr.pt fh233 tc231 (by decide) pr222
                        have pr241 := gEl.pt fh233 tc231 (by decide) pr223
                        have pr242 := gEl.pt fh233 tc231 (by decide) pr224
                        have pr243 := gEl.pt fh233 tc231 (by decide) pr230
                        have s244 := (fh233 x 8 (fun q => absurd (((tx).symm.trans (congrArg ty q.1)).trans tc231) (by decide))).trans s225
                        have s245 := (fh233 x 4 (fun q => absurd (((tx).symm.trans (congrArg ty q.1)).trans tc231) (by decide))).trans s226
                        have s246 := (fh233 x 5 (fun q => absurd (((tx).symm.trans (congrArg ty q.1)).trans tc231) (by decide))).trans s227
                        have s247 := (fh233 x 9 (fun q => absurd (((tx).symm.trans (congrArg ty q.1)).trans tc231) (by decide))).trans s228
                        have s248 := (fh233 x 6 (fun q => absurd (((tx).symm.trans (congrArg ty q.1)).trans tc231) (by decide))).trans s229
                        have s249 := (fh233 x 7 (fun q => absurd (((tx).symm.trans (congrArg ty q.1)).trans tc231) (by decide))).trans ec231
                        have pr250 := gEl.set (i := n0) (z := t) uq tc231 (by decide) eh233 (by omega) (by omega)
                        refine gz_s 2 (pc' := 189) (L' := [some (.ref x), some (.int (zi a)), some (.int (zi b)), some (.int (zi t)), some (.int (zi jn11v0)), some (.int (zi jn12v0)), some (.int (zi z24)), some (.int (zi k))]) (S' := [.ref x, .ref x]) rfl ?_
                        refine gs_gtk rfl (by decide) rfl sh233.1 tx rfl rfl s244 ?_
                        refine gy_s 2 (pc' := 194) (L' := [some (.ref x), some (.int (zi a)), some (.int (zi b)), some (.int (zi t)), some (.int (zi jn11v0)), some (.int (zi jn12v0)), some (.int (zi z24)), some (.int (zi k))]) (S' := [.int ((zi n0) + (zi 1)), .ref x]) (L2 := [some (.ref x), some (.int (zi a)), some (.int (zi b)), some (.int (zi t)), some (.int (zi jn11v0)), some (.int (zi jn12v0)), some (.int (zi z24)), some (.int (zi k))]) (S2 := [.int (zi (n0 + 1)), .ref x]) rfl (by simp only [zi_add, zi_sub, zi_mul, zi_neg, zi_and1, zi_and7, zi_and15, zi_and31, zi_and255]) (by simp only [zi_add, zi_sub, zi_mul, zi_neg, zi_and1, zi_and7, zi_and15, zi_and31, zi_and255]) ?_
                        refine gs_put rfl (by decide) rfl sh233 tx rfl rfl rfl rfl (Or.inl rfl) (by decide) (by omega) (by omega) (fun h251 sh251 eh251 fh251 => ?_)
                        have pr252 := gRn.pt fh251 tx (by decide) pr234
                        have pr253 := gRn.pt fh251 tx (by decide) pr235
                        have pr254 := gRn.pt fh251 tx (by decide) pr236
                        have pr255 := gRn.pt fh251 tx (by decide) pr237
                        have pr256 := gRow.pt fh251 tx (by decide) pr238
                        have pr257 := gRow.pt fh251 tx (by decide) pr239
                        have pr258 := gCr.pt fh251 tx (by decide) pr240
                        have pr259 := gEl.pt fh251 tx (by decide) pr241
                        have pr260 := gEl.pt fh251 tx (by decide) pr242
                        have pr261 := gEl.pt fh251 tx (by decide) pr243
                        have pr262 := gEl.pt fh251 tx (by decide) pr250
                        have s263 := (fh251 x 4 (fun q => absurd q.2 (by decide))).trans s245
                        have s264 := (fh251 x 5 (fun q => absurd q.2 (by decide))).trans s246
                        have s265 := (fh251 x 9 (fun q => absurd q.2 (by decide))).trans s247
                        have s266 := (fh251 x 6 (fun q => absurd q.2 (by decide))).trans s248
                        have s267 := (fh251 x 7 (fun q => absurd q.2 (by decide))).trans s249
                        obtain ⟨c2, rc2, hcm⟩ := pr258
                        have hts268 : gTc ty (n0 + 1) h251 := gTc.tell (by omega) pr256 pr257 rc2 tle tsm hcm (by omega) (by omega)
                        refine gz_s 1 (pc' := 198) (L' := [some (.ref x), some (.int (zi a)), some (.int (zi b)), some (.int (zi t)), some (.int (zi jn11v0)), some (.int (zi jn12v0)), some (.int (zi z24)), some (.int (zi k))]) (S' := [.ref x]) rfl ?_
                        refine gs_gtk rfl (by decide) rfl sh251.1 tx rfl rfl eh251 ?_
                        have hsk269 : gSk S.1.2.2.2.2.2.2 n0 a b t := gSk.cg ecf (gSk.mk (by omega) ⟨by omega, by omega⟩ (by omega) (by omega) (fun j h1 h2 => lp154k12 j h1 (by omega)))
                        have hsz270 : gSz S.1.2.2.2.2.2.2 n0 a b t (n0 + 1) (n0 + 1) := ⟨fun _ => ⟨by omega, by omega⟩, fun w => absurd hsk269 w⟩
                        have hxr271v : zq199 = if S.1.2.2.2.2.2.2 a.toNat = -1 then 0 else S.1.2.2.2.2.2.2 a.toNat := by have e9 := ecf a.toNat (by omega); rw [← e9]; split <;> omega
                        have hxr271h := pr254
                        rw [hxr271v] at hxr271h
                        have hxr271 : gXr ty (eQ2 n0 S a b t) h251 := by
                          rw [eQ2_y hsk269]
                          exact ⟨pr252, pr253, gRow.Rn (by decide) etf.fu pr256, gRow.Rn (by decide) ett.fu pr257, hxr271h, pr255, gRow.Rn (by decide) (fun j hj => by rw [hcm.2.2.2 (by omega) j, ecf j hj]; first | rfl | (rw [show kb = b + 1 by omega]; rfl)) rc2⟩
                        exact gz_end (I := .ireturn) (len := 1) rfl (Or.inl rfl) ⟨sh251, n0 + 1, n0 + 1, rfl, (by omega), (by omega), eh251, (by omega), (by omega), hts268, hsz270, hxr271⟩
                      · refine gy_icF rfl (by decide) (by decide) (by omega) (by omega) hc156 ?_
                        refine gz_s 1 (pc' := 111) (L' := [some (.ref x), some (.int (zi a)), some (.int (zi b)), some (.int (zi t)), some (.int (zi jn11v0)), some (.int (zi jn12v0)), some (.int (zi z24)), some (.int (zi k))]) (S' := [.ref x]) rfl ?_
                        refine gs_gtk rfl (by decide) rfl sh155.1 tx rfl rfl lp154k3 ?_
                        refine gz_s 1 (pc' := 116) (L' := [some (.ref x), some (.int (zi a)), some (.int (zi b)), some (.int (zi t)), some (.int (zi jn11v0)), some (.int (zi jn12v0)), some (.int (zi z24)), some (.int (zi k))]) (S' := [.int (zi k), .ref c10]) rfl ?_
                        have hl272 : 64 ≤ h155.2.2.2.1 c10 ∧ h155.2.2.2.1 c10 ≤ 64 := gJ.rowl (G := gGG) sh155.1 tc10 rfl
                        refine gs_ald rfl (by decide) sh155.1 tc10 rfl rfl rfl (by decide) (fun _ => rfl) (by omega) (by omega) (fun z273 ez273 az273 bz273 => ?_)
                        have hf274 := gRow.at (i := k) (z := z273) lp154k11 tc10 ez273 (by omega) (by omega) (by omega)
                        refine gz_s 1 (pc' := 119) (L' := [some (.ref x), some (.int (zi a)), some (.int (zi b)), some (.int (zi t)), some (.int (zi jn11v0)), some (.int (zi jn12v0)), some (.int (zi z24)), some (.int (zi k))]) (S' := [.int (zi z24), .int (zi z273)]) rfl ?_
                        by_cases hc275 : (z273 : Int) = z24
                        · refine gy_icT (pc' := 124) rfl (by decide) (by decide) (by omega) (by omega) hc275 ?_
                          have hce276 : ∀ j : Int, a ≤ j → j < k + 1 → cf j.toNat = cf a.toNat := fun j h1 h2 => by
                            by_cases e : j = k
                            · subst e; omega
                            · exact lp154k12 j h1 (by omega)
                          refine gy_s 2 (pc' := 104) (L' := [some (.ref x), some (.int (zi a)), some (.int (zi b)), some (.int (zi t)), some (.int (zi jn11v0)), some (.int (zi jn12v0)), some (.int (zi z24)), some (.int ((zi k) + zi 1))]) (S' := []) (L2 := [some (.ref x), some (.int (zi a)), some (.int (zi b)), some (.int (zi t)), some (.int (zi jn11v0)), some (.int (zi jn12v0)), some (.int (zi z24)), some (.int (zi (k + 1)))]) (S2 := []) rfl (by simp only [zi_add, zi_sub, zi_mul, zi_neg, zi_and1, zi_and7, zi_and15, zi_and31, zi_and255]) (by simp only [zi_add, zi_sub, zi_mul, zi_neg, zi_and1, zi_and7, zi_and15, zi_and31, zi_and255]) ?_
                          exact gz_wk (ihlp154 h155 (k + 1) (by omega) sh155 (by omega) (by omega) (by omega) (by omega) (by omega) (by omega) (by omega) (by omega) (by omega) lp154k0 lp154k1 lp154k2 lp154k3 lp154k4 lp154k5 lp154k6 lp154k7 lp154k8 lp154k9 lp154k10 lp154k11 hce276) (gLw.s (gLw.s (gLw.s (gLw.s (gLw.s (gLw.s (gLw.s (gLw.s gLw.z))))))))
                        · refine gy_icF rfl (by decide) (by decide) (by omega) (by omega) hc275 ?_
                          refine gz_s 1 (pc' := 123) (L' := [some (.ref x), some (.int (zi a)), some (.int (zi b)), some (.int (zi t)), some (.int (zi jn11v0)), some (.int (zi jn12v0)), some (.int (zi z24)), some (.int (zi k))]) (S' := [.int (zi 0)]) rfl ?_
                          have hsk277 : ¬ gSk S.1.2.2.2.2.2.2 n0 a b t := fun w => by have w5 := (gSk.cg ecf.sy w).at (j := k) (by omega) (by omega); omega
                          have hsz278 : gSz S.1.2.2.2.2.2.2 n0 a b t 0 n0 := ⟨fun w => absurd w hsk277, fun _ => ⟨by omega, by omega⟩⟩
                          have hxr279 : gXr ty (eQ2 n0 S a b t) h155 := by
                            rw [eQ2_n hsk277]
                            exact ⟨lp154k5, lp154k6, gRow.Rn (by decide) etf lp154k9, gRow.Rn (by decide) ett lp154k10, lp154k7, lp154k8, gRow.Rn (by decide) ecf lp154k11⟩
                          exact gz_end (I := .ireturn) (len := 1) rfl (Or.inl rfl) ⟨sh155, 0, n0, rfl, (by omega), (by omega), lp154k0, (by omega), (by omega), lp154k4, hsz278, hxr279⟩
                  exact gz_wk (lp154 _ h a (Nat.lt_succ_self _) hS (by omega) (by omega) (by omega) (by omega) (by omega) (by omega) (by omega) (by omega) (by omega) en0 ec8 ec9 ec10 hytc xr1 xr2 xr5 xr6 rf rt rc (fun j h1 h2 => absurd h2 (by omega))) (gLw.s (gLw.s (gLw.s (gLw.s (gLw.s (gLw.s (gLw.s (gLw.s gLw.z))))))))
                · refine gy_icF rfl (by decide) (by decide) (by omega) (by omega) hc153 ?_
                  refine gz_s 1 (pc' := 100) (L' := [some (.ref x), some (.int (zi a)), some (.int (zi b)), some (.int (zi t)), some (.int (zi jn11v0)), some (.int (zi jn12v0)), some (.int (zi z24)), none]) (S' := [.int (zi 0)]) rfl ?_
                  have hsk280 : ¬ gSk S.1.2.2.2.2.2.2 n0 a b t := fun w => by obtain ⟨w1, w2, w3, w4, w5⟩ := gSk.cg ecf.sy w; omega
                  have hsz281 : gSz S.1.2.2.2.2.2.2 n0 a b t 0 n0 := ⟨fun w => absurd w hsk280, fun _ => ⟨by omega, by omega⟩⟩
                  have hxr282 : gXr ty (eQ2 n0 S a b t) h := by
                    rw [eQ2_n hsk280]
                    exact ⟨xr1, xr2, gRow.Rn (by decide) etf rf, gRow.Rn (by decide) ett rt, xr5, xr6, gRow.Rn (by decide) ecf rc⟩
                  exact gz_end (I := .ireturn) (len := 1) rfl (Or.inl rfl) ⟨hS, 0, n0, rfl, (by omega), (by omega), en0, (by omega), (by omega), hytc, hsz281, hxr282⟩
            · refine gy_icF rfl (by decide) (by decide) (by omega) (by omega) hc22 ?_
              refine gz_s 1 (pc' := 76) (L' := [some (.ref x), some (.int (zi a)), some (.int (zi b)), some (.int (zi t)), some (.int (zi jn11v0)), some (.int (zi jn12v0)), none, none]) (S' := [.int (zi 0)]) rfl ?_
              have hsk283 : ¬ gSk S.1.2.2.2.2.2.2 n0 a b t := fun w => by obtain ⟨w1, w2, w3, w4, w5⟩ := gSk.cg ecf.sy w; omega
              have hsz284 : gSz S.1.2.2.2.2.2.2 n0 a b t 0 n0 := ⟨fun w => absurd w hsk283, fun _ => ⟨by omega, by omega⟩⟩
              have hxr285 : gXr ty (eQ2 n0 S a b t) h := by
                rw [eQ2_n hsk283]
                exact ⟨xr1, xr2, gRow.Rn (by decide) etf rf, gRow.Rn (by decide) ett rt, xr5, xr6, gRow.Rn (by decide) ecf rc⟩
              exact gz_end (I := .ireturn) (len := 1) rfl (Or.inl rfl) ⟨hS, 0, n0, rfl, (by omega), (by omega), en0, (by omega), (by omega), hytc, hsz284, hxr285⟩
      · refine gy_ifF rfl (by decide) (by decide) (by omega) hc13 ?_
        refine gz_s 1 (pc' := 54) (L' := [some (.ref x), some (.int (zi a)), some (.int (zi b)), some (.int (zi t)), some (.int (zi jn11v0)), some (.int (zi jn12v0)), none, none]) (S' := [.int (zi jn12v0)]) rfl ?_
        by_cases hc286 : (jn12v0 : Int) = 0
        · refine gy_ifT (pc' := 75) rfl (by decide) (by decide) (by omega) hc286 ?_
          refine gz_s 1 (pc' := 76) (L' := [some (.ref x), some (.int (zi a)), some (.int (zi b)), some (.int (zi t)), some (.int (zi jn11v0)), some (.int (zi jn12v0)), none, none]) (S' := [.int (zi 0)]) rfl ?_
          have hsk287 : ¬ gSk S.1.2.2.2.2.2.2 n0 a b t := fun w => by obtain ⟨w1, w2, w3, w4, w5⟩ := gSk.cg ecf.sy w; omega
          have hsz288 : gSz S.1.2.2.2.2.2.2 n0 a b t 0 n0 := ⟨fun w => absurd w hsk287, fun _ => ⟨by omega, by omega⟩⟩
          have hxr289 : gXr ty (eQ2 n0 S a b t) h := by
            rw [eQ2_n hsk287]
            exact ⟨xr1, xr2, gRow.Rn (by decide) etf rf, gRow.Rn (by decide) ett rt, xr5, xr6, gRow.Rn (by decide) ecf rc⟩
          exact gz_end (I := .ireturn) (len := 1) rfl (Or.inl rfl) ⟨hS, 0, n0, rfl, (by omega), (by omega), en0, (by omega), (by omega), hytc, hsz288, hxr289⟩
        · refine gy_ifF rfl (by decide) (by decide) (by omega) hc286 ?_
          refine gz_s 1 (pc' := 58) (L' := [some (.ref x), some (.int (zi a)), some (.int (zi b)), some (.int (zi t)), some (.int (zi jn11v0)), some (.int (zi jn12v0)), none, none]) (S' := [.int (zi t)]) rfl ?_
          by_cases hc290 : (t : Int) < 0
          · refine gy_ifT (pc' := 75) rfl (by decide) (by decide) (by omega) hc290 ?_
            refine gz_s 1 (pc' := 76) (L' := [some (.ref x), some (.int (zi a)), some (.int (zi b)), some (.int (zi t)), some (.int (zi jn11v0)), some (.int (zi jn12v0)), none, none]) (S' := [.int (zi 0)]) rfl ?_
            have hsk291 : ¬ gSk S.1.2.2.2.2.2.2 n0 a b t := fun w => by obtain ⟨w1, w2, w3, w4, w5⟩ := gSk.cg ecf.sy w; omega
            have hsz292 : gSz S.1.2.2.2.2.2.2 n0 a b t 0 n0 := ⟨fun w => absurd w hsk291, fun _ => ⟨by omega, by omega⟩⟩
            have hxr293 : gXr ty (eQ2 n0 S a b t) h := by
              rw [eQ2_n hsk291]
              exact ⟨xr1, xr2, gRow.Rn (by decide) etf rf, gRow.Rn (by decide) ett rt, xr5, xr6, gRow.Rn (by decide) ecf rc⟩
            exact gz_end (I := .ireturn) (len := 1) rfl (Or.inl rfl) ⟨hS, 0, n0, rfl, (by omega), (by omega), en0, (by omega), (by omega), hytc, hsz292, hxr293⟩
          · refine gy_ifF rfl (by decide) (by decide) (by omega) hc290 ?_
            refine gz_s 2 (pc' := 63) (L' := [some (.ref x), some (.int (zi a)), some (.int (zi b)), some (.int (zi t)), some (.int (zi jn11v0)), some (.int (zi jn12v0)), none, none]) (S' := [.int (zi 3), .int (zi t)]) rfl ?_
            by_cases hc294 : (3 : Int) < t
            · refine gy_icT (pc' := 75) rfl (by decide) (by decide) (by omega) (by omega) hc294 ?_
              refine gz_s 1 (pc' := 76) (L' := [some (.ref x), some (.int (zi a)), some (.int (zi b)), some (.int (zi t)), some (.int (zi jn11v0)), some (.int (zi jn12v0)), none, none]) (S' := [.int (zi 0)]) rfl ?_
              have hsk295 : ¬ gSk S.1.2.2.2.2.2.2 n0 a b t := fun w => by obtain ⟨w1, w2, w3, w4, w5⟩ := gSk.cg ecf.sy w; omega
              have hsz296 : gSz S.1.2.2.2.2.2.2 n0 a b t 0 n0 := ⟨fun w => absurd w hsk295, fun _ => ⟨by omega, by omega⟩⟩
              have hxr297 : gXr ty (eQ2 n0 S a b t) h := by
                rw [eQ2_n hsk295]
                exact ⟨xr1, xr2, gRow.Rn (by decide) etf rf, gRow.Rn (by decide) ett rt, xr5, xr6, gRow.Rn (by decide) ecf rc⟩
              exact gz_end (I := .ireturn) (len := 1) rfl (Or.inl rfl) ⟨hS, 0, n0, rfl, (by omega), (by omega), en0, (by omega), (by omega), hytc, hsz296, hxr297⟩
            · refine gy_icF rfl (by decide) (by decide) (by omega) (by omega) hc294 ?_
              refine gz_s 1 (pc' := 67) (L' := [some (.ref x), some (.int (zi a)), some (.int (zi b)), some (.int (zi t)), some (.int (zi jn11v0)), some (.int (zi jn12v0)), none, none]) (S' := [.ref x]) rfl ?_
              refine gs_gtk rfl (by decide) rfl hS.1 tx rfl rfl en0 ?_
              refine gz_s 1 (pc' := 72) (L' := [some (.ref x), some (.int (zi a)), some (.int (zi b)), some (.int (zi t)), some (.int (zi jn11v0)), some (.int (zi jn12v0)), none, none]) (S' := [.int (zi 10), .int (zi n0)]) rfl ?_
              by_cases hc298 : (n0 : Int) < 10
              · refine gy_icT (pc' := 77) rfl (by decide) (by decide) (by omega) (by omega) hc298 ?_
                refine gz_s 1 (pc' := 78) (L' := [some (.ref x), some (.int (zi a)), some (.int (zi b)), some (.int (zi t)), some (.int (zi jn11v0)), some (.int (zi jn12v0)), none, none]) (S' := [.ref x]) rfl ?_
                refine gs_gtk rfl (by decide) rfl hS.1 tx rfl rfl ec10 ?_
                refine gz_s 1 (pc' := 82) (L' := [some (.ref x), some (.int (zi a)), some (.int (zi b)), some (.int (zi t)), some (.int (zi jn11v0)), some (.int (zi jn12v0)), none, none]) (S' := [.int (zi a), .ref c10]) rfl ?_
                have hl299 : 64 ≤ h.2.2.2.1 c10 ∧ h.2.2.2.1 c10 ≤ 64 := gJ.rowl (G := gGG) hS.1 tc10 rfl
                refine gs_ald rfl (by decide) hS.1 tc10 rfl rfl rfl (by decide) (fun _ => rfl) (by omega) (by omega) (fun z300 ez300 az300 bz300 => ?_)
                have hf301 := gRow.at (i := a) (z := z300) rc tc10 ez300 (by omega) (by omega) (by omega)
                refine gz_s 3 (pc' := 88) (L' := [some (.ref x), some (.int (zi a)), some (.int (zi b)), some (.int (zi t)), some (.int (zi jn11v0)), some (.int (zi jn12v0)), some (.int (zi z300)), none]) (S' := [.int (zi (-1)), .int (zi z300)]) rfl ?_
                by_cases hc302 : (z300 : Int) = (-1)
                · refine gy_icT (pc' := 101) rfl (by decide) (by decide) (by omega) (by omega) hc302 ?_
                  refine gz_s 2 (pc' := 104) (L' := [some (.ref x), some (.int (zi a)), some (.int (zi b)), some (.int (zi t)), some (.int (zi jn11v0)), some (.int (zi jn12v0)), some (.int (zi z300)), some (.int (zi a))]) (S' := []) rfl ?_
                  have lp303 : ∀ (fu : Nat) (h304 : gH) (k : Int), (65 - k).toNat < fu → gSs rT 1027 ty [55008, 60999, 61999, 62999, 63999, 64999] h h304 → (0 ≤ k ∧ k ≤ 64) → (a ≤ k) → (k ≤ b + 1) → (0 ≤ a) → (a ≤ b) → (b ≤ 63) → (0 ≤ t) → (t ≤ 3) → (z300 = -1 ∨ z300 = t + 1) → h304.2.2.2.2 x 8 = .int (zi n0) → h304.2.2.2.2 x 4 = .ref c8 → h304.2.2.2.2 x 5 = .ref c9 → h304.2.2.2.2 x 9 = .ref c10 → gTc ty n0 h304 → gRn 256 ty 53 S.1.1 h304 → gRn 1024 ty 59 S.1.2.1 h304 → gRn 10 ty 62 S.1.2.2.2.2.1 h304 → gRn 10 ty 63 S.1.2.2.2.2.2.1 h304 → gRow ty 60 tf h304 → gRow ty 61 tt h304 → gRow ty 64 cf h304 → (∀ j : Int, a ≤ j → j < k → cf j.toNat = cf a.toNat) → gz gPP gGG gcn (d + 2) gt62 104 [some (.ref x), some (.int (zi a)), some (.int (zi b)), some (.int (zi t)), some (.int (zi jn11v0)), some (.int (zi jn12v0)), some (.int (zi z300)), some (.int (zi k))] [] h304 (fun q _ => gSs rT 1027 ty [55008, 60999, 61999, 62999, 63999, 64999] h q.2.2 ∧ ∃ z n1 : Int, gfin gt62 q.1 q.2.1 = some (some (.int (zi z))) ∧ 0 ≤ z ∧ z ≤ 10 ∧ q.2.2.2.2.2.2 x 8 = .int (zi n1) ∧ 0 ≤ n1 ∧ n1 ≤ 10 ∧ (gTc ty n1 q.2.2) ∧ (gSz S.1.2.2.2.2.2.2 n0 a b t z n1) ∧ (gXr ty (eQ2 n0 S a b t) q.2.2)) := by
                    intro fu
                    induction fu with
                    | zero => intro h304 k hm; exact absurd hm (Nat.not_lt_zero _)
                    | succ fu ihlp303 =>
                      intro h304 k lp303m sh304 lp303f0 lp303f1 lp303f2 lp303f3 lp303f4 lp303f5 lp303f6 lp303f7 lp303f8 lp303k0 lp303k1 lp303k2 lp303k3 lp303k4 lp303k5 lp303k6 lp303k7 lp303k8 lp303k9 lp303k10 lp303k11 lp303k12
                      refine gz_s 2 (pc' := 107) (L' := [some (.ref x), some (.int (zi a)), some (.int (zi b)), some (.int (zi t)), some (.int (zi jn11v0)), some (.int (zi jn12v0)), some (.int (zi z300)), some (.int (zi k))]) (S' := [.int (zi b), .int (zi k)]) rfl ?_
                      by_cases hc305 : (b : Int) < k
                      · refine gy_icT (pc' := 130) rfl (by decide) (by decide) (by omega) (by omega) hc305 ?_
                        have hce306 : ∀ j : Int, a ≤ j → j < b + 1 → t + 1 ≤ gcr (cf j.toNat) := fun j h1 h2 => by
                          rw [lp303k12 j h1 (by omega)]
                          unfold gcr
                          split <;> omega
                        refine gz_s 1 (pc' := 131) (L' := [some (.ref x), some (.int (zi a)), some (.int (zi b)), some (.int (zi t)), some (.int (zi jn11v0)), some (.int (zi jn12v0)), some (.int (zi z300)), some (.int (zi k))]) (S' := [.ref x]) rfl ?_
                        refine gs_gtk rfl (by decide) rfl sh304.1 tx rfl rfl lp303k3 ?_
                        refine gy_s 5 (pc' := 139) (L' := [some (.ref x), some (.int (zi a)), some (.int (zi b)), some (.int (zi t)), some (.int (zi jn11v0)), some (.int (zi jn12v0)), some (.int (zi z300)), some (.int (zi k))]) (S' := [.int (zi t), .int ((zi b) + (zi 1)), .int (zi a), .ref c10]) (L2 := [some (.ref x), some (.int (zi a)), some (.int (zi b)), some (.int (zi t)), some (.int (zi jn11v0)), some (.int (zi jn12v0)), some (.int (zi z300)), some (.int (zi k))]) (S2 := [.int (zi t), .int (zi (b + 1)), .int (zi a), .ref c10]) rfl (by simp only [zi_add, zi_sub, zi_mul, zi_neg, zi_and1, zi_and7, zi_and15, zi_and31, zi_and255]) (by simp only [zi_add, zi_sub, zi_mul, zi_neg, zi_and1, zi_and7, zi_and15, zi_and31, zi_and255]) ?_
                        refine gz_call rfl (by decide) rfl (by decide) (by decide) (gcal_of rfl rfl rfl (Nat.le_of_ble_eq_true rfl) rfl) (cl_fill_range _ sh304.1 c10 tc10 a (by omega) (b + 1) (by omega) t (by omega) cf (by omega) uq lp303k11 hce306) (fun q307 _ wq307 => ?_)
                        obtain ⟨pq307, oq307, hq307⟩ := q307
                        obtain ⟨xq307, gq307, yq307_0⟩ := wq307
                        refine ⟨_, gq307, ?_⟩
                        show gz gPP gGG gcn _ _ 142 [some (.ref x), some (.int (zi a)), some (.int (zi b)), some (.int (zi t)), some (.int (zi jn11v0)), some (.int (zi jn12v0)), some (.int (zi z300)), some (.int (zi k))] [] hq307 _
                        have sq307 : gSs rT 1027 ty [55008, 60999, 61999, 62999, 63999, 64999] h hq307 := gSs.tr sh304 xq307 (by decide)
                        have s308 := (xq307.2.2.2.2.2 x 8 (by rw [tx]; decide)).trans lp303k0
                        have s309 := (xq307.2.2.2.2.2 x 4 (by rw [tx]; decide)).trans lp303k1
                        have s310 := (xq307.2.2.2.2.2 x 5 (by rw [tx]; decide)).trans lp303k2
                        have s311 := (xq307.2.2.2.2.2 x 9 (by rw [tx]; decide)).trans lp303k3
                        have pr312 := gRn.fr xq307.2 (by decide) lp303k5
                        have pr313 := gRn.fr xq307.2 (by decide) lp303k6
                        have pr314 := gRn.fr xq307.2 (by decide) lp303k7
                        have pr315 := gRn.fr xq307.2 (by decide) lp303k8
                        have pr316 := gRow.fr xq307.2 (by decide) lp303k9
                        have pr317 := gRow.fr xq307.2 (by decide) lp303k10
                        refine gz_s 1 (pc' := 143) (L' := [some (.ref x), some (.int (zi a)), some (.int (zi b)), some (.int (zi t)), some (.int (zi jn11v0)), some (.int (zi jn12v0)), some (.int (zi z300)), some (.int (zi k))]) (S' := [.ref x]) rfl ?_
                        refine gs_gtk rfl (by decide) rfl sq307.1 tx rfl rfl s309 ?_
                        refine gz_s 1 (pc' := 147) (L' := [some (.ref x), some (.int (zi a)), some (.int (zi b)), some (.int (zi t)), some (.int (zi jn11v0)), some (.int (zi jn12v0)), some (.int (zi z300)), some (.int (zi k))]) (S' := [.ref x, .ref c8]) rfl ?_
                        refine gs_gtk rfl (by decide) rfl sq307.1 tx rfl rfl s308 ?_
                        refine gz_s 1 (pc' := 151) (L' := [some (.ref x), some (.int (zi a)), some (.int (zi b)), some (.int (zi t)), some (.int (zi jn11v0)), some (.int (zi jn12v0)), some (.int (zi z300)), some (.int (zi k))]) (S' := [.int (zi a), .int (zi n0), .ref c8]) rfl ?_
                        have hl318 : 10 ≤ hq307.2.2.2.1 c8 ∧ hq307.2.2.2.1 c8 ≤ 10 := gJ.rowl (G := gGG) sq307.1 tc8 rfl
                        refine gs_ast rfl (by decide) sq307 tc8 rfl rfl rfl (by decide) (fun _ => rfl) (by omega) (by omega) (fun _ => (by decide : (60999 : Nat) ∈ ([55008, 60999, 61999, 62999, 63999, 64999] : List Nat))) (by omega) (by omega) (fun h319 sh319 eh319 fh319 => ?_)
                        have pr320 := gRn.pt fh319 tc8 (by decide) pr312
                        have pr321 := gRn.pt fh319 tc8 (by decide) pr313
                        have pr322 := gRn.pt fh319 tc8 (by decide) pr314
                        have pr323 := gRn.pt fh319 tc8 (by decide) pr315
                        have pr324 := gRow.put (i := n0) (z := a) uq tc8 (by decide) fh319 eh319 (by omega) (by omega) pr316
                        have pr325 := gRow.pt fh319 tc8 (by decide) pr317
                        have pr326 := gCr.pt fh319 tc8 (by decide) yq307_0
                        have s327 := (fh319 x 8 (fun q => absurd (((tx).symm.trans (congrArg ty q.1)).trans tc8) (by decide))).trans s308
                        have s328 := (fh319 x 4 (fun q => absurd (((tx).symm.trans (congrArg ty q.1)).trans tc8) (by decide))).trans s309
                        have s329 := (fh319 x 5 (fun q => absurd (((tx).symm.trans (congrArg ty q.1)).trans tc8) (by decide))).trans s310
                        have s330 := (fh319 x 9 (fun q => absurd (((tx).symm.trans (congrArg ty q.1)).trans tc8) (by decide))).trans s311
                        have pr331 := gEl.set (i := n0) (z := a) uq tc8 (by decide) eh319 (by omega) (by omega)
                        refine gz_s 1 (pc' := 153) (L' := [some (.ref x), some (.int (zi a)), some (.int (zi b)), some (.int (zi t)), some (.int (zi jn11v0)), some (.int (zi jn12v0)), some (.int (zi z300)), some (.int (zi k))]) (S' := [.ref x]) rfl ?_
                        refine gs_gtk rfl (by decide) rfl sh319.1 tx rfl rfl s329 ?_
                        refine gz_s 1 (pc' := 157) (L' := [some (.ref x), some (.int (zi a)), some (.int (zi b)), some (.int (zi t)), some (.int (zi jn11v0)), some (.int (zi jn12v0)), some (.int (zi z300)), some (.int (zi k))]) (S' := [.ref x, .ref c9]) rfl ?_
                        refine gs_gtk rfl (by decide) rfl sh319.1 tx rfl rfl s327 ?_
                        refine gz_s 1 (pc' := 161) (L' := [some (.ref x), some (.int (zi a)), some (.int (zi b)), some (.int (zi t)), some (.int (zi jn11v0)), some (.int (zi jn12v0)), some (.int (zi z300)), some (.int (zi k))]) (S' := [.int (zi b), .int (zi n0), .ref c9]) rfl ?_
                        have hl332 : 10 ≤ h319.2.2.2.1 c9 ∧ h319.2.2.2.1 c9 ≤ 10 := gJ.rowl (G := gGG) sh319.1 tc9 rfl
                        refine gs_ast rfl (by decide) sh319 tc9 rfl rfl rfl (by decide) (fun _ => rfl) (by omega) (by omega) (fun _ => (by decide : (61999 : Nat) ∈ ([55008, 60999, 61999, 62999, 63999, 64999] : List Nat))) (by omega) (by omega) (fun h333 sh333 eh333 fh333 => ?_)
                        have pr334 := gRn.pt fh333 tc9 (by decide) pr320
                        have pr335 := gRn.pt fh333 tc9 (by decide) pr321
                        have pr336 := gRn.pt fh333 tc9 (by decide) pr322
                        have pr337 := gRn.pt fh333 tc9 (by decide) pr323
                        have pr338 := gRow.pt fh333 tc9 (by decide) pr324
                        have pr339 := gRow.put (i := n0) (z := b) uq tc9 (by decide) fh333 eh333 (by omega) (by omega) pr325
                        have pr340 := gCr.pt fh333 tc9 (by decide) pr326
                        have pr341 := gEl.pt fh333 tc9 (by decide) pr331
                        have s342 := (fh333 x 8 (fun q => absurd (((tx).symm.trans (congrArg ty q.1)).trans tc9) (by decide))).trans s327
                        have s343 := (fh333 x 4 (fun q => absurd (((tx).symm.trans (congrArg ty q.1)).trans tc9) (by decide))).trans s328
                        have s344 := (fh333 x 5 (fun q => absurd (((tx).symm.trans (congrArg ty q.1)).trans tc9) (by decide))).trans s329
                        have s345 := (fh333 x 9 (fun q => absurd (((tx).symm.trans (congrArg ty q.1)).trans tc9) (by decide))).trans s330
                        have pr346 := gEl.set (i := n0) (z := b) uq tc9 (by decide) eh333 (by omega) (by omega)
                        refine gz_s 1 (pc' := 163) (L' := [some (.ref x), some (.int (zi a)), some (.int (zi b)), some (.int (zi t)), some (.int (zi jn11v0)), some (.int (zi jn12v0)), some (.int (zi z300)), some (.int (zi k))]) (S' := [.ref x]) rfl ?_
                        refine gs_gtr rfl (by decide) rfl sh333.1 tx rfl rfl rfl (fun c347 ec347 tc347 => ?_)
                        refine gz_s 1 (pc' := 167) (L' := [some (.ref x), some (.int (zi a)), some (.int (zi b)), some (.int (zi t)), some (.int (zi jn11v0)), some (.int (zi jn12v0)), some (.int (zi z300)), some (.int (zi k))]) (S' := [.ref x, .ref c347]) rfl ?_
                        refine gs_gtk rfl (by decide) rfl sh333.1 tx rfl rfl s342 ?_
                        refine gz_s 2 (pc' := 173) (L' := [some (.ref x), some (.int (zi a)), some (.int (zi b)), some (.int (zi t)), some (.int (zi jn11v0)), some (.int (zi jn12v0)), some (.int (zi z300)), some (.int (zi k))]) (S' := [.int (zi z300), .int (zi 0), .int (zi n0), .ref c347]) rfl ?_
                        refine gz_call rfl (by decide) rfl (by decide) (by decide) (gcal_of rfl rfl rfl (Nat.le_of_ble_eq_true rfl) rfl) (cl_Math_max _ sh333.1 0 (by omega) z300 (by omega) ) (fun q348 _ wq348 => ?_)
                        obtain ⟨pq348, oq348, hq348⟩ := q348
                        obtain ⟨xq348, zq348, gq348, aq348, bq348, uq348_0, uq348_1, uq348_2⟩ := wq348
                        refine ⟨_, gq348, ?_⟩
                        show gz gPP gGG gcn _ _ 176 [some (.ref x), some (.int (zi a)), some (.int (zi b)), some (.int (zi t)), some (.int (zi jn11v0)), some (.int (zi jn12v0)), some (.int (zi z300)), some (.int (zi k))] [.int (zi zq348), .int (zi n0), .ref c347] hq348 _
                        have sq348 : gSs rT 1027 ty [55008, 60999, 61999, 62999, 63999, 64999] h hq348 := gSs.tr sh333 xq348 (by decide)
                        have s349 := (xq348.2.2.2.2.2 x 8 (by rw [tx]; decide)).trans s342
                        have s350 := (xq348.2.2.2.2.2 x 4 (by rw [tx]; decide)).trans s343
                        have s351 := (xq348.2.2.2.2.2 x 5 (by rw [tx]; decide)).trans s344
                        have s352 := (xq348.2.2.2.2.2 x 9 (by rw [tx]; decide)).trans s345
                        have s353 := (xq348.2.2.2.2.2 x 6 (by rw [tx]; decide)).trans ec347
                        have pr354 := gRn.fr xq348.2 (by decide) pr334
                        have pr355 := gRn.fr xq348.2 (by decide) pr335
                        have pr356 := gRn.fr xq348.2 (by decide) pr336
                        have pr357 := gRn.fr xq348.2 (by decide) pr337
                        have pr358 := gRow.fr xq348.2 (by decide) pr338
                        have pr359 := gRow.fr xq348.2 (by decide) pr339
                        have pr360 := gCr.fr xq348.2 (by decide) pr340
                        have pr361 := gEl.fr xq348.2 (by decide) (fun _ => rfl) pr341
                        have pr362 := gEl.fr xq348.2 (by decide) (fun _ => rfl) pr346
                        have hl363 : 10 ≤ hq348.2.2.2.1 c347 ∧ hq348.2.2.2.1 c347 ≤ 10 := gJ.rowl (G := gGG) sq348.1 tc347 rfl
                        refine gs_ast rfl (by decide) sq348 tc347 rfl rfl rfl (by decide) (fun _ => rfl) (by omega) (by omega) (fun _ => (by decide : (62999 : Nat) ∈ ([55008, 60999, 61999, 62999, 63999, 64999] : List Nat))) (by omega) (by omega) (fun h364 sh364 eh364 fh364 => ?_)
                        have pr365 := gRn.pt fh364 tc347 (by decide) pr354
                        have pr366 := gRn.pt fh364 tc347 (by decide) pr355
                        have pr367 := gRn.put (i := n0) (z := zq348) uq tc347 (by decide) fh364 eh364 (by omega) (by omega) pr356
                        have pr368 := gRn.pt fh364 tc347 (by decide) pr357
                        have pr369 := gRow.pt fh364 tc347 (by decide) pr358
                        have pr370 := gRow.pt fh364 tc347 (by decide) pr359
                        have pr371 := gCr.pt fh364 tc347 (by decide) pr360
                        have pr372 := gEl.pt fh364 tc347 (by decide) pr361
                        have pr373 := gEl.pt fh364 tc347 (by decide) pr362
                        have s374 := (fh364 x 8 (fun q => absurd (((tx).symm.trans (congrArg ty q.1)).trans tc347) (by decide))).trans s349
                        have s375 := (fh364 x 4 (fun q => absurd (((tx).symm.trans (congrArg ty q.1)).trans tc347) (by decide))).trans s350
                        have s376 := (fh364 x 5 (fun q => absurd (((tx).symm.trans (congrArg ty q.1)).trans tc347) (by decide))).trans s351
                        have s377 := (fh364 x 9 (fun q => absurd (((tx).symm.trans (congrArg ty q.1)).trans tc347) (by decide))).trans s352
                        have s378 := (fh364 x 6 (fun q => absurd (((tx).symm.trans (congrArg ty q.1)).trans tc347) (by decide))).trans s353
                        have pr379 := gEl.set (i := n0) (z := zq348) uq tc347 (by decide) eh364 (by omega) (by omega)
                        refine gz_s 1 (pc' := 178) (L' := [some (.ref x), some (.int (zi a)), some (.int (zi b)), some (.int (zi t)), some (.int (zi jn11v0)), some (.int (zi jn12v0)), some (.int (zi z300)), some (.int (zi k))]) (S' := [.ref x]) rfl ?_
                        refine gs_gtr rfl (by decide) rfl sh364.1 tx rfl rfl rfl (fun c380 ec380 tc380 => ?_)
                        refine gz_s 1 (pc' := 182) (L' := [some (.ref x), some (.int (zi a)), some (.int (zi b)), some (.int (zi t)), some (.int (zi jn11v0)), some (.int (zi jn12v0)), some (.int (zi z300)), some (.int (zi k))]) (S' := [.ref x, .ref c380]) rfl ?_
                        refine gs_gtk rfl (by decide) rfl sh364.1 tx rfl rfl s374 ?_
                        refine gz_s 1 (pc' := 186) (L' := [some (.ref x), some (.int (zi a)), some (.int (zi b)), some (.int (zi t)), some (.int (zi jn11v0)), some (.int (zi jn12v0)), some (.int (zi z300)), some (.int (zi k))]) (S' := [.int (zi t), .int (zi n0), .ref c380]) rfl ?_
                        have hl381 : 10 ≤ h364.2.2.2.1 c380 ∧ h364.2.2.2.1 c380 ≤ 10 := gJ.rowl (G := gGG) sh364.1 tc380 rfl
                        refine gs_ast rfl (by decide) sh364 tc380 rfl rfl rfl (by decide) (fun _ => rfl) (by omega) (by omega) (fun _ => (by decide : (63999 : Nat) ∈ ([55008, 60999, 61999, 62999, 63999, 64999] : List Nat))) (by omega) (by omega) (fun h382 sh382 eh382 fh382 => ?_)
                        have pr383 := gRn.pt fh382 tc380 (by decide) pr365
                        have pr384 := gRn.pt fh382 tc380 (by decide) pr366
                        have pr385 := gRn.pt fh382 tc380 (by decide) pr367
                        have pr386 := gRn.put (i := n0) (z := t) uq tc380 (by decide) fh382 eh382 (by omega) (by omega) pr368
                        have pr387 := gRow.pt fh382 tc380 (by decide) pr369
                        have pr388 := gRow.pt fh382 tc380 (by decide) pr370
                        have pr389 := gCr.pt fh382 tc380 (by decide) pr371
                        have pr390 := gEl.pt fh382 tc380 (by decide) pr372
                        have pr391 := gEl.pt fh382 tc380 (by decide) pr373
                        have pr392 := gEl.pt fh382 tc380 (by decide) pr379
                        have s393 := (fh382 x 8 (fun q => absurd (((tx).symm.trans (congrArg ty q.1)).trans tc380) (by decide))).trans s374
                        have s394 := (fh382 x 4 (fun q => absurd (((tx).symm.trans (congrArg ty q.1)).trans tc380) (by decide))).trans s375
                        have s395 := (fh382 x 5 (fun q => absurd (((tx).symm.trans (congrArg ty q.1)).trans tc380) (by decide))).trans s376
                        have s396 := (fh382 x 9 (fun q => absurd (((tx).symm.trans (congrArg ty q.1)).trans tc380) (by decide))).trans s377
                        have s397 := (fh382 x 6 (fun q => absurd (((tx).symm.trans (congrArg ty q.1)).trans tc380) (by decide))).trans s378
                        have s398 := (fh382 x 7 (fun q => absurd (((tx).symm.trans (congrArg ty q.1)).trans tc380) (by decide))).trans ec380
                        have pr399 := gEl.set (i := n0) (z := t) uq tc380 (by decide) eh382 (by omega) (by omega)
                        refine gz_s 2 (pc' := 189) (L' := [some (.ref x), some (.int (zi a)), some (.int (zi b)), some (.int (zi t)), some (.int (zi jn11v0)), some (.int (zi jn12v0)), some (.int (zi z300)), some (.int (zi k))]) (S' := [.ref x, .ref x]) rfl ?_
                        refine gs_gtk rfl (by decide) rfl sh382.1 tx rfl rfl s393 ?_
                        refine gy_s 2 (pc' := 194) (L' := [some (.ref x), some (.int (zi a)), some (.int (zi b)), some (.int (zi t)), some (.int (zi jn11v0)), some (.int (zi jn12v0)), some (.int (zi z300)), some (.int (zi k))]) (S' := [.int ((zi n0) + (zi 1)), .ref x]) (L2 := [some (.ref x), some (.int (zi a)), some (.int (zi b)), some (.int (zi t)), some (.int (zi jn11v0)), some (.int (zi jn12v0)), some (.int (zi z300)), some (.int (zi k))]) (S2 := [.int (zi (n0 + 1)), .ref x]) rfl (by simp only [zi_add, zi_sub, zi_mul, zi_neg, zi_and1, zi_and7, zi_and15, zi_and31, zi_and255]) (by simp only [zi_add, zi_sub, zi_mul, zi_neg, zi_and1, zi_and7, zi_and15, zi_and31, zi_and255]) ?_
                        refine gs_put rfl (by decide) rfl sh382 tx rfl rfl rfl rfl (Or.inl rfl) (by decide) (by omega) (by omega) (fun h400 sh400 eh400 fh400 => ?_)
                        have pr401 := gRn.pt fh400 tx (by decide) pr383
                        have pr402 := gRn.pt fh400 tx (by decide) pr384
                        have pr403 := gRn.pt fh400 tx (by decide) pr385
                        have pr404 := gRn.pt fh400 tx (by decide) pr386
                        have pr405 := gRow.pt fh400 tx (by decide) pr387
                        have pr406 := gRow.pt fh400 tx (by decide) pr388
                        have pr407 := gCr.pt fh400 tx (by decide) pr389
                        have pr408 := gEl.pt fh400 tx (by decide) pr390
                        have pr409 := gEl.pt fh400 tx (by decide) pr391
                        have pr410 := gEl.pt fh400 tx (by decide) pr392
                        have pr411 := gEl.pt fh400 tx (by decide) pr399
                        have s412 := (fh400 x 4 (fun q => absurd q.2 (by decide))).trans s394
                        have s413 := (fh400 x 5 (fun q => absurd q.2 (by decide))).trans s395
                        have s414 := (fh400 x 9 (fun q => absurd q.2 (by decide))).trans s396
                        have s415 := (fh400 x 6 (fun q => absurd q.2 (by decide))).trans s397
                        have s416 := (fh400 x 7 (fun q => absurd q.2 (by decide))).trans s398
                        obtain ⟨c2, rc2, hcm⟩ := pr407
                        have hts417 : gTc ty (n0 + 1) h400 := gTc.tell (by omega) pr405 pr406 rc2 tle tsm hcm (by omega) (by omega)
                        refine gz_s 1 (pc' := 198) (L' := [some (.ref x), some (.int (zi a)), some (.int (zi b)), some (.int (zi t)), some (.int (zi jn11v0)), some (.int (zi jn12v0)), some (.int (zi z300)), some (.int (zi k))]) (S' := [.ref x]) rfl ?_
                        refine gs_gtk rfl (by decide) rfl sh400.1 tx rfl rfl eh400 ?_
                        have hsk418 : gSk S.1.2.2.2.2.2.2 n0 a b t := gSk.cg ecf (gSk.mk (by omega) ⟨by omega, by omega⟩ (by omega) (by omega) (fun j h1 h2 => lp303k12 j h1 (by omega)))
                        have hsz419 : gSz S.1.2.2.2.2.2.2 n0 a b t (n0 + 1) (n0 + 1) := ⟨fun _ => ⟨by omega, by omega⟩, fun w => absurd hsk418 w⟩
                        have hxr420v : zq348 = if S.1.2.2.2.2.2.2 a.toNat = -1 then 0 else S.1.2.2.2.2.2.2 a.toNat := by have e9 := ecf a.toNat (by omega); rw [← e9]; split <;> omega
                        have hxr420h := pr403
                        rw [hxr420v] at hxr420h
                        have hxr420 : gXr ty (eQ2 n0 S a b t) h400 := by
                          rw [eQ2_y hsk418]
                          exact ⟨pr401, pr402, gRow.Rn (by decide) etf.fu pr405, gRow.Rn (by decide) ett.fu pr406, hxr420h, pr404, gRow.Rn (by decide) (fun j hj => by rw [hcm.2.2.2 (by omega) j, ecf j hj]; first | rfl | (rw [show kb = b + 1 by omega]; rfl)) rc2⟩
                        exact gz_end (I := .ireturn) (len := 1) rfl (Or.inl rfl) ⟨sh400, n0 + 1, n0 + 1, rfl, (by omega), (by omega), eh400, (by omega), (by omega), hts417, hsz419, hxr420⟩
                      · refine gy_icF rfl (by decide) (by decide) (by omega) (by omega) hc305 ?_
                        refine gz_s 1 (pc' := 111) (L' := [some (.ref x), some (.int (zi a)), some (.int (zi b)), some (.int (zi t)), some (.int (zi jn11v0)), some (.int (zi jn12v0)), some (.int (zi z300)), some (.int (zi k))]) (S' := [.ref x]) rfl ?_
                        refine gs_gtk rfl (by decide) rfl sh304.1 tx rfl rfl lp303k3 ?_
                        refine gz_s 1 (pc' := 116) (L' := [some (.ref x), some (.int (zi a)), some (.int (zi b)), some (.int (zi t)), some (.int (zi jn11v0)), some (.int (zi jn12v0)), some (.int (zi z300)), some (.int (zi k))]) (S' := [.int (zi k), .ref c10]) rfl ?_
                        have hl421 : 64 ≤ h304.2.2.2.1 c10 ∧ h304.2.2.2.1 c10 ≤ 64 := gJ.rowl (G := gGG) sh304.1 tc10 rfl
                        refine gs_ald rfl (by decide) sh304.1 tc10 rfl rfl rfl (by decide) (fun _ => rfl) (by omega) (by omega) (fun z422 ez422 az422 bz422 => ?_)
                        have hf423 := gRow.at (i := k) (z := z422) lp303k11 tc10 ez422 (by omega) (by omega) (by omega)
                        refine gz_s 1 (pc' := 119) (L' := [some (.ref x), some (.int (zi a)), some (.int (zi b)), some (.int (zi t)), some (.int (zi jn11v0)), some (.int (zi jn12v0)), some (.int (zi z300)), some (.int (zi k))]) (S' := [.int (zi z300), .int (zi z422)]) rfl ?_
                        by_cases hc424 : (z422 : Int) = z300
                        · refine gy_icT (pc' := 124) rfl (by decide) (by decide) (by omega) (by omega) hc424 ?_
                          have hce425 : ∀ j : Int, a ≤ j → j < k + 1 → cf j.toNat = cf a.toNat := fun j h1 h2 => by
                            by_cases e : j = k
                            · subst e; omega
                            · exact lp303k12 j h1 (by omega)
                          refine gy_s 2 (pc' := 104) (L' := [some (.ref x), some (.int (zi a)), some (.int (zi b)), some (.int (zi t)), some (.int (zi jn11v0)), some (.int (zi jn12v0)), some (.int (zi z300)), some (.int ((zi k) + zi 1))]) (S' := []) (L2 := [some (.ref x), some (.int (zi a)), some (.int (zi b)), some (.int (zi t)), some (.int (zi jn11v0)), some (.int (zi jn12v0)), some (.int (zi z300)), some (.int (zi (k + 1)))]) (S2 := []) rfl (by simp only [zi_add, zi_sub, zi_mul, zi_neg, zi_and1, zi_and7, zi_and15, zi_and31, zi_and255]) (by simp only [zi_add, zi_sub, zi_mul, zi_neg, zi_and1, zi_and7, zi_and15, zi_and31, zi_and255]) ?_
                          exact gz_wk (ihlp303 h304 (k + 1) (by omega) sh304 (by omega) (by omega) (by omega) (by omega) (by omega) (by omega) (by omega) (by omega) (by omega) lp303k0 lp303k1 lp303k2 lp303k3 lp303k4 lp303k5 lp303k6 lp303k7 lp303k8 lp303k9 lp303k10 lp303k11 hce425) (gLw.s (gLw.s (gLw.s (gLw.s (gLw.s (gLw.s (gLw.s (gLw.s gLw.z))))))))
                        · refine gy_icF rfl (by decide) (by decide) (by omega) (by omega) hc424 ?_
                          refine gz_s 1 (pc' := 123) (L' := [some (.ref x), some (.int (zi a)), some (.int (zi b)), some (.int (zi t)), some (.int (zi jn11v0)), some (.int (zi jn12v0)), some (.int (zi z300)), some (.int (zi k))]) (S' := [.int (zi 0)]) rfl ?_
                          have hsk426 : ¬ gSk S.1.2.2.2.2.2.2 n0 a b t := fun w => by have w5 := (gSk.cg ecf.sy w).at (j := k) (by omega) (by omega); omega
                          have hsz427 : gSz S.1.2.2.2.2.2.2 n0 a b t 0 n0 := ⟨fun w => absurd w hsk426, fun _ => ⟨by omega, by omega⟩⟩
                          have hxr428 : gXr ty (eQ2 n0 S a b t) h304 := by
                            rw [eQ2_n hsk426]
                            exact ⟨lp303k5, lp303k6, gRow.Rn (by decide) etf lp303k9, gRow.Rn (by decide) ett lp303k10, lp303k7, lp303k8, gRow.Rn (by decide) ecf lp303k11⟩
                          exact gz_end (I := .ireturn) (len := 1) rfl (Or.inl rfl) ⟨sh304, 0, n0, rfl, (by omega), (by omega), lp303k0, (by omega), (by omega), lp303k4, hsz427, hxr428⟩
                  exact gz_wk (lp303 _ h a (Nat.lt_succ_self _) hS (by omega) (by omega) (by omega) (by omega) (by omega) (by omega) (by omega) (by omega) (by omega) en0 ec8 ec9 ec10 hytc xr1 xr2 xr5 xr6 rf rt rc (fun j h1 h2 => absurd h2 (by omega))) (gLw.s (gLw.s (gLw.s (gLw.s (gLw.s (gLw.s (gLw.s (gLw.s gLw.z))))))))
                · refine gy_icF rfl (by decide) (by decide) (by omega) (by omega) hc302 ?_
                  refine gy_s 4 (pc' := 96) (L' := [some (.ref x), some (.int (zi a)), some (.int (zi b)), some (.int (zi t)), some (.int (zi jn11v0)), some (.int (zi jn12v0)), some (.int (zi z300)), none]) (S' := [.int ((zi t) + (zi 1)), .int (zi z300)]) (L2 := [some (.ref x), some (.int (zi a)), some (.int (zi b)), some (.int (zi t)), some (.int (zi jn11v0)), some (.int (zi jn12v0)), some (.int (zi z300)), none]) (S2 := [.int (zi (t + 1)), .int (zi z300)]) rfl (by simp only [zi_add, zi_sub, zi_mul, zi_neg, zi_and1, zi_and7, zi_and15, zi_and31, zi_and255]) (by simp only [zi_add, zi_sub, zi_mul, zi_neg, zi_and1, zi_and7, zi_and15, zi_and31, zi_and255]) ?_
                  by_cases hc429 : (z300 : Int) = t + 1
                  · refine gy_icT (pc' := 101) rfl (by decide) (by decide) (by omega) (by omega) hc429 ?_
                    refine gz_s 2 (pc' := 104) (L' := [some (.ref x), some (.int (zi a)), some (.int (zi b)), some (.int (zi t)), some (.int (zi jn11v0)), some (.int (zi jn12v0)), some (.int (zi z300)), some (.int (zi a))]) (S' := []) rfl ?_
                    have lp430 : ∀ (fu : Nat) (h431 : gH) (k : Int), (65 - k).toNat < fu → gSs rT 1027 ty [55008, 60999, 61999, 62999, 63999, 64999] h h431 → (0 ≤ k ∧ k ≤ 64) → (a ≤ k) → (k ≤ b + 1) → (0 ≤ a) → (a ≤ b) → (b ≤ 63) → (0 ≤ t) → (t ≤ 3) → (z300 = -1 ∨ z300 = t + 1) → h431.2.2.2.2 x 8 = .int (zi n0) → h431.2.2.2.2 x 4 = .ref c8 → h431.2.2.2.2 x 5 = .ref c9 → h431.2.2.2.2 x 9 = .ref c10 → gTc ty n0 h431 → gRn 256 ty 53 S.1.1 h431 → gRn 1024 ty 59 S.1.2.1 h431 → gRn 10 ty 62 S.1.2.2.2.2.1 h431 → gRn 10 ty 63 S.1.2.2.2.2.2.1 h431 → gRow ty 60 tf h431 → gRow ty 61 tt h431 → gRow ty 64 cf h431 → (∀ j : Int, a ≤ j → j < k → cf j.toNat = cf a.toNat) → gz gPP gGG gcn (d + 2) gt62 104 [some (.ref x), some (.int (zi a)), some (.int (zi b)), some (.int (zi t)), some (.int (zi jn11v0)), some (.int (zi jn12v0)), some (.int (zi z300)), some (.int (zi k))] [] h431 (fun q _ => gSs rT 1027 ty [55008, 60999, 61999, 62999, 63999, 64999] h q.2.2 ∧ ∃ z n1 : Int, gfin gt62 q.1 q.2.1 = some (some (.int (zi z))) ∧ 0 ≤ z ∧ z ≤ 10 ∧ q.2.2.2.2.2.2 x 8 = .int (zi n1) ∧ 0 ≤ n1 ∧ n1 ≤ 10 ∧ (gTc ty n1 q.2.2) ∧ (gSz S.1.2.2.2.2.2.2 n0 a b t z n1) ∧ (gXr ty (eQ2 n0 S a b t) q.2.2)) := by
                      intro fu
                      induction fu with
                      | zero => intro h431 k hm; exact absurd hm (Nat.not_lt_zero _)
                      | succ fu ihlp430 =>
                        intro h431 k lp430m sh431 lp430f0 lp430f1 lp430f2 lp430f3 lp430f4 lp430f5 lp430f6 lp430f7 lp430f8 lp430k0 lp430k1 lp430k2 lp430k3 lp430k4 lp430k5 lp430k6 lp430k7 lp430k8 lp430k9 lp430k10 lp430k11 lp430k12
                        refine gz_s 2 (pc' := 107) (L' := [some (.ref x), some (.int (zi a)), some (.int (zi b)), some (.int (zi t)), some (.int (zi jn11v0)), some (.int (zi jn12v0)), some (.int (zi z300)), some (.int (zi k))]) (S' := [.int (zi b), .int (zi k)]) rfl ?_
                        by_cases hc432 : (b : Int) < k
                        · refine gy_icT (pc' := 130) rfl (by decide) (by decide) (by omega) (by omega) hc432 ?_
                          have hce433 : ∀ j : Int, a ≤ j → j < b + 1 → t + 1 ≤ gcr (cf j.toNat) := fun j h1 h2 => by
                            rw [lp430k12 j h1 (by omega)]
                            unfold gcr
                            split <;> omega
                          refine gz_s 1 (pc' := 131) (L' := [some (.ref x), some (.int (zi a)), some (.int (zi b)), some (.int (zi t)), some (.int (zi jn11v0)), some (.int (zi jn12v0)), some (.int (zi z300)), some (.int (zi k))]) (S' := [.ref x]) rfl ?_
                          refine gs_gtk rfl (by decide) rfl sh431.1 tx rfl rfl lp430k3 ?_
                          refine gy_s 5 (pc' := 139) (L' := [some (.ref x), some (.int (zi a)), some (.int (zi b)), some (.int (zi t)), some (.int (zi jn11v0)), some (.int (zi jn12v0)), some (.int (zi z300)), some (.int (zi k))]) (S' := [.int (zi t), .int ((zi b) + (zi 1)), .int (zi a), .ref c10]) (L2 := [some (.ref x), some (.int (zi a)), some (.int (zi b)), some (.int (zi t)), some (.int (zi jn11v0)), some (.int (zi jn12v0)), some (.int (zi z300)), some (.int (zi k))]) (S2 := [.int (zi t), .int (zi (b + 1)), .int (zi a), .ref c10]) rfl (by simp only [zi_add, zi_sub, zi_mul, zi_neg, zi_and1, zi_and7, zi_and15, zi_and31, zi_and255]) (by simp only [zi_add, zi_sub, zi_mul, zi_neg, zi_and1, zi_and7, zi_and15, zi_and31, zi_and255]) ?_
                          refine gz_call rfl (by decide) rfl (by decide) (by decide) (gcal_of rfl rfl rfl (Nat.le_of_ble_eq_true rfl) rfl) (cl_fill_range _ sh431.1 c10 tc10 a (by omega) (b + 1) (by omega) t (by omega) cf (by omega) uq lp430k11 hce433) (fun q434 _ wq434 => ?_)
                          obtain ⟨pq434, oq434, hq434⟩ := q434
                          obtain ⟨xq434, gq434, yq434_0⟩ := wq434
                          refine ⟨_, gq434, ?_⟩
                          show gz gPP gGG gcn _ _ 142 [some (.ref x), some (.int (zi a)), some (.int (zi b)), some (.int (zi t)), some (.int (zi jn11v0)), some (.int (zi jn12v0)), some (.int (zi z300)), some (.int (zi k))] [] hq434 _
                          have sq434 : gSs rT 1027 ty [55008, 60999, 61999, 62999, 63999, 64999] h hq434 := gSs.tr sh431 xq434 (by decide)
                          have s435 := (xq434.2.2.2.2.2 x 8 (by rw [tx]; decide)).trans lp430k0
                          have s436 := (xq434.2.2.2.2.2 x 4 (by rw [tx]; decide)).trans lp430k1
                          have s437 := (xq434.2.2.2.2.2 x 5 (by rw [tx]; decide)).trans lp430k2
                          have s438 := (xq434.2.2.2.2.2 x 9 (by rw [tx]; decide)).trans lp430k3
                          have pr439 := gRn.fr xq434.2 (by decide) lp430k5
                          have pr440 := gRn.fr xq434.2 (by decide) lp430k6
                          have pr441 := gRn.fr xq434.2 (by decide) lp430k7
                          have pr442 := gRn.fr xq434.2 (by decide) lp430k8
                          have pr443 := gRow.fr xq434.2 (by decide) lp430k9
                          have pr444 := gRow.fr xq434.2 (by decide) lp430k10
                          refine gz_s 1 (pc' := 143) (L' := [some (.ref x), some (.int (zi a)), some (.int (zi b)), some (.int (zi t)), some (.int (zi jn11v0)), some (.int (zi jn12v0)), some (.int (zi z300)), some (.int (zi k))]) (S' := [.ref x]) rfl ?_
                          refine gs_gtk rfl (by decide) rfl sq434.1 tx rfl rfl s436 ?_
                          refine gz_s 1 (pc' := 147) (L' := [some (.ref x), some (.int (zi a)), some (.int (zi b)), some (.int (zi t)), some (.int (zi jn11v0)), some (.int (zi jn12v0)), some (.int (zi z300)), some (.int (zi k))]) (S' := [.ref x, .ref c8]) rfl ?_
                          refine gs_gtk rfl (by decide) rfl sq434.1 tx rfl rfl s435 ?_
                          refine gz_s 1 (pc' := 151) (L' := [some (.ref x), some (.int (zi a)), some (.int (zi b)), some (.int (zi t)), some (.int (zi jn11v0)), some (.int (zi jn12v0)), some (.int (zi z300)), some (.int (zi k))]) (S' := [.int (zi a), .int (zi n0), .ref c8]) rfl ?_
                          have hl445 : 10 ≤ hq434.2.2.2.1 c8 ∧ hq434.2.2.2.1 c8 ≤ 10 := gJ.rowl (G := gGG) sq434.1 tc8 rfl
                          refine gs_ast rfl (by decide) sq434 tc8 rfl rfl rfl (by decide) (fun _ => rfl) (by omega) (by omega) (fun _ => (by decide : (60999 : Nat) ∈ ([55008, 60999, 61999, 62999, 63999, 64999] : List Nat))) (by omega) (by omega) (fun h446 sh446 eh446 fh446 => ?_)
                          have pr447 := gRn.pt fh446 tc8 (by decide) pr439
                          have pr448 := gRn.pt fh446 tc8 (by decide) pr440
                          have pr449 := gRn.pt fh446 tc8 (by decide) pr441
                          have pr450 := gRn.pt fh446 tc8 (by decide) pr442
                          have pr451 := gRow.put (i := n0) (z := a) uq tc8 (by decide) fh446 eh446 (by omega) (by omega) pr443
                          have pr452 := gRow.pt fh446 tc8 (by decide) pr444
                          have pr453 := gCr.pt fh446 tc8 (by decide) yq434_0
                          have s454 := (fh446 x 8 (fun q => absurd (((tx).symm.trans (congrArg ty q.1)).trans tc8) (by decide))).trans s435
                          have s455 := (fh446 x 4 (fun q => absurd (((tx).symm.trans (congrArg ty q.1)).trans tc8) (by decide))).trans s436
                          have s456 := (fh446 x 5 (fun q => absurd (((tx).symm.trans (congrArg ty q.1)).trans tc8) (by decide))).trans s437
                          have s457 := (fh446 x 9 (fun q => absurd (((tx).symm.trans (congrArg ty q.1)).trans tc8) (by decide))).trans s438
                          have pr458 := gEl.set (i := n0) (z := a) uq tc8 (by decide) eh446 (by omega) (by omega)
                          refine gz_s 1 (pc' := 153) (L' := [some (.ref x), some (.int (zi a)), some (.int (zi b)), some (.int (zi t)), some (.int (zi jn11v0)), some (.int (zi jn12v0)), some (.int (zi z300)), some (.int (zi k))]) (S' := [.ref x]) rfl ?_
                          refine gs_gtk rfl (by decide) rfl sh446.1 tx rfl rfl s456 ?_
                          refine gz_s 1 (pc' := 157) (L' := [some (.ref x), some (.int (zi a)), some (.int (zi b)), some (.int (zi t)), some (.int (zi jn11v0)), some (.int (zi jn12v0)), some (.int (zi z300)), some (.int (zi k))]) (S' := [.ref x, .ref c9]) rfl ?_
                          refine gs_gtk rfl (by decide) rfl sh446.1 tx rfl rfl s454 ?_
                          refine gz_s 1 (pc' := 161) (L' := [some (.ref x), some (.int (zi a)), some (.int (zi b)), some (.int (zi t)), some (.int (zi jn11v0)), some (.int (zi jn12v0)), some (.int (zi z300)), some (.int (zi k))]) (S' := [.int (zi b), .int (zi n0), .ref c9]) rfl ?_
                          have hl459 : 10 ≤ h446.2.2.2.1 c9 ∧ h446.2.2.2.1 c9 ≤ 10 := gJ.rowl (G := gGG) sh446.1 tc9 rfl
                          refine gs_ast rfl (by decide) sh446 tc9 rfl rfl rfl (by decide) (fun _ => rfl) (by omega) (by omega) (fun _ => (by decide : (61999 : Nat) ∈ ([55008, 60999, 61999, 62999, 63999, 64999] : List Nat))) (by omega) (by omega) (fun h460 sh460 eh460 fh460 => ?_)
                          have pr461 := gRn.pt fh460 tc9 (by decide) pr447
                          have pr462 := gRn.pt fh460 tc9 (by decide) pr448
                          have pr463 := gRn.pt fh460 tc9 (by decide) pr449
                          have pr464 := gRn.pt fh460 tc9 (by decide) pr450
                          have pr465 := gRow.pt fh460 tc9 (by decide) pr451
                          have pr466 := gRow.put (i := n0) (z := b) uq tc9 (by decide) fh460 eh460 (by omega) (by omega) pr452
                          have pr467 := gCr.pt fh460 tc9 (by decide) pr453
                          have pr468 := gEl.pt fh460 tc9 (by decide) pr458
                          have s469 := (fh460 x 8 (fun q => absurd (((tx).symm.trans (congrArg ty q.1)).trans tc9) (by decide))).trans s454
                          have s470 := (fh460 x 4 (fun q => absurd (((tx).symm.trans (congrArg ty q.1)).trans tc9) (by decide))).trans s455
                          have s471 := (fh460 x 5 (fun q => absurd (((tx).symm.trans (congrArg ty q.1)).trans tc9) (by decide))).trans s456
                          have s472 := (fh460 x 9 (fun q => absurd (((tx).symm.trans (congrArg ty q.1)).trans tc9) (by decide))).trans s457
                          have pr473 := gEl.set (i := n0) (z := b) uq tc9 (by decide) eh460 (by omega) (by omega)
                          refine gz_s 1 (pc' := 163) (L' := [some (.ref x), some (.int (zi a)), some (.int (zi b)), some (.int (zi t)), some (.int (zi jn11v0)), some (.int (zi jn12v0)), some (.int (zi z300)), some (.int (zi k))]) (S' := [.ref x]) rfl ?_
                          refine gs_gtr rfl (by decide) rfl sh460.1 tx rfl rfl rfl (fun c474 ec474 tc474 => ?_)
                          refine gz_s 1 (pc' := 167) (L' := [some (.ref x), some (.int (zi a)), some (.int (zi b)), some (.int (zi t)), some (.int (zi jn11v0)), some (.int (zi jn12v0)), some (.int (zi z300)), some (.int (zi k))]) (S' := [.ref x, .ref c474]) rfl ?_
                          refine gs_gtk rfl (by decide) rfl sh460.1 tx rfl rfl s469 ?_
                          refine gz_s 2 (pc' := 173) (L' := [some (.ref x), some (.int (zi a)), some (.int (zi b)), some (.int (zi t)), some (.int (zi jn11v0)), some (.int (zi jn12v0)), some (.int (zi z300)), some (.int (zi k))]) (S' := [.int (zi z300), .int (zi 0), .int (zi n0), .ref c474]) rfl ?_
                          refine gz_call rfl (by decide) rfl (by decide) (by decide) (gcal_of rfl rfl rfl (Nat.le_of_ble_eq_true rfl) rfl) (cl_Math_max _ sh460.1 0 (by omega) z300 (by omega) ) (fun q475 _ wq475 => ?_)
                          obtain ⟨pq475, oq475, hq475⟩ := q475
                          obtain ⟨xq475, zq475, gq475, aq475, bq475, uq475_0, uq475_1, uq475_2⟩ := wq475
                          refine ⟨_, gq475, ?_⟩
                          show gz gPP gGG gcn _ _ 176 [some (.ref x), some (.int (zi a)), some (.int (zi b)), some (.int (zi t)), some (.int (zi jn11v0)), some (.int (zi jn12v0)), some (.int (zi z300)), some (.int (zi k))] [.int (zi zq475), .int (zi n0), .ref c474] hq475 _
                          have sq475 : gSs rT 1027 ty [55008, 60999, 61999, 62999, 63999, 64999] h hq475 := gSs.tr sh460 xq475 (by decide)
                          have s476 := (xq475.2.2.2.2.2 x 8 (by rw [tx]; decide)).trans s469
                          have s477 := (xq475.2.2.2.2.2 x 4 (by rw [tx]; decide)).trans s470
                          have s478 := (xq475.2.2.2.2.2 x 5 (by rw [tx]; decide)).trans s471
                          have s479 := (xq475.2.2.2.2.2 x 9 (by rw [tx]; decide)).trans s472
                          have s480 := (xq475.2.2.2.2.2 x 6 (by rw [tx]; decide)).trans ec474
                          have pr481 := gRn.fr xq475.2 (by decide) pr461
                          have pr482 := gRn.fr xq475.2 (by decide) pr462
                          have pr483 := gRn.fr xq475.2 (by decide) pr463
                          have pr484 := gRn.fr xq475.2 (by decide) pr464
                          have pr485 := gRow.fr xq475.2 (by decide) pr465
                          have pr486 := gRow.fr xq475.2 (by decide) pr466
                          have pr487 := gCr.fr xq475.2 (by decide) pr467
                          have pr488 := gEl.fr xq475.2 (by decide) (fun _ => rfl) pr468
                          have pr489 := gEl.fr xq475.2 (by decide) (fun _ => rfl) pr473
                          have hl490 : 10 ≤ hq475.2.2.2.1 c474 ∧ hq475.2.2.2.1 c474 ≤ 10 := gJ.rowl (G := gGG) sq475.1 tc474 rfl
                          refine gs_ast rfl (by decide) sq475 tc474 rfl rfl rfl (by decide) (fun _ => rfl) (by omega) (by omega) (fun _ => (by decide : (62999 : Nat) ∈ ([55008, 60999, 61999, 62999, 63999, 64999] : List Nat))) (by omega) (by omega) (fun h491 sh491 eh491 fh491 => ?_)
                          have pr492 := gRn.pt fh491 tc474 (by decide) pr481
                          have pr493 := gRn.pt fh491 tc474 (by decide) pr482
                          have pr494 := gRn.put (i := n0) (z := zq475) uq tc474 (by decide) fh491 eh491 (by omega) (by omega) pr483
                          have pr495 := gRn.pt fh491 tc474 (by decide) pr484
                          have pr496 := gRow.pt fh491 tc474 (by decide) pr485
                          have pr497 := gRow.pt fh491 tc474 (by decide) pr486
                          have pr498 := gCr.pt fh491 tc474 (by decide) pr487
                          have pr499 := gEl.pt fh491 tc474 (by decide) pr488
                          have pr500 := gEl.pt fh491 tc474 (by decide) pr489
                          have s501 := (fh491 x 8 (fun q => absurd (((tx).symm.trans (congrArg ty q.1)).trans tc474) (by decide))).trans s476
                          have s502 := (fh491 x 4 (fun q => absurd (((tx).symm.trans (congrArg ty q.1)).trans tc474) (by decide))).trans s477
                          have s503 := (fh491 x 5 (fun q => absurd (((tx).symm.trans (congrArg ty q.1)).trans tc474) (by decide))).trans s478
                          have s504 := (fh491 x 9 (fun q => absurd (((tx).symm.trans (congrArg ty q.1)).trans tc474) (by decide))).trans s479
                          have s505 := (fh491 x 6 (fun q => absurd (((tx).symm.trans (congrArg ty q.1)).trans tc474) (by decide))).trans s480
                          have pr506 := gEl.set (i := n0) (z := zq475) uq tc474 (by decide) eh491 (by omega) (by omega)
                          refine gz_s 1 (pc' := 178) (L' := [some (.ref x), some (.int (zi a)), some (.int (zi b)), some (.int (zi t)), some (.int (zi jn11v0)), some (.int (zi jn12v0)), some (.int (zi z300)), some (.int (zi k))]) (S' := [.ref x]) rfl ?_
                          refine gs_gtr rfl (by decide) rfl sh491.1 tx rfl rfl rfl (fun c507 ec507 tc507 => ?_)
                          refine gz_s 1 (pc' := 182) (L' := [some (.ref x), some (.int (zi a)), some (.int (zi b)), some (.int (zi t)), some (.int (zi jn11v0)), some (.int (zi jn12v0)), some (.int (zi z300)), some (.int (zi k))]) (S' := [.ref x, .ref c507]) rfl ?_
                          refine gs_gtk rfl (by decide) rfl sh491.1 tx rfl rfl s501 ?_
                          refine gz_s 1 (pc' := 186) (L' := [some (.ref x), some (.int (zi a)), some (.int (zi b)), some (.int (zi t)), some (.int (zi jn11v0)), some (.int (zi jn12v0)), some (.int (zi z300)), some (.int (zi k))]) (S' := [.int (zi t), .int (zi n0), .ref c507]) rfl ?_
                          have hl508 : 10 ≤ h491.2.2.2.1 c507 ∧ h491.2.2.2.1 c507 ≤ 10 := gJ.rowl (G := gGG) sh491.1 tc507 rfl
                          refine gs_ast rfl (by decide) sh491 tc507 rfl rfl rfl (by decide) (fun _ => rfl) (by omega) (by omega) (fun _ => (by decide : (63999 : Nat) ∈ ([55008, 60999, 61999, 62999, 63999, 64999] : List Nat))) (by omega) (by omega) (fun h509 sh509 eh509 fh509 => ?_)
                          have pr510 := gRn.pt fh509 tc507 (by decide) pr492
                          have pr511 := gRn.pt fh509 tc507 (by decide) pr493
                          have pr512 := gRn.pt fh509 tc507 (by decide) pr494
                          have pr513 := gRn.put (i := n0) (z := t) uq tc507 (by decide) fh509 eh509 (by omega) (by omega) pr495
                          have pr514 := gRow.pt fh509 tc507 (by decide) pr496
                          have pr515 := gRow.pt fh509 tc507 (by decide) pr497
                          have pr516 := gCr.pt fh509 tc507 (by decide) pr498
                          have pr517 := gEl.pt fh509 tc507 (by decide) pr499
                          have pr518 := gEl.pt fh509 tc507 (by decide) pr500
                          have pr519 := gEl.pt fh509 tc507 (by decide) pr506
                          have s520 := (fh509 x 8 (fun q => absurd (((tx).symm.trans (congrArg ty q.1)).trans tc507) (by decide))).trans s501
                          have s521 := (fh509 x 4 (fun q => absurd (((tx).symm.trans (congrArg ty q.1)).trans tc507) (by decide))).trans s502
                          have s522 := (fh509 x 5 (fun q => absurd (((tx).symm.trans (congrArg ty q.1)).trans tc507) (by decide))).trans s503
                          have s523 := (fh509 x 9 (fun q => absurd (((tx).symm.trans (congrArg ty q.1)).trans tc507) (by decide))).trans s504
                          have s524 := (fh509 x 6 (fun q => absurd (((tx).symm.trans (congrArg ty q.1)).trans tc507) (by decide))).trans s505
                          have s525 := (fh509 x 7 (fun q => absurd (((tx).symm.trans (congrArg ty q.1)).trans tc507) (by decide))).trans ec507
                          have pr526 := gEl.set (i := n0) (z := t) uq tc507 (by decide) eh509 (by omega) (by omega)
                          refine gz_s 2 (pc' := 189) (L' := [some (.ref x), some (.int (zi a)), some (.int (zi b)), some (.int (zi t)), some (.int (zi jn11v0)), some (.int (zi jn12v0)), some (.int (zi z300)), some (.int (zi k))]) (S' := [.ref x, .ref x]) rfl ?_
                          refine gs_gtk rfl (by decide) rfl sh509.1 tx rfl rfl s520 ?_
                          refine gy_s 2 (pc' := 194) (L' := [some (.ref x), some (.int (zi a)), some (.int (zi b)), some (.int (zi t)), some (.int (zi jn11v0)), some (.int (zi jn12v0)), some (.int (zi z300)), some (.int (zi k))]) (S' := [.int ((zi n0) + (zi 1)), .ref x]) (L2 := [some (.ref x), some (.int (zi a)), some (.int (zi b)), some (.int (zi t)), some (.int (zi jn11v0)), some (.int (zi jn12v0)), some (.int (zi z300)), some (.int (zi k))]) (S2 := [.int (zi (n0 + 1)), .ref x]) rfl (by simp only [zi_add, zi_sub, zi_mul, zi_neg, zi_and1, zi_and7, zi_and15, zi_and31, zi_and255]) (by simp only [zi_add, zi_sub, zi_mul, zi_neg, zi_and1, zi_and7, zi_and15, zi_and31, zi_and255]) ?_
                          refine gs_put rfl (by decide) rfl sh509 tx rfl rfl rfl rfl (Or.inl rfl) (by decide) (by omega) (by omega) (fun h527 sh527 eh527 fh527 => ?_)
                          have pr528 := gRn.pt fh527 tx (by decide) pr510
                          have pr529 := gRn.pt fh527 tx (by decide) pr511
                          have pr530 := gRn.pt fh527 tx (by decide) pr512
                          have pr531 := gRn.pt fh527 tx (by decide) pr513
                          have pr532 := gRow.pt fh527 tx (by decide) pr514
                          have pr533 := gRow.pt fh527 tx (by decide) pr515
                          have pr534 := gCr.pt fh527 tx (by decide) pr516
                          have pr535 := gEl.pt fh527 tx (by decide) pr517
                          have pr536 := gEl.pt fh527 tx (by decide) pr518
                          have pr537 := gEl.pt fh527 tx (by decide) pr519
                          have pr538 := gEl.pt fh527 tx (by decide) pr526
                          have s539 := (fh527 x 4 (fun q => absurd q.2 (by decide))).trans s521
                          have s540 := (fh527 x 5 (fun q => absurd q.2 (by decide))).trans s522
                          have s541 := (fh527 x 9 (fun q => absurd q.2 (by decide))).trans s523
                          have s542 := (fh527 x 6 (fun q => absurd q.2 (by decide))).trans s524
                          have s543 := (fh527 x 7 (fun q => absurd q.2 (by decide))).trans s525
                          obtain ⟨c2, rc2, hcm⟩ := pr534
                          have hts544 : gTc ty (n0 + 1) h527 := gTc.tell (by omega) pr532 pr533 rc2 tle tsm hcm (by omega) (by omega)
                          refine gz_s 1 (pc' := 198) (L' := [some (.ref x), some (.int (zi a)), some (.int (zi b)), some (.int (zi t)), some (.int (zi jn11v0)), some (.int (zi jn12v0)), some (.int (zi z300)), some (.int (zi k))]) (S' := [.ref x]) rfl ?_
                          refine gs_gtk rfl (by decide) rfl sh527.1 tx rfl rfl eh527 ?_
                          have hsk545 : gSk S.1.2.2.2.2.2.2 n0 a b t := gSk.cg ecf (gSk.mk (by omega) ⟨by omega, by omega⟩ (by omega) (by omega) (fun j h1 h2 => lp430k12 j h1 (by omega)))
                          have hsz546 : gSz S.1.2.2.2.2.2.2 n0 a b t (n0 + 1) (n0 + 1) := ⟨fun _ => ⟨by omega, by omega⟩, fun w => absurd hsk545 w⟩
                          have hxr547v : zq475 = if S.1.2.2.2.2.2.2 a.toNat = -1 then 0 else S.1.2.2.2.2.2.2 a.toNat := by have e9 := ecf a.toNat (by omega); rw [← e9]; split <;> omega
                          have hxr547h := pr530
                          rw [hxr547v] at hxr547h
                          have hxr547 : gXr ty (eQ2 n0 S a b t) h527 := by
                            rw [eQ2_y hsk545]
                            exact ⟨pr528, pr529, gRow.Rn (by decide) etf.fu pr532, gRow.Rn (by decide) ett.fu pr533, hxr547h, pr531, gRow.Rn (by decide) (fun j hj => by rw [hcm.2.2.2 (by omega) j, ecf j hj]; first | rfl | (rw [show kb = b + 1 by omega]; rfl)) rc2⟩
                          exact gz_end (I := .ireturn) (len := 1) rfl (Or.inl rfl) ⟨sh527, n0 + 1, n0 + 1, rfl, (by omega), (by omega), eh527, (by omega), (by omega), hts544, hsz546, hxr547⟩
                        · refine gy_icF rfl (by decide) (by decide) (by omega) (by omega) hc432 ?_
                          refine gz_s 1 (pc' := 111) (L' := [some (.ref x), some (.int (zi a)), some (.int (zi b)), some (.int (zi t)), some (.int (zi jn11v0)), some (.int (zi jn12v0)), some (.int (zi z300)), some (.int (zi k))]) (S' := [.ref x]) rfl ?_
                          refine gs_gtk rfl (by decide) rfl sh431.1 tx rfl rfl lp430k3 ?_
                          refine gz_s 1 (pc' := 116) (L' := [some (.ref x), some (.int (zi a)), some (.int (zi b)), some (.int (zi t)), some (.int (zi jn11v0)), some (.int (zi jn12v0)), some (.int (zi z300)), some (.int (zi k))]) (S' := [.int (zi k), .ref c10]) rfl ?_
                          have hl548 : 64 ≤ h431.2.2.2.1 c10 ∧ h431.2.2.2.1 c10 ≤ 64 := gJ.rowl (G := gGG) sh431.1 tc10 rfl
                          refine gs_ald rfl (by decide) sh431.1 tc10 rfl rfl rfl (by decide) (fun _ => rfl) (by omega) (by omega) (fun z549 ez549 az549 bz549 => ?_)
                          have hf550 := gRow.at (i := k) (z := z549) lp430k11 tc10 ez549 (by omega) (by omega) (by omega)
                          refine gz_s 1 (pc' := 119) (L' := [some (.ref x), some (.int (zi a)), some (.int (zi b)), some (.int (zi t)), some (.int (zi jn11v0)), some (.int (zi jn12v0)), some (.int (zi z300)), some (.int (zi k))]) (S' := [.int (zi z300), .int (zi z549)]) rfl ?_
                          by_cases hc551 : (z549 : Int) = z300
                          · refine gy_icT (pc' := 124) rfl (by decide) (by decide) (by omega) (by omega) hc551 ?_
                            have hce552 : ∀ j : Int, a ≤ j → j < k + 1 → cf j.toNat = cf a.toNat := fun j h1 h2 => by
                              by_cases e : j = k
                              · subst e; omega
                              · exact lp430k12 j h1 (by omega)
                            refine gy_s 2 (pc' := 104) (L' := [some (.ref x), some (.int (zi a)), some (.int (zi b)), some (.int (zi t)), some (.int (zi jn11v0)), some (.int (zi jn12v0)), some (.int (zi z300)), some (.int ((zi k) + zi 1))]) (S' := []) (L2 := [some (.ref x), some (.int (zi a)), some (.int (zi b)), some (.int (zi t)), some (.int (zi jn11v0)), some (.int (zi jn12v0)), some (.int (zi z300)), some (.int (zi (k + 1)))]) (S2 := []) rfl (by simp only [zi_add, zi_sub, zi_mul, zi_neg, zi_and1, zi_and7, zi_and15, zi_and31, zi_and255]) (by simp only [zi_add, zi_sub, zi_mul, zi_neg, zi_and1, zi_and7, zi_and15, zi_and31, zi_and255]) ?_
                            exact gz_wk (ihlp430 h431 (k + 1) (by omega) sh431 (by omega) (by omega) (by omega) (by omega) (by omega) (by omega) (by omega) (by omega) (by omega) lp430k0 lp430k1 lp430k2 lp430k3 lp430k4 lp430k5 lp430k6 lp430k7 lp430k8 lp430k9 lp430k10 lp430k11 hce552) (gLw.s (gLw.s (gLw.s (gLw.s (gLw.s (gLw.s (gLw.s (gLw.s gLw.z))))))))
                          · refine gy_icF rfl (by decide) (by decide) (by omega) (by omega) hc551 ?_
                            refine gz_s 1 (pc' := 123) (L' := [some (.ref x), some (.int (zi a)), some (.int (zi b)), some (.int (zi t)), some (.int (zi jn11v0)), some (.int (zi jn12v0)), some (.int (zi z300)), some (.int (zi k))]) (S' := [.int (zi 0)]) rfl ?_
                            have hsk553 : ¬ gSk S.1.2.2.2.2.2.2 n0 a b t := fun w => by have w5 := (gSk.cg ecf.sy w).at (j := k) (by omega) (by omega); omega
                            have hsz554 : gSz S.1.2.2.2.2.2.2 n0 a b t 0 n0 := ⟨fun w => absurd w hsk553, fun _ => ⟨by omega, by omega⟩⟩
                            have hxr555 : gXr ty (eQ2 n0 S a b t) h431 := by
                              rw [eQ2_n hsk553]
                              exact ⟨lp430k5, lp430k6, gRow.Rn (by decide) etf lp430k9, gRow.Rn (by decide) ett lp430k10, lp430k7, lp430k8, gRow.Rn (by decide) ecf lp430k11⟩
                            exact gz_end (I := .ireturn) (len := 1) rfl (Or.inl rfl) ⟨sh431, 0, n0, rfl, (by omega), (by omega), lp430k0, (by omega), (by omega), lp430k4, hsz554, hxr555⟩
                    exact gz_wk (lp430 _ h a (Nat.lt_succ_self _) hS (by omega) (by omega) (by omega) (by omega) (by omega) (by omega) (by omega) (by omega) (by omega) en0 ec8 ec9 ec10 hytc xr1 xr2 xr5 xr6 rf rt rc (fun j h1 h2 => absurd h2 (by omega))) (gLw.s (gLw.s (gLw.s (gLw.s (gLw.s (gLw.s (gLw.s (gLw.s gLw.z))))))))
                  · refine gy_icF rfl (by decide) (by decide) (by omega) (by omega) hc429 ?_
                    refine gz_s 1 (pc' := 100) (L' := [some (.ref x), some (.int (zi a)), some (.int (zi b)), some (.int (zi t)), some (.int (zi jn11v0)), some (.int (zi jn12v0)), some (.int (zi z300)), none]) (S' := [.int (zi 0)]) rfl ?_
                    have hsk556 : ¬ gSk S.1.2.2.2.2.2.2 n0 a b t := fun w => by obtain ⟨w1, w2, w3, w4, w5⟩ := gSk.cg ecf.sy w; omega
                    have hsz557 : gSz S.1.2.2.2.2.2.2 n0 a b t 0 n0 := ⟨fun w => absurd w hsk556, fun _ => ⟨by omega, by omega⟩⟩
                    have hxr558 : gXr ty (eQ2 n0 S a b t) h := by
                      rw [eQ2_n hsk556]
                      exact ⟨xr1, xr2, gRow.Rn (by decide) etf rf, gRow.Rn (by decide) ett rt, xr5, xr6, gRow.Rn (by decide) ecf rc⟩
                    exact gz_end (I := .ireturn) (len := 1) rfl (Or.inl rfl) ⟨hS, 0, n0, rfl, (by omega), (by omega), en0, (by omega), (by omega), hytc, hsz557, hxr558⟩
              · refine gy_icF rfl (by decide) (by decide) (by omega) (by omega) hc298 ?_
                refine gz_s 1 (pc' := 76) (L' := [some (.ref x), some (.int (zi a)), some (.int (zi b)), some (.int (zi t)), some (.int (zi jn11v0)), some (.int (zi jn12v0)), none, none]) (S' := [.int (zi 0)]) rfl ?_
                have hsk559 : ¬ gSk S.1.2.2.2.2.2.2 n0 a b t := fun w => by obtain ⟨w1, w2, w3, w4, w5⟩ := gSk.cg ecf.sy w; omega
                have hsz560 : gSz S.1.2.2.2.2.2.2 n0 a b t 0 n0 := ⟨fun w => absurd w hsk559, fun _ => ⟨by omega, by omega⟩⟩
                have hxr561 : gXr ty (eQ2 n0 S a b t) h := by
                  rw [eQ2_n hsk559]
                  exact ⟨xr1, xr2, gRow.Rn (by decide) etf rf, gRow.Rn (by decide) ett rt, xr5, xr6, gRow.Rn (by decide) ecf rc⟩
                exact gz_end (I := .ireturn) (len := 1) rfl (Or.inl rfl) ⟨hS, 0, n0, rfl, (by omega), (by omega), en0, (by omega), (by omega), hytc, hsz560, hxr561⟩
    by_cases hc562 : (a : Int) < 1
    · refine gy_icT (pc' := 44) rfl (by decide) (by decide) (by omega) (by omega) hc562 ?_
      refine gz_s 1 (pc' := 45) (L' := [some (.ref x), some (.int (zi a)), some (.int (zi b)), some (.int (zi t)), some (.int (zi jn11v0)), none, none, none]) (S' := [.int (zi 0)]) rfl ?_
      exact jn12 0 (by omega)
    · refine gy_icF rfl (by decide) (by decide) (by omega) (by omega) hc562 ?_
      refine gz_s 2 (pc' := 22) (L' := [some (.ref x), some (.int (zi a)), some (.int (zi b)), some (.int (zi t)), some (.int (zi jn11v0)), none, none, none]) (S' := [.int (zi b), .int (zi a)]) rfl ?_
      by_cases hc563 : (b : Int) < a
      · refine gy_icT (pc' := 44) rfl (by decide) (by decide) (by omega) (by omega) hc563 ?_
        refine gz_s 1 (pc' := 45) (L' := [some (.ref x), some (.int (zi a)), some (.int (zi b)), some (.int (zi t)), some (.int (zi jn11v0)), none, none, none]) (S' := [.int (zi 0)]) rfl ?_
        exact jn12 0 (by omega)
      · refine gy_icF rfl (by decide) (by decide) (by omega) (by omega) hc563 ?_
        refine gz_s 2 (pc' := 28) (L' := [some (.ref x), some (.int (zi a)), some (.int (zi b)), some (.int (zi t)), some (.int (zi jn11v0)), none, none, none]) (S' := [.int (zi 63), .int (zi b)]) rfl ?_
        by_cases hc564 : (63 : Int) < b
        · refine gy_icT (pc' := 44) rfl (by decide) (by decide) (by omega) (by omega) hc564 ?_
          refine gz_s 1 (pc' := 45) (L' := [some (.ref x), some (.int (zi a)), some (.int (zi b)), some (.int (zi t)), some (.int (zi jn11v0)), none, none, none]) (S' := [.int (zi 0)]) rfl ?_
          exact jn12 0 (by omega)
        · refine gy_icF rfl (by decide) (by decide) (by omega) (by omega) hc564 ?_
          refine gz_s 1 (pc' := 32) (L' := [some (.ref x), some (.int (zi a)), some (.int (zi b)), some (.int (zi t)), some (.int (zi jn11v0)), none, none, none]) (S' := [.ref x]) rfl ?_
          refine gs_gtk rfl (by decide) rfl hS.1 tx rfl rfl ec10 ?_
          refine gz_s 1 (pc' := 36) (L' := [some (.ref x), some (.int (zi a)), some (.int (zi b)), some (.int (zi t)), some (.int (zi jn11v0)), none, none, none]) (S' := [.int (zi 0), .ref c10]) rfl ?_
          have hl565 : 64 ≤ h.2.2.2.1 c10 ∧ h.2.2.2.1 c10 ≤ 64 := gJ.rowl (G := gGG) hS.1 tc10 rfl
          refine gs_ald rfl (by decide) hS.1 tc10 rfl rfl rfl (by decide) (fun _ => rfl) (by omega) (by omega) (fun z566 ez566 az566 bz566 => ?_)
          have hf567 := gRow.at (i := 0) (z := z566) rc tc10 ez566 (by omega) (by omega) (by omega)
          by_cases hc568 : (z566 : Int) < 0
          · refine gy_ifT (pc' := 44) rfl (by decide) (by decide) (by omega) hc568 ?_
            refine gz_s 1 (pc' := 45) (L' := [some (.ref x), some (.int (zi a)), some (.int (zi b)), some (.int (zi t)), some (.int (zi jn11v0)), none, none, none]) (S' := [.int (zi 0)]) rfl ?_
            exact jn12 0 (by omega)
          · refine gy_ifF rfl (by decide) (by decide) (by omega) hc568 ?_
            refine gz_s 2 (pc' := 45) (L' := [some (.ref x), some (.int (zi a)), some (.int (zi b)), some (.int (zi t)), some (.int (zi jn11v0)), none, none, none]) (S' := [.int (zi 1)]) rfl ?_
            exact jn12 1 (by omega)
  by_cases hc569 : ¬ (a : Int) = 0
  · refine gy_ifT (pc' := 12) rfl (by decide) (by decide) (by omega) hc569 ?_
    refine gz_s 1 (pc' := 13) (L' := [some (.ref x), some (.int (zi a)), some (.int (zi b)), some (.int (zi t)), none, none, none, none]) (S' := [.int (zi 0)]) rfl ?_
    exact jn11 0 (by omega)
  · refine gy_ifF rfl (by decide) (by decide) (by omega) hc569 ?_
    refine gz_s 1 (pc' := 5) (L' := [some (.ref x), some (.int (zi a)), some (.int (zi b)), some (.int (zi t)), none, none, none, none]) (S' := [.int (zi b)]) rfl ?_
    by_cases hc570 : ¬ (b : Int) = 0
    · refine gy_ifT (pc' := 12) rfl (by decide) (by decide) (by omega) hc570 ?_
      refine gz_s 1 (pc' := 13) (L' := [some (.ref x), some (.int (zi a)), some (.int (zi b)), some (.int (zi t)), none, none, none, none]) (S' := [.int (zi 0)]) rfl ?_
      exact jn11 0 (by omega)
    · refine gy_ifF rfl (by decide) (by decide) (by omega) hc570 ?_
      refine gz_s 2 (pc' := 13) (L' := [some (.ref x), some (.int (zi a)), some (.int (zi b)), some (.int (zi t)), none, none, none, none]) (S' := [.int (zi 1)]) rfl ?_
      exact jn11 1 (by omega)
set_option maxRecDepth 20000 in
set_option maxHeartbeats 4000000 in
theorem cl_Draft_forgetScans (d : Nat) {ty : Nat → Nat} {h : gH} (hJ : gJ rT 1027 ty h) (x : Nat) (tx : ty x = 55) (uq : gUq ty) : gz gPP gGG gcn (d + 1) gt128 0 (gent [.ref x] 1) [] h (fun q _ => gSs rT 1027 ty [55008, 64999] h q.2.2 ∧ ∃ n1 : Int, gfin gt128 q.1 q.2.1 = some none ∧ q.2.2.2.2.2.2 x 8 = .int (zi n1) ∧ 0 ≤ n1 ∧ n1 ≤ 10 ∧ (n1 = 0) ∧ (gTc ty 0 q.2.2) ∧ (gOy ty 64 (-1) 64 q.2.2)) := by
  have hS : gSs rT 1027 ty [55008, 64999] h h := gSs.rf hJ
  refine gz_s 2 (pc' := 2) (L' := [some (.ref x)]) (S' := [.int (zi 0), .ref x]) rfl ?_
  refine gs_put rfl (by decide) rfl hS tx rfl rfl rfl rfl (Or.inl rfl) (by decide) (by omega) (by omega) (fun h1 sh1 eh1 fh1 => ?_)
  refine gz_s 1 (pc' := 6) (L' := [some (.ref x)]) (S' := [.ref x]) rfl ?_
  refine gs_gtr rfl (by decide) rfl sh1.1 tx rfl rfl rfl (fun c2 ec2 tc2 => ?_)
  refine gz_s 1 (pc' := 10) (L' := [some (.ref x)]) (S' := [.int (zi (-1)), .ref c2]) rfl ?_
  refine gz_call rfl (by decide) rfl (by decide) (by decide) (gcal_of rfl rfl rfl (Nat.le_of_ble_eq_true rfl) rfl) (cl_fill_lowest _ sh1.1 c2 tc2 (-1) (by omega) uq) (fun q3 _ wq3 => ?_)
  obtain ⟨pq3, oq3, hq3⟩ := q3
  obtain ⟨xq3, gq3, yq3_0⟩ := wq3
  refine ⟨_, gq3, ?_⟩
  show gz gPP gGG gcn _ _ 13 [some (.ref x)] [] hq3 _
  have sq3 : gSs rT 1027 ty [55008, 64999] h hq3 := gSs.tr sh1 xq3 (by decide)
  have s4 := (xq3.2.2.2.2.2 x 8 (by rw [tx]; decide)).trans eh1
  have s5 := (xq3.2.2.2.2.2 x 9 (by rw [tx]; decide)).trans ec2
  obtain ⟨c6, ec6, tc6⟩ := gJ.ref (k := 4) (G := gGG) sq3.1 tx rfl rfl rfl
  obtain ⟨c7, ec7, tc7⟩ := gJ.ref (k := 5) (G := gGG) sq3.1 tx rfl rfl rfl
  have hts8 : gTc ty 0 hq3 := gTc.anew (gRow.mk uq tc6 (by decide) (fun _ => rfl)) (gRow.mk uq tc7 (by decide) (fun _ => rfl)) yq3_0
  exact gz_end (I := .return_) (len := 1) rfl (Or.inl rfl) ⟨sq3, 0, rfl, s4, (by omega), (by omega), (by omega), hts8, yq3_0⟩
