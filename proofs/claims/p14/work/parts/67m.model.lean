/-! ===== the model: methods (by program) ===== -/
set_option maxRecDepth 20000 in
set_option maxHeartbeats 4000000 in
theorem mm_sumAt (d : Nat) {ty : Nat → Nat} {h : gH} (hJ : gJ rT 1027 ty h) (m : Nat) (tm : ty m = 1) (bk : Int) (rbk : 0 ≤ bk ∧ bk ≤ 191) (x : Int) (rx : 0 ≤ x ∧ x ≤ 7) (y : Int) (ry : 0 ≤ y ∧ y ≤ 7) (w : Int) (ew : h.2.2.2.2 m 18 = .int (zi w)) (rw : 0 ≤ w ∧ w ≤ 64) (hh : Int) (ehh : h.2.2.2.2 m 19 = .int (zi hh)) (rhh : 0 ≤ hh ∧ hh ≤ 64) (wd : Int) (ewd : h.2.2.2.2 m 21 = .int (zi wd)) (rwd : 1 ≤ wd ∧ wd ≤ 2) (hg : Int) (ehg : h.2.2.2.2 m 22 = .int (zi hg)) (rhg : 1 ≤ hg ∧ hg ≤ 2) (bs : Int) (ebs : h.2.2.2.2 m 20 = .int (zi bs)) (rbs : 1 ≤ bs ∧ bs ≤ 3) (hypic : gPic ty w hh wd hg bs h) : gz gPP gGG gcn (d + 1) gt170 0 (gent [.ref m, .int (zi bk), .int (zi x), .int (zi y)] 10) [] h (fun q _ => gSs rT 1027 ty [] h q.2.2 ∧ ∃ z : Int, gfin gt170 q.1 q.2.1 = some (some (.long (zl z))) ∧ (-9223372036854775808) ≤ z ∧ z ≤ 9223372036854775807) := by
  have hS : gSs rT 1027 ty [] h h := gSs.rf hJ
  refine gz_s 2 (pc' := 3) (L' := [some (.ref m), some (.int (zi bk)), some (.int (zi x)), some (.int (zi y)), none, none, none, none, none, none]) (S' := [.ref m, .int (zi 64)]) rfl ?_
  refine gs_gtr rfl (by decide) rfl hS.1 tm rfl rfl rfl (fun c1 ec1 tc1 => ?_)
  refine gz_s 2 (pc' := 8) (L' := [some (.ref m), some (.int (zi bk)), some (.int (zi x)), some (.int (zi y)), none, none, none, none, none, none]) (S' := [.int (zi bk), .ref m, .ref c1, .int (zi 64)]) rfl ?_
  refine gz_call rfl (by decide) rfl (by decide) (by decide) (gcal_of rfl rfl rfl (Nat.le_of_ble_eq_true rfl) (gJ.recv (G := gGG) hS.1 tm rfl rfl)) (mm_bandOf _ hS.1 m tm bk (by omega) bs ebs (by omega)) (fun q2 _ wq2 => ?_)
  obtain ⟨pq2, oq2, hq2⟩ := q2
  obtain ⟨xq2, zq2, gq2, aq2, bq2, uq2_0⟩ := wq2
  refine ⟨_, gq2, ?_⟩
  show gz gPP gGG gcn _ _ 11 [some (.ref m), some (.int (zi bk)), some (.int (zi x)), some (.int (zi y)), none, none, none, none, none, none] [.int (zi zq2), .ref c1, .int (zi 64)] hq2 _
  have sq2 := gSs.tr hS xq2 (by decide)
  have s3 := (xq2.2.2.2.2.2 m 18 (by rw [tm]; decide)).trans ew
  have s4 := (xq2.2.2.2.2.2 m 19 (by rw [tm]; decide)).trans ehh
  have s5 := (xq2.2.2.2.2.2 m 21 (by rw [tm]; decide)).trans ewd
  have s6 := (xq2.2.2.2.2.2 m 22 (by rw [tm]; decide)).trans ehg
  have s7 := (xq2.2.2.2.2.2 m 20 (by rw [tm]; decide)).trans ebs
  have s8 := (xq2.2.2.2.2.2 m 28 (by rw [tm]; decide)).trans ec1
  have pr9 := gPic.fr xq2.2 (by decide) hypic
  obtain ⟨hbT, vbT, CT, RT, ocT, orrT, fT, eT_0, eT_1, eT_2, eT_3, eT_4, eT_5, eT_6, eT_7, kT⟩ := pr9.2 zq2 (by omega) (by omega)
  obtain ⟨kT_0, kT_1, kT_2, kT_3, kT_4, kT_5, kT_6, kT_7, kT_8, kT_9, kT_10, kT_11, kT_12, kT_13, kT_14, kT_15, kT_16, kT_17⟩ := kT
  have kkT := zb3 (a := CT) (b := RT) (by omega) (by omega)
  have kpT := zx_f (a := hbT) (b := vbT) (A := 2) (B := 2) (by omega) (by omega) (by omega) (by omega)
  have hl10 : 3 ≤ hq2.2.2.2.1 c1 ∧ hq2.2.2.2.1 c1 ≤ 3 := gJ.rowl (G := gGG) sq2.1 tc1 rfl
  refine gs_ald rfl (by decide) sq2.1 tc1 rfl rfl rfl (by decide) (fun _ => rfl) (by omega) (by omega) (fun z11 ez11 az11 bz11 => ?_)
  have he12 := eT_7 c1 z11 tc1 ez11 (by omega) (by omega)
  refine gy_s 6 (pc' := 22) (L' := [some (.ref m), some (.int (zi bk)), some (.int (zi x)), some (.int (zi y)), some (.int ((zi 64) * (zi z11))), some (.long (zl 0)), none, some (.int (zi 63)), none, none]) (S' := []) (L2 := [some (.ref m), some (.int (zi bk)), some (.int (zi x)), some (.int (zi y)), some (.int (zi (64 * z11))), some (.long (zl 0)), none, some (.int (zi 63)), none, none]) (S2 := []) rfl (by simp only [zi_add, zi_sub, zi_mul, zi_neg, zi_and1, zi_and7, zi_and15, zi_and31, zi_and255, zl_add, zl_sub, zl_mul, zl_neg]) (by simp only [zi_add, zi_sub, zi_mul, zi_neg, zi_and1, zi_and7, zi_and15, zi_and31, zi_and255, zl_add, zl_sub, zl_mul, zl_neg]) ?_
  have lp13 : ∀ (fu : Nat) (h14 : gH) (sm : Int) (k : Int), (k + 2).toNat < fu → gSs rT 1027 ty [] h h14 → ((-9223372036854775808) ≤ sm ∧ sm ≤ 9223372036854775807) → ((-1) ≤ k ∧ k ≤ 63) → h14.2.2.2.2 m 18 = .int (zi w) → h14.2.2.2.2 m 19 = .int (zi hh) → h14.2.2.2.2 m 21 = .int (zi wd) → h14.2.2.2.2 m 22 = .int (zi hg) → h14.2.2.2.2 m 20 = .int (zi bs) → h14.2.2.2.2 m 28 = .ref c1 → gPic ty w hh wd hg bs h14 → gEl ty 12 zq2 hbT hbT h14 → gEl ty 13 zq2 vbT vbT h14 → gEl ty 15 zq2 CT CT h14 → gEl ty 16 zq2 RT RT h14 → gEl ty 17 zq2 ocT ocT h14 → gEl ty 18 zq2 orrT orrT h14 → gEl ty 19 zq2 fT fT h14 → gEl ty 14 zq2 0 3 h14 → gz gPP gGG gcn (d + 1) gt170 22 [some (.ref m), some (.int (zi bk)), some (.int (zi x)), some (.int (zi y)), some (.int (zi (64 * z11))), some (.long (zl sm)), none, some (.int (zi k)), none, none] [] h14 (fun q _ => gSs rT 1027 ty [] h q.2.2 ∧ ∃ z : Int, gfin gt170 q.1 q.2.1 = some (some (.long (zl z))) ∧ (-9223372036854775808) ≤ z ∧ z ≤ 9223372036854775807) := by
    intro fu
    induction fu with
    | zero => intro h14 sm k hm; exact absurd hm (Nat.not_lt_zero _)
    | succ fu ihlp13 =>
      intro h14 sm k lp13m sh14 lp13f0 lp13f1 lp13k0 lp13k1 lp13k2 lp13k3 lp13k4 lp13k5 lp13k6 lp13k7 lp13k8 lp13k9 lp13k10 lp13k11 lp13k12 lp13k13 lp13k14
      refine gz_s 1 (pc' := 24) (L' := [some (.ref m), some (.int (zi bk)), some (.int (zi x)), some (.int (zi y)), some (.int (zi (64 * z11))), some (.long (zl sm)), none, some (.int (zi k)), none, none]) (S' := [.int (zi k)]) rfl ?_
      by_cases hc15 : (k : Int) < 0
      · refine gy_ifT (pc' := 98) rfl (by decide) (by decide) (by omega) hc15 ?_
        refine gz_s 1 (pc' := 100) (L' := [some (.ref m), some (.int (zi bk)), some (.int (zi x)), some (.int (zi y)), some (.int (zi (64 * z11))), some (.long (zl sm)), none, some (.int (zi k)), none, none]) (S' := [.long (zl sm)]) rfl ?_
        exact gz_end (I := .lreturn) (len := 1) rfl (Or.inl rfl) ⟨sh14, sm, rfl, (by omega), (by omega)⟩
      · refine gy_ifF rfl (by decide) (by decide) (by omega) hc15 ?_
        refine gz_s 1 (pc' := 28) (L' := [some (.ref m), some (.int (zi bk)), some (.int (zi x)), some (.int (zi y)), some (.int (zi (64 * z11))), some (.long (zl sm)), none, some (.int (zi k)), none, none]) (S' := [.ref m]) rfl ?_
        refine gs_gtr rfl (by decide) rfl sh14.1 tm rfl rfl rfl (fun c16 ec16 tc16 => ?_)
        refine gy_s 5 (pc' := 38) (L' := [some (.ref m), some (.int (zi bk)), some (.int (zi x)), some (.int (zi y)), some (.int (zi (64 * z11))), some (.long (zl sm)), none, some (.int (zi k)), none, none]) (S' := [.int (((zi 64) * (zi bk)) + (zi k)), .ref c16]) (L2 := [some (.ref m), some (.int (zi bk)), some (.int (zi x)), some (.int (zi y)), some (.int (zi (64 * z11))), some (.long (zl sm)), none, some (.int (zi k)), none, none]) (S2 := [.int (zi ((64 * bk) + k)), .ref c16]) rfl (by simp only [zi_add, zi_sub, zi_mul, zi_neg, zi_and1, zi_and7, zi_and15, zi_and31, zi_and255, zl_add, zl_sub, zl_mul, zl_neg]) (by simp only [zi_add, zi_sub, zi_mul, zi_neg, zi_and1, zi_and7, zi_and15, zi_and31, zi_and255, zl_add, zl_sub, zl_mul, zl_neg]) ?_
        have hl17 : 12288 ≤ h14.2.2.2.1 c16 ∧ h14.2.2.2.1 c16 ≤ 12288 := gJ.rowl (G := gGG) sh14.1 tc16 rfl
        refine gs_ald rfl (by decide) sh14.1 tc16 rfl rfl rfl (by decide) (fun _ => rfl) (by omega) (by omega) (fun z18 ez18 az18 bz18 => ?_)
        refine gy_i2l rfl (by decide) (by omega) ?_
        refine gz_s 1 (pc' := 41) (L' := [some (.ref m), some (.int (zi bk)), some (.int (zi x)), some (.int (zi y)), some (.int (zi (64 * z11))), some (.long (zl sm)), none, some (.int (zi k)), none, none]) (S' := [.ref m, .long (zl z18)]) rfl ?_
        refine gs_gtr rfl (by decide) rfl sh14.1 tm rfl rfl rfl (fun c19 ec19 tc19 => ?_)
        refine gy_s 3 (pc' := 49) (L' := [some (.ref m), some (.int (zi bk)), some (.int (zi x)), some (.int (zi y)), some (.int (zi (64 * z11))), some (.long (zl sm)), none, some (.int (zi k)), none, none]) (S' := [.int ((zi (64 * z11)) + (zi k)), .ref c19, .long (zl z18)]) (L2 := [some (.ref m), some (.int (zi bk)), some (.int (zi x)), some (.int (zi y)), some (.int (zi (64 * z11))), some (.long (zl sm)), none, some (.int (zi k)), none, none]) (S2 := [.int (zi ((64 * z11) + k)), .ref c19, .long (zl z18)]) rfl (by simp only [zi_add, zi_sub, zi_mul, zi_neg, zi_and1, zi_and7, zi_and15, zi_and31, zi_and255, zl_add, zl_sub, zl_mul, zl_neg]) (by simp only [zi_add, zi_sub, zi_mul, zi_neg, zi_and1, zi_and7, zi_and15, zi_and31, zi_and255, zl_add, zl_sub, zl_mul, zl_neg]) ?_
        have hl20 : 256 ≤ h14.2.2.2.1 c19 ∧ h14.2.2.2.1 c19 ≤ 256 := gJ.rowl (G := gGG) sh14.1 tc19 rfl
        refine gs_ald rfl (by decide) sh14.1 tc19 rfl rfl rfl (by decide) (fun _ => rfl) (by omega) (by omega) (fun z21 ez21 az21 bz21 => ?_)
        refine gy_i2l rfl (by decide) (by omega) ?_
        have hx22 := zx_s (a := z18) (b := z21) (A := 2147483648) (B := 255) (by omega) (by omega) (by omega) (by omega)
        refine gy_s 1 (pc' := 52) (L' := [some (.ref m), some (.int (zi bk)), some (.int (zi x)), some (.int (zi y)), some (.int (zi (64 * z11))), some (.long (zl sm)), none, some (.int (zi k)), none, none]) (S' := [.long ((zl z18) * (zl z21))]) (L2 := [some (.ref m), some (.int (zi bk)), some (.int (zi x)), some (.int (zi y)), some (.int (zi (64 * z11))), some (.long (zl sm)), none, some (.int (zi k)), none, none]) (S2 := [.long (zl (z18 * z21))]) rfl (by simp only [zi_add, zi_sub, zi_mul, zi_neg, zi_and1, zi_and7, zi_and15, zi_and31, zi_and255, zl_add, zl_sub, zl_mul, zl_neg]) (by simp only [zi_add, zi_sub, zi_mul, zi_neg, zi_and1, zi_and7, zi_and15, zi_and31, zi_and255, zl_add, zl_sub, zl_mul, zl_neg]) ?_
        refine gy_lany (fun z23 ez23 az23 bz23 => ?_)
        refine gz_s 4 (pc' := 59) (L' := [some (.ref m), some (.int (zi bk)), some (.int (zi x)), some (.int (zi y)), some (.int (zi (64 * z11))), some (.long (zl sm)), none, some (.int (zi k)), some (.long (zl z23)), none]) (S' := [.ref m, .long (zl z23), .long (zl sm)]) rfl ?_
        refine gs_gtr rfl (by decide) rfl sh14.1 tm rfl rfl rfl (fun c24 ec24 tc24 => ?_)
        refine gz_s 1 (pc' := 64) (L' := [some (.ref m), some (.int (zi bk)), some (.int (zi x)), some (.int (zi y)), some (.int (zi (64 * z11))), some (.long (zl sm)), none, some (.int (zi k)), some (.long (zl z23)), none]) (S' := [.int (zi k), .ref c24, .long (zl z23), .long (zl sm)]) rfl ?_
        have hl25 : 64 ≤ h14.2.2.2.1 c24 ∧ h14.2.2.2.1 c24 ≤ 64 := gJ.rowl (G := gGG) sh14.1 tc24 rfl
        refine gs_ald rfl (by decide) sh14.1 tc24 rfl rfl rfl (by decide) (fun _ => rfl) (by omega) (by omega) (fun z26 ez26 az26 bz26 => ?_)
        refine gz_s 1 (pc' := 67) (L' := [some (.ref m), some (.int (zi bk)), some (.int (zi x)), some (.int (zi y)), some (.int (zi (64 * z11))), some (.long (zl sm)), none, some (.int (zi k)), some (.long (zl z23)), none]) (S' := [.int (zi 8), .int (zi z26), .long (zl z23), .long (zl sm)]) rfl ?_
        refine gy_rem rfl (by decide) (by omega) (by omega) ?_
        refine gz_s 1 (pc' := 69) (L' := [some (.ref m), some (.int (zi bk)), some (.int (zi x)), some (.int (zi y)), some (.int (zi (64 * z11))), some (.long (zl sm)), none, some (.int (zi k)), some (.long (zl z23)), none]) (S' := [.int (zi x), .int (zi (z26 % 8)), .long (zl z23), .long (zl sm)]) rfl ?_
        refine gz_call rfl (by decide) rfl (by decide) (by decide) (gcal_of rfl rfl rfl (Nat.le_of_ble_eq_true rfl) rfl) (mm_cosine _ sh14.1 (z26 % 8) (by omega) x (by omega) ) (fun q27 _ wq27 => ?_)
        obtain ⟨pq27, oq27, hq27⟩ := q27
        obtain ⟨xq27, zq27, gq27, aq27, bq27⟩ := wq27
        refine ⟨_, gq27, ?_⟩
        show gz gPP gGG gcn _ _ 72 [some (.ref m), some (.int (zi bk)), some (.int (zi x)), some (.int (zi y)), some (.int (zi (64 * z11))), some (.long (zl sm)), none, some (.int (zi k)), some (.long (zl z23)), none] [.int (zi zq27), .long (zl z23), .long (zl sm)] hq27 _
        have sq27 := gSs.tr sh14 xq27 (by decide)
        have s28 := (xq27.2.2.2.2.2 m 18 (by rw [tm]; decide)).trans lp13k0
        have s29 := (xq27.2.2.2.2.2 m 19 (by rw [tm]; decide)).trans lp13k1
        have s30 := (xq27.2.2.2.2.2 m 21 (by rw [tm]; decide)).trans lp13k2
        have s31 := (xq27.2.2.2.2.2 m 22 (by rw [tm]; decide)).trans lp13k3
        have s32 := (xq27.2.2.2.2.2 m 20 (by rw [tm]; decide)).trans lp13k4
        have s33 := (xq27.2.2.2.2.2 m 28 (by rw [tm]; decide)).trans lp13k5
        have s34 := (xq27.2.2.2.2.2 m 37 (by rw [tm]; decide)).trans ec16
        have s35 := (xq27.2.2.2.2.2 m 14 (by rw [tm]; decide)).trans ec19
        have s36 := (xq27.2.2.2.2.2 m 15 (by rw [tm]; decide)).trans ec24
        have pr37 := gPic.fr xq27.2 (by decide) lp13k6
        have pr38 := gEl.fr xq27.2 (by decide) (fun _ => rfl) lp13k7
        have pr39 := gEl.fr xq27.2 (by decide) (fun _ => rfl) lp13k8
        have pr40 := gEl.fr xq27.2 (by decide) (fun _ => rfl) lp13k9
        have pr41 := gEl.fr xq27.2 (by decide) (fun _ => rfl) lp13k10
        have pr42 := gEl.fr xq27.2 (by decide) (fun _ => rfl) lp13k11
        have pr43 := gEl.fr xq27.2 (by decide) (fun _ => rfl) lp13k12
        have pr44 := gEl.fr xq27.2 (by decide) (fun _ => rfl) lp13k13
        have pr45 := gEl.fr xq27.2 (by decide) (fun _ => rfl) lp13k14
        refine gz_s 1 (pc' := 73) (L' := [some (.ref m), some (.int (zi bk)), some (.int (zi x)), some (.int (zi y)), some (.int (zi (64 * z11))), some (.long (zl sm)), none, some (.int (zi k)), some (.long (zl z23)), none]) (S' := [.ref m, .int (zi zq27), .long (zl z23), .long (zl sm)]) rfl ?_
        refine gs_gtk rfl (by decide) rfl sq27.1 tm rfl rfl s36 ?_
        refine gz_s 1 (pc' := 78) (L' := [some (.ref m), some (.int (zi bk)), some (.int (zi x)), some (.int (zi y)), some (.int (zi (64 * z11))), some (.long (zl sm)), none, some (.int (zi k)), some (.long (zl z23)), none]) (S' := [.int (zi k), .ref c24, .int (zi zq27), .long (zl z23), .long (zl sm)]) rfl ?_
        have hl46 : 64 ≤ hq27.2.2.2.1 c24 ∧ hq27.2.2.2.1 c24 ≤ 64 := gJ.rowl (G := gGG) sq27.1 tc24 rfl
        refine gs_ald rfl (by decide) sq27.1 tc24 rfl rfl rfl (by decide) (fun _ => rfl) (by omega) (by omega) (fun z47 ez47 az47 bz47 => ?_)
        refine gz_s 1 (pc' := 81) (L' := [some (.ref m), some (.int (zi bk)), some (.int (zi x)), some (.int (zi y)), some (.int (zi (64 * z11))), some (.long (zl sm)), none, some (.int (zi k)), some (.long (zl z23)), none]) (S' := [.int (zi 8), .int (zi z47), .int (zi zq27), .long (zl z23), .long (zl sm)]) rfl ?_
        refine gy_div rfl (by decide) (by omega) (by omega) ?_
        refine gz_s 1 (pc' := 83) (L' := [some (.ref m), some (.int (zi bk)), some (.int (zi x)), some (.int (zi y)), some (.int (zi (64 * z11))), some (.long (zl sm)), none, some (.int (zi k)), some (.long (zl z23)), none]) (S' := [.int (zi y), .int (zi (z47 / 8)), .int (zi zq27), .long (zl z23), .long (zl sm)]) rfl ?_
        refine gz_call rfl (by decide) rfl (by decide) (by decide) (gcal_of rfl rfl rfl (Nat.le_of_ble_eq_true rfl) rfl) (mm_cosine _ sq27.1 (z47 / 8) (by omega) y (by omega) ) (fun q48 _ wq48 => ?_)
        obtain ⟨pq48, oq48, hq48⟩ := q48
        obtain ⟨xq48, zq48, gq48, aq48, bq48⟩ := wq48
        refine ⟨_, gq48, ?_⟩
        show gz gPP gGG gcn _ _ 86 [some (.ref m), some (.int (zi bk)), some (.int (zi x)), some (.int (zi y)), some (.int (zi (64 * z11))), some (.long (zl sm)), none, some (.int (zi k)), some (.long (zl z23)), none] [.int (zi zq48), .int (zi zq27), .long (zl z23), .long (zl sm)] hq48 _
        have sq48 := gSs.tr sq27 xq48 (by decide)
        have s49 := (xq48.2.2.2.2.2 m 18 (by rw [tm]; decide)).trans s28
        have s50 := (xq48.2.2.2.2.2 m 19 (by rw [tm]; decide)).trans s29
        have s51 := (xq48.2.2.2.2.2 m 21 (by rw [tm]; decide)).trans s30
        have s52 := (xq48.2.2.2.2.2 m 22 (by rw [tm]; decide)).trans s31
        have s53 := (xq48.2.2.2.2.2 m 20 (by rw [tm]; decide)).trans s32
        have s54 := (xq48.2.2.2.2.2 m 28 (by rw [tm]; decide)).trans s33
        have s55 := (xq48.2.2.2.2.2 m 37 (by rw [tm]; decide)).trans s34
        have s56 := (xq48.2.2.2.2.2 m 14 (by rw [tm]; decide)).trans s35
        have s57 := (xq48.2.2.2.2.2 m 15 (by rw [tm]; decide)).trans s36
        have pr58 := gPic.fr xq48.2 (by decide) pr37
        have pr59 := gEl.fr xq48.2 (by decide) (fun _ => rfl) pr38
        have pr60 := gEl.fr xq48.2 (by decide) (fun _ => rfl) pr39
        have pr61 := gEl.fr xq48.2 (by decide) (fun _ => rfl) pr40
        have pr62 := gEl.fr xq48.2 (by decide) (fun _ => rfl) pr41
        have pr63 := gEl.fr xq48.2 (by decide) (fun _ => rfl) pr42
        have pr64 := gEl.fr xq48.2 (by decide) (fun _ => rfl) pr43
        have pr65 := gEl.fr xq48.2 (by decide) (fun _ => rfl) pr44
        have pr66 := gEl.fr xq48.2 (by decide) (fun _ => rfl) pr45
        have hx67 := zx_s (a := zq27) (b := zq48) (A := 4096) (B := 4096) (by omega) (by omega) (by omega) (by omega)
        refine gy_s 1 (pc' := 87) (L' := [some (.ref m), some (.int (zi bk)), some (.int (zi x)), some (.int (zi y)), some (.int (zi (64 * z11))), some (.long (zl sm)), none, some (.int (zi k)), some (.long (zl z23)), none]) (S' := [.int ((zi zq27) * (zi zq48)), .long (zl z23), .long (zl sm)]) (L2 := [some (.ref m), some (.int (zi bk)), some (.int (zi x)), some (.int (zi y)), some (.int (zi (64 * z11))), some (.long (zl sm)), none, some (.int (zi k)), some (.long (zl z23)), none]) (S2 := [.int (zi (zq27 * zq48)), .long (zl z23), .long (zl sm)]) rfl (by simp only [zi_add, zi_sub, zi_mul, zi_neg, zi_and1, zi_and7, zi_and15, zi_and31, zi_and255, zl_add, zl_sub, zl_mul, zl_neg]) (by simp only [zi_add, zi_sub, zi_mul, zi_neg, zi_and1, zi_and7, zi_and15, zi_and31, zi_and255, zl_add, zl_sub, zl_mul, zl_neg]) ?_
        refine gy_i2l rfl (by decide) (by omega) ?_
        refine gy_s 1 (pc' := 89) (L' := [some (.ref m), some (.int (zi bk)), some (.int (zi x)), some (.int (zi y)), some (.int (zi (64 * z11))), some (.long (zl sm)), none, some (.int (zi k)), some (.long (zl z23)), none]) (S' := [.long ((zl z23) * (zl (zq27 * zq48))), .long (zl sm)]) (L2 := [some (.ref m), some (.int (zi bk)), some (.int (zi x)), some (.int (zi y)), some (.int (zi (64 * z11))), some (.long (zl sm)), none, some (.int (zi k)), some (.long (zl z23)), none]) (S2 := [.long (zl (z23 * (zq27 * zq48))), .long (zl sm)]) rfl (by simp only [zi_add, zi_sub, zi_mul, zi_neg, zi_and1, zi_and7, zi_and15, zi_and31, zi_and255, zl_add, zl_sub, zl_mul, zl_neg]) (by simp only [zi_add, zi_sub, zi_mul, zi_neg, zi_and1, zi_and7, zi_and15, zi_and31, zi_and255, zl_add, zl_sub, zl_mul, zl_neg]) ?_
        refine gy_lany (fun z68 ez68 az68 bz68 => ?_)
        refine gy_s 1 (pc' := 90) (L' := [some (.ref m), some (.int (zi bk)), some (.int (zi x)), some (.int (zi y)), some (.int (zi (64 * z11))), some (.long (zl sm)), none, some (.int (zi k)), some (.long (zl z23)), none]) (S' := [.long ((zl sm) + (zl z68))]) (L2 := [some (.ref m), some (.int (zi bk)), some (.int (zi x)), some (.int (zi y)), some (.int (zi (64 * z11))), some (.long (zl sm)), none, some (.int (zi k)), some (.long (zl z23)), none]) (S2 := [.long (zl (sm + z68))]) rfl (by simp only [zi_add, zi_sub, zi_mul, zi_neg, zi_and1, zi_and7, zi_and15, zi_and31, zi_and255, zl_add, zl_sub, zl_mul, zl_neg]) (by simp only [zi_add, zi_sub, zi_mul, zi_neg, zi_and1, zi_and7, zi_and15, zi_and31, zi_and255, zl_add, zl_sub, zl_mul, zl_neg]) ?_
        refine gy_lany (fun z69 ez69 az69 bz69 => ?_)
        refine gy_s 3 (pc' := 22) (L' := [some (.ref m), some (.int (zi bk)), some (.int (zi x)), some (.int (zi y)), some (.int (zi (64 * z11))), some (.long (zl z69)), none, some (.int ((zi k) + zi (-1))), some (.long (zl z23)), none]) (S' := []) (L2 := [some (.ref m), some (.int (zi bk)), some (.int (zi x)), some (.int (zi y)), some (.int (zi (64 * z11))), some (.long (zl z69)), none, some (.int (zi (k + (-1)))), some (.long (zl z23)), none]) (S2 := []) rfl (by simp only [zi_add, zi_sub, zi_mul, zi_neg, zi_and1, zi_and7, zi_and15, zi_and31, zi_and255, zl_add, zl_sub, zl_mul, zl_neg]) (by simp only [zi_add, zi_sub, zi_mul, zi_neg, zi_and1, zi_and7, zi_and15, zi_and31, zi_and255, zl_add, zl_sub, zl_mul, zl_neg]) ?_
        exact gz_wk (ihlp13 hq48 z69 (k + (-1)) (by omega) sq48 (by omega) (by omega) s49 s50 s51 s52 s53 s54 pr58 pr59 pr60 pr61 pr62 pr63 pr64 pr65 pr66) (gLw.s (gLw.s (gLw.s (gLw.s (gLw.s (gLw.s (gLw.n (gLw.s (gLw.n (gLw.n gLw.z))))))))))
  exact gz_wk (lp13 _ hq2 0 63 (Nat.lt_succ_self _) sq2 (by omega) (by omega) s3 s4 s5 s6 s7 s8 pr9 eT_0 eT_1 eT_2 eT_3 eT_4 eT_5 eT_6 eT_7) (gLw.s (gLw.s (gLw.s (gLw.s (gLw.s (gLw.s (gLw.n (gLw.s (gLw.n (gLw.n gLw.z))))))))))
set_option maxRecDepth 20000 in
set_option maxHeartbeats 4000000 in
theorem mm_within (d : Nat) {ty : Nat → Nat} {h : gH} (hJ : gJ rT 1027 ty h) (v : Int) (rv : (-9223372036854775808) ≤ v ∧ v ≤ 9223372036854775807) : gz gPP gGG gcn (d + 0) gt173 0 (gent [.long (zl v)] 2) [] h (fun q _ => gSs rT 1027 ty [] h q.2.2 ∧ ∃ z : Int, gfin gt173 q.1 q.2.1 = some (some (.int (zi z))) ∧ 0 ≤ z ∧ z ≤ 255) := by
  have hS : gSs rT 1027 ty [] h h := gSs.rf hJ
  refine gz_s 2 (pc' := 2) (L' := [some (.long (zl v)), none]) (S' := [.long (zl 0), .long (zl v)]) rfl ?_
  refine gy_lcmp rfl (by decide) (by omega) (by omega) (fun z1 az1 bz1 cz1 => ?_)
  by_cases hc2 : (0 : Int) ≤ z1
  · refine gy_ifT (pc' := 10) rfl (by decide) (by decide) (by omega) hc2 ?_
    refine gz_s 1 (pc' := 11) (L' := [some (.long (zl v)), none]) (S' := [.long (zl v)]) rfl ?_
    refine gz_1 rfl (by decide) rfl rfl (pc' := 14) (S' := [.long (zl 255), .long (zl v)]) (h' := h) rfl ?_
    refine gy_lcmp rfl (by decide) (by omega) (by omega) (fun z3 az3 bz3 cz3 => ?_)
    by_cases hc4 : (z3 : Int) ≤ 0
    · refine gy_ifT (pc' := 24) rfl (by decide) (by decide) (by omega) hc4 ?_
      refine gz_s 1 (pc' := 25) (L' := [some (.long (zl v)), none]) (S' := [.long (zl v)]) rfl ?_
      refine gy_l2i rfl (by decide) ?_
      exact gz_end (I := .ireturn) (len := 1) rfl (Or.inl rfl) ⟨hS, v, rfl, (by omega), (by omega)⟩
    · refine gy_ifF rfl (by decide) (by decide) (by omega) hc4 ?_
      refine gz_s 2 (pc' := 26) (L' := [some (.long (zl v)), none]) (S' := [.int (zi 255)]) rfl ?_
      exact gz_end (I := .ireturn) (len := 1) rfl (Or.inl rfl) ⟨hS, 255, rfl, (by omega), (by omega)⟩
  · refine gy_ifF rfl (by decide) (by decide) (by omega) hc2 ?_
    refine gz_s 2 (pc' := 26) (L' := [some (.long (zl v)), none]) (S' := [.int (zi 0)]) rfl ?_
    exact gz_end (I := .ireturn) (len := 1) rfl (Or.inl rfl) ⟨hS, 0, rfl, (by omega), (by omega)⟩
set_option maxRecDepth 20000 in
set_option maxHeartbeats 4000000 in
theorem mm_sampleAt (d : Nat) {ty : Nat → Nat} {h : gH} (hJ : gJ rT 1027 ty h) (m : Nat) (tm : ty m = 1) (x : Int) (rx : 0 ≤ x ∧ x ≤ 63) (y : Int) (ry : 0 ≤ y ∧ y ≤ 63) (b : Int) (rb : 0 ≤ b ∧ b ≤ 2) (w : Int) (ew : h.2.2.2.2 m 18 = .int (zi w)) (rw : 0 ≤ w ∧ w ≤ 64) (hh : Int) (ehh : h.2.2.2.2 m 19 = .int (zi hh)) (rhh : 0 ≤ hh ∧ hh ≤ 64) (wd : Int) (ewd : h.2.2.2.2 m 21 = .int (zi wd)) (rwd : 1 ≤ wd ∧ wd ≤ 2) (hg : Int) (ehg : h.2.2.2.2 m 22 = .int (zi hg)) (rhg : 1 ≤ hg ∧ hg ≤ 2) (bs : Int) (ebs : h.2.2.2.2 m 20 = .int (zi bs)) (rbs : 1 ≤ bs ∧ bs ≤ 3) (pp0 : x < w) (pp1 : y < hh) (pp2 : b < bs) (hypic : gPic ty w hh wd hg bs h) : gz gPP gGG gcn (d + 2) gt169 0 (gent [.ref m, .int (zi x), .int (zi y), .int (zi b)] 8) [] h (fun q _ => gSs rT 1027 ty [] h q.2.2 ∧ ∃ z : Int, gfin gt169 q.1 q.2.1 = some (some (.int (zi z))) ∧ 0 ≤ z ∧ z ≤ 255) := by
  have hS : gSs rT 1027 ty [] h h := gSs.rf hJ
  obtain ⟨hbS, vbS, CS, RS, ocS, orrS, fS, eS_0, eS_1, eS_2, eS_3, eS_4, eS_5, eS_6, eS_7, kS⟩ := hypic.2 b (by omega) (by omega)
  obtain ⟨kS_0, kS_1, kS_2, kS_3, kS_4, kS_5, kS_6, kS_7, kS_8, kS_9, kS_10, kS_11, kS_12, kS_13, kS_14, kS_15, kS_16, kS_17⟩ := kS
  have kkS := zb3 (a := CS) (b := RS) (by omega) (by omega)
  have kpS := zx_f (a := hbS) (b := vbS) (A := 2) (B := 2) (by omega) (by omega) (by omega) (by omega)
  refine gz_s 2 (pc' := 2) (L' := [some (.ref m), some (.int (zi x)), some (.int (zi y)), some (.int (zi b)), none, none, none, none]) (S' := [.ref m, .int (zi x)]) rfl ?_
  refine gs_gtr rfl (by decide) rfl hS.1 tm rfl rfl rfl (fun c1 ec1 tc1 => ?_)
  refine gz_s 1 (pc' := 6) (L' := [some (.ref m), some (.int (zi x)), some (.int (zi y)), some (.int (zi b)), none, none, none, none]) (S' := [.int (zi b), .ref c1, .int (zi x)]) rfl ?_
  have hl2 : 3 ≤ h.2.2.2.1 c1 ∧ h.2.2.2.1 c1 ≤ 3 := gJ.rowl (G := gGG) hS.1 tc1 rfl
  refine gs_alx rfl (by decide) hS.1 tc1 rfl rfl rfl (by decide) (fun _ => rfl) (by omega) (by omega) (by decide) eS_0 (fun ex3 ax3 bx3 => ?_)
  have hx4 := zx_f (a := x) (b := hbS) (A := 63) (B := 2) (by omega) (by omega) (by omega) (by omega)
  refine gy_s 2 (pc' := 9) (L' := [some (.ref m), some (.int (zi x)), some (.int (zi y)), some (.int (zi b)), none, none, none, none]) (S' := [.ref m, .int ((zi x) * (zi hbS))]) (L2 := [some (.ref m), some (.int (zi x)), some (.int (zi y)), some (.int (zi b)), none, none, none, none]) (S2 := [.ref m, .int (zi (x * hbS))]) rfl (by simp only [zi_add, zi_sub, zi_mul, zi_neg, zi_and1, zi_and7, zi_and15, zi_and31, zi_and255]) (by simp only [zi_add, zi_sub, zi_mul, zi_neg, zi_and1, zi_and7, zi_and15, zi_and31, zi_and255]) ?_
  refine gs_gtk rfl (by decide) rfl hS.1 tm rfl rfl ewd ?_
  refine gy_div rfl (by decide) (by omega) (by omega) ?_
  have hd5 := zd_f (x := x * hbS) (y := wd) (by omega) (by omega)
  refine gz_s 3 (pc' := 17) (L' := [some (.ref m), some (.int (zi x)), some (.int (zi y)), some (.int (zi b)), some (.int (zi ((x * hbS) / wd))), none, none, none]) (S' := [.ref m, .int (zi y)]) rfl ?_
  refine gs_gtr rfl (by decide) rfl hS.1 tm rfl rfl rfl (fun c6 ec6 tc6 => ?_)
  refine gz_s 1 (pc' := 21) (L' := [some (.ref m), some (.int (zi x)), some (.int (zi y)), some (.int (zi b)), some (.int (zi ((x * hbS) / wd))), none, none, none]) (S' := [.int (zi b), .ref c6, .int (zi y)]) rfl ?_
  have hl7 : 3 ≤ h.2.2.2.1 c6 ∧ h.2.2.2.1 c6 ≤ 3 := gJ.rowl (G := gGG) hS.1 tc6 rfl
  refine gs_alx rfl (by decide) hS.1 tc6 rfl rfl rfl (by decide) (fun _ => rfl) (by omega) (by omega) (by decide) eS_1 (fun ex8 ax8 bx8 => ?_)
  have hx9 := zx_f (a := y) (b := vbS) (A := 63) (B := 2) (by omega) (by omega) (by omega) (by omega)
  refine gy_s 2 (pc' := 24) (L' := [some (.ref m), some (.int (zi x)), some (.int (zi y)), some (.int (zi b)), some (.int (zi ((x * hbS) / wd))), none, none, none]) (S' := [.ref m, .int ((zi y) * (zi vbS))]) (L2 := [some (.ref m), some (.int (zi x)), some (.int (zi y)), some (.int (zi b)), some (.int (zi ((x * hbS) / wd))), none, none, none]) (S2 := [.ref m, .int (zi (y * vbS))]) rfl (by simp only [zi_add, zi_sub, zi_mul, zi_neg, zi_and1, zi_and7, zi_and15, zi_and31, zi_and255]) (by simp only [zi_add, zi_sub, zi_mul, zi_neg, zi_and1, zi_and7, zi_and15, zi_and31, zi_and255]) ?_
  refine gs_gtk rfl (by decide) rfl hS.1 tm rfl rfl ehg ?_
  refine gy_div rfl (by decide) (by omega) (by omega) ?_
  have hd10 := zd_f (x := y * vbS) (y := hg) (by omega) (by omega)
  have y4 := zb4 (x := x) (w := w) (wd := wd) (hb := hbS) (by omega) (by omega) (by omega) (by omega) (by omega)
  have y5 := zb4 (x := y) (w := hh) (wd := hg) (hb := vbS) (by omega) (by omega) (by omega) (by omega) (by omega)
  have y6 := zb5 (C := CS) (R := RS) (f := fS) (i := x * hbS / wd / 8) (j := y * vbS / hg / 8) (by omega) (by omega) (by omega) (by omega) (by omega) (by omega)
  refine gz_s 3 (pc' := 32) (L' := [some (.ref m), some (.int (zi x)), some (.int (zi y)), some (.int (zi b)), some (.int (zi ((x * hbS) / wd))), some (.int (zi ((y * vbS) / hg))), none, none]) (S' := [.ref m, .ref m]) rfl ?_
  refine gs_gtr rfl (by decide) rfl hS.1 tm rfl rfl rfl (fun c11 ec11 tc11 => ?_)
  refine gz_s 1 (pc' := 36) (L' := [some (.ref m), some (.int (zi x)), some (.int (zi y)), some (.int (zi b)), some (.int (zi ((x * hbS) / wd))), some (.int (zi ((y * vbS) / hg))), none, none]) (S' := [.int (zi b), .ref c11, .ref m]) rfl ?_
  have hl12 : 3 ≤ h.2.2.2.1 c11 ∧ h.2.2.2.1 c11 ≤ 3 := gJ.rowl (G := gGG) hS.1 tc11 rfl
  refine gs_alx rfl (by decide) hS.1 tc11 rfl rfl rfl (by decide) (fun _ => rfl) (by omega) (by omega) (by decide) eS_6 (fun ex13 ax13 bx13 => ?_)
  refine gz_s 1 (pc' := 38) (L' := [some (.ref m), some (.int (zi x)), some (.int (zi y)), some (.int (zi b)), some (.int (zi ((x * hbS) / wd))), some (.int (zi ((y * vbS) / hg))), none, none]) (S' := [.ref m, .int (zi fS), .ref m]) rfl ?_
  refine gs_gtr rfl (by decide) rfl hS.1 tm rfl rfl rfl (fun c14 ec14 tc14 => ?_)
  refine gz_s 1 (pc' := 42) (L' := [some (.ref m), some (.int (zi x)), some (.int (zi y)), some (.int (zi b)), some (.int (zi ((x * hbS) / wd))), some (.int (zi ((y * vbS) / hg))), none, none]) (S' := [.int (zi b), .ref c14, .int (zi fS), .ref m]) rfl ?_
  have hl15 : 3 ≤ h.2.2.2.1 c14 ∧ h.2.2.2.1 c14 ≤ 3 := gJ.rowl (G := gGG) hS.1 tc14 rfl
  refine gs_alx rfl (by decide) hS.1 tc14 rfl rfl rfl (by decide) (fun _ => rfl) (by omega) (by omega) (by decide) eS_2 (fun ex16 ax16 bx16 => ?_)
  refine gz_s 2 (pc' := 47) (L' := [some (.ref m), some (.int (zi x)), some (.int (zi y)), some (.int (zi b)), some (.int (zi ((x * hbS) / wd))), some (.int (zi ((y * vbS) / hg))), none, none]) (S' := [.int (zi 8), .int (zi ((y * vbS) / hg)), .int (zi CS), .int (zi fS), .ref m]) rfl ?_
  refine gy_div rfl (by decide) (by omega) (by omega) ?_
  have hx17 := zx_f (a := CS) (b := ((y * vbS) / hg) / 8) (A := 8) (B := 15) (by omega) (by omega) (by omega) (by omega)
  refine gy_s 4 (pc' := 54) (L' := [some (.ref m), some (.int (zi x)), some (.int (zi y)), some (.int (zi b)), some (.int (zi ((x * hbS) / wd))), some (.int (zi ((y * vbS) / hg))), none, none]) (S' := [.int (zi 8), .int (zi ((x * hbS) / wd)), .int ((zi fS) + ((zi CS) * (zi (((y * vbS) / hg) / 8)))), .ref m]) (L2 := [some (.ref m), some (.int (zi x)), some (.int (zi y)), some (.int (zi b)), some (.int (zi ((x * hbS) / wd))), some (.int (zi ((y * vbS) / hg))), none, none]) (S2 := [.int (zi 8), .int (zi ((x * hbS) / wd)), .int (zi (fS + (CS * (((y * vbS) / hg) / 8)))), .ref m]) rfl (by simp only [zi_add, zi_sub, zi_mul, zi_neg, zi_and1, zi_and7, zi_and15, zi_and31, zi_and255]) (by simp only [zi_add, zi_sub, zi_mul, zi_neg, zi_and1, zi_and7, zi_and15, zi_and31, zi_and255]) ?_
  refine gy_div rfl (by decide) (by omega) (by omega) ?_
  refine gy_s 3 (pc' := 60) (L' := [some (.ref m), some (.int (zi x)), some (.int (zi y)), some (.int (zi b)), some (.int (zi ((x * hbS) / wd))), some (.int (zi ((y * vbS) / hg))), none, none]) (S' := [.int (zi 8), .int (zi ((x * hbS) / wd)), .int ((zi (fS + (CS * (((y * vbS) / hg) / 8)))) + (zi (((x * hbS) / wd) / 8))), .ref m]) (L2 := [some (.ref m), some (.int (zi x)), some (.int (zi y)), some (.int (zi b)), some (.int (zi ((x * hbS) / wd))), some (.int (zi ((y * vbS) / hg))), none, none]) (S2 := [.int (zi 8), .int (zi ((x * hbS) / wd)), .int (zi ((fS + (CS * (((y * vbS) / hg) / 8))) + (((x * hbS) / wd) / 8))), .ref m]) rfl (by simp only [zi_add, zi_sub, zi_mul, zi_neg, zi_and1, zi_and7, zi_and15, zi_and31, zi_and255]) (by simp only [zi_add, zi_sub, zi_mul, zi_neg, zi_and1, zi_and7, zi_and15, zi_and31, zi_and255]) ?_
  refine gy_rem rfl (by decide) (by omega) (by omega) ?_
  refine gz_s 2 (pc' := 65) (L' := [some (.ref m), some (.int (zi x)), some (.int (zi y)), some (.int (zi b)), some (.int (zi ((x * hbS) / wd))), some (.int (zi ((y * vbS) / hg))), none, none]) (S' := [.int (zi 8), .int (zi ((y * vbS) / hg)), .int (zi (((x * hbS) / wd) % 8)), .int (zi ((fS + (CS * (((y * vbS) / hg) / 8))) + (((x * hbS) / wd) / 8))), .ref m]) rfl ?_
  refine gy_rem rfl (by decide) (by omega) (by omega) ?_
  refine gz_call rfl (by decide) rfl (by decide) (by decide) (gcal_of rfl rfl rfl (Nat.le_of_ble_eq_true rfl) (gJ.recv (G := gGG) hS.1 tm rfl rfl)) (mm_sumAt _ hS.1 m tm ((fS + (CS * (((y * vbS) / hg) / 8))) + (((x * hbS) / wd) / 8)) (by omega) (((x * hbS) / wd) % 8) (by omega) (((y * vbS) / hg) % 8) (by omega) w ew (by omega) hh ehh (by omega) wd ewd (by omega) hg ehg (by omega) bs ebs (by omega) hypic) (fun q18 _ wq18 => ?_)
  obtain ⟨pq18, oq18, hq18⟩ := q18
  obtain ⟨xq18, zq18, gq18, aq18, bq18⟩ := wq18
  refine ⟨_, gq18, ?_⟩
  show gz gPP gGG gcn _ _ 69 [some (.ref m), some (.int (zi x)), some (.int (zi y)), some (.int (zi b)), some (.int (zi ((x * hbS) / wd))), some (.int (zi ((y * vbS) / hg))), none, none] [.long (zl zq18)] hq18 _
  have sq18 := gSs.tr hS xq18 (by decide)
  have s19 := (xq18.2.2.2.2.2 m 18 (by rw [tm]; decide)).trans ew
  have s20 := (xq18.2.2.2.2.2 m 19 (by rw [tm]; decide)).trans ehh
  have s21 := (xq18.2.2.2.2.2 m 21 (by rw [tm]; decide)).trans ewd
  have s22 := (xq18.2.2.2.2.2 m 22 (by rw [tm]; decide)).trans ehg
  have s23 := (xq18.2.2.2.2.2 m 20 (by rw [tm]; decide)).trans ebs
  have s24 := (xq18.2.2.2.2.2 m 26 (by rw [tm]; decide)).trans ec1
  have s25 := (xq18.2.2.2.2.2 m 27 (by rw [tm]; decide)).trans ec6
  have s26 := (xq18.2.2.2.2.2 m 33 (by rw [tm]; decide)).trans ec11
  have s27 := (xq18.2.2.2.2.2 m 29 (by rw [tm]; decide)).trans ec14
  have pr28 := gPic.fr xq18.2 (by decide) hypic
  have pr29 := gEl.fr xq18.2 (by decide) (fun _ => rfl) eS_0
  have pr30 := gEl.fr xq18.2 (by decide) (fun _ => rfl) eS_1
  have pr31 := gEl.fr xq18.2 (by decide) (fun _ => rfl) eS_2
  have pr32 := gEl.fr xq18.2 (by decide) (fun _ => rfl) eS_3
  have pr33 := gEl.fr xq18.2 (by decide) (fun _ => rfl) eS_4
  have pr34 := gEl.fr xq18.2 (by decide) (fun _ => rfl) eS_5
  have pr35 := gEl.fr xq18.2 (by decide) (fun _ => rfl) eS_6
  have pr36 := gEl.fr xq18.2 (by decide) (fun _ => rfl) eS_7
  refine gy_lany (fun z37 ez37 az37 bz37 => ?_)
  refine gz_s 2 (pc' := 73) (L' := [some (.ref m), some (.int (zi x)), some (.int (zi y)), some (.int (zi b)), some (.int (zi ((x * hbS) / wd))), some (.int (zi ((y * vbS) / hg))), some (.long (zl z37)), none]) (S' := [.long (zl z37)]) rfl ?_
  refine gz_1 rfl (by decide) rfl rfl (pc' := 76) (S' := [.long (zl 33554432), .long (zl z37)]) (h' := hq18) rfl ?_
  refine gy_s 1 (pc' := 77) (L' := [some (.ref m), some (.int (zi x)), some (.int (zi y)), some (.int (zi b)), some (.int (zi ((x * hbS) / wd))), some (.int (zi ((y * vbS) / hg))), some (.long (zl z37)), none]) (S' := [.long ((zl z37) + (zl 33554432))]) (L2 := [some (.ref m), some (.int (zi x)), some (.int (zi y)), some (.int (zi b)), some (.int (zi ((x * hbS) / wd))), some (.int (zi ((y * vbS) / hg))), some (.long (zl z37)), none]) (S2 := [.long (zl (z37 + 33554432))]) rfl (by simp only [zi_add, zi_sub, zi_mul, zi_neg, zi_and1, zi_and7, zi_and15, zi_and31, zi_and255, zl_add, zl_sub, zl_mul, zl_neg]) (by simp only [zi_add, zi_sub, zi_mul, zi_neg, zi_and1, zi_and7, zi_and15, zi_and31, zi_and255, zl_add, zl_sub, zl_mul, zl_neg]) ?_
  refine gy_lany (fun z38 ez38 az38 bz38 => ?_)
  refine gz_s 1 (pc' := 79) (L' := [some (.ref m), some (.int (zi x)), some (.int (zi y)), some (.int (zi b)), some (.int (zi ((x * hbS) / wd))), some (.int (zi ((y * vbS) / hg))), some (.long (zl z37)), none]) (S' := [.int (zi 26), .long (zl z38)]) rfl ?_
  refine gy_lshr rfl (by decide) (by omega) (by omega) (fun z39 az39 bz39 cz39 => ?_)
  refine gz_1 rfl (by decide) rfl rfl (pc' := 83) (S' := [.long (zl 128), .long (zl z39)]) (h' := hq18) rfl ?_
  refine gy_s 1 (pc' := 84) (L' := [some (.ref m), some (.int (zi x)), some (.int (zi y)), some (.int (zi b)), some (.int (zi ((x * hbS) / wd))), some (.int (zi ((y * vbS) / hg))), some (.long (zl z37)), none]) (S' := [.long ((zl z39) + (zl 128))]) (L2 := [some (.ref m), some (.int (zi x)), some (.int (zi y)), some (.int (zi b)), some (.int (zi ((x * hbS) / wd))), some (.int (zi ((y * vbS) / hg))), some (.long (zl z37)), none]) (S2 := [.long (zl (z39 + 128))]) rfl (by simp only [zi_add, zi_sub, zi_mul, zi_neg, zi_and1, zi_and7, zi_and15, zi_and31, zi_and255, zl_add, zl_sub, zl_mul, zl_neg]) (by simp only [zi_add, zi_sub, zi_mul, zi_neg, zi_and1, zi_and7, zi_and15, zi_and31, zi_and255, zl_add, zl_sub, zl_mul, zl_neg]) ?_
  refine gy_lany (fun z40 ez40 az40 bz40 => ?_)
  refine gz_call rfl (by decide) rfl (by decide) (by decide) (gcal_of rfl rfl rfl (Nat.le_of_ble_eq_true rfl) rfl) (mm_within _ sq18.1 z40 (by omega) ) (fun q41 _ wq41 => ?_)
  obtain ⟨pq41, oq41, hq41⟩ := q41
  obtain ⟨xq41, zq41, gq41, aq41, bq41⟩ := wq41
  refine ⟨_, gq41, ?_⟩
  show gz gPP gGG gcn _ _ 87 [some (.ref m), some (.int (zi x)), some (.int (zi y)), some (.int (zi b)), some (.int (zi ((x * hbS) / wd))), some (.int (zi ((y * vbS) / hg))), some (.long (zl z37)), none] [.int (zi zq41)] hq41 _
  have sq41 := gSs.tr sq18 xq41 (by decide)
  have s42 := (xq41.2.2.2.2.2 m 18 (by rw [tm]; decide)).trans s19
  have s43 := (xq41.2.2.2.2.2 m 19 (by rw [tm]; decide)).trans s20
  have s44 := (xq41.2.2.2.2.2 m 21 (by rw [tm]; decide)).trans s21
  have s45 := (xq41.2.2.2.2.2 m 22 (by rw [tm]; decide)).trans s22
  have s46 := (xq41.2.2.2.2.2 m 20 (by rw [tm]; decide)).trans s23
  have s47 := (xq41.2.2.2.2.2 m 26 (by rw [tm]; decide)).trans s24
  have s48 := (xq41.2.2.2.2.2 m 27 (by rw [tm]; decide)).trans s25
  have s49 := (xq41.2.2.2.2.2 m 33 (by rw [tm]; decide)).trans s26
  have s50 := (xq41.2.2.2.2.2 m 29 (by rw [tm]; decide)).trans s27
  have pr51 := gPic.fr xq41.2 (by decide) pr28
  have pr52 := gEl.fr xq41.2 (by decide) (fun _ => rfl) pr29
  have pr53 := gEl.fr xq41.2 (by decide) (fun _ => rfl) pr30
  have pr54 := gEl.fr xq41.2 (by decide) (fun _ => rfl) pr31
  have pr55 := gEl.fr xq41.2 (by decide) (fun _ => rfl) pr32
  have pr56 := gEl.fr xq41.2 (by decide) (fun _ => rfl) pr33
  have pr57 := gEl.fr xq41.2 (by decide) (fun _ => rfl) pr34
  have pr58 := gEl.fr xq41.2 (by decide) (fun _ => rfl) pr35
  have pr59 := gEl.fr xq41.2 (by decide) (fun _ => rfl) pr36
  exact gz_end (I := .ireturn) (len := 1) rfl (Or.inl rfl) ⟨sq41, zq41, rfl, (by omega), (by omega)⟩
set_option maxRecDepth 20000 in
set_option maxHeartbeats 4000000 in
theorem mm_sample (d : Nat) {ty : Nat → Nat} {h : gH} (hJ : gJ rT 1027 ty h) (m : Nat) (tm : ty m = 1) (x : Int) (rx : (-2147483648) ≤ x ∧ x ≤ 2147483647) (y : Int) (ry : (-2147483648) ≤ y ∧ y ≤ 2147483647) (bd : Int) (rbd : (-2147483648) ≤ bd ∧ bd ≤ 2147483647) (ip : Int) (eip : h.2.2.2.2 m 16 = .int (zi ip)) (rip : 0 ≤ ip ∧ ip ≤ 1) (w : Int) (ew : h.2.2.2.2 m 18 = .int (zi w)) (rw : 0 ≤ w ∧ w ≤ 64) (hh : Int) (ehh : h.2.2.2.2 m 19 = .int (zi hh)) (rhh : 0 ≤ hh ∧ hh ≤ 64) (wd : Int) (ewd : h.2.2.2.2 m 21 = .int (zi wd)) (rwd : 0 ≤ wd ∧ wd ≤ 2) (hg : Int) (ehg : h.2.2.2.2 m 22 = .int (zi hg)) (rhg : 0 ≤ hg ∧ hg ≤ 2) (bs : Int) (ebs : h.2.2.2.2 m 20 = .int (zi bs)) (rbs : 0 ≤ bs ∧ bs ≤ 3) (hypi : gPi ty ip w hh wd hg bs h) : gz gPP gGG gcn (d + 3) gt168 0 (gent [.ref m, .int (zi x), .int (zi y), .int (zi bd)] 8) [] h (fun q _ => gSs rT 1027 ty [1000] h q.2.2 ∧ ∃ z : Int, gfin gt168 q.1 q.2.1 = some (some (.int (zi z))) ∧ (-2147483648) ≤ z ∧ z ≤ 2147483647) := by
  have hS : gSs rT 1027 ty [1000] h h := gSs.rf hJ
  refine gz_s 1 (pc' := 1) (L' := [some (.ref m), some (.int (zi x)), some (.int (zi y)), some (.int (zi bd)), none, none, none, none]) (S' := [.ref m]) rfl ?_
  refine gs_gtk rfl (by decide) rfl hS.1 tm rfl rfl eip ?_
  have jn1 : ∀ (jn1v0 : Int), ((0 ≤ jn1v0) ∧ (jn1v0 ≤ 1) ∧ (jn1v0 = 1 → (ip = 1 ∧ 0 ≤ x ∧ x < w ∧ 0 ≤ y ∧ y < hh ∧ 0 ≤ bd ∧ (bd < bs ∨ (2 < bd ∧ bd < 6))))) → gz gPP gGG gcn (d + 3) gt168 59 [some (.ref m), some (.int (zi x)), some (.int (zi y)), some (.int (zi bd)), none, none, none, none] [.int (zi jn1v0)] h (fun q _ => gSs rT 1027 ty [1000] h q.2.2 ∧ ∃ z : Int, gfin gt168 q.1 q.2.1 = some (some (.int (zi z))) ∧ (-2147483648) ≤ z ∧ z ≤ 2147483647) := by
    intro jn1v0 jn1d
    refine gz_s 3 (pc' := 64) (L' := [some (.ref m), some (.int (zi x)), some (.int (zi y)), some (.int (zi bd)), some (.int (zi jn1v0)), none, none, none]) (S' := [.int (zi jn1v0), .ref m]) rfl ?_
    have jn2 : ∀ (jn2v0 : Int), ((jn2v0 = 1 - jn1v0)) → gz gPP gGG gcn (d + 3) gt168 72 [some (.ref m), some (.int (zi x)), some (.int (zi y)), some (.int (zi bd)), some (.int (zi jn1v0)), none, none, none] [.int (zi jn2v0), .ref m] h (fun q _ => gSs rT 1027 ty [1000] h q.2.2 ∧ ∃ z : Int, gfin gt168 q.1 q.2.1 = some (some (.int (zi z))) ∧ (-2147483648) ≤ z ∧ z ≤ 2147483647) := by
      intro jn2v0 jn2d
      refine gs_put rfl (by decide) rfl hS tm rfl rfl rfl rfl (Or.inl rfl) (by decide) (by omega) (by omega) (fun h3 sh3 eh3 fh3 => ?_)
      have pr4 := gPi.pt fh3 tm (by decide) hypi
      have s5 := (fh3 m 16 (fun q => absurd q.2 (by decide))).trans eip
      have s6 := (fh3 m 18 (fun q => absurd q.2 (by decide))).trans ew
      have s7 := (fh3 m 19 (fun q => absurd q.2 (by decide))).trans ehh
      have s8 := (fh3 m 21 (fun q => absurd q.2 (by decide))).trans ewd
      have s9 := (fh3 m 22 (fun q => absurd q.2 (by decide))).trans ehg
      have s10 := (fh3 m 20 (fun q => absurd q.2 (by decide))).trans ebs
      refine gz_s 1 (pc' := 76) (L' := [some (.ref m), some (.int (zi x)), some (.int (zi y)), some (.int (zi bd)), some (.int (zi jn1v0)), none, none, none]) (S' := [.ref m]) rfl ?_
      refine gs_gtk rfl (by decide) rfl sh3.1 tm rfl rfl eh3 ?_
      by_cases hc11 : (jn2v0 : Int) ≤ 0
      · refine gy_ifT (pc' := 84) rfl (by decide) (by decide) (by omega) hc11 ?_
        have hpc : gPic ty w hh wd hg bs h3 := pr4 (by omega)
        have hpr := hpc.1
        refine gz_s 5 (pc' := 89) (L' := [some (.ref m), some (.int (zi x)), some (.int (zi y)), some (.int (zi bd)), some (.int (zi jn1v0)), none, none, none]) (S' := [.int (zi 3), .int (zi bd), .int (zi y), .int (zi x), .ref m]) rfl ?_
        by_cases hc12 : (3 : Int) ≤ bd
        · refine gy_icT (pc' := 96) rfl (by decide) (by decide) (by omega) (by omega) hc12 ?_
          refine gz_s 1 (pc' := 97) (L' := [some (.ref m), some (.int (zi x)), some (.int (zi y)), some (.int (zi bd)), some (.int (zi jn1v0)), none, none, none]) (S' := [.int (zi 0), .int (zi y), .int (zi x), .ref m]) rfl ?_
          refine gz_call rfl (by decide) rfl (by decide) (by decide) (gcal_of rfl rfl rfl (Nat.le_of_ble_eq_true rfl) (gJ.recv (G := gGG) sh3.1 tm rfl rfl)) (mm_sampleAt _ sh3.1 m tm x (by omega) y (by omega) 0 (by omega) w s6 (by omega) hh s7 (by omega) wd s8 (by omega) hg s9 (by omega) bs s10 (by omega) (by omega) (by omega) (by omega) hpc) (fun q13 _ wq13 => ?_)
          obtain ⟨pq13, oq13, hq13⟩ := q13
          obtain ⟨xq13, zq13, gq13, aq13, bq13⟩ := wq13
          refine ⟨_, gq13, ?_⟩
          show gz gPP gGG gcn _ _ 100 [some (.ref m), some (.int (zi x)), some (.int (zi y)), some (.int (zi bd)), some (.int (zi jn1v0)), none, none, none] [.int (zi zq13)] hq13 _
          have sq13 := gSs.tr sh3 xq13 (by decide)
          have s14 := (xq13.2.2.2.2.2 m 16 (by rw [tm]; decide)).trans s5
          have s15 := (xq13.2.2.2.2.2 m 18 (by rw [tm]; decide)).trans s6
          have s16 := (xq13.2.2.2.2.2 m 19 (by rw [tm]; decide)).trans s7
          have s17 := (xq13.2.2.2.2.2 m 21 (by rw [tm]; decide)).trans s8
          have s18 := (xq13.2.2.2.2.2 m 22 (by rw [tm]; decide)).trans s9
          have s19 := (xq13.2.2.2.2.2 m 20 (by rw [tm]; decide)).trans s10
          have s20 := (xq13.2.2.2.2.2 m 0 (by rw [tm]; decide)).trans eh3
          have pr21 := gPi.fr xq13.2 (by decide) pr4
          have pr22 := gPic.fr xq13.2 (by decide) hpc
          refine gz_s 3 (pc' := 104) (L' := [some (.ref m), some (.int (zi x)), some (.int (zi y)), some (.int (zi bd)), some (.int (zi jn1v0)), some (.int (zi zq13)), none, none]) (S' := [.int (zi 3), .int (zi bd)]) rfl ?_
          refine gy_icF rfl (by decide) (by decide) (by omega) (by omega) (by first | (simp [zc]; done) | (simp only [zc]; omega)) ?_
          refine gz_s 1 (pc' := 108) (L' := [some (.ref m), some (.int (zi x)), some (.int (zi y)), some (.int (zi bd)), some (.int (zi jn1v0)), some (.int (zi zq13)), none, none]) (S' := [.ref m]) rfl ?_
          refine gs_gtk rfl (by decide) rfl sq13.1 tm rfl rfl s19 ?_
          refine gz_s 1 (pc' := 112) (L' := [some (.ref m), some (.int (zi x)), some (.int (zi y)), some (.int (zi bd)), some (.int (zi jn1v0)), some (.int (zi zq13)), none, none]) (S' := [.int (zi 1), .int (zi bs)]) rfl ?_
          by_cases hc23 : ¬ (bs : Int) = 1
          · refine gy_icT (pc' := 118) rfl (by decide) (by decide) (by omega) (by omega) hc23 ?_
            refine gz_s 4 (pc' := 122) (L' := [some (.ref m), some (.int (zi x)), some (.int (zi y)), some (.int (zi bd)), some (.int (zi jn1v0)), some (.int (zi zq13)), none, none]) (S' := [.int (zi 1), .int (zi y), .int (zi x), .ref m]) rfl ?_
            refine gz_call rfl (by decide) rfl (by decide) (by decide) (gcal_of rfl rfl rfl (Nat.le_of_ble_eq_true rfl) (gJ.recv (G := gGG) sq13.1 tm rfl rfl)) (mm_sampleAt _ sq13.1 m tm x (by omega) y (by omega) 1 (by omega) w s15 (by omega) hh s16 (by omega) wd s17 (by omega) hg s18 (by omega) bs s19 (by omega) (by omega) (by omega) (by omega) pr22) (fun q24 _ wq24 => ?_)
            obtain ⟨pq24, oq24, hq24⟩ := q24
            obtain ⟨xq24, zq24, gq24, aq24, bq24⟩ := wq24
            refine ⟨_, gq24, ?_⟩
            show gz gPP gGG gcn _ _ 125 [some (.ref m), some (.int (zi x)), some (.int (zi y)), some (.int (zi bd)), some (.int (zi jn1v0)), some (.int (zi zq13)), none, none] [.int (zi zq24)] hq24 _
            have sq24 := gSs.tr sq13 xq24 (by decide)
            have s25 := (xq24.2.2.2.2.2 m 16 (by rw [tm]; decide)).trans s14
            have s26 := (xq24.2.2.2.2.2 m 18 (by rw [tm]; decide)).trans s15
            have s27 := (xq24.2.2.2.2.2 m 19 (by rw [tm]; decide)).trans s16
            have s28 := (xq24.2.2.2.2.2 m 21 (by rw [tm]; decide)).trans s17
            have s29 := (xq24.2.2.2.2.2 m 22 (by rw [tm]; decide)).trans s18
            have s30 := (xq24.2.2.2.2.2 m 20 (by rw [tm]; decide)).trans s19
            have s31 := (xq24.2.2.2.2.2 m 0 (by rw [tm]; decide)).trans s20
            have pr32 := gPi.fr xq24.2 (by decide) pr21
            have pr33 := gPic.fr xq24.2 (by decide) pr22
            refine gy_s 7 (pc' := 135) (L' := [some (.ref m), some (.int (zi x)), some (.int (zi y)), some (.int (zi bd)), some (.int (zi jn1v0)), some (.int (zi zq13)), some (.int ((zi zq24) - (zi 128))), none]) (S' := [.int (zi 2), .int (zi y), .int (zi x), .ref m]) (L2 := [some (.ref m), some (.int (zi x)), some (.int (zi y)), some (.int (zi bd)), some (.int (zi jn1v0)), some (.int (zi zq13)), some (.int (zi (zq24 - 128))), none]) (S2 := [.int (zi 2), .int (zi y), .int (zi x), .ref m]) rfl (by simp only [zi_add, zi_sub, zi_mul, zi_neg, zi_and1, zi_and7, zi_and15, zi_and31, zi_and255]) (by simp only [zi_add, zi_sub, zi_mul, zi_neg, zi_and1, zi_and7, zi_and15, zi_and31, zi_and255]) ?_
            refine gz_call rfl (by decide) rfl (by decide) (by decide) (gcal_of rfl rfl rfl (Nat.le_of_ble_eq_true rfl) (gJ.recv (G := gGG) sq24.1 tm rfl rfl)) (mm_sampleAt _ sq24.1 m tm x (by omega) y (by omega) 2 (by omega) w s26 (by omega) hh s27 (by omega) wd s28 (by omega) hg s29 (by omega) bs s30 (by omega) (by omega) (by omega) (by omega) pr33) (fun q34 _ wq34 => ?_)
            obtain ⟨pq34, oq34, hq34⟩ := q34
            obtain ⟨xq34, zq34, gq34, aq34, bq34⟩ := wq34
            refine ⟨_, gq34, ?_⟩
            show gz gPP gGG gcn _ _ 138 [some (.ref m), some (.int (zi x)), some (.int (zi y)), some (.int (zi bd)), some (.int (zi jn1v0)), some (.int (zi zq13)), some (.int (zi (zq24 - 128))), none] [.int (zi zq34)] hq34 _
            have sq34 := gSs.tr sq24 xq34 (by decide)
            have s35 := (xq34.2.2.2.2.2 m 16 (by rw [tm]; decide)).trans s25
            have s36 := (xq34.2.2.2.2.2 m 18 (by rw [tm]; decide)).trans s26
            have s37 := (xq34.2.2.2.2.2 m 19 (by rw [tm]; decide)).trans s27
            have s38 := (xq34.2.2.2.2.2 m 21 (by rw [tm]; decide)).trans s28
            have s39 := (xq34.2.2.2.2.2 m 22 (by rw [tm]; decide)).trans s29
            have s40 := (xq34.2.2.2.2.2 m 20 (by rw [tm]; decide)).trans s30
            have s41 := (xq34.2.2.2.2.2 m 0 (by rw [tm]; decide)).trans s31
            have pr42 := gPi.fr xq34.2 (by decide) pr32
            have pr43 := gPic.fr xq34.2 (by decide) pr33
            refine gy_s 5 (pc' := 146) (L' := [some (.ref m), some (.int (zi x)), some (.int (zi y)), some (.int (zi bd)), some (.int (zi jn1v0)), some (.int (zi zq13)), some (.int (zi (zq24 - 128))), some (.int ((zi zq34) - (zi 128)))]) (S' := [.int (zi 4), .int (zi bd)]) (L2 := [some (.ref m), some (.int (zi x)), some (.int (zi y)), some (.int (zi bd)), some (.int (zi jn1v0)), some (.int (zi zq13)), some (.int (zi (zq24 - 128))), some (.int (zi (zq34 - 128)))]) (S2 := [.int (zi 4), .int (zi bd)]) rfl (by simp only [zi_add, zi_sub, zi_mul, zi_neg, zi_and1, zi_and7, zi_and15, zi_and31, zi_and255]) (by simp only [zi_add, zi_sub, zi_mul, zi_neg, zi_and1, zi_and7, zi_and15, zi_and31, zi_and255]) ?_
            by_cases hc44 : ¬ (bd : Int) = 4
            · refine gy_icT (pc' := 177) rfl (by decide) (by decide) (by omega) (by omega) hc44 ?_
              refine gz_s 3 (pc' := 181) (L' := [some (.ref m), some (.int (zi x)), some (.int (zi y)), some (.int (zi bd)), some (.int (zi jn1v0)), some (.int (zi zq13)), some (.int (zi (zq24 - 128))), some (.int (zi (zq34 - 128)))]) (S' := [.int (zi 3), .int (zi bd), .int (zi zq13)]) rfl ?_
              by_cases hc45 : ¬ (bd : Int) = 3
              · refine gy_icT (pc' := 193) rfl (by decide) (by decide) (by omega) (by omega) hc45 ?_
                refine gz_1 rfl (by decide) rfl rfl (pc' := 196) (S' := [.int (zi 116130), .int (zi zq13)]) (h' := hq34) rfl ?_
                refine gy_s 2 (pc' := 199) (L' := [some (.ref m), some (.int (zi x)), some (.int (zi y)), some (.int (zi bd)), some (.int (zi jn1v0)), some (.int (zi zq13)), some (.int (zi (zq24 - 128))), some (.int (zi (zq34 - 128)))]) (S' := [.int ((zi 116130) * (zi (zq24 - 128))), .int (zi zq13)]) (L2 := [some (.ref m), some (.int (zi x)), some (.int (zi y)), some (.int (zi bd)), some (.int (zi jn1v0)), some (.int (zi zq13)), some (.int (zi (zq24 - 128))), some (.int (zi (zq34 - 128)))]) (S2 := [.int (zi (116130 * (zq24 - 128))), .int (zi zq13)]) rfl (by simp only [zi_add, zi_sub, zi_mul, zi_neg, zi_and1, zi_and7, zi_and15, zi_and31, zi_and255]) (by simp only [zi_add, zi_sub, zi_mul, zi_neg, zi_and1, zi_and7, zi_and15, zi_and31, zi_and255]) ?_
                refine gz_1 rfl (by decide) rfl rfl (pc' := 202) (S' := [.int (zi 32768), .int (zi (116130 * (zq24 - 128))), .int (zi zq13)]) (h' := hq34) rfl ?_
                refine gy_s 2 (pc' := 205) (L' := [some (.ref m), some (.int (zi x)), some (.int (zi y)), some (.int (zi bd)), some (.int (zi jn1v0)), some (.int (zi zq13)), some (.int (zi (zq24 - 128))), some (.int (zi (zq34 - 128)))]) (S' := [.int (zi 16), .int ((zi (116130 * (zq24 - 128))) + (zi 32768)), .int (zi zq13)]) (L2 := [some (.ref m), some (.int (zi x)), some (.int (zi y)), some (.int (zi bd)), some (.int (zi jn1v0)), some (.int (zi zq13)), some (.int (zi (zq24 - 128))), some (.int (zi (zq34 - 128)))]) (S2 := [.int (zi 16), .int (zi ((116130 * (zq24 - 128)) + 32768)), .int (zi zq13)]) rfl (by simp only [zi_add, zi_sub, zi_mul, zi_neg, zi_and1, zi_and7, zi_and15, zi_and31, zi_and255]) (by simp only [zi_add, zi_sub, zi_mul, zi_neg, zi_and1, zi_and7, zi_and15, zi_and31, zi_and255]) ?_
                refine gy_shv rfl (by decide) (by omega) (by omega) (fun z46 az46 bz46 => ?_)
                refine gy_s 1 (pc' := 207) (L' := [some (.ref m), some (.int (zi x)), some (.int (zi y)), some (.int (zi bd)), some (.int (zi jn1v0)), some (.int (zi zq13)), some (.int (zi (zq24 - 128))), some (.int (zi (zq34 - 128)))]) (S' := [.int ((zi zq13) + (zi z46))]) (L2 := [some (.ref m), some (.int (zi x)), some (.int (zi y)), some (.int (zi bd)), some (.int (zi jn1v0)), some (.int (zi zq13)), some (.int (zi (zq24 - 128))), some (.int (zi (zq34 - 128)))]) (S2 := [.int (zi (zq13 + z46))]) rfl (by simp only [zi_add, zi_sub, zi_mul, zi_neg, zi_and1, zi_and7, zi_and15, zi_and31, zi_and255]) (by simp only [zi_add, zi_sub, zi_mul, zi_neg, zi_and1, zi_and7, zi_and15, zi_and31, zi_and255]) ?_
                refine gy_i2l rfl (by decide) (by omega) ?_
                refine gz_call rfl (by decide) rfl (by decide) (by decide) (gcal_of rfl rfl rfl (Nat.le_of_ble_eq_true rfl) rfl) (mm_within _ sq34.1 (zq13 + z46) (by omega) ) (fun q47 _ wq47 => ?_)
                obtain ⟨pq47, oq47, hq47⟩ := q47
                obtain ⟨xq47, zq47, gq47, aq47, bq47⟩ := wq47
                refine ⟨_, gq47, ?_⟩
                show gz gPP gGG gcn _ _ 211 [some (.ref m), some (.int (zi x)), some (.int (zi y)), some (.int (zi bd)), some (.int (zi jn1v0)), some (.int (zi zq13)), some (.int (zi (zq24 - 128))), some (.int (zi (zq34 - 128)))] [.int (zi zq47)] hq47 _
                have sq47 := gSs.tr sq34 xq47 (by decide)
                have s48 := (xq47.2.2.2.2.2 m 16 (by rw [tm]; decide)).trans s35
                have s49 := (xq47.2.2.2.2.2 m 18 (by rw [tm]; decide)).trans s36
                have s50 := (xq47.2.2.2.2.2 m 19 (by rw [tm]; decide)).trans s37
                have s51 := (xq47.2.2.2.2.2 m 21 (by rw [tm]; decide)).trans s38
                have s52 := (xq47.2.2.2.2.2 m 22 (by rw [tm]; decide)).trans s39
                have s53 := (xq47.2.2.2.2.2 m 20 (by rw [tm]; decide)).trans s40
                have s54 := (xq47.2.2.2.2.2 m 0 (by rw [tm]; decide)).trans s41
                have pr55 := gPi.fr xq47.2 (by decide) pr42
                have pr56 := gPic.fr xq47.2 (by decide) pr43
                exact gz_end (I := .ireturn) (len := 1) rfl (Or.inl rfl) ⟨sq47, zq47, rfl, (by omega), (by omega)⟩
              · refine gy_icF rfl (by decide) (by decide) (by omega) (by omega) hc45 ?_
                refine gz_1 rfl (by decide) rfl rfl (pc' := 187) (S' := [.int (zi 91881), .int (zi zq13)]) (h' := hq34) rfl ?_
                refine gy_s 3 (pc' := 199) (L' := [some (.ref m), some (.int (zi x)), some (.int (zi y)), some (.int (zi bd)), some (.int (zi jn1v0)), some (.int (zi zq13)), some (.int (zi (zq24 - 128))), some (.int (zi (zq34 - 128)))]) (S' := [.int ((zi 91881) * (zi (zq34 - 128))), .int (zi zq13)]) (L2 := [some (.ref m), some (.int (zi x)), some (.int (zi y)), some (.int (zi bd)), some (.int (zi jn1v0)), some (.int (zi zq13)), some (.int (zi (zq24 - 128))), some (.int (zi (zq34 - 128)))]) (S2 := [.int (zi (91881 * (zq34 - 128))), .int (zi zq13)]) rfl (by simp only [zi_add, zi_sub, zi_mul, zi_neg, zi_and1, zi_and7, zi_and15, zi_and31, zi_and255]) (by simp only [zi_add, zi_sub, zi_mul, zi_neg, zi_and1, zi_and7, zi_and15, zi_and31, zi_and255]) ?_
                refine gz_1 rfl (by decide) rfl rfl (pc' := 202) (S' := [.int (zi 32768), .int (zi (91881 * (zq34 - 128))), .int (zi zq13)]) (h' := hq34) rfl ?_
                refine gy_s 2 (pc' := 205) (L' := [some (.ref m), some (.int (zi x)), some (.int (zi y)), some (.int (zi bd)), some (.int (zi jn1v0)), some (.int (zi zq13)), some (.int (zi (zq24 - 128))), some (.int (zi (zq34 - 128)))]) (S' := [.int (zi 16), .int ((zi (91881 * (zq34 - 128))) + (zi 32768)), .int (zi zq13)]) (L2 := [some (.ref m), some (.int (zi x)), some (.int (zi y)), some (.int (zi bd)), some (.int (zi jn1v0)), some (.int (zi zq13)), some (.int (zi (zq24 - 128))), some (.int (zi (zq34 - 128)))]) (S2 := [.int (zi 16), .int (zi ((91881 * (zq34 - 128)) + 32768)), .int (zi zq13)]) rfl (by simp only [zi_add, zi_sub, zi_mul, zi_neg, zi_and1, zi_and7, zi_and15, zi_and31, zi_and255]) (by simp only [zi_add, zi_sub, zi_mul, zi_neg, zi_and1, zi_and7, zi_and15, zi_and31, zi_and255]) ?_
                refine gy_shv rfl (by decide) (by omega) (by omega) (fun z57 az57 bz57 => ?_)
                refine gy_s 1 (pc' := 207) (L' := [some (.ref m), some (.int (zi x)), some (.int (zi y)), some (.int (zi bd)), some (.int (zi jn1v0)), some (.int (zi zq13)), some (.int (zi (zq24 - 128))), some (.int (zi (zq34 - 128)))]) (S' := [.int ((zi zq13) + (zi z57))]) (L2 := [some (.ref m), some (.int (zi x)), some (.int (zi y)), some (.int (zi bd)), some (.int (zi jn1v0)), some (.int (zi zq13)), some (.int (zi (zq24 - 128))), some (.int (zi (zq34 - 128)))]) (S2 := [.int (zi (zq13 + z57))]) rfl (by simp only [zi_add, zi_sub, zi_mul, zi_neg, zi_and1, zi_and7, zi_and15, zi_and31, zi_and255]) (by simp only [zi_add, zi_sub, zi_mul, zi_neg, zi_and1, zi_and7, zi_and15, zi_and31, zi_and255]) ?_
                refine gy_i2l rfl (by decide) (by omega) ?_
                refine gz_call rfl (by decide) rfl (by decide) (by decide) (gcal_of rfl rfl rfl (Nat.le_of_ble_eq_true rfl) rfl) (mm_within _ sq34.1 (zq13 + z57) (by omega) ) (fun q58 _ wq58 => ?_)
                obtain ⟨pq58, oq58, hq58⟩ := q58
                obtain ⟨xq58, zq58, gq58, aq58, bq58⟩ := wq58
                refine ⟨_, gq58, ?_⟩
                show gz gPP gGG gcn _ _ 211 [some (.ref m), some (.int (zi x)), some (.int (zi y)), some (.int (zi bd)), some (.int (zi jn1v0)), some (.int (zi zq13)), some (.int (zi (zq24 - 128))), some (.int (zi (zq34 - 128)))] [.int (zi zq58)] hq58 _
                have sq58 := gSs.tr sq34 xq58 (by decide)
                have s59 := (xq58.2.2.2.2.2 m 16 (by rw [tm]; decide)).trans s35
                have s60 := (xq58.2.2.2.2.2 m 18 (by rw [tm]; decide)).trans s36
                have s61 := (xq58.2.2.2.2.2 m 19 (by rw [tm]; decide)).trans s37
                have s62 := (xq58.2.2.2.2.2 m 21 (by rw [tm]; decide)).trans s38
                have s63 := (xq58.2.2.2.2.2 m 22 (by rw [tm]; decide)).trans s39
                have s64 := (xq58.2.2.2.2.2 m 20 (by rw [tm]; decide)).trans s40
                have s65 := (xq58.2.2.2.2.2 m 0 (by rw [tm]; decide)).trans s41
                have pr66 := gPi.fr xq58.2 (by decide) pr42
                have pr67 := gPic.fr xq58.2 (by decide) pr43
                exact gz_end (I := .ireturn) (len := 1) rfl (Or.inl rfl) ⟨sq58, zq58, rfl, (by omega), (by omega)⟩
            · refine gy_icF rfl (by decide) (by decide) (by omega) (by omega) hc44 ?_
              refine gy_s 4 (pc' := 157) (L' := [some (.ref m), some (.int (zi x)), some (.int (zi y)), some (.int (zi bd)), some (.int (zi jn1v0)), some (.int (zi zq13)), some (.int (zi (zq24 - 128))), some (.int (zi (zq34 - 128)))]) (S' := [.int ((zi 22554) * (zi (zq24 - 128))), .int (zi zq13)]) (L2 := [some (.ref m), some (.int (zi x)), some (.int (zi y)), some (.int (zi bd)), some (.int (zi jn1v0)), some (.int (zi zq13)), some (.int (zi (zq24 - 128))), some (.int (zi (zq34 - 128)))]) (S2 := [.int (zi (22554 * (zq24 - 128))), .int (zi zq13)]) rfl (by simp only [zi_add, zi_sub, zi_mul, zi_neg, zi_and1, zi_and7, zi_and15, zi_and31, zi_and255]) (by simp only [zi_add, zi_sub, zi_mul, zi_neg, zi_and1, zi_and7, zi_and15, zi_and31, zi_and255]) ?_
              refine gz_1 rfl (by decide) rfl rfl (pc' := 160) (S' := [.int (zi 46802), .int (zi (22554 * (zq24 - 128))), .int (zi zq13)]) (h' := hq34) rfl ?_
              refine gy_s 3 (pc' := 164) (L' := [some (.ref m), some (.int (zi x)), some (.int (zi y)), some (.int (zi bd)), some (.int (zi jn1v0)), some (.int (zi zq13)), some (.int (zi (zq24 - 128))), some (.int (zi (zq34 - 128)))]) (S' := [.int ((zi (22554 * (zq24 - 128))) + ((zi 46802) * (zi (zq34 - 128)))), .int (zi zq13)]) (L2 := [some (.ref m), some (.int (zi x)), some (.int (zi y)), some (.int (zi bd)), some (.int (zi jn1v0)), some (.int (zi zq13)), some (.int (zi (zq24 - 128))), some (.int (zi (zq34 - 128)))]) (S2 := [.int (zi ((22554 * (zq24 - 128)) + (46802 * (zq34 - 128)))), .int (zi zq13)]) rfl (by simp only [zi_add, zi_sub, zi_mul, zi_neg, zi_and1, zi_and7, zi_and15, zi_and31, zi_and255]) (by simp only [zi_add, zi_sub, zi_mul, zi_neg, zi_and1, zi_and7, zi_and15, zi_and31, zi_and255]) ?_
              refine gz_1 rfl (by decide) rfl rfl (pc' := 167) (S' := [.int (zi 32768), .int (zi ((22554 * (zq24 - 128)) + (46802 * (zq34 - 128)))), .int (zi zq13)]) (h' := hq34) rfl ?_
              refine gy_s 2 (pc' := 170) (L' := [some (.ref m), some (.int (zi x)), some (.int (zi y)), some (.int (zi bd)), some (.int (zi jn1v0)), some (.int (zi zq13)), some (.int (zi (zq24 - 128))), some (.int (zi (zq34 - 128)))]) (S' := [.int (zi 16), .int ((zi ((22554 * (zq24 - 128)) + (46802 * (zq34 - 128)))) + (zi 32768)), .int (zi zq13)]) (L2 := [some (.ref m), some (.int (zi x)), some (.int (zi y)), some (.int (zi bd)), some (.int (zi jn1v0)), some (.int (zi zq13)), some (.int (zi (zq24 - 128))), some (.int (zi (zq34 - 128)))]) (S2 := [.int (zi 16), .int (zi (((22554 * (zq24 - 128)) + (46802 * (zq34 - 128))) + 32768)), .int (zi zq13)]) rfl (by simp only [zi_add, zi_sub, zi_mul, zi_neg, zi_and1, zi_and7, zi_and15, zi_and31, zi_and255]) (by simp only [zi_add, zi_sub, zi_mul, zi_neg, zi_and1, zi_and7, zi_and15, zi_and31, zi_and255]) ?_
              refine gy_shv rfl (by decide) (by omega) (by omega) (fun z68 az68 bz68 => ?_)
              refine gy_s 1 (pc' := 172) (L' := [some (.ref m), some (.int (zi x)), some (.int (zi y)), some (.int (zi bd)), some (.int (zi jn1v0)), some (.int (zi zq13)), some (.int (zi (zq24 - 128))), some (.int (zi (zq34 - 128)))]) (S' := [.int ((zi zq13) - (zi z68))]) (L2 := [some (.ref m), some (.int (zi x)), some (.int (zi y)), some (.int (zi bd)), some (.int (zi jn1v0)), some (.int (zi zq13)), some (.int (zi (zq24 - 128))), some (.int (zi (zq34 - 128)))]) (S2 := [.int (zi (zq13 - z68))]) rfl (by simp only [zi_add, zi_sub, zi_mul, zi_neg, zi_and1, zi_and7, zi_and15, zi_and31, zi_and255]) (by simp only [zi_add, zi_sub, zi_mul, zi_neg, zi_and1, zi_and7, zi_and15, zi_and31, zi_and255]) ?_
              refine gy_i2l rfl (by decide) (by omega) ?_
              refine gz_call rfl (by decide) rfl (by decide) (by decide) (gcal_of rfl rfl rfl (Nat.le_of_ble_eq_true rfl) rfl) (mm_within _ sq34.1 (zq13 - z68) (by omega) ) (fun q69 _ wq69 => ?_)
              obtain ⟨pq69, oq69, hq69⟩ := q69
              obtain ⟨xq69, zq69, gq69, aq69, bq69⟩ := wq69
              refine ⟨_, gq69, ?_⟩
              show gz gPP gGG gcn _ _ 176 [some (.ref m), some (.int (zi x)), some (.int (zi y)), some (.int (zi bd)), some (.int (zi jn1v0)), some (.int (zi zq13)), some (.int (zi (zq24 - 128))), some (.int (zi (zq34 - 128)))] [.int (zi zq69)] hq69 _
              have sq69 := gSs.tr sq34 xq69 (by decide)
              have s70 := (xq69.2.2.2.2.2 m 16 (by rw [tm]; decide)).trans s35
              have s71 := (xq69.2.2.2.2.2 m 18 (by rw [tm]; decide)).trans s36
              have s72 := (xq69.2.2.2.2.2 m 19 (by rw [tm]; decide)).trans s37
              have s73 := (xq69.2.2.2.2.2 m 21 (by rw [tm]; decide)).trans s38
              have s74 := (xq69.2.2.2.2.2 m 22 (by rw [tm]; decide)).trans s39
              have s75 := (xq69.2.2.2.2.2 m 20 (by rw [tm]; decide)).trans s40
              have s76 := (xq69.2.2.2.2.2 m 0 (by rw [tm]; decide)).trans s41
              have pr77 := gPi.fr xq69.2 (by decide) pr42
              have pr78 := gPic.fr xq69.2 (by decide) pr43
              exact gz_end (I := .ireturn) (len := 1) rfl (Or.inl rfl) ⟨sq69, zq69, rfl, (by omega), (by omega)⟩
          · refine gy_icF rfl (by decide) (by decide) (by omega) (by omega) hc23 ?_
            refine gz_s 1 (pc' := 117) (L' := [some (.ref m), some (.int (zi x)), some (.int (zi y)), some (.int (zi bd)), some (.int (zi jn1v0)), some (.int (zi zq13)), none, none]) (S' := [.int (zi zq13)]) rfl ?_
            exact gz_end (I := .ireturn) (len := 1) rfl (Or.inl rfl) ⟨sq13, zq13, rfl, (by omega), (by omega)⟩
        · refine gy_icF rfl (by decide) (by decide) (by omega) (by omega) hc12 ?_
          refine gz_s 2 (pc' := 97) (L' := [some (.ref m), some (.int (zi x)), some (.int (zi y)), some (.int (zi bd)), some (.int (zi jn1v0)), none, none, none]) (S' := [.int (zi bd), .int (zi y), .int (zi x), .ref m]) rfl ?_
          refine gz_call rfl (by decide) rfl (by decide) (by decide) (gcal_of rfl rfl rfl (Nat.le_of_ble_eq_true rfl) (gJ.recv (G := gGG) sh3.1 tm rfl rfl)) (mm_sampleAt _ sh3.1 m tm x (by omega) y (by omega) bd (by omega) w s6 (by omega) hh s7 (by omega) wd s8 (by omega) hg s9 (by omega) bs s10 (by omega) (by omega) (by omega) (by omega) hpc) (fun q79 _ wq79 => ?_)
          obtain ⟨pq79, oq79, hq79⟩ := q79
          obtain ⟨xq79, zq79, gq79, aq79, bq79⟩ := wq79
          refine ⟨_, gq79, ?_⟩
          show gz gPP gGG gcn _ _ 100 [some (.ref m), some (.int (zi x)), some (.int (zi y)), some (.int (zi bd)), some (.int (zi jn1v0)), none, none, none] [.int (zi zq79)] hq79 _
          have sq79 := gSs.tr sh3 xq79 (by decide)
          have s80 := (xq79.2.2.2.2.2 m 16 (by rw [tm]; decide)).trans s5
          have s81 := (xq79.2.2.2.2.2 m 18 (by rw [tm]; decide)).trans s6
          have s82 := (xq79.2.2.2.2.2 m 19 (by rw [tm]; decide)).trans s7
          have s83 := (xq79.2.2.2.2.2 m 21 (by rw [tm]; decide)).trans s8
          have s84 := (xq79.2.2.2.2.2 m 22 (by rw [tm]; decide)).trans s9
          have s85 := (xq79.2.2.2.2.2 m 20 (by rw [tm]; decide)).trans s10
          have s86 := (xq79.2.2.2.2.2 m 0 (by rw [tm]; decide)).trans eh3
          have pr87 := gPi.fr xq79.2 (by decide) pr4
          have pr88 := gPic.fr xq79.2 (by decide) hpc
          refine gz_s 3 (pc' := 104) (L' := [some (.ref m), some (.int (zi x)), some (.int (zi y)), some (.int (zi bd)), some (.int (zi jn1v0)), some (.int (zi zq79)), none, none]) (S' := [.int (zi 3), .int (zi bd)]) rfl ?_
          refine gy_icT (pc' := 115) rfl (by decide) (by decide) (by omega) (by omega) (by first | (simp [zc]; done) | (simp only [zc]; omega)) ?_
          refine gz_s 1 (pc' := 117) (L' := [some (.ref m), some (.int (zi x)), some (.int (zi y)), some (.int (zi bd)), some (.int (zi jn1v0)), some (.int (zi zq79)), none, none]) (S' := [.int (zi zq79)]) rfl ?_
          exact gz_end (I := .ireturn) (len := 1) rfl (Or.inl rfl) ⟨sq79, zq79, rfl, (by omega), (by omega)⟩
      · refine gy_ifF rfl (by decide) (by decide) (by omega) hc11 ?_
        refine gz_s 1 (pc' := 83) (L' := [some (.ref m), some (.int (zi x)), some (.int (zi y)), some (.int (zi bd)), some (.int (zi jn1v0)), none, none, none]) (S' := [.int (zi 0)]) rfl ?_
        exact gz_end (I := .ireturn) (len := 1) rfl (Or.inl rfl) ⟨sh3, 0, rfl, (by omega), (by omega)⟩
    by_cases hc89 : (jn1v0 : Int) = 0
    · refine gy_ifT (pc' := 71) rfl (by decide) (by decide) (by omega) hc89 ?_
      refine gz_s 1 (pc' := 72) (L' := [some (.ref m), some (.int (zi x)), some (.int (zi y)), some (.int (zi bd)), some (.int (zi jn1v0)), none, none, none]) (S' := [.int (zi 1), .ref m]) rfl ?_
      exact jn2 1 (by omega)
    · refine gy_ifF rfl (by decide) (by decide) (by omega) hc89 ?_
      refine gz_s 2 (pc' := 72) (L' := [some (.ref m), some (.int (zi x)), some (.int (zi y)), some (.int (zi bd)), some (.int (zi jn1v0)), none, none, none]) (S' := [.int (zi 0), .ref m]) rfl ?_
      exact jn2 0 (by omega)
  by_cases hc90 : (ip : Int) = 0
  · refine gy_ifT (pc' := 58) rfl (by decide) (by decide) (by omega) hc90 ?_
    refine gz_s 1 (pc' := 59) (L' := [some (.ref m), some (.int (zi x)), some (.int (zi y)), some (.int (zi bd)), none, none, none, none]) (S' := [.int (zi 0)]) rfl ?_
    exact jn1 0 (by omega)
  · refine gy_ifF rfl (by decide) (by decide) (by omega) hc90 ?_
    refine gz_s 1 (pc' := 8) (L' := [some (.ref m), some (.int (zi x)), some (.int (zi y)), some (.int (zi bd)), none, none, none, none]) (S' := [.int (zi x)]) rfl ?_
    by_cases hc91 : (x : Int) < 0
    · refine gy_ifT (pc' := 58) rfl (by decide) (by decide) (by omega) hc91 ?_
      refine gz_s 1 (pc' := 59) (L' := [some (.ref m), some (.int (zi x)), some (.int (zi y)), some (.int (zi bd)), none, none, none, none]) (S' := [.int (zi 0)]) rfl ?_
      exact jn1 0 (by omega)
    · refine gy_ifF rfl (by decide) (by decide) (by omega) hc91 ?_
      refine gz_s 2 (pc' := 13) (L' := [some (.ref m), some (.int (zi x)), some (.int (zi y)), some (.int (zi bd)), none, none, none, none]) (S' := [.ref m, .int (zi x)]) rfl ?_
      refine gs_gtk rfl (by decide) rfl hS.1 tm rfl rfl ew ?_
      by_cases hc92 : (w : Int) ≤ x
      · refine gy_icT (pc' := 58) rfl (by decide) (by decide) (by omega) (by omega) hc92 ?_
        refine gz_s 1 (pc' := 59) (L' := [some (.ref m), some (.int (zi x)), some (.int (zi y)), some (.int (zi bd)), none, none, none, none]) (S' := [.int (zi 0)]) rfl ?_
        exact jn1 0 (by omega)
      · refine gy_icF rfl (by decide) (by decide) (by omega) (by omega) hc92 ?_
        refine gz_s 1 (pc' := 20) (L' := [some (.ref m), some (.int (zi x)), some (.int (zi y)), some (.int (zi bd)), none, none, none, none]) (S' := [.int (zi y)]) rfl ?_
        by_cases hc93 : (y : Int) < 0
        · refine gy_ifT (pc' := 58) rfl (by decide) (by decide) (by omega) hc93 ?_
          refine gz_s 1 (pc' := 59) (L' := [some (.ref m), some (.int (zi x)), some (.int (zi y)), some (.int (zi bd)), none, none, none, none]) (S' := [.int (zi 0)]) rfl ?_
          exact jn1 0 (by omega)
        · refine gy_ifF rfl (by decide) (by decide) (by omega) hc93 ?_
          refine gz_s 2 (pc' := 25) (L' := [some (.ref m), some (.int (zi x)), some (.int (zi y)), some (.int (zi bd)), none, none, none, none]) (S' := [.ref m, .int (zi y)]) rfl ?_
          refine gs_gtk rfl (by decide) rfl hS.1 tm rfl rfl ehh ?_
          by_cases hc94 : (hh : Int) ≤ y
          · refine gy_icT (pc' := 58) rfl (by decide) (by decide) (by omega) (by omega) hc94 ?_
            refine gz_s 1 (pc' := 59) (L' := [some (.ref m), some (.int (zi x)), some (.int (zi y)), some (.int (zi bd)), none, none, none, none]) (S' := [.int (zi 0)]) rfl ?_
            exact jn1 0 (by omega)
          · refine gy_icF rfl (by decide) (by decide) (by omega) (by omega) hc94 ?_
            refine gz_s 1 (pc' := 32) (L' := [some (.ref m), some (.int (zi x)), some (.int (zi y)), some (.int (zi bd)), none, none, none, none]) (S' := [.int (zi bd)]) rfl ?_
            by_cases hc95 : (bd : Int) < 0
            · refine gy_ifT (pc' := 58) rfl (by decide) (by decide) (by omega) hc95 ?_
              refine gz_s 1 (pc' := 59) (L' := [some (.ref m), some (.int (zi x)), some (.int (zi y)), some (.int (zi bd)), none, none, none, none]) (S' := [.int (zi 0)]) rfl ?_
              exact jn1 0 (by omega)
            · refine gy_ifF rfl (by decide) (by decide) (by omega) hc95 ?_
              refine gz_s 2 (pc' := 37) (L' := [some (.ref m), some (.int (zi x)), some (.int (zi y)), some (.int (zi bd)), none, none, none, none]) (S' := [.ref m, .int (zi bd)]) rfl ?_
              refine gs_gtk rfl (by decide) rfl hS.1 tm rfl rfl ebs ?_
              by_cases hc96 : (bd : Int) < bs
              · refine gy_icT (pc' := 54) rfl (by decide) (by decide) (by omega) (by omega) hc96 ?_
                refine gz_s 2 (pc' := 59) (L' := [some (.ref m), some (.int (zi x)), some (.int (zi y)), some (.int (zi bd)), none, none, none, none]) (S' := [.int (zi 1)]) rfl ?_
                exact jn1 1 (by omega)
              · refine gy_icF rfl (by decide) (by decide) (by omega) (by omega) hc96 ?_
                refine gz_s 2 (pc' := 45) (L' := [some (.ref m), some (.int (zi x)), some (.int (zi y)), some (.int (zi bd)), none, none, none, none]) (S' := [.int (zi 2), .int (zi bd)]) rfl ?_
                by_cases hc97 : (bd : Int) ≤ 2
                · refine gy_icT (pc' := 58) rfl (by decide) (by decide) (by omega) (by omega) hc97 ?_
                  refine gz_s 1 (pc' := 59) (L' := [some (.ref m), some (.int (zi x)), some (.int (zi y)), some (.int (zi bd)), none, none, none, none]) (S' := [.int (zi 0)]) rfl ?_
                  exact jn1 0 (by omega)
                · refine gy_icF rfl (by decide) (by decide) (by omega) (by omega) hc97 ?_
                  refine gz_s 2 (pc' := 51) (L' := [some (.ref m), some (.int (zi x)), some (.int (zi y)), some (.int (zi bd)), none, none, none, none]) (S' := [.int (zi 6), .int (zi bd)]) rfl ?_
                  by_cases hc98 : (6 : Int) ≤ bd
                  · refine gy_icT (pc' := 58) rfl (by decide) (by decide) (by omega) (by omega) hc98 ?_
                    refine gz_s 1 (pc' := 59) (L' := [some (.ref m), some (.int (zi x)), some (.int (zi y)), some (.int (zi bd)), none, none, none, none]) (S' := [.int (zi 0)]) rfl ?_
                    exact jn1 0 (by omega)
                  · refine gy_icF rfl (by decide) (by decide) (by omega) (by omega) hc98 ?_
                    refine gz_s 2 (pc' := 59) (L' := [some (.ref m), some (.int (zi x)), some (.int (zi y)), some (.int (zi bd)), none, none, none, none]) (S' := [.int (zi 1)]) rfl ?_
                    exact jn1 1 (by omega)
set_option maxRecDepth 20000 in
set_option maxHeartbeats 4000000 in
theorem mm_exact (d : Nat) {ty : Nat → Nat} {h : gH} (hJ : gJ rT 1027 ty h) (m : Nat) (tm : ty m = 1) (b : Int) (rb : (-2147483648) ≤ b ∧ b ≤ 2147483647) (i : Int) (ri : (-2147483648) ≤ i ∧ i ≤ 2147483647) (ip : Int) (eip : h.2.2.2.2 m 16 = .int (zi ip)) (rip : 0 ≤ ip ∧ ip ≤ 1) (w : Int) (ew : h.2.2.2.2 m 18 = .int (zi w)) (rw : 0 ≤ w ∧ w ≤ 64) (hh : Int) (ehh : h.2.2.2.2 m 19 = .int (zi hh)) (rhh : 0 ≤ hh ∧ hh ≤ 64) (wd : Int) (ewd : h.2.2.2.2 m 21 = .int (zi wd)) (rwd : 0 ≤ wd ∧ wd ≤ 2) (hg : Int) (ehg : h.2.2.2.2 m 22 = .int (zi hg)) (rhg : 0 ≤ hg ∧ hg ≤ 2) (bs : Int) (ebs : h.2.2.2.2 m 20 = .int (zi bs)) (rbs : 0 ≤ bs ∧ bs ≤ 3) (bl : Int) (ebl : h.2.2.2.2 m 23 = .int (zi bl)) (rbl : 0 ≤ bl ∧ bl ≤ 192) (hypi : gPi ty ip w hh wd hg bs h) : gz gPP gGG gcn (d + 2) gt176 0 (gent [.ref m, .int (zi b), .int (zi i)] 3) [] h (fun q _ => gSs rT 1027 ty [1000] h q.2.2 ∧ ∃ z : Int, gfin gt176 q.1 q.2.1 = some (some (.long (zl z))) ∧ (-9223372036854775808) ≤ z ∧ z ≤ 9223372036854775807) := by
  have hS : gSs rT 1027 ty [1000] h h := gSs.rf hJ
  refine gz_s 4 (pc' := 4) (L' := [some (.ref m), some (.int (zi b)), some (.int (zi i))]) (S' := [.int (zi i), .int (zi b), .ref m, .ref m]) rfl ?_
  refine gz_call rfl (by decide) rfl (by decide) (by decide) (gcal_of rfl rfl rfl (Nat.le_of_ble_eq_true rfl) (gJ.recv (G := gGG) hS.1 tm rfl rfl)) (mm_isBlock _ hS.1 m tm b (by omega) i (by omega) ip eip (by omega) bl ebl (by omega)) (fun q1 _ wq1 => ?_)
  obtain ⟨pq1, oq1, hq1⟩ := q1
  obtain ⟨xq1, zq1, gq1, aq1, bq1, uq1_0⟩ := wq1
  refine ⟨_, gq1, ?_⟩
  show gz gPP gGG gcn _ _ 7 [some (.ref m), some (.int (zi b)), some (.int (zi i))] [.int (zi zq1), .ref m] hq1 _
  have sq1 := gSs.tr hS xq1 (by decide)
  have s2 := (xq1.2.2.2.2.2 m 16 (by rw [tm]; decide)).trans eip
  have s3 := (xq1.2.2.2.2.2 m 18 (by rw [tm]; decide)).trans ew
  have s4 := (xq1.2.2.2.2.2 m 19 (by rw [tm]; decide)).trans ehh
  have s5 := (xq1.2.2.2.2.2 m 21 (by rw [tm]; decide)).trans ewd
  have s6 := (xq1.2.2.2.2.2 m 22 (by rw [tm]; decide)).trans ehg
  have s7 := (xq1.2.2.2.2.2 m 20 (by rw [tm]; decide)).trans ebs
  have s8 := (xq1.2.2.2.2.2 m 23 (by rw [tm]; decide)).trans ebl
  have pr9 := gPi.fr xq1.2 (by decide) hypi
  have jn10 : ∀ (jn10v0 : Int), ((jn10v0 = 1 - zq1)) → gz gPP gGG gcn (d + 2) gt176 15 [some (.ref m), some (.int (zi b)), some (.int (zi i))] [.int (zi jn10v0), .ref m] hq1 (fun q _ => gSs rT 1027 ty [1000] h q.2.2 ∧ ∃ z : Int, gfin gt176 q.1 q.2.1 = some (some (.long (zl z))) ∧ (-9223372036854775808) ≤ z ∧ z ≤ 9223372036854775807) := by
    intro jn10v0 jn10d
    refine gs_put rfl (by decide) rfl sq1 tm rfl rfl rfl rfl (Or.inl rfl) (by decide) (by omega) (by omega) (fun h11 sh11 eh11 fh11 => ?_)
    have pr12 := gPi.pt fh11 tm (by decide) pr9
    have s13 := (fh11 m 16 (fun q => absurd q.2 (by decide))).trans s2
    have s14 := (fh11 m 18 (fun q => absurd q.2 (by decide))).trans s3
    have s15 := (fh11 m 19 (fun q => absurd q.2 (by decide))).trans s4
    have s16 := (fh11 m 21 (fun q => absurd q.2 (by decide))).trans s5
    have s17 := (fh11 m 22 (fun q => absurd q.2 (by decide))).trans s6
    have s18 := (fh11 m 20 (fun q => absurd q.2 (by decide))).trans s7
    have s19 := (fh11 m 23 (fun q => absurd q.2 (by decide))).trans s8
    refine gz_s 1 (pc' := 19) (L' := [some (.ref m), some (.int (zi b)), some (.int (zi i))]) (S' := [.ref m]) rfl ?_
    refine gs_gtk rfl (by decide) rfl sh11.1 tm rfl rfl eh11 ?_
    by_cases hc20 : (jn10v0 : Int) ≤ 0
    · refine gy_ifT (pc' := 29) rfl (by decide) (by decide) (by omega) hc20 ?_
      have hpc : gPic ty w hh wd hg bs h11 := pr12 (by omega)
      have hpr := hpc.1
      refine gz_s 4 (pc' := 34) (L' := [some (.ref m), some (.int (zi b)), some (.int (zi i))]) (S' := [.int (zi 8), .int (zi i), .int (zi b), .ref m]) rfl ?_
      refine gy_rem rfl (by decide) (by omega) (by omega) ?_
      refine gz_s 2 (pc' := 38) (L' := [some (.ref m), some (.int (zi b)), some (.int (zi i))]) (S' := [.int (zi 8), .int (zi i), .int (zi (i % 8)), .int (zi b), .ref m]) rfl ?_
      refine gy_div rfl (by decide) (by omega) (by omega) ?_
      refine gz_call rfl (by decide) rfl (by decide) (by decide) (gcal_of rfl rfl rfl (Nat.le_of_ble_eq_true rfl) (gJ.recv (G := gGG) sh11.1 tm rfl rfl)) (mm_sumAt _ sh11.1 m tm b (by omega) (i % 8) (by omega) (i / 8) (by omega) w s14 (by omega) hh s15 (by omega) wd s16 (by omega) hg s17 (by omega) bs s18 (by omega) hpc) (fun q21 _ wq21 => ?_)
      obtain ⟨pq21, oq21, hq21⟩ := q21
      obtain ⟨xq21, zq21, gq21, aq21, bq21⟩ := wq21
      refine ⟨_, gq21, ?_⟩
      show gz gPP gGG gcn _ _ 42 [some (.ref m), some (.int (zi b)), some (.int (zi i))] [.long (zl zq21)] hq21 _
      have sq21 := gSs.tr sh11 xq21 (by decide)
      have s22 := (xq21.2.2.2.2.2 m 16 (by rw [tm]; decide)).trans s13
      have s23 := (xq21.2.2.2.2.2 m 18 (by rw [tm]; decide)).trans s14
      have s24 := (xq21.2.2.2.2.2 m 19 (by rw [tm]; decide)).trans s15
      have s25 := (xq21.2.2.2.2.2 m 21 (by rw [tm]; decide)).trans s16
      have s26 := (xq21.2.2.2.2.2 m 22 (by rw [tm]; decide)).trans s17
      have s27 := (xq21.2.2.2.2.2 m 20 (by rw [tm]; decide)).trans s18
      have s28 := (xq21.2.2.2.2.2 m 23 (by rw [tm]; decide)).trans s19
      have s29 := (xq21.2.2.2.2.2 m 0 (by rw [tm]; decide)).trans eh11
      have pr30 := gPi.fr xq21.2 (by decide) pr12
      have pr31 := gPic.fr xq21.2 (by decide) hpc
      exact gz_end (I := .lreturn) (len := 1) rfl (Or.inl rfl) ⟨sq21, zq21, rfl, (by omega), (by omega)⟩
    · refine gy_ifF rfl (by decide) (by decide) (by omega) hc20 ?_
      refine gz_s 2 (pc' := 42) (L' := [some (.ref m), some (.int (zi b)), some (.int (zi i))]) (S' := [.long (zl 0)]) rfl ?_
      exact gz_end (I := .lreturn) (len := 1) rfl (Or.inl rfl) ⟨sh11, 0, rfl, (by omega), (by omega)⟩
  by_cases hc32 : (zq1 : Int) = 0
  · refine gy_ifT (pc' := 14) rfl (by decide) (by decide) (by omega) hc32 ?_
    refine gz_s 1 (pc' := 15) (L' := [some (.ref m), some (.int (zi b)), some (.int (zi i))]) (S' := [.int (zi 1), .ref m]) rfl ?_
    exact jn10 1 (by omega)
  · refine gy_ifF rfl (by decide) (by decide) (by omega) hc32 ?_
    refine gz_s 2 (pc' := 15) (L' := [some (.ref m), some (.int (zi b)), some (.int (zi i))]) (S' := [.int (zi 0), .ref m]) rfl ?_
    exact jn10 0 (by omega)
set_option maxRecDepth 20000 in
set_option maxHeartbeats 4000000 in
theorem mm_told (d : Nat) {ty : Nat → Nat} {h : gH} (hJ : gJ rT 1027 ty h) (m : Nat) (tm : ty m = 1) (i : Int) (ri : (-2147483648) ≤ i ∧ i ≤ 2147483647) (wt : Int) (rwt : (-2147483648) ≤ wt ∧ wt ≤ 2147483647) (ip : Int) (eip : h.2.2.2.2 m 16 = .int (zi ip)) (rip : 0 ≤ ip ∧ ip ≤ 1) (w : Int) (ew : h.2.2.2.2 m 18 = .int (zi w)) (rw : 0 ≤ w ∧ w ≤ 64) (hh : Int) (ehh : h.2.2.2.2 m 19 = .int (zi hh)) (rhh : 0 ≤ hh ∧ hh ≤ 64) (wd : Int) (ewd : h.2.2.2.2 m 21 = .int (zi wd)) (rwd : 0 ≤ wd ∧ wd ≤ 2) (hg : Int) (ehg : h.2.2.2.2 m 22 = .int (zi hg)) (rhg : 0 ≤ hg ∧ hg ≤ 2) (bs : Int) (ebs : h.2.2.2.2 m 20 = .int (zi bs)) (rbs : 0 ≤ bs ∧ bs ≤ 3) (bl : Int) (ebl : h.2.2.2.2 m 23 = .int (zi bl)) (rbl : 0 ≤ bl ∧ bl ≤ 192) (hypi : gPi ty ip w hh wd hg bs h) : gz gPP gGG gcn (d + 1) gt177 0 (gent [.ref m, .int (zi i), .int (zi wt)] 5) [] h (fun q _ => gSs rT 1027 ty [1000] h q.2.2 ∧ ∃ z : Int, gfin gt177 q.1 q.2.1 = some (some (.int (zi z))) ∧ (-2147483648) ≤ z ∧ z ≤ 2147483647) := by
  have hS : gSs rT 1027 ty [1000] h h := gSs.rf hJ
  refine gz_s 2 (pc' := 2) (L' := [some (.ref m), some (.int (zi i)), some (.int (zi wt)), none, none]) (S' := [.int (zi (-1)), .int (zi i)]) rfl ?_
  by_cases hc1 : ¬ (i : Int) = (-1)
  · refine gy_icT (pc' := 115) rfl (by decide) (by decide) (by omega) (by omega) hc1 ?_
    refine gz_s 4 (pc' := 119) (L' := [some (.ref m), some (.int (zi i)), some (.int (zi wt)), none, none]) (S' := [.int (zi 0), .int (zi i), .ref m, .ref m]) rfl ?_
    refine gz_call rfl (by decide) rfl (by decide) (by decide) (gcal_of rfl rfl rfl (Nat.le_of_ble_eq_true rfl) (gJ.recv (G := gGG) hS.1 tm rfl rfl)) (mm_isBlock _ hS.1 m tm i (by omega) 0 (by omega) ip eip (by omega) bl ebl (by omega)) (fun q2 _ wq2 => ?_)
    obtain ⟨pq2, oq2, hq2⟩ := q2
    obtain ⟨xq2, zq2, gq2, aq2, bq2, uq2_0⟩ := wq2
    refine ⟨_, gq2, ?_⟩
    show gz gPP gGG gcn _ _ 122 [some (.ref m), some (.int (zi i)), some (.int (zi wt)), none, none] [.int (zi zq2), .ref m] hq2 _
    have sq2 := gSs.tr hS xq2 (by decide)
    have s3 := (xq2.2.2.2.2.2 m 16 (by rw [tm]; decide)).trans eip
    have s4 := (xq2.2.2.2.2.2 m 18 (by rw [tm]; decide)).trans ew
    have s5 := (xq2.2.2.2.2.2 m 19 (by rw [tm]; decide)).trans ehh
    have s6 := (xq2.2.2.2.2.2 m 21 (by rw [tm]; decide)).trans ewd
    have s7 := (xq2.2.2.2.2.2 m 22 (by rw [tm]; decide)).trans ehg
    have s8 := (xq2.2.2.2.2.2 m 20 (by rw [tm]; decide)).trans ebs
    have s9 := (xq2.2.2.2.2.2 m 23 (by rw [tm]; decide)).trans ebl
    have pr10 := gPi.fr xq2.2 (by decide) hypi
    have jn11 : ∀ (jn11v0 : Int), ((0 ≤ jn11v0) ∧ (jn11v0 ≤ 1) ∧ (jn11v0 = 0 → zq2 = 1)) → gz gPP gGG gcn (d + 1) gt177 139 [some (.ref m), some (.int (zi i)), some (.int (zi wt)), none, none] [.int (zi jn11v0), .ref m] hq2 (fun q _ => gSs rT 1027 ty [1000] h q.2.2 ∧ ∃ z : Int, gfin gt177 q.1 q.2.1 = some (some (.int (zi z))) ∧ (-2147483648) ≤ z ∧ z ≤ 2147483647) := by
      intro jn11v0 jn11d
      refine gs_put rfl (by decide) rfl sq2 tm rfl rfl rfl rfl (Or.inl rfl) (by decide) (by omega) (by omega) (fun h12 sh12 eh12 fh12 => ?_)
      have pr13 := gPi.pt fh12 tm (by decide) pr10
      have s14 := (fh12 m 16 (fun q => absurd q.2 (by decide))).trans s3
      have s15 := (fh12 m 18 (fun q => absurd q.2 (by decide))).trans s4
      have s16 := (fh12 m 19 (fun q => absurd q.2 (by decide))).trans s5
      have s17 := (fh12 m 21 (fun q => absurd q.2 (by decide))).trans s6
      have s18 := (fh12 m 22 (fun q => absurd q.2 (by decide))).trans s7
      have s19 := (fh12 m 20 (fun q => absurd q.2 (by decide))).trans s8
      have s20 := (fh12 m 23 (fun q => absurd q.2 (by decide))).trans s9
      refine gz_s 1 (pc' := 143) (L' := [some (.ref m), some (.int (zi i)), some (.int (zi wt)), none, none]) (S' := [.ref m]) rfl ?_
      refine gs_gtk rfl (by decide) rfl sh12.1 tm rfl rfl eh12 ?_
      by_cases hc21 : (jn11v0 : Int) ≤ 0
      · refine gy_ifT (pc' := 151) rfl (by decide) (by decide) (by omega) hc21 ?_
        have hpc : gPic ty w hh wd hg bs h12 := pr13 (by omega)
        have hpr := hpc.1
        refine gz_s 2 (pc' := 153) (L' := [some (.ref m), some (.int (zi i)), some (.int (zi wt)), none, none]) (S' := [.int (zi i), .ref m]) rfl ?_
        refine gz_call rfl (by decide) rfl (by decide) (by decide) (gcal_of rfl rfl rfl (Nat.le_of_ble_eq_true rfl) (gJ.recv (G := gGG) sh12.1 tm rfl rfl)) (mm_bandOf _ sh12.1 m tm i (by omega) bs s19 (by omega)) (fun q22 _ wq22 => ?_)
        obtain ⟨pq22, oq22, hq22⟩ := q22
        obtain ⟨xq22, zq22, gq22, aq22, bq22, uq22_0⟩ := wq22
        refine ⟨_, gq22, ?_⟩
        show gz gPP gGG gcn _ _ 156 [some (.ref m), some (.int (zi i)), some (.int (zi wt)), none, none] [.int (zi zq22)] hq22 _
        have sq22 := gSs.tr sh12 xq22 (by decide)
        have s23 := (xq22.2.2.2.2.2 m 16 (by rw [tm]; decide)).trans s14
        have s24 := (xq22.2.2.2.2.2 m 18 (by rw [tm]; decide)).trans s15
        have s25 := (xq22.2.2.2.2.2 m 19 (by rw [tm]; decide)).trans s16
        have s26 := (xq22.2.2.2.2.2 m 21 (by rw [tm]; decide)).trans s17
        have s27 := (xq22.2.2.2.2.2 m 22 (by rw [tm]; decide)).trans s18
        have s28 := (xq22.2.2.2.2.2 m 20 (by rw [tm]; decide)).trans s19
        have s29 := (xq22.2.2.2.2.2 m 23 (by rw [tm]; decide)).trans s20
        have s30 := (xq22.2.2.2.2.2 m 0 (by rw [tm]; decide)).trans eh12
        have pr31 := gPi.fr xq22.2 (by decide) pr13
        have pr32 := gPic.fr xq22.2 (by decide) hpc
        refine gz_s 1 (pc' := 157) (L' := [some (.ref m), some (.int (zi i)), some (.int (zi wt)), some (.int (zi zq22)), none]) (S' := []) rfl ?_
        obtain ⟨hbT, vbT, CT, RT, ocT, orrT, fT, eT_0, eT_1, eT_2, eT_3, eT_4, eT_5, eT_6, eT_7, kT⟩ := pr32.2 zq22 (by omega) (by omega)
        obtain ⟨kT_0, kT_1, kT_2, kT_3, kT_4, kT_5, kT_6, kT_7, kT_8, kT_9, kT_10, kT_11, kT_12, kT_13, kT_14, kT_15, kT_16, kT_17⟩ := kT
        have kkT := zb3 (a := CT) (b := RT) (by omega) (by omega)
        have kpT := zx_f (a := hbT) (b := vbT) (A := 2) (B := 2) (by omega) (by omega) (by omega) (by omega)
        refine gz_s 2 (pc' := 159) (L' := [some (.ref m), some (.int (zi i)), some (.int (zi wt)), some (.int (zi zq22)), none]) (S' := [.ref m, .int (zi i)]) rfl ?_
        refine gs_gtr rfl (by decide) rfl sq22.1 tm rfl rfl rfl (fun c33 ec33 tc33 => ?_)
        refine gz_s 1 (pc' := 163) (L' := [some (.ref m), some (.int (zi i)), some (.int (zi wt)), some (.int (zi zq22)), none]) (S' := [.int (zi zq22), .ref c33, .int (zi i)]) rfl ?_
        have hl34 : 3 ≤ hq22.2.2.2.1 c33 ∧ hq22.2.2.2.1 c33 ≤ 3 := gJ.rowl (G := gGG) sq22.1 tc33 rfl
        refine gs_alx rfl (by decide) sq22.1 tc33 rfl rfl rfl (by decide) (fun _ => rfl) (by omega) (by omega) (by decide) eT_6 (fun ex35 ax35 bx35 => ?_)
        refine gy_s 3 (pc' := 168) (L' := [some (.ref m), some (.int (zi i)), some (.int (zi wt)), some (.int (zi zq22)), some (.int ((zi i) - (zi fT)))]) (S' := [.int (zi wt)]) (L2 := [some (.ref m), some (.int (zi i)), some (.int (zi wt)), some (.int (zi zq22)), some (.int (zi (i - fT)))]) (S2 := [.int (zi wt)]) rfl (by simp only [zi_add, zi_sub, zi_mul, zi_neg, zi_and1, zi_and7, zi_and15, zi_and31, zi_and255]) (by simp only [zi_add, zi_sub, zi_mul, zi_neg, zi_and1, zi_and7, zi_and15, zi_and31, zi_and255]) ?_
        by_cases hc36 : ¬ (wt : Int) = 0
        · refine gy_ifT (pc' := 175) rfl (by decide) (by decide) (by omega) hc36 ?_
          refine gz_s 2 (pc' := 177) (L' := [some (.ref m), some (.int (zi i)), some (.int (zi wt)), some (.int (zi zq22)), some (.int (zi (i - fT)))]) (S' := [.int (zi 1), .int (zi wt)]) rfl ?_
          by_cases hc37 : ¬ (wt : Int) = 1
          · refine gy_icT (pc' := 192) rfl (by decide) (by decide) (by omega) (by omega) hc37 ?_
            refine gz_s 2 (pc' := 194) (L' := [some (.ref m), some (.int (zi i)), some (.int (zi wt)), some (.int (zi zq22)), some (.int (zi (i - fT)))]) (S' := [.int (zi 2), .int (zi wt)]) rfl ?_
            by_cases hc38 : ¬ (wt : Int) = 2
            · refine gy_icT (pc' := 209) rfl (by decide) (by decide) (by omega) (by omega) hc38 ?_
              refine gz_s 1 (pc' := 210) (L' := [some (.ref m), some (.int (zi i)), some (.int (zi wt)), some (.int (zi zq22)), some (.int (zi (i - fT)))]) (S' := [.ref m]) rfl ?_
              refine gs_gtr rfl (by decide) rfl sq22.1 tm rfl rfl rfl (fun c39 ec39 tc39 => ?_)
              refine gz_s 1 (pc' := 214) (L' := [some (.ref m), some (.int (zi i)), some (.int (zi wt)), some (.int (zi zq22)), some (.int (zi (i - fT)))]) (S' := [.int (zi i), .ref c39]) rfl ?_
              have hl40 : 192 ≤ hq22.2.2.2.1 c39 ∧ hq22.2.2.2.1 c39 ≤ 192 := gJ.rowl (G := gGG) sq22.1 tc39 rfl
              refine gs_bald rfl (by decide) sq22.1 tc39 rfl rfl (Or.inr rfl) (by decide) (fun _ => rfl) (by omega) (by omega) (fun z41 ez41 az41 bz41 => ?_)
              by_cases hc42 : (z41 : Int) = 0
              · refine gy_ifT (pc' := 222) rfl (by decide) (by decide) (by omega) hc42 ?_
                refine gz_s 1 (pc' := 223) (L' := [some (.ref m), some (.int (zi i)), some (.int (zi wt)), some (.int (zi zq22)), some (.int (zi (i - fT)))]) (S' := [.int (zi 0)]) rfl ?_
                exact gz_end (I := .ireturn) (len := 1) rfl (Or.inl rfl) ⟨sq22, 0, rfl, (by omega), (by omega)⟩
              · refine gy_ifF rfl (by decide) (by decide) (by omega) hc42 ?_
                refine gz_s 2 (pc' := 223) (L' := [some (.ref m), some (.int (zi i)), some (.int (zi wt)), some (.int (zi zq22)), some (.int (zi (i - fT)))]) (S' := [.int (zi 1)]) rfl ?_
                exact gz_end (I := .ireturn) (len := 1) rfl (Or.inl rfl) ⟨sq22, 1, rfl, (by omega), (by omega)⟩
            · refine gy_icF rfl (by decide) (by decide) (by omega) (by omega) hc38 ?_
              refine gz_s 2 (pc' := 200) (L' := [some (.ref m), some (.int (zi i)), some (.int (zi wt)), some (.int (zi zq22)), some (.int (zi (i - fT)))]) (S' := [.ref m, .int (zi (i - fT))]) rfl ?_
              refine gs_gtr rfl (by decide) rfl sq22.1 tm rfl rfl rfl (fun c43 ec43 tc43 => ?_)
              refine gz_s 1 (pc' := 204) (L' := [some (.ref m), some (.int (zi i)), some (.int (zi wt)), some (.int (zi zq22)), some (.int (zi (i - fT)))]) (S' := [.int (zi zq22), .ref c43, .int (zi (i - fT))]) rfl ?_
              have hl44 : 3 ≤ hq22.2.2.2.1 c43 ∧ hq22.2.2.2.1 c43 ≤ 3 := gJ.rowl (G := gGG) sq22.1 tc43 rfl
              refine gs_alx rfl (by decide) sq22.1 tc43 rfl rfl rfl (by decide) (fun _ => rfl) (by omega) (by omega) (by decide) eT_2 (fun ex45 ax45 bx45 => ?_)
              refine gy_dvv rfl (by decide) (by omega) (by omega) (fun z46 az46 bz46 cz46 => ?_)
              refine gz_s 1 (pc' := 223) (L' := [some (.ref m), some (.int (zi i)), some (.int (zi wt)), some (.int (zi zq22)), some (.int (zi (i - fT)))]) (S' := [.int (zi z46)]) rfl ?_
              exact gz_end (I := .ireturn) (len := 1) rfl (Or.inl rfl) ⟨sq22, z46, rfl, (by omega), (by omega)⟩
          · refine gy_icF rfl (by decide) (by decide) (by omega) (by omega) hc37 ?_
            refine gz_s 2 (pc' := 183) (L' := [some (.ref m), some (.int (zi i)), some (.int (zi wt)), some (.int (zi zq22)), some (.int (zi (i - fT)))]) (S' := [.ref m, .int (zi (i - fT))]) rfl ?_
            refine gs_gtr rfl (by decide) rfl sq22.1 tm rfl rfl rfl (fun c47 ec47 tc47 => ?_)
            refine gz_s 1 (pc' := 187) (L' := [some (.ref m), some (.int (zi i)), some (.int (zi wt)), some (.int (zi zq22)), some (.int (zi (i - fT)))]) (S' := [.int (zi zq22), .ref c47, .int (zi (i - fT))]) rfl ?_
            have hl48 : 3 ≤ hq22.2.2.2.1 c47 ∧ hq22.2.2.2.1 c47 ≤ 3 := gJ.rowl (G := gGG) sq22.1 tc47 rfl
            refine gs_alx rfl (by decide) sq22.1 tc47 rfl rfl rfl (by decide) (fun _ => rfl) (by omega) (by omega) (by decide) eT_2 (fun ex49 ax49 bx49 => ?_)
            refine gy_rmv rfl (by decide) (by omega) (by omega) (fun z50 az50 bz50 cz50 => ?_)
            refine gz_s 1 (pc' := 223) (L' := [some (.ref m), some (.int (zi i)), some (.int (zi wt)), some (.int (zi zq22)), some (.int (zi (i - fT)))]) (S' := [.int (zi z50)]) rfl ?_
            exact gz_end (I := .ireturn) (len := 1) rfl (Or.inl rfl) ⟨sq22, z50, rfl, (by omega), (by omega)⟩
        · refine gy_ifF rfl (by decide) (by decide) (by omega) hc36 ?_
          refine gz_s 2 (pc' := 223) (L' := [some (.ref m), some (.int (zi i)), some (.int (zi wt)), some (.int (zi zq22)), some (.int (zi (i - fT)))]) (S' := [.int (zi zq22)]) rfl ?_
          exact gz_end (I := .ireturn) (len := 1) rfl (Or.inl rfl) ⟨sq22, zq22, rfl, (by omega), (by omega)⟩
      · refine gy_ifF rfl (by decide) (by decide) (by omega) hc21 ?_
        refine gz_s 1 (pc' := 150) (L' := [some (.ref m), some (.int (zi i)), some (.int (zi wt)), none, none]) (S' := [.int (zi 0)]) rfl ?_
        exact gz_end (I := .ireturn) (len := 1) rfl (Or.inl rfl) ⟨sh12, 0, rfl, (by omega), (by omega)⟩
    by_cases hc51 : (zq2 : Int) = 0
    · refine gy_ifT (pc' := 138) rfl (by decide) (by decide) (by omega) hc51 ?_
      refine gz_s 1 (pc' := 139) (L' := [some (.ref m), some (.int (zi i)), some (.int (zi wt)), none, none]) (S' := [.int (zi 1), .ref m]) rfl ?_
      exact jn11 1 (by omega)
    · refine gy_ifF rfl (by decide) (by decide) (by omega) hc51 ?_
      refine gz_s 1 (pc' := 126) (L' := [some (.ref m), some (.int (zi i)), some (.int (zi wt)), none, none]) (S' := [.int (zi wt), .ref m]) rfl ?_
      by_cases hc52 : (wt : Int) < 0
      · refine gy_ifT (pc' := 138) rfl (by decide) (by decide) (by omega) hc52 ?_
        refine gz_s 1 (pc' := 139) (L' := [some (.ref m), some (.int (zi i)), some (.int (zi wt)), none, none]) (S' := [.int (zi 1), .ref m]) rfl ?_
        exact jn11 1 (by omega)
      · refine gy_ifF rfl (by decide) (by decide) (by omega) hc52 ?_
        refine gz_s 2 (pc' := 131) (L' := [some (.ref m), some (.int (zi i)), some (.int (zi wt)), none, none]) (S' := [.int (zi 3), .int (zi wt), .ref m]) rfl ?_
        by_cases hc53 : (3 : Int) < wt
        · refine gy_icT (pc' := 138) rfl (by decide) (by decide) (by omega) (by omega) hc53 ?_
          refine gz_s 1 (pc' := 139) (L' := [some (.ref m), some (.int (zi i)), some (.int (zi wt)), none, none]) (S' := [.int (zi 1), .ref m]) rfl ?_
          exact jn11 1 (by omega)
        · refine gy_icF rfl (by decide) (by decide) (by omega) (by omega) hc53 ?_
          refine gz_s 2 (pc' := 139) (L' := [some (.ref m), some (.int (zi i)), some (.int (zi wt)), none, none]) (S' := [.int (zi 0), .ref m]) rfl ?_
          exact jn11 0 (by omega)
  · refine gy_icF rfl (by decide) (by decide) (by omega) (by omega) hc1 ?_
    refine gz_s 2 (pc' := 7) (L' := [some (.ref m), some (.int (zi i)), some (.int (zi wt)), none, none]) (S' := [.int (zi wt), .ref m]) rfl ?_
    by_cases hc54 : (wt : Int) < 0
    · refine gy_ifT (pc' := 16) rfl (by decide) (by decide) (by omega) hc54 ?_
      refine gz_s 2 (pc' := 21) (L' := [some (.ref m), some (.int (zi i)), some (.int (zi wt)), none, none]) (S' := [.int (zi 1), .ref m]) rfl ?_
      refine gs_put rfl (by decide) rfl hS tm rfl rfl rfl rfl (Or.inl rfl) (by decide) (by omega) (by omega) (fun h55 sh55 eh55 fh55 => ?_)
      have pr56 := gPi.pt fh55 tm (by decide) hypi
      have s57 := (fh55 m 16 (fun q => absurd q.2 (by decide))).trans eip
      have s58 := (fh55 m 18 (fun q => absurd q.2 (by decide))).trans ew
      have s59 := (fh55 m 19 (fun q => absurd q.2 (by decide))).trans ehh
      have s60 := (fh55 m 21 (fun q => absurd q.2 (by decide))).trans ewd
      have s61 := (fh55 m 22 (fun q => absurd q.2 (by decide))).trans ehg
      have s62 := (fh55 m 20 (fun q => absurd q.2 (by decide))).trans ebs
      have s63 := (fh55 m 23 (fun q => absurd q.2 (by decide))).trans ebl
      refine gz_s 1 (pc' := 25) (L' := [some (.ref m), some (.int (zi i)), some (.int (zi wt)), none, none]) (S' := [.ref m]) rfl ?_
      refine gs_gtk rfl (by decide) rfl sh55.1 tm rfl rfl eh55 ?_
      refine gy_ifF rfl (by decide) (by decide) (by omega) (by first | (simp [zc]; done) | (simp only [zc]; omega)) ?_
      refine gz_s 1 (pc' := 32) (L' := [some (.ref m), some (.int (zi i)), some (.int (zi wt)), none, none]) (S' := [.int (zi 0)]) rfl ?_
      exact gz_end (I := .ireturn) (len := 1) rfl (Or.inl rfl) ⟨sh55, 0, rfl, (by omega), (by omega)⟩
    · refine gy_ifF rfl (by decide) (by decide) (by omega) hc54 ?_
      refine gz_s 2 (pc' := 13) (L' := [some (.ref m), some (.int (zi i)), some (.int (zi wt)), none, none]) (S' := [.int (zi 6), .int (zi wt), .ref m]) rfl ?_
      by_cases hc64 : (wt : Int) ≤ 6
      · refine gy_icT (pc' := 20) rfl (by decide) (by decide) (by omega) (by omega) hc64 ?_
        refine gz_s 1 (pc' := 21) (L' := [some (.ref m), some (.int (zi i)), some (.int (zi wt)), none, none]) (S' := [.int (zi 0), .ref m]) rfl ?_
        refine gs_put rfl (by decide) rfl hS tm rfl rfl rfl rfl (Or.inl rfl) (by decide) (by omega) (by omega) (fun h65 sh65 eh65 fh65 => ?_)
        have pr66 := gPi.pt fh65 tm (by decide) hypi
        have s67 := (fh65 m 16 (fun q => absurd q.2 (by decide))).trans eip
        have s68 := (fh65 m 18 (fun q => absurd q.2 (by decide))).trans ew
        have s69 := (fh65 m 19 (fun q => absurd q.2 (by decide))).trans ehh
        have s70 := (fh65 m 21 (fun q => absurd q.2 (by decide))).trans ewd
        have s71 := (fh65 m 22 (fun q => absurd q.2 (by decide))).trans ehg
        have s72 := (fh65 m 20 (fun q => absurd q.2 (by decide))).trans ebs
        have s73 := (fh65 m 23 (fun q => absurd q.2 (by decide))).trans ebl
        refine gz_s 1 (pc' := 25) (L' := [some (.ref m), some (.int (zi i)), some (.int (zi wt)), none, none]) (S' := [.ref m]) rfl ?_
        refine gs_gtk rfl (by decide) rfl sh65.1 tm rfl rfl eh65 ?_
        refine gy_ifT (pc' := 33) rfl (by decide) (by decide) (by omega) (by first | (simp [zc]; done) | (simp only [zc]; omega)) ?_
        refine gz_s 2 (pc' := 36) (L' := [some (.ref m), some (.int (zi i)), some (.int (zi wt)), none, none]) (S' := [.int (zi 6), .int (zi wt)]) rfl ?_
        by_cases hc74 : ¬ (wt : Int) = 6
        · refine gy_icT (pc' := 44) rfl (by decide) (by decide) (by omega) (by omega) hc74 ?_
          refine gz_s 1 (pc' := 45) (L' := [some (.ref m), some (.int (zi i)), some (.int (zi wt)), none, none]) (S' := [.ref m]) rfl ?_
          refine gs_gtk rfl (by decide) rfl sh65.1 tm rfl rfl s67 ?_
          by_cases hc75 : ¬ (ip : Int) = 0
          · refine gy_ifT (pc' := 53) rfl (by decide) (by decide) (by omega) hc75 ?_
            refine gz_s 2 (pc' := 55) (L' := [some (.ref m), some (.int (zi i)), some (.int (zi wt)), none, none]) (S' := [.int (zi 3), .int (zi wt)]) rfl ?_
            by_cases hc76 : (3 : Int) ≤ wt
            · refine gy_icT (pc' := 86) rfl (by decide) (by decide) (by omega) (by omega) hc76 ?_
              refine gz_s 2 (pc' := 88) (L' := [some (.ref m), some (.int (zi i)), some (.int (zi wt)), none, none]) (S' := [.int (zi 3), .int (zi wt)]) rfl ?_
              by_cases hc77 : ¬ (wt : Int) = 3
              · refine gy_icT (pc' := 98) rfl (by decide) (by decide) (by omega) (by omega) hc77 ?_
                refine gz_s 2 (pc' := 100) (L' := [some (.ref m), some (.int (zi i)), some (.int (zi wt)), none, none]) (S' := [.int (zi 4), .int (zi wt)]) rfl ?_
                by_cases hc78 : ¬ (wt : Int) = 4
                · refine gy_icT (pc' := 110) rfl (by decide) (by decide) (by omega) (by omega) hc78 ?_
                  refine gz_s 1 (pc' := 111) (L' := [some (.ref m), some (.int (zi i)), some (.int (zi wt)), none, none]) (S' := [.ref m]) rfl ?_
                  refine gz_call rfl (by decide) rfl (by decide) (by decide) (gcal_of rfl rfl rfl (Nat.le_of_ble_eq_true rfl) (gJ.recv (G := gGG) sh65.1 tm rfl rfl)) (mm_damagedBlocks _ sh65.1 m tm ) (fun q79 _ wq79 => ?_)
                  obtain ⟨pq79, oq79, hq79⟩ := q79
                  obtain ⟨xq79, zq79, gq79, aq79, bq79⟩ := wq79
                  refine ⟨_, gq79, ?_⟩
                  show gz gPP gGG gcn _ _ 114 [some (.ref m), some (.int (zi i)), some (.int (zi wt)), none, none] [.int (zi zq79)] hq79 _
                  have sq79 := gSs.tr sh65 xq79 (by decide)
                  have s80 := (xq79.2.2.2.2.2 m 16 (by rw [tm]; decide)).trans s67
                  have s81 := (xq79.2.2.2.2.2 m 18 (by rw [tm]; decide)).trans s68
                  have s82 := (xq79.2.2.2.2.2 m 19 (by rw [tm]; decide)).trans s69
                  have s83 := (xq79.2.2.2.2.2 m 21 (by rw [tm]; decide)).trans s70
                  have s84 := (xq79.2.2.2.2.2 m 22 (by rw [tm]; decide)).trans s71
                  have s85 := (xq79.2.2.2.2.2 m 20 (by rw [tm]; decide)).trans s72
                  have s86 := (xq79.2.2.2.2.2 m 23 (by rw [tm]; decide)).trans s73
                  have s87 := (xq79.2.2.2.2.2 m 0 (by rw [tm]; decide)).trans eh65
                  have pr88 := gPi.fr xq79.2 (by decide) pr66
                  exact gz_end (I := .ireturn) (len := 1) rfl (Or.inl rfl) ⟨sq79, zq79, rfl, (by omega), (by omega)⟩
                · refine gy_icF rfl (by decide) (by decide) (by omega) (by omega) hc78 ?_
                  refine gz_s 1 (pc' := 104) (L' := [some (.ref m), some (.int (zi i)), some (.int (zi wt)), none, none]) (S' := [.ref m]) rfl ?_
                  refine gs_get rfl (by decide) rfl sh65.1 tm rfl rfl rfl (fun z89 ez89 az89 bz89 => ?_)
                  refine gz_s 1 (pc' := 114) (L' := [some (.ref m), some (.int (zi i)), some (.int (zi wt)), none, none]) (S' := [.int (zi z89)]) rfl ?_
                  exact gz_end (I := .ireturn) (len := 1) rfl (Or.inl rfl) ⟨sh65, z89, rfl, (by omega), (by omega)⟩
              · refine gy_icF rfl (by decide) (by decide) (by omega) (by omega) hc77 ?_
                refine gz_s 1 (pc' := 92) (L' := [some (.ref m), some (.int (zi i)), some (.int (zi wt)), none, none]) (S' := [.ref m]) rfl ?_
                refine gs_gtk rfl (by decide) rfl sh65.1 tm rfl rfl s73 ?_
                refine gz_s 1 (pc' := 114) (L' := [some (.ref m), some (.int (zi i)), some (.int (zi wt)), none, none]) (S' := [.int (zi bl)]) rfl ?_
                exact gz_end (I := .ireturn) (len := 1) rfl (Or.inl rfl) ⟨sh65, bl, rfl, (by omega), (by omega)⟩
            · refine gy_icF rfl (by decide) (by decide) (by omega) (by omega) hc76 ?_
              refine gz_s 1 (pc' := 59) (L' := [some (.ref m), some (.int (zi i)), some (.int (zi wt)), none, none]) (S' := [.int (zi wt)]) rfl ?_
              by_cases hc90 : ¬ (wt : Int) = 0
              · refine gy_ifT (pc' := 69) rfl (by decide) (by decide) (by omega) hc90 ?_
                refine gz_s 2 (pc' := 71) (L' := [some (.ref m), some (.int (zi i)), some (.int (zi wt)), none, none]) (S' := [.int (zi 1), .int (zi wt)]) rfl ?_
                by_cases hc91 : ¬ (wt : Int) = 1
                · refine gy_icT (pc' := 81) rfl (by decide) (by decide) (by omega) (by omega) hc91 ?_
                  refine gz_s 1 (pc' := 82) (L' := [some (.ref m), some (.int (zi i)), some (.int (zi wt)), none, none]) (S' := [.ref m]) rfl ?_
                  refine gs_gtk rfl (by decide) rfl sh65.1 tm rfl rfl s72 ?_
                  exact gz_end (I := .ireturn) (len := 1) rfl (Or.inl rfl) ⟨sh65, bs, rfl, (by omega), (by omega)⟩
                · refine gy_icF rfl (by decide) (by decide) (by omega) (by omega) hc91 ?_
                  refine gz_s 1 (pc' := 75) (L' := [some (.ref m), some (.int (zi i)), some (.int (zi wt)), none, none]) (S' := [.ref m]) rfl ?_
                  refine gs_gtk rfl (by decide) rfl sh65.1 tm rfl rfl s69 ?_
                  refine gz_s 1 (pc' := 85) (L' := [some (.ref m), some (.int (zi i)), some (.int (zi wt)), none, none]) (S' := [.int (zi hh)]) rfl ?_
                  exact gz_end (I := .ireturn) (len := 1) rfl (Or.inl rfl) ⟨sh65, hh, rfl, (by omega), (by omega)⟩
              · refine gy_ifF rfl (by decide) (by decide) (by omega) hc90 ?_
                refine gz_s 1 (pc' := 63) (L' := [some (.ref m), some (.int (zi i)), some (.int (zi wt)), none, none]) (S' := [.ref m]) rfl ?_
                refine gs_gtk rfl (by decide) rfl sh65.1 tm rfl rfl s68 ?_
                refine gz_s 1 (pc' := 85) (L' := [some (.ref m), some (.int (zi i)), some (.int (zi wt)), none, none]) (S' := [.int (zi w)]) rfl ?_
                exact gz_end (I := .ireturn) (len := 1) rfl (Or.inl rfl) ⟨sh65, w, rfl, (by omega), (by omega)⟩
          · refine gy_ifF rfl (by decide) (by decide) (by omega) hc75 ?_
            refine gz_s 1 (pc' := 52) (L' := [some (.ref m), some (.int (zi i)), some (.int (zi wt)), none, none]) (S' := [.int (zi 0)]) rfl ?_
            exact gz_end (I := .ireturn) (len := 1) rfl (Or.inl rfl) ⟨sh65, 0, rfl, (by omega), (by omega)⟩
        · refine gy_icF rfl (by decide) (by decide) (by omega) (by omega) hc74 ?_
          refine gz_s 1 (pc' := 40) (L' := [some (.ref m), some (.int (zi i)), some (.int (zi wt)), none, none]) (S' := [.ref m]) rfl ?_
          refine gs_get rfl (by decide) rfl sh65.1 tm rfl rfl rfl (fun z92 ez92 az92 bz92 => ?_)
          exact gz_end (I := .ireturn) (len := 1) rfl (Or.inl rfl) ⟨sh65, z92, rfl, (by omega), (by omega)⟩
      · refine gy_icF rfl (by decide) (by decide) (by omega) (by omega) hc64 ?_
        refine gz_s 2 (pc' := 21) (L' := [some (.ref m), some (.int (zi i)), some (.int (zi wt)), none, none]) (S' := [.int (zi 1), .ref m]) rfl ?_
        refine gs_put rfl (by decide) rfl hS tm rfl rfl rfl rfl (Or.inl rfl) (by decide) (by omega) (by omega) (fun h93 sh93 eh93 fh93 => ?_)
        have pr94 := gPi.pt fh93 tm (by decide) hypi
        have s95 := (fh93 m 16 (fun q => absurd q.2 (by decide))).trans eip
        have s96 := (fh93 m 18 (fun q => absurd q.2 (by decide))).trans ew
        have s97 := (fh93 m 19 (fun q => absurd q.2 (by decide))).trans ehh
        have s98 := (fh93 m 21 (fun q => absurd q.2 (by decide))).trans ewd
        have s99 := (fh93 m 22 (fun q => absurd q.2 (by decide))).trans ehg
        have s100 := (fh93 m 20 (fun q => absurd q.2 (by decide))).trans ebs
        have s101 := (fh93 m 23 (fun q => absurd q.2 (by decide))).trans ebl
        refine gz_s 1 (pc' := 25) (L' := [some (.ref m), some (.int (zi i)), some (.int (zi wt)), none, none]) (S' := [.ref m]) rfl ?_
        refine gs_gtk rfl (by decide) rfl sh93.1 tm rfl rfl eh93 ?_
        refine gy_ifF rfl (by decide) (by decide) (by omega) (by first | (simp [zc]; done) | (simp only [zc]; omega)) ?_
        refine gz_s 1 (pc' := 32) (L' := [some (.ref m), some (.int (zi i)), some (.int (zi wt)), none, none]) (S' := [.int (zi 0)]) rfl ?_
        exact gz_end (I := .ireturn) (len := 1) rfl (Or.inl rfl) ⟨sh93, 0, rfl, (by omega), (by omega)⟩
