/-! ===== methods of the landed text (by program) ===== -/
set_option maxRecDepth 20000 in
set_option maxHeartbeats 4000000 in
theorem cl_isFirstRead82 (d : Nat) {ty : Nat → Nat} {h : gH} (hJ : gJ rT 1027 ty h) (x : Nat) (tx : ty x = 66) (bd : Nat) (tbd : ty bd = 82) (p : Int) (rp : 0 ≤ p ∧ p ≤ 12224) (bi : Nat) (ebi : h.2.2.2.2 x 0 = .ref bi) (tbi : ty bi = 67) (src : Nat) (esrc : h.2.2.2.2 bi 0 = .ref src) (tsrc : ty src = 51) (pic : Nat) (epic : h.2.2.2.2 x 7 = .ref pic) (tpic : ty pic = 54) (co : Nat) (eco : h.2.2.2.2 pic 2 = .ref co) (tco : ty co = 112) (sz : Int) (esz : h.2.2.2.2 src 1 = .int (zi sz)) (rsz : 0 ≤ sz ∧ sz ≤ 2000) (p0 : Int) (ep0 : h.2.2.2.2 bi 1 = .int (zi p0)) (rp0 : 0 ≤ p0 ∧ p0 ≤ 2002) (l0 : Int) (el0 : h.2.2.2.2 bi 3 = .int (zi l0)) (rl0 : 0 ≤ l0 ∧ l0 ≤ 8) (pp0 : p + 64 ≤ (h.2.2.2.1 co : Int)) (uq : gUq ty) : gz gPP gGG gcn (d + 3) gt50 0 (gent [.ref x, .ref bd, .int (zi p)] 5) [] h (fun q _ => gSs rT 1027 ty [67001, 67002, 67003, 82011, 112999] h q.2.2 ∧ ∃ z p1 l1 : Int, gfin gt50 q.1 q.2.1 = some (some (.int (zi z))) ∧ 0 ≤ z ∧ z ≤ 1 ∧ q.2.2.2.2.2.2 bi 1 = .int (zi p1) ∧ 0 ≤ p1 ∧ p1 ≤ 2002 ∧ q.2.2.2.2.2.2 bi 3 = .int (zi l1) ∧ 0 ≤ l1 ∧ l1 ≤ 8 ∧ (p0 ≤ p1)) := by
  have hS : gSs rT 1027 ty [67001, 67002, 67003, 82011, 112999] h h := gSs.rf hJ
  refine gz_s 1 (pc' := 1) (L' := [some (.ref x), some (.ref bd), some (.int (zi p)), none, none]) (S' := [.ref x]) rfl ?_
  refine gs_gtk rfl (by decide) rfl hS.1 tx rfl rfl ebi ?_
  refine gz_s 3 (pc' := 7) (L' := [some (.ref x), some (.ref bd), some (.int (zi p)), none, none]) (S' := [.ref bd, .int (zi 0), .ref x, .ref bi]) rfl ?_
  refine gs_get rfl (by decide) rfl hS.1 tbd rfl rfl rfl (fun z1 ez1 az1 bz1 => ?_)
  refine gz_call rfl (by decide) rfl (by decide) (by decide) (gcal_of rfl rfl rfl (Nat.le_of_ble_eq_true rfl) (gJ.recv (G := gGG) hS.1 tx rfl rfl)) (cl_ScanReader_codesOf _ hS.1 x tx 0 (by omega) z1 (by omega) uq) (fun q2 _ wq2 => ?_)
  obtain ⟨pq2, oq2, hq2⟩ := q2
  obtain ⟨xq2, zq2, gq2, tzq2⟩ := wq2
  refine ⟨_, gq2, ?_⟩
  show gz gPP gGG gcn _ _ 13 [some (.ref x), some (.ref bd), some (.int (zi p)), none, none] [.ref zq2, .ref bi] hq2 _
  have sq2 : gSs rT 1027 ty [67001, 67002, 67003, 82011, 112999] h hq2 := gSs.tr hS xq2 (by decide)
  have s3 := (xq2.2.2.2.2.2 x 0 (by rw [tx]; decide)).trans ebi
  have s4 := (xq2.2.2.2.2.2 bi 0 (by rw [tbi]; decide)).trans esrc
  have s5 := (xq2.2.2.2.2.2 x 7 (by rw [tx]; decide)).trans epic
  have s6 := (xq2.2.2.2.2.2 pic 2 (by rw [tpic]; decide)).trans eco
  have s7 := (xq2.2.2.2.2.2 src 1 (by rw [tsrc]; decide)).trans esz
  have s8 := (xq2.2.2.2.2.2 bi 1 (by rw [tbi]; decide)).trans ep0
  have s9 := (xq2.2.2.2.2.2 bi 3 (by rw [tbi]; decide)).trans el0
  have s10 := (xq2.2.2.2.2.2 bd 9 (by rw [tbd]; decide)).trans ez1
  refine gz_call rfl (by decide) rfl (by decide) (by decide) (gcal_of rfl rfl rfl (Nat.le_of_ble_eq_true rfl) (gJ.recv (G := gGG) sq2.1 tbi rfl rfl)) (cl_Bits_nextSymbol _ sq2.1 bi tbi zq2 tzq2 src s4 tsrc sz s7 (by omega) p0 s8 (by omega) l0 s9 (by omega) uq) (fun q11 _ wq11 => ?_)
  obtain ⟨pq11, oq11, hq11⟩ := q11
  obtain ⟨xq11, zq11, fq11_0, fq11_1, gq11, aq11, bq11, efq11_0, afq11_0, bfq11_0, efq11_1, afq11_1, bfq11_1, uq11_0⟩ := wq11
  refine ⟨_, gq11, ?_⟩
  show gz gPP gGG gcn _ _ 16 [some (.ref x), some (.ref bd), some (.int (zi p)), none, none] [.int (zi zq11)] hq11 _
  have sq11 : gSs rT 1027 ty [67001, 67002, 67003, 82011, 112999] h hq11 := gSs.tr sq2 xq11 (by decide)
  have s12 := (xq11.2.2.2.2.2 x 0 (by rw [tx]; decide)).trans s3
  have s13 := (xq11.2.2.2.2.2 bi 0 (by rw [tbi]; decide)).trans s4
  have s14 := (xq11.2.2.2.2.2 x 7 (by rw [tx]; decide)).trans s5
  have s15 := (xq11.2.2.2.2.2 pic 2 (by rw [tpic]; decide)).trans s6
  have s16 := (xq11.2.2.2.2.2 src 1 (by rw [tsrc]; decide)).trans s7
  have s17 := (xq11.2.2.2.2.2 bd 9 (by rw [tbd]; decide)).trans s10
  refine gz_s 2 (pc' := 18) (L' := [some (.ref x), some (.ref bd), some (.int (zi p)), some (.int (zi zq11)), none]) (S' := [.int (zi zq11)]) rfl ?_
  by_cases hc18 : (zq11 : Int) < 0
  · refine gy_ifT (pc' := 27) rfl (by decide) (by decide) (by omega) hc18 ?_
    refine gz_s 1 (pc' := 28) (L' := [some (.ref x), some (.ref bd), some (.int (zi p)), some (.int (zi zq11)), none]) (S' := [.int (zi 0)]) rfl ?_
    exact gz_end (I := .ireturn) (len := 1) rfl (Or.inl rfl) ⟨sq11, 0, fq11_0, fq11_1, gfin_z rfl rfl (by omega), (by omega), (by omega), efq11_0, (by omega), (by omega), efq11_1, (by omega), (by omega), (by omega)⟩
  · refine gy_ifF rfl (by decide) (by decide) (by omega) hc18 ?_
    refine gz_s 2 (pc' := 24) (L' := [some (.ref x), some (.ref bd), some (.int (zi p)), some (.int (zi zq11)), none]) (S' := [.int (zi 11), .int (zi zq11)]) rfl ?_
    by_cases hc19 : (zq11 : Int) ≤ 11
    · refine gy_icT (pc' := 29) rfl (by decide) (by decide) (by omega) (by omega) hc19 ?_
      refine gz_s 1 (pc' := 30) (L' := [some (.ref x), some (.ref bd), some (.int (zi p)), some (.int (zi zq11)), none]) (S' := [.ref x]) rfl ?_
      refine gs_gtk rfl (by decide) rfl sq11.1 tx rfl rfl s12 ?_
      refine gz_s 1 (pc' := 34) (L' := [some (.ref x), some (.ref bd), some (.int (zi p)), some (.int (zi zq11)), none]) (S' := [.int (zi zq11), .ref bi]) rfl ?_
      refine gz_call rfl (by decide) rfl (by decide) (by decide) (gcal_of rfl rfl rfl (Nat.le_of_ble_eq_true rfl) (gJ.recv (G := gGG) sq11.1 tbi rfl rfl)) (cl_Bits_nextNumber _ sq11.1 bi tbi zq11 (by omega) src s13 tsrc sz s16 (by omega) fq11_0 efq11_0 (by omega) fq11_1 efq11_1 (by omega) uq) (fun q20 _ wq20 => ?_)
      obtain ⟨pq20, oq20, hq20⟩ := q20
      obtain ⟨xq20, zq20, fq20_0, fq20_1, gq20, aq20, bq20, efq20_0, afq20_0, bfq20_0, efq20_1, afq20_1, bfq20_1, uq20_0⟩ := wq20
      refine ⟨_, gq20, ?_⟩
      show gz gPP gGG gcn _ _ 37 [some (.ref x), some (.ref bd), some (.int (zi p)), some (.int (zi zq11)), none] [.int (zi zq20)] hq20 _
      have sq20 : gSs rT 1027 ty [67001, 67002, 67003, 82011, 112999] h hq20 := gSs.tr sq11 xq20 (by decide)
      have s21 := (xq20.2.2.2.2.2 x 0 (by rw [tx]; decide)).trans s12
      have s22 := (xq20.2.2.2.2.2 bi 0 (by rw [tbi]; decide)).trans s13
      have s23 := (xq20.2.2.2.2.2 x 7 (by rw [tx]; decide)).trans s14
      have s24 := (xq20.2.2.2.2.2 pic 2 (by rw [tpic]; decide)).trans s15
      have s25 := (xq20.2.2.2.2.2 src 1 (by rw [tsrc]; decide)).trans s16
      have s26 := (xq20.2.2.2.2.2 bd 9 (by rw [tbd]; decide)).trans s17
      refine gz_s 2 (pc' := 41) (L' := [some (.ref x), some (.ref bd), some (.int (zi p)), some (.int (zi zq11)), some (.int (zi zq20))]) (S' := [.int (zi zq20)]) rfl ?_
      by_cases hc27 : (0 : Int) ≤ zq20
      · refine gy_ifT (pc' := 46) rfl (by decide) (by decide) (by omega) hc27 ?_
        refine gz_s 2 (pc' := 48) (L' := [some (.ref x), some (.ref bd), some (.int (zi p)), some (.int (zi zq11)), some (.int (zi zq20))]) (S' := [.ref bd, .ref bd]) rfl ?_
        refine gs_get rfl (by decide) rfl sq20.1 tbd rfl rfl rfl (fun z28 ez28 az28 bz28 => ?_)
        refine gz_s 2 (pc' := 54) (L' := [some (.ref x), some (.ref bd), some (.int (zi p)), some (.int (zi zq11)), some (.int (zi zq20))]) (S' := [.int (zi zq11), .int (zi zq20), .int (zi z28), .ref bd]) rfl ?_
        refine gz_call rfl (by decide) rfl (by decide) (by decide) (gcal_of rfl rfl rfl (Nat.le_of_ble_eq_true rfl) rfl) (cl_ScanReader_signed _ sq20.1 zq20 (by omega) zq11 (by omega) uq) (fun q29 _ wq29 => ?_)
        obtain ⟨pq29, oq29, hq29⟩ := q29
        obtain ⟨xq29, zq29, gq29, aq29, bq29⟩ := wq29
        refine ⟨_, gq29, ?_⟩
        show gz gPP gGG gcn _ _ 57 [some (.ref x), some (.ref bd), some (.int (zi p)), some (.int (zi zq11)), some (.int (zi zq20))] [.int (zi zq29), .int (zi z28), .ref bd] hq29 _
        have sq29 : gSs rT 1027 ty [67001, 67002, 67003, 82011, 112999] h hq29 := gSs.tr sq20 xq29 (by decide)
        have s30 := (xq29.2.2.2.2.2 x 0 (by rw [tx]; decide)).trans s21
        have s31 := (xq29.2.2.2.2.2 bi 0 (by rw [tbi]; decide)).trans s22
        have s32 := (xq29.2.2.2.2.2 x 7 (by rw [tx]; decide)).trans s23
        have s33 := (xq29.2.2.2.2.2 pic 2 (by rw [tpic]; decide)).trans s24
        have s34 := (xq29.2.2.2.2.2 src 1 (by rw [tsrc]; decide)).trans s25
        have s35 := (xq29.2.2.2.2.2 bd 9 (by rw [tbd]; decide)).trans s26
        have s36 := (xq29.2.2.2.2.2 bi 1 (by rw [tbi]; decide)).trans efq20_0
        have s37 := (xq29.2.2.2.2.2 bi 3 (by rw [tbi]; decide)).trans efq20_1
        have s38 := (xq29.2.2.2.2.2 bd 11 (by rw [tbd]; decide)).trans ez28
        refine gy_s 1 (pc' := 58) (L' := [some (.ref x), some (.ref bd), some (.int (zi p)), some (.int (zi zq11)), some (.int (zi zq20))]) (S' := [.int ((zi z28) + (zi zq29)), .ref bd]) (L2 := [some (.ref x), some (.ref bd), some (.int (zi p)), some (.int (zi zq11)), some (.int (zi zq20))]) (S2 := [.int (zi (z28 + zq29)), .ref bd]) rfl (by simp only [zi_add, zi_sub, zi_mul, zi_neg, zi_and1, zi_and7, zi_and15, zi_and31, zi_and255]) (by simp only [zi_add, zi_sub, zi_mul, zi_neg, zi_and1, zi_and7, zi_and15, zi_and31, zi_and255]) ?_
        refine gy_any (fun z39 ez39 az39 bz39 => ?_)
        refine gs_put rfl (by decide) rfl sq29 tbd rfl rfl rfl rfl (Or.inl rfl) (by decide) (by omega) (by omega) (fun h40 sh40 eh40 fh40 => ?_)
        have s41 := (fh40 x 0 (fun q => absurd q.2 (by decide))).trans s30
        have s42 := (fh40 bi 0 (fun q => absurd q.2 (by decide))).trans s31
        have s43 := (fh40 x 7 (fun q => absurd q.2 (by decide))).trans s32
        have s44 := (fh40 pic 2 (fun q => absurd q.2 (by decide))).trans s33
        have s45 := (fh40 src 1 (fun q => absurd q.2 (by decide))).trans s34
        have s46 := (fh40 bd 9 (fun q => absurd q.2 (by decide))).trans s35
        have s47 := (fh40 bi 1 (fun q => absurd q.2 (by decide))).trans s36
        have s48 := (fh40 bi 3 (fun q => absurd q.2 (by decide))).trans s37
        refine gz_s 1 (pc' := 62) (L' := [some (.ref x), some (.ref bd), some (.int (zi p)), some (.int (zi zq11)), some (.int (zi zq20))]) (S' := [.ref x]) rfl ?_
        refine gs_gtk rfl (by decide) rfl sh40.1 tx rfl rfl s43 ?_
        refine gs_gtk rfl (by decide) rfl sh40.1 tpic rfl rfl s44 ?_
        refine gz_s 2 (pc' := 70) (L' := [some (.ref x), some (.ref bd), some (.int (zi p)), some (.int (zi zq11)), some (.int (zi zq20))]) (S' := [.ref bd, .int (zi p), .ref co]) rfl ?_
        refine gs_gtk rfl (by decide) rfl sh40.1 tbd rfl rfl eh40 ?_
        refine gz_s 1 (pc' := 74) (L' := [some (.ref x), some (.ref bd), some (.int (zi p)), some (.int (zi zq11)), some (.int (zi zq20))]) (S' := [.ref x, .int (zi z39), .int (zi p), .ref co]) rfl ?_
        refine gs_get rfl (by decide) rfl sh40.1 tx rfl rfl rfl (fun z49 ez49 az49 bz49 => ?_)
        refine gy_iiv rfl (by decide) rfl (fun _ _ => rfl) (fun z50 ez50 az50 bz50 => ?_)
        have hl51 : 0 ≤ h40.2.2.2.1 co ∧ h40.2.2.2.1 co ≤ 12288 := gJ.rowl (G := gGG) sh40.1 tco rfl
        have hl52 : h40.2.2.2.1 co = h.2.2.2.1 co := congrFun sh40.2.2.2.2.1 co
        refine gs_ast rfl (by decide) sh40 tco rfl rfl rfl (by decide) (fun _ => rfl) (by omega) (by omega) (fun _ => (by decide : (112999 : Nat) ∈ ([67001, 67002, 67003, 82011, 112999] : List Nat))) (by omega) (by omega) (fun h53 sh53 eh53 fh53 => ?_)
        have s54 := (fh53 x 0 (fun q => absurd (((tx).symm.trans (congrArg ty q.1)).trans tco) (by decide))).trans s41
        have s55 := (fh53 bi 0 (fun q => absurd (((tbi).symm.trans (congrArg ty q.1)).trans tco) (by decide))).trans s42
        have s56 := (fh53 x 7 (fun q => absurd (((tx).symm.trans (congrArg ty q.1)).trans tco) (by decide))).trans s43
        have s57 := (fh53 pic 2 (fun q => absurd (((tpic).symm.trans (congrArg ty q.1)).trans tco) (by decide))).trans s44
        have s58 := (fh53 src 1 (fun q => absurd (((tsrc).symm.trans (congrArg ty q.1)).trans tco) (by decide))).trans s45
        have s59 := (fh53 bd 9 (fun q => absurd (((tbd).symm.trans (congrArg ty q.1)).trans tco) (by decide))).trans s46
        have s60 := (fh53 bi 1 (fun q => absurd (((tbi).symm.trans (congrArg ty q.1)).trans tco) (by decide))).trans s47
        have s61 := (fh53 bi 3 (fun q => absurd (((tbi).symm.trans (congrArg ty q.1)).trans tco) (by decide))).trans s48
        have s62 := (fh53 bd 11 (fun q => absurd (((tbd).symm.trans (congrArg ty q.1)).trans tco) (by decide))).trans eh40
        have s63 := (fh53 x 5 (fun q => absurd (((tx).symm.trans (congrArg ty q.1)).trans tco) (by decide))).trans ez49
        refine gz_s 1 (pc' := 80) (L' := [some (.ref x), some (.ref bd), some (.int (zi p)), some (.int (zi zq11)), some (.int (zi zq20))]) (S' := [.int (zi 1)]) rfl ?_
        exact gz_end (I := .ireturn) (len := 1) rfl (Or.inl rfl) ⟨sh53, 1, fq20_0, fq20_1, gfin_z rfl rfl (by omega), (by omega), (by omega), s60, (by omega), (by omega), s61, (by omega), (by omega), (by omega)⟩
      · refine gy_ifF rfl (by decide) (by decide) (by omega) hc27 ?_
        refine gz_s 1 (pc' := 45) (L' := [some (.ref x), some (.ref bd), some (.int (zi p)), some (.int (zi zq11)), some (.int (zi zq20))]) (S' := [.int (zi 0)]) rfl ?_
        exact gz_end (I := .ireturn) (len := 1) rfl (Or.inl rfl) ⟨sq20, 0, fq20_0, fq20_1, gfin_z rfl rfl (by omega), (by omega), (by omega), efq20_0, (by omega), (by omega), efq20_1, (by omega), (by omega), (by omega)⟩
    · refine gy_icF rfl (by decide) (by decide) (by omega) (by omega) hc19 ?_
      refine gz_s 1 (pc' := 28) (L' := [some (.ref x), some (.ref bd), some (.int (zi p)), some (.int (zi zq11)), none]) (S' := [.int (zi 0)]) rfl ?_
      exact gz_end (I := .ireturn) (len := 1) rfl (Or.inl rfl) ⟨sq11, 0, fq11_0, fq11_1, gfin_z rfl rfl (by omega), (by omega), (by omega), efq11_0, (by omega), (by omega), efq11_1, (by omega), (by omega), (by omega)⟩
set_option maxRecDepth 20000 in
set_option maxHeartbeats 4000000 in
theorem cl_isFirstRead83 (d : Nat) {ty : Nat → Nat} {h : gH} (hJ : gJ rT 1027 ty h) (x : Nat) (tx : ty x = 66) (bd : Nat) (tbd : ty bd = 83) (p : Int) (rp : 0 ≤ p ∧ p ≤ 12224) (bi : Nat) (ebi : h.2.2.2.2 x 0 = .ref bi) (tbi : ty bi = 67) (src : Nat) (esrc : h.2.2.2.2 bi 0 = .ref src) (tsrc : ty src = 51) (pic : Nat) (epic : h.2.2.2.2 x 7 = .ref pic) (tpic : ty pic = 54) (co : Nat) (eco : h.2.2.2.2 pic 2 = .ref co) (tco : ty co = 112) (sz : Int) (esz : h.2.2.2.2 src 1 = .int (zi sz)) (rsz : 0 ≤ sz ∧ sz ≤ 2000) (p0 : Int) (ep0 : h.2.2.2.2 bi 1 = .int (zi p0)) (rp0 : 0 ≤ p0 ∧ p0 ≤ 2002) (l0 : Int) (el0 : h.2.2.2.2 bi 3 = .int (zi l0)) (rl0 : 0 ≤ l0 ∧ l0 ≤ 8) (pp0 : p + 64 ≤ (h.2.2.2.1 co : Int)) (uq : gUq ty) : gz gPP gGG gcn (d + 3) gt50 0 (gent [.ref x, .ref bd, .int (zi p)] 5) [] h (fun q _ => gSs rT 1027 ty [67001, 67002, 67003, 83011, 112999] h q.2.2 ∧ ∃ z p1 l1 : Int, gfin gt50 q.1 q.2.1 = some (some (.int (zi z))) ∧ 0 ≤ z ∧ z ≤ 1 ∧ q.2.2.2.2.2.2 bi 1 = .int (zi p1) ∧ 0 ≤ p1 ∧ p1 ≤ 2002 ∧ q.2.2.2.2.2.2 bi 3 = .int (zi l1) ∧ 0 ≤ l1 ∧ l1 ≤ 8 ∧ (p0 ≤ p1)) := by
  have hS : gSs rT 1027 ty [67001, 67002, 67003, 83011, 112999] h h := gSs.rf hJ
  refine gz_s 1 (pc' := 1) (L' := [some (.ref x), some (.ref bd), some (.int (zi p)), none, none]) (S' := [.ref x]) rfl ?_
  refine gs_gtk rfl (by decide) rfl hS.1 tx rfl rfl ebi ?_
  refine gz_s 3 (pc' := 7) (L' := [some (.ref x), some (.ref bd), some (.int (zi p)), none, none]) (S' := [.ref bd, .int (zi 0), .ref x, .ref bi]) rfl ?_
  refine gs_get rfl (by decide) rfl hS.1 tbd rfl rfl rfl (fun z1 ez1 az1 bz1 => ?_)
  refine gz_call rfl (by decide) rfl (by decide) (by decide) (gcal_of rfl rfl rfl (Nat.le_of_ble_eq_true rfl) (gJ.recv (G := gGG) hS.1 tx rfl rfl)) (cl_ScanReader_codesOf _ hS.1 x tx 0 (by omega) z1 (by omega) uq) (fun q2 _ wq2 => ?_)
  obtain ⟨pq2, oq2, hq2⟩ := q2
  obtain ⟨xq2, zq2, gq2, tzq2⟩ := wq2
  refine ⟨_, gq2, ?_⟩
  show gz gPP gGG gcn _ _ 13 [some (.ref x), some (.ref bd), some (.int (zi p)), none, none] [.ref zq2, .ref bi] hq2 _
  have sq2 : gSs rT 1027 ty [67001, 67002, 67003, 83011, 112999] h hq2 := gSs.tr hS xq2 (by decide)
  have s3 := (xq2.2.2.2.2.2 x 0 (by rw [tx]; decide)).trans ebi
  have s4 := (xq2.2.2.2.2.2 bi 0 (by rw [tbi]; decide)).trans esrc
  have s5 := (xq2.2.2.2.2.2 x 7 (by rw [tx]; decide)).trans epic
  have s6 := (xq2.2.2.2.2.2 pic 2 (by rw [tpic]; decide)).trans eco
  have s7 := (xq2.2.2.2.2.2 src 1 (by rw [tsrc]; decide)).trans esz
  have s8 := (xq2.2.2.2.2.2 bi 1 (by rw [tbi]; decide)).trans ep0
  have s9 := (xq2.2.2.2.2.2 bi 3 (by rw [tbi]; decide)).trans el0
  have s10 := (xq2.2.2.2.2.2 bd 9 (by rw [tbd]; decide)).trans ez1
  refine gz_call rfl (by decide) rfl (by decide) (by decide) (gcal_of rfl rfl rfl (Nat.le_of_ble_eq_true rfl) (gJ.recv (G := gGG) sq2.1 tbi rfl rfl)) (cl_Bits_nextSymbol _ sq2.1 bi tbi zq2 tzq2 src s4 tsrc sz s7 (by omega) p0 s8 (by omega) l0 s9 (by omega) uq) (fun q11 _ wq11 => ?_)
  obtain ⟨pq11, oq11, hq11⟩ := q11
  obtain ⟨xq11, zq11, fq11_0, fq11_1, gq11, aq11, bq11, efq11_0, afq11_0, bfq11_0, efq11_1, afq11_1, bfq11_1, uq11_0⟩ := wq11
  refine ⟨_, gq11, ?_⟩
  show gz gPP gGG gcn _ _ 16 [some (.ref x), some (.ref bd), some (.int (zi p)), none, none] [.int (zi zq11)] hq11 _
  have sq11 : gSs rT 1027 ty [67001, 67002, 67003, 83011, 112999] h hq11 := gSs.tr sq2 xq11 (by decide)
  have s12 := (xq11.2.2.2.2.2 x 0 (by rw [tx]; decide)).trans s3
  have s13 := (xq11.2.2.2.2.2 bi 0 (by rw [tbi]; decide)).trans s4
  have s14 := (xq11.2.2.2.2.2 x 7 (by rw [tx]; decide)).trans s5
  have s15 := (xq11.2.2.2.2.2 pic 2 (by rw [tpic]; decide)).trans s6
  have s16 := (xq11.2.2.2.2.2 src 1 (by rw [tsrc]; decide)).trans s7
  have s17 := (xq11.2.2.2.2.2 bd 9 (by rw [tbd]; decide)).trans s10
  refine gz_s 2 (pc' := 18) (L' := [some (.ref x), some (.ref bd), some (.int (zi p)), some (.int (zi zq11)), none]) (S' := [.int (zi zq11)]) rfl ?_
  by_cases hc18 : (zq11 : Int) < 0
  · refine gy_ifT (pc' := 27) rfl (by decide) (by decide) (by omega) hc18 ?_
    refine gz_s 1 (pc' := 28) (L' := [some (.ref x), some (.ref bd), some (.int (zi p)), some (.int (zi zq11)), none]) (S' := [.int (zi 0)]) rfl ?_
    exact gz_end (I := .ireturn) (len := 1) rfl (Or.inl rfl) ⟨sq11, 0, fq11_0, fq11_1, gfin_z rfl rfl (by omega), (by omega), (by omega), efq11_0, (by omega), (by omega), efq11_1, (by omega), (by omega), (by omega)⟩
  · refine gy_ifF rfl (by decide) (by decide) (by omega) hc18 ?_
    refine gz_s 2 (pc' := 24) (L' := [some (.ref x), some (.ref bd), some (.int (zi p)), some (.int (zi zq11)), none]) (S' := [.int (zi 11), .int (zi zq11)]) rfl ?_
    by_cases hc19 : (zq11 : Int) ≤ 11
    · refine gy_icT (pc' := 29) rfl (by decide) (by decide) (by omega) (by omega) hc19 ?_
      refine gz_s 1 (pc' := 30) (L' := [some (.ref x), some (.ref bd), some (.int (zi p)), some (.int (zi zq11)), none]) (S' := [.ref x]) rfl ?_
      refine gs_gtk rfl (by decide) rfl sq11.1 tx rfl rfl s12 ?_
      refine gz_s 1 (pc' := 34) (L' := [some (.ref x), some (.ref bd), some (.int (zi p)), some (.int (zi zq11)), none]) (S' := [.int (zi zq11), .ref bi]) rfl ?_
      refine gz_call rfl (by decide) rfl (by decide) (by decide) (gcal_of rfl rfl rfl (Nat.le_of_ble_eq_true rfl) (gJ.recv (G := gGG) sq11.1 tbi rfl rfl)) (cl_Bits_nextNumber _ sq11.1 bi tbi zq11 (by omega) src s13 tsrc sz s16 (by omega) fq11_0 efq11_0 (by omega) fq11_1 efq11_1 (by omega) uq) (fun q20 _ wq20 => ?_)
      obtain ⟨pq20, oq20, hq20⟩ := q20
      obtain ⟨xq20, zq20, fq20_0, fq20_1, gq20, aq20, bq20, efq20_0, afq20_0, bfq20_0, efq20_1, afq20_1, bfq20_1, uq20_0⟩ := wq20
      refine ⟨_, gq20, ?_⟩
      show gz gPP gGG gcn _ _ 37 [some (.ref x), some (.ref bd), some (.int (zi p)), some (.int (zi zq11)), none] [.int (zi zq20)] hq20 _
      have sq20 : gSs rT 1027 ty [67001, 67002, 67003, 83011, 112999] h hq20 := gSs.tr sq11 xq20 (by decide)
      have s21 := (xq20.2.2.2.2.2 x 0 (by rw [tx]; decide)).trans s12
      have s22 := (xq20.2.2.2.2.2 bi 0 (by rw [tbi]; decide)).trans s13
      have s23 := (xq20.2.2.2.2.2 x 7 (by rw [tx]; decide)).trans s14
      have s24 := (xq20.2.2.2.2.2 pic 2 (by rw [tpic]; decide)).trans s15
      have s25 := (xq20.2.2.2.2.2 src 1 (by rw [tsrc]; decide)).trans s16
      have s26 := (xq20.2.2.2.2.2 bd 9 (by rw [tbd]; decide)).trans s17
      refine gz_s 2 (pc' := 41) (L' := [some (.ref x), some (.ref bd), some (.int (zi p)), some (.int (zi zq11)), some (.int (zi zq20))]) (S' := [.int (zi zq20)]) rfl ?_
      by_cases hc27 : (0 : Int) ≤ zq20
      · refine gy_ifT (pc' := 46) rfl (by decide) (by decide) (by omega) hc27 ?_
        refine gz_s 2 (pc' := 48) (L' := [some (.ref x), some (.ref bd), some (.int (zi p)), some (.int (zi zq11)), some (.int (zi zq20))]) (S' := [.ref bd, .ref bd]) rfl ?_
        refine gs_get rfl (by decide) rfl sq20.1 tbd rfl rfl rfl (fun z28 ez28 az28 bz28 => ?_)
        refine gz_s 2 (pc' := 54) (L' := [some (.ref x), some (.ref bd), some (.int (zi p)), some (.int (zi zq11)), some (.int (zi zq20))]) (S' := [.int (zi zq11), .int (zi zq20), .int (zi z28), .ref bd]) rfl ?_
        refine gz_call rfl (by decide) rfl (by decide) (by decide) (gcal_of rfl rfl rfl (Nat.le_of_ble_eq_true rfl) rfl) (cl_ScanReader_signed _ sq20.1 zq20 (by omega) zq11 (by omega) uq) (fun q29 _ wq29 => ?_)
        obtain ⟨pq29, oq29, hq29⟩ := q29
        obtain ⟨xq29, zq29, gq29, aq29, bq29⟩ := wq29
        refine ⟨_, gq29, ?_⟩
        show gz gPP gGG gcn _ _ 57 [some (.ref x), some (.ref bd), some (.int (zi p)), some (.int (zi zq11)), some (.int (zi zq20))] [.int (zi zq29), .int (zi z28), .ref bd] hq29 _
        have sq29 : gSs rT 1027 ty [67001, 67002, 67003, 83011, 112999] h hq29 := gSs.tr sq20 xq29 (by decide)
        have s30 := (xq29.2.2.2.2.2 x 0 (by rw [tx]; decide)).trans s21
        have s31 := (xq29.2.2.2.2.2 bi 0 (by rw [tbi]; decide)).trans s22
        have s32 := (xq29.2.2.2.2.2 x 7 (by rw [tx]; decide)).trans s23
        have s33 := (xq29.2.2.2.2.2 pic 2 (by rw [tpic]; decide)).trans s24
        have s34 := (xq29.2.2.2.2.2 src 1 (by rw [tsrc]; decide)).trans s25
        have s35 := (xq29.2.2.2.2.2 bd 9 (by rw [tbd]; decide)).trans s26
        have s36 := (xq29.2.2.2.2.2 bi 1 (by rw [tbi]; decide)).trans efq20_0
        have s37 := (xq29.2.2.2.2.2 bi 3 (by rw [tbi]; decide)).trans efq20_1
        have s38 := (xq29.2.2.2.2.2 bd 11 (by rw [tbd]; decide)).trans ez28
        refine gy_s 1 (pc' := 58) (L' := [some (.ref x), some (.ref bd), some (.int (zi p)), some (.int (zi zq11)), some (.int (zi zq20))]) (S' := [.int ((zi z28) + (zi zq29)), .ref bd]) (L2 := [some (.ref x), some (.ref bd), some (.int (zi p)), some (.int (zi zq11)), some (.int (zi zq20))]) (S2 := [.int (zi (z28 + zq29)), .ref bd]) rfl (by simp only [zi_add, zi_sub, zi_mul, zi_neg, zi_and1, zi_and7, zi_and15, zi_and31, zi_and255]) (by simp only [zi_add, zi_sub, zi_mul, zi_neg, zi_and1, zi_and7, zi_and15, zi_and31, zi_and255]) ?_
        refine gy_any (fun z39 ez39 az39 bz39 => ?_)
        refine gs_put rfl (by decide) rfl sq29 tbd rfl rfl rfl rfl (Or.inl rfl) (by decide) (by omega) (by omega) (fun h40 sh40 eh40 fh40 => ?_)
        have s41 := (fh40 x 0 (fun q => absurd q.2 (by decide))).trans s30
        have s42 := (fh40 bi 0 (fun q => absurd q.2 (by decide))).trans s31
        have s43 := (fh40 x 7 (fun q => absurd q.2 (by decide))).trans s32
        have s44 := (fh40 pic 2 (fun q => absurd q.2 (by decide))).trans s33
        have s45 := (fh40 src 1 (fun q => absurd q.2 (by decide))).trans s34
        have s46 := (fh40 bd 9 (fun q => absurd q.2 (by decide))).trans s35
        have s47 := (fh40 bi 1 (fun q => absurd q.2 (by decide))).trans s36
        have s48 := (fh40 bi 3 (fun q => absurd q.2 (by decide))).trans s37
        refine gz_s 1 (pc' := 62) (L' := [some (.ref x), some (.ref bd), some (.int (zi p)), some (.int (zi zq11)), some (.int (zi zq20))]) (S' := [.ref x]) rfl ?_
        refine gs_gtk rfl (by decide) rfl sh40.1 tx rfl rfl s43 ?_
        refine gs_gtk rfl (by decide) rfl sh40.1 tpic rfl rfl s44 ?_
        refine gz_s 2 (pc' := 70) (L' := [some (.ref x), some (.ref bd), some (.int (zi p)), some (.int (zi zq11)), some (.int (zi zq20))]) (S' := [.ref bd, .int (zi p), .ref co]) rfl ?_
        refine gs_gtk rfl (by decide) rfl sh40.1 tbd rfl rfl eh40 ?_
        refine gz_s 1 (pc' := 74) (L' := [some (.ref x), some (.ref bd), some (.int (zi p)), some (.int (zi zq11)), some (.int (zi zq20))]) (S' := [.ref x, .int (zi z39), .int (zi p), .ref co]) rfl ?_
        refine gs_get rfl (by decide) rfl sh40.1 tx rfl rfl rfl (fun z49 ez49 az49 bz49 => ?_)
        refine gy_iiv rfl (by decide) rfl (fun _ _ => rfl) (fun z50 ez50 az50 bz50 => ?_)
        have hl51 : 0 ≤ h40.2.2.2.1 co ∧ h40.2.2.2.1 co ≤ 12288 := gJ.rowl (G := gGG) sh40.1 tco rfl
        have hl52 : h40.2.2.2.1 co = h.2.2.2.1 co := congrFun sh40.2.2.2.2.1 co
        refine gs_ast rfl (by decide) sh40 tco rfl rfl rfl (by decide) (fun _ => rfl) (by omega) (by omega) (fun _ => (by decide : (112999 : Nat) ∈ ([67001, 67002, 67003, 83011, 112999] : List Nat))) (by omega) (by omega) (fun h53 sh53 eh53 fh53 => ?_)
        have s54 := (fh53 x 0 (fun q => absurd (((tx).symm.trans (congrArg ty q.1)).trans tco) (by decide))).trans s41
        have s55 := (fh53 bi 0 (fun q => absurd (((tbi).symm.trans (congrArg ty q.1)).trans tco) (by decide))).trans s42
        have s56 := (fh53 x 7 (fun q => absurd (((tx).symm.trans (congrArg ty q.1)).trans tco) (by decide))).trans s43
        have s57 := (fh53 pic 2 (fun q => absurd (((tpic).symm.trans (congrArg ty q.1)).trans tco) (by decide))).trans s44
        have s58 := (fh53 src 1 (fun q => absurd (((tsrc).symm.trans (congrArg ty q.1)).trans tco) (by decide))).trans s45
        have s59 := (fh53 bd 9 (fun q => absurd (((tbd).symm.trans (congrArg ty q.1)).trans tco) (by decide))).trans s46
        have s60 := (fh53 bi 1 (fun q => absurd (((tbi).symm.trans (congrArg ty q.1)).trans tco) (by decide))).trans s47
        have s61 := (fh53 bi 3 (fun q => absurd (((tbi).symm.trans (congrArg ty q.1)).trans tco) (by decide))).trans s48
        have s62 := (fh53 bd 11 (fun q => absurd (((tbd).symm.trans (congrArg ty q.1)).trans tco) (by decide))).trans eh40
        have s63 := (fh53 x 5 (fun q => absurd (((tx).symm.trans (congrArg ty q.1)).trans tco) (by decide))).trans ez49
        refine gz_s 1 (pc' := 80) (L' := [some (.ref x), some (.ref bd), some (.int (zi p)), some (.int (zi zq11)), some (.int (zi zq20))]) (S' := [.int (zi 1)]) rfl ?_
        exact gz_end (I := .ireturn) (len := 1) rfl (Or.inl rfl) ⟨sh53, 1, fq20_0, fq20_1, gfin_z rfl rfl (by omega), (by omega), (by omega), s60, (by omega), (by omega), s61, (by omega), (by omega), (by omega)⟩
      · refine gy_ifF rfl (by decide) (by decide) (by omega) hc27 ?_
        refine gz_s 1 (pc' := 45) (L' := [some (.ref x), some (.ref bd), some (.int (zi p)), some (.int (zi zq11)), some (.int (zi zq20))]) (S' := [.int (zi 0)]) rfl ?_
        exact gz_end (I := .ireturn) (len := 1) rfl (Or.inl rfl) ⟨sq20, 0, fq20_0, fq20_1, gfin_z rfl rfl (by omega), (by omega), (by omega), efq20_0, (by omega), (by omega), efq20_1, (by omega), (by omega), (by omega)⟩
    · refine gy_icF rfl (by decide) (by decide) (by omega) (by omega) hc19 ?_
      refine gz_s 1 (pc' := 28) (L' := [some (.ref x), some (.ref bd), some (.int (zi p)), some (.int (zi zq11)), none]) (S' := [.int (zi 0)]) rfl ?_
      exact gz_end (I := .ireturn) (len := 1) rfl (Or.inl rfl) ⟨sq11, 0, fq11_0, fq11_1, gfin_z rfl rfl (by omega), (by omega), (by omega), efq11_0, (by omega), (by omega), efq11_1, (by omega), (by omega), (by omega)⟩
set_option maxRecDepth 20000 in
set_option maxHeartbeats 4000000 in
theorem cl_isFirstRead84 (d : Nat) {ty : Nat → Nat} {h : gH} (hJ : gJ rT 1027 ty h) (x : Nat) (tx : ty x = 66) (bd : Nat) (tbd : ty bd = 84) (p : Int) (rp : 0 ≤ p ∧ p ≤ 12224) (bi : Nat) (ebi : h.2.2.2.2 x 0 = .ref bi) (tbi : ty bi = 67) (src : Nat) (esrc : h.2.2.2.2 bi 0 = .ref src) (tsrc : ty src = 51) (pic : Nat) (epic : h.2.2.2.2 x 7 = .ref pic) (tpic : ty pic = 54) (co : Nat) (eco : h.2.2.2.2 pic 2 = .ref co) (tco : ty co = 112) (sz : Int) (esz : h.2.2.2.2 src 1 = .int (zi sz)) (rsz : 0 ≤ sz ∧ sz ≤ 2000) (p0 : Int) (ep0 : h.2.2.2.2 bi 1 = .int (zi p0)) (rp0 : 0 ≤ p0 ∧ p0 ≤ 2002) (l0 : Int) (el0 : h.2.2.2.2 bi 3 = .int (zi l0)) (rl0 : 0 ≤ l0 ∧ l0 ≤ 8) (pp0 : p + 64 ≤ (h.2.2.2.1 co : Int)) (uq : gUq ty) : gz gPP gGG gcn (d + 3) gt50 0 (gent [.ref x, .ref bd, .int (zi p)] 5) [] h (fun q _ => gSs rT 1027 ty [67001, 67002, 67003, 84011, 112999] h q.2.2 ∧ ∃ z p1 l1 : Int, gfin gt50 q.1 q.2.1 = some (some (.int (zi z))) ∧ 0 ≤ z ∧ z ≤ 1 ∧ q.2.2.2.2.2.2 bi 1 = .int (zi p1) ∧ 0 ≤ p1 ∧ p1 ≤ 2002 ∧ q.2.2.2.2.2.2 bi 3 = .int (zi l1) ∧ 0 ≤ l1 ∧ l1 ≤ 8 ∧ (p0 ≤ p1)) := by
  have hS : gSs rT 1027 ty [67001, 67002, 67003, 84011, 112999] h h := gSs.rf hJ
  refine gz_s 1 (pc' := 1) (L' := [some (.ref x), some (.ref bd), some (.int (zi p)), none, none]) (S' := [.ref x]) rfl ?_
  refine gs_gtk rfl (by decide) rfl hS.1 tx rfl rfl ebi ?_
  refine gz_s 3 (pc' := 7) (L' := [some (.ref x), some (.ref bd), some (.int (zi p)), none, none]) (S' := [.ref bd, .int (zi 0), .ref x, .ref bi]) rfl ?_
  refine gs_get rfl (by decide) rfl hS.1 tbd rfl rfl rfl (fun z1 ez1 az1 bz1 => ?_)
  refine gz_call rfl (by decide) rfl (by decide) (by decide) (gcal_of rfl rfl rfl (Nat.le_of_ble_eq_true rfl) (gJ.recv (G := gGG) hS.1 tx rfl rfl)) (cl_ScanReader_codesOf _ hS.1 x tx 0 (by omega) z1 (by omega) uq) (fun q2 _ wq2 => ?_)
  obtain ⟨pq2, oq2, hq2⟩ := q2
  obtain ⟨xq2, zq2, gq2, tzq2⟩ := wq2
  refine ⟨_, gq2, ?_⟩
  show gz gPP gGG gcn _ _ 13 [some (.ref x), some (.ref bd), some (.int (zi p)), none, none] [.ref zq2, .ref bi] hq2 _
  have sq2 : gSs rT 1027 ty [67001, 67002, 67003, 84011, 112999] h hq2 := gSs.tr hS xq2 (by decide)
  have s3 := (xq2.2.2.2.2.2 x 0 (by rw [tx]; decide)).trans ebi
  have s4 := (xq2.2.2.2.2.2 bi 0 (by rw [tbi]; decide)).trans esrc
  have s5 := (xq2.2.2.2.2.2 x 7 (by rw [tx]; decide)).trans epic
  have s6 := (xq2.2.2.2.2.2 pic 2 (by rw [tpic]; decide)).trans eco
  have s7 := (xq2.2.2.2.2.2 src 1 (by rw [tsrc]; decide)).trans esz
  have s8 := (xq2.2.2.2.2.2 bi 1 (by rw [tbi]; decide)).trans ep0
  have s9 := (xq2.2.2.2.2.2 bi 3 (by rw [tbi]; decide)).trans el0
  have s10 := (xq2.2.2.2.2.2 bd 9 (by rw [tbd]; decide)).trans ez1
  refine gz_call rfl (by decide) rfl (by decide) (by decide) (gcal_of rfl rfl rfl (Nat.le_of_ble_eq_true rfl) (gJ.recv (G := gGG) sq2.1 tbi rfl rfl)) (cl_Bits_nextSymbol _ sq2.1 bi tbi zq2 tzq2 src s4 tsrc sz s7 (by omega) p0 s8 (by omega) l0 s9 (by omega) uq) (fun q11 _ wq11 => ?_)
  obtain ⟨pq11, oq11, hq11⟩ := q11
  obtain ⟨xq11, zq11, fq11_0, fq11_1, gq11, aq11, bq11, efq11_0, afq11_0, bfq11_0, efq11_1, afq11_1, bfq11_1, uq11_0⟩ := wq11
  refine ⟨_, gq11, ?_⟩
  show gz gPP gGG gcn _ _ 16 [some (.ref x), some (.ref bd), some (.int (zi p)), none, none] [.int (zi zq11)] hq11 _
  have sq11 : gSs rT 1027 ty [67001, 67002, 67003, 84011, 112999] h hq11 := gSs.tr sq2 xq11 (by decide)
  have s12 := (xq11.2.2.2.2.2 x 0 (by rw [tx]; decide)).trans s3
  have s13 := (xq11.2.2.2.2.2 bi 0 (by rw [tbi]; decide)).trans s4
  have s14 := (xq11.2.2.2.2.2 x 7 (by rw [tx]; decide)).trans s5
  have s15 := (xq11.2.2.2.2.2 pic 2 (by rw [tpic]; decide)).trans s6
  have s16 := (xq11.2.2.2.2.2 src 1 (by rw [tsrc]; decide)).trans s7
  have s17 := (xq11.2.2.2.2.2 bd 9 (by rw [tbd]; decide)).trans s10
  refine gz_s 2 (pc' := 18) (L' := [some (.ref x), some (.ref bd), some (.int (zi p)), some (.int (zi zq11)), none]) (S' := [.int (zi zq11)]) rfl ?_
  by_cases hc18 : (zq11 : Int) < 0
  · refine gy_ifT (pc' := 27) rfl (by decide) (by decide) (by omega) hc18 ?_
    refine gz_s 1 (pc' := 28) (L' := [some (.ref x), some (.ref bd), some (.int (zi p)), some (.int (zi zq11)), none]) (S' := [.int (zi 0)]) rfl ?_
    exact gz_end (I := .ireturn) (len := 1) rfl (Or.inl rfl) ⟨sq11, 0, fq11_0, fq11_1, gfin_z rfl rfl (by omega), (by omega), (by omega), efq11_0, (by omega), (by omega), efq11_1, (by omega), (by omega), (by omega)⟩
  · refine gy_ifF rfl (by decide) (by decide) (by omega) hc18 ?_
    refine gz_s 2 (pc' := 24) (L' := [some (.ref x), some (.ref bd), some (.int (zi p)), some (.int (zi zq11)), none]) (S' := [.int (zi 11), .int (zi zq11)]) rfl ?_
    by_cases hc19 : (zq11 : Int) ≤ 11
    · refine gy_icT (pc' := 29) rfl (by decide) (by decide) (by omega) (by omega) hc19 ?_
      refine gz_s 1 (pc' := 30) (L' := [some (.ref x), some (.ref bd), some (.int (zi p)), some (.int (zi zq11)), none]) (S' := [.ref x]) rfl ?_
      refine gs_gtk rfl (by decide) rfl sq11.1 tx rfl rfl s12 ?_
      refine gz_s 1 (pc' := 34) (L' := [some (.ref x), some (.ref bd), some (.int (zi p)), some (.int (zi zq11)), none]) (S' := [.int (zi zq11), .ref bi]) rfl ?_
      refine gz_call rfl (by decide) rfl (by decide) (by decide) (gcal_of rfl rfl rfl (Nat.le_of_ble_eq_true rfl) (gJ.recv (G := gGG) sq11.1 tbi rfl rfl)) (cl_Bits_nextNumber _ sq11.1 bi tbi zq11 (by omega) src s13 tsrc sz s16 (by omega) fq11_0 efq11_0 (by omega) fq11_1 efq11_1 (by omega) uq) (fun q20 _ wq20 => ?_)
      obtain ⟨pq20, oq20, hq20⟩ := q20
      obtain ⟨xq20, zq20, fq20_0, fq20_1, gq20, aq20, bq20, efq20_0, afq20_0, bfq20_0, efq20_1, afq20_1, bfq20_1, uq20_0⟩ := wq20
      refine ⟨_, gq20, ?_⟩
      show gz gPP gGG gcn _ _ 37 [some (.ref x), some (.ref bd), some (.int (zi p)), some (.int (zi zq11)), none] [.int (zi zq20)] hq20 _
      have sq20 : gSs rT 1027 ty [67001, 67002, 67003, 84011, 112999] h hq20 := gSs.tr sq11 xq20 (by decide)
      have s21 := (xq20.2.2.2.2.2 x 0 (by rw [tx]; decide)).trans s12
      have s22 := (xq20.2.2.2.2.2 bi 0 (by rw [tbi]; decide)).trans s13
      have s23 := (xq20.2.2.2.2.2 x 7 (by rw [tx]; decide)).trans s14
      have s24 := (xq20.2.2.2.2.2 pic 2 (by rw [tpic]; decide)).trans s15
      have s25 := (xq20.2.2.2.2.2 src 1 (by rw [tsrc]; decide)).trans s16
      have s26 := (xq20.2.2.2.2.2 bd 9 (by rw [tbd]; decide)).trans s17
      refine gz_s 2 (pc' := 41) (L' := [some (.ref x), some (.ref bd), some (.int (zi p)), some (.int (zi zq11)), some (.int (zi zq20))]) (S' := [.int (zi zq20)]) rfl ?_
      by_cases hc27 : (0 : Int) ≤ zq20
      · refine gy_ifT (pc' := 46) rfl (by decide) (by decide) (by omega) hc27 ?_
        refine gz_s 2 (pc' := 48) (L' := [some (.ref x), some (.ref bd), some (.int (zi p)), some (.int (zi zq11)), some (.int (zi zq20))]) (S' := [.ref bd, .ref bd]) rfl ?_
        refine gs_get rfl (by decide) rfl sq20.1 tbd rfl rfl rfl (fun z28 ez28 az28 bz28 => ?_)
        refine gz_s 2 (pc' := 54) (L' := [some (.ref x), some (.ref bd), some (.int (zi p)), some (.int (zi zq11)), some (.int (zi zq20))]) (S' := [.int (zi zq11), .int (zi zq20), .int (zi z28), .ref bd]) rfl ?_
        refine gz_call rfl (by decide) rfl (by decide) (by decide) (gcal_of rfl rfl rfl (Nat.le_of_ble_eq_true rfl) rfl) (cl_ScanReader_signed _ sq20.1 zq20 (by omega) zq11 (by omega) uq) (fun q29 _ wq29 => ?_)
        obtain ⟨pq29, oq29, hq29⟩ := q29
        obtain ⟨xq29, zq29, gq29, aq29, bq29⟩ := wq29
        refine ⟨_, gq29, ?_⟩
        show gz gPP gGG gcn _ _ 57 [some (.ref x), some (.ref bd), some (.int (zi p)), some (.int (zi zq11)), some (.int (zi zq20))] [.int (zi zq29), .int (zi z28), .ref bd] hq29 _
        have sq29 : gSs rT 1027 ty [67001, 67002, 67003, 84011, 112999] h hq29 := gSs.tr sq20 xq29 (by decide)
        have s30 := (xq29.2.2.2.2.2 x 0 (by rw [tx]; decide)).trans s21
        have s31 := (xq29.2.2.2.2.2 bi 0 (by rw [tbi]; decide)).trans s22
        have s32 := (xq29.2.2.2.2.2 x 7 (by rw [tx]; decide)).trans s23
        have s33 := (xq29.2.2.2.2.2 pic 2 (by rw [tpic]; decide)).trans s24
        have s34 := (xq29.2.2.2.2.2 src 1 (by rw [tsrc]; decide)).trans s25
        have s35 := (xq29.2.2.2.2.2 bd 9 (by rw [tbd]; decide)).trans s26
        have s36 := (xq29.2.2.2.2.2 bi 1 (by rw [tbi]; decide)).trans efq20_0
        have s37 := (xq29.2.2.2.2.2 bi 3 (by rw [tbi]; decide)).trans efq20_1
        have s38 := (xq29.2.2.2.2.2 bd 11 (by rw [tbd]; decide)).trans ez28
        refine gy_s 1 (pc' := 58) (L' := [some (.ref x), some (.ref bd), some (.int (zi p)), some (.int (zi zq11)), some (.int (zi zq20))]) (S' := [.int ((zi z28) + (zi zq29)), .ref bd]) (L2 := [some (.ref x), some (.ref bd), some (.int (zi p)), some (.int (zi zq11)), some (.int (zi zq20))]) (S2 := [.int (zi (z28 + zq29)), .ref bd]) rfl (by simp only [zi_add, zi_sub, zi_mul, zi_neg, zi_and1, zi_and7, zi_and15, zi_and31, zi_and255]) (by simp only [zi_add, zi_sub, zi_mul, zi_neg, zi_and1, zi_and7, zi_and15, zi_and31, zi_and255]) ?_
        refine gy_any (fun z39 ez39 az39 bz39 => ?_)
        refine gs_put rfl (by decide) rfl sq29 tbd rfl rfl rfl rfl (Or.inl rfl) (by decide) (by omega) (by omega) (fun h40 sh40 eh40 fh40 => ?_)
        have s41 := (fh40 x 0 (fun q => absurd q.2 (by decide))).trans s30
        have s42 := (fh40 bi 0 (fun q => absurd q.2 (by decide))).trans s31
        have s43 := (fh40 x 7 (fun q => absurd q.2 (by decide))).trans s32
        have s44 := (fh40 pic 2 (fun q => absurd q.2 (by decide))).trans s33
        have s45 := (fh40 src 1 (fun q => absurd q.2 (by decide))).trans s34
        have s46 := (fh40 bd 9 (fun q => absurd q.2 (by decide))).trans s35
        have s47 := (fh40 bi 1 (fun q => absurd q.2 (by decide))).trans s36
        have s48 := (fh40 bi 3 (fun q => absurd q.2 (by decide))).trans s37
        refine gz_s 1 (pc' := 62) (L' := [some (.ref x), some (.ref bd), some (.int (zi p)), some (.int (zi zq11)), some (.int (zi zq20))]) (S' := [.ref x]) rfl ?_
        refine gs_gtk rfl (by decide) rfl sh40.1 tx rfl rfl s43 ?_
        refine gs_gtk rfl (by decide) rfl sh40.1 tpic rfl rfl s44 ?_
        refine gz_s 2 (pc' := 70) (L' := [some (.ref x), some (.ref bd), some (.int (zi p)), some (.int (zi zq11)), some (.int (zi zq20))]) (S' := [.ref bd, .int (zi p), .ref co]) rfl ?_
        refine gs_gtk rfl (by decide) rfl sh40.1 tbd rfl rfl eh40 ?_
        refine gz_s 1 (pc' := 74) (L' := [some (.ref x), some (.ref bd), some (.int (zi p)), some (.int (zi zq11)), some (.int (zi zq20))]) (S' := [.ref x, .int (zi z39), .int (zi p), .ref co]) rfl ?_
        refine gs_get rfl (by decide) rfl sh40.1 tx rfl rfl rfl (fun z49 ez49 az49 bz49 => ?_)
        refine gy_iiv rfl (by decide) rfl (fun _ _ => rfl) (fun z50 ez50 az50 bz50 => ?_)
        have hl51 : 0 ≤ h40.2.2.2.1 co ∧ h40.2.2.2.1 co ≤ 12288 := gJ.rowl (G := gGG) sh40.1 tco rfl
        have hl52 : h40.2.2.2.1 co = h.2.2.2.1 co := congrFun sh40.2.2.2.2.1 co
        refine gs_ast rfl (by decide) sh40 tco rfl rfl rfl (by decide) (fun _ => rfl) (by omega) (by omega) (fun _ => (by decide : (112999 : Nat) ∈ ([67001, 67002, 67003, 84011, 112999] : List Nat))) (by omega) (by omega) (fun h53 sh53 eh53 fh53 => ?_)
        have s54 := (fh53 x 0 (fun q => absurd (((tx).symm.trans (congrArg ty q.1)).trans tco) (by decide))).trans s41
        have s55 := (fh53 bi 0 (fun q => absurd (((tbi).symm.trans (congrArg ty q.1)).trans tco) (by decide))).trans s42
        have s56 := (fh53 x 7 (fun q => absurd (((tx).symm.trans (congrArg ty q.1)).trans tco) (by decide))).trans s43
        have s57 := (fh53 pic 2 (fun q => absurd (((tpic).symm.trans (congrArg ty q.1)).trans tco) (by decide))).trans s44
        have s58 := (fh53 src 1 (fun q => absurd (((tsrc).symm.trans (congrArg ty q.1)).trans tco) (by decide))).trans s45
        have s59 := (fh53 bd 9 (fun q => absurd (((tbd).symm.trans (congrArg ty q.1)).trans tco) (by decide))).trans s46
        have s60 := (fh53 bi 1 (fun q => absurd (((tbi).symm.trans (congrArg ty q.1)).trans tco) (by decide))).trans s47
        have s61 := (fh53 bi 3 (fun q => absurd (((tbi).symm.trans (congrArg ty q.1)).trans tco) (by decide))).trans s48
        have s62 := (fh53 bd 11 (fun q => absurd (((tbd).symm.trans (congrArg ty q.1)).trans tco) (by decide))).trans eh40
        have s63 := (fh53 x 5 (fun q => absurd (((tx).symm.trans (congrArg ty q.1)).trans tco) (by decide))).trans ez49
        refine gz_s 1 (pc' := 80) (L' := [some (.ref x), some (.ref bd), some (.int (zi p)), some (.int (zi zq11)), some (.int (zi zq20))]) (S' := [.int (zi 1)]) rfl ?_
        exact gz_end (I := .ireturn) (len := 1) rfl (Or.inl rfl) ⟨sh53, 1, fq20_0, fq20_1, gfin_z rfl rfl (by omega), (by omega), (by omega), s60, (by omega), (by omega), s61, (by omega), (by omega), (by omega)⟩
      · refine gy_ifF rfl (by decide) (by decide) (by omega) hc27 ?_
        refine gz_s 1 (pc' := 45) (L' := [some (.ref x), some (.ref bd), some (.int (zi p)), some (.int (zi zq11)), some (.int (zi zq20))]) (S' := [.int (zi 0)]) rfl ?_
        exact gz_end (I := .ireturn) (len := 1) rfl (Or.inl rfl) ⟨sq20, 0, fq20_0, fq20_1, gfin_z rfl rfl (by omega), (by omega), (by omega), efq20_0, (by omega), (by omega), efq20_1, (by omega), (by omega), (by omega)⟩
    · refine gy_icF rfl (by decide) (by decide) (by omega) (by omega) hc19 ?_
      refine gz_s 1 (pc' := 28) (L' := [some (.ref x), some (.ref bd), some (.int (zi p)), some (.int (zi zq11)), none]) (S' := [.int (zi 0)]) rfl ?_
      exact gz_end (I := .ireturn) (len := 1) rfl (Or.inl rfl) ⟨sq11, 0, fq11_0, fq11_1, gfin_z rfl rfl (by omega), (by omega), (by omega), efq11_0, (by omega), (by omega), efq11_1, (by omega), (by omega), (by omega)⟩
set_option maxRecDepth 20000 in
set_option maxHeartbeats 4000000 in
theorem cl_ScanReader_areOthersRead (d : Nat) {ty : Nat → Nat} {h : gH} (hJ : gJ rT 1027 ty h) (x : Nat) (tx : ty x = 66) (cd : Nat) (tcd : ty cd = 101) (p : Int) (rp : 0 ≤ p ∧ p ≤ 12224) (bi : Nat) (ebi : h.2.2.2.2 x 0 = .ref bi) (tbi : ty bi = 67) (src : Nat) (esrc : h.2.2.2.2 bi 0 = .ref src) (tsrc : ty src = 51) (pic : Nat) (epic : h.2.2.2.2 x 7 = .ref pic) (tpic : ty pic = 54) (co : Nat) (eco : h.2.2.2.2 pic 2 = .ref co) (tco : ty co = 112) (sz : Int) (esz : h.2.2.2.2 src 1 = .int (zi sz)) (rsz : 0 ≤ sz ∧ sz ≤ 2000) (p0 : Int) (ep0 : h.2.2.2.2 bi 1 = .int (zi p0)) (rp0 : 0 ≤ p0 ∧ p0 ≤ 2002) (l0 : Int) (el0 : h.2.2.2.2 bi 3 = .int (zi l0)) (rl0 : 0 ≤ l0 ∧ l0 ≤ 8) (tt : Int) (ett : h.2.2.2.2 x 3 = .int (zi tt)) (rtt : (-1) ≤ tt ∧ tt ≤ 63) (fr : Int) (efr : h.2.2.2.2 x 2 = .int (zi fr)) (rfr : 0 ≤ fr ∧ fr ≤ 63) (pp0 : p + 64 ≤ (h.2.2.2.1 co : Int)) (uq : gUq ty) : gz gPP gGG gcn (d + 2) gt56 0 (gent [.ref x, .ref cd, .int (zi p)] 8) [] h (fun q _ => gSs rT 1027 ty [66014, 67001, 67002, 67003, 112999] h q.2.2 ∧ ∃ z p1 l1 : Int, gfin gt56 q.1 q.2.1 = some (some (.int (zi z))) ∧ 0 ≤ z ∧ z ≤ 1 ∧ q.2.2.2.2.2.2 bi 1 = .int (zi p1) ∧ 0 ≤ p1 ∧ p1 ≤ 2002 ∧ q.2.2.2.2.2.2 bi 3 = .int (zi l1) ∧ 0 ≤ l1 ∧ l1 ≤ 8 ∧ (p0 ≤ p1)) := by
  have hS : gSs rT 1027 ty [66014, 67001, 67002, 67003, 112999] h h := gSs.rf hJ
  refine gz_s 1 (pc' := 1) (L' := [some (.ref x), some (.ref cd), some (.int (zi p)), none, none, none, none, none]) (S' := [.ref x]) rfl ?_
  refine gs_get rfl (by decide) rfl hS.1 tx rfl rfl rfl (fun z1 ez1 az1 bz1 => ?_)
  by_cases hc2 : (z1 : Int) ≤ 0
  · refine gy_ifT (pc' := 19) rfl (by decide) (by decide) (by omega) hc2 ?_
    refine gz_s 2 (pc' := 21) (L' := [some (.ref x), some (.ref cd), some (.int (zi p)), none, none, none, none, none]) (S' := [.ref x, .int (zi 1)]) rfl ?_
    refine gs_gtk rfl (by decide) rfl hS.1 tx rfl rfl efr ?_
    refine gz_call rfl (by decide) rfl (by decide) (by decide) (gcal_of rfl rfl rfl (Nat.le_of_ble_eq_true rfl) rfl) (cl_Math_max _ hS.1 1 (by omega) fr (by omega) ) (fun q3 _ wq3 => ?_)
    obtain ⟨pq3, oq3, hq3⟩ := q3
    obtain ⟨xq3, zq3, gq3, aq3, bq3, uq3_0, uq3_1, uq3_2⟩ := wq3
    refine ⟨_, gq3, ?_⟩
    show gz gPP gGG gcn _ _ 27 [some (.ref x), some (.ref cd), some (.int (zi p)), none, none, none, none, none] [.int (zi zq3)] hq3 _
    have sq3 : gSs rT 1027 ty [66014, 67001, 67002, 67003, 112999] h hq3 := gSs.tr hS xq3 (by decide)
    have s4 := (xq3.2.2.2.2.2 x 0 (by rw [tx]; decide)).trans ebi
    have s5 := (xq3.2.2.2.2.2 bi 0 (by rw [tbi]; decide)).trans esrc
    have s6 := (xq3.2.2.2.2.2 x 7 (by rw [tx]; decide)).trans epic
    have s7 := (xq3.2.2.2.2.2 pic 2 (by rw [tpic]; decide)).trans eco
    have s8 := (xq3.2.2.2.2.2 src 1 (by rw [tsrc]; decide)).trans esz
    have s9 := (xq3.2.2.2.2.2 bi 1 (by rw [tbi]; decide)).trans ep0
    have s10 := (xq3.2.2.2.2.2 bi 3 (by rw [tbi]; decide)).trans el0
    have s11 := (xq3.2.2.2.2.2 x 3 (by rw [tx]; decide)).trans ett
    have s12 := (xq3.2.2.2.2.2 x 2 (by rw [tx]; decide)).trans efr
    have s13 := (xq3.2.2.2.2.2 x 14 (by rw [tx]; decide)).trans ez1
    refine gz_s 1 (pc' := 28) (L' := [some (.ref x), some (.ref cd), some (.int (zi p)), some (.int (zi zq3)), none, none, none, none]) (S' := []) rfl ?_
    have lp14 : ∀ (fu : Nat) (h15 : gH) (k : Int) (pv : Int) (lv : Int), (81 - k).toNat < fu → gSs rT 1027 ty [66014, 67001, 67002, 67003, 112999] h h15 → (1 ≤ k ∧ k ≤ 80) → (0 ≤ pv ∧ pv ≤ 2002) → (0 ≤ lv ∧ lv ≤ 8) → (p0 ≤ pv) → h15.2.2.2.2 x 0 = .ref bi → h15.2.2.2.2 bi 0 = .ref src → h15.2.2.2.2 x 7 = .ref pic → h15.2.2.2.2 pic 2 = .ref co → h15.2.2.2.2 src 1 = .int (zi sz) → h15.2.2.2.2 x 3 = .int (zi tt) → h15.2.2.2.2 x 2 = .int (zi fr) → h15.2.2.2.2 x 14 = .int (zi z1) → h15.2.2.2.2 bi 1 = .int (zi pv) → h15.2.2.2.2 bi 3 = .int (zi lv) → gz gPP gGG gcn (d + 2) gt56 28 [some (.ref x), some (.ref cd), some (.int (zi p)), some (.int (zi k)), none, none, none, none] [] h15 (fun q _ => gSs rT 1027 ty [66014, 67001, 67002, 67003, 112999] h q.2.2 ∧ ∃ z p1 l1 : Int, gfin gt56 q.1 q.2.1 = some (some (.int (zi z))) ∧ 0 ≤ z ∧ z ≤ 1 ∧ q.2.2.2.2.2.2 bi 1 = .int (zi p1) ∧ 0 ≤ p1 ∧ p1 ≤ 2002 ∧ q.2.2.2.2.2.2 bi 3 = .int (zi l1) ∧ 0 ≤ l1 ∧ l1 ≤ 8 ∧ (p0 ≤ p1)) := by
      intro fu
      induction fu with
      | zero => intro h15 k pv lv hm; exact absurd hm (Nat.not_lt_zero _)
      | succ fu ihlp14 =>
        intro h15 k pv lv lp14m sh15 lp14f0 lp14f1 lp14f2 lp14f3 lp14k0 lp14k1 lp14k2 lp14k3 lp14k4 lp14k5 lp14k6 lp14k7 lp14k8 lp14k9
        refine gz_s 2 (pc' := 30) (L' := [some (.ref x), some (.ref cd), some (.int (zi p)), some (.int (zi k)), none, none, none, none]) (S' := [.ref x, .int (zi k)]) rfl ?_
        refine gs_gtk rfl (by decide) rfl sh15.1 tx rfl rfl lp14k5 ?_
        by_cases hc16 : (tt : Int) < k
        · refine gy_icT (pc' := 222) rfl (by decide) (by decide) (by omega) (by omega) hc16 ?_
          refine gz_s 1 (pc' := 223) (L' := [some (.ref x), some (.ref cd), some (.int (zi p)), some (.int (zi k)), none, none, none, none]) (S' := [.int (zi 1)]) rfl ?_
          exact gz_end (I := .ireturn) (len := 1) rfl (Or.inl rfl) ⟨sh15, 1, pv, lv, gfin_z rfl rfl (by omega), (by omega), (by omega), lp14k8, (by omega), (by omega), lp14k9, (by omega), (by omega), (by omega)⟩
        · refine gy_icF rfl (by decide) (by decide) (by omega) (by omega) hc16 ?_
          refine gz_s 1 (pc' := 37) (L' := [some (.ref x), some (.ref cd), some (.int (zi p)), some (.int (zi k)), none, none, none, none]) (S' := [.ref x]) rfl ?_
          refine gs_gtk rfl (by decide) rfl sh15.1 tx rfl rfl lp14k0 ?_
          refine gz_s 1 (pc' := 41) (L' := [some (.ref x), some (.ref cd), some (.int (zi p)), some (.int (zi k)), none, none, none, none]) (S' := [.ref cd, .ref bi]) rfl ?_
          refine gz_call rfl (by decide) rfl (by decide) (by decide) (gcal_of rfl rfl rfl (Nat.le_of_ble_eq_true rfl) (gJ.recv (G := gGG) sh15.1 tbi rfl rfl)) (cl_Bits_nextSymbol _ sh15.1 bi tbi cd tcd src lp14k1 tsrc sz lp14k4 (by omega) pv lp14k8 (by omega) lv lp14k9 (by omega) uq) (fun q17 _ wq17 => ?_)
          obtain ⟨pq17, oq17, hq17⟩ := q17
          obtain ⟨xq17, zq17, fq17_0, fq17_1, gq17, aq17, bq17, efq17_0, afq17_0, bfq17_0, efq17_1, afq17_1, bfq17_1, uq17_0⟩ := wq17
          refine ⟨_, gq17, ?_⟩
          show gz gPP gGG gcn _ _ 44 [some (.ref x), some (.ref cd), some (.int (zi p)), some (.int (zi k)), none, none, none, none] [.int (zi zq17)] hq17 _
          have sq17 : gSs rT 1027 ty [66014, 67001, 67002, 67003, 112999] h hq17 := gSs.tr sh15 xq17 (by decide)
          have s18 := (xq17.2.2.2.2.2 x 0 (by rw [tx]; decide)).trans lp14k0
          have s19 := (xq17.2.2.2.2.2 bi 0 (by rw [tbi]; decide)).trans lp14k1
          have s20 := (xq17.2.2.2.2.2 x 7 (by rw [tx]; decide)).trans lp14k2
          have s21 := (xq17.2.2.2.2.2 pic 2 (by rw [tpic]; decide)).trans lp14k3
          have s22 := (xq17.2.2.2.2.2 src 1 (by rw [tsrc]; decide)).trans lp14k4
          have s23 := (xq17.2.2.2.2.2 x 3 (by rw [tx]; decide)).trans lp14k5
          have s24 := (xq17.2.2.2.2.2 x 2 (by rw [tx]; decide)).trans lp14k6
          have s25 := (xq17.2.2.2.2.2 x 14 (by rw [tx]; decide)).trans lp14k7
          refine gz_s 3 (pc' := 49) (L' := [some (.ref x), some (.ref cd), some (.int (zi p)), some (.int (zi k)), some (.int (zi zq17)), none, none, none]) (S' := [.int (zi 4), .int (zi zq17)]) rfl ?_
          refine gy_shc (n := 4) (v := 16) rfl (by decide) (by omega) (by decide) (by decide) rfl ?_
          refine gy_s 6 (pc' := 61) (L' := [some (.ref x), some (.ref cd), some (.int (zi p)), some (.int (zi k)), some (.int (zi zq17)), some (.int (zi (zq17 / 16))), some (.int ((zi zq17) &&& (zi 15))), none]) (S' := [.int (zi zq17)]) (L2 := [some (.ref x), some (.ref cd), some (.int (zi p)), some (.int (zi k)), some (.int (zi zq17)), some (.int (zi (zq17 / 16))), some (.int (zi (zq17 % 16))), none]) (S2 := [.int (zi zq17)]) rfl (by simp only [zi_add, zi_sub, zi_mul, zi_neg, zi_and1, zi_and7, zi_and15, zi_and31, zi_and255]) (by simp only [zi_add, zi_sub, zi_mul, zi_neg, zi_and1, zi_and7, zi_and15, zi_and31, zi_and255]) ?_
          by_cases hc26 : (zq17 : Int) < 0
          · refine gy_ifT (pc' := 71) rfl (by decide) (by decide) (by omega) hc26 ?_
            refine gz_s 1 (pc' := 72) (L' := [some (.ref x), some (.ref cd), some (.int (zi p)), some (.int (zi k)), some (.int (zi zq17)), some (.int (zi (zq17 / 16))), some (.int (zi (zq17 % 16))), none]) (S' := [.int (zi 0)]) rfl ?_
            exact gz_end (I := .ireturn) (len := 1) rfl (Or.inl rfl) ⟨sq17, 0, fq17_0, fq17_1, gfin_z rfl rfl (by omega), (by omega), (by omega), efq17_0, (by omega), (by omega), efq17_1, (by omega), (by omega), (by omega)⟩
          · refine gy_ifF rfl (by decide) (by decide) (by omega) hc26 ?_
            refine gz_s 2 (pc' := 68) (L' := [some (.ref x), some (.ref cd), some (.int (zi p)), some (.int (zi k)), some (.int (zi zq17)), some (.int (zi (zq17 / 16))), some (.int (zi (zq17 % 16))), none]) (S' := [.int (zi 10), .int (zi (zq17 % 16))]) rfl ?_
            by_cases hc27 : (zq17 % 16 : Int) ≤ 10
            · refine gy_icT (pc' := 73) rfl (by decide) (by decide) (by omega) (by omega) hc27 ?_
              refine gz_s 1 (pc' := 75) (L' := [some (.ref x), some (.ref cd), some (.int (zi p)), some (.int (zi k)), some (.int (zi zq17)), some (.int (zi (zq17 / 16))), some (.int (zi (zq17 % 16))), none]) (S' := [.int (zi (zq17 % 16))]) rfl ?_
              by_cases hc28 : ¬ (zq17 % 16 : Int) = 0
              · refine gy_ifT (pc' := 153) rfl (by decide) (by decide) (by omega) hc28 ?_
                refine gy_s 5 (pc' := 160) (L' := [some (.ref x), some (.ref cd), some (.int (zi p)), some (.int ((zi k) + (zi (zq17 / 16)))), some (.int (zi zq17)), some (.int (zi (zq17 / 16))), some (.int (zi (zq17 % 16))), none]) (S' := [.int (zi (zq17 % 16))]) (L2 := [some (.ref x), some (.ref cd), some (.int (zi p)), some (.int (zi (k + (zq17 / 16)))), some (.int (zi zq17)), some (.int (zi (zq17 / 16))), some (.int (zi (zq17 % 16))), none]) (S2 := [.int (zi (zq17 % 16))]) rfl (by simp only [zi_add, zi_sub, zi_mul, zi_neg, zi_and1, zi_and7, zi_and15, zi_and31, zi_and255]) (by simp only [zi_add, zi_sub, zi_mul, zi_neg, zi_and1, zi_and7, zi_and15, zi_and31, zi_and255]) ?_
                refine gy_ifF rfl (by decide) (by decide) (by omega) (by first | (simp [zc]; done) | (simp only [zc]; omega)) ?_
                refine gz_s 2 (pc' := 165) (L' := [some (.ref x), some (.ref cd), some (.int (zi p)), some (.int (zi (k + (zq17 / 16)))), some (.int (zi zq17)), some (.int (zi (zq17 / 16))), some (.int (zi (zq17 % 16))), none]) (S' := [.ref x, .int (zi (k + (zq17 / 16)))]) rfl ?_
                refine gs_gtk rfl (by decide) rfl sq17.1 tx rfl rfl s23 ?_
                by_cases hc29 : (k + (zq17 / 16) : Int) ≤ tt
                · refine gy_icT (pc' := 175) rfl (by decide) (by decide) (by omega) (by omega) hc29 ?_
                  refine gz_s 1 (pc' := 176) (L' := [some (.ref x), some (.ref cd), some (.int (zi p)), some (.int (zi (k + (zq17 / 16)))), some (.int (zi zq17)), some (.int (zi (zq17 / 16))), some (.int (zi (zq17 % 16))), none]) (S' := [.ref x]) rfl ?_
                  refine gs_gtk rfl (by decide) rfl sq17.1 tx rfl rfl s18 ?_
                  refine gz_s 1 (pc' := 181) (L' := [some (.ref x), some (.ref cd), some (.int (zi p)), some (.int (zi (k + (zq17 / 16)))), some (.int (zi zq17)), some (.int (zi (zq17 / 16))), some (.int (zi (zq17 % 16))), none]) (S' := [.int (zi (zq17 % 16)), .ref bi]) rfl ?_
                  refine gz_call rfl (by decide) rfl (by decide) (by decide) (gcal_of rfl rfl rfl (Nat.le_of_ble_eq_true rfl) (gJ.recv (G := gGG) sq17.1 tbi rfl rfl)) (cl_Bits_nextNumber _ sq17.1 bi tbi (zq17 % 16) (by omega) src s19 tsrc sz s22 (by omega) fq17_0 efq17_0 (by omega) fq17_1 efq17_1 (by omega) uq) (fun q30 _ wq30 => ?_)
                  obtain ⟨pq30, oq30, hq30⟩ := q30
                  obtain ⟨xq30, zq30, fq30_0, fq30_1, gq30, aq30, bq30, efq30_0, afq30_0, bfq30_0, efq30_1, afq30_1, bfq30_1, uq30_0⟩ := wq30
                  refine ⟨_, gq30, ?_⟩
                  show gz gPP gGG gcn _ _ 184 [some (.ref x), some (.ref cd), some (.int (zi p)), some (.int (zi (k + (zq17 / 16)))), some (.int (zi zq17)), some (.int (zi (zq17 / 16))), some (.int (zi (zq17 % 16))), none] [.int (zi zq30)] hq30 _
                  have sq30 : gSs rT 1027 ty [66014, 67001, 67002, 67003, 112999] h hq30 := gSs.tr sq17 xq30 (by decide)
                  have s31 := (xq30.2.2.2.2.2 x 0 (by rw [tx]; decide)).trans s18
                  have s32 := (xq30.2.2.2.2.2 bi 0 (by rw [tbi]; decide)).trans s19
                  have s33 := (xq30.2.2.2.2.2 x 7 (by rw [tx]; decide)).trans s20
                  have s34 := (xq30.2.2.2.2.2 pic 2 (by rw [tpic]; decide)).trans s21
                  have s35 := (xq30.2.2.2.2.2 src 1 (by rw [tsrc]; decide)).trans s22
                  have s36 := (xq30.2.2.2.2.2 x 3 (by rw [tx]; decide)).trans s23
                  have s37 := (xq30.2.2.2.2.2 x 2 (by rw [tx]; decide)).trans s24
                  have s38 := (xq30.2.2.2.2.2 x 14 (by rw [tx]; decide)).trans s25
                  refine gz_s 2 (pc' := 188) (L' := [some (.ref x), some (.ref cd), some (.int (zi p)), some (.int (zi (k + (zq17 / 16)))), some (.int (zi zq17)), some (.int (zi (zq17 / 16))), some (.int (zi (zq17 % 16))), some (.int (zi zq30))]) (S' := [.int (zi zq30)]) rfl ?_
                  by_cases hc39 : (0 : Int) ≤ zq30
                  · refine gy_ifT (pc' := 193) rfl (by decide) (by decide) (by omega) hc39 ?_
                    refine gz_s 1 (pc' := 194) (L' := [some (.ref x), some (.ref cd), some (.int (zi p)), some (.int (zi (k + (zq17 / 16)))), some (.int (zi zq17)), some (.int (zi (zq17 / 16))), some (.int (zi (zq17 % 16))), some (.int (zi zq30))]) (S' := [.ref x]) rfl ?_
                    refine gs_gtk rfl (by decide) rfl sq30.1 tx rfl rfl s33 ?_
                    refine gs_gtk rfl (by decide) rfl sq30.1 tpic rfl rfl s34 ?_
                    refine gy_s 5 (pc' := 207) (L' := [some (.ref x), some (.ref cd), some (.int (zi p)), some (.int (zi (k + (zq17 / 16)))), some (.int (zi zq17)), some (.int (zi (zq17 / 16))), some (.int (zi (zq17 % 16))), some (.int (zi zq30))]) (S' := [.int (zi (zq17 % 16)), .int (zi zq30), .int ((zi p) + (zi (k + (zq17 / 16)))), .ref co]) (L2 := [some (.ref x), some (.ref cd), some (.int (zi p)), some (.int (zi (k + (zq17 / 16)))), some (.int (zi zq17)), some (.int (zi (zq17 / 16))), some (.int (zi (zq17 % 16))), some (.int (zi zq30))]) (S2 := [.int (zi (zq17 % 16)), .int (zi zq30), .int (zi (p + (k + (zq17 / 16)))), .ref co]) rfl (by simp only [zi_add, zi_sub, zi_mul, zi_neg, zi_and1, zi_and7, zi_and15, zi_and31, zi_and255]) (by simp only [zi_add, zi_sub, zi_mul, zi_neg, zi_and1, zi_and7, zi_and15, zi_and31, zi_and255]) ?_
                    refine gz_call rfl (by decide) rfl (by decide) (by decide) (gcal_of rfl rfl rfl (Nat.le_of_ble_eq_true rfl) rfl) (cl_ScanReader_signed _ sq30.1 zq30 (by omega) (zq17 % 16) (by omega) uq) (fun q40 _ wq40 => ?_)
                    obtain ⟨pq40, oq40, hq40⟩ := q40
                    obtain ⟨xq40, zq40, gq40, aq40, bq40⟩ := wq40
                    refine ⟨_, gq40, ?_⟩
                    show gz gPP gGG gcn _ _ 210 [some (.ref x), some (.ref cd), some (.int (zi p)), some (.int (zi (k + (zq17 / 16)))), some (.int (zi zq17)), some (.int (zi (zq17 / 16))), some (.int (zi (zq17 % 16))), some (.int (zi zq30))] [.int (zi zq40), .int (zi (p + (k + (zq17 / 16)))), .ref co] hq40 _
                    have sq40 : gSs rT 1027 ty [66014, 67001, 67002, 67003, 112999] h hq40 := gSs.tr sq30 xq40 (by decide)
                    have s41 := (xq40.2.2.2.2.2 x 0 (by rw [tx]; decide)).trans s31
                    have s42 := (xq40.2.2.2.2.2 bi 0 (by rw [tbi]; decide)).trans s32
                    have s43 := (xq40.2.2.2.2.2 x 7 (by rw [tx]; decide)).trans s33
                    have s44 := (xq40.2.2.2.2.2 pic 2 (by rw [tpic]; decide)).trans s34
                    have s45 := (xq40.2.2.2.2.2 src 1 (by rw [tsrc]; decide)).trans s35
                    have s46 := (xq40.2.2.2.2.2 x 3 (by rw [tx]; decide)).trans s36
                    have s47 := (xq40.2.2.2.2.2 x 2 (by rw [tx]; decide)).trans s37
                    have s48 := (xq40.2.2.2.2.2 x 14 (by rw [tx]; decide)).trans s38
                    have s49 := (xq40.2.2.2.2.2 bi 1 (by rw [tbi]; decide)).trans efq30_0
                    have s50 := (xq40.2.2.2.2.2 bi 3 (by rw [tbi]; decide)).trans efq30_1
                    refine gz_s 1 (pc' := 211) (L' := [some (.ref x), some (.ref cd), some (.int (zi p)), some (.int (zi (k + (zq17 / 16)))), some (.int (zi zq17)), some (.int (zi (zq17 / 16))), some (.int (zi (zq17 % 16))), some (.int (zi zq30))]) (S' := [.ref x, .int (zi zq40), .int (zi (p + (k + (zq17 / 16)))), .ref co]) rfl ?_
                    refine gs_get rfl (by decide) rfl sq40.1 tx rfl rfl rfl (fun z51 ez51 az51 bz51 => ?_)
                    refine gy_iiv rfl (by decide) rfl (fun _ _ => rfl) (fun z52 ez52 az52 bz52 => ?_)
                    have hl53 : 0 ≤ hq40.2.2.2.1 co ∧ hq40.2.2.2.1 co ≤ 12288 := gJ.rowl (G := gGG) sq40.1 tco rfl
                    have hl54 : hq40.2.2.2.1 co = h.2.2.2.1 co := congrFun sq40.2.2.2.2.1 co
                    refine gs_ast rfl (by decide) sq40 tco rfl rfl rfl (by decide) (fun _ => rfl) (by omega) (by omega) (fun _ => (by decide : (112999 : Nat) ∈ ([66014, 67001, 67002, 67003, 112999] : List Nat))) (by omega) (by omega) (fun h55 sh55 eh55 fh55 => ?_)
                    have s56 := (fh55 x 0 (fun q => absurd (((tx).symm.trans (congrArg ty q.1)).trans tco) (by decide))).trans s41
                    have s57 := (fh55 bi 0 (fun q => absurd (((tbi).symm.trans (congrArg ty q.1)).trans tco) (by decide))).trans s42
                    have s58 := (fh55 x 7 (fun q => absurd (((tx).symm.trans (congrArg ty q.1)).trans tco) (by decide))).trans s43
                    have s59 := (fh55 pic 2 (fun q => absurd (((tpic).symm.trans (congrArg ty q.1)).trans tco) (by decide))).trans s44
                    have s60 := (fh55 src 1 (fun q => absurd (((tsrc).symm.trans (congrArg ty q.1)).trans tco) (by decide))).trans s45
                    have s61 := (fh55 x 3 (fun q => absurd (((tx).symm.trans (congrArg ty q.1)).trans tco) (by decide))).trans s46
                    have s62 := (fh55 x 2 (fun q => absurd (((tx).symm.trans (congrArg ty q.1)).trans tco) (by decide))).trans s47
                    have s63 := (fh55 x 14 (fun q => absurd (((tx).symm.trans (congrArg ty q.1)).trans tco) (by decide))).trans s48
                    have s64 := (fh55 bi 1 (fun q => absurd (((tbi).symm.trans (congrArg ty q.1)).trans tco) (by decide))).trans s49
                    have s65 := (fh55 bi 3 (fun q => absurd (((tbi).symm.trans (congrArg ty q.1)).trans tco) (by decide))).trans s50
                    have s66 := (fh55 x 5 (fun q => absurd (((tx).symm.trans (congrArg ty q.1)).trans tco) (by decide))).trans ez51
                    refine gy_s 2 (pc' := 28) (L' := [some (.ref x), some (.ref cd), some (.int (zi p)), some (.int ((zi (k + (zq17 / 16))) + zi 1)), some (.int (zi zq17)), some (.int (zi (zq17 / 16))), some (.int (zi (zq17 % 16))), some (.int (zi zq30))]) (S' := []) (L2 := [some (.ref x), some (.ref cd), some (.int (zi p)), some (.int (zi ((k + (zq17 / 16)) + 1))), some (.int (zi zq17)), some (.int (zi (zq17 / 16))), some (.int (zi (zq17 % 16))), some (.int (zi zq30))]) (S2 := []) rfl (by simp only [zi_add, zi_sub, zi_mul, zi_neg, zi_and1, zi_and7, zi_and15, zi_and31, zi_and255]) (by simp only [zi_add, zi_sub, zi_mul, zi_neg, zi_and1, zi_and7, zi_and15, zi_and31, zi_and255]) ?_
                    exact gz_wk (ihlp14 h55 ((k + (zq17 / 16)) + 1) fq30_0 fq30_1 (by omega) sh55 (by omega) (by omega) (by omega) (by omega) s56 s57 s58 s59 s60 s61 s62 s63 s64 s65) (gLw.s (gLw.s (gLw.s (gLw.s (gLw.n (gLw.n (gLw.n (gLw.n gLw.z))))))))
                  · refine gy_ifF rfl (by decide) (by decide) (by omega) hc39 ?_
                    refine gz_s 1 (pc' := 192) (L' := [some (.ref x), some (.ref cd), some (.int (zi p)), some (.int (zi (k + (zq17 / 16)))), some (.int (zi zq17)), some (.int (zi (zq17 / 16))), some (.int (zi (zq17 % 16))), some (.int (zi zq30))]) (S' := [.int (zi 0)]) rfl ?_
                    exact gz_end (I := .ireturn) (len := 1) rfl (Or.inl rfl) ⟨sq30, 0, fq30_0, fq30_1, gfin_z rfl rfl (by omega), (by omega), (by omega), efq30_0, (by omega), (by omega), efq30_1, (by omega), (by omega), (by omega)⟩
                · refine gy_icF rfl (by decide) (by decide) (by omega) (by omega) hc29 ?_
                  refine gz_s 4 (pc' := 188) (L' := [some (.ref x), some (.ref cd), some (.int (zi p)), some (.int (zi (k + (zq17 / 16)))), some (.int (zi zq17)), some (.int (zi (zq17 / 16))), some (.int (zi (zq17 % 16))), some (.int (zi (-1)))]) (S' := [.int (zi (-1))]) rfl ?_
                  refine gy_ifF rfl (by decide) (by decide) (by omega) (by first | (simp [zc]; done) | (simp only [zc]; omega)) ?_
                  refine gz_s 1 (pc' := 192) (L' := [some (.ref x), some (.ref cd), some (.int (zi p)), some (.int (zi (k + (zq17 / 16)))), some (.int (zi zq17)), some (.int (zi (zq17 / 16))), some (.int (zi (zq17 % 16))), some (.int (zi (-1)))]) (S' := [.int (zi 0)]) rfl ?_
                  exact gz_end (I := .ireturn) (len := 1) rfl (Or.inl rfl) ⟨sq17, 0, fq17_0, fq17_1, gfin_z rfl rfl (by omega), (by omega), (by omega), efq17_0, (by omega), (by omega), efq17_1, (by omega), (by omega), (by omega)⟩
              · refine gy_ifF rfl (by decide) (by decide) (by omega) hc28 ?_
                refine gz_s 2 (pc' := 82) (L' := [some (.ref x), some (.ref cd), some (.int (zi p)), some (.int (zi k)), some (.int (zi zq17)), some (.int (zi (zq17 / 16))), some (.int (zi (zq17 % 16))), none]) (S' := [.int (zi 15), .int (zi (zq17 / 16))]) rfl ?_
                by_cases hc67 : (15 : Int) ≤ zq17 / 16
                · refine gy_icT (pc' := 153) rfl (by decide) (by decide) (by omega) (by omega) hc67 ?_
                  refine gy_s 5 (pc' := 160) (L' := [some (.ref x), some (.ref cd), some (.int (zi p)), some (.int ((zi k) + (zi (zq17 / 16)))), some (.int (zi zq17)), some (.int (zi (zq17 / 16))), some (.int (zi (zq17 % 16))), none]) (S' := [.int (zi (zq17 % 16))]) (L2 := [some (.ref x), some (.ref cd), some (.int (zi p)), some (.int (zi (k + (zq17 / 16)))), some (.int (zi zq17)), some (.int (zi (zq17 / 16))), some (.int (zi (zq17 % 16))), none]) (S2 := [.int (zi (zq17 % 16))]) rfl (by simp only [zi_add, zi_sub, zi_mul, zi_neg, zi_and1, zi_and7, zi_and15, zi_and31, zi_and255]) (by simp only [zi_add, zi_sub, zi_mul, zi_neg, zi_and1, zi_and7, zi_and15, zi_and31, zi_and255]) ?_
                  refine gy_ifT (pc' := 216) rfl (by decide) (by decide) (by omega) (by first | (simp [zc]; done) | (simp only [zc]; omega)) ?_
                  refine gy_s 2 (pc' := 28) (L' := [some (.ref x), some (.ref cd), some (.int (zi p)), some (.int ((zi (k + (zq17 / 16))) + zi 1)), some (.int (zi zq17)), some (.int (zi (zq17 / 16))), some (.int (zi (zq17 % 16))), none]) (S' := []) (L2 := [some (.ref x), some (.ref cd), some (.int (zi p)), some (.int (zi ((k + (zq17 / 16)) + 1))), some (.int (zi zq17)), some (.int (zi (zq17 / 16))), some (.int (zi (zq17 % 16))), none]) (S2 := []) rfl (by simp only [zi_add, zi_sub, zi_mul, zi_neg, zi_and1, zi_and7, zi_and15, zi_and31, zi_and255]) (by simp only [zi_add, zi_sub, zi_mul, zi_neg, zi_and1, zi_and7, zi_and15, zi_and31, zi_and255]) ?_
                  exact gz_wk (ihlp14 hq17 ((k + (zq17 / 16)) + 1) fq17_0 fq17_1 (by omega) sq17 (by omega) (by omega) (by omega) (by omega) s18 s19 s20 s21 s22 s23 s24 s25 efq17_0 efq17_1) (gLw.s (gLw.s (gLw.s (gLw.s (gLw.n (gLw.n (gLw.n (gLw.n gLw.z))))))))
                · refine gy_icF rfl (by decide) (by decide) (by omega) (by omega) hc67 ?_
                  refine gz_s 1 (pc' := 86) (L' := [some (.ref x), some (.ref cd), some (.int (zi p)), some (.int (zi k)), some (.int (zi zq17)), some (.int (zi (zq17 / 16))), some (.int (zi (zq17 % 16))), none]) (S' := [.ref x]) rfl ?_
                  refine gs_gtk rfl (by decide) rfl sq17.1 tx rfl rfl s20 ?_
                  refine gs_get rfl (by decide) rfl sq17.1 tpic rfl rfl rfl (fun z68 ez68 az68 bz68 => ?_)
                  by_cases hc69 : (z68 : Int) = 0
                  · refine gy_ifT (pc' := 107) rfl (by decide) (by decide) (by omega) hc69 ?_
                    refine gz_s 4 (pc' := 112) (L' := [some (.ref x), some (.ref cd), some (.int (zi p)), some (.int (zi k)), some (.int (zi zq17)), some (.int (zi (zq17 / 16))), some (.int (zi (zq17 % 16))), some (.int (zi 0))]) (S' := [.ref x, .ref x]) rfl ?_
                    refine gs_gtk rfl (by decide) rfl sq17.1 tx rfl rfl s20 ?_
                    refine gs_gtk rfl (by decide) rfl sq17.1 tpic rfl rfl ez68 ?_
                    refine gy_ifT (pc' := 138) rfl (by decide) (by decide) (by omega) (by first | (simp [zc]; done) | (simp only [zc]; omega)) ?_
                    refine gz_s 1 (pc' := 139) (L' := [some (.ref x), some (.ref cd), some (.int (zi p)), some (.int (zi k)), some (.int (zi zq17)), some (.int (zi (zq17 / 16))), some (.int (zi (zq17 % 16))), some (.int (zi 0))]) (S' := [.int (zi 0), .ref x]) rfl ?_
                    refine gs_put rfl (by decide) rfl sq17 tx rfl rfl rfl rfl (Or.inl rfl) (by decide) (by omega) (by omega) (fun h70 sh70 eh70 fh70 => ?_)
                    have s71 := (fh70 x 0 (fun q => absurd q.2 (by decide))).trans s18
                    have s72 := (fh70 bi 0 (fun q => absurd q.2 (by decide))).trans s19
                    have s73 := (fh70 x 7 (fun q => absurd q.2 (by decide))).trans s20
                    have s74 := (fh70 pic 2 (fun q => absurd q.2 (by decide))).trans s21
                    have s75 := (fh70 src 1 (fun q => absurd q.2 (by decide))).trans s22
                    have s76 := (fh70 x 3 (fun q => absurd q.2 (by decide))).trans s23
                    have s77 := (fh70 x 2 (fun q => absurd q.2 (by decide))).trans s24
                    have s78 := (fh70 bi 1 (fun q => absurd q.2 (by decide))).trans efq17_0
                    have s79 := (fh70 bi 3 (fun q => absurd q.2 (by decide))).trans efq17_1
                    have s80 := (fh70 pic 4 (fun q => absurd q.2 (by decide))).trans ez68
                    refine gz_s 1 (pc' := 144) (L' := [some (.ref x), some (.ref cd), some (.int (zi p)), some (.int (zi k)), some (.int (zi zq17)), some (.int (zi (zq17 / 16))), some (.int (zi (zq17 % 16))), some (.int (zi 0))]) (S' := [.int (zi 0)]) rfl ?_
                    refine gy_ifF rfl (by decide) (by decide) (by omega) (by first | (simp [zc]; done) | (simp only [zc]; omega)) ?_
                    refine gz_s 2 (pc' := 152) (L' := [some (.ref x), some (.ref cd), some (.int (zi p)), some (.int (zi k)), some (.int (zi zq17)), some (.int (zi (zq17 / 16))), some (.int (zi (zq17 % 16))), some (.int (zi 0))]) (S' := [.int (zi 1)]) rfl ?_
                    exact gz_end (I := .ireturn) (len := 1) rfl (Or.inl rfl) ⟨sh70, 1, fq17_0, fq17_1, gfin_z rfl rfl (by omega), (by omega), (by omega), s78, (by omega), (by omega), s79, (by omega), (by omega), (by omega)⟩
                  · refine gy_ifF rfl (by decide) (by decide) (by omega) hc69 ?_
                    refine gz_s 1 (pc' := 96) (L' := [some (.ref x), some (.ref cd), some (.int (zi p)), some (.int (zi k)), some (.int (zi zq17)), some (.int (zi (zq17 / 16))), some (.int (zi (zq17 % 16))), none]) (S' := [.ref x]) rfl ?_
                    refine gs_gtk rfl (by decide) rfl sq17.1 tx rfl rfl s18 ?_
                    refine gz_s 1 (pc' := 101) (L' := [some (.ref x), some (.ref cd), some (.int (zi p)), some (.int (zi k)), some (.int (zi zq17)), some (.int (zi (zq17 / 16))), some (.int (zi (zq17 % 16))), none]) (S' := [.int (zi (zq17 / 16)), .ref bi]) rfl ?_
                    refine gz_call rfl (by decide) rfl (by decide) (by decide) (gcal_of rfl rfl rfl (Nat.le_of_ble_eq_true rfl) (gJ.recv (G := gGG) sq17.1 tbi rfl rfl)) (cl_Bits_nextNumber _ sq17.1 bi tbi (zq17 / 16) (by omega) src s19 tsrc sz s22 (by omega) fq17_0 efq17_0 (by omega) fq17_1 efq17_1 (by omega) uq) (fun q81 _ wq81 => ?_)
                    obtain ⟨pq81, oq81, hq81⟩ := q81
                    obtain ⟨xq81, zq81, fq81_0, fq81_1, gq81, aq81, bq81, efq81_0, afq81_0, bfq81_0, efq81_1, afq81_1, bfq81_1, uq81_0⟩ := wq81
                    refine ⟨_, gq81, ?_⟩
                    show gz gPP gGG gcn _ _ 104 [some (.ref x), some (.ref cd), some (.int (zi p)), some (.int (zi k)), some (.int (zi zq17)), some (.int (zi (zq17 / 16))), some (.int (zi (zq17 % 16))), none] [.int (zi zq81)] hq81 _
                    have sq81 : gSs rT 1027 ty [66014, 67001, 67002, 67003, 112999] h hq81 := gSs.tr sq17 xq81 (by decide)
                    have s82 := (xq81.2.2.2.2.2 x 0 (by rw [tx]; decide)).trans s18
                    have s83 := (xq81.2.2.2.2.2 bi 0 (by rw [tbi]; decide)).trans s19
                    have s84 := (xq81.2.2.2.2.2 x 7 (by rw [tx]; decide)).trans s20
                    have s85 := (xq81.2.2.2.2.2 pic 2 (by rw [tpic]; decide)).trans s21
                    have s86 := (xq81.2.2.2.2.2 src 1 (by rw [tsrc]; decide)).trans s22
                    have s87 := (xq81.2.2.2.2.2 x 3 (by rw [tx]; decide)).trans s23
                    have s88 := (xq81.2.2.2.2.2 x 2 (by rw [tx]; decide)).trans s24
                    have s89 := (xq81.2.2.2.2.2 x 14 (by rw [tx]; decide)).trans s25
                    have s90 := (xq81.2.2.2.2.2 pic 4 (by rw [tpic]; decide)).trans ez68
                    refine gz_s 4 (pc' := 112) (L' := [some (.ref x), some (.ref cd), some (.int (zi p)), some (.int (zi k)), some (.int (zi zq17)), some (.int (zi (zq17 / 16))), some (.int (zi (zq17 % 16))), some (.int (zi zq81))]) (S' := [.ref x, .ref x]) rfl ?_
                    refine gs_gtk rfl (by decide) rfl sq81.1 tx rfl rfl s84 ?_
                    refine gs_gtk rfl (by decide) rfl sq81.1 tpic rfl rfl s90 ?_
                    refine gy_ifF rfl (by decide) (by decide) (by omega) (by first | (simp [zc]; done) | (simp only [zc]; omega)) ?_
                    refine gz_s 1 (pc' := 123) (L' := [some (.ref x), some (.ref cd), some (.int (zi p)), some (.int (zi k)), some (.int (zi zq17)), some (.int (zi (zq17 / 16))), some (.int (zi (zq17 % 16))), some (.int (zi zq81))]) (S' := [.int (zi zq81), .ref x]) rfl ?_
                    by_cases hc91 : (zq81 : Int) < 0
                    · refine gy_ifT (pc' := 138) rfl (by decide) (by decide) (by omega) hc91 ?_
                      refine gz_s 1 (pc' := 139) (L' := [some (.ref x), some (.ref cd), some (.int (zi p)), some (.int (zi k)), some (.int (zi zq17)), some (.int (zi (zq17 / 16))), some (.int (zi (zq17 % 16))), some (.int (zi zq81))]) (S' := [.int (zi 0), .ref x]) rfl ?_
                      refine gs_put rfl (by decide) rfl sq81 tx rfl rfl rfl rfl (Or.inl rfl) (by decide) (by omega) (by omega) (fun h92 sh92 eh92 fh92 => ?_)
                      have s93 := (fh92 x 0 (fun q => absurd q.2 (by decide))).trans s82
                      have s94 := (fh92 bi 0 (fun q => absurd q.2 (by decide))).trans s83
                      have s95 := (fh92 x 7 (fun q => absurd q.2 (by decide))).trans s84
                      have s96 := (fh92 pic 2 (fun q => absurd q.2 (by decide))).trans s85
                      have s97 := (fh92 src 1 (fun q => absurd q.2 (by decide))).trans s86
                      have s98 := (fh92 x 3 (fun q => absurd q.2 (by decide))).trans s87
                      have s99 := (fh92 x 2 (fun q => absurd q.2 (by decide))).trans s88
                      have s100 := (fh92 pic 4 (fun q => absurd q.2 (by decide))).trans s90
                      have s101 := (fh92 bi 1 (fun q => absurd q.2 (by decide))).trans efq81_0
                      have s102 := (fh92 bi 3 (fun q => absurd q.2 (by decide))).trans efq81_1
                      refine gz_s 1 (pc' := 144) (L' := [some (.ref x), some (.ref cd), some (.int (zi p)), some (.int (zi k)), some (.int (zi zq17)), some (.int (zi (zq17 / 16))), some (.int (zi (zq17 % 16))), some (.int (zi zq81))]) (S' := [.int (zi zq81)]) rfl ?_
                      refine gy_ifT (pc' := 151) rfl (by decide) (by decide) (by omega) (by first | (simp [zc]; done) | (simp only [zc]; omega)) ?_
                      refine gz_s 1 (pc' := 152) (L' := [some (.ref x), some (.ref cd), some (.int (zi p)), some (.int (zi k)), some (.int (zi zq17)), some (.int (zi (zq17 / 16))), some (.int (zi (zq17 % 16))), some (.int (zi zq81))]) (S' := [.int (zi 0)]) rfl ?_
                      exact gz_end (I := .ireturn) (len := 1) rfl (Or.inl rfl) ⟨sh92, 0, fq81_0, fq81_1, gfin_z rfl rfl (by omega), (by omega), (by omega), s101, (by omega), (by omega), s102, (by omega), (by omega), (by omega)⟩
                    · refine gy_ifF rfl (by decide) (by decide) (by omega) hc91 ?_
                      refine gz_s 2 (pc' := 129) (L' := [some (.ref x), some (.ref cd), some (.int (zi p)), some (.int (zi k)), some (.int (zi zq17)), some (.int (zi (zq17 / 16))), some (.int (zi (zq17 % 16))), some (.int (zi zq81))]) (S' := [.int (zi (zq17 / 16)), .int (zi 1), .ref x]) rfl ?_
                      refine gy_sh1 rfl (by decide) (by omega) (fun z103 az103 bz103 cz103 => ?_)
                      refine gy_s 5 (pc' := 139) (L' := [some (.ref x), some (.ref cd), some (.int (zi p)), some (.int (zi k)), some (.int (zi zq17)), some (.int (zi (zq17 / 16))), some (.int (zi (zq17 % 16))), some (.int (zi zq81))]) (S' := [.int (((zi z103) + (zi zq81)) - (zi 1)), .ref x]) (L2 := [some (.ref x), some (.ref cd), some (.int (zi p)), some (.int (zi k)), some (.int (zi zq17)), some (.int (zi (zq17 / 16))), some (.int (zi (zq17 % 16))), some (.int (zi zq81))]) (S2 := [.int (zi ((z103 + zq81) - 1)), .ref x]) rfl (by simp only [zi_add, zi_sub, zi_mul, zi_neg, zi_and1, zi_and7, zi_and15, zi_and31, zi_and255]) (by simp only [zi_add, zi_sub, zi_mul, zi_neg, zi_and1, zi_and7, zi_and15, zi_and31, zi_and255]) ?_
                      refine gs_put rfl (by decide) rfl sq81 tx rfl rfl rfl rfl (Or.inl rfl) (by decide) (by omega) (by omega) (fun h104 sh104 eh104 fh104 => ?_)
                      have s105 := (fh104 x 0 (fun q => absurd q.2 (by decide))).trans s82
                      have s106 := (fh104 bi 0 (fun q => absurd q.2 (by decide))).trans s83
                      have s107 := (fh104 x 7 (fun q => absurd q.2 (by decide))).trans s84
                      have s108 := (fh104 pic 2 (fun q => absurd q.2 (by decide))).trans s85
                      have s109 := (fh104 src 1 (fun q => absurd q.2 (by decide))).trans s86
                      have s110 := (fh104 x 3 (fun q => absurd q.2 (by decide))).trans s87
                      have s111 := (fh104 x 2 (fun q => absurd q.2 (by decide))).trans s88
                      have s112 := (fh104 pic 4 (fun q => absurd q.2 (by decide))).trans s90
                      have s113 := (fh104 bi 1 (fun q => absurd q.2 (by decide))).trans efq81_0
                      have s114 := (fh104 bi 3 (fun q => absurd q.2 (by decide))).trans efq81_1
                      refine gz_s 1 (pc' := 144) (L' := [some (.ref x), some (.ref cd), some (.int (zi p)), some (.int (zi k)), some (.int (zi zq17)), some (.int (zi (zq17 / 16))), some (.int (zi (zq17 % 16))), some (.int (zi zq81))]) (S' := [.int (zi zq81)]) rfl ?_
                      refine gy_ifF rfl (by decide) (by decide) (by omega) (by first | (simp [zc]; done) | (simp only [zc]; omega)) ?_
                      refine gz_s 2 (pc' := 152) (L' := [some (.ref x), some (.ref cd), some (.int (zi p)), some (.int (zi k)), some (.int (zi zq17)), some (.int (zi (zq17 / 16))), some (.int (zi (zq17 % 16))), some (.int (zi zq81))]) (S' := [.int (zi 1)]) rfl ?_
                      exact gz_end (I := .ireturn) (len := 1) rfl (Or.inl rfl) ⟨sh104, 1, fq81_0, fq81_1, gfin_z rfl rfl (by omega), (by omega), (by omega), s113, (by omega), (by omega), s114, (by omega), (by omega), (by omega)⟩
            · refine gy_icF rfl (by decide) (by decide) (by omega) (by omega) hc27 ?_
              refine gz_s 1 (pc' := 72) (L' := [some (.ref x), some (.ref cd), some (.int (zi p)), some (.int (zi k)), some (.int (zi zq17)), some (.int (zi (zq17 / 16))), some (.int (zi (zq17 % 16))), none]) (S' := [.int (zi 0)]) rfl ?_
              exact gz_end (I := .ireturn) (len := 1) rfl (Or.inl rfl) ⟨sq17, 0, fq17_0, fq17_1, gfin_z rfl rfl (by omega), (by omega), (by omega), efq17_0, (by omega), (by omega), efq17_1, (by omega), (by omega), (by omega)⟩
    exact gz_wk (lp14 _ hq3 zq3 p0 l0 (Nat.lt_succ_self _) sq3 (by omega) (by omega) (by omega) (by omega) s4 s5 s6 s7 s8 s11 s12 s13 s9 s10) (gLw.s (gLw.s (gLw.s (gLw.s (gLw.n (gLw.n (gLw.n (gLw.n gLw.z))))))))
  · refine gy_ifF rfl (by decide) (by decide) (by omega) hc2 ?_
    refine gz_s 2 (pc' := 9) (L' := [some (.ref x), some (.ref cd), some (.int (zi p)), none, none, none, none, none]) (S' := [.ref x, .ref x]) rfl ?_
    refine gs_gtk rfl (by decide) rfl hS.1 tx rfl rfl ez1 ?_
    refine gy_s 2 (pc' := 14) (L' := [some (.ref x), some (.ref cd), some (.int (zi p)), none, none, none, none, none]) (S' := [.int ((zi z1) - (zi 1)), .ref x]) (L2 := [some (.ref x), some (.ref cd), some (.int (zi p)), none, none, none, none, none]) (S2 := [.int (zi (z1 - 1)), .ref x]) rfl (by simp only [zi_add, zi_sub, zi_mul, zi_neg, zi_and1, zi_and7, zi_and15, zi_and31, zi_and255]) (by simp only [zi_add, zi_sub, zi_mul, zi_neg, zi_and1, zi_and7, zi_and15, zi_and31, zi_and255]) ?_
    refine gs_put rfl (by decide) rfl hS tx rfl rfl rfl rfl (Or.inl rfl) (by decide) (by omega) (by omega) (fun h115 sh115 eh115 fh115 => ?_)
    have s116 := (fh115 x 0 (fun q => absurd q.2 (by decide))).trans ebi
    have s117 := (fh115 bi 0 (fun q => absurd q.2 (by decide))).trans esrc
    have s118 := (fh115 x 7 (fun q => absurd q.2 (by decide))).trans epic
    have s119 := (fh115 pic 2 (fun q => absurd q.2 (by decide))).trans eco
    have s120 := (fh115 src 1 (fun q => absurd q.2 (by decide))).trans esz
    have s121 := (fh115 bi 1 (fun q => absurd q.2 (by decide))).trans ep0
    have s122 := (fh115 bi 3 (fun q => absurd q.2 (by decide))).trans el0
    have s123 := (fh115 x 3 (fun q => absurd q.2 (by decide))).trans ett
    have s124 := (fh115 x 2 (fun q => absurd q.2 (by decide))).trans efr
    refine gz_s 1 (pc' := 18) (L' := [some (.ref x), some (.ref cd), some (.int (zi p)), none, none, none, none, none]) (S' := [.int (zi 1)]) rfl ?_
    exact gz_end (I := .ireturn) (len := 1) rfl (Or.inl rfl) ⟨sh115, 1, p0, l0, gfin_z rfl rfl (by omega), (by omega), (by omega), s121, (by omega), (by omega), s122, (by omega), (by omega), (by omega)⟩
set_option maxRecDepth 20000 in
set_option maxHeartbeats 4000000 in
theorem cl_ScanReader_passZeros (d : Nat) {ty : Nat → Nat} {h : gH} (hJ : gJ rT 1027 ty h) (x : Nat) (tx : ty x = 66) (p : Int) (rp : 0 ≤ p ∧ p ≤ 12224) (b : Int) (rb : 0 ≤ b ∧ b ≤ 80) (zs : Int) (rzs : 0 ≤ zs ∧ zs ≤ 64) (bi : Nat) (ebi : h.2.2.2.2 x 0 = .ref bi) (tbi : ty bi = 67) (src : Nat) (esrc : h.2.2.2.2 bi 0 = .ref src) (tsrc : ty src = 51) (pic : Nat) (epic : h.2.2.2.2 x 7 = .ref pic) (tpic : ty pic = 54) (co : Nat) (eco : h.2.2.2.2 pic 2 = .ref co) (tco : ty co = 112) (sz : Int) (esz : h.2.2.2.2 src 1 = .int (zi sz)) (rsz : 0 ≤ sz ∧ sz ≤ 2000) (p0 : Int) (ep0 : h.2.2.2.2 bi 1 = .int (zi p0)) (rp0 : 0 ≤ p0 ∧ p0 ≤ 2002) (l0 : Int) (el0 : h.2.2.2.2 bi 3 = .int (zi l0)) (rl0 : 0 ≤ l0 ∧ l0 ≤ 8) (tt : Int) (ett : h.2.2.2.2 x 3 = .int (zi tt)) (rtt : (-1) ≤ tt ∧ tt ≤ 63) (pp0 : p + 64 ≤ (h.2.2.2.1 co : Int)) (pp1 : 0 ≤ tt) (uq : gUq ty) : gz gPP gGG gcn (d + 1) gt55 0 (gent [.ref x, .int (zi p), .int (zi b), .int (zi zs)] 8) [] h (fun q _ => gSs rT 1027 ty [67001, 67002, 67003, 112999] h q.2.2 ∧ ∃ z p1 l1 : Int, gfin gt55 q.1 q.2.1 = some (some (.int (zi z))) ∧ (-1) ≤ z ∧ z ≤ 64 ∧ q.2.2.2.2.2.2 bi 1 = .int (zi p1) ∧ 0 ≤ p1 ∧ p1 ≤ 2002 ∧ q.2.2.2.2.2.2 bi 3 = .int (zi l1) ∧ 0 ≤ l1 ∧ l1 ≤ 8 ∧ (p0 ≤ p1) ∧ (z = -1 ∨ b ≤ z ∨ z = tt + 1) ∧ (z ≤ tt + 1)) := by
  have hS : gSs rT 1027 ty [67001, 67002, 67003, 112999] h h := gSs.rf hJ
  refine gz_s 4 (pc' := 6) (L' := [some (.ref x), some (.int (zi p)), some (.int (zi b)), some (.int (zi zs)), some (.int (zi zs)), some (.int (zi b)), none, none]) (S' := []) rfl ?_
  have lp1 : ∀ (fu : Nat) (h2 : gH) (lf : Int) (k : Int) (pv : Int) (lv : Int), (81 - k).toNat < fu → gSs rT 1027 ty [67001, 67002, 67003, 112999] h h2 → (0 ≤ lf ∧ lf ≤ 64) → (0 ≤ k ∧ k ≤ 80) → (0 ≤ pv ∧ pv ≤ 2002) → (0 ≤ lv ∧ lv ≤ 8) → (p0 ≤ pv) → (b ≤ k) → h2.2.2.2.2 x 0 = .ref bi → h2.2.2.2.2 bi 0 = .ref src → h2.2.2.2.2 x 7 = .ref pic → h2.2.2.2.2 pic 2 = .ref co → h2.2.2.2.2 src 1 = .int (zi sz) → h2.2.2.2.2 x 3 = .int (zi tt) → h2.2.2.2.2 bi 1 = .int (zi pv) → h2.2.2.2.2 bi 3 = .int (zi lv) → gz gPP gGG gcn (d + 1) gt55 6 [some (.ref x), some (.int (zi p)), some (.int (zi b)), some (.int (zi zs)), some (.int (zi lf)), some (.int (zi k)), none, none] [] h2 (fun q _ => gSs rT 1027 ty [67001, 67002, 67003, 112999] h q.2.2 ∧ ∃ z p1 l1 : Int, gfin gt55 q.1 q.2.1 = some (some (.int (zi z))) ∧ (-1) ≤ z ∧ z ≤ 64 ∧ q.2.2.2.2.2.2 bi 1 = .int (zi p1) ∧ 0 ≤ p1 ∧ p1 ≤ 2002 ∧ q.2.2.2.2.2.2 bi 3 = .int (zi l1) ∧ 0 ≤ l1 ∧ l1 ≤ 8 ∧ (p0 ≤ p1) ∧ (z = -1 ∨ b ≤ z ∨ z = tt + 1) ∧ (z ≤ tt + 1)) := by
    intro fu
    induction fu with
    | zero => intro h2 lf k pv lv hm; exact absurd hm (Nat.not_lt_zero _)
    | succ fu ihlp1 =>
      intro h2 lf k pv lv lp1m sh2 lp1f0 lp1f1 lp1f2 lp1f3 lp1f4 lp1f5 lp1k0 lp1k1 lp1k2 lp1k3 lp1k4 lp1k5 lp1k6 lp1k7
      refine gz_s 2 (pc' := 9) (L' := [some (.ref x), some (.int (zi p)), some (.int (zi b)), some (.int (zi zs)), some (.int (zi lf)), some (.int (zi k)), none, none]) (S' := [.ref x, .int (zi k)]) rfl ?_
      refine gs_gtk rfl (by decide) rfl sh2.1 tx rfl rfl lp1k5 ?_
      by_cases hc3 : (tt : Int) < k
      · refine gy_icT (pc' := 130) rfl (by decide) (by decide) (by omega) (by omega) hc3 ?_
        refine gz_s 1 (pc' := 131) (L' := [some (.ref x), some (.int (zi p)), some (.int (zi b)), some (.int (zi zs)), some (.int (zi lf)), some (.int (zi k)), none, none]) (S' := [.ref x]) rfl ?_
        refine gs_gtk rfl (by decide) rfl sh2.1 tx rfl rfl lp1k5 ?_
        refine gy_s 2 (pc' := 136) (L' := [some (.ref x), some (.int (zi p)), some (.int (zi b)), some (.int (zi zs)), some (.int (zi lf)), some (.int (zi k)), none, none]) (S' := [.int ((zi tt) + (zi 1))]) (L2 := [some (.ref x), some (.int (zi p)), some (.int (zi b)), some (.int (zi zs)), some (.int (zi lf)), some (.int (zi k)), none, none]) (S2 := [.int (zi (tt + 1))]) rfl (by simp only [zi_add, zi_sub, zi_mul, zi_neg, zi_and1, zi_and7, zi_and15, zi_and31, zi_and255]) (by simp only [zi_add, zi_sub, zi_mul, zi_neg, zi_and1, zi_and7, zi_and15, zi_and31, zi_and255]) ?_
        exact gz_end (I := .ireturn) (len := 1) rfl (Or.inl rfl) ⟨sh2, tt + 1, pv, lv, rfl, (by omega), (by omega), lp1k6, (by omega), (by omega), lp1k7, (by omega), (by omega), (by omega), (by omega), (by omega)⟩
      · refine gy_icF rfl (by decide) (by decide) (by omega) (by omega) hc3 ?_
        refine gz_s 1 (pc' := 16) (L' := [some (.ref x), some (.int (zi p)), some (.int (zi b)), some (.int (zi zs)), some (.int (zi lf)), some (.int (zi k)), none, none]) (S' := [.ref x]) rfl ?_
        refine gs_gtk rfl (by decide) rfl sh2.1 tx rfl rfl lp1k2 ?_
        refine gs_gtk rfl (by decide) rfl sh2.1 tpic rfl rfl lp1k3 ?_
        refine gy_s 3 (pc' := 26) (L' := [some (.ref x), some (.int (zi p)), some (.int (zi b)), some (.int (zi zs)), some (.int (zi lf)), some (.int (zi k)), none, none]) (S' := [.int ((zi p) + (zi k)), .ref co]) (L2 := [some (.ref x), some (.int (zi p)), some (.int (zi b)), some (.int (zi zs)), some (.int (zi lf)), some (.int (zi k)), none, none]) (S2 := [.int (zi (p + k)), .ref co]) rfl (by simp only [zi_add, zi_sub, zi_mul, zi_neg, zi_and1, zi_and7, zi_and15, zi_and31, zi_and255]) (by simp only [zi_add, zi_sub, zi_mul, zi_neg, zi_and1, zi_and7, zi_and15, zi_and31, zi_and255]) ?_
        have hl4 : 0 ≤ h2.2.2.2.1 co ∧ h2.2.2.2.1 co ≤ 12288 := gJ.rowl (G := gGG) sh2.1 tco rfl
        have hl5 : h2.2.2.2.1 co = h.2.2.2.1 co := congrFun sh2.2.2.2.2.1 co
        refine gs_ald rfl (by decide) sh2.1 tco rfl rfl rfl (by decide) (fun _ => rfl) (by omega) (by omega) (fun z6 ez6 az6 bz6 => ?_)
        refine gz_s 2 (pc' := 31) (L' := [some (.ref x), some (.int (zi p)), some (.int (zi b)), some (.int (zi zs)), some (.int (zi lf)), some (.int (zi k)), some (.int (zi z6)), none]) (S' := [.int (zi z6)]) rfl ?_
        by_cases hc7 : ¬ (z6 : Int) = 0
        · refine gy_ifT (pc' := 42) rfl (by decide) (by decide) (by omega) hc7 ?_
          refine gz_s 1 (pc' := 44) (L' := [some (.ref x), some (.int (zi p)), some (.int (zi b)), some (.int (zi zs)), some (.int (zi lf)), some (.int (zi k)), some (.int (zi z6)), none]) (S' := [.int (zi z6)]) rfl ?_
          refine gy_ifT (pc' := 53) rfl (by decide) (by decide) (by omega) (by first | (simp [zc]; done) | (simp only [zc]; omega)) ?_
          refine gz_s 1 (pc' := 54) (L' := [some (.ref x), some (.int (zi p)), some (.int (zi b)), some (.int (zi zs)), some (.int (zi lf)), some (.int (zi k)), some (.int (zi z6)), none]) (S' := [.ref x]) rfl ?_
          refine gs_gtk rfl (by decide) rfl sh2.1 tx rfl rfl lp1k0 ?_
          refine gz_call rfl (by decide) rfl (by decide) (by decide) (gcal_of rfl rfl rfl (Nat.le_of_ble_eq_true rfl) (gJ.recv (G := gGG) sh2.1 tbi rfl rfl)) (cl_Bits_nextBit _ sh2.1 bi tbi src lp1k1 tsrc sz lp1k4 (by omega) pv lp1k6 (by omega) lv lp1k7 (by omega) uq) (fun q8 _ wq8 => ?_)
          obtain ⟨pq8, oq8, hq8⟩ := q8
          obtain ⟨xq8, zq8, fq8_0, fq8_1, gq8, aq8, bq8, efq8_0, afq8_0, bfq8_0, efq8_1, afq8_1, bfq8_1, uq8_0⟩ := wq8
          refine ⟨_, gq8, ?_⟩
          show gz gPP gGG gcn _ _ 60 [some (.ref x), some (.int (zi p)), some (.int (zi b)), some (.int (zi zs)), some (.int (zi lf)), some (.int (zi k)), some (.int (zi z6)), none] [.int (zi zq8)] hq8 _
          have sq8 : gSs rT 1027 ty [67001, 67002, 67003, 112999] h hq8 := gSs.tr sh2 xq8 (by decide)
          have s9 := (xq8.2.2.2.2.2 x 0 (by rw [tx]; decide)).trans lp1k0
          have s10 := (xq8.2.2.2.2.2 bi 0 (by rw [tbi]; decide)).trans lp1k1
          have s11 := (xq8.2.2.2.2.2 x 7 (by rw [tx]; decide)).trans lp1k2
          have s12 := (xq8.2.2.2.2.2 pic 2 (by rw [tpic]; decide)).trans lp1k3
          have s13 := (xq8.2.2.2.2.2 src 1 (by rw [tsrc]; decide)).trans lp1k4
          have s14 := (xq8.2.2.2.2.2 x 3 (by rw [tx]; decide)).trans lp1k5
          refine gz_s 2 (pc' := 64) (L' := [some (.ref x), some (.int (zi p)), some (.int (zi b)), some (.int (zi zs)), some (.int (zi lf)), some (.int (zi k)), some (.int (zi z6)), some (.int (zi zq8))]) (S' := [.int (zi zq8)]) rfl ?_
          by_cases hc15 : (0 : Int) ≤ zq8
          · refine gy_ifT (pc' := 69) rfl (by decide) (by decide) (by omega) hc15 ?_
            refine gz_s 1 (pc' := 71) (L' := [some (.ref x), some (.int (zi p)), some (.int (zi b)), some (.int (zi zs)), some (.int (zi lf)), some (.int (zi k)), some (.int (zi z6)), some (.int (zi zq8))]) (S' := [.int (zi zq8)]) rfl ?_
            by_cases hc16 : (zq8 : Int) ≤ 0
            · refine gy_ifT (pc' := 124) rfl (by decide) (by decide) (by omega) hc16 ?_
              refine gy_s 2 (pc' := 6) (L' := [some (.ref x), some (.int (zi p)), some (.int (zi b)), some (.int (zi zs)), some (.int (zi lf)), some (.int ((zi k) + zi 1)), some (.int (zi z6)), some (.int (zi zq8))]) (S' := []) (L2 := [some (.ref x), some (.int (zi p)), some (.int (zi b)), some (.int (zi zs)), some (.int (zi lf)), some (.int (zi (k + 1))), some (.int (zi z6)), some (.int (zi zq8))]) (S2 := []) rfl (by simp only [zi_add, zi_sub, zi_mul, zi_neg, zi_and1, zi_and7, zi_and15, zi_and31, zi_and255]) (by simp only [zi_add, zi_sub, zi_mul, zi_neg, zi_and1, zi_and7, zi_and15, zi_and31, zi_and255]) ?_
              exact gz_wk (ihlp1 hq8 lf (k + 1) fq8_0 fq8_1 (by omega) sq8 (by omega) (by omega) (by omega) (by omega) (by omega) (by omega) s9 s10 s11 s12 s13 s14 efq8_0 efq8_1) (gLw.s (gLw.s (gLw.s (gLw.s (gLw.s (gLw.s (gLw.n (gLw.n gLw.z))))))))
            · refine gy_ifF rfl (by decide) (by decide) (by omega) hc16 ?_
              refine gz_s 3 (pc' := 78) (L' := [some (.ref x), some (.int (zi p)), some (.int (zi b)), some (.int (zi zs)), some (.int (zi lf)), some (.int (zi k)), some (.int (zi z6)), some (.int (zi zq8))]) (S' := [.ref x, .int (zi 1), .int (zi z6)]) rfl ?_
              refine gs_get rfl (by decide) rfl sq8.1 tx rfl rfl rfl (fun z17 ez17 az17 bz17 => ?_)
              refine gy_sh1 rfl (by decide) (by omega) (fun z18 az18 bz18 cz18 => ?_)
              refine gy_iiv rfl (by decide) rfl (fun _ _ => rfl) (fun z19 ez19 az19 bz19 => ?_)
              by_cases hc20 : ¬ (z19 : Int) = 0
              · refine gy_ifT (pc' := 124) rfl (by decide) (by decide) (by omega) hc20 ?_
                refine gy_s 2 (pc' := 6) (L' := [some (.ref x), some (.int (zi p)), some (.int (zi b)), some (.int (zi zs)), some (.int (zi lf)), some (.int ((zi k) + zi 1)), some (.int (zi z6)), some (.int (zi zq8))]) (S' := []) (L2 := [some (.ref x), some (.int (zi p)), some (.int (zi b)), some (.int (zi zs)), some (.int (zi lf)), some (.int (zi (k + 1))), some (.int (zi z6)), some (.int (zi zq8))]) (S2 := []) rfl (by simp only [zi_add, zi_sub, zi_mul, zi_neg, zi_and1, zi_and7, zi_and15, zi_and31, zi_and255]) (by simp only [zi_add, zi_sub, zi_mul, zi_neg, zi_and1, zi_and7, zi_and15, zi_and31, zi_and255]) ?_
                exact gz_wk (ihlp1 hq8 lf (k + 1) fq8_0 fq8_1 (by omega) sq8 (by omega) (by omega) (by omega) (by omega) (by omega) (by omega) s9 s10 s11 s12 s13 s14 efq8_0 efq8_1) (gLw.s (gLw.s (gLw.s (gLw.s (gLw.s (gLw.s (gLw.n (gLw.n gLw.z))))))))
              · refine gy_ifF rfl (by decide) (by decide) (by omega) hc20 ?_
                refine gz_s 1 (pc' := 87) (L' := [some (.ref x), some (.int (zi p)), some (.int (zi b)), some (.int (zi zs)), some (.int (zi lf)), some (.int (zi k)), some (.int (zi z6)), some (.int (zi zq8))]) (S' := [.ref x]) rfl ?_
                refine gs_gtk rfl (by decide) rfl sq8.1 tx rfl rfl s11 ?_
                refine gs_gtk rfl (by decide) rfl sq8.1 tpic rfl rfl s12 ?_
                refine gy_s 4 (pc' := 99) (L' := [some (.ref x), some (.int (zi p)), some (.int (zi b)), some (.int (zi zs)), some (.int (zi lf)), some (.int (zi k)), some (.int (zi z6)), some (.int (zi zq8))]) (S' := [.int (zi z6), .int ((zi p) + (zi k)), .ref co]) (L2 := [some (.ref x), some (.int (zi p)), some (.int (zi b)), some (.int (zi zs)), some (.int (zi lf)), some (.int (zi k)), some (.int (zi z6)), some (.int (zi zq8))]) (S2 := [.int (zi z6), .int (zi (p + k)), .ref co]) rfl (by simp only [zi_add, zi_sub, zi_mul, zi_neg, zi_and1, zi_and7, zi_and15, zi_and31, zi_and255]) (by simp only [zi_add, zi_sub, zi_mul, zi_neg, zi_and1, zi_and7, zi_and15, zi_and31, zi_and255]) ?_
                by_cases hc21 : (z6 : Int) ≤ 0
                · refine gy_ifT (pc' := 114) rfl (by decide) (by decide) (by omega) hc21 ?_
                  refine gz_s 3 (pc' := 118) (L' := [some (.ref x), some (.int (zi p)), some (.int (zi b)), some (.int (zi zs)), some (.int (zi lf)), some (.int (zi k)), some (.int (zi z6)), some (.int (zi zq8))]) (S' := [.ref x, .int (zi 1), .int (zi z6), .int (zi (p + k)), .ref co]) rfl ?_
                  refine gs_gtk rfl (by decide) rfl sq8.1 tx rfl rfl ez17 ?_
                  refine gy_sh1 rfl (by decide) (by omega) (fun z22 az22 bz22 cz22 => ?_)
                  refine gy_s 1 (pc' := 123) (L' := [some (.ref x), some (.int (zi p)), some (.int (zi b)), some (.int (zi zs)), some (.int (zi lf)), some (.int (zi k)), some (.int (zi z6)), some (.int (zi zq8))]) (S' := [.int ((zi z6) - (zi z22)), .int (zi (p + k)), .ref co]) (L2 := [some (.ref x), some (.int (zi p)), some (.int (zi b)), some (.int (zi zs)), some (.int (zi lf)), some (.int (zi k)), some (.int (zi z6)), some (.int (zi zq8))]) (S2 := [.int (zi (z6 - z22)), .int (zi (p + k)), .ref co]) rfl (by simp only [zi_add, zi_sub, zi_mul, zi_neg, zi_and1, zi_and7, zi_and15, zi_and31, zi_and255]) (by simp only [zi_add, zi_sub, zi_mul, zi_neg, zi_and1, zi_and7, zi_and15, zi_and31, zi_and255]) ?_
                  refine gy_any (fun z23 ez23 az23 bz23 => ?_)
                  have hl24 : 0 ≤ hq8.2.2.2.1 co ∧ hq8.2.2.2.1 co ≤ 12288 := gJ.rowl (G := gGG) sq8.1 tco rfl
                  have hl25 : hq8.2.2.2.1 co = h.2.2.2.1 co := congrFun sq8.2.2.2.2.1 co
                  refine gs_ast rfl (by decide) sq8 tco rfl rfl rfl (by decide) (fun _ => rfl) (by omega) (by omega) (fun _ => (by decide : (112999 : Nat) ∈ ([67001, 67002, 67003, 112999] : List Nat))) (by omega) (by omega) (fun h26 sh26 eh26 fh26 => ?_)
                  have s27 := (fh26 x 0 (fun q => absurd (((tx).symm.trans (congrArg ty q.1)).trans tco) (by decide))).trans s9
                  have s28 := (fh26 bi 0 (fun q => absurd (((tbi).symm.trans (congrArg ty q.1)).trans tco) (by decide))).trans s10
                  have s29 := (fh26 x 7 (fun q => absurd (((tx).symm.trans (congrArg ty q.1)).trans tco) (by decide))).trans s11
                  have s30 := (fh26 pic 2 (fun q => absurd (((tpic).symm.trans (congrArg ty q.1)).trans tco) (by decide))).trans s12
                  have s31 := (fh26 src 1 (fun q => absurd (((tsrc).symm.trans (congrArg ty q.1)).trans tco) (by decide))).trans s13
                  have s32 := (fh26 x 3 (fun q => absurd (((tx).symm.trans (congrArg ty q.1)).trans tco) (by decide))).trans s14
                  have s33 := (fh26 bi 1 (fun q => absurd (((tbi).symm.trans (congrArg ty q.1)).trans tco) (by decide))).trans efq8_0
                  have s34 := (fh26 bi 3 (fun q => absurd (((tbi).symm.trans (congrArg ty q.1)).trans tco) (by decide))).trans efq8_1
                  have s35 := (fh26 x 5 (fun q => absurd (((tx).symm.trans (congrArg ty q.1)).trans tco) (by decide))).trans ez17
                  refine gy_s 2 (pc' := 6) (L' := [some (.ref x), some (.int (zi p)), some (.int (zi b)), some (.int (zi zs)), some (.int (zi lf)), some (.int ((zi k) + zi 1)), some (.int (zi z6)), some (.int (zi zq8))]) (S' := []) (L2 := [some (.ref x), some (.int (zi p)), some (.int (zi b)), some (.int (zi zs)), some (.int (zi lf)), some (.int (zi (k + 1))), some (.int (zi z6)), some (.int (zi zq8))]) (S2 := []) rfl (by simp only [zi_add, zi_sub, zi_mul, zi_neg, zi_and1, zi_and7, zi_and15, zi_and31, zi_and255]) (by simp only [zi_add, zi_sub, zi_mul, zi_neg, zi_and1, zi_and7, zi_and15, zi_and31, zi_and255]) ?_
                  exact gz_wk (ihlp1 h26 lf (k + 1) fq8_0 fq8_1 (by omega) sh26 (by omega) (by omega) (by omega) (by omega) (by omega) (by omega) s27 s28 s29 s30 s31 s32 s33 s34) (gLw.s (gLw.s (gLw.s (gLw.s (gLw.s (gLw.s (gLw.n (gLw.n gLw.z))))))))
                · refine gy_ifF rfl (by decide) (by decide) (by omega) hc21 ?_
                  refine gz_s 3 (pc' := 106) (L' := [some (.ref x), some (.int (zi p)), some (.int (zi b)), some (.int (zi zs)), some (.int (zi lf)), some (.int (zi k)), some (.int (zi z6)), some (.int (zi zq8))]) (S' := [.ref x, .int (zi 1), .int (zi z6), .int (zi (p + k)), .ref co]) rfl ?_
                  refine gs_gtk rfl (by decide) rfl sq8.1 tx rfl rfl ez17 ?_
                  refine gy_sh1 rfl (by decide) (by omega) (fun z36 az36 bz36 cz36 => ?_)
                  refine gy_s 1 (pc' := 111) (L' := [some (.ref x), some (.int (zi p)), some (.int (zi b)), some (.int (zi zs)), some (.int (zi lf)), some (.int (zi k)), some (.int (zi z6)), some (.int (zi zq8))]) (S' := [.int ((zi z6) + (zi z36)), .int (zi (p + k)), .ref co]) (L2 := [some (.ref x), some (.int (zi p)), some (.int (zi b)), some (.int (zi zs)), some (.int (zi lf)), some (.int (zi k)), some (.int (zi z6)), some (.int (zi zq8))]) (S2 := [.int (zi (z6 + z36)), .int (zi (p + k)), .ref co]) rfl (by simp only [zi_add, zi_sub, zi_mul, zi_neg, zi_and1, zi_and7, zi_and15, zi_and31, zi_and255]) (by simp only [zi_add, zi_sub, zi_mul, zi_neg, zi_and1, zi_and7, zi_and15, zi_and31, zi_and255]) ?_
                  refine gy_any (fun z37 ez37 az37 bz37 => ?_)
                  refine gz_s 1 (pc' := 123) (L' := [some (.ref x), some (.int (zi p)), some (.int (zi b)), some (.int (zi zs)), some (.int (zi lf)), some (.int (zi k)), some (.int (zi z6)), some (.int (zi zq8))]) (S' := [.int (zi z37), .int (zi (p + k)), .ref co]) rfl ?_
                  have hl38 : 0 ≤ hq8.2.2.2.1 co ∧ hq8.2.2.2.1 co ≤ 12288 := gJ.rowl (G := gGG) sq8.1 tco rfl
                  have hl39 : hq8.2.2.2.1 co = h.2.2.2.1 co := congrFun sq8.2.2.2.2.1 co
                  refine gs_ast rfl (by decide) sq8 tco rfl rfl rfl (by decide) (fun _ => rfl) (by omega) (by omega) (fun _ => (by decide : (112999 : Nat) ∈ ([67001, 67002, 67003, 112999] : List Nat))) (by omega) (by omega) (fun h40 sh40 eh40 fh40 => ?_)
                  have s41 := (fh40 x 0 (fun q => absurd (((tx).symm.trans (congrArg ty q.1)).trans tco) (by decide))).trans s9
                  have s42 := (fh40 bi 0 (fun q => absurd (((tbi).symm.trans (congrArg ty q.1)).trans tco) (by decide))).trans s10
                  have s43 := (fh40 x 7 (fun q => absurd (((tx).symm.trans (congrArg ty q.1)).trans tco) (by decide))).trans s11
                  have s44 := (fh40 pic 2 (fun q => absurd (((tpic).symm.trans (congrArg ty q.1)).trans tco) (by decide))).trans s12
                  have s45 := (fh40 src 1 (fun q => absurd (((tsrc).symm.trans (congrArg ty q.1)).trans tco) (by decide))).trans s13
                  have s46 := (fh40 x 3 (fun q => absurd (((tx).symm.trans (congrArg ty q.1)).trans tco) (by decide))).trans s14
                  have s47 := (fh40 bi 1 (fun q => absurd (((tbi).symm.trans (congrArg ty q.1)).trans tco) (by decide))).trans efq8_0
                  have s48 := (fh40 bi 3 (fun q => absurd (((tbi).symm.trans (congrArg ty q.1)).trans tco) (by decide))).trans efq8_1
                  have s49 := (fh40 x 5 (fun q => absurd (((tx).symm.trans (congrArg ty q.1)).trans tco) (by decide))).trans ez17
                  refine gy_s 2 (pc' := 6) (L' := [some (.ref x), some (.int (zi p)), some (.int (zi b)), some (.int (zi zs)), some (.int (zi lf)), some (.int ((zi k) + zi 1)), some (.int (zi z6)), some (.int (zi zq8))]) (S' := []) (L2 := [some (.ref x), some (.int (zi p)), some (.int (zi b)), some (.int (zi zs)), some (.int (zi lf)), some (.int (zi (k + 1))), some (.int (zi z6)), some (.int (zi zq8))]) (S2 := []) rfl (by simp only [zi_add, zi_sub, zi_mul, zi_neg, zi_and1, zi_and7, zi_and15, zi_and31, zi_and255]) (by simp only [zi_add, zi_sub, zi_mul, zi_neg, zi_and1, zi_and7, zi_and15, zi_and31, zi_and255]) ?_
                  exact gz_wk (ihlp1 h40 lf (k + 1) fq8_0 fq8_1 (by omega) sh40 (by omega) (by omega) (by omega) (by omega) (by omega) (by omega) s41 s42 s43 s44 s45 s46 s47 s48) (gLw.s (gLw.s (gLw.s (gLw.s (gLw.s (gLw.s (gLw.n (gLw.n gLw.z))))))))
          · refine gy_ifF rfl (by decide) (by decide) (by omega) hc15 ?_
            refine gz_s 1 (pc' := 68) (L' := [some (.ref x), some (.int (zi p)), some (.int (zi b)), some (.int (zi zs)), some (.int (zi lf)), some (.int (zi k)), some (.int (zi z6)), some (.int (zi zq8))]) (S' := [.int (zi (-1))]) rfl ?_
            exact gz_end (I := .ireturn) (len := 1) rfl (Or.inl rfl) ⟨sq8, (-1), fq8_0, fq8_1, rfl, (by omega), (by omega), efq8_0, (by omega), (by omega), efq8_1, (by omega), (by omega), (by omega), (by omega), (by omega)⟩
        · refine gy_ifF rfl (by decide) (by decide) (by omega) hc7 ?_
          refine gz_s 1 (pc' := 36) (L' := [some (.ref x), some (.int (zi p)), some (.int (zi b)), some (.int (zi zs)), some (.int (zi lf)), some (.int (zi k)), some (.int (zi z6)), none]) (S' := [.int (zi lf)]) rfl ?_
          by_cases hc50 : ¬ (lf : Int) = 0
          · refine gy_ifT (pc' := 42) rfl (by decide) (by decide) (by omega) hc50 ?_
            refine gz_s 1 (pc' := 44) (L' := [some (.ref x), some (.int (zi p)), some (.int (zi b)), some (.int (zi zs)), some (.int (zi lf)), some (.int (zi k)), some (.int (zi z6)), none]) (S' := [.int (zi z6)]) rfl ?_
            refine gy_ifF rfl (by decide) (by decide) (by omega) (by first | (simp [zc]; done) | (simp only [zc]; omega)) ?_
            refine gy_s 4 (pc' := 6) (L' := [some (.ref x), some (.int (zi p)), some (.int (zi b)), some (.int (zi zs)), some (.int ((zi lf) + zi (-1))), some (.int ((zi k) + zi 1)), some (.int (zi z6)), none]) (S' := []) (L2 := [some (.ref x), some (.int (zi p)), some (.int (zi b)), some (.int (zi zs)), some (.int (zi (lf + (-1)))), some (.int (zi (k + 1))), some (.int (zi z6)), none]) (S2 := []) rfl (by simp only [zi_add, zi_sub, zi_mul, zi_neg, zi_and1, zi_and7, zi_and15, zi_and31, zi_and255]) (by simp only [zi_add, zi_sub, zi_mul, zi_neg, zi_and1, zi_and7, zi_and15, zi_and31, zi_and255]) ?_
            exact gz_wk (ihlp1 h2 (lf + (-1)) (k + 1) pv lv (by omega) sh2 (by omega) (by omega) (by omega) (by omega) (by omega) (by omega) lp1k0 lp1k1 lp1k2 lp1k3 lp1k4 lp1k5 lp1k6 lp1k7) (gLw.s (gLw.s (gLw.s (gLw.s (gLw.s (gLw.s (gLw.n (gLw.n gLw.z))))))))
          · refine gy_ifF rfl (by decide) (by decide) (by omega) hc50 ?_
            refine gz_s 1 (pc' := 41) (L' := [some (.ref x), some (.int (zi p)), some (.int (zi b)), some (.int (zi zs)), some (.int (zi lf)), some (.int (zi k)), some (.int (zi z6)), none]) (S' := [.int (zi k)]) rfl ?_
            exact gz_end (I := .ireturn) (len := 1) rfl (Or.inl rfl) ⟨sh2, k, pv, lv, rfl, (by omega), (by omega), lp1k6, (by omega), (by omega), lp1k7, (by omega), (by omega), (by omega), (by omega), (by omega)⟩
  exact gz_wk (lp1 _ h zs b p0 l0 (Nat.lt_succ_self _) hS (by omega) (by omega) (by omega) (by omega) (by omega) (by omega) ebi esrc epic eco esz ett ep0 el0) (gLw.s (gLw.s (gLw.s (gLw.s (gLw.s (gLw.s (gLw.n (gLw.n gLw.z))))))))
set_option maxRecDepth 20000 in
set_option maxHeartbeats 4000000 in
theorem cl_ScanReader_areOthersRefined (d : Nat) {ty : Nat → Nat} {h : gH} (hJ : gJ rT 1027 ty h) (x : Nat) (tx : ty x = 66) (cd : Nat) (tcd : ty cd = 101) (p : Int) (rp : 0 ≤ p ∧ p ≤ 12224) (bi : Nat) (ebi : h.2.2.2.2 x 0 = .ref bi) (tbi : ty bi = 67) (src : Nat) (esrc : h.2.2.2.2 bi 0 = .ref src) (tsrc : ty src = 51) (pic : Nat) (epic : h.2.2.2.2 x 7 = .ref pic) (tpic : ty pic = 54) (co : Nat) (eco : h.2.2.2.2 pic 2 = .ref co) (tco : ty co = 112) (sz : Int) (esz : h.2.2.2.2 src 1 = .int (zi sz)) (rsz : 0 ≤ sz ∧ sz ≤ 2000) (p0 : Int) (ep0 : h.2.2.2.2 bi 1 = .int (zi p0)) (rp0 : 0 ≤ p0 ∧ p0 ≤ 2002) (l0 : Int) (el0 : h.2.2.2.2 bi 3 = .int (zi l0)) (rl0 : 0 ≤ l0 ∧ l0 ≤ 8) (tt : Int) (ett : h.2.2.2.2 x 3 = .int (zi tt)) (rtt : (-1) ≤ tt ∧ tt ≤ 63) (fr : Int) (efr : h.2.2.2.2 x 2 = .int (zi fr)) (rfr : 0 ≤ fr ∧ fr ≤ 63) (pp0 : p + 64 ≤ (h.2.2.2.1 co : Int)) (pp1 : 0 ≤ tt) (uq : gUq ty) : gz gPP gGG gcn (d + 2) gt54 0 (gent [.ref x, .ref cd, .int (zi p)] 10) [] h (fun q _ => gSs rT 1027 ty [66014, 67001, 67002, 67003, 112999] h q.2.2 ∧ ∃ z p1 l1 : Int, gfin gt54 q.1 q.2.1 = some (some (.int (zi z))) ∧ 0 ≤ z ∧ z ≤ 1 ∧ q.2.2.2.2.2.2 bi 1 = .int (zi p1) ∧ 0 ≤ p1 ∧ p1 ≤ 2002 ∧ q.2.2.2.2.2.2 bi 3 = .int (zi l1) ∧ 0 ≤ l1 ∧ l1 ≤ 8 ∧ (p0 ≤ p1)) := by
  have hS : gSs rT 1027 ty [66014, 67001, 67002, 67003, 112999] h h := gSs.rf hJ
  refine gz_s 1 (pc' := 1) (L' := [some (.ref x), some (.ref cd), some (.int (zi p)), none, none, none, none, none, none, none]) (S' := [.ref x]) rfl ?_
  refine gs_gtk rfl (by decide) rfl hS.1 tx rfl rfl efr ?_
  refine gz_s 3 (pc' := 8) (L' := [some (.ref x), some (.ref cd), some (.int (zi p)), some (.int (zi fr)), some (.int (zi 0)), none, none, none, none, none]) (S' := []) rfl ?_
  have lp1 : ∀ (fu : Nat) (h2 : gH) (k : Int) (tn : Int) (pv : Int) (lv : Int), (65 - tn).toNat < fu → gSs rT 1027 ty [66014, 67001, 67002, 67003, 112999] h h2 → (0 ≤ k ∧ k ≤ 66) → (0 ≤ tn ∧ tn ≤ 64) → (0 ≤ pv ∧ pv ≤ 2002) → (0 ≤ lv ∧ lv ≤ 8) → (p0 ≤ pv) → h2.2.2.2.2 x 0 = .ref bi → h2.2.2.2.2 bi 0 = .ref src → h2.2.2.2.2 x 7 = .ref pic → h2.2.2.2.2 pic 2 = .ref co → h2.2.2.2.2 src 1 = .int (zi sz) → h2.2.2.2.2 x 3 = .int (zi tt) → h2.2.2.2.2 x 2 = .int (zi fr) → h2.2.2.2.2 bi 1 = .int (zi pv) → h2.2.2.2.2 bi 3 = .int (zi lv) → gz gPP gGG gcn (d + 2) gt54 8 [some (.ref x), some (.ref cd), some (.int (zi p)), some (.int (zi k)), some (.int (zi tn)), none, none, none, none, none] [] h2 (fun q _ => gSs rT 1027 ty [66014, 67001, 67002, 67003, 112999] h q.2.2 ∧ ∃ z p1 l1 : Int, gfin gt54 q.1 q.2.1 = some (some (.int (zi z))) ∧ 0 ≤ z ∧ z ≤ 1 ∧ q.2.2.2.2.2.2 bi 1 = .int (zi p1) ∧ 0 ≤ p1 ∧ p1 ≤ 2002 ∧ q.2.2.2.2.2.2 bi 3 = .int (zi l1) ∧ 0 ≤ l1 ∧ l1 ≤ 8 ∧ (p0 ≤ p1)) := by
    intro fu
    induction fu with
    | zero => intro h2 k tn pv lv hm; exact absurd hm (Nat.not_lt_zero _)
    | succ fu ihlp1 =>
      intro h2 k tn pv lv lp1m sh2 lp1f0 lp1f1 lp1f2 lp1f3 lp1f4 lp1k0 lp1k1 lp1k2 lp1k3 lp1k4 lp1k5 lp1k6 lp1k7 lp1k8
      refine gz_s 2 (pc' := 12) (L' := [some (.ref x), some (.ref cd), some (.int (zi p)), some (.int (zi k)), some (.int (zi tn)), none, none, none, none, none]) (S' := [.int (zi 64), .int (zi tn)]) rfl ?_
      by_cases hc3 : (64 : Int) ≤ tn
      · refine gy_icT (pc' := 206) rfl (by decide) (by decide) (by omega) (by omega) hc3 ?_
        refine gz_s 1 (pc' := 207) (L' := [some (.ref x), some (.ref cd), some (.int (zi p)), some (.int (zi k)), some (.int (zi tn)), none, none, none, none, none]) (S' := [.ref x]) rfl ?_
        refine gs_get rfl (by decide) rfl sh2.1 tx rfl rfl rfl (fun z4 ez4 az4 bz4 => ?_)
        by_cases hc5 : (z4 : Int) ≤ 0
        · refine gy_ifT (pc' := 240) rfl (by decide) (by decide) (by omega) hc5 ?_
          refine gz_s 1 (pc' := 241) (L' := [some (.ref x), some (.ref cd), some (.int (zi p)), some (.int (zi k)), some (.int (zi tn)), none, none, none, none, none]) (S' := [.int (zi 1)]) rfl ?_
          exact gz_end (I := .ireturn) (len := 1) rfl (Or.inl rfl) ⟨sh2, 1, pv, lv, gfin_z rfl rfl (by omega), (by omega), (by omega), lp1k7, (by omega), (by omega), lp1k8, (by omega), (by omega), (by omega)⟩
        · refine gy_ifF rfl (by decide) (by decide) (by omega) hc5 ?_
          refine gz_s 2 (pc' := 215) (L' := [some (.ref x), some (.ref cd), some (.int (zi p)), some (.int (zi k)), some (.int (zi tn)), none, none, none, none, none]) (S' := [.ref x, .ref x]) rfl ?_
          refine gs_gtk rfl (by decide) rfl sh2.1 tx rfl rfl ez4 ?_
          refine gy_s 2 (pc' := 220) (L' := [some (.ref x), some (.ref cd), some (.int (zi p)), some (.int (zi k)), some (.int (zi tn)), none, none, none, none, none]) (S' := [.int ((zi z4) - (zi 1)), .ref x]) (L2 := [some (.ref x), some (.ref cd), some (.int (zi p)), some (.int (zi k)), some (.int (zi tn)), none, none, none, none, none]) (S2 := [.int (zi (z4 - 1)), .ref x]) rfl (by simp only [zi_add, zi_sub, zi_mul, zi_neg, zi_and1, zi_and7, zi_and15, zi_and31, zi_and255]) (by simp only [zi_add, zi_sub, zi_mul, zi_neg, zi_and1, zi_and7, zi_and15, zi_and31, zi_and255]) ?_
          refine gs_put rfl (by decide) rfl sh2 tx rfl rfl rfl rfl (Or.inl rfl) (by decide) (by omega) (by omega) (fun h6 sh6 eh6 fh6 => ?_)
          have s7 := (fh6 x 0 (fun q => absurd q.2 (by decide))).trans lp1k0
          have s8 := (fh6 bi 0 (fun q => absurd q.2 (by decide))).trans lp1k1
          have s9 := (fh6 x 7 (fun q => absurd q.2 (by decide))).trans lp1k2
          have s10 := (fh6 pic 2 (fun q => absurd q.2 (by decide))).trans lp1k3
          have s11 := (fh6 src 1 (fun q => absurd q.2 (by decide))).trans lp1k4
          have s12 := (fh6 x 3 (fun q => absurd q.2 (by decide))).trans lp1k5
          have s13 := (fh6 x 2 (fun q => absurd q.2 (by decide))).trans lp1k6
          have s14 := (fh6 bi 1 (fun q => absurd q.2 (by decide))).trans lp1k7
          have s15 := (fh6 bi 3 (fun q => absurd q.2 (by decide))).trans lp1k8
          refine gz_s 4 (pc' := 228) (L' := [some (.ref x), some (.ref cd), some (.int (zi p)), some (.int (zi k)), some (.int (zi tn)), none, none, none, none, none]) (S' := [.int (zi 64), .int (zi k), .int (zi p), .ref x]) rfl ?_
          have hl16 : h6.2.2.2.1 co = h.2.2.2.1 co := congrFun sh6.2.2.2.2.1 co
          refine gz_call rfl (by decide) rfl (by decide) (by decide) (gcal_of rfl rfl rfl (Nat.le_of_ble_eq_true rfl) (gJ.recv (G := gGG) sh6.1 tx rfl rfl)) (cl_ScanReader_passZeros _ sh6.1 x tx p (by omega) k (by omega) 64 (by omega) bi s7 tbi src s8 tsrc pic s9 tpic co s10 tco sz s11 (by omega) pv s14 (by omega) lv s15 (by omega) tt s12 (by omega) (by omega) (by omega) uq) (fun q17 _ wq17 => ?_)
          obtain ⟨pq17, oq17, hq17⟩ := q17
          obtain ⟨xq17, zq17, fq17_0, fq17_1, gq17, aq17, bq17, efq17_0, afq17_0, bfq17_0, efq17_1, afq17_1, bfq17_1, uq17_0, uq17_1, uq17_2⟩ := wq17
          refine ⟨_, gq17, ?_⟩
          show gz gPP gGG gcn _ _ 231 [some (.ref x), some (.ref cd), some (.int (zi p)), some (.int (zi k)), some (.int (zi tn)), none, none, none, none, none] [.int (zi zq17)] hq17 _
          have sq17 : gSs rT 1027 ty [66014, 67001, 67002, 67003, 112999] h hq17 := gSs.tr sh6 xq17 (by decide)
          have s18 := (xq17.2.2.2.2.2 x 0 (by rw [tx]; decide)).trans s7
          have s19 := (xq17.2.2.2.2.2 bi 0 (by rw [tbi]; decide)).trans s8
          have s20 := (xq17.2.2.2.2.2 x 7 (by rw [tx]; decide)).trans s9
          have s21 := (xq17.2.2.2.2.2 pic 2 (by rw [tpic]; decide)).trans s10
          have s22 := (xq17.2.2.2.2.2 src 1 (by rw [tsrc]; decide)).trans s11
          have s23 := (xq17.2.2.2.2.2 x 3 (by rw [tx]; decide)).trans s12
          have s24 := (xq17.2.2.2.2.2 x 2 (by rw [tx]; decide)).trans s13
          have s25 := (xq17.2.2.2.2.2 x 14 (by rw [tx]; decide)).trans eh6
          by_cases hc26 : (zq17 : Int) < 0
          · refine gy_ifT (pc' := 238) rfl (by decide) (by decide) (by omega) hc26 ?_
            refine gz_s 1 (pc' := 239) (L' := [some (.ref x), some (.ref cd), some (.int (zi p)), some (.int (zi k)), some (.int (zi tn)), none, none, none, none, none]) (S' := [.int (zi 0)]) rfl ?_
            exact gz_end (I := .ireturn) (len := 1) rfl (Or.inl rfl) ⟨sq17, 0, fq17_0, fq17_1, gfin_z rfl rfl (by omega), (by omega), (by omega), efq17_0, (by omega), (by omega), efq17_1, (by omega), (by omega), (by omega)⟩
          · refine gy_ifF rfl (by decide) (by decide) (by omega) hc26 ?_
            refine gz_s 2 (pc' := 239) (L' := [some (.ref x), some (.ref cd), some (.int (zi p)), some (.int (zi k)), some (.int (zi tn)), none, none, none, none, none]) (S' := [.int (zi 1)]) rfl ?_
            exact gz_end (I := .ireturn) (len := 1) rfl (Or.inl rfl) ⟨sq17, 1, fq17_0, fq17_1, gfin_z rfl rfl (by omega), (by omega), (by omega), efq17_0, (by omega), (by omega), efq17_1, (by omega), (by omega), (by omega)⟩
      · refine gy_icF rfl (by decide) (by decide) (by omega) (by omega) hc3 ?_
        refine gz_s 2 (pc' := 17) (L' := [some (.ref x), some (.ref cd), some (.int (zi p)), some (.int (zi k)), some (.int (zi tn)), none, none, none, none, none]) (S' := [.ref x, .int (zi k)]) rfl ?_
        refine gs_gtk rfl (by decide) rfl sh2.1 tx rfl rfl lp1k5 ?_
        by_cases hc27 : (tt : Int) < k
        · refine gy_icT (pc' := 206) rfl (by decide) (by decide) (by omega) (by omega) hc27 ?_
          refine gz_s 1 (pc' := 207) (L' := [some (.ref x), some (.ref cd), some (.int (zi p)), some (.int (zi k)), some (.int (zi tn)), none, none, none, none, none]) (S' := [.ref x]) rfl ?_
          refine gs_get rfl (by decide) rfl sh2.1 tx rfl rfl rfl (fun z28 ez28 az28 bz28 => ?_)
          by_cases hc29 : (z28 : Int) ≤ 0
          · refine gy_ifT (pc' := 240) rfl (by decide) (by decide) (by omega) hc29 ?_
            refine gz_s 1 (pc' := 241) (L' := [some (.ref x), some (.ref cd), some (.int (zi p)), some (.int (zi k)), some (.int (zi tn)), none, none, none, none, none]) (S' := [.int (zi 1)]) rfl ?_
            exact gz_end (I := .ireturn) (len := 1) rfl (Or.inl rfl) ⟨sh2, 1, pv, lv, gfin_z rfl rfl (by omega), (by omega), (by omega), lp1k7, (by omega), (by omega), lp1k8, (by omega), (by omega), (by omega)⟩
          · refine gy_ifF rfl (by decide) (by decide) (by omega) hc29 ?_
            refine gz_s 2 (pc' := 215) (L' := [some (.ref x), some (.ref cd), some (.int (zi p)), some (.int (zi k)), some (.int (zi tn)), none, none, none, none, none]) (S' := [.ref x, .ref x]) rfl ?_
            refine gs_gtk rfl (by decide) rfl sh2.1 tx rfl rfl ez28 ?_
            refine gy_s 2 (pc' := 220) (L' := [some (.ref x), some (.ref cd), some (.int (zi p)), some (.int (zi k)), some (.int (zi tn)), none, none, none, none, none]) (S' := [.int ((zi z28) - (zi 1)), .ref x]) (L2 := [some (.ref x), some (.ref cd), some (.int (zi p)), some (.int (zi k)), some (.int (zi tn)), none, none, none, none, none]) (S2 := [.int (zi (z28 - 1)), .ref x]) rfl (by simp only [zi_add, zi_sub, zi_mul, zi_neg, zi_and1, zi_and7, zi_and15, zi_and31, zi_and255]) (by simp only [zi_add, zi_sub, zi_mul, zi_neg, zi_and1, zi_and7, zi_and15, zi_and31, zi_and255]) ?_
            refine gs_put rfl (by decide) rfl sh2 tx rfl rfl rfl rfl (Or.inl rfl) (by decide) (by omega) (by omega) (fun h30 sh30 eh30 fh30 => ?_)
            have s31 := (fh30 x 0 (fun q => absurd q.2 (by decide))).trans lp1k0
            have s32 := (fh30 bi 0 (fun q => absurd q.2 (by decide))).trans lp1k1
            have s33 := (fh30 x 7 (fun q => absurd q.2 (by decide))).trans lp1k2
            have s34 := (fh30 pic 2 (fun q => absurd q.2 (by decide))).trans lp1k3
            have s35 := (fh30 src 1 (fun q => absurd q.2 (by decide))).trans lp1k4
            have s36 := (fh30 x 3 (fun q => absurd q.2 (by decide))).trans lp1k5
            have s37 := (fh30 x 2 (fun q => absurd q.2 (by decide))).trans lp1k6
            have s38 := (fh30 bi 1 (fun q => absurd q.2 (by decide))).trans lp1k7
            have s39 := (fh30 bi 3 (fun q => absurd q.2 (by decide))).trans lp1k8
            refine gz_s 4 (pc' := 228) (L' := [some (.ref x), some (.ref cd), some (.int (zi p)), some (.int (zi k)), some (.int (zi tn)), none, none, none, none, none]) (S' := [.int (zi 64), .int (zi k), .int (zi p), .ref x]) rfl ?_
            have hl40 : h30.2.2.2.1 co = h.2.2.2.1 co := congrFun sh30.2.2.2.2.1 co
            refine gz_call rfl (by decide) rfl (by decide) (by decide) (gcal_of rfl rfl rfl (Nat.le_of_ble_eq_true rfl) (gJ.recv (G := gGG) sh30.1 tx rfl rfl)) (cl_ScanReader_passZeros _ sh30.1 x tx p (by omega) k (by omega) 64 (by omega) bi s31 tbi src s32 tsrc pic s33 tpic co s34 tco sz s35 (by omega) pv s38 (by omega) lv s39 (by omega) tt s36 (by omega) (by omega) (by omega) uq) (fun q41 _ wq41 => ?_)
            obtain ⟨pq41, oq41, hq41⟩ := q41
            obtain ⟨xq41, zq41, fq41_0, fq41_1, gq41, aq41, bq41, efq41_0, afq41_0, bfq41_0, efq41_1, afq41_1, bfq41_1, uq41_0, uq41_1, uq41_2⟩ := wq41
            refine ⟨_, gq41, ?_⟩
            show gz gPP gGG gcn _ _ 231 [some (.ref x), some (.ref cd), some (.int (zi p)), some (.int (zi k)), some (.int (zi tn)), none, none, none, none, none] [.int (zi zq41)] hq41 _
            have sq41 : gSs rT 1027 ty [66014, 67001, 67002, 67003, 112999] h hq41 := gSs.tr sh30 xq41 (by decide)
            have s42 := (xq41.2.2.2.2.2 x 0 (by rw [tx]; decide)).trans s31
            have s43 := (xq41.2.2.2.2.2 bi 0 (by rw [tbi]; decide)).trans s32
            have s44 := (xq41.2.2.2.2.2 x 7 (by rw [tx]; decide)).trans s33
            have s45 := (xq41.2.2.2.2.2 pic 2 (by rw [tpic]; decide)).trans s34
            have s46 := (xq41.2.2.2.2.2 src 1 (by rw [tsrc]; decide)).trans s35
            have s47 := (xq41.2.2.2.2.2 x 3 (by rw [tx]; decide)).trans s36
            have s48 := (xq41.2.2.2.2.2 x 2 (by rw [tx]; decide)).trans s37
            have s49 := (xq41.2.2.2.2.2 x 14 (by rw [tx]; decide)).trans eh30
            by_cases hc50 : (zq41 : Int) < 0
            · refine gy_ifT (pc' := 238) rfl (by decide) (by decide) (by omega) hc50 ?_
              refine gz_s 1 (pc' := 239) (L' := [some (.ref x), some (.ref cd), some (.int (zi p)), some (.int (zi k)), some (.int (zi tn)), none, none, none, none, none]) (S' := [.int (zi 0)]) rfl ?_
              exact gz_end (I := .ireturn) (len := 1) rfl (Or.inl rfl) ⟨sq41, 0, fq41_0, fq41_1, gfin_z rfl rfl (by omega), (by omega), (by omega), efq41_0, (by omega), (by omega), efq41_1, (by omega), (by omega), (by omega)⟩
            · refine gy_ifF rfl (by decide) (by decide) (by omega) hc50 ?_
              refine gz_s 2 (pc' := 239) (L' := [some (.ref x), some (.ref cd), some (.int (zi p)), some (.int (zi k)), some (.int (zi tn)), none, none, none, none, none]) (S' := [.int (zi 1)]) rfl ?_
              exact gz_end (I := .ireturn) (len := 1) rfl (Or.inl rfl) ⟨sq41, 1, fq41_0, fq41_1, gfin_z rfl rfl (by omega), (by omega), (by omega), efq41_0, (by omega), (by omega), efq41_1, (by omega), (by omega), (by omega)⟩
        · refine gy_icF rfl (by decide) (by decide) (by omega) (by omega) hc27 ?_
          refine gz_s 1 (pc' := 24) (L' := [some (.ref x), some (.ref cd), some (.int (zi p)), some (.int (zi k)), some (.int (zi tn)), none, none, none, none, none]) (S' := [.ref x]) rfl ?_
          refine gs_get rfl (by decide) rfl sh2.1 tx rfl rfl rfl (fun z51 ez51 az51 bz51 => ?_)
          by_cases hc52 : ¬ (z51 : Int) = 0
          · refine gy_ifT (pc' := 206) rfl (by decide) (by decide) (by omega) hc52 ?_
            refine gz_s 1 (pc' := 207) (L' := [some (.ref x), some (.ref cd), some (.int (zi p)), some (.int (zi k)), some (.int (zi tn)), none, none, none, none, none]) (S' := [.ref x]) rfl ?_
            refine gs_gtk rfl (by decide) rfl sh2.1 tx rfl rfl ez51 ?_
            by_cases hc53 : (z51 : Int) ≤ 0
            · refine gy_ifT (pc' := 240) rfl (by decide) (by decide) (by omega) hc53 ?_
              refine gz_s 1 (pc' := 241) (L' := [some (.ref x), some (.ref cd), some (.int (zi p)), some (.int (zi k)), some (.int (zi tn)), none, none, none, none, none]) (S' := [.int (zi 1)]) rfl ?_
              exact gz_end (I := .ireturn) (len := 1) rfl (Or.inl rfl) ⟨sh2, 1, pv, lv, gfin_z rfl rfl (by omega), (by omega), (by omega), lp1k7, (by omega), (by omega), lp1k8, (by omega), (by omega), (by omega)⟩
            · refine gy_ifF rfl (by decide) (by decide) (by omega) hc53 ?_
              refine gz_s 2 (pc' := 215) (L' := [some (.ref x), some (.ref cd), some (.int (zi p)), some (.int (zi k)), some (.int (zi tn)), none, none, none, none, none]) (S' := [.ref x, .ref x]) rfl ?_
              refine gs_gtk rfl (by decide) rfl sh2.1 tx rfl rfl ez51 ?_
              refine gy_s 2 (pc' := 220) (L' := [some (.ref x), some (.ref cd), some (.int (zi p)), some (.int (zi k)), some (.int (zi tn)), none, none, none, none, none]) (S' := [.int ((zi z51) - (zi 1)), .ref x]) (L2 := [some (.ref x), some (.ref cd), some (.int (zi p)), some (.int (zi k)), some (.int (zi tn)), none, none, none, none, none]) (S2 := [.int (zi (z51 - 1)), .ref x]) rfl (by simp only [zi_add, zi_sub, zi_mul, zi_neg, zi_and1, zi_and7, zi_and15, zi_and31, zi_and255]) (by simp only [zi_add, zi_sub, zi_mul, zi_neg, zi_and1, zi_and7, zi_and15, zi_and31, zi_and255]) ?_
              refine gs_put rfl (by decide) rfl sh2 tx rfl rfl rfl rfl (Or.inl rfl) (by decide) (by omega) (by omega) (fun h54 sh54 eh54 fh54 => ?_)
              have s55 := (fh54 x 0 (fun q => absurd q.2 (by decide))).trans lp1k0
              have s56 := (fh54 bi 0 (fun q => absurd q.2 (by decide))).trans lp1k1
              have s57 := (fh54 x 7 (fun q => absurd q.2 (by decide))).trans lp1k2
              have s58 := (fh54 pic 2 (fun q => absurd q.2 (by decide))).trans lp1k3
              have s59 := (fh54 src 1 (fun q => absurd q.2 (by decide))).trans lp1k4
              have s60 := (fh54 x 3 (fun q => absurd q.2 (by decide))).trans lp1k5
              have s61 := (fh54 x 2 (fun q => absurd q.2 (by decide))).trans lp1k6
              have s62 := (fh54 bi 1 (fun q => absurd q.2 (by decide))).trans lp1k7
              have s63 := (fh54 bi 3 (fun q => absurd q.2 (by decide))).trans lp1k8
              refine gz_s 4 (pc' := 228) (L' := [some (.ref x), some (.ref cd), some (.int (zi p)), some (.int (zi k)), some (.int (zi tn)), none, none, none, none, none]) (S' := [.int (zi 64), .int (zi k), .int (zi p), .ref x]) rfl ?_
              have hl64 : h54.2.2.2.1 co = h.2.2.2.1 co := congrFun sh54.2.2.2.2.1 co
              refine gz_call rfl (by decide) rfl (by decide) (by decide) (gcal_of rfl rfl rfl (Nat.le_of_ble_eq_true rfl) (gJ.recv (G := gGG) sh54.1 tx rfl rfl)) (cl_ScanReader_passZeros _ sh54.1 x tx p (by omega) k (by omega) 64 (by omega) bi s55 tbi src s56 tsrc pic s57 tpic co s58 tco sz s59 (by omega) pv s62 (by omega) lv s63 (by omega) tt s60 (by omega) (by omega) (by omega) uq) (fun q65 _ wq65 => ?_)
              obtain ⟨pq65, oq65, hq65⟩ := q65
              obtain ⟨xq65, zq65, fq65_0, fq65_1, gq65, aq65, bq65, efq65_0, afq65_0, bfq65_0, efq65_1, afq65_1, bfq65_1, uq65_0, uq65_1, uq65_2⟩ := wq65
              refine ⟨_, gq65, ?_⟩
              show gz gPP gGG gcn _ _ 231 [some (.ref x), some (.ref cd), some (.int (zi p)), some (.int (zi k)), some (.int (zi tn)), none, none, none, none, none] [.int (zi zq65)] hq65 _
              have sq65 : gSs rT 1027 ty [66014, 67001, 67002, 67003, 112999] h hq65 := gSs.tr sh54 xq65 (by decide)
              have s66 := (xq65.2.2.2.2.2 x 0 (by rw [tx]; decide)).trans s55
              have s67 := (xq65.2.2.2.2.2 bi 0 (by rw [tbi]; decide)).trans s56
              have s68 := (xq65.2.2.2.2.2 x 7 (by rw [tx]; decide)).trans s57
              have s69 := (xq65.2.2.2.2.2 pic 2 (by rw [tpic]; decide)).trans s58
              have s70 := (xq65.2.2.2.2.2 src 1 (by rw [tsrc]; decide)).trans s59
              have s71 := (xq65.2.2.2.2.2 x 3 (by rw [tx]; decide)).trans s60
              have s72 := (xq65.2.2.2.2.2 x 2 (by rw [tx]; decide)).trans s61
              have s73 := (xq65.2.2.2.2.2 x 14 (by rw [tx]; decide)).trans eh54
              by_cases hc74 : (zq65 : Int) < 0
              · refine gy_ifT (pc' := 238) rfl (by decide) (by decide) (by omega) hc74 ?_
                refine gz_s 1 (pc' := 239) (L' := [some (.ref x), some (.ref cd), some (.int (zi p)), some (.int (zi k)), some (.int (zi tn)), none, none, none, none, none]) (S' := [.int (zi 0)]) rfl ?_
                exact gz_end (I := .ireturn) (len := 1) rfl (Or.inl rfl) ⟨sq65, 0, fq65_0, fq65_1, gfin_z rfl rfl (by omega), (by omega), (by omega), efq65_0, (by omega), (by omega), efq65_1, (by omega), (by omega), (by omega)⟩
              · refine gy_ifF rfl (by decide) (by decide) (by omega) hc74 ?_
                refine gz_s 2 (pc' := 239) (L' := [some (.ref x), some (.ref cd), some (.int (zi p)), some (.int (zi k)), some (.int (zi tn)), none, none, none, none, none]) (S' := [.int (zi 1)]) rfl ?_
                exact gz_end (I := .ireturn) (len := 1) rfl (Or.inl rfl) ⟨sq65, 1, fq65_0, fq65_1, gfin_z rfl rfl (by omega), (by omega), (by omega), efq65_0, (by omega), (by omega), efq65_1, (by omega), (by omega), (by omega)⟩
          · refine gy_ifF rfl (by decide) (by decide) (by omega) hc52 ?_
            refine gz_s 1 (pc' := 31) (L' := [some (.ref x), some (.ref cd), some (.int (zi p)), some (.int (zi k)), some (.int (zi tn)), none, none, none, none, none]) (S' := [.ref x]) rfl ?_
            refine gs_gtk rfl (by decide) rfl sh2.1 tx rfl rfl lp1k0 ?_
            refine gz_s 1 (pc' := 35) (L' := [some (.ref x), some (.ref cd), some (.int (zi p)), some (.int (zi k)), some (.int (zi tn)), none, none, none, none, none]) (S' := [.ref cd, .ref bi]) rfl ?_
            refine gz_call rfl (by decide) rfl (by decide) (by decide) (gcal_of rfl rfl rfl (Nat.le_of_ble_eq_true rfl) (gJ.recv (G := gGG) sh2.1 tbi rfl rfl)) (cl_Bits_nextSymbol _ sh2.1 bi tbi cd tcd src lp1k1 tsrc sz lp1k4 (by omega) pv lp1k7 (by omega) lv lp1k8 (by omega) uq) (fun q75 _ wq75 => ?_)
            obtain ⟨pq75, oq75, hq75⟩ := q75
            obtain ⟨xq75, zq75, fq75_0, fq75_1, gq75, aq75, bq75, efq75_0, afq75_0, bfq75_0, efq75_1, afq75_1, bfq75_1, uq75_0⟩ := wq75
            refine ⟨_, gq75, ?_⟩
            show gz gPP gGG gcn _ _ 38 [some (.ref x), some (.ref cd), some (.int (zi p)), some (.int (zi k)), some (.int (zi tn)), none, none, none, none, none] [.int (zi zq75)] hq75 _
            have sq75 : gSs rT 1027 ty [66014, 67001, 67002, 67003, 112999] h hq75 := gSs.tr sh2 xq75 (by decide)
            have s76 := (xq75.2.2.2.2.2 x 0 (by rw [tx]; decide)).trans lp1k0
            have s77 := (xq75.2.2.2.2.2 bi 0 (by rw [tbi]; decide)).trans lp1k1
            have s78 := (xq75.2.2.2.2.2 x 7 (by rw [tx]; decide)).trans lp1k2
            have s79 := (xq75.2.2.2.2.2 pic 2 (by rw [tpic]; decide)).trans lp1k3
            have s80 := (xq75.2.2.2.2.2 src 1 (by rw [tsrc]; decide)).trans lp1k4
            have s81 := (xq75.2.2.2.2.2 x 3 (by rw [tx]; decide)).trans lp1k5
            have s82 := (xq75.2.2.2.2.2 x 2 (by rw [tx]; decide)).trans lp1k6
            have s83 := (xq75.2.2.2.2.2 x 14 (by rw [tx]; decide)).trans ez51
            refine gz_s 3 (pc' := 43) (L' := [some (.ref x), some (.ref cd), some (.int (zi p)), some (.int (zi k)), some (.int (zi tn)), some (.int (zi zq75)), none, none, none, none]) (S' := [.int (zi 4), .int (zi zq75)]) rfl ?_
            refine gy_shc (n := 4) (v := 16) rfl (by decide) (by omega) (by decide) (by decide) rfl ?_
            refine gy_s 6 (pc' := 55) (L' := [some (.ref x), some (.ref cd), some (.int (zi p)), some (.int (zi k)), some (.int (zi tn)), some (.int (zi zq75)), some (.int (zi (zq75 / 16))), some (.int ((zi zq75) &&& (zi 15))), none, none]) (S' := [.int (zi zq75)]) (L2 := [some (.ref x), some (.ref cd), some (.int (zi p)), some (.int (zi k)), some (.int (zi tn)), some (.int (zi zq75)), some (.int (zi (zq75 / 16))), some (.int (zi (zq75 % 16))), none, none]) (S2 := [.int (zi zq75)]) rfl (by simp only [zi_add, zi_sub, zi_mul, zi_neg, zi_and1, zi_and7, zi_and15, zi_and31, zi_and255]) (by simp only [zi_add, zi_sub, zi_mul, zi_neg, zi_and1, zi_and7, zi_and15, zi_and31, zi_and255]) ?_
            by_cases hc84 : (zq75 : Int) < 0
            · refine gy_ifT (pc' := 64) rfl (by decide) (by decide) (by omega) hc84 ?_
              refine gz_s 1 (pc' := 65) (L' := [some (.ref x), some (.ref cd), some (.int (zi p)), some (.int (zi k)), some (.int (zi tn)), some (.int (zi zq75)), some (.int (zi (zq75 / 16))), some (.int (zi (zq75 % 16))), none, none]) (S' := [.int (zi 0)]) rfl ?_
              exact gz_end (I := .ireturn) (len := 1) rfl (Or.inl rfl) ⟨sq75, 0, fq75_0, fq75_1, gfin_z rfl rfl (by omega), (by omega), (by omega), efq75_0, (by omega), (by omega), efq75_1, (by omega), (by omega), (by omega)⟩
            · refine gy_ifF rfl (by decide) (by decide) (by omega) hc84 ?_
              refine gz_s 2 (pc' := 61) (L' := [some (.ref x), some (.ref cd), some (.int (zi p)), some (.int (zi k)), some (.int (zi tn)), some (.int (zi zq75)), some (.int (zi (zq75 / 16))), some (.int (zi (zq75 % 16))), none, none]) (S' := [.int (zi 1), .int (zi (zq75 % 16))]) rfl ?_
              by_cases hc85 : (zq75 % 16 : Int) ≤ 1
              · refine gy_icT (pc' := 66) rfl (by decide) (by decide) (by omega) (by omega) hc85 ?_
                refine gz_s 1 (pc' := 68) (L' := [some (.ref x), some (.ref cd), some (.int (zi p)), some (.int (zi k)), some (.int (zi tn)), some (.int (zi zq75)), some (.int (zi (zq75 / 16))), some (.int (zi (zq75 % 16))), none, none]) (S' := [.int (zi (zq75 % 16))]) rfl ?_
                have jn86 : ∀ (jn86v0 : Int), ((0 ≤ jn86v0) ∧ (jn86v0 ≤ 1)) → gz gPP gGG gcn (d + 2) gt54 83 [some (.ref x), some (.ref cd), some (.int (zi p)), some (.int (zi k)), some (.int (zi tn)), some (.int (zi zq75)), some (.int (zi (zq75 / 16))), some (.int (zi (zq75 % 16))), none, none] [.int (zi jn86v0)] hq75 (fun q _ => gSs rT 1027 ty [66014, 67001, 67002, 67003, 112999] h q.2.2 ∧ ∃ z p1 l1 : Int, gfin gt54 q.1 q.2.1 = some (some (.int (zi z))) ∧ 0 ≤ z ∧ z ≤ 1 ∧ q.2.2.2.2.2.2 bi 1 = .int (zi p1) ∧ 0 ≤ p1 ∧ p1 ≤ 2002 ∧ q.2.2.2.2.2.2 bi 3 = .int (zi l1) ∧ 0 ≤ l1 ∧ l1 ≤ 8 ∧ (p0 ≤ p1)) := by
                  intro jn86v0 jn86d
                  refine gz_s 2 (pc' := 86) (L' := [some (.ref x), some (.ref cd), some (.int (zi p)), some (.int (zi k)), some (.int (zi tn)), some (.int (zi zq75)), some (.int (zi (zq75 / 16))), some (.int (zi (zq75 % 16))), some (.int (zi jn86v0)), none]) (S' := [.ref x]) rfl ?_
                  refine gs_gtk rfl (by decide) rfl sq75.1 tx rfl rfl s76 ?_
                  refine gz_s 1 (pc' := 91) (L' := [some (.ref x), some (.ref cd), some (.int (zi p)), some (.int (zi k)), some (.int (zi tn)), some (.int (zi zq75)), some (.int (zi (zq75 / 16))), some (.int (zi (zq75 % 16))), some (.int (zi jn86v0)), none]) (S' := [.int (zi jn86v0), .ref bi]) rfl ?_
                  have jn87 : ∀ (jn87v0 : Int), ((0 ≤ jn87v0) ∧ (jn87v0 ≤ 15)) → gz gPP gGG gcn (d + 2) gt54 101 [some (.ref x), some (.ref cd), some (.int (zi p)), some (.int (zi k)), some (.int (zi tn)), some (.int (zi zq75)), some (.int (zi (zq75 / 16))), some (.int (zi (zq75 % 16))), some (.int (zi jn86v0)), none] [.int (zi jn87v0), .ref bi] hq75 (fun q _ => gSs rT 1027 ty [66014, 67001, 67002, 67003, 112999] h q.2.2 ∧ ∃ z p1 l1 : Int, gfin gt54 q.1 q.2.1 = some (some (.int (zi z))) ∧ 0 ≤ z ∧ z ≤ 1 ∧ q.2.2.2.2.2.2 bi 1 = .int (zi p1) ∧ 0 ≤ p1 ∧ p1 ≤ 2002 ∧ q.2.2.2.2.2.2 bi 3 = .int (zi l1) ∧ 0 ≤ l1 ∧ l1 ≤ 8 ∧ (p0 ≤ p1)) := by
                    intro jn87v0 jn87d
                    refine gz_call rfl (by decide) rfl (by decide) (by decide) (gcal_of rfl rfl rfl (Nat.le_of_ble_eq_true rfl) (gJ.recv (G := gGG) sq75.1 tbi rfl rfl)) (cl_Bits_nextNumber _ sq75.1 bi tbi jn87v0 (by omega) src s77 tsrc sz s80 (by omega) fq75_0 efq75_0 (by omega) fq75_1 efq75_1 (by omega) uq) (fun q88 _ wq88 => ?_)
                    obtain ⟨pq88, oq88, hq88⟩ := q88
                    obtain ⟨xq88, zq88, fq88_0, fq88_1, gq88, aq88, bq88, efq88_0, afq88_0, bfq88_0, efq88_1, afq88_1, bfq88_1, uq88_0⟩ := wq88
                    refine ⟨_, gq88, ?_⟩
                    show gz gPP gGG gcn _ _ 104 [some (.ref x), some (.ref cd), some (.int (zi p)), some (.int (zi k)), some (.int (zi tn)), some (.int (zi zq75)), some (.int (zi (zq75 / 16))), some (.int (zi (zq75 % 16))), some (.int (zi jn86v0)), none] [.int (zi zq88)] hq88 _
                    have sq88 : gSs rT 1027 ty [66014, 67001, 67002, 67003, 112999] h hq88 := gSs.tr sq75 xq88 (by decide)
                    have s89 := (xq88.2.2.2.2.2 x 0 (by rw [tx]; decide)).trans s76
                    have s90 := (xq88.2.2.2.2.2 bi 0 (by rw [tbi]; decide)).trans s77
                    have s91 := (xq88.2.2.2.2.2 x 7 (by rw [tx]; decide)).trans s78
                    have s92 := (xq88.2.2.2.2.2 pic 2 (by rw [tpic]; decide)).trans s79
                    have s93 := (xq88.2.2.2.2.2 src 1 (by rw [tsrc]; decide)).trans s80
                    have s94 := (xq88.2.2.2.2.2 x 3 (by rw [tx]; decide)).trans s81
                    have s95 := (xq88.2.2.2.2.2 x 2 (by rw [tx]; decide)).trans s82
                    have s96 := (xq88.2.2.2.2.2 x 14 (by rw [tx]; decide)).trans s83
                    refine gz_s 2 (pc' := 108) (L' := [some (.ref x), some (.ref cd), some (.int (zi p)), some (.int (zi k)), some (.int (zi tn)), some (.int (zi zq75)), some (.int (zi (zq75 / 16))), some (.int (zi (zq75 % 16))), some (.int (zi jn86v0)), some (.int (zi zq88))]) (S' := [.int (zi zq88)]) rfl ?_
                    by_cases hc97 : (0 : Int) ≤ zq88
                    · refine gy_ifT (pc' := 113) rfl (by decide) (by decide) (by omega) hc97 ?_
                      refine gz_s 1 (pc' := 115) (L' := [some (.ref x), some (.ref cd), some (.int (zi p)), some (.int (zi k)), some (.int (zi tn)), some (.int (zi zq75)), some (.int (zi (zq75 / 16))), some (.int (zi (zq75 % 16))), some (.int (zi jn86v0)), some (.int (zi zq88))]) (S' := [.int (zi jn86v0)]) rfl ?_
                      by_cases hc98 : (jn86v0 : Int) = 0
                      · refine gy_ifT (pc' := 132) rfl (by decide) (by decide) (by omega) hc98 ?_
                        refine gz_s 4 (pc' := 137) (L' := [some (.ref x), some (.ref cd), some (.int (zi p)), some (.int (zi k)), some (.int (zi tn)), some (.int (zi zq75)), some (.int (zi (zq75 / 16))), some (.int (zi (zq75 % 16))), some (.int (zi jn86v0)), some (.int (zi zq88))]) (S' := [.int (zi (zq75 / 16)), .int (zi k), .int (zi p), .ref x]) rfl ?_
                        have hl99 : hq88.2.2.2.1 co = h.2.2.2.1 co := congrFun sq88.2.2.2.2.1 co
                        refine gz_call rfl (by decide) rfl (by decide) (by decide) (gcal_of rfl rfl rfl (Nat.le_of_ble_eq_true rfl) (gJ.recv (G := gGG) sq88.1 tx rfl rfl)) (cl_ScanReader_passZeros _ sq88.1 x tx p (by omega) k (by omega) (zq75 / 16) (by omega) bi s89 tbi src s90 tsrc pic s91 tpic co s92 tco sz s93 (by omega) fq88_0 efq88_0 (by omega) fq88_1 efq88_1 (by omega) tt s94 (by omega) (by omega) (by omega) uq) (fun q100 _ wq100 => ?_)
                        obtain ⟨pq100, oq100, hq100⟩ := q100
                        obtain ⟨xq100, zq100, fq100_0, fq100_1, gq100, aq100, bq100, efq100_0, afq100_0, bfq100_0, efq100_1, afq100_1, bfq100_1, uq100_0, uq100_1, uq100_2⟩ := wq100
                        refine ⟨_, gq100, ?_⟩
                        show gz gPP gGG gcn _ _ 140 [some (.ref x), some (.ref cd), some (.int (zi p)), some (.int (zi k)), some (.int (zi tn)), some (.int (zi zq75)), some (.int (zi (zq75 / 16))), some (.int (zi (zq75 % 16))), some (.int (zi jn86v0)), some (.int (zi zq88))] [.int (zi zq100)] hq100 _
                        have sq100 : gSs rT 1027 ty [66014, 67001, 67002, 67003, 112999] h hq100 := gSs.tr sq88 xq100 (by decide)
                        have s101 := (xq100.2.2.2.2.2 x 0 (by rw [tx]; decide)).trans s89
                        have s102 := (xq100.2.2.2.2.2 bi 0 (by rw [tbi]; decide)).trans s90
                        have s103 := (xq100.2.2.2.2.2 x 7 (by rw [tx]; decide)).trans s91
                        have s104 := (xq100.2.2.2.2.2 pic 2 (by rw [tpic]; decide)).trans s92
                        have s105 := (xq100.2.2.2.2.2 src 1 (by rw [tsrc]; decide)).trans s93
                        have s106 := (xq100.2.2.2.2.2 x 3 (by rw [tx]; decide)).trans s94
                        have s107 := (xq100.2.2.2.2.2 x 2 (by rw [tx]; decide)).trans s95
                        have s108 := (xq100.2.2.2.2.2 x 14 (by rw [tx]; decide)).trans s96
                        refine gz_s 2 (pc' := 142) (L' := [some (.ref x), some (.ref cd), some (.int (zi p)), some (.int (zi zq100)), some (.int (zi tn)), some (.int (zi zq75)), some (.int (zi (zq75 / 16))), some (.int (zi (zq75 % 16))), some (.int (zi jn86v0)), some (.int (zi zq88))]) (S' := [.int (zi zq100)]) rfl ?_
                        by_cases hc109 : (zq100 : Int) < 0
                        · refine gy_ifT (pc' := 158) rfl (by decide) (by decide) (by omega) hc109 ?_
                          refine gz_s 1 (pc' := 159) (L' := [some (.ref x), some (.ref cd), some (.int (zi p)), some (.int (zi zq100)), some (.int (zi tn)), some (.int (zi zq75)), some (.int (zi (zq75 / 16))), some (.int (zi (zq75 % 16))), some (.int (zi jn86v0)), some (.int (zi zq88))]) (S' := [.int (zi 0)]) rfl ?_
                          exact gz_end (I := .ireturn) (len := 1) rfl (Or.inl rfl) ⟨sq100, 0, fq100_0, fq100_1, gfin_z rfl rfl (by omega), (by omega), (by omega), efq100_0, (by omega), (by omega), efq100_1, (by omega), (by omega), (by omega)⟩
                        · refine gy_ifF rfl (by decide) (by decide) (by omega) hc109 ?_
                          refine gz_s 1 (pc' := 147) (L' := [some (.ref x), some (.ref cd), some (.int (zi p)), some (.int (zi zq100)), some (.int (zi tn)), some (.int (zi zq75)), some (.int (zi (zq75 / 16))), some (.int (zi (zq75 % 16))), some (.int (zi jn86v0)), some (.int (zi zq88))]) (S' := [.int (zi (zq75 % 16))]) rfl ?_
                          by_cases hc110 : (zq75 % 16 : Int) ≤ 0
                          · refine gy_ifT (pc' := 160) rfl (by decide) (by decide) (by omega) hc110 ?_
                            refine gz_s 1 (pc' := 162) (L' := [some (.ref x), some (.ref cd), some (.int (zi p)), some (.int (zi zq100)), some (.int (zi tn)), some (.int (zi zq75)), some (.int (zi (zq75 / 16))), some (.int (zi (zq75 % 16))), some (.int (zi jn86v0)), some (.int (zi zq88))]) (S' := [.int (zi (zq75 % 16))]) rfl ?_
                            refine gy_ifT (pc' := 197) rfl (by decide) (by decide) (by omega) (by first | (simp [zc]; done) | (simp only [zc]; omega)) ?_
                            refine gy_s 3 (pc' := 8) (L' := [some (.ref x), some (.ref cd), some (.int (zi p)), some (.int ((zi zq100) + zi 1)), some (.int ((zi tn) + zi 1)), some (.int (zi zq75)), some (.int (zi (zq75 / 16))), some (.int (zi (zq75 % 16))), some (.int (zi jn86v0)), some (.int (zi zq88))]) (S' := []) (L2 := [some (.ref x), some (.ref cd), some (.int (zi p)), some (.int (zi (zq100 + 1))), some (.int (zi (tn + 1))), some (.int (zi zq75)), some (.int (zi (zq75 / 16))), some (.int (zi (zq75 % 16))), some (.int (zi jn86v0)), some (.int (zi zq88))]) (S2 := []) rfl (by simp only [zi_add, zi_sub, zi_mul, zi_neg, zi_and1, zi_and7, zi_and15, zi_and31, zi_and255]) (by simp only [zi_add, zi_sub, zi_mul, zi_neg, zi_and1, zi_and7, zi_and15, zi_and31, zi_and255]) ?_
                            exact gz_wk (ihlp1 hq100 (zq100 + 1) (tn + 1) fq100_0 fq100_1 (by omega) sq100 (by omega) (by omega) (by omega) (by omega) (by omega) s101 s102 s103 s104 s105 s106 s107 efq100_0 efq100_1) (gLw.s (gLw.s (gLw.s (gLw.s (gLw.s (gLw.n (gLw.n (gLw.n (gLw.n (gLw.n gLw.z))))))))))
                          · refine gy_ifF rfl (by decide) (by decide) (by omega) hc110 ?_
                            refine gz_s 2 (pc' := 152) (L' := [some (.ref x), some (.ref cd), some (.int (zi p)), some (.int (zi zq100)), some (.int (zi tn)), some (.int (zi zq75)), some (.int (zi (zq75 / 16))), some (.int (zi (zq75 % 16))), some (.int (zi jn86v0)), some (.int (zi zq88))]) (S' := [.ref x, .int (zi zq100)]) rfl ?_
                            refine gs_gtk rfl (by decide) rfl sq100.1 tx rfl rfl s106 ?_
                            by_cases hc111 : (zq100 : Int) ≤ tt
                            · refine gy_icT (pc' := 160) rfl (by decide) (by decide) (by omega) (by omega) hc111 ?_
                              refine gz_s 1 (pc' := 162) (L' := [some (.ref x), some (.ref cd), some (.int (zi p)), some (.int (zi zq100)), some (.int (zi tn)), some (.int (zi zq75)), some (.int (zi (zq75 / 16))), some (.int (zi (zq75 % 16))), some (.int (zi jn86v0)), some (.int (zi zq88))]) (S' := [.int (zi (zq75 % 16))]) rfl ?_
                              refine gy_ifF rfl (by decide) (by decide) (by omega) (by first | (simp [zc]; done) | (simp only [zc]; omega)) ?_
                              refine gz_s 1 (pc' := 166) (L' := [some (.ref x), some (.ref cd), some (.int (zi p)), some (.int (zi zq100)), some (.int (zi tn)), some (.int (zi zq75)), some (.int (zi (zq75 / 16))), some (.int (zi (zq75 % 16))), some (.int (zi jn86v0)), some (.int (zi zq88))]) (S' := [.ref x]) rfl ?_
                              refine gs_gtk rfl (by decide) rfl sq100.1 tx rfl rfl s103 ?_
                              refine gs_gtk rfl (by decide) rfl sq100.1 tpic rfl rfl s104 ?_
                              refine gy_s 4 (pc' := 177) (L' := [some (.ref x), some (.ref cd), some (.int (zi p)), some (.int (zi zq100)), some (.int (zi tn)), some (.int (zi zq75)), some (.int (zi (zq75 / 16))), some (.int (zi (zq75 % 16))), some (.int (zi jn86v0)), some (.int (zi zq88))]) (S' := [.int (zi zq88), .int ((zi p) + (zi zq100)), .ref co]) (L2 := [some (.ref x), some (.ref cd), some (.int (zi p)), some (.int (zi zq100)), some (.int (zi tn)), some (.int (zi zq75)), some (.int (zi (zq75 / 16))), some (.int (zi (zq75 % 16))), some (.int (zi jn86v0)), some (.int (zi zq88))]) (S2 := [.int (zi zq88), .int (zi (p + zq100)), .ref co]) rfl (by simp only [zi_add, zi_sub, zi_mul, zi_neg, zi_and1, zi_and7, zi_and15, zi_and31, zi_and255]) (by simp only [zi_add, zi_sub, zi_mul, zi_neg, zi_and1, zi_and7, zi_and15, zi_and31, zi_and255]) ?_
                              by_cases hc112 : (zq88 : Int) ≤ 0
                              · refine gy_ifT (pc' := 189) rfl (by decide) (by decide) (by omega) hc112 ?_
                                refine gz_s 2 (pc' := 191) (L' := [some (.ref x), some (.ref cd), some (.int (zi p)), some (.int (zi zq100)), some (.int (zi tn)), some (.int (zi zq75)), some (.int (zi (zq75 / 16))), some (.int (zi (zq75 % 16))), some (.int (zi jn86v0)), some (.int (zi zq88))]) (S' := [.ref x, .int (zi 1), .int (zi (p + zq100)), .ref co]) rfl ?_
                                refine gs_get rfl (by decide) rfl sq100.1 tx rfl rfl rfl (fun z113 ez113 az113 bz113 => ?_)
                                refine gy_sh1 rfl (by decide) (by omega) (fun z114 az114 bz114 cz114 => ?_)
                                refine gy_s 1 (pc' := 196) (L' := [some (.ref x), some (.ref cd), some (.int (zi p)), some (.int (zi zq100)), some (.int (zi tn)), some (.int (zi zq75)), some (.int (zi (zq75 / 16))), some (.int (zi (zq75 % 16))), some (.int (zi jn86v0)), some (.int (zi zq88))]) (S' := [.int (-(zi z114)), .int (zi (p + zq100)), .ref co]) (L2 := [some (.ref x), some (.ref cd), some (.int (zi p)), some (.int (zi zq100)), some (.int (zi tn)), some (.int (zi zq75)), some (.int (zi (zq75 / 16))), some (.int (zi (zq75 % 16))), some (.int (zi jn86v0)), some (.int (zi zq88))]) (S2 := [.int (zi (-z114)), .int (zi (p + zq100)), .ref co]) rfl (by simp only [zi_add, zi_sub, zi_mul, zi_neg, zi_and1, zi_and7, zi_and15, zi_and31, zi_and255]) (by simp only [zi_add, zi_sub, zi_mul, zi_neg, zi_and1, zi_and7, zi_and15, zi_and31, zi_and255]) ?_
                                have hl115 : 0 ≤ hq100.2.2.2.1 co ∧ hq100.2.2.2.1 co ≤ 12288 := gJ.rowl (G := gGG) sq100.1 tco rfl
                                have hl116 : hq100.2.2.2.1 co = h.2.2.2.1 co := congrFun sq100.2.2.2.2.1 co
                                refine gs_ast rfl (by decide) sq100 tco rfl rfl rfl (by decide) (fun _ => rfl) (by omega) (by omega) (fun _ => (by decide : (112999 : Nat) ∈ ([66014, 67001, 67002, 67003, 112999] : List Nat))) (by omega) (by omega) (fun h117 sh117 eh117 fh117 => ?_)
                                have s118 := (fh117 x 0 (fun q => absurd (((tx).symm.trans (congrArg ty q.1)).trans tco) (by decide))).trans s101
                                have s119 := (fh117 bi 0 (fun q => absurd (((tbi).symm.trans (congrArg ty q.1)).trans tco) (by decide))).trans s102
                                have s120 := (fh117 x 7 (fun q => absurd (((tx).symm.trans (congrArg ty q.1)).trans tco) (by decide))).trans s103
                                have s121 := (fh117 pic 2 (fun q => absurd (((tpic).symm.trans (congrArg ty q.1)).trans tco) (by decide))).trans s104
                                have s122 := (fh117 src 1 (fun q => absurd (((tsrc).symm.trans (congrArg ty q.1)).trans tco) (by decide))).trans s105
                                have s123 := (fh117 x 3 (fun q => absurd (((tx).symm.trans (congrArg ty q.1)).trans tco) (by decide))).trans s106
                                have s124 := (fh117 x 2 (fun q => absurd (((tx).symm.trans (congrArg ty q.1)).trans tco) (by decide))).trans s107
                                have s125 := (fh117 x 14 (fun q => absurd (((tx).symm.trans (congrArg ty q.1)).trans tco) (by decide))).trans s108
                                have s126 := (fh117 bi 1 (fun q => absurd (((tbi).symm.trans (congrArg ty q.1)).trans tco) (by decide))).trans efq100_0
                                have s127 := (fh117 bi 3 (fun q => absurd (((tbi).symm.trans (congrArg ty q.1)).trans tco) (by decide))).trans efq100_1
                                have s128 := (fh117 x 5 (fun q => absurd (((tx).symm.trans (congrArg ty q.1)).trans tco) (by decide))).trans ez113
                                refine gy_s 3 (pc' := 8) (L' := [some (.ref x), some (.ref cd), some (.int (zi p)), some (.int ((zi zq100) + zi 1)), some (.int ((zi tn) + zi 1)), some (.int (zi zq75)), some (.int (zi (zq75 / 16))), some (.int (zi (zq75 % 16))), some (.int (zi jn86v0)), some (.int (zi zq88))]) (S' := []) (L2 := [some (.ref x), some (.ref cd), some (.int (zi p)), some (.int (zi (zq100 + 1))), some (.int (zi (tn + 1))), some (.int (zi zq75)), some (.int (zi (zq75 / 16))), some (.int (zi (zq75 % 16))), some (.int (zi jn86v0)), some (.int (zi zq88))]) (S2 := []) rfl (by simp only [zi_add, zi_sub, zi_mul, zi_neg, zi_and1, zi_and7, zi_and15, zi_and31, zi_and255]) (by simp only [zi_add, zi_sub, zi_mul, zi_neg, zi_and1, zi_and7, zi_and15, zi_and31, zi_and255]) ?_
                                exact gz_wk (ihlp1 h117 (zq100 + 1) (tn + 1) fq100_0 fq100_1 (by omega) sh117 (by omega) (by omega) (by omega) (by omega) (by omega) s118 s119 s120 s121 s122 s123 s124 s126 s127) (gLw.s (gLw.s (gLw.s (gLw.s (gLw.s (gLw.n (gLw.n (gLw.n (gLw.n (gLw.n gLw.z))))))))))
                              · refine gy_ifF rfl (by decide) (by decide) (by omega) hc112 ?_
                                refine gz_s 2 (pc' := 182) (L' := [some (.ref x), some (.ref cd), some (.int (zi p)), some (.int (zi zq100)), some (.int (zi tn)), some (.int (zi zq75)), some (.int (zi (zq75 / 16))), some (.int (zi (zq75 % 16))), some (.int (zi jn86v0)), some (.int (zi zq88))]) (S' := [.ref x, .int (zi 1), .int (zi (p + zq100)), .ref co]) rfl ?_
                                refine gs_get rfl (by decide) rfl sq100.1 tx rfl rfl rfl (fun z129 ez129 az129 bz129 => ?_)
                                refine gy_sh1 rfl (by decide) (by omega) (fun z130 az130 bz130 cz130 => ?_)
                                refine gz_s 1 (pc' := 196) (L' := [some (.ref x), some (.ref cd), some (.int (zi p)), some (.int (zi zq100)), some (.int (zi tn)), some (.int (zi zq75)), some (.int (zi (zq75 / 16))), some (.int (zi (zq75 % 16))), some (.int (zi jn86v0)), some (.int (zi zq88))]) (S' := [.int (zi z130), .int (zi (p + zq100)), .ref co]) rfl ?_
                                have hl131 : 0 ≤ hq100.2.2.2.1 co ∧ hq100.2.2.2.1 co ≤ 12288 := gJ.rowl (G := gGG) sq100.1 tco rfl
                                have hl132 : hq100.2.2.2.1 co = h.2.2.2.1 co := congrFun sq100.2.2.2.2.1 co
                                refine gs_ast rfl (by decide) sq100 tco rfl rfl rfl (by decide) (fun _ => rfl) (by omega) (by omega) (fun _ => (by decide : (112999 : Nat) ∈ ([66014, 67001, 67002, 67003, 112999] : List Nat))) (by omega) (by omega) (fun h133 sh133 eh133 fh133 => ?_)
                                have s134 := (fh133 x 0 (fun q => absurd (((tx).symm.trans (congrArg ty q.1)).trans tco) (by decide))).trans s101
                                have s135 := (fh133 bi 0 (fun q => absurd (((tbi).symm.trans (congrArg ty q.1)).trans tco) (by decide))).trans s102
                                have s136 := (fh133 x 7 (fun q => absurd (((tx).symm.trans (congrArg ty q.1)).trans tco) (by decide))).trans s103
                                have s137 := (fh133 pic 2 (fun q => absurd (((tpic).symm.trans (congrArg ty q.1)).trans tco) (by decide))).trans s104
                                have s138 := (fh133 src 1 (fun q => absurd (((tsrc).symm.trans (congrArg ty q.1)).trans tco) (by decide))).trans s105
                                have s139 := (fh133 x 3 (fun q => absurd (((tx).symm.trans (congrArg ty q.1)).trans tco) (by decide))).trans s106
                                have s140 := (fh133 x 2 (fun q => absurd (((tx).symm.trans (congrArg ty q.1)).trans tco) (by decide))).trans s107
                                have s141 := (fh133 x 14 (fun q => absurd (((tx).symm.trans (congrArg ty q.1)).trans tco) (by decide))).trans s108
                                have s142 := (fh133 bi 1 (fun q => absurd (((tbi).symm.trans (congrArg ty q.1)).trans tco) (by decide))).trans efq100_0
                                have s143 := (fh133 bi 3 (fun q => absurd (((tbi).symm.trans (congrArg ty q.1)).trans tco) (by decide))).trans efq100_1
                                have s144 := (fh133 x 5 (fun q => absurd (((tx).symm.trans (congrArg ty q.1)).trans tco) (by decide))).trans ez129
                                refine gy_s 3 (pc' := 8) (L' := [some (.ref x), some (.ref cd), some (.int (zi p)), some (.int ((zi zq100) + zi 1)), some (.int ((zi tn) + zi 1)), some (.int (zi zq75)), some (.int (zi (zq75 / 16))), some (.int (zi (zq75 % 16))), some (.int (zi jn86v0)), some (.int (zi zq88))]) (S' := []) (L2 := [some (.ref x), some (.ref cd), some (.int (zi p)), some (.int (zi (zq100 + 1))), some (.int (zi (tn + 1))), some (.int (zi zq75)), some (.int (zi (zq75 / 16))), some (.int (zi (zq75 % 16))), some (.int (zi jn86v0)), some (.int (zi zq88))]) (S2 := []) rfl (by simp only [zi_add, zi_sub, zi_mul, zi_neg, zi_and1, zi_and7, zi_and15, zi_and31, zi_and255]) (by simp only [zi_add, zi_sub, zi_mul, zi_neg, zi_and1, zi_and7, zi_and15, zi_and31, zi_and255]) ?_
                                exact gz_wk (ihlp1 h133 (zq100 + 1) (tn + 1) fq100_0 fq100_1 (by omega) sh133 (by omega) (by omega) (by omega) (by omega) (by omega) s134 s135 s136 s137 s138 s139 s140 s142 s143) (gLw.s (gLw.s (gLw.s (gLw.s (gLw.s (gLw.n (gLw.n (gLw.n (gLw.n (gLw.n gLw.z))))))))))
                            · refine gy_icF rfl (by decide) (by decide) (by omega) (by omega) hc111 ?_
                              refine gz_s 1 (pc' := 159) (L' := [some (.ref x), some (.ref cd), some (.int (zi p)), some (.int (zi zq100)), some (.int (zi tn)), some (.int (zi zq75)), some (.int (zi (zq75 / 16))), some (.int (zi (zq75 % 16))), some (.int (zi jn86v0)), some (.int (zi zq88))]) (S' := [.int (zi 0)]) rfl ?_
                              exact gz_end (I := .ireturn) (len := 1) rfl (Or.inl rfl) ⟨sq100, 0, fq100_0, fq100_1, gfin_z rfl rfl (by omega), (by omega), (by omega), efq100_0, (by omega), (by omega), efq100_1, (by omega), (by omega), (by omega)⟩
                      · refine gy_ifF rfl (by decide) (by decide) (by omega) hc98 ?_
                        refine gz_s 3 (pc' := 122) (L' := [some (.ref x), some (.ref cd), some (.int (zi p)), some (.int (zi k)), some (.int (zi tn)), some (.int (zi zq75)), some (.int (zi (zq75 / 16))), some (.int (zi (zq75 % 16))), some (.int (zi jn86v0)), some (.int (zi zq88))]) (S' := [.int (zi (zq75 / 16)), .int (zi 1), .ref x]) rfl ?_
                        refine gy_sh1 rfl (by decide) (by omega) (fun z145 az145 bz145 cz145 => ?_)
                        refine gy_s 2 (pc' := 126) (L' := [some (.ref x), some (.ref cd), some (.int (zi p)), some (.int (zi k)), some (.int (zi tn)), some (.int (zi zq75)), some (.int (zi (zq75 / 16))), some (.int (zi (zq75 % 16))), some (.int (zi jn86v0)), some (.int (zi zq88))]) (S' := [.int ((zi z145) + (zi zq88)), .ref x]) (L2 := [some (.ref x), some (.ref cd), some (.int (zi p)), some (.int (zi k)), some (.int (zi tn)), some (.int (zi zq75)), some (.int (zi (zq75 / 16))), some (.int (zi (zq75 % 16))), some (.int (zi jn86v0)), some (.int (zi zq88))]) (S2 := [.int (zi (z145 + zq88)), .ref x]) rfl (by simp only [zi_add, zi_sub, zi_mul, zi_neg, zi_and1, zi_and7, zi_and15, zi_and31, zi_and255]) (by simp only [zi_add, zi_sub, zi_mul, zi_neg, zi_and1, zi_and7, zi_and15, zi_and31, zi_and255]) ?_
                        refine gs_put rfl (by decide) rfl sq88 tx rfl rfl rfl rfl (Or.inl rfl) (by decide) (by omega) (by omega) (fun h146 sh146 eh146 fh146 => ?_)
                        have s147 := (fh146 x 0 (fun q => absurd q.2 (by decide))).trans s89
                        have s148 := (fh146 bi 0 (fun q => absurd q.2 (by decide))).trans s90
                        have s149 := (fh146 x 7 (fun q => absurd q.2 (by decide))).trans s91
                        have s150 := (fh146 pic 2 (fun q => absurd q.2 (by decide))).trans s92
                        have s151 := (fh146 src 1 (fun q => absurd q.2 (by decide))).trans s93
                        have s152 := (fh146 x 3 (fun q => absurd q.2 (by decide))).trans s94
                        have s153 := (fh146 x 2 (fun q => absurd q.2 (by decide))).trans s95
                        have s154 := (fh146 bi 1 (fun q => absurd q.2 (by decide))).trans efq88_0
                        have s155 := (fh146 bi 3 (fun q => absurd q.2 (by decide))).trans efq88_1
                        refine gy_s 3 (pc' := 8) (L' := [some (.ref x), some (.ref cd), some (.int (zi p)), some (.int (zi k)), some (.int ((zi tn) + zi 1)), some (.int (zi zq75)), some (.int (zi (zq75 / 16))), some (.int (zi (zq75 % 16))), some (.int (zi jn86v0)), some (.int (zi zq88))]) (S' := []) (L2 := [some (.ref x), some (.ref cd), some (.int (zi p)), some (.int (zi k)), some (.int (zi (tn + 1))), some (.int (zi zq75)), some (.int (zi (zq75 / 16))), some (.int (zi (zq75 % 16))), some (.int (zi jn86v0)), some (.int (zi zq88))]) (S2 := []) rfl (by simp only [zi_add, zi_sub, zi_mul, zi_neg, zi_and1, zi_and7, zi_and15, zi_and31, zi_and255]) (by simp only [zi_add, zi_sub, zi_mul, zi_neg, zi_and1, zi_and7, zi_and15, zi_and31, zi_and255]) ?_
                        exact gz_wk (ihlp1 h146 k (tn + 1) fq88_0 fq88_1 (by omega) sh146 (by omega) (by omega) (by omega) (by omega) (by omega) s147 s148 s149 s150 s151 s152 s153 s154 s155) (gLw.s (gLw.s (gLw.s (gLw.s (gLw.s (gLw.n (gLw.n (gLw.n (gLw.n (gLw.n gLw.z))))))))))
                    · refine gy_ifF rfl (by decide) (by decide) (by omega) hc97 ?_
                      refine gz_s 1 (pc' := 112) (L' := [some (.ref x), some (.ref cd), some (.int (zi p)), some (.int (zi k)), some (.int (zi tn)), some (.int (zi zq75)), some (.int (zi (zq75 / 16))), some (.int (zi (zq75 % 16))), some (.int (zi jn86v0)), some (.int (zi zq88))]) (S' := [.int (zi 0)]) rfl ?_
                      exact gz_end (I := .ireturn) (len := 1) rfl (Or.inl rfl) ⟨sq88, 0, fq88_0, fq88_1, gfin_z rfl rfl (by omega), (by omega), (by omega), efq88_0, (by omega), (by omega), efq88_1, (by omega), (by omega), (by omega)⟩
                  by_cases hc156 : (jn86v0 : Int) = 0
                  · refine gy_ifT (pc' := 99) rfl (by decide) (by decide) (by omega) hc156 ?_
                    refine gz_s 1 (pc' := 101) (L' := [some (.ref x), some (.ref cd), some (.int (zi p)), some (.int (zi k)), some (.int (zi tn)), some (.int (zi zq75)), some (.int (zi (zq75 / 16))), some (.int (zi (zq75 % 16))), some (.int (zi jn86v0)), none]) (S' := [.int (zi (zq75 % 16)), .ref bi]) rfl ?_
                    exact jn87 (zq75 % 16) (by omega)
                  · refine gy_ifF rfl (by decide) (by decide) (by omega) hc156 ?_
                    refine gz_s 2 (pc' := 101) (L' := [some (.ref x), some (.ref cd), some (.int (zi p)), some (.int (zi k)), some (.int (zi tn)), some (.int (zi zq75)), some (.int (zi (zq75 / 16))), some (.int (zi (zq75 % 16))), some (.int (zi jn86v0)), none]) (S' := [.int (zi (zq75 / 16)), .ref bi]) rfl ?_
                    exact jn87 (zq75 / 16) (by omega)
                by_cases hc157 : ¬ (zq75 % 16 : Int) = 0
                · refine gy_ifT (pc' := 82) rfl (by decide) (by decide) (by omega) hc157 ?_
                  refine gz_s 1 (pc' := 83) (L' := [some (.ref x), some (.ref cd), some (.int (zi p)), some (.int (zi k)), some (.int (zi tn)), some (.int (zi zq75)), some (.int (zi (zq75 / 16))), some (.int (zi (zq75 % 16))), none, none]) (S' := [.int (zi 0)]) rfl ?_
                  exact jn86 0 (by omega)
                · refine gy_ifF rfl (by decide) (by decide) (by omega) hc157 ?_
                  refine gz_s 2 (pc' := 75) (L' := [some (.ref x), some (.ref cd), some (.int (zi p)), some (.int (zi k)), some (.int (zi tn)), some (.int (zi zq75)), some (.int (zi (zq75 / 16))), some (.int (zi (zq75 % 16))), none, none]) (S' := [.int (zi 15), .int (zi (zq75 / 16))]) rfl ?_
                  by_cases hc158 : (15 : Int) ≤ zq75 / 16
                  · refine gy_icT (pc' := 82) rfl (by decide) (by decide) (by omega) (by omega) hc158 ?_
                    refine gz_s 1 (pc' := 83) (L' := [some (.ref x), some (.ref cd), some (.int (zi p)), some (.int (zi k)), some (.int (zi tn)), some (.int (zi zq75)), some (.int (zi (zq75 / 16))), some (.int (zi (zq75 % 16))), none, none]) (S' := [.int (zi 0)]) rfl ?_
                    exact jn86 0 (by omega)
                  · refine gy_icF rfl (by decide) (by decide) (by omega) (by omega) hc158 ?_
                    refine gz_s 2 (pc' := 83) (L' := [some (.ref x), some (.ref cd), some (.int (zi p)), some (.int (zi k)), some (.int (zi tn)), some (.int (zi zq75)), some (.int (zi (zq75 / 16))), some (.int (zi (zq75 % 16))), none, none]) (S' := [.int (zi 1)]) rfl ?_
                    exact jn86 1 (by omega)
              · refine gy_icF rfl (by decide) (by decide) (by omega) (by omega) hc85 ?_
                refine gz_s 1 (pc' := 65) (L' := [some (.ref x), some (.ref cd), some (.int (zi p)), some (.int (zi k)), some (.int (zi tn)), some (.int (zi zq75)), some (.int (zi (zq75 / 16))), some (.int (zi (zq75 % 16))), none, none]) (S' := [.int (zi 0)]) rfl ?_
                exact gz_end (I := .ireturn) (len := 1) rfl (Or.inl rfl) ⟨sq75, 0, fq75_0, fq75_1, gfin_z rfl rfl (by omega), (by omega), (by omega), efq75_0, (by omega), (by omega), efq75_1, (by omega), (by omega), (by omega)⟩
  exact gz_wk (lp1 _ h fr 0 p0 l0 (Nat.lt_succ_self _) hS (by omega) (by omega) (by omega) (by omega) (by omega) ebi esrc epic eco esz ett efr ep0 el0) (gLw.s (gLw.s (gLw.s (gLw.s (gLw.s (gLw.n (gLw.n (gLw.n (gLw.n (gLw.n gLw.z))))))))))
set_option maxRecDepth 20000 in
set_option maxHeartbeats 4000000 in
theorem cl_isBlockRead82 (d : Nat) {ty : Nat → Nat} {h : gH} (hJ : gJ rT 1027 ty h) (x : Nat) (tx : ty x = 66) (bd : Nat) (tbd : ty bd = 82) (p : Int) (rp : 0 ≤ p ∧ p ≤ 12224) (bi : Nat) (ebi : h.2.2.2.2 x 0 = .ref bi) (tbi : ty bi = 67) (src : Nat) (esrc : h.2.2.2.2 bi 0 = .ref src) (tsrc : ty src = 51) (pic : Nat) (epic : h.2.2.2.2 x 7 = .ref pic) (tpic : ty pic = 54) (co : Nat) (eco : h.2.2.2.2 pic 2 = .ref co) (tco : ty co = 112) (sz : Int) (esz : h.2.2.2.2 src 1 = .int (zi sz)) (rsz : 0 ≤ sz ∧ sz ≤ 2000) (p0 : Int) (ep0 : h.2.2.2.2 bi 1 = .int (zi p0)) (rp0 : 0 ≤ p0 ∧ p0 ≤ 2002) (l0 : Int) (el0 : h.2.2.2.2 bi 3 = .int (zi l0)) (rl0 : 0 ≤ l0 ∧ l0 ≤ 8) (tt : Int) (ett : h.2.2.2.2 x 3 = .int (zi tt)) (rtt : (-1) ≤ tt ∧ tt ≤ 63) (fr : Int) (efr : h.2.2.2.2 x 2 = .int (zi fr)) (rfr : 0 ≤ fr ∧ fr ≤ 63) (pp0 : p + 64 ≤ (h.2.2.2.1 co : Int)) (pp1 : 0 ≤ tt) (uq : gUq ty) : gz gPP gGG gcn (d + 4) gt48 0 (gent [.ref x, .ref bd, .int (zi p)] 4) [] h (fun q _ => gSs rT 1027 ty [66014, 67001, 67002, 67003, 82011, 112999] h q.2.2 ∧ ∃ z p1 l1 : Int, gfin gt48 q.1 q.2.1 = some (some (.int (zi z))) ∧ 0 ≤ z ∧ z ≤ 1 ∧ q.2.2.2.2.2.2 bi 1 = .int (zi p1) ∧ 0 ≤ p1 ∧ p1 ≤ 2002 ∧ q.2.2.2.2.2.2 bi 3 = .int (zi l1) ∧ 0 ≤ l1 ∧ l1 ≤ 8 ∧ (p0 ≤ p1)) := by
  have hS : gSs rT 1027 ty [66014, 67001, 67002, 67003, 82011, 112999] h h := gSs.rf hJ
  refine gz_s 1 (pc' := 1) (L' := [some (.ref x), some (.ref bd), some (.int (zi p)), none]) (S' := [.ref x]) rfl ?_
  refine gs_gtk rfl (by decide) rfl hS.1 tx rfl rfl efr ?_
  by_cases hc1 : ¬ (fr : Int) = 0
  · refine gy_ifT (pc' := 54) rfl (by decide) (by decide) (by omega) hc1 ?_
    refine gz_s 1 (pc' := 55) (L' := [some (.ref x), some (.ref bd), some (.int (zi p)), none]) (S' := [.ref x]) rfl ?_
    refine gs_gtk rfl (by decide) rfl hS.1 tx rfl rfl efr ?_
    refine gy_ifT (pc' := 72) rfl (by decide) (by decide) (by omega) (by first | (simp [zc]; done) | (simp only [zc]; omega)) ?_
    refine gz_s 1 (pc' := 73) (L' := [some (.ref x), some (.ref bd), some (.int (zi p)), none]) (S' := [.ref x]) rfl ?_
    refine gs_gtk rfl (by decide) rfl hS.1 tx rfl rfl ett ?_
    by_cases hc2 : ¬ (tt : Int) = 0
    · refine gy_ifT (pc' := 81) rfl (by decide) (by decide) (by omega) hc2 ?_
      refine gz_s 3 (pc' := 84) (L' := [some (.ref x), some (.ref bd), some (.int (zi p)), none]) (S' := [.ref bd, .int (zi 1), .ref x]) rfl ?_
      refine gs_get rfl (by decide) rfl hS.1 tbd rfl rfl rfl (fun z3 ez3 az3 bz3 => ?_)
      refine gz_call rfl (by decide) rfl (by decide) (by decide) (gcal_of rfl rfl rfl (Nat.le_of_ble_eq_true rfl) (gJ.recv (G := gGG) hS.1 tx rfl rfl)) (cl_ScanReader_codesOf _ hS.1 x tx 1 (by omega) z3 (by omega) uq) (fun q4 _ wq4 => ?_)
      obtain ⟨pq4, oq4, hq4⟩ := q4
      obtain ⟨xq4, zq4, gq4, tzq4⟩ := wq4
      refine ⟨_, gq4, ?_⟩
      show gz gPP gGG gcn _ _ 90 [some (.ref x), some (.ref bd), some (.int (zi p)), none] [.ref zq4] hq4 _
      have sq4 : gSs rT 1027 ty [66014, 67001, 67002, 67003, 82011, 112999] h hq4 := gSs.tr hS xq4 (by decide)
      have s5 := (xq4.2.2.2.2.2 x 0 (by rw [tx]; decide)).trans ebi
      have s6 := (xq4.2.2.2.2.2 bi 0 (by rw [tbi]; decide)).trans esrc
      have s7 := (xq4.2.2.2.2.2 x 7 (by rw [tx]; decide)).trans epic
      have s8 := (xq4.2.2.2.2.2 pic 2 (by rw [tpic]; decide)).trans eco
      have s9 := (xq4.2.2.2.2.2 src 1 (by rw [tsrc]; decide)).trans esz
      have s10 := (xq4.2.2.2.2.2 bi 1 (by rw [tbi]; decide)).trans ep0
      have s11 := (xq4.2.2.2.2.2 bi 3 (by rw [tbi]; decide)).trans el0
      have s12 := (xq4.2.2.2.2.2 x 3 (by rw [tx]; decide)).trans ett
      have s13 := (xq4.2.2.2.2.2 x 2 (by rw [tx]; decide)).trans efr
      have s14 := (xq4.2.2.2.2.2 bd 10 (by rw [tbd]; decide)).trans ez3
      refine gz_s 2 (pc' := 92) (L' := [some (.ref x), some (.ref bd), some (.int (zi p)), some (.ref zq4)]) (S' := [.ref x]) rfl ?_
      refine gs_get rfl (by decide) rfl sq4.1 tx rfl rfl rfl (fun z15 ez15 az15 bz15 => ?_)
      by_cases hc16 : (z15 : Int) ≤ 0
      · refine gy_ifT (pc' := 107) rfl (by decide) (by decide) (by omega) hc16 ?_
        refine gz_s 3 (pc' := 110) (L' := [some (.ref x), some (.ref bd), some (.int (zi p)), some (.ref zq4)]) (S' := [.int (zi p), .ref zq4, .ref x]) rfl ?_
        have hl17 : hq4.2.2.2.1 co = h.2.2.2.1 co := congrFun sq4.2.2.2.2.1 co
        refine gz_call rfl (by decide) rfl (by decide) (by decide) (gcal_of rfl rfl rfl (Nat.le_of_ble_eq_true rfl) (gJ.recv (G := gGG) sq4.1 tx rfl rfl)) (cl_ScanReader_areOthersRead _ sq4.1 x tx zq4 tzq4 p (by omega) bi s5 tbi src s6 tsrc pic s7 tpic co s8 tco sz s9 (by omega) p0 s10 (by omega) l0 s11 (by omega) tt s12 (by omega) fr s13 (by omega) (by omega) uq) (fun q18 _ wq18 => ?_)
        obtain ⟨pq18, oq18, hq18⟩ := q18
        obtain ⟨xq18, zq18, fq18_0, fq18_1, gq18, aq18, bq18, efq18_0, afq18_0, bfq18_0, efq18_1, afq18_1, bfq18_1, uq18_0⟩ := wq18
        refine ⟨_, gq18, ?_⟩
        show gz gPP gGG gcn _ _ 113 [some (.ref x), some (.ref bd), some (.int (zi p)), some (.ref zq4)] [.int (zi zq18)] hq18 _
        have sq18 : gSs rT 1027 ty [66014, 67001, 67002, 67003, 82011, 112999] h hq18 := gSs.tr sq4 xq18 (by decide)
        have s19 := (xq18.2.2.2.2.2 x 0 (by rw [tx]; decide)).trans s5
        have s20 := (xq18.2.2.2.2.2 bi 0 (by rw [tbi]; decide)).trans s6
        have s21 := (xq18.2.2.2.2.2 x 7 (by rw [tx]; decide)).trans s7
        have s22 := (xq18.2.2.2.2.2 pic 2 (by rw [tpic]; decide)).trans s8
        have s23 := (xq18.2.2.2.2.2 src 1 (by rw [tsrc]; decide)).trans s9
        have s24 := (xq18.2.2.2.2.2 x 3 (by rw [tx]; decide)).trans s12
        have s25 := (xq18.2.2.2.2.2 x 2 (by rw [tx]; decide)).trans s13
        have s26 := (xq18.2.2.2.2.2 bd 10 (by rw [tbd]; decide)).trans s14
        have s27 := (xq18.2.2.2.2.2 x 4 (by rw [tx]; decide)).trans ez15
        exact gz_end (I := .ireturn) (len := 1) rfl (Or.inl rfl) ⟨sq18, zq18, fq18_0, fq18_1, gfin_z rfl rfl (by omega), (by omega), (by omega), efq18_0, (by omega), (by omega), efq18_1, (by omega), (by omega), (by omega)⟩
      · refine gy_ifF rfl (by decide) (by decide) (by omega) hc16 ?_
        refine gz_s 3 (pc' := 101) (L' := [some (.ref x), some (.ref bd), some (.int (zi p)), some (.ref zq4)]) (S' := [.int (zi p), .ref zq4, .ref x]) rfl ?_
        have hl28 : hq4.2.2.2.1 co = h.2.2.2.1 co := congrFun sq4.2.2.2.2.1 co
        refine gz_call rfl (by decide) rfl (by decide) (by decide) (gcal_of rfl rfl rfl (Nat.le_of_ble_eq_true rfl) (gJ.recv (G := gGG) sq4.1 tx rfl rfl)) (cl_ScanReader_areOthersRefined _ sq4.1 x tx zq4 tzq4 p (by omega) bi s5 tbi src s6 tsrc pic s7 tpic co s8 tco sz s9 (by omega) p0 s10 (by omega) l0 s11 (by omega) tt s12 (by omega) fr s13 (by omega) (by omega) (by omega) uq) (fun q29 _ wq29 => ?_)
        obtain ⟨pq29, oq29, hq29⟩ := q29
        obtain ⟨xq29, zq29, fq29_0, fq29_1, gq29, aq29, bq29, efq29_0, afq29_0, bfq29_0, efq29_1, afq29_1, bfq29_1, uq29_0⟩ := wq29
        refine ⟨_, gq29, ?_⟩
        show gz gPP gGG gcn _ _ 104 [some (.ref x), some (.ref bd), some (.int (zi p)), some (.ref zq4)] [.int (zi zq29)] hq29 _
        have sq29 : gSs rT 1027 ty [66014, 67001, 67002, 67003, 82011, 112999] h hq29 := gSs.tr sq4 xq29 (by decide)
        have s30 := (xq29.2.2.2.2.2 x 0 (by rw [tx]; decide)).trans s5
        have s31 := (xq29.2.2.2.2.2 bi 0 (by rw [tbi]; decide)).trans s6
        have s32 := (xq29.2.2.2.2.2 x 7 (by rw [tx]; decide)).trans s7
        have s33 := (xq29.2.2.2.2.2 pic 2 (by rw [tpic]; decide)).trans s8
        have s34 := (xq29.2.2.2.2.2 src 1 (by rw [tsrc]; decide)).trans s9
        have s35 := (xq29.2.2.2.2.2 x 3 (by rw [tx]; decide)).trans s12
        have s36 := (xq29.2.2.2.2.2 x 2 (by rw [tx]; decide)).trans s13
        have s37 := (xq29.2.2.2.2.2 bd 10 (by rw [tbd]; decide)).trans s14
        have s38 := (xq29.2.2.2.2.2 x 4 (by rw [tx]; decide)).trans ez15
        refine gz_s 1 (pc' := 113) (L' := [some (.ref x), some (.ref bd), some (.int (zi p)), some (.ref zq4)]) (S' := [.int (zi zq29)]) rfl ?_
        exact gz_end (I := .ireturn) (len := 1) rfl (Or.inl rfl) ⟨sq29, zq29, fq29_0, fq29_1, gfin_z rfl rfl (by omega), (by omega), (by omega), efq29_0, (by omega), (by omega), efq29_1, (by omega), (by omega), (by omega)⟩
    · refine gy_ifF rfl (by decide) (by decide) (by omega) hc2 ?_
      refine gz_s 1 (pc' := 80) (L' := [some (.ref x), some (.ref bd), some (.int (zi p)), none]) (S' := [.int (zi 1)]) rfl ?_
      exact gz_end (I := .ireturn) (len := 1) rfl (Or.inl rfl) ⟨hS, 1, p0, l0, gfin_z rfl rfl (by omega), (by omega), (by omega), ep0, (by omega), (by omega), el0, (by omega), (by omega), (by omega)⟩
  · refine gy_ifF rfl (by decide) (by decide) (by omega) hc1 ?_
    refine gz_s 1 (pc' := 8) (L' := [some (.ref x), some (.ref bd), some (.int (zi p)), none]) (S' := [.ref x]) rfl ?_
    refine gs_get rfl (by decide) rfl hS.1 tx rfl rfl rfl (fun z39 ez39 az39 bz39 => ?_)
    by_cases hc40 : (z39 : Int) ≤ 0
    · refine gy_ifT (pc' := 54) rfl (by decide) (by decide) (by omega) hc40 ?_
      refine gz_s 1 (pc' := 55) (L' := [some (.ref x), some (.ref bd), some (.int (zi p)), none]) (S' := [.ref x]) rfl ?_
      refine gs_gtk rfl (by decide) rfl hS.1 tx rfl rfl efr ?_
      refine gy_ifF rfl (by decide) (by decide) (by omega) (by first | (simp [zc]; done) | (simp only [zc]; omega)) ?_
      refine gz_s 3 (pc' := 64) (L' := [some (.ref x), some (.ref bd), some (.int (zi p)), none]) (S' := [.int (zi p), .ref bd, .ref x]) rfl ?_
      have hl41 : h.2.2.2.1 co = h.2.2.2.1 co := congrFun hS.2.2.2.2.1 co
      refine gz_call rfl (by decide) rfl (by decide) (by decide) (gcal_of rfl rfl rfl (Nat.le_of_ble_eq_true rfl) (gJ.recv (G := gGG) hS.1 tx rfl rfl)) (cl_isFirstRead82 _ hS.1 x tx bd tbd p (by omega) bi ebi tbi src esrc tsrc pic epic tpic co eco tco sz esz (by omega) p0 ep0 (by omega) l0 el0 (by omega) (by omega) uq) (fun q42 _ wq42 => ?_)
      obtain ⟨pq42, oq42, hq42⟩ := q42
      obtain ⟨xq42, zq42, fq42_0, fq42_1, gq42, aq42, bq42, efq42_0, afq42_0, bfq42_0, efq42_1, afq42_1, bfq42_1, uq42_0⟩ := wq42
      refine ⟨_, gq42, ?_⟩
      show gz gPP gGG gcn _ _ 67 [some (.ref x), some (.ref bd), some (.int (zi p)), none] [.int (zi zq42)] hq42 _
      have sq42 : gSs rT 1027 ty [66014, 67001, 67002, 67003, 82011, 112999] h hq42 := gSs.tr hS xq42 (by decide)
      have s43 := (xq42.2.2.2.2.2 x 0 (by rw [tx]; decide)).trans ebi
      have s44 := (xq42.2.2.2.2.2 bi 0 (by rw [tbi]; decide)).trans esrc
      have s45 := (xq42.2.2.2.2.2 x 7 (by rw [tx]; decide)).trans epic
      have s46 := (xq42.2.2.2.2.2 pic 2 (by rw [tpic]; decide)).trans eco
      have s47 := (xq42.2.2.2.2.2 src 1 (by rw [tsrc]; decide)).trans esz
      have s48 := (xq42.2.2.2.2.2 x 3 (by rw [tx]; decide)).trans ett
      have s49 := (xq42.2.2.2.2.2 x 2 (by rw [tx]; decide)).trans efr
      have s50 := (xq42.2.2.2.2.2 x 4 (by rw [tx]; decide)).trans ez39
      by_cases hc51 : ¬ (zq42 : Int) = 0
      · refine gy_ifT (pc' := 72) rfl (by decide) (by decide) (by omega) hc51 ?_
        refine gz_s 1 (pc' := 73) (L' := [some (.ref x), some (.ref bd), some (.int (zi p)), none]) (S' := [.ref x]) rfl ?_
        refine gs_gtk rfl (by decide) rfl sq42.1 tx rfl rfl s48 ?_
        by_cases hc52 : ¬ (tt : Int) = 0
        · refine gy_ifT (pc' := 81) rfl (by decide) (by decide) (by omega) hc52 ?_
          refine gz_s 3 (pc' := 84) (L' := [some (.ref x), some (.ref bd), some (.int (zi p)), none]) (S' := [.ref bd, .int (zi 1), .ref x]) rfl ?_
          refine gs_get rfl (by decide) rfl sq42.1 tbd rfl rfl rfl (fun z53 ez53 az53 bz53 => ?_)
          refine gz_call rfl (by decide) rfl (by decide) (by decide) (gcal_of rfl rfl rfl (Nat.le_of_ble_eq_true rfl) (gJ.recv (G := gGG) sq42.1 tx rfl rfl)) (cl_ScanReader_codesOf _ sq42.1 x tx 1 (by omega) z53 (by omega) uq) (fun q54 _ wq54 => ?_)
          obtain ⟨pq54, oq54, hq54⟩ := q54
          obtain ⟨xq54, zq54, gq54, tzq54⟩ := wq54
          refine ⟨_, gq54, ?_⟩
          show gz gPP gGG gcn _ _ 90 [some (.ref x), some (.ref bd), some (.int (zi p)), none] [.ref zq54] hq54 _
          have sq54 : gSs rT 1027 ty [66014, 67001, 67002, 67003, 82011, 112999] h hq54 := gSs.tr sq42 xq54 (by decide)
          have s55 := (xq54.2.2.2.2.2 x 0 (by rw [tx]; decide)).trans s43
          have s56 := (xq54.2.2.2.2.2 bi 0 (by rw [tbi]; decide)).trans s44
          have s57 := (xq54.2.2.2.2.2 x 7 (by rw [tx]; decide)).trans s45
          have s58 := (xq54.2.2.2.2.2 pic 2 (by rw [tpic]; decide)).trans s46
          have s59 := (xq54.2.2.2.2.2 src 1 (by rw [tsrc]; decide)).trans s47
          have s60 := (xq54.2.2.2.2.2 x 3 (by rw [tx]; decide)).trans s48
          have s61 := (xq54.2.2.2.2.2 x 2 (by rw [tx]; decide)).trans s49
          have s62 := (xq54.2.2.2.2.2 x 4 (by rw [tx]; decide)).trans s50
          have s63 := (xq54.2.2.2.2.2 bi 1 (by rw [tbi]; decide)).trans efq42_0
          have s64 := (xq54.2.2.2.2.2 bi 3 (by rw [tbi]; decide)).trans efq42_1
          have s65 := (xq54.2.2.2.2.2 bd 10 (by rw [tbd]; decide)).trans ez53
          refine gz_s 2 (pc' := 92) (L' := [some (.ref x), some (.ref bd), some (.int (zi p)), some (.ref zq54)]) (S' := [.ref x]) rfl ?_
          refine gs_gtk rfl (by decide) rfl sq54.1 tx rfl rfl s62 ?_
          refine gy_ifT (pc' := 107) rfl (by decide) (by decide) (by omega) (by first | (simp [zc]; done) | (simp only [zc]; omega)) ?_
          refine gz_s 3 (pc' := 110) (L' := [some (.ref x), some (.ref bd), some (.int (zi p)), some (.ref zq54)]) (S' := [.int (zi p), .ref zq54, .ref x]) rfl ?_
          have hl66 : hq54.2.2.2.1 co = h.2.2.2.1 co := congrFun sq54.2.2.2.2.1 co
          refine gz_call rfl (by decide) rfl (by decide) (by decide) (gcal_of rfl rfl rfl (Nat.le_of_ble_eq_true rfl) (gJ.recv (G := gGG) sq54.1 tx rfl rfl)) (cl_ScanReader_areOthersRead _ sq54.1 x tx zq54 tzq54 p (by omega) bi s55 tbi src s56 tsrc pic s57 tpic co s58 tco sz s59 (by omega) fq42_0 s63 (by omega) fq42_1 s64 (by omega) tt s60 (by omega) fr s61 (by omega) (by omega) uq) (fun q67 _ wq67 => ?_)
          obtain ⟨pq67, oq67, hq67⟩ := q67
          obtain ⟨xq67, zq67, fq67_0, fq67_1, gq67, aq67, bq67, efq67_0, afq67_0, bfq67_0, efq67_1, afq67_1, bfq67_1, uq67_0⟩ := wq67
          refine ⟨_, gq67, ?_⟩
          show gz gPP gGG gcn _ _ 113 [some (.ref x), some (.ref bd), some (.int (zi p)), some (.ref zq54)] [.int (zi zq67)] hq67 _
          have sq67 : gSs rT 1027 ty [66014, 67001, 67002, 67003, 82011, 112999] h hq67 := gSs.tr sq54 xq67 (by decide)
          have s68 := (xq67.2.2.2.2.2 x 0 (by rw [tx]; decide)).trans s55
          have s69 := (xq67.2.2.2.2.2 bi 0 (by rw [tbi]; decide)).trans s56
          have s70 := (xq67.2.2.2.2.2 x 7 (by rw [tx]; decide)).trans s57
          have s71 := (xq67.2.2.2.2.2 pic 2 (by rw [tpic]; decide)).trans s58
          have s72 := (xq67.2.2.2.2.2 src 1 (by rw [tsrc]; decide)).trans s59
          have s73 := (xq67.2.2.2.2.2 x 3 (by rw [tx]; decide)).trans s60
          have s74 := (xq67.2.2.2.2.2 x 2 (by rw [tx]; decide)).trans s61
          have s75 := (xq67.2.2.2.2.2 x 4 (by rw [tx]; decide)).trans s62
          have s76 := (xq67.2.2.2.2.2 bd 10 (by rw [tbd]; decide)).trans s65
          exact gz_end (I := .ireturn) (len := 1) rfl (Or.inl rfl) ⟨sq67, zq67, fq67_0, fq67_1, gfin_z rfl rfl (by omega), (by omega), (by omega), efq67_0, (by omega), (by omega), efq67_1, (by omega), (by omega), (by omega)⟩
        · refine gy_ifF rfl (by decide) (by decide) (by omega) hc52 ?_
          refine gz_s 1 (pc' := 80) (L' := [some (.ref x), some (.ref bd), some (.int (zi p)), none]) (S' := [.int (zi 1)]) rfl ?_
          exact gz_end (I := .ireturn) (len := 1) rfl (Or.inl rfl) ⟨sq42, 1, fq42_0, fq42_1, gfin_z rfl rfl (by omega), (by omega), (by omega), efq42_0, (by omega), (by omega), efq42_1, (by omega), (by omega), (by omega)⟩
      · refine gy_ifF rfl (by decide) (by decide) (by omega) hc51 ?_
        refine gz_s 1 (pc' := 71) (L' := [some (.ref x), some (.ref bd), some (.int (zi p)), none]) (S' := [.int (zi 0)]) rfl ?_
        exact gz_end (I := .ireturn) (len := 1) rfl (Or.inl rfl) ⟨sq42, 0, fq42_0, fq42_1, gfin_z rfl rfl (by omega), (by omega), (by omega), efq42_0, (by omega), (by omega), efq42_1, (by omega), (by omega), (by omega)⟩
    · refine gy_ifF rfl (by decide) (by decide) (by omega) hc40 ?_
      refine gz_s 1 (pc' := 15) (L' := [some (.ref x), some (.ref bd), some (.int (zi p)), none]) (S' := [.ref x]) rfl ?_
      refine gs_gtk rfl (by decide) rfl hS.1 tx rfl rfl ebi ?_
      refine gz_call rfl (by decide) rfl (by decide) (by decide) (gcal_of rfl rfl rfl (Nat.le_of_ble_eq_true rfl) (gJ.recv (G := gGG) hS.1 tbi rfl rfl)) (cl_Bits_nextBit _ hS.1 bi tbi src esrc tsrc sz esz (by omega) p0 ep0 (by omega) l0 el0 (by omega) uq) (fun q77 _ wq77 => ?_)
      obtain ⟨pq77, oq77, hq77⟩ := q77
      obtain ⟨xq77, zq77, fq77_0, fq77_1, gq77, aq77, bq77, efq77_0, afq77_0, bfq77_0, efq77_1, afq77_1, bfq77_1, uq77_0⟩ := wq77
      refine ⟨_, gq77, ?_⟩
      show gz gPP gGG gcn _ _ 21 [some (.ref x), some (.ref bd), some (.int (zi p)), none] [.int (zi zq77)] hq77 _
      have sq77 : gSs rT 1027 ty [66014, 67001, 67002, 67003, 82011, 112999] h hq77 := gSs.tr hS xq77 (by decide)
      have s78 := (xq77.2.2.2.2.2 x 0 (by rw [tx]; decide)).trans ebi
      have s79 := (xq77.2.2.2.2.2 bi 0 (by rw [tbi]; decide)).trans esrc
      have s80 := (xq77.2.2.2.2.2 x 7 (by rw [tx]; decide)).trans epic
      have s81 := (xq77.2.2.2.2.2 pic 2 (by rw [tpic]; decide)).trans eco
      have s82 := (xq77.2.2.2.2.2 src 1 (by rw [tsrc]; decide)).trans esz
      have s83 := (xq77.2.2.2.2.2 x 3 (by rw [tx]; decide)).trans ett
      have s84 := (xq77.2.2.2.2.2 x 2 (by rw [tx]; decide)).trans efr
      have s85 := (xq77.2.2.2.2.2 x 4 (by rw [tx]; decide)).trans ez39
      refine gz_s 2 (pc' := 23) (L' := [some (.ref x), some (.ref bd), some (.int (zi p)), some (.int (zi zq77))]) (S' := [.int (zi zq77)]) rfl ?_
      by_cases hc86 : (zq77 : Int) ≤ 0
      · refine gy_ifT (pc' := 44) rfl (by decide) (by decide) (by omega) hc86 ?_
        refine gz_s 1 (pc' := 45) (L' := [some (.ref x), some (.ref bd), some (.int (zi p)), some (.int (zi zq77))]) (S' := [.int (zi zq77)]) rfl ?_
        by_cases hc87 : (zq77 : Int) < 0
        · refine gy_ifT (pc' := 52) rfl (by decide) (by decide) (by omega) hc87 ?_
          refine gz_s 1 (pc' := 53) (L' := [some (.ref x), some (.ref bd), some (.int (zi p)), some (.int (zi zq77))]) (S' := [.int (zi 0)]) rfl ?_
          exact gz_end (I := .ireturn) (len := 1) rfl (Or.inl rfl) ⟨sq77, 0, fq77_0, fq77_1, gfin_z rfl rfl (by omega), (by omega), (by omega), efq77_0, (by omega), (by omega), efq77_1, (by omega), (by omega), (by omega)⟩
        · refine gy_ifF rfl (by decide) (by decide) (by omega) hc87 ?_
          refine gz_s 2 (pc' := 53) (L' := [some (.ref x), some (.ref bd), some (.int (zi p)), some (.int (zi zq77))]) (S' := [.int (zi 1)]) rfl ?_
          exact gz_end (I := .ireturn) (len := 1) rfl (Or.inl rfl) ⟨sq77, 1, fq77_0, fq77_1, gfin_z rfl rfl (by omega), (by omega), (by omega), efq77_0, (by omega), (by omega), efq77_1, (by omega), (by omega), (by omega)⟩
      · refine gy_ifF rfl (by decide) (by decide) (by omega) hc86 ?_
        refine gz_s 1 (pc' := 27) (L' := [some (.ref x), some (.ref bd), some (.int (zi p)), some (.int (zi zq77))]) (S' := [.ref x]) rfl ?_
        refine gs_gtk rfl (by decide) rfl sq77.1 tx rfl rfl s80 ?_
        refine gs_gtk rfl (by decide) rfl sq77.1 tpic rfl rfl s81 ?_
        refine gz_s 2 (pc' := 35) (L' := [some (.ref x), some (.ref bd), some (.int (zi p)), some (.int (zi zq77))]) (S' := [.int (zi p), .ref co, .int (zi p), .ref co]) rfl ?_
        have hl88 : 0 ≤ hq77.2.2.2.1 co ∧ hq77.2.2.2.1 co ≤ 12288 := gJ.rowl (G := gGG) sq77.1 tco rfl
        have hl89 : hq77.2.2.2.1 co = h.2.2.2.1 co := congrFun sq77.2.2.2.2.1 co
        refine gs_ald rfl (by decide) sq77.1 tco rfl rfl rfl (by decide) (fun _ => rfl) (by omega) (by omega) (fun z90 ez90 az90 bz90 => ?_)
        refine gz_s 2 (pc' := 38) (L' := [some (.ref x), some (.ref bd), some (.int (zi p)), some (.int (zi zq77))]) (S' := [.ref x, .int (zi 1), .int (zi z90), .int (zi p), .ref co]) rfl ?_
        refine gs_get rfl (by decide) rfl sq77.1 tx rfl rfl rfl (fun z91 ez91 az91 bz91 => ?_)
        refine gy_sh1 rfl (by decide) (by omega) (fun z92 az92 bz92 cz92 => ?_)
        refine gy_iiv rfl (by decide) rfl (fun _ _ => rfl) (fun z93 ez93 az93 bz93 => ?_)
        have hl94 : 0 ≤ hq77.2.2.2.1 co ∧ hq77.2.2.2.1 co ≤ 12288 := gJ.rowl (G := gGG) sq77.1 tco rfl
        have hl95 : hq77.2.2.2.1 co = h.2.2.2.1 co := congrFun sq77.2.2.2.2.1 co
        refine gs_ast rfl (by decide) sq77 tco rfl rfl rfl (by decide) (fun _ => rfl) (by omega) (by omega) (fun _ => (by decide : (112999 : Nat) ∈ ([66014, 67001, 67002, 67003, 82011, 112999] : List Nat))) (by omega) (by omega) (fun h96 sh96 eh96 fh96 => ?_)
        have s97 := (fh96 x 0 (fun q => absurd (((tx).symm.trans (congrArg ty q.1)).trans tco) (by decide))).trans s78
        have s98 := (fh96 bi 0 (fun q => absurd (((tbi).symm.trans (congrArg ty q.1)).trans tco) (by decide))).trans s79
        have s99 := (fh96 x 7 (fun q => absurd (((tx).symm.trans (congrArg ty q.1)).trans tco) (by decide))).trans s80
        have s100 := (fh96 pic 2 (fun q => absurd (((tpic).symm.trans (congrArg ty q.1)).trans tco) (by decide))).trans s81
        have s101 := (fh96 src 1 (fun q => absurd (((tsrc).symm.trans (congrArg ty q.1)).trans tco) (by decide))).trans s82
        have s102 := (fh96 x 3 (fun q => absurd (((tx).symm.trans (congrArg ty q.1)).trans tco) (by decide))).trans s83
        have s103 := (fh96 x 2 (fun q => absurd (((tx).symm.trans (congrArg ty q.1)).trans tco) (by decide))).trans s84
        have s104 := (fh96 x 4 (fun q => absurd (((tx).symm.trans (congrArg ty q.1)).trans tco) (by decide))).trans s85
        have s105 := (fh96 bi 1 (fun q => absurd (((tbi).symm.trans (congrArg ty q.1)).trans tco) (by decide))).trans efq77_0
        have s106 := (fh96 bi 3 (fun q => absurd (((tbi).symm.trans (congrArg ty q.1)).trans tco) (by decide))).trans efq77_1
        have s107 := (fh96 x 5 (fun q => absurd (((tx).symm.trans (congrArg ty q.1)).trans tco) (by decide))).trans ez91
        refine gz_s 1 (pc' := 45) (L' := [some (.ref x), some (.ref bd), some (.int (zi p)), some (.int (zi zq77))]) (S' := [.int (zi zq77)]) rfl ?_
        refine gy_ifF rfl (by decide) (by decide) (by omega) (by first | (simp [zc]; done) | (simp only [zc]; omega)) ?_
        refine gz_s 2 (pc' := 53) (L' := [some (.ref x), some (.ref bd), some (.int (zi p)), some (.int (zi zq77))]) (S' := [.int (zi 1)]) rfl ?_
        exact gz_end (I := .ireturn) (len := 1) rfl (Or.inl rfl) ⟨sh96, 1, fq77_0, fq77_1, gfin_z rfl rfl (by omega), (by omega), (by omega), s105, (by omega), (by omega), s106, (by omega), (by omega), (by omega)⟩
set_option maxRecDepth 20000 in
set_option maxHeartbeats 4000000 in
theorem cl_isBlockRead83 (d : Nat) {ty : Nat → Nat} {h : gH} (hJ : gJ rT 1027 ty h) (x : Nat) (tx : ty x = 66) (bd : Nat) (tbd : ty bd = 83) (p : Int) (rp : 0 ≤ p ∧ p ≤ 12224) (bi : Nat) (ebi : h.2.2.2.2 x 0 = .ref bi) (tbi : ty bi = 67) (src : Nat) (esrc : h.2.2.2.2 bi 0 = .ref src) (tsrc : ty src = 51) (pic : Nat) (epic : h.2.2.2.2 x 7 = .ref pic) (tpic : ty pic = 54) (co : Nat) (eco : h.2.2.2.2 pic 2 = .ref co) (tco : ty co = 112) (sz : Int) (esz : h.2.2.2.2 src 1 = .int (zi sz)) (rsz : 0 ≤ sz ∧ sz ≤ 2000) (p0 : Int) (ep0 : h.2.2.2.2 bi 1 = .int (zi p0)) (rp0 : 0 ≤ p0 ∧ p0 ≤ 2002) (l0 : Int) (el0 : h.2.2.2.2 bi 3 = .int (zi l0)) (rl0 : 0 ≤ l0 ∧ l0 ≤ 8) (tt : Int) (ett : h.2.2.2.2 x 3 = .int (zi tt)) (rtt : (-1) ≤ tt ∧ tt ≤ 63) (fr : Int) (efr : h.2.2.2.2 x 2 = .int (zi fr)) (rfr : 0 ≤ fr ∧ fr ≤ 63) (pp0 : p + 64 ≤ (h.2.2.2.1 co : Int)) (pp1 : 0 ≤ tt) (uq : gUq ty) : gz gPP gGG gcn (d + 4) gt48 0 (gent [.ref x, .ref bd, .int (zi p)] 4) [] h (fun q _ => gSs rT 1027 ty [66014, 67001, 67002, 67003, 83011, 112999] h q.2.2 ∧ ∃ z p1 l1 : Int, gfin gt48 q.1 q.2.1 = some (some (.int (zi z))) ∧ 0 ≤ z ∧ z ≤ 1 ∧ q.2.2.2.2.2.2 bi 1 = .int (zi p1) ∧ 0 ≤ p1 ∧ p1 ≤ 2002 ∧ q.2.2.2.2.2.2 bi 3 = .int (zi l1) ∧ 0 ≤ l1 ∧ l1 ≤ 8 ∧ (p0 ≤ p1)) := by
  have hS : gSs rT 1027 ty [66014, 67001, 67002, 67003, 83011, 112999] h h := gSs.rf hJ
  refine gz_s 1 (pc' := 1) (L' := [some (.ref x), some (.ref bd), some (.int (zi p)), none]) (S' := [.ref x]) rfl ?_
  refine gs_gtk rfl (by decide) rfl hS.1 tx rfl rfl efr ?_
  by_cases hc1 : ¬ (fr : Int) = 0
  · refine gy_ifT (pc' := 54) rfl (by decide) (by decide) (by omega) hc1 ?_
    refine gz_s 1 (pc' := 55) (L' := [some (.ref x), some (.ref bd), some (.int (zi p)), none]) (S' := [.ref x]) rfl ?_
    refine gs_gtk rfl (by decide) rfl hS.1 tx rfl rfl efr ?_
    refine gy_ifT (pc' := 72) rfl (by decide) (by decide) (by omega) (by first | (simp [zc]; done) | (simp only [zc]; omega)) ?_
    refine gz_s 1 (pc' := 73) (L' := [some (.ref x), some (.ref bd), some (.int (zi p)), none]) (S' := [.ref x]) rfl ?_
    refine gs_gtk rfl (by decide) rfl hS.1 tx rfl rfl ett ?_
    by_cases hc2 : ¬ (tt : Int) = 0
    · refine gy_ifT (pc' := 81) rfl (by decide) (by decide) (by omega) hc2 ?_
      refine gz_s 3 (pc' := 84) (L' := [some (.ref x), some (.ref bd), some (.int (zi p)), none]) (S' := [.ref bd, .int (zi 1), .ref x]) rfl ?_
      refine gs_get rfl (by decide) rfl hS.1 tbd rfl rfl rfl (fun z3 ez3 az3 bz3 => ?_)
      refine gz_call rfl (by decide) rfl (by decide) (by decide) (gcal_of rfl rfl rfl (Nat.le_of_ble_eq_true rfl) (gJ.recv (G := gGG) hS.1 tx rfl rfl)) (cl_ScanReader_codesOf _ hS.1 x tx 1 (by omega) z3 (by omega) uq) (fun q4 _ wq4 => ?_)
      obtain ⟨pq4, oq4, hq4⟩ := q4
      obtain ⟨xq4, zq4, gq4, tzq4⟩ := wq4
      refine ⟨_, gq4, ?_⟩
      show gz gPP gGG gcn _ _ 90 [some (.ref x), some (.ref bd), some (.int (zi p)), none] [.ref zq4] hq4 _
      have sq4 : gSs rT 1027 ty [66014, 67001, 67002, 67003, 83011, 112999] h hq4 := gSs.tr hS xq4 (by decide)
      have s5 := (xq4.2.2.2.2.2 x 0 (by rw [tx]; decide)).trans ebi
      have s6 := (xq4.2.2.2.2.2 bi 0 (by rw [tbi]; decide)).trans esrc
      have s7 := (xq4.2.2.2.2.2 x 7 (by rw [tx]; decide)).trans epic
      have s8 := (xq4.2.2.2.2.2 pic 2 (by rw [tpic]; decide)).trans eco
      have s9 := (xq4.2.2.2.2.2 src 1 (by rw [tsrc]; decide)).trans esz
      have s10 := (xq4.2.2.2.2.2 bi 1 (by rw [tbi]; decide)).trans ep0
      have s11 := (xq4.2.2.2.2.2 bi 3 (by rw [tbi]; decide)).trans el0
      have s12 := (xq4.2.2.2.2.2 x 3 (by rw [tx]; decide)).trans ett
      have s13 := (xq4.2.2.2.2.2 x 2 (by rw [tx]; decide)).trans efr
      have s14 := (xq4.2.2.2.2.2 bd 10 (by rw [tbd]; decide)).trans ez3
      refine gz_s 2 (pc' := 92) (L' := [some (.ref x), some (.ref bd), some (.int (zi p)), some (.ref zq4)]) (S' := [.ref x]) rfl ?_
      refine gs_get rfl (by decide) rfl sq4.1 tx rfl rfl rfl (fun z15 ez15 az15 bz15 => ?_)
      by_cases hc16 : (z15 : Int) ≤ 0
      · refine gy_ifT (pc' := 107) rfl (by decide) (by decide) (by omega) hc16 ?_
        refine gz_s 3 (pc' := 110) (L' := [some (.ref x), some (.ref bd), some (.int (zi p)), some (.ref zq4)]) (S' := [.int (zi p), .ref zq4, .ref x]) rfl ?_
        have hl17 : hq4.2.2.2.1 co = h.2.2.2.1 co := congrFun sq4.2.2.2.2.1 co
        refine gz_call rfl (by decide) rfl (by decide) (by decide) (gcal_of rfl rfl rfl (Nat.le_of_ble_eq_true rfl) (gJ.recv (G := gGG) sq4.1 tx rfl rfl)) (cl_ScanReader_areOthersRead _ sq4.1 x tx zq4 tzq4 p (by omega) bi s5 tbi src s6 tsrc pic s7 tpic co s8 tco sz s9 (by omega) p0 s10 (by omega) l0 s11 (by omega) tt s12 (by omega) fr s13 (by omega) (by omega) uq) (fun q18 _ wq18 => ?_)
        obtain ⟨pq18, oq18, hq18⟩ := q18
        obtain ⟨xq18, zq18, fq18_0, fq18_1, gq18, aq18, bq18, efq18_0, afq18_0, bfq18_0, efq18_1, afq18_1, bfq18_1, uq18_0⟩ := wq18
        refine ⟨_, gq18, ?_⟩
        show gz gPP gGG gcn _ _ 113 [some (.ref x), some (.ref bd), some (.int (zi p)), some (.ref zq4)] [.int (zi zq18)] hq18 _
        have sq18 : gSs rT 1027 ty [66014, 67001, 67002, 67003, 83011, 112999] h hq18 := gSs.tr sq4 xq18 (by decide)
        have s19 := (xq18.2.2.2.2.2 x 0 (by rw [tx]; decide)).trans s5
        have s20 := (xq18.2.2.2.2.2 bi 0 (by rw [tbi]; decide)).trans s6
        have s21 := (xq18.2.2.2.2.2 x 7 (by rw [tx]; decide)).trans s7
        have s22 := (xq18.2.2.2.2.2 pic 2 (by rw [tpic]; decide)).trans s8
        have s23 := (xq18.2.2.2.2.2 src 1 (by rw [tsrc]; decide)).trans s9
        have s24 := (xq18.2.2.2.2.2 x 3 (by rw [tx]; decide)).trans s12
        have s25 := (xq18.2.2.2.2.2 x 2 (by rw [tx]; decide)).trans s13
        have s26 := (xq18.2.2.2.2.2 bd 10 (by rw [tbd]; decide)).trans s14
        have s27 := (xq18.2.2.2.2.2 x 4 (by rw [tx]; decide)).trans ez15
        exact gz_end (I := .ireturn) (len := 1) rfl (Or.inl rfl) ⟨sq18, zq18, fq18_0, fq18_1, gfin_z rfl rfl (by omega), (by omega), (by omega), efq18_0, (by omega), (by omega), efq18_1, (by omega), (by omega), (by omega)⟩
      · refine gy_ifF rfl (by decide) (by decide) (by omega) hc16 ?_
        refine gz_s 3 (pc' := 101) (L' := [some (.ref x), some (.ref bd), some (.int (zi p)), some (.ref zq4)]) (S' := [.int (zi p), .ref zq4, .ref x]) rfl ?_
        have hl28 : hq4.2.2.2.1 co = h.2.2.2.1 co := congrFun sq4.2.2.2.2.1 co
        refine gz_call rfl (by decide) rfl (by decide) (by decide) (gcal_of rfl rfl rfl (Nat.le_of_ble_eq_true rfl) (gJ.recv (G := gGG) sq4.1 tx rfl rfl)) (cl_ScanReader_areOthersRefined _ sq4.1 x tx zq4 tzq4 p (by omega) bi s5 tbi src s6 tsrc pic s7 tpic co s8 tco sz s9 (by omega) p0 s10 (by omega) l0 s11 (by omega) tt s12 (by omega) fr s13 (by omega) (by omega) (by omega) uq) (fun q29 _ wq29 => ?_)
        obtain ⟨pq29, oq29, hq29⟩ := q29
        obtain ⟨xq29, zq29, fq29_0, fq29_1, gq29, aq29, bq29, efq29_0, afq29_0, bfq29_0, efq29_1, afq29_1, bfq29_1, uq29_0⟩ := wq29
        refine ⟨_, gq29, ?_⟩
        show gz gPP gGG gcn _ _ 104 [some (.ref x), some (.ref bd), some (.int (zi p)), some (.ref zq4)] [.int (zi zq29)] hq29 _
        have sq29 : gSs rT 1027 ty [66014, 67001, 67002, 67003, 83011, 112999] h hq29 := gSs.tr sq4 xq29 (by decide)
        have s30 := (xq29.2.2.2.2.2 x 0 (by rw [tx]; decide)).trans s5
        have s31 := (xq29.2.2.2.2.2 bi 0 (by rw [tbi]; decide)).trans s6
        have s32 := (xq29.2.2.2.2.2 x 7 (by rw [tx]; decide)).trans s7
        have s33 := (xq29.2.2.2.2.2 pic 2 (by rw [tpic]; decide)).trans s8
        have s34 := (xq29.2.2.2.2.2 src 1 (by rw [tsrc]; decide)).trans s9
        have s35 := (xq29.2.2.2.2.2 x 3 (by rw [tx]; decide)).trans s12
        have s36 := (xq29.2.2.2.2.2 x 2 (by rw [tx]; decide)).trans s13
        have s37 := (xq29.2.2.2.2.2 bd 10 (by rw [tbd]; decide)).trans s14
        have s38 := (xq29.2.2.2.2.2 x 4 (by rw [tx]; decide)).trans ez15
        refine gz_s 1 (pc' := 113) (L' := [some (.ref x), some (.ref bd), some (.int (zi p)), some (.ref zq4)]) (S' := [.int (zi zq29)]) rfl ?_
        exact gz_end (I := .ireturn) (len := 1) rfl (Or.inl rfl) ⟨sq29, zq29, fq29_0, fq29_1, gfin_z rfl rfl (by omega), (by omega), (by omega), efq29_0, (by omega), (by omega), efq29_1, (by omega), (by omega), (by omega)⟩
    · refine gy_ifF rfl (by decide) (by decide) (by omega) hc2 ?_
      refine gz_s 1 (pc' := 80) (L' := [some (.ref x), some (.ref bd), some (.int (zi p)), none]) (S' := [.int (zi 1)]) rfl ?_
      exact gz_end (I := .ireturn) (len := 1) rfl (Or.inl rfl) ⟨hS, 1, p0, l0, gfin_z rfl rfl (by omega), (by omega), (by omega), ep0, (by omega), (by omega), el0, (by omega), (by omega), (by omega)⟩
  · refine gy_ifF rfl (by decide) (by decide) (by omega) hc1 ?_
    refine gz_s 1 (pc' := 8) (L' := [some (.ref x), some (.ref bd), some (.int (zi p)), none]) (S' := [.ref x]) rfl ?_
    refine gs_get rfl (by decide) rfl hS.1 tx rfl rfl rfl (fun z39 ez39 az39 bz39 => ?_)
    by_cases hc40 : (z39 : Int) ≤ 0
    · refine gy_ifT (pc' := 54) rfl (by decide) (by decide) (by omega) hc40 ?_
      refine gz_s 1 (pc' := 55) (L' := [some (.ref x), some (.ref bd), some (.int (zi p)), none]) (S' := [.ref x]) rfl ?_
      refine gs_gtk rfl (by decide) rfl hS.1 tx rfl rfl efr ?_
      refine gy_ifF rfl (by decide) (by decide) (by omega) (by first | (simp [zc]; done) | (simp only [zc]; omega)) ?_
      refine gz_s 3 (pc' := 64) (L' := [some (.ref x), some (.ref bd), some (.int (zi p)), none]) (S' := [.int (zi p), .ref bd, .ref x]) rfl ?_
      have hl41 : h.2.2.2.1 co = h.2.2.2.1 co := congrFun hS.2.2.2.2.1 co
      refine gz_call rfl (by decide) rfl (by decide) (by decide) (gcal_of rfl rfl rfl (Nat.le_of_ble_eq_true rfl) (gJ.recv (G := gGG) hS.1 tx rfl rfl)) (cl_isFirstRead83 _ hS.1 x tx bd tbd p (by omega) bi ebi tbi src esrc tsrc pic epic tpic co eco tco sz esz (by omega) p0 ep0 (by omega) l0 el0 (by omega) (by omega) uq) (fun q42 _ wq42 => ?_)
      obtain ⟨pq42, oq42, hq42⟩ := q42
      obtain ⟨xq42, zq42, fq42_0, fq42_1, gq42, aq42, bq42, efq42_0, afq42_0, bfq42_0, efq42_1, afq42_1, bfq42_1, uq42_0⟩ := wq42
      refine ⟨_, gq42, ?_⟩
      show gz gPP gGG gcn _ _ 67 [some (.ref x), some (.ref bd), some (.int (zi p)), none] [.int (zi zq42)] hq42 _
      have sq42 : gSs rT 1027 ty [66014, 67001, 67002, 67003, 83011, 112999] h hq42 := gSs.tr hS xq42 (by decide)
      have s43 := (xq42.2.2.2.2.2 x 0 (by rw [tx]; decide)).trans ebi
      have s44 := (xq42.2.2.2.2.2 bi 0 (by rw [tbi]; decide)).trans esrc
      have s45 := (xq42.2.2.2.2.2 x 7 (by rw [tx]; decide)).trans epic
      have s46 := (xq42.2.2.2.2.2 pic 2 (by rw [tpic]; decide)).trans eco
      have s47 := (xq42.2.2.2.2.2 src 1 (by rw [tsrc]; decide)).trans esz
      have s48 := (xq42.2.2.2.2.2 x 3 (by rw [tx]; decide)).trans ett
      have s49 := (xq42.2.2.2.2.2 x 2 (by rw [tx]; decide)).trans efr
      have s50 := (xq42.2.2.2.2.2 x 4 (by rw [tx]; decide)).trans ez39
      by_cases hc51 : ¬ (zq42 : Int) = 0
      · refine gy_ifT (pc' := 72) rfl (by decide) (by decide) (by omega) hc51 ?_
        refine gz_s 1 (pc' := 73) (L' := [some (.ref x), some (.ref bd), some (.int (zi p)), none]) (S' := [.ref x]) rfl ?_
        refine gs_gtk rfl (by decide) rfl sq42.1 tx rfl rfl s48 ?_
        by_cases hc52 : ¬ (tt : Int) = 0
        · refine gy_ifT (pc' := 81) rfl (by decide) (by decide) (by omega) hc52 ?_
          refine gz_s 3 (pc' := 84) (L' := [some (.ref x), some (.ref bd), some (.int (zi p)), none]) (S' := [.ref bd, .int (zi 1), .ref x]) rfl ?_
          refine gs_get rfl (by decide) rfl sq42.1 tbd rfl rfl rfl (fun z53 ez53 az53 bz53 => ?_)
          refine gz_call rfl (by decide) rfl (by decide) (by decide) (gcal_of rfl rfl rfl (Nat.le_of_ble_eq_true rfl) (gJ.recv (G := gGG) sq42.1 tx rfl rfl)) (cl_ScanReader_codesOf _ sq42.1 x tx 1 (by omega) z53 (by omega) uq) (fun q54 _ wq54 => ?_)
          obtain ⟨pq54, oq54, hq54⟩ := q54
          obtain ⟨xq54, zq54, gq54, tzq54⟩ := wq54
          refine ⟨_, gq54, ?_⟩
          show gz gPP gGG gcn _ _ 90 [some (.ref x), some (.ref bd), some (.int (zi p)), none] [.ref zq54] hq54 _
          have sq54 : gSs rT 1027 ty [66014, 67001, 67002, 67003, 83011, 112999] h hq54 := gSs.tr sq42 xq54 (by decide)
          have s55 := (xq54.2.2.2.2.2 x 0 (by rw [tx]; decide)).trans s43
          have s56 := (xq54.2.2.2.2.2 bi 0 (by rw [tbi]; decide)).trans s44
          have s57 := (xq54.2.2.2.2.2 x 7 (by rw [tx]; decide)).trans s45
          have s58 := (xq54.2.2.2.2.2 pic 2 (by rw [tpic]; decide)).trans s46
          have s59 := (xq54.2.2.2.2.2 src 1 (by rw [tsrc]; decide)).trans s47
          have s60 := (xq54.2.2.2.2.2 x 3 (by rw [tx]; decide)).trans s48
          have s61 := (xq54.2.2.2.2.2 x 2 (by rw [tx]; decide)).trans s49
          have s62 := (xq54.2.2.2.2.2 x 4 (by rw [tx]; decide)).trans s50
          have s63 := (xq54.2.2.2.2.2 bi 1 (by rw [tbi]; decide)).trans efq42_0
          have s64 := (xq54.2.2.2.2.2 bi 3 (by rw [tbi]; decide)).trans efq42_1
          have s65 := (xq54.2.2.2.2.2 bd 10 (by rw [tbd]; decide)).trans ez53
          refine gz_s 2 (pc' := 92) (L' := [some (.ref x), some (.ref bd), some (.int (zi p)), some (.ref zq54)]) (S' := [.ref x]) rfl ?_
          refine gs_gtk rfl (by decide) rfl sq54.1 tx rfl rfl s62 ?_
          refine gy_ifT (pc' := 107) rfl (by decide) (by decide) (by omega) (by first | (simp [zc]; done) | (simp only [zc]; omega)) ?_
          refine gz_s 3 (pc' := 110) (L' := [some (.ref x), some (.ref bd), some (.int (zi p)), some (.ref zq54)]) (S' := [.int (zi p), .ref zq54, .ref x]) rfl ?_
          have hl66 : hq54.2.2.2.1 co = h.2.2.2.1 co := congrFun sq54.2.2.2.2.1 co
          refine gz_call rfl (by decide) rfl (by decide) (by decide) (gcal_of rfl rfl rfl (Nat.le_of_ble_eq_true rfl) (gJ.recv (G := gGG) sq54.1 tx rfl rfl)) (cl_ScanReader_areOthersRead _ sq54.1 x tx zq54 tzq54 p (by omega) bi s55 tbi src s56 tsrc pic s57 tpic co s58 tco sz s59 (by omega) fq42_0 s63 (by omega) fq42_1 s64 (by omega) tt s60 (by omega) fr s61 (by omega) (by omega) uq) (fun q67 _ wq67 => ?_)
          obtain ⟨pq67, oq67, hq67⟩ := q67
          obtain ⟨xq67, zq67, fq67_0, fq67_1, gq67, aq67, bq67, efq67_0, afq67_0, bfq67_0, efq67_1, afq67_1, bfq67_1, uq67_0⟩ := wq67
          refine ⟨_, gq67, ?_⟩
          show gz gPP gGG gcn _ _ 113 [some (.ref x), some (.ref bd), some (.int (zi p)), some (.ref zq54)] [.int (zi zq67)] hq67 _
          have sq67 : gSs rT 1027 ty [66014, 67001, 67002, 67003, 83011, 112999] h hq67 := gSs.tr sq54 xq67 (by decide)
          have s68 := (xq67.2.2.2.2.2 x 0 (by rw [tx]; decide)).trans s55
          have s69 := (xq67.2.2.2.2.2 bi 0 (by rw [tbi]; decide)).trans s56
          have s70 := (xq67.2.2.2.2.2 x 7 (by rw [tx]; decide)).trans s57
          have s71 := (xq67.2.2.2.2.2 pic 2 (by rw [tpic]; decide)).trans s58
          have s72 := (xq67.2.2.2.2.2 src 1 (by rw [tsrc]; decide)).trans s59
          have s73 := (xq67.2.2.2.2.2 x 3 (by rw [tx]; decide)).trans s60
          have s74 := (xq67.2.2.2.2.2 x 2 (by rw [tx]; decide)).trans s61
          have s75 := (xq67.2.2.2.2.2 x 4 (by rw [tx]; decide)).trans s62
          have s76 := (xq67.2.2.2.2.2 bd 10 (by rw [tbd]; decide)).trans s65
          exact gz_end (I := .ireturn) (len := 1) rfl (Or.inl rfl) ⟨sq67, zq67, fq67_0, fq67_1, gfin_z rfl rfl (by omega), (by omega), (by omega), efq67_0, (by omega), (by omega), efq67_1, (by omega), (by omega), (by omega)⟩
        · refine gy_ifF rfl (by decide) (by decide) (by omega) hc52 ?_
          refine gz_s 1 (pc' := 80) (L' := [some (.ref x), some (.ref bd), some (.int (zi p)), none]) (S' := [.int (zi 1)]) rfl ?_
          exact gz_end (I := .ireturn) (len := 1) rfl (Or.inl rfl) ⟨sq42, 1, fq42_0, fq42_1, gfin_z rfl rfl (by omega), (by omega), (by omega), efq42_0, (by omega), (by omega), efq42_1, (by omega), (by omega), (by omega)⟩
      · refine gy_ifF rfl (by decide) (by decide) (by omega) hc51 ?_
        refine gz_s 1 (pc' := 71) (L' := [some (.ref x), some (.ref bd), some (.int (zi p)), none]) (S' := [.int (zi 0)]) rfl ?_
        exact gz_end (I := .ireturn) (len := 1) rfl (Or.inl rfl) ⟨sq42, 0, fq42_0, fq42_1, gfin_z rfl rfl (by omega), (by omega), (by omega), efq42_0, (by omega), (by omega), efq42_1, (by omega), (by omega), (by omega)⟩
    · refine gy_ifF rfl (by decide) (by decide) (by omega) hc40 ?_
      refine gz_s 1 (pc' := 15) (L' := [some (.ref x), some (.ref bd), some (.int (zi p)), none]) (S' := [.ref x]) rfl ?_
      refine gs_gtk rfl (by decide) rfl hS.1 tx rfl rfl ebi ?_
      refine gz_call rfl (by decide) rfl (by decide) (by decide) (gcal_of rfl rfl rfl (Nat.le_of_ble_eq_true rfl) (gJ.recv (G := gGG) hS.1 tbi rfl rfl)) (cl_Bits_nextBit _ hS.1 bi tbi src esrc tsrc sz esz (by omega) p0 ep0 (by omega) l0 el0 (by omega) uq) (fun q77 _ wq77 => ?_)
      obtain ⟨pq77, oq77, hq77⟩ := q77
      obtain ⟨xq77, zq77, fq77_0, fq77_1, gq77, aq77, bq77, efq77_0, afq77_0, bfq77_0, efq77_1, afq77_1, bfq77_1, uq77_0⟩ := wq77
      refine ⟨_, gq77, ?_⟩
      show gz gPP gGG gcn _ _ 21 [some (.ref x), some (.ref bd), some (.int (zi p)), none] [.int (zi zq77)] hq77 _
      have sq77 : gSs rT 1027 ty [66014, 67001, 67002, 67003, 83011, 112999] h hq77 := gSs.tr hS xq77 (by decide)
      have s78 := (xq77.2.2.2.2.2 x 0 (by rw [tx]; decide)).trans ebi
      have s79 := (xq77.2.2.2.2.2 bi 0 (by rw [tbi]; decide)).trans esrc
      have s80 := (xq77.2.2.2.2.2 x 7 (by rw [tx]; decide)).trans epic
      have s81 := (xq77.2.2.2.2.2 pic 2 (by rw [tpic]; decide)).trans eco
      have s82 := (xq77.2.2.2.2.2 src 1 (by rw [tsrc]; decide)).trans esz
      have s83 := (xq77.2.2.2.2.2 x 3 (by rw [tx]; decide)).trans ett
      have s84 := (xq77.2.2.2.2.2 x 2 (by rw [tx]; decide)).trans efr
      have s85 := (xq77.2.2.2.2.2 x 4 (by rw [tx]; decide)).trans ez39
      refine gz_s 2 (pc' := 23) (L' := [some (.ref x), some (.ref bd), some (.int (zi p)), some (.int (zi zq77))]) (S' := [.int (zi zq77)]) rfl ?_
      by_cases hc86 : (zq77 : Int) ≤ 0
      · refine gy_ifT (pc' := 44) rfl (by decide) (by decide) (by omega) hc86 ?_
        refine gz_s 1 (pc' := 45) (L' := [some (.ref x), some (.ref bd), some (.int (zi p)), some (.int (zi zq77))]) (S' := [.int (zi zq77)]) rfl ?_
        by_cases hc87 : (zq77 : Int) < 0
        · refine gy_ifT (pc' := 52) rfl (by decide) (by decide) (by omega) hc87 ?_
          refine gz_s 1 (pc' := 53) (L' := [some (.ref x), some (.ref bd), some (.int (zi p)), some (.int (zi zq77))]) (S' := [.int (zi 0)]) rfl ?_
          exact gz_end (I := .ireturn) (len := 1) rfl (Or.inl rfl) ⟨sq77, 0, fq77_0, fq77_1, gfin_z rfl rfl (by omega), (by omega), (by omega), efq77_0, (by omega), (by omega), efq77_1, (by omega), (by omega), (by omega)⟩
        · refine gy_ifF rfl (by decide) (by decide) (by omega) hc87 ?_
          refine gz_s 2 (pc' := 53) (L' := [some (.ref x), some (.ref bd), some (.int (zi p)), some (.int (zi zq77))]) (S' := [.int (zi 1)]) rfl ?_
          exact gz_end (I := .ireturn) (len := 1) rfl (Or.inl rfl) ⟨sq77, 1, fq77_0, fq77_1, gfin_z rfl rfl (by omega), (by omega), (by omega), efq77_0, (by omega), (by omega), efq77_1, (by omega), (by omega), (by omega)⟩
      · refine gy_ifF rfl (by decide) (by decide) (by omega) hc86 ?_
        refine gz_s 1 (pc' := 27) (L' := [some (.ref x), some (.ref bd), some (.int (zi p)), some (.int (zi zq77))]) (S' := [.ref x]) rfl ?_
        refine gs_gtk rfl (by decide) rfl sq77.1 tx rfl rfl s80 ?_
        refine gs_gtk rfl (by decide) rfl sq77.1 tpic rfl rfl s81 ?_
        refine gz_s 2 (pc' := 35) (L' := [some (.ref x), some (.ref bd), some (.int (zi p)), some (.int (zi zq77))]) (S' := [.int (zi p), .ref co, .int (zi p), .ref co]) rfl ?_
        have hl88 : 0 ≤ hq77.2.2.2.1 co ∧ hq77.2.2.2.1 co ≤ 12288 := gJ.rowl (G := gGG) sq77.1 tco rfl
        have hl89 : hq77.2.2.2.1 co = h.2.2.2.1 co := congrFun sq77.2.2.2.2.1 co
        refine gs_ald rfl (by decide) sq77.1 tco rfl rfl rfl (by decide) (fun _ => rfl) (by omega) (by omega) (fun z90 ez90 az90 bz90 => ?_)
        refine gz_s 2 (pc' := 38) (L' := [some (.ref x), some (.ref bd), some (.int (zi p)), some (.int (zi zq77))]) (S' := [.ref x, .int (zi 1), .int (zi z90), .int (zi p), .ref co]) rfl ?_
        refine gs_get rfl (by decide) rfl sq77.1 tx rfl rfl rfl (fun z91 ez91 az91 bz91 => ?_)
        refine gy_sh1 rfl (by decide) (by omega) (fun z92 az92 bz92 cz92 => ?_)
        refine gy_iiv rfl (by decide) rfl (fun _ _ => rfl) (fun z93 ez93 az93 bz93 => ?_)
        have hl94 : 0 ≤ hq77.2.2.2.1 co ∧ hq77.2.2.2.1 co ≤ 12288 := gJ.rowl (G := gGG) sq77.1 tco rfl
        have hl95 : hq77.2.2.2.1 co = h.2.2.2.1 co := congrFun sq77.2.2.2.2.1 co
        refine gs_ast rfl (by decide) sq77 tco rfl rfl rfl (by decide) (fun _ => rfl) (by omega) (by omega) (fun _ => (by decide : (112999 : Nat) ∈ ([66014, 67001, 67002, 67003, 83011, 112999] : List Nat))) (by omega) (by omega) (fun h96 sh96 eh96 fh96 => ?_)
        have s97 := (fh96 x 0 (fun q => absurd (((tx).symm.trans (congrArg ty q.1)).trans tco) (by decide))).trans s78
        have s98 := (fh96 bi 0 (fun q => absurd (((tbi).symm.trans (congrArg ty q.1)).trans tco) (by decide))).trans s79
        have s99 := (fh96 x 7 (fun q => absurd (((tx).symm.trans (congrArg ty q.1)).trans tco) (by decide))).trans s80
        have s100 := (fh96 pic 2 (fun q => absurd (((tpic).symm.trans (congrArg ty q.1)).trans tco) (by decide))).trans s81
        have s101 := (fh96 src 1 (fun q => absurd (((tsrc).symm.trans (congrArg ty q.1)).trans tco) (by decide))).trans s82
        have s102 := (fh96 x 3 (fun q => absurd (((tx).symm.trans (congrArg ty q.1)).trans tco) (by decide))).trans s83
        have s103 := (fh96 x 2 (fun q => absurd (((tx).symm.trans (congrArg ty q.1)).trans tco) (by decide))).trans s84
        have s104 := (fh96 x 4 (fun q => absurd (((tx).symm.trans (congrArg ty q.1)).trans tco) (by decide))).trans s85
        have s105 := (fh96 bi 1 (fun q => absurd (((tbi).symm.trans (congrArg ty q.1)).trans tco) (by decide))).trans efq77_0
        have s106 := (fh96 bi 3 (fun q => absurd (((tbi).symm.trans (congrArg ty q.1)).trans tco) (by decide))).trans efq77_1
        have s107 := (fh96 x 5 (fun q => absurd (((tx).symm.trans (congrArg ty q.1)).trans tco) (by decide))).trans ez91
        refine gz_s 1 (pc' := 45) (L' := [some (.ref x), some (.ref bd), some (.int (zi p)), some (.int (zi zq77))]) (S' := [.int (zi zq77)]) rfl ?_
        refine gy_ifF rfl (by decide) (by decide) (by omega) (by first | (simp [zc]; done) | (simp only [zc]; omega)) ?_
        refine gz_s 2 (pc' := 53) (L' := [some (.ref x), some (.ref bd), some (.int (zi p)), some (.int (zi zq77))]) (S' := [.int (zi 1)]) rfl ?_
        exact gz_end (I := .ireturn) (len := 1) rfl (Or.inl rfl) ⟨sh96, 1, fq77_0, fq77_1, gfin_z rfl rfl (by omega), (by omega), (by omega), s105, (by omega), (by omega), s106, (by omega), (by omega), (by omega)⟩
set_option maxRecDepth 20000 in
set_option maxHeartbeats 4000000 in
theorem cl_isBlockRead84 (d : Nat) {ty : Nat → Nat} {h : gH} (hJ : gJ rT 1027 ty h) (x : Nat) (tx : ty x = 66) (bd : Nat) (tbd : ty bd = 84) (p : Int) (rp : 0 ≤ p ∧ p ≤ 12224) (bi : Nat) (ebi : h.2.2.2.2 x 0 = .ref bi) (tbi : ty bi = 67) (src : Nat) (esrc : h.2.2.2.2 bi 0 = .ref src) (tsrc : ty src = 51) (pic : Nat) (epic : h.2.2.2.2 x 7 = .ref pic) (tpic : ty pic = 54) (co : Nat) (eco : h.2.2.2.2 pic 2 = .ref co) (tco : ty co = 112) (sz : Int) (esz : h.2.2.2.2 src 1 = .int (zi sz)) (rsz : 0 ≤ sz ∧ sz ≤ 2000) (p0 : Int) (ep0 : h.2.2.2.2 bi 1 = .int (zi p0)) (rp0 : 0 ≤ p0 ∧ p0 ≤ 2002) (l0 : Int) (el0 : h.2.2.2.2 bi 3 = .int (zi l0)) (rl0 : 0 ≤ l0 ∧ l0 ≤ 8) (tt : Int) (ett : h.2.2.2.2 x 3 = .int (zi tt)) (rtt : (-1) ≤ tt ∧ tt ≤ 63) (fr : Int) (efr : h.2.2.2.2 x 2 = .int (zi fr)) (rfr : 0 ≤ fr ∧ fr ≤ 63) (pp0 : p + 64 ≤ (h.2.2.2.1 co : Int)) (pp1 : 0 ≤ tt) (uq : gUq ty) : gz gPP gGG gcn (d + 4) gt48 0 (gent [.ref x, .ref bd, .int (zi p)] 4) [] h (fun q _ => gSs rT 1027 ty [66014, 67001, 67002, 67003, 84011, 112999] h q.2.2 ∧ ∃ z p1 l1 : Int, gfin gt48 q.1 q.2.1 = some (some (.int (zi z))) ∧ 0 ≤ z ∧ z ≤ 1 ∧ q.2.2.2.2.2.2 bi 1 = .int (zi p1) ∧ 0 ≤ p1 ∧ p1 ≤ 2002 ∧ q.2.2.2.2.2.2 bi 3 = .int (zi l1) ∧ 0 ≤ l1 ∧ l1 ≤ 8 ∧ (p0 ≤ p1)) := by
  have hS : gSs rT 1027 ty [66014, 67001, 67002, 67003, 84011, 112999] h h := gSs.rf hJ
  refine gz_s 1 (pc' := 1) (L' := [some (.ref x), some (.ref bd), some (.int (zi p)), none]) (S' := [.ref x]) rfl ?_
  refine gs_gtk rfl (by decide) rfl hS.1 tx rfl rfl efr ?_
  by_cases hc1 : ¬ (fr : Int) = 0
  · refine gy_ifT (pc' := 54) rfl (by decide) (by decide) (by omega) hc1 ?_
    refine gz_s 1 (pc' := 55) (L' := [some (.ref x), some (.ref bd), some (.int (zi p)), none]) (S' := [.ref x]) rfl ?_
    refine gs_gtk rfl (by decide) rfl hS.1 tx rfl rfl efr ?_
    refine gy_ifT (pc' := 72) rfl (by decide) (by decide) (by omega) (by first | (simp [zc]; done) | (simp only [zc]; omega)) ?_
    refine gz_s 1 (pc' := 73) (L' := [some (.ref x), some (.ref bd), some (.int (zi p)), none]) (S' := [.ref x]) rfl ?_
    refine gs_gtk rfl (by decide) rfl hS.1 tx rfl rfl ett ?_
    by_cases hc2 : ¬ (tt : Int) = 0
    · refine gy_ifT (pc' := 81) rfl (by decide) (by decide) (by omega) hc2 ?_
      refine gz_s 3 (pc' := 84) (L' := [some (.ref x), some (.ref bd), some (.int (zi p)), none]) (S' := [.ref bd, .int (zi 1), .ref x]) rfl ?_
      refine gs_get rfl (by decide) rfl hS.1 tbd rfl rfl rfl (fun z3 ez3 az3 bz3 => ?_)
      refine gz_call rfl (by decide) rfl (by decide) (by decide) (gcal_of rfl rfl rfl (Nat.le_of_ble_eq_true rfl) (gJ.recv (G := gGG) hS.1 tx rfl rfl)) (cl_ScanReader_codesOf _ hS.1 x tx 1 (by omega) z3 (by omega) uq) (fun q4 _ wq4 => ?_)
      obtain ⟨pq4, oq4, hq4⟩ := q4
      obtain ⟨xq4, zq4, gq4, tzq4⟩ := wq4
      refine ⟨_, gq4, ?_⟩
      show gz gPP gGG gcn _ _ 90 [some (.ref x), some (.ref bd), some (.int (zi p)), none] [.ref zq4] hq4 _
      have sq4 : gSs rT 1027 ty [66014, 67001, 67002, 67003, 84011, 112999] h hq4 := gSs.tr hS xq4 (by decide)
      have s5 := (xq4.2.2.2.2.2 x 0 (by rw [tx]; decide)).trans ebi
      have s6 := (xq4.2.2.2.2.2 bi 0 (by rw [tbi]; decide)).trans esrc
      have s7 := (xq4.2.2.2.2.2 x 7 (by rw [tx]; decide)).trans epic
      have s8 := (xq4.2.2.2.2.2 pic 2 (by rw [tpic]; decide)).trans eco
      have s9 := (xq4.2.2.2.2.2 src 1 (by rw [tsrc]; decide)).trans esz
      have s10 := (xq4.2.2.2.2.2 bi 1 (by rw [tbi]; decide)).trans ep0
      have s11 := (xq4.2.2.2.2.2 bi 3 (by rw [tbi]; decide)).trans el0
      have s12 := (xq4.2.2.2.2.2 x 3 (by rw [tx]; decide)).trans ett
      have s13 := (xq4.2.2.2.2.2 x 2 (by rw [tx]; decide)).trans efr
      have s14 := (xq4.2.2.2.2.2 bd 10 (by rw [tbd]; decide)).trans ez3
      refine gz_s 2 (pc' := 92) (L' := [some (.ref x), some (.ref bd), some (.int (zi p)), some (.ref zq4)]) (S' := [.ref x]) rfl ?_
      refine gs_get rfl (by decide) rfl sq4.1 tx rfl rfl rfl (fun z15 ez15 az15 bz15 => ?_)
      by_cases hc16 : (z15 : Int) ≤ 0
      · refine gy_ifT (pc' := 107) rfl (by decide) (by decide) (by omega) hc16 ?_
        refine gz_s 3 (pc' := 110) (L' := [some (.ref x), some (.ref bd), some (.int (zi p)), some (.ref zq4)]) (S' := [.int (zi p), .ref zq4, .ref x]) rfl ?_
        have hl17 : hq4.2.2.2.1 co = h.2.2.2.1 co := congrFun sq4.2.2.2.2.1 co
        refine gz_call rfl (by decide) rfl (by decide) (by decide) (gcal_of rfl rfl rfl (Nat.le_of_ble_eq_true rfl) (gJ.recv (G := gGG) sq4.1 tx rfl rfl)) (cl_ScanReader_areOthersRead _ sq4.1 x tx zq4 tzq4 p (by omega) bi s5 tbi src s6 tsrc pic s7 tpic co s8 tco sz s9 (by omega) p0 s10 (by omega) l0 s11 (by omega) tt s12 (by omega) fr s13 (by omega) (by omega) uq) (fun q18 _ wq18 => ?_)
        obtain ⟨pq18, oq18, hq18⟩ := q18
        obtain ⟨xq18, zq18, fq18_0, fq18_1, gq18, aq18, bq18, efq18_0, afq18_0, bfq18_0, efq18_1, afq18_1, bfq18_1, uq18_0⟩ := wq18
        refine ⟨_, gq18, ?_⟩
        show gz gPP gGG gcn _ _ 113 [some (.ref x), some (.ref bd), some (.int (zi p)), some (.ref zq4)] [.int (zi zq18)] hq18 _
        have sq18 : gSs rT 1027 ty [66014, 67001, 67002, 67003, 84011, 112999] h hq18 := gSs.tr sq4 xq18 (by decide)
        have s19 := (xq18.2.2.2.2.2 x 0 (by rw [tx]; decide)).trans s5
        have s20 := (xq18.2.2.2.2.2 bi 0 (by rw [tbi]; decide)).trans s6
        have s21 := (xq18.2.2.2.2.2 x 7 (by rw [tx]; decide)).trans s7
        have s22 := (xq18.2.2.2.2.2 pic 2 (by rw [tpic]; decide)).trans s8
        have s23 := (xq18.2.2.2.2.2 src 1 (by rw [tsrc]; decide)).trans s9
        have s24 := (xq18.2.2.2.2.2 x 3 (by rw [tx]; decide)).trans s12
        have s25 := (xq18.2.2.2.2.2 x 2 (by rw [tx]; decide)).trans s13
        have s26 := (xq18.2.2.2.2.2 bd 10 (by rw [tbd]; decide)).trans s14
        have s27 := (xq18.2.2.2.2.2 x 4 (by rw [tx]; decide)).trans ez15
        exact gz_end (I := .ireturn) (len := 1) rfl (Or.inl rfl) ⟨sq18, zq18, fq18_0, fq18_1, gfin_z rfl rfl (by omega), (by omega), (by omega), efq18_0, (by omega), (by omega), efq18_1, (by omega), (by omega), (by omega)⟩
      · refine gy_ifF rfl (by decide) (by decide) (by omega) hc16 ?_
        refine gz_s 3 (pc' := 101) (L' := [some (.ref x), some (.ref bd), some (.int (zi p)), some (.ref zq4)]) (S' := [.int (zi p), .ref zq4, .ref x]) rfl ?_
        have hl28 : hq4.2.2.2.1 co = h.2.2.2.1 co := congrFun sq4.2.2.2.2.1 co
        refine gz_call rfl (by decide) rfl (by decide) (by decide) (gcal_of rfl rfl rfl (Nat.le_of_ble_eq_true rfl) (gJ.recv (G := gGG) sq4.1 tx rfl rfl)) (cl_ScanReader_areOthersRefined _ sq4.1 x tx zq4 tzq4 p (by omega) bi s5 tbi src s6 tsrc pic s7 tpic co s8 tco sz s9 (by omega) p0 s10 (by omega) l0 s11 (by omega) tt s12 (by omega) fr s13 (by omega) (by omega) (by omega) uq) (fun q29 _ wq29 => ?_)
        obtain ⟨pq29, oq29, hq29⟩ := q29
        obtain ⟨xq29, zq29, fq29_0, fq29_1, gq29, aq29, bq29, efq29_0, afq29_0, bfq29_0, efq29_1, afq29_1, bfq29_1, uq29_0⟩ := wq29
        refine ⟨_, gq29, ?_⟩
        show gz gPP gGG gcn _ _ 104 [some (.ref x), some (.ref bd), some (.int (zi p)), some (.ref zq4)] [.int (zi zq29)] hq29 _
        have sq29 : gSs rT 1027 ty [66014, 67001, 67002, 67003, 84011, 112999] h hq29 := gSs.tr sq4 xq29 (by decide)
        have s30 := (xq29.2.2.2.2.2 x 0 (by rw [tx]; decide)).trans s5
        have s31 := (xq29.2.2.2.2.2 bi 0 (by rw [tbi]; decide)).trans s6
        have s32 := (xq29.2.2.2.2.2 x 7 (by rw [tx]; decide)).trans s7
        have s33 := (xq29.2.2.2.2.2 pic 2 (by rw [tpic]; decide)).trans s8
        have s34 := (xq29.2.2.2.2.2 src 1 (by rw [tsrc]; decide)).trans s9
        have s35 := (xq29.2.2.2.2.2 x 3 (by rw [tx]; decide)).trans s12
        have s36 := (xq29.2.2.2.2.2 x 2 (by rw [tx]; decide)).trans s13
        have s37 := (xq29.2.2.2.2.2 bd 10 (by rw [tbd]; decide)).trans s14
        have s38 := (xq29.2.2.2.2.2 x 4 (by rw [tx]; decide)).trans ez15
        refine gz_s 1 (pc' := 113) (L' := [some (.ref x), some (.ref bd), some (.int (zi p)), some (.ref zq4)]) (S' := [.int (zi zq29)]) rfl ?_
        exact gz_end (I := .ireturn) (len := 1) rfl (Or.inl rfl) ⟨sq29, zq29, fq29_0, fq29_1, gfin_z rfl rfl (by omega), (by omega), (by omega), efq29_0, (by omega), (by omega), efq29_1, (by omega), (by omega), (by omega)⟩
    · refine gy_ifF rfl (by decide) (by decide) (by omega) hc2 ?_
      refine gz_s 1 (pc' := 80) (L' := [some (.ref x), some (.ref bd), some (.int (zi p)), none]) (S' := [.int (zi 1)]) rfl ?_
      exact gz_end (I := .ireturn) (len := 1) rfl (Or.inl rfl) ⟨hS, 1, p0, l0, gfin_z rfl rfl (by omega), (by omega), (by omega), ep0, (by omega), (by omega), el0, (by omega), (by omega), (by omega)⟩
  · refine gy_ifF rfl (by decide) (by decide) (by omega) hc1 ?_
    refine gz_s 1 (pc' := 8) (L' := [some (.ref x), some (.ref bd), some (.int (zi p)), none]) (S' := [.ref x]) rfl ?_
    refine gs_get rfl (by decide) rfl hS.1 tx rfl rfl rfl (fun z39 ez39 az39 bz39 => ?_)
    by_cases hc40 : (z39 : Int) ≤ 0
    · refine gy_ifT (pc' := 54) rfl (by decide) (by decide) (by omega) hc40 ?_
      refine gz_s 1 (pc' := 55) (L' := [some (.ref x), some (.ref bd), some (.int (zi p)), none]) (S' := [.ref x]) rfl ?_
      refine gs_gtk rfl (by decide) rfl hS.1 tx rfl rfl efr ?_
      refine gy_ifF rfl (by decide) (by decide) (by omega) (by first | (simp [zc]; done) | (simp only [zc]; omega)) ?_
      refine gz_s 3 (pc' := 64) (L' := [some (.ref x), some (.ref bd), some (.int (zi p)), none]) (S' := [.int (zi p), .ref bd, .ref x]) rfl ?_
      have hl41 : h.2.2.2.1 co = h.2.2.2.1 co := congrFun hS.2.2.2.2.1 co
      refine gz_call rfl (by decide) rfl (by decide) (by decide) (gcal_of rfl rfl rfl (Nat.le_of_ble_eq_true rfl) (gJ.recv (G := gGG) hS.1 tx rfl rfl)) (cl_isFirstRead84 _ hS.1 x tx bd tbd p (by omega) bi ebi tbi src esrc tsrc pic epic tpic co eco tco sz esz (by omega) p0 ep0 (by omega) l0 el0 (by omega) (by omega) uq) (fun q42 _ wq42 => ?_)
      obtain ⟨pq42, oq42, hq42⟩ := q42
      obtain ⟨xq42, zq42, fq42_0, fq42_1, gq42, aq42, bq42, efq42_0, afq42_0, bfq42_0, efq42_1, afq42_1, bfq42_1, uq42_0⟩ := wq42
      refine ⟨_, gq42, ?_⟩
      show gz gPP gGG gcn _ _ 67 [some (.ref x), some (.ref bd), some (.int (zi p)), none] [.int (zi zq42)] hq42 _
      have sq42 : gSs rT 1027 ty [66014, 67001, 67002, 67003, 84011, 112999] h hq42 := gSs.tr hS xq42 (by decide)
      have s43 := (xq42.2.2.2.2.2 x 0 (by rw [tx]; decide)).trans ebi
      have s44 := (xq42.2.2.2.2.2 bi 0 (by rw [tbi]; decide)).trans esrc
      have s45 := (xq42.2.2.2.2.2 x 7 (by rw [tx]; decide)).trans epic
      have s46 := (xq42.2.2.2.2.2 pic 2 (by rw [tpic]; decide)).trans eco
      have s47 := (xq42.2.2.2.2.2 src 1 (by rw [tsrc]; decide)).trans esz
      have s48 := (xq42.2.2.2.2.2 x 3 (by rw [tx]; decide)).trans ett
      have s49 := (xq42.2.2.2.2.2 x 2 (by rw [tx]; decide)).trans efr
      have s50 := (xq42.2.2.2.2.2 x 4 (by rw [tx]; decide)).trans ez39
      by_cases hc51 : ¬ (zq42 : Int) = 0
      · refine gy_ifT (pc' := 72) rfl (by decide) (by decide) (by omega) hc51 ?_
        refine gz_s 1 (pc' := 73) (L' := [some (.ref x), some (.ref bd), some (.int (zi p)), none]) (S' := [.ref x]) rfl ?_
        refine gs_gtk rfl (by decide) rfl sq42.1 tx rfl rfl s48 ?_
        by_cases hc52 : ¬ (tt : Int) = 0
        · refine gy_ifT (pc' := 81) rfl (by decide) (by decide) (by omega) hc52 ?_
          refine gz_s 3 (pc' := 84) (L' := [some (.ref x), some (.ref bd), some (.int (zi p)), none]) (S' := [.ref bd, .int (zi 1), .ref x]) rfl ?_
          refine gs_get rfl (by decide) rfl sq42.1 tbd rfl rfl rfl (fun z53 ez53 az53 bz53 => ?_)
          refine gz_call rfl (by decide) rfl (by decide) (by decide) (gcal_of rfl rfl rfl (Nat.le_of_ble_eq_true rfl) (gJ.recv (G := gGG) sq42.1 tx rfl rfl)) (cl_ScanReader_codesOf _ sq42.1 x tx 1 (by omega) z53 (by omega) uq) (fun q54 _ wq54 => ?_)
          obtain ⟨pq54, oq54, hq54⟩ := q54
          obtain ⟨xq54, zq54, gq54, tzq54⟩ := wq54
          refine ⟨_, gq54, ?_⟩
          show gz gPP gGG gcn _ _ 90 [some (.ref x), some (.ref bd), some (.int (zi p)), none] [.ref zq54] hq54 _
          have sq54 : gSs rT 1027 ty [66014, 67001, 67002, 67003, 84011, 112999] h hq54 := gSs.tr sq42 xq54 (by decide)
          have s55 := (xq54.2.2.2.2.2 x 0 (by rw [tx]; decide)).trans s43
          have s56 := (xq54.2.2.2.2.2 bi 0 (by rw [tbi]; decide)).trans s44
          have s57 := (xq54.2.2.2.2.2 x 7 (by rw [tx]; decide)).trans s45
          have s58 := (xq54.2.2.2.2.2 pic 2 (by rw [tpic]; decide)).trans s46
          have s59 := (xq54.2.2.2.2.2 src 1 (by rw [tsrc]; decide)).trans s47
          have s60 := (xq54.2.2.2.2.2 x 3 (by rw [tx]; decide)).trans s48
          have s61 := (xq54.2.2.2.2.2 x 2 (by rw [tx]; decide)).trans s49
          have s62 := (xq54.2.2.2.2.2 x 4 (by rw [tx]; decide)).trans s50
          have s63 := (xq54.2.2.2.2.2 bi 1 (by rw [tbi]; decide)).trans efq42_0
          have s64 := (xq54.2.2.2.2.2 bi 3 (by rw [tbi]; decide)).trans efq42_1
          have s65 := (xq54.2.2.2.2.2 bd 10 (by rw [tbd]; decide)).trans ez53
          refine gz_s 2 (pc' := 92) (L' := [some (.ref x), some (.ref bd), some (.int (zi p)), some (.ref zq54)]) (S' := [.ref x]) rfl ?_
          refine gs_gtk rfl (by decide) rfl sq54.1 tx rfl rfl s62 ?_
          refine gy_ifT (pc' := 107) rfl (by decide) (by decide) (by omega) (by first | (simp [zc]; done) | (simp only [zc]; omega)) ?_
          refine gz_s 3 (pc' := 110) (L' := [some (.ref x), some (.ref bd), some (.int (zi p)), some (.ref zq54)]) (S' := [.int (zi p), .ref zq54, .ref x]) rfl ?_
          have hl66 : hq54.2.2.2.1 co = h.2.2.2.1 co := congrFun sq54.2.2.2.2.1 co
          refine gz_call rfl (by decide) rfl (by decide) (by decide) (gcal_of rfl rfl rfl (Nat.le_of_ble_eq_true rfl) (gJ.recv (G := gGG) sq54.1 tx rfl rfl)) (cl_ScanReader_areOthersRead _ sq54.1 x tx zq54 tzq54 p (by omega) bi s55 tbi src s56 tsrc pic s57 tpic co s58 tco sz s59 (by omega) fq42_0 s63 (by omega) fq42_1 s64 (by omega) tt s60 (by omega) fr s61 (by omega) (by omega) uq) (fun q67 _ wq67 => ?_)
          obtain ⟨pq67, oq67, hq67⟩ := q67
          obtain ⟨xq67, zq67, fq67_0, fq67_1, gq67, aq67, bq67, efq67_0, afq67_0, bfq67_0, efq67_1, afq67_1, bfq67_1, uq67_0⟩ := wq67
          refine ⟨_, gq67, ?_⟩
          show gz gPP gGG gcn _ _ 113 [some (.ref x), some (.ref bd), some (.int (zi p)), some (.ref zq54)] [.int (zi zq67)] hq67 _
          have sq67 : gSs rT 1027 ty [66014, 67001, 67002, 67003, 84011, 112999] h hq67 := gSs.tr sq54 xq67 (by decide)
          have s68 := (xq67.2.2.2.2.2 x 0 (by rw [tx]; decide)).trans s55
          have s69 := (xq67.2.2.2.2.2 bi 0 (by rw [tbi]; decide)).trans s56
          have s70 := (xq67.2.2.2.2.2 x 7 (by rw [tx]; decide)).trans s57
          have s71 := (xq67.2.2.2.2.2 pic 2 (by rw [tpic]; decide)).trans s58
          have s72 := (xq67.2.2.2.2.2 src 1 (by rw [tsrc]; decide)).trans s59
          have s73 := (xq67.2.2.2.2.2 x 3 (by rw [tx]; decide)).trans s60
          have s74 := (xq67.2.2.2.2.2 x 2 (by rw [tx]; decide)).trans s61
          have s75 := (xq67.2.2.2.2.2 x 4 (by rw [tx]; decide)).trans s62
          have s76 := (xq67.2.2.2.2.2 bd 10 (by rw [tbd]; decide)).trans s65
          exact gz_end (I := .ireturn) (len := 1) rfl (Or.inl rfl) ⟨sq67, zq67, fq67_0, fq67_1, gfin_z rfl rfl (by omega), (by omega), (by omega), efq67_0, (by omega), (by omega), efq67_1, (by omega), (by omega), (by omega)⟩
        · refine gy_ifF rfl (by decide) (by decide) (by omega) hc52 ?_
          refine gz_s 1 (pc' := 80) (L' := [some (.ref x), some (.ref bd), some (.int (zi p)), none]) (S' := [.int (zi 1)]) rfl ?_
          exact gz_end (I := .ireturn) (len := 1) rfl (Or.inl rfl) ⟨sq42, 1, fq42_0, fq42_1, gfin_z rfl rfl (by omega), (by omega), (by omega), efq42_0, (by omega), (by omega), efq42_1, (by omega), (by omega), (by omega)⟩
      · refine gy_ifF rfl (by decide) (by decide) (by omega) hc51 ?_
        refine gz_s 1 (pc' := 71) (L' := [some (.ref x), some (.ref bd), some (.int (zi p)), none]) (S' := [.int (zi 0)]) rfl ?_
        exact gz_end (I := .ireturn) (len := 1) rfl (Or.inl rfl) ⟨sq42, 0, fq42_0, fq42_1, gfin_z rfl rfl (by omega), (by omega), (by omega), efq42_0, (by omega), (by omega), efq42_1, (by omega), (by omega), (by omega)⟩
    · refine gy_ifF rfl (by decide) (by decide) (by omega) hc40 ?_
      refine gz_s 1 (pc' := 15) (L' := [some (.ref x), some (.ref bd), some (.int (zi p)), none]) (S' := [.ref x]) rfl ?_
      refine gs_gtk rfl (by decide) rfl hS.1 tx rfl rfl ebi ?_
      refine gz_call rfl (by decide) rfl (by decide) (by decide) (gcal_of rfl rfl rfl (Nat.le_of_ble_eq_true rfl) (gJ.recv (G := gGG) hS.1 tbi rfl rfl)) (cl_Bits_nextBit _ hS.1 bi tbi src esrc tsrc sz esz (by omega) p0 ep0 (by omega) l0 el0 (by omega) uq) (fun q77 _ wq77 => ?_)
      obtain ⟨pq77, oq77, hq77⟩ := q77
      obtain ⟨xq77, zq77, fq77_0, fq77_1, gq77, aq77, bq77, efq77_0, afq77_0, bfq77_0, efq77_1, afq77_1, bfq77_1, uq77_0⟩ := wq77
      refine ⟨_, gq77, ?_⟩
      show gz gPP gGG gcn _ _ 21 [some (.ref x), some (.ref bd), some (.int (zi p)), none] [.int (zi zq77)] hq77 _
      have sq77 : gSs rT 1027 ty [66014, 67001, 67002, 67003, 84011, 112999] h hq77 := gSs.tr hS xq77 (by decide)
      have s78 := (xq77.2.2.2.2.2 x 0 (by rw [tx]; decide)).trans ebi
      have s79 := (xq77.2.2.2.2.2 bi 0 (by rw [tbi]; decide)).trans esrc
      have s80 := (xq77.2.2.2.2.2 x 7 (by rw [tx]; decide)).trans epic
      have s81 := (xq77.2.2.2.2.2 pic 2 (by rw [tpic]; decide)).trans eco
      have s82 := (xq77.2.2.2.2.2 src 1 (by rw [tsrc]; decide)).trans esz
      have s83 := (xq77.2.2.2.2.2 x 3 (by rw [tx]; decide)).trans ett
      have s84 := (xq77.2.2.2.2.2 x 2 (by rw [tx]; decide)).trans efr
      have s85 := (xq77.2.2.2.2.2 x 4 (by rw [tx]; decide)).trans ez39
      refine gz_s 2 (pc' := 23) (L' := [some (.ref x), some (.ref bd), some (.int (zi p)), some (.int (zi zq77))]) (S' := [.int (zi zq77)]) rfl ?_
      by_cases hc86 : (zq77 : Int) ≤ 0
      · refine gy_ifT (pc' := 44) rfl (by decide) (by decide) (by omega) hc86 ?_
        refine gz_s 1 (pc' := 45) (L' := [some (.ref x), some (.ref bd), some (.int (zi p)), some (.int (zi zq77))]) (S' := [.int (zi zq77)]) rfl ?_
        by_cases hc87 : (zq77 : Int) < 0
        · refine gy_ifT (pc' := 52) rfl (by decide) (by decide) (by omega) hc87 ?_
          refine gz_s 1 (pc' := 53) (L' := [some (.ref x), some (.ref bd), some (.int (zi p)), some (.int (zi zq77))]) (S' := [.int (zi 0)]) rfl ?_
          exact gz_end (I := .ireturn) (len := 1) rfl (Or.inl rfl) ⟨sq77, 0, fq77_0, fq77_1, gfin_z rfl rfl (by omega), (by omega), (by omega), efq77_0, (by omega), (by omega), efq77_1, (by omega), (by omega), (by omega)⟩
        · refine gy_ifF rfl (by decide) (by decide) (by omega) hc87 ?_
          refine gz_s 2 (pc' := 53) (L' := [some (.ref x), some (.ref bd), some (.int (zi p)), some (.int (zi zq77))]) (S' := [.int (zi 1)]) rfl ?_
          exact gz_end (I := .ireturn) (len := 1) rfl (Or.inl rfl) ⟨sq77, 1, fq77_0, fq77_1, gfin_z rfl rfl (by omega), (by omega), (by omega), efq77_0, (by omega), (by omega), efq77_1, (by omega), (by omega), (by omega)⟩
      · refine gy_ifF rfl (by decide) (by decide) (by omega) hc86 ?_
        refine gz_s 1 (pc' := 27) (L' := [some (.ref x), some (.ref bd), some (.int (zi p)), some (.int (zi zq77))]) (S' := [.ref x]) rfl ?_
        refine gs_gtk rfl (by decide) rfl sq77.1 tx rfl rfl s80 ?_
        refine gs_gtk rfl (by decide) rfl sq77.1 tpic rfl rfl s81 ?_
        refine gz_s 2 (pc' := 35) (L' := [some (.ref x), some (.ref bd), some (.int (zi p)), some (.int (zi zq77))]) (S' := [.int (zi p), .ref co, .int (zi p), .ref co]) rfl ?_
        have hl88 : 0 ≤ hq77.2.2.2.1 co ∧ hq77.2.2.2.1 co ≤ 12288 := gJ.rowl (G := gGG) sq77.1 tco rfl
        have hl89 : hq77.2.2.2.1 co = h.2.2.2.1 co := congrFun sq77.2.2.2.2.1 co
        refine gs_ald rfl (by decide) sq77.1 tco rfl rfl rfl (by decide) (fun _ => rfl) (by omega) (by omega) (fun z90 ez90 az90 bz90 => ?_)
        refine gz_s 2 (pc' := 38) (L' := [some (.ref x), some (.ref bd), some (.int (zi p)), some (.int (zi zq77))]) (S' := [.ref x, .int (zi 1), .int (zi z90), .int (zi p), .ref co]) rfl ?_
        refine gs_get rfl (by decide) rfl sq77.1 tx rfl rfl rfl (fun z91 ez91 az91 bz91 => ?_)
        refine gy_sh1 rfl (by decide) (by omega) (fun z92 az92 bz92 cz92 => ?_)
        refine gy_iiv rfl (by decide) rfl (fun _ _ => rfl) (fun z93 ez93 az93 bz93 => ?_)
        have hl94 : 0 ≤ hq77.2.2.2.1 co ∧ hq77.2.2.2.1 co ≤ 12288 := gJ.rowl (G := gGG) sq77.1 tco rfl
        have hl95 : hq77.2.2.2.1 co = h.2.2.2.1 co := congrFun sq77.2.2.2.2.1 co
        refine gs_ast rfl (by decide) sq77 tco rfl rfl rfl (by decide) (fun _ => rfl) (by omega) (by omega) (fun _ => (by decide : (112999 : Nat) ∈ ([66014, 67001, 67002, 67003, 84011, 112999] : List Nat))) (by omega) (by omega) (fun h96 sh96 eh96 fh96 => ?_)
        have s97 := (fh96 x 0 (fun q => absurd (((tx).symm.trans (congrArg ty q.1)).trans tco) (by decide))).trans s78
        have s98 := (fh96 bi 0 (fun q => absurd (((tbi).symm.trans (congrArg ty q.1)).trans tco) (by decide))).trans s79
        have s99 := (fh96 x 7 (fun q => absurd (((tx).symm.trans (congrArg ty q.1)).trans tco) (by decide))).trans s80
        have s100 := (fh96 pic 2 (fun q => absurd (((tpic).symm.trans (congrArg ty q.1)).trans tco) (by decide))).trans s81
        have s101 := (fh96 src 1 (fun q => absurd (((tsrc).symm.trans (congrArg ty q.1)).trans tco) (by decide))).trans s82
        have s102 := (fh96 x 3 (fun q => absurd (((tx).symm.trans (congrArg ty q.1)).trans tco) (by decide))).trans s83
        have s103 := (fh96 x 2 (fun q => absurd (((tx).symm.trans (congrArg ty q.1)).trans tco) (by decide))).trans s84
        have s104 := (fh96 x 4 (fun q => absurd (((tx).symm.trans (congrArg ty q.1)).trans tco) (by decide))).trans s85
        have s105 := (fh96 bi 1 (fun q => absurd (((tbi).symm.trans (congrArg ty q.1)).trans tco) (by decide))).trans efq77_0
        have s106 := (fh96 bi 3 (fun q => absurd (((tbi).symm.trans (congrArg ty q.1)).trans tco) (by decide))).trans efq77_1
        have s107 := (fh96 x 5 (fun q => absurd (((tx).symm.trans (congrArg ty q.1)).trans tco) (by decide))).trans ez91
        refine gz_s 1 (pc' := 45) (L' := [some (.ref x), some (.ref bd), some (.int (zi p)), some (.int (zi zq77))]) (S' := [.int (zi zq77)]) rfl ?_
        refine gy_ifF rfl (by decide) (by decide) (by omega) (by first | (simp [zc]; done) | (simp only [zc]; omega)) ?_
        refine gz_s 2 (pc' := 53) (L' := [some (.ref x), some (.ref bd), some (.int (zi p)), some (.int (zi zq77))]) (S' := [.int (zi 1)]) rfl ?_
        exact gz_end (I := .ireturn) (len := 1) rfl (Or.inl rfl) ⟨sh96, 1, fq77_0, fq77_1, gfin_z rfl rfl (by omega), (by omega), (by omega), s105, (by omega), (by omega), s106, (by omega), (by omega), (by omega)⟩
