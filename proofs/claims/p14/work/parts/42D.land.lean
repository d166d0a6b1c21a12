/-! ===== methods of the landed text (by program) ===== -/
set_option maxRecDepth 20000 in
set_option maxHeartbeats 4000000 in
theorem cl_listBlock0 (d : Nat) {ty : Nat → Nat} {h : gH} (hJ : gJ rT 1027 ty h) (x : Nat) (tx : ty x = 66) (n : Int) (rn : 0 ≤ n ∧ n ≤ 0) (cl : Int) (rcl : 0 ≤ cl ∧ cl ≤ 15) (rw : Int) (rrw : 0 ≤ rw ∧ rw ≤ 15) (pic : Nat) (epic : h.2.2.2.2 x 7 = .ref pic) (tpic : ty pic = 54) (bn : Nat) (ebn : h.2.2.2.2 pic 0 = .ref bn) (tbn : ty bn = 57) (b0 : Nat) (eb0 : h.2.2.2.2 bn 0 = .ref b0) (tb0 : ty b0 = 82) (bl : Int) (ebl : h.2.2.2.2 pic 8 = .int (zi bl)) (rbl : 0 ≤ bl ∧ bl ≤ 192) (us : Int) (eus : h.2.2.2.2 x 10 = .int (zi us)) (rus : 0 ≤ us ∧ us ≤ 12) (C : Int) (eC : h.2.2.2.2 b0 4 = .int (zi C)) (rC : 0 ≤ C ∧ C ≤ 16) (f : Int) (ef : h.2.2.2.2 b0 8 = .int (zi f)) (rf : 0 ≤ f ∧ f ≤ 192) (pp0 : 0 ≤ rw * C) (pp1 : rw * C ≤ 192) (pp2 : f + rw * C + cl ≤ bl - 1) (uq : gUq ty) (hyub : gUb ty us bl h) : gz gPP gGG gcn (d + 0) gt47 0 (gent [.ref x, .int (zi n), .int (zi cl), .int (zi rw)] 5) [] h (fun q _ => gSs rT 1027 ty [66010, 69999, 70999] h q.2.2 ∧ ∃ us1 : Int, gfin gt47 q.1 q.2.1 = some none ∧ q.2.2.2.2.2.2 x 10 = .int (zi us1) ∧ 0 ≤ us1 ∧ us1 ≤ 12 ∧ (us ≤ us1) ∧ (gUb ty us1 bl q.2.2)) := by
  have hS : gSs rT 1027 ty [66010, 69999, 70999] h h := gSs.rf hJ
  refine gz_s 1 (pc' := 1) (L' := [some (.ref x), some (.int (zi n)), some (.int (zi cl)), some (.int (zi rw)), none]) (S' := [.ref x]) rfl ?_
  refine gs_gtk rfl (by decide) rfl hS.1 tx rfl rfl epic ?_
  refine gs_gtk rfl (by decide) rfl hS.1 tpic rfl rfl ebn ?_
  refine gz_s 1 (pc' := 8) (L' := [some (.ref x), some (.int (zi n)), some (.int (zi cl)), some (.int (zi rw)), none]) (S' := [.int (zi n), .ref bn]) rfl ?_
  have he3 : (n : Int) = 0 := by omega
  refine gs_aak (j := 0) rfl (by decide) hS.1 tbn rfl rfl rfl (by decide) he3 (by decide) eb0 ?_
  refine gz_s 2 (pc' := 12) (L' := [some (.ref x), some (.int (zi n)), some (.int (zi cl)), some (.int (zi rw)), some (.ref b0)]) (S' := [.ref x]) rfl ?_
  refine gs_gtk rfl (by decide) rfl hS.1 tx rfl rfl eus ?_
  refine gz_s 1 (pc' := 16) (L' := [some (.ref x), some (.int (zi n)), some (.int (zi cl)), some (.int (zi rw)), some (.ref b0)]) (S' := [.ref x, .int (zi us)]) rfl ?_
  refine gs_gtr rfl (by decide) rfl hS.1 tx rfl rfl rfl (fun c4 ec4 tc4 => ?_)
  refine gs_len rfl (by decide) hS.1 tc4 rfl rfl rfl (fun z5 ez5 az5 bz5 => ?_)
  have cz5 : 12 ≤ z5 ∧ z5 ≤ 12 := ⟨az5, bz5⟩
  by_cases hc6 : (z5 : Int) ≤ us
  · refine gy_icT (pc' := 67) rfl (by decide) (by decide) (by omega) (by omega) hc6 ?_
    exact gz_end (I := .return_) (len := 1) rfl (Or.inl rfl) ⟨hS, us, rfl, eus, (by omega), (by omega), (by omega), hyub⟩
  · refine gy_icF rfl (by decide) (by decide) (by omega) (by omega) hc6 ?_
    refine gz_s 1 (pc' := 24) (L' := [some (.ref x), some (.int (zi n)), some (.int (zi cl)), some (.int (zi rw)), some (.ref b0)]) (S' := [.ref x]) rfl ?_
    refine gs_gtr rfl (by decide) rfl hS.1 tx rfl rfl rfl (fun c7 ec7 tc7 => ?_)
    refine gz_s 1 (pc' := 28) (L' := [some (.ref x), some (.int (zi n)), some (.int (zi cl)), some (.int (zi rw)), some (.ref b0)]) (S' := [.ref x, .ref c7]) rfl ?_
    refine gs_gtk rfl (by decide) rfl hS.1 tx rfl rfl eus ?_
    refine gz_s 1 (pc' := 32) (L' := [some (.ref x), some (.int (zi n)), some (.int (zi cl)), some (.int (zi rw)), some (.ref b0)]) (S' := [.int (zi n), .int (zi us), .ref c7]) rfl ?_
    have hl8 : 12 ≤ h.2.2.2.1 c7 ∧ h.2.2.2.1 c7 ≤ 12 := gJ.rowl (G := gGG) hS.1 tc7 rfl
    refine gs_ast rfl (by decide) hS tc7 rfl rfl rfl (by decide) (fun _ => rfl) (by omega) (by omega) (fun _ => (by decide : (69999 : Nat) ∈ ([66010, 69999, 70999] : List Nat))) (by omega) (by omega) (fun h9 sh9 eh9 fh9 => ?_)
    have pr10 := gUb.pt fh9 tc7 (by decide) hyub
    have s11 := (fh9 x 7 (fun q => absurd (((tx).symm.trans (congrArg ty q.1)).trans tc7) (by decide))).trans epic
    have s12 := (fh9 pic 0 (fun q => absurd (((tpic).symm.trans (congrArg ty q.1)).trans tc7) (by decide))).trans ebn
    have s13 := (fh9 bn 0 (fun q => absurd (((tbn).symm.trans (congrArg ty q.1)).trans tc7) (by decide))).trans eb0
    have s14 := (fh9 pic 8 (fun q => absurd (((tpic).symm.trans (congrArg ty q.1)).trans tc7) (by decide))).trans ebl
    have s15 := (fh9 x 10 (fun q => absurd (((tx).symm.trans (congrArg ty q.1)).trans tc7) (by decide))).trans eus
    have s16 := (fh9 b0 4 (fun q => absurd (((tb0).symm.trans (congrArg ty q.1)).trans tc7) (by decide))).trans eC
    have s17 := (fh9 b0 8 (fun q => absurd (((tb0).symm.trans (congrArg ty q.1)).trans tc7) (by decide))).trans ef
    have s18 := (fh9 x 9 (fun q => absurd (((tx).symm.trans (congrArg ty q.1)).trans tc7) (by decide))).trans ec4
    have s19 := (fh9 x 8 (fun q => absurd (((tx).symm.trans (congrArg ty q.1)).trans tc7) (by decide))).trans ec7
    have pr20 := gEl.set (i := us) (z := n) uq tc7 (by decide) eh9 (by omega) (by omega)
    refine gz_s 1 (pc' := 34) (L' := [some (.ref x), some (.int (zi n)), some (.int (zi cl)), some (.int (zi rw)), some (.ref b0)]) (S' := [.ref x]) rfl ?_
    refine gs_gtk rfl (by decide) rfl sh9.1 tx rfl rfl s18 ?_
    refine gz_s 1 (pc' := 38) (L' := [some (.ref x), some (.int (zi n)), some (.int (zi cl)), some (.int (zi rw)), some (.ref b0)]) (S' := [.ref x, .ref c4]) rfl ?_
    refine gs_gtk rfl (by decide) rfl sh9.1 tx rfl rfl s15 ?_
    refine gz_s 1 (pc' := 43) (L' := [some (.ref x), some (.int (zi n)), some (.int (zi cl)), some (.int (zi rw)), some (.ref b0)]) (S' := [.ref b0, .int (zi us), .ref c4]) rfl ?_
    refine gs_gtk rfl (by decide) rfl sh9.1 tb0 rfl rfl s17 ?_
    refine gz_s 2 (pc' := 49) (L' := [some (.ref x), some (.int (zi n)), some (.int (zi cl)), some (.int (zi rw)), some (.ref b0)]) (S' := [.ref b0, .int (zi rw), .int (zi f), .int (zi us), .ref c4]) rfl ?_
    refine gs_gtk rfl (by decide) rfl sh9.1 tb0 rfl rfl s16 ?_
    have hx21 := zx_f (a := rw) (b := C) (A := 15) (B := 16) (by omega) (by omega) (by omega) (by omega)
    refine gy_s 4 (pc' := 56) (L' := [some (.ref x), some (.int (zi n)), some (.int (zi cl)), some (.int (zi rw)), some (.ref b0)]) (S' := [.int (((zi f) + ((zi rw) * (zi C))) + (zi cl)), .int (zi us), .ref c4]) (L2 := [some (.ref x), some (.int (zi n)), some (.int (zi cl)), some (.int (zi rw)), some (.ref b0)]) (S2 := [.int (zi ((f + (rw * C)) + cl)), .int (zi us), .ref c4]) rfl (by simp only [zi_add, zi_sub, zi_mul, zi_neg, zi_and1, zi_and7, zi_and15, zi_and31, zi_and255]) (by simp only [zi_add, zi_sub, zi_mul, zi_neg, zi_and1, zi_and7, zi_and15, zi_and31, zi_and255]) ?_
    have hl22 : 12 ≤ h9.2.2.2.1 c4 ∧ h9.2.2.2.1 c4 ≤ 12 := gJ.rowl (G := gGG) sh9.1 tc4 rfl
    refine gs_ast rfl (by decide) sh9 tc4 rfl rfl rfl (by decide) (fun _ => rfl) (by omega) (by omega) (fun _ => (by decide : (70999 : Nat) ∈ ([66010, 69999, 70999] : List Nat))) (by omega) (by omega) (fun h23 sh23 eh23 fh23 => ?_)
    have pr24 := gEl.pt fh23 tc4 (by decide) pr20
    have s25 := (fh23 x 7 (fun q => absurd (((tx).symm.trans (congrArg ty q.1)).trans tc4) (by decide))).trans s11
    have s26 := (fh23 pic 0 (fun q => absurd (((tpic).symm.trans (congrArg ty q.1)).trans tc4) (by decide))).trans s12
    have s27 := (fh23 bn 0 (fun q => absurd (((tbn).symm.trans (congrArg ty q.1)).trans tc4) (by decide))).trans s13
    have s28 := (fh23 pic 8 (fun q => absurd (((tpic).symm.trans (congrArg ty q.1)).trans tc4) (by decide))).trans s14
    have s29 := (fh23 x 10 (fun q => absurd (((tx).symm.trans (congrArg ty q.1)).trans tc4) (by decide))).trans s15
    have s30 := (fh23 b0 4 (fun q => absurd (((tb0).symm.trans (congrArg ty q.1)).trans tc4) (by decide))).trans s16
    have s31 := (fh23 b0 8 (fun q => absurd (((tb0).symm.trans (congrArg ty q.1)).trans tc4) (by decide))).trans s17
    have s32 := (fh23 x 9 (fun q => absurd (((tx).symm.trans (congrArg ty q.1)).trans tc4) (by decide))).trans s18
    have s33 := (fh23 x 8 (fun q => absurd (((tx).symm.trans (congrArg ty q.1)).trans tc4) (by decide))).trans s19
    have pr34 := gEl.set (i := us) (z := (f + (rw * C)) + cl) uq tc4 (by decide) eh23 (by omega) (by omega)
    have hub35 : gUb ty (us + 1) bl h23 := gUb.step (z := (f + (rw * C)) + cl) uq tc4 fh23 eh23 (by omega) (by omega) pr10
    refine gz_s 2 (pc' := 59) (L' := [some (.ref x), some (.int (zi n)), some (.int (zi cl)), some (.int (zi rw)), some (.ref b0)]) (S' := [.ref x, .ref x]) rfl ?_
    refine gs_gtk rfl (by decide) rfl sh23.1 tx rfl rfl s29 ?_
    refine gy_s 2 (pc' := 64) (L' := [some (.ref x), some (.int (zi n)), some (.int (zi cl)), some (.int (zi rw)), some (.ref b0)]) (S' := [.int ((zi us) + (zi 1)), .ref x]) (L2 := [some (.ref x), some (.int (zi n)), some (.int (zi cl)), some (.int (zi rw)), some (.ref b0)]) (S2 := [.int (zi (us + 1)), .ref x]) rfl (by simp only [zi_add, zi_sub, zi_mul, zi_neg, zi_and1, zi_and7, zi_and15, zi_and31, zi_and255]) (by simp only [zi_add, zi_sub, zi_mul, zi_neg, zi_and1, zi_and7, zi_and15, zi_and31, zi_and255]) ?_
    refine gs_put rfl (by decide) rfl sh23 tx rfl rfl rfl rfl (Or.inl rfl) (by decide) (by omega) (by omega) (fun h36 sh36 eh36 fh36 => ?_)
    have pr37 := gEl.pt fh36 tx (by decide) pr24
    have pr38 := gEl.pt fh36 tx (by decide) pr34
    have pr39 := gUb.pt fh36 tx (by decide) hub35
    have s40 := (fh36 x 7 (fun q => absurd q.2 (by decide))).trans s25
    have s41 := (fh36 pic 0 (fun q => absurd q.2 (by decide))).trans s26
    have s42 := (fh36 bn 0 (fun q => absurd (((tbn).symm.trans (congrArg ty q.1)).trans tx) (by decide))).trans s27
    have s43 := (fh36 pic 8 (fun q => absurd q.2 (by decide))).trans s28
    have s44 := (fh36 b0 4 (fun q => absurd q.2 (by decide))).trans s30
    have s45 := (fh36 b0 8 (fun q => absurd q.2 (by decide))).trans s31
    have s46 := (fh36 x 9 (fun q => absurd q.2 (by decide))).trans s32
    have s47 := (fh36 x 8 (fun q => absurd q.2 (by decide))).trans s33
    exact gz_end (I := .return_) (len := 1) rfl (Or.inl rfl) ⟨sh36, us + 1, rfl, eh36, (by omega), (by omega), (by omega), pr39⟩
set_option maxRecDepth 20000 in
set_option maxHeartbeats 4000000 in
theorem cl_listBlock1 (d : Nat) {ty : Nat → Nat} {h : gH} (hJ : gJ rT 1027 ty h) (x : Nat) (tx : ty x = 66) (n : Int) (rn : 1 ≤ n ∧ n ≤ 1) (cl : Int) (rcl : 0 ≤ cl ∧ cl ≤ 15) (rw : Int) (rrw : 0 ≤ rw ∧ rw ≤ 15) (pic : Nat) (epic : h.2.2.2.2 x 7 = .ref pic) (tpic : ty pic = 54) (bn : Nat) (ebn : h.2.2.2.2 pic 0 = .ref bn) (tbn : ty bn = 57) (b1 : Nat) (eb1 : h.2.2.2.2 bn 1 = .ref b1) (tb1 : ty b1 = 83) (bl : Int) (ebl : h.2.2.2.2 pic 8 = .int (zi bl)) (rbl : 0 ≤ bl ∧ bl ≤ 192) (us : Int) (eus : h.2.2.2.2 x 10 = .int (zi us)) (rus : 0 ≤ us ∧ us ≤ 12) (C : Int) (eC : h.2.2.2.2 b1 4 = .int (zi C)) (rC : 0 ≤ C ∧ C ≤ 16) (f : Int) (ef : h.2.2.2.2 b1 8 = .int (zi f)) (rf : 0 ≤ f ∧ f ≤ 192) (pp0 : 0 ≤ rw * C) (pp1 : rw * C ≤ 192) (pp2 : f + rw * C + cl ≤ bl - 1) (uq : gUq ty) (hyub : gUb ty us bl h) : gz gPP gGG gcn (d + 0) gt47 0 (gent [.ref x, .int (zi n), .int (zi cl), .int (zi rw)] 5) [] h (fun q _ => gSs rT 1027 ty [66010, 69999, 70999] h q.2.2 ∧ ∃ us1 : Int, gfin gt47 q.1 q.2.1 = some none ∧ q.2.2.2.2.2.2 x 10 = .int (zi us1) ∧ 0 ≤ us1 ∧ us1 ≤ 12 ∧ (us ≤ us1) ∧ (gUb ty us1 bl q.2.2)) := by
  have hS : gSs rT 1027 ty [66010, 69999, 70999] h h := gSs.rf hJ
  refine gz_s 1 (pc' := 1) (L' := [some (.ref x), some (.int (zi n)), some (.int (zi cl)), some (.int (zi rw)), none]) (S' := [.ref x]) rfl ?_
  refine gs_gtk rfl (by decide) rfl hS.1 tx rfl rfl epic ?_
  refine gs_gtk rfl (by decide) rfl hS.1 tpic rfl rfl ebn ?_
  refine gz_s 1 (pc' := 8) (L' := [some (.ref x), some (.int (zi n)), some (.int (zi cl)), some (.int (zi rw)), none]) (S' := [.int (zi n), .ref bn]) rfl ?_
  have he3 : (n : Int) = 1 := by omega
  refine gs_aak (j := 1) rfl (by decide) hS.1 tbn rfl rfl rfl (by decide) he3 (by decide) eb1 ?_
  refine gz_s 2 (pc' := 12) (L' := [some (.ref x), some (.int (zi n)), some (.int (zi cl)), some (.int (zi rw)), some (.ref b1)]) (S' := [.ref x]) rfl ?_
  refine gs_gtk rfl (by decide) rfl hS.1 tx rfl rfl eus ?_
  refine gz_s 1 (pc' := 16) (L' := [some (.ref x), some (.int (zi n)), some (.int (zi cl)), some (.int (zi rw)), some (.ref b1)]) (S' := [.ref x, .int (zi us)]) rfl ?_
  refine gs_gtr rfl (by decide) rfl hS.1 tx rfl rfl rfl (fun c4 ec4 tc4 => ?_)
  refine gs_len rfl (by decide) hS.1 tc4 rfl rfl rfl (fun z5 ez5 az5 bz5 => ?_)
  have cz5 : 12 ≤ z5 ∧ z5 ≤ 12 := ⟨az5, bz5⟩
  by_cases hc6 : (z5 : Int) ≤ us
  · refine gy_icT (pc' := 67) rfl (by decide) (by decide) (by omega) (by omega) hc6 ?_
    exact gz_end (I := .return_) (len := 1) rfl (Or.inl rfl) ⟨hS, us, rfl, eus, (by omega), (by omega), (by omega), hyub⟩
  · refine gy_icF rfl (by decide) (by decide) (by omega) (by omega) hc6 ?_
    refine gz_s 1 (pc' := 24) (L' := [some (.ref x), some (.int (zi n)), some (.int (zi cl)), some (.int (zi rw)), some (.ref b1)]) (S' := [.ref x]) rfl ?_
    refine gs_gtr rfl (by decide) rfl hS.1 tx rfl rfl rfl (fun c7 ec7 tc7 => ?_)
    refine gz_s 1 (pc' := 28) (L' := [some (.ref x), some (.int (zi n)), some (.int (zi cl)), some (.int (zi rw)), some (.ref b1)]) (S' := [.ref x, .ref c7]) rfl ?_
    refine gs_gtk rfl (by decide) rfl hS.1 tx rfl rfl eus ?_
    refine gz_s 1 (pc' := 32) (L' := [some (.ref x), some (.int (zi n)), some (.int (zi cl)), some (.int (zi rw)), some (.ref b1)]) (S' := [.int (zi n), .int (zi us), .ref c7]) rfl ?_
    have hl8 : 12 ≤ h.2.2.2.1 c7 ∧ h.2.2.2.1 c7 ≤ 12 := gJ.rowl (G := gGG) hS.1 tc7 rfl
    refine gs_ast rfl (by decide) hS tc7 rfl rfl rfl (by decide) (fun _ => rfl) (by omega) (by omega) (fun _ => (by decide : (69999 : Nat) ∈ ([66010, 69999, 70999] : List Nat))) (by omega) (by omega) (fun h9 sh9 eh9 fh9 => ?_)
    have pr10 := gUb.pt fh9 tc7 (by decide) hyub
    have s11 := (fh9 x 7 (fun q => absurd (((tx).symm.trans (congrArg ty q.1)).trans tc7) (by decide))).trans epic
    have s12 := (fh9 pic 0 (fun q => absurd (((tpic).symm.trans (congrArg ty q.1)).trans tc7) (by decide))).trans ebn
    have s13 := (fh9 bn 1 (fun q => absurd (((tbn).symm.trans (congrArg ty q.1)).trans tc7) (by decide))).trans eb1
    have s14 := (fh9 pic 8 (fun q => absurd (((tpic).symm.trans (congrArg ty q.1)).trans tc7) (by decide))).trans ebl
    have s15 := (fh9 x 10 (fun q => absurd (((tx).symm.trans (congrArg ty q.1)).trans tc7) (by decide))).trans eus
    have s16 := (fh9 b1 4 (fun q => absurd (((tb1).symm.trans (congrArg ty q.1)).trans tc7) (by decide))).trans eC
    have s17 := (fh9 b1 8 (fun q => absurd (((tb1).symm.trans (congrArg ty q.1)).trans tc7) (by decide))).trans ef
    have s18 := (fh9 x 9 (fun q => absurd (((tx).symm.trans (congrArg ty q.1)).trans tc7) (by decide))).trans ec4
    have s19 := (fh9 x 8 (fun q => absurd (((tx).symm.trans (congrArg ty q.1)).trans tc7) (by decide))).trans ec7
    have pr20 := gEl.set (i := us) (z := n) uq tc7 (by decide) eh9 (by omega) (by omega)
    refine gz_s 1 (pc' := 34) (L' := [some (.ref x), some (.int (zi n)), some (.int (zi cl)), some (.int (zi rw)), some (.ref b1)]) (S' := [.ref x]) rfl ?_
    refine gs_gtk rfl (by decide) rfl sh9.1 tx rfl rfl s18 ?_
    refine gz_s 1 (pc' := 38) (L' := [some (.ref x), some (.int (zi n)), some (.int (zi cl)), some (.int (zi rw)), some (.ref b1)]) (S' := [.ref x, .ref c4]) rfl ?_
    refine gs_gtk rfl (by decide) rfl sh9.1 tx rfl rfl s15 ?_
    refine gz_s 1 (pc' := 43) (L' := [some (.ref x), some (.int (zi n)), some (.int (zi cl)), some (.int (zi rw)), some (.ref b1)]) (S' := [.ref b1, .int (zi us), .ref c4]) rfl ?_
    refine gs_gtk rfl (by decide) rfl sh9.1 tb1 rfl rfl s17 ?_
    refine gz_s 2 (pc' := 49) (L' := [some (.ref x), some (.int (zi n)), some (.int (zi cl)), some (.int (zi rw)), some (.ref b1)]) (S' := [.ref b1, .int (zi rw), .int (zi f), .int (zi us), .ref c4]) rfl ?_
    refine gs_gtk rfl (by decide) rfl sh9.1 tb1 rfl rfl s16 ?_
    have hx21 := zx_f (a := rw) (b := C) (A := 15) (B := 16) (by omega) (by omega) (by omega) (by omega)
    refine gy_s 4 (pc' := 56) (L' := [some (.ref x), some (.int (zi n)), some (.int (zi cl)), some (.int (zi rw)), some (.ref b1)]) (S' := [.int (((zi f) + ((zi rw) * (zi C))) + (zi cl)), .int (zi us), .ref c4]) (L2 := [some (.ref x), some (.int (zi n)), some (.int (zi cl)), some (.int (zi rw)), some (.ref b1)]) (S2 := [.int (zi ((f + (rw * C)) + cl)), .int (zi us), .ref c4]) rfl (by simp only [zi_add, zi_sub, zi_mul, zi_neg, zi_and1, zi_and7, zi_and15, zi_and31, zi_and255]) (by simp only [zi_add, zi_sub, zi_mul, zi_neg, zi_and1, zi_and7, zi_and15, zi_and31, zi_and255]) ?_
    have hl22 : 12 ≤ h9.2.2.2.1 c4 ∧ h9.2.2.2.1 c4 ≤ 12 := gJ.rowl (G := gGG) sh9.1 tc4 rfl
    refine gs_ast rfl (by decide) sh9 tc4 rfl rfl rfl (by decide) (fun _ => rfl) (by omega) (by omega) (fun _ => (by decide : (70999 : Nat) ∈ ([66010, 69999, 70999] : List Nat))) (by omega) (by omega) (fun h23 sh23 eh23 fh23 => ?_)
    have pr24 := gEl.pt fh23 tc4 (by decide) pr20
    have s25 := (fh23 x 7 (fun q => absurd (((tx).symm.trans (congrArg ty q.1)).trans tc4) (by decide))).trans s11
    have s26 := (fh23 pic 0 (fun q => absurd (((tpic).symm.trans (congrArg ty q.1)).trans tc4) (by decide))).trans s12
    have s27 := (fh23 bn 1 (fun q => absurd (((tbn).symm.trans (congrArg ty q.1)).trans tc4) (by decide))).trans s13
    have s28 := (fh23 pic 8 (fun q => absurd (((tpic).symm.trans (congrArg ty q.1)).trans tc4) (by decide))).trans s14
    have s29 := (fh23 x 10 (fun q => absurd (((tx).symm.trans (congrArg ty q.1)).trans tc4) (by decide))).trans s15
    have s30 := (fh23 b1 4 (fun q => absurd (((tb1).symm.trans (congrArg ty q.1)).trans tc4) (by decide))).trans s16
    have s31 := (fh23 b1 8 (fun q => absurd (((tb1).symm.trans (congrArg ty q.1)).trans tc4) (by decide))).trans s17
    have s32 := (fh23 x 9 (fun q => absurd (((tx).symm.trans (congrArg ty q.1)).trans tc4) (by decide))).trans s18
    have s33 := (fh23 x 8 (fun q => absurd (((tx).symm.trans (congrArg ty q.1)).trans tc4) (by decide))).trans s19
    have pr34 := gEl.set (i := us) (z := (f + (rw * C)) + cl) uq tc4 (by decide) eh23 (by omega) (by omega)
    have hub35 : gUb ty (us + 1) bl h23 := gUb.step (z := (f + (rw * C)) + cl) uq tc4 fh23 eh23 (by omega) (by omega) pr10
    refine gz_s 2 (pc' := 59) (L' := [some (.ref x), some (.int (zi n)), some (.int (zi cl)), some (.int (zi rw)), some (.ref b1)]) (S' := [.ref x, .ref x]) rfl ?_
    refine gs_gtk rfl (by decide) rfl sh23.1 tx rfl rfl s29 ?_
    refine gy_s 2 (pc' := 64) (L' := [some (.ref x), some (.int (zi n)), some (.int (zi cl)), some (.int (zi rw)), some (.ref b1)]) (S' := [.int ((zi us) + (zi 1)), .ref x]) (L2 := [some (.ref x), some (.int (zi n)), some (.int (zi cl)), some (.int (zi rw)), some (.ref b1)]) (S2 := [.int (zi (us + 1)), .ref x]) rfl (by simp only [zi_add, zi_sub, zi_mul, zi_neg, zi_and1, zi_and7, zi_and15, zi_and31, zi_and255]) (by simp only [zi_add, zi_sub, zi_mul, zi_neg, zi_and1, zi_and7, zi_and15, zi_and31, zi_and255]) ?_
    refine gs_put rfl (by decide) rfl sh23 tx rfl rfl rfl rfl (Or.inl rfl) (by decide) (by omega) (by omega) (fun h36 sh36 eh36 fh36 => ?_)
    have pr37 := gEl.pt fh36 tx (by decide) pr24
    have pr38 := gEl.pt fh36 tx (by decide) pr34
    have pr39 := gUb.pt fh36 tx (by decide) hub35
    have s40 := (fh36 x 7 (fun q => absurd q.2 (by decide))).trans s25
    have s41 := (fh36 pic 0 (fun q => absurd q.2 (by decide))).trans s26
    have s42 := (fh36 bn 1 (fun q => absurd (((tbn).symm.trans (congrArg ty q.1)).trans tx) (by decide))).trans s27
    have s43 := (fh36 pic 8 (fun q => absurd q.2 (by decide))).trans s28
    have s44 := (fh36 b1 4 (fun q => absurd q.2 (by decide))).trans s30
    have s45 := (fh36 b1 8 (fun q => absurd q.2 (by decide))).trans s31
    have s46 := (fh36 x 9 (fun q => absurd q.2 (by decide))).trans s32
    have s47 := (fh36 x 8 (fun q => absurd q.2 (by decide))).trans s33
    exact gz_end (I := .return_) (len := 1) rfl (Or.inl rfl) ⟨sh36, us + 1, rfl, eh36, (by omega), (by omega), (by omega), pr39⟩
set_option maxRecDepth 20000 in
set_option maxHeartbeats 4000000 in
theorem cl_listBlock2 (d : Nat) {ty : Nat → Nat} {h : gH} (hJ : gJ rT 1027 ty h) (x : Nat) (tx : ty x = 66) (n : Int) (rn : 2 ≤ n ∧ n ≤ 2) (cl : Int) (rcl : 0 ≤ cl ∧ cl ≤ 15) (rw : Int) (rrw : 0 ≤ rw ∧ rw ≤ 15) (pic : Nat) (epic : h.2.2.2.2 x 7 = .ref pic) (tpic : ty pic = 54) (bn : Nat) (ebn : h.2.2.2.2 pic 0 = .ref bn) (tbn : ty bn = 57) (b2 : Nat) (eb2 : h.2.2.2.2 bn 2 = .ref b2) (tb2 : ty b2 = 84) (bl : Int) (ebl : h.2.2.2.2 pic 8 = .int (zi bl)) (rbl : 0 ≤ bl ∧ bl ≤ 192) (us : Int) (eus : h.2.2.2.2 x 10 = .int (zi us)) (rus : 0 ≤ us ∧ us ≤ 12) (C : Int) (eC : h.2.2.2.2 b2 4 = .int (zi C)) (rC : 0 ≤ C ∧ C ≤ 16) (f : Int) (ef : h.2.2.2.2 b2 8 = .int (zi f)) (rf : 0 ≤ f ∧ f ≤ 192) (pp0 : 0 ≤ rw * C) (pp1 : rw * C ≤ 192) (pp2 : f + rw * C + cl ≤ bl - 1) (uq : gUq ty) (hyub : gUb ty us bl h) : gz gPP gGG gcn (d + 0) gt47 0 (gent [.ref x, .int (zi n), .int (zi cl), .int (zi rw)] 5) [] h (fun q _ => gSs rT 1027 ty [66010, 69999, 70999] h q.2.2 ∧ ∃ us1 : Int, gfin gt47 q.1 q.2.1 = some none ∧ q.2.2.2.2.2.2 x 10 = .int (zi us1) ∧ 0 ≤ us1 ∧ us1 ≤ 12 ∧ (us ≤ us1) ∧ (gUb ty us1 bl q.2.2)) := by
  have hS : gSs rT 1027 ty [66010, 69999, 70999] h h := gSs.rf hJ
  refine gz_s 1 (pc' := 1) (L' := [some (.ref x), some (.int (zi n)), some (.int (zi cl)), some (.int (zi rw)), none]) (S' := [.ref x]) rfl ?_
  refine gs_gtk rfl (by decide) rfl hS.1 tx rfl rfl epic ?_
  refine gs_gtk rfl (by decide) rfl hS.1 tpic rfl rfl ebn ?_
  refine gz_s 1 (pc' := 8) (L' := [some (.ref x), some (.int (zi n)), some (.int (zi cl)), some (.int (zi rw)), none]) (S' := [.int (zi n), .ref bn]) rfl ?_
  have he3 : (n : Int) = 2 := by omega
  refine gs_aak (j := 2) rfl (by decide) hS.1 tbn rfl rfl rfl (by decide) he3 (by decide) eb2 ?_
  refine gz_s 2 (pc' := 12) (L' := [some (.ref x), some (.int (zi n)), some (.int (zi cl)), some (.int (zi rw)), some (.ref b2)]) (S' := [.ref x]) rfl ?_
  refine gs_gtk rfl (by decide) rfl hS.1 tx rfl rfl eus ?_
  refine gz_s 1 (pc' := 16) (L' := [some (.ref x), some (.int (zi n)), some (.int (zi cl)), some (.int (zi rw)), some (.ref b2)]) (S' := [.ref x, .int (zi us)]) rfl ?_
  refine gs_gtr rfl (by decide) rfl hS.1 tx rfl rfl rfl (fun c4 ec4 tc4 => ?_)
  refine gs_len rfl (by decide) hS.1 tc4 rfl rfl rfl (fun z5 ez5 az5 bz5 => ?_)
  have cz5 : 12 ≤ z5 ∧ z5 ≤ 12 := ⟨az5, bz5⟩
  by_cases hc6 : (z5 : Int) ≤ us
  · refine gy_icT (pc' := 67) rfl (by decide) (by decide) (by omega) (by omega) hc6 ?_
    exact gz_end (I := .return_) (len := 1) rfl (Or.inl rfl) ⟨hS, us, rfl, eus, (by omega), (by omega), (by omega), hyub⟩
  · refine gy_icF rfl (by decide) (by decide) (by omega) (by omega) hc6 ?_
    refine gz_s 1 (pc' := 24) (L' := [some (.ref x), some (.int (zi n)), some (.int (zi cl)), some (.int (zi rw)), some (.ref b2)]) (S' := [.ref x]) rfl ?_
    refine gs_gtr rfl (by decide) rfl hS.1 tx rfl rfl rfl (fun c7 ec7 tc7 => ?_)
    refine gz_s 1 (pc' := 28) (L' := [some (.ref x), some (.int (zi n)), some (.int (zi cl)), some (.int (zi rw)), some (.ref b2)]) (S' := [.ref x, .ref c7]) rfl ?_
    refine gs_gtk rfl (by decide) rfl hS.1 tx rfl rfl eus ?_
    refine gz_s 1 (pc' := 32) (L' := [some (.ref x), some (.int (zi n)), some (.int (zi cl)), some (.int (zi rw)), some (.ref b2)]) (S' := [.int (zi n), .int (zi us), .ref c7]) rfl ?_
    have hl8 : 12 ≤ h.2.2.2.1 c7 ∧ h.2.2.2.1 c7 ≤ 12 := gJ.rowl (G := gGG) hS.1 tc7 rfl
    refine gs_ast rfl (by decide) hS tc7 rfl rfl rfl (by decide) (fun _ => rfl) (by omega) (by omega) (fun _ => (by decide : (69999 : Nat) ∈ ([66010, 69999, 70999] : List Nat))) (by omega) (by omega) (fun h9 sh9 eh9 fh9 => ?_)
    have pr10 := gUb.pt fh9 tc7 (by decide) hyub
    have s11 := (fh9 x 7 (fun q => absurd (((tx).symm.trans (congrArg ty q.1)).trans tc7) (by decide))).trans epic
    have s12 := (fh9 pic 0 (fun q => absurd (((tpic).symm.trans (congrArg ty q.1)).trans tc7) (by decide))).trans ebn
    have s13 := (fh9 bn 2 (fun q => absurd (((tbn).symm.trans (congrArg ty q.1)).trans tc7) (by decide))).trans eb2
    have s14 := (fh9 pic 8 (fun q => absurd (((tpic).symm.trans (congrArg ty q.1)).trans tc7) (by decide))).trans ebl
    have s15 := (fh9 x 10 (fun q => absurd (((tx).symm.trans (congrArg ty q.1)).trans tc7) (by decide))).trans eus
    have s16 := (fh9 b2 4 (fun q => absurd (((tb2).symm.trans (congrArg ty q.1)).trans tc7) (by decide))).trans eC
    have s17 := (fh9 b2 8 (fun q => absurd (((tb2).symm.trans (congrArg ty q.1)).trans tc7) (by decide))).trans ef
    have s18 := (fh9 x 9 (fun q => absurd (((tx).symm.trans (congrArg ty q.1)).trans tc7) (by decide))).trans ec4
    have s19 := (fh9 x 8 (fun q => absurd (((tx).symm.trans (congrArg ty q.1)).trans tc7) (by decide))).trans ec7
    have pr20 := gEl.set (i := us) (z := n) uq tc7 (by decide) eh9 (by omega) (by omega)
    refine gz_s 1 (pc' := 34) (L' := [some (.ref x), some (.int (zi n)), some (.int (zi cl)), some (.int (zi rw)), some (.ref b2)]) (S' := [.ref x]) rfl ?_
    refine gs_gtk rfl (by decide) rfl sh9.1 tx rfl rfl s18 ?_
    refine gz_s 1 (pc' := 38) (L' := [some (.ref x), some (.int (zi n)), some (.int (zi cl)), some (.int (zi rw)), some (.ref b2)]) (S' := [.ref x, .ref c4]) rfl ?_
    refine gs_gtk rfl (by decide) rfl sh9.1 tx rfl rfl s15 ?_
    refine gz_s 1 (pc' := 43) (L' := [some (.ref x), some (.int (zi n)), some (.int (zi cl)), some (.int (zi rw)), some (.ref b2)]) (S' := [.ref b2, .int (zi us), .ref c4]) rfl ?_
    refine gs_gtk rfl (by decide) rfl sh9.1 tb2 rfl rfl s17 ?_
    refine gz_s 2 (pc' := 49) (L' := [some (.ref x), some (.int (zi n)), some (.int (zi cl)), some (.int (zi rw)), some (.ref b2)]) (S' := [.ref b2, .int (zi rw), .int (zi f), .int (zi us), .ref c4]) rfl ?_
    refine gs_gtk rfl (by decide) rfl sh9.1 tb2 rfl rfl s16 ?_
    have hx21 := zx_f (a := rw) (b := C) (A := 15) (B := 16) (by omega) (by omega) (by omega) (by omega)
    refine gy_s 4 (pc' := 56) (L' := [some (.ref x), some (.int (zi n)), some (.int (zi cl)), some (.int (zi rw)), some (.ref b2)]) (S' := [.int (((zi f) + ((zi rw) * (zi C))) + (zi cl)), .int (zi us), .ref c4]) (L2 := [some (.ref x), some (.int (zi n)), some (.int (zi cl)), some (.int (zi rw)), some (.ref b2)]) (S2 := [.int (zi ((f + (rw * C)) + cl)), .int (zi us), .ref c4]) rfl (by simp only [zi_add, zi_sub, zi_mul, zi_neg, zi_and1, zi_and7, zi_and15, zi_and31, zi_and255]) (by simp only [zi_add, zi_sub, zi_mul, zi_neg, zi_and1, zi_and7, zi_and15, zi_and31, zi_and255]) ?_
    have hl22 : 12 ≤ h9.2.2.2.1 c4 ∧ h9.2.2.2.1 c4 ≤ 12 := gJ.rowl (G := gGG) sh9.1 tc4 rfl
    refine gs_ast rfl (by decide) sh9 tc4 rfl rfl rfl (by decide) (fun _ => rfl) (by omega) (by omega) (fun _ => (by decide : (70999 : Nat) ∈ ([66010, 69999, 70999] : List Nat))) (by omega) (by omega) (fun h23 sh23 eh23 fh23 => ?_)
    have pr24 := gEl.pt fh23 tc4 (by decide) pr20
    have s25 := (fh23 x 7 (fun q => absurd (((tx).symm.trans (congrArg ty q.1)).trans tc4) (by decide))).trans s11
    have s26 := (fh23 pic 0 (fun q => absurd (((tpic).symm.trans (congrArg ty q.1)).trans tc4) (by decide))).trans s12
    have s27 := (fh23 bn 2 (fun q => absurd (((tbn).symm.trans (congrArg ty q.1)).trans tc4) (by decide))).trans s13
    have s28 := (fh23 pic 8 (fun q => absurd (((tpic).symm.trans (congrArg ty q.1)).trans tc4) (by decide))).trans s14
    have s29 := (fh23 x 10 (fun q => absurd (((tx).symm.trans (congrArg ty q.1)).trans tc4) (by decide))).trans s15
    have s30 := (fh23 b2 4 (fun q => absurd (((tb2).symm.trans (congrArg ty q.1)).trans tc4) (by decide))).trans s16
    have s31 := (fh23 b2 8 (fun q => absurd (((tb2).symm.trans (congrArg ty q.1)).trans tc4) (by decide))).trans s17
    have s32 := (fh23 x 9 (fun q => absurd (((tx).symm.trans (congrArg ty q.1)).trans tc4) (by decide))).trans s18
    have s33 := (fh23 x 8 (fun q => absurd (((tx).symm.trans (congrArg ty q.1)).trans tc4) (by decide))).trans s19
    have pr34 := gEl.set (i := us) (z := (f + (rw * C)) + cl) uq tc4 (by decide) eh23 (by omega) (by omega)
    have hub35 : gUb ty (us + 1) bl h23 := gUb.step (z := (f + (rw * C)) + cl) uq tc4 fh23 eh23 (by omega) (by omega) pr10
    refine gz_s 2 (pc' := 59) (L' := [some (.ref x), some (.int (zi n)), some (.int (zi cl)), some (.int (zi rw)), some (.ref b2)]) (S' := [.ref x, .ref x]) rfl ?_
    refine gs_gtk rfl (by decide) rfl sh23.1 tx rfl rfl s29 ?_
    refine gy_s 2 (pc' := 64) (L' := [some (.ref x), some (.int (zi n)), some (.int (zi cl)), some (.int (zi rw)), some (.ref b2)]) (S' := [.int ((zi us) + (zi 1)), .ref x]) (L2 := [some (.ref x), some (.int (zi n)), some (.int (zi cl)), some (.int (zi rw)), some (.ref b2)]) (S2 := [.int (zi (us + 1)), .ref x]) rfl (by simp only [zi_add, zi_sub, zi_mul, zi_neg, zi_and1, zi_and7, zi_and15, zi_and31, zi_and255]) (by simp only [zi_add, zi_sub, zi_mul, zi_neg, zi_and1, zi_and7, zi_and15, zi_and31, zi_and255]) ?_
    refine gs_put rfl (by decide) rfl sh23 tx rfl rfl rfl rfl (Or.inl rfl) (by decide) (by omega) (by omega) (fun h36 sh36 eh36 fh36 => ?_)
    have pr37 := gEl.pt fh36 tx (by decide) pr24
    have pr38 := gEl.pt fh36 tx (by decide) pr34
    have pr39 := gUb.pt fh36 tx (by decide) hub35
    have s40 := (fh36 x 7 (fun q => absurd q.2 (by decide))).trans s25
    have s41 := (fh36 pic 0 (fun q => absurd q.2 (by decide))).trans s26
    have s42 := (fh36 bn 2 (fun q => absurd (((tbn).symm.trans (congrArg ty q.1)).trans tx) (by decide))).trans s27
    have s43 := (fh36 pic 8 (fun q => absurd q.2 (by decide))).trans s28
    have s44 := (fh36 b2 4 (fun q => absurd q.2 (by decide))).trans s30
    have s45 := (fh36 b2 8 (fun q => absurd q.2 (by decide))).trans s31
    have s46 := (fh36 x 9 (fun q => absurd q.2 (by decide))).trans s32
    have s47 := (fh36 x 8 (fun q => absurd q.2 (by decide))).trans s33
    exact gz_end (I := .return_) (len := 1) rfl (Or.inl rfl) ⟨sh36, us + 1, rfl, eh36, (by omega), (by omega), (by omega), pr39⟩
set_option maxRecDepth 20000 in
set_option maxHeartbeats 4000000 in
theorem cl_ScanReader_listBlocks (d : Nat) {ty : Nat → Nat} {h : gH} (hJ : gJ rT 1027 ty h) (x : Nat) (tx : ty x = 66) (u : Int) (ru : 0 ≤ u ∧ u ≤ 63) (pic : Nat) (epic : h.2.2.2.2 x 7 = .ref pic) (tpic : ty pic = 54) (bn : Nat) (ebn : h.2.2.2.2 pic 0 = .ref bn) (tbn : ty bn = 57) (b0 : Nat) (eb0 : h.2.2.2.2 bn 0 = .ref b0) (tb0 : ty b0 = 82) (b1 : Nat) (eb1 : h.2.2.2.2 bn 1 = .ref b1) (tb1 : ty b1 = 83) (b2 : Nat) (eb2 : h.2.2.2.2 bn 2 = .ref b2) (tb2 : ty b2 = 84) (cn : Int) (ecn : h.2.2.2.2 pic 7 = .int (zi cn)) (rcn : 0 ≤ cn ∧ cn ≤ 3) (uc : Int) (euc : h.2.2.2.2 pic 12 = .int (zi uc)) (ruc : 0 ≤ uc ∧ uc ≤ 8) (ur : Int) (eur : h.2.2.2.2 pic 13 = .int (zi ur)) (rur : 0 ≤ ur ∧ ur ≤ 8) (bl : Int) (ebl : h.2.2.2.2 pic 8 = .int (zi bl)) (rbl : 0 ≤ bl ∧ bl ≤ 192) (hb0 : Int) (ehb0 : h.2.2.2.2 b0 1 = .int (zi hb0)) (rhb0 : (-1) ≤ hb0 ∧ hb0 ≤ 15) (vb0 : Int) (evb0 : h.2.2.2.2 b0 2 = .int (zi vb0)) (rvb0 : 0 ≤ vb0 ∧ vb0 ≤ 15) (C0 : Int) (eC0 : h.2.2.2.2 b0 4 = .int (zi C0)) (rC0 : 0 ≤ C0 ∧ C0 ≤ 16) (R0 : Int) (eR0 : h.2.2.2.2 b0 5 = .int (zi R0)) (rR0 : 0 ≤ R0 ∧ R0 ≤ 16) (oc0 : Int) (eoc0 : h.2.2.2.2 b0 6 = .int (zi oc0)) (roc0 : 0 ≤ oc0 ∧ oc0 ≤ 16) (or0 : Int) (eor0 : h.2.2.2.2 b0 7 = .int (zi or0)) (ror0 : 0 ≤ or0 ∧ or0 ≤ 16) (f0 : Int) (ef0 : h.2.2.2.2 b0 8 = .int (zi f0)) (rf0 : 0 ≤ f0 ∧ f0 ≤ 192) (hb1 : Int) (ehb1 : h.2.2.2.2 b1 1 = .int (zi hb1)) (rhb1 : (-1) ≤ hb1 ∧ hb1 ≤ 15) (vb1 : Int) (evb1 : h.2.2.2.2 b1 2 = .int (zi vb1)) (rvb1 : 0 ≤ vb1 ∧ vb1 ≤ 15) (C1 : Int) (eC1 : h.2.2.2.2 b1 4 = .int (zi C1)) (rC1 : 0 ≤ C1 ∧ C1 ≤ 16) (R1 : Int) (eR1 : h.2.2.2.2 b1 5 = .int (zi R1)) (rR1 : 0 ≤ R1 ∧ R1 ≤ 16) (oc1 : Int) (eoc1 : h.2.2.2.2 b1 6 = .int (zi oc1)) (roc1 : 0 ≤ oc1 ∧ oc1 ≤ 16) (or1 : Int) (eor1 : h.2.2.2.2 b1 7 = .int (zi or1)) (ror1 : 0 ≤ or1 ∧ or1 ≤ 16) (f1 : Int) (ef1 : h.2.2.2.2 b1 8 = .int (zi f1)) (rf1 : 0 ≤ f1 ∧ f1 ≤ 192) (hb2 : Int) (ehb2 : h.2.2.2.2 b2 1 = .int (zi hb2)) (rhb2 : (-1) ≤ hb2 ∧ hb2 ≤ 15) (vb2 : Int) (evb2 : h.2.2.2.2 b2 2 = .int (zi vb2)) (rvb2 : 0 ≤ vb2 ∧ vb2 ≤ 15) (C2 : Int) (eC2 : h.2.2.2.2 b2 4 = .int (zi C2)) (rC2 : 0 ≤ C2 ∧ C2 ≤ 16) (R2 : Int) (eR2 : h.2.2.2.2 b2 5 = .int (zi R2)) (rR2 : 0 ≤ R2 ∧ R2 ≤ 16) (oc2 : Int) (eoc2 : h.2.2.2.2 b2 6 = .int (zi oc2)) (roc2 : 0 ≤ oc2 ∧ oc2 ≤ 16) (or2 : Int) (eor2 : h.2.2.2.2 b2 7 = .int (zi or2)) (ror2 : 0 ≤ or2 ∧ or2 ≤ 16) (f2 : Int) (ef2 : h.2.2.2.2 b2 8 = .int (zi f2)) (rf2 : 0 ≤ f2 ∧ f2 ≤ 192) (sg : Int) (esg : h.2.2.2.2 x 11 = .int (zi sg)) (rsg : 0 ≤ sg ∧ sg ≤ 1) (sb : Int) (esb : h.2.2.2.2 x 12 = .int (zi sb)) (rsb : 0 ≤ sb ∧ sb ≤ 2) (pp0 : sg = 1 → sb = 0 → u < oc0 * or0) (pp1 : sg = 1 → sb = 1 → u < oc1 * or1) (pp2 : sg = 1 → sb = 2 → u < oc2 * or2) (pp3 : ¬ sg = 1 → u < uc * ur) (pp4 : sg = 1 → sb < cn) (uq : gUq ty) (hypq0 : 0 < cn → gPq uc ur hb0 vb0 C0 R0 oc0 or0 f0 bl) (hypq1 : 1 < cn → gPq uc ur hb1 vb1 C1 R1 oc1 or1 f1 bl) (hypq2 : 2 < cn → gPq uc ur hb2 vb2 C2 R2 oc2 or2 f2 bl) : gz gPP gGG gcn (d + 1) gt46 0 (gent [.ref x, .int (zi u)] 7) [] h (fun q _ => gSs rT 1027 ty [66010, 69999, 70999] h q.2.2 ∧ ∃ us1 : Int, gfin gt46 q.1 q.2.1 = some none ∧ q.2.2.2.2.2.2 x 10 = .int (zi us1) ∧ 0 ≤ us1 ∧ us1 ≤ 12 ∧ (gUb ty us1 bl q.2.2)) := by
  have hS : gSs rT 1027 ty [66010, 69999, 70999] h h := gSs.rf hJ
  refine gz_s 2 (pc' := 2) (L' := [some (.ref x), some (.int (zi u)), none, none, none, none, none]) (S' := [.int (zi 0), .ref x]) rfl ?_
  refine gs_put rfl (by decide) rfl hS tx rfl rfl rfl rfl (Or.inl rfl) (by decide) (by omega) (by omega) (fun h1 sh1 eh1 fh1 => ?_)
  have s2 := (fh1 x 7 (fun q => absurd q.2 (by decide))).trans epic
  have s3 := (fh1 pic 0 (fun q => absurd q.2 (by decide))).trans ebn
  have s4 := (fh1 bn 0 (fun q => absurd (((tbn).symm.trans (congrArg ty q.1)).trans tx) (by decide))).trans eb0
  have s5 := (fh1 bn 1 (fun q => absurd (((tbn).symm.trans (congrArg ty q.1)).trans tx) (by decide))).trans eb1
  have s6 := (fh1 bn 2 (fun q => absurd (((tbn).symm.trans (congrArg ty q.1)).trans tx) (by decide))).trans eb2
  have s7 := (fh1 pic 7 (fun q => absurd q.2 (by decide))).trans ecn
  have s8 := (fh1 pic 12 (fun q => absurd q.2 (by decide))).trans euc
  have s9 := (fh1 pic 13 (fun q => absurd q.2 (by decide))).trans eur
  have s10 := (fh1 pic 8 (fun q => absurd q.2 (by decide))).trans ebl
  have s11 := (fh1 b0 1 (fun q => absurd q.2 (by decide))).trans ehb0
  have s12 := (fh1 b0 2 (fun q => absurd q.2 (by decide))).trans evb0
  have s13 := (fh1 b0 4 (fun q => absurd q.2 (by decide))).trans eC0
  have s14 := (fh1 b0 5 (fun q => absurd q.2 (by decide))).trans eR0
  have s15 := (fh1 b0 6 (fun q => absurd q.2 (by decide))).trans eoc0
  have s16 := (fh1 b0 7 (fun q => absurd q.2 (by decide))).trans eor0
  have s17 := (fh1 b0 8 (fun q => absurd q.2 (by decide))).trans ef0
  have s18 := (fh1 b1 1 (fun q => absurd q.2 (by decide))).trans ehb1
  have s19 := (fh1 b1 2 (fun q => absurd q.2 (by decide))).trans evb1
  have s20 := (fh1 b1 4 (fun q => absurd q.2 (by decide))).trans eC1
  have s21 := (fh1 b1 5 (fun q => absurd q.2 (by decide))).trans eR1
  have s22 := (fh1 b1 6 (fun q => absurd q.2 (by decide))).trans eoc1
  have s23 := (fh1 b1 7 (fun q => absurd q.2 (by decide))).trans eor1
  have s24 := (fh1 b1 8 (fun q => absurd q.2 (by decide))).trans ef1
  have s25 := (fh1 b2 1 (fun q => absurd q.2 (by decide))).trans ehb2
  have s26 := (fh1 b2 2 (fun q => absurd q.2 (by decide))).trans evb2
  have s27 := (fh1 b2 4 (fun q => absurd q.2 (by decide))).trans eC2
  have s28 := (fh1 b2 5 (fun q => absurd q.2 (by decide))).trans eR2
  have s29 := (fh1 b2 6 (fun q => absurd q.2 (by decide))).trans eoc2
  have s30 := (fh1 b2 7 (fun q => absurd q.2 (by decide))).trans eor2
  have s31 := (fh1 b2 8 (fun q => absurd q.2 (by decide))).trans ef2
  have s32 := (fh1 x 11 (fun q => absurd q.2 (by decide))).trans esg
  have s33 := (fh1 x 12 (fun q => absurd q.2 (by decide))).trans esb
  have hub0 : gUb ty 0 bl h1 := gUb.zero
  refine gz_s 1 (pc' := 6) (L' := [some (.ref x), some (.int (zi u)), none, none, none, none, none]) (S' := [.ref x]) rfl ?_
  refine gs_gtk rfl (by decide) rfl sh1.1 tx rfl rfl s32 ?_
  by_cases hc34 : (sg : Int) = 0
  · refine gy_ifT (pc' := 49) rfl (by decide) (by decide) (by omega) hc34 ?_
    refine gz_s 2 (pc' := 51) (L' := [some (.ref x), some (.int (zi u)), none, none, none, none, none]) (S' := [.ref x, .int (zi 1)]) rfl ?_
    refine gs_gtk rfl (by decide) rfl sh1.1 tx rfl rfl s2 ?_
    refine gs_gtk rfl (by decide) rfl sh1.1 tpic rfl rfl s8 ?_
    refine gz_call rfl (by decide) rfl (by decide) (by decide) (gcal_of rfl rfl rfl (Nat.le_of_ble_eq_true rfl) rfl) (cl_Math_max _ sh1.1 1 (by omega) uc (by omega) ) (fun q35 _ wq35 => ?_)
    obtain ⟨pq35, oq35, hq35⟩ := q35
    obtain ⟨xq35, zq35, gq35, aq35, bq35, uq35_0, uq35_1, uq35_2⟩ := wq35
    refine ⟨_, gq35, ?_⟩
    show gz gPP gGG gcn _ _ 60 [some (.ref x), some (.int (zi u)), none, none, none, none, none] [.int (zi zq35)] hq35 _
    have sq35 : gSs rT 1027 ty [66010, 69999, 70999] h hq35 := gSs.tr sh1 xq35 (by decide)
    have s36 := (xq35.2.2.2.2.2 x 7 (by rw [tx]; decide)).trans s2
    have s37 := (xq35.2.2.2.2.2 pic 0 (by rw [tpic]; decide)).trans s3
    have s38 := (xq35.2.2.2.2.2 bn 0 (by rw [tbn]; decide)).trans s4
    have s39 := (xq35.2.2.2.2.2 bn 1 (by rw [tbn]; decide)).trans s5
    have s40 := (xq35.2.2.2.2.2 bn 2 (by rw [tbn]; decide)).trans s6
    have s41 := (xq35.2.2.2.2.2 pic 7 (by rw [tpic]; decide)).trans s7
    have s42 := (xq35.2.2.2.2.2 pic 12 (by rw [tpic]; decide)).trans s8
    have s43 := (xq35.2.2.2.2.2 pic 13 (by rw [tpic]; decide)).trans s9
    have s44 := (xq35.2.2.2.2.2 pic 8 (by rw [tpic]; decide)).trans s10
    have s45 := (xq35.2.2.2.2.2 b0 1 (by rw [tb0]; decide)).trans s11
    have s46 := (xq35.2.2.2.2.2 b0 2 (by rw [tb0]; decide)).trans s12
    have s47 := (xq35.2.2.2.2.2 b0 4 (by rw [tb0]; decide)).trans s13
    have s48 := (xq35.2.2.2.2.2 b0 5 (by rw [tb0]; decide)).trans s14
    have s49 := (xq35.2.2.2.2.2 b0 6 (by rw [tb0]; decide)).trans s15
    have s50 := (xq35.2.2.2.2.2 b0 7 (by rw [tb0]; decide)).trans s16
    have s51 := (xq35.2.2.2.2.2 b0 8 (by rw [tb0]; decide)).trans s17
    have s52 := (xq35.2.2.2.2.2 b1 1 (by rw [tb1]; decide)).trans s18
    have s53 := (xq35.2.2.2.2.2 b1 2 (by rw [tb1]; decide)).trans s19
    have s54 := (xq35.2.2.2.2.2 b1 4 (by rw [tb1]; decide)).trans s20
    have s55 := (xq35.2.2.2.2.2 b1 5 (by rw [tb1]; decide)).trans s21
    have s56 := (xq35.2.2.2.2.2 b1 6 (by rw [tb1]; decide)).trans s22
    have s57 := (xq35.2.2.2.2.2 b1 7 (by rw [tb1]; decide)).trans s23
    have s58 := (xq35.2.2.2.2.2 b1 8 (by rw [tb1]; decide)).trans s24
    have s59 := (xq35.2.2.2.2.2 b2 1 (by rw [tb2]; decide)).trans s25
    have s60 := (xq35.2.2.2.2.2 b2 2 (by rw [tb2]; decide)).trans s26
    have s61 := (xq35.2.2.2.2.2 b2 4 (by rw [tb2]; decide)).trans s27
    have s62 := (xq35.2.2.2.2.2 b2 5 (by rw [tb2]; decide)).trans s28
    have s63 := (xq35.2.2.2.2.2 b2 6 (by rw [tb2]; decide)).trans s29
    have s64 := (xq35.2.2.2.2.2 b2 7 (by rw [tb2]; decide)).trans s30
    have s65 := (xq35.2.2.2.2.2 b2 8 (by rw [tb2]; decide)).trans s31
    have s66 := (xq35.2.2.2.2.2 x 11 (by rw [tx]; decide)).trans s32
    have s67 := (xq35.2.2.2.2.2 x 12 (by rw [tx]; decide)).trans s33
    have s68 := (xq35.2.2.2.2.2 x 10 (by rw [tx]; decide)).trans eh1
    have pr69 := gUb.fr xq35.2 (by decide) hub0
    refine gz_s 3 (pc' := 63) (L' := [some (.ref x), some (.int (zi u)), some (.int (zi zq35)), some (.int (zi 0)), none, none, none]) (S' := []) rfl ?_
    have lp70 : ∀ (fu : Nat) (h71 : gH) (n : Int) (uv : Int), (4 - n).toNat < fu → gSs rT 1027 ty [66010, 69999, 70999] h h71 → (0 ≤ n ∧ n ≤ 3) → (0 ≤ uv ∧ uv ≤ 12) → (n ≤ cn) → h71.2.2.2.2 x 7 = .ref pic → h71.2.2.2.2 pic 0 = .ref bn → h71.2.2.2.2 bn 0 = .ref b0 → h71.2.2.2.2 bn 1 = .ref b1 → h71.2.2.2.2 bn 2 = .ref b2 → h71.2.2.2.2 pic 7 = .int (zi cn) → h71.2.2.2.2 pic 12 = .int (zi uc) → h71.2.2.2.2 pic 13 = .int (zi ur) → h71.2.2.2.2 pic 8 = .int (zi bl) → h71.2.2.2.2 b0 1 = .int (zi hb0) → h71.2.2.2.2 b0 2 = .int (zi vb0) → h71.2.2.2.2 b0 4 = .int (zi C0) → h71.2.2.2.2 b0 5 = .int (zi R0) → h71.2.2.2.2 b0 6 = .int (zi oc0) → h71.2.2.2.2 b0 7 = .int (zi or0) → h71.2.2.2.2 b0 8 = .int (zi f0) → h71.2.2.2.2 b1 1 = .int (zi hb1) → h71.2.2.2.2 b1 2 = .int (zi vb1) → h71.2.2.2.2 b1 4 = .int (zi C1) → h71.2.2.2.2 b1 5 = .int (zi R1) → h71.2.2.2.2 b1 6 = .int (zi oc1) → h71.2.2.2.2 b1 7 = .int (zi or1) → h71.2.2.2.2 b1 8 = .int (zi f1) → h71.2.2.2.2 b2 1 = .int (zi hb2) → h71.2.2.2.2 b2 2 = .int (zi vb2) → h71.2.2.2.2 b2 4 = .int (zi C2) → h71.2.2.2.2 b2 5 = .int (zi R2) → h71.2.2.2.2 b2 6 = .int (zi oc2) → h71.2.2.2.2 b2 7 = .int (zi or2) → h71.2.2.2.2 b2 8 = .int (zi f2) → h71.2.2.2.2 x 11 = .int (zi sg) → h71.2.2.2.2 x 12 = .int (zi sb) → h71.2.2.2.2 x 10 = .int (zi uv) → (0 < cn → gPq uc ur hb0 vb0 C0 R0 oc0 or0 f0 bl) → (1 < cn → gPq uc ur hb1 vb1 C1 R1 oc1 or1 f1 bl) → (2 < cn → gPq uc ur hb2 vb2 C2 R2 oc2 or2 f2 bl) → gUb ty uv bl h71 → gz gPP gGG gcn (d + 1) gt46 63 [some (.ref x), some (.int (zi u)), some (.int (zi zq35)), some (.int (zi n)), none, none, none] [] h71 (fun q _ => gSs rT 1027 ty [66010, 69999, 70999] h q.2.2 ∧ ∃ us1 : Int, gfin gt46 q.1 q.2.1 = some none ∧ q.2.2.2.2.2.2 x 10 = .int (zi us1) ∧ 0 ≤ us1 ∧ us1 ≤ 12 ∧ (gUb ty us1 bl q.2.2)) := by
      intro fu
      induction fu with
      | zero => intro h71 n uv hm; exact absurd hm (Nat.not_lt_zero _)
      | succ fu ihlp70 =>
        intro h71 n uv lp70m sh71 lp70f0 lp70f1 lp70f2 lp70k0 lp70k1 lp70k2 lp70k3 lp70k4 lp70k5 lp70k6 lp70k7 lp70k8 lp70k9 lp70k10 lp70k11 lp70k12 lp70k13 lp70k14 lp70k15 lp70k16 lp70k17 lp70k18 lp70k19 lp70k20 lp70k21 lp70k22 lp70k23 lp70k24 lp70k25 lp70k26 lp70k27 lp70k28 lp70k29 lp70k30 lp70k31 lp70k32 lp70k33 lp70k34 lp70k35 lp70k36
        refine gz_s 2 (pc' := 65) (L' := [some (.ref x), some (.int (zi u)), some (.int (zi zq35)), some (.int (zi n)), none, none, none]) (S' := [.ref x, .int (zi n)]) rfl ?_
        refine gs_gtk rfl (by decide) rfl sh71.1 tx rfl rfl lp70k0 ?_
        refine gs_gtk rfl (by decide) rfl sh71.1 tpic rfl rfl lp70k5 ?_
        by_cases hc72 : (cn : Int) ≤ n
        · refine gy_icT (pc' := 161) rfl (by decide) (by decide) (by omega) (by omega) hc72 ?_
          exact gz_end (I := .return_) (len := 1) rfl (Or.inl rfl) ⟨sh71, uv, rfl, lp70k32, (by omega), (by omega), lp70k36⟩
        · refine gy_icF rfl (by decide) (by decide) (by omega) (by omega) hc72 ?_
          refine gz_s 1 (pc' := 75) (L' := [some (.ref x), some (.int (zi u)), some (.int (zi zq35)), some (.int (zi n)), none, none, none]) (S' := [.ref x]) rfl ?_
          refine gs_gtk rfl (by decide) rfl sh71.1 tx rfl rfl lp70k0 ?_
          refine gs_gtk rfl (by decide) rfl sh71.1 tpic rfl rfl lp70k1 ?_
          refine gz_s 1 (pc' := 82) (L' := [some (.ref x), some (.int (zi u)), some (.int (zi zq35)), some (.int (zi n)), none, none, none]) (S' := [.int (zi n), .ref bn]) rfl ?_
          rcases (by omega : n = 0 ∨ n = 1 ∨ n = 2) with he75 | he75 | he75
          · refine gs_aak (j := 0) rfl (by decide) sh71.1 tbn rfl rfl rfl (by decide) he75 (by decide) lp70k2 ?_
            refine gz_s 1 (pc' := 85) (L' := [some (.ref x), some (.int (zi u)), some (.int (zi zq35)), some (.int (zi n)), some (.ref b0), none, none]) (S' := []) rfl ?_
            have hq76 := lp70k33 (by omega)
            obtain ⟨k0_0, k0_1, k0_2, k0_3, k0_4, k0_5, k0_6, k0_7, k0_8, k0_9, k0_10, k0_11, k0_12, k0_13, k0_14, k0_15, k0_16, k0_17, k0_18⟩ := hq76
            have zx := zx_f (a := hb0) (b := vb0) (A := 2) (B := 2) (by omega) (by omega) (by omega) (by omega)
            refine gz_s 2 (pc' := 88) (L' := [some (.ref x), some (.int (zi u)), some (.int (zi zq35)), some (.int (zi n)), some (.ref b0), some (.int (zi 0)), none]) (S' := []) rfl ?_
            have lp77 : ∀ (fu : Nat) (h78 : gH) (i : Int) (uv2 : Int), (5 - i).toNat < fu → gSs rT 1027 ty [66010, 69999, 70999] h h78 → (0 ≤ i ∧ i ≤ 4) → (0 ≤ uv2 ∧ uv2 ≤ 12) → h78.2.2.2.2 x 7 = .ref pic → h78.2.2.2.2 pic 0 = .ref bn → h78.2.2.2.2 bn 0 = .ref b0 → h78.2.2.2.2 bn 1 = .ref b1 → h78.2.2.2.2 bn 2 = .ref b2 → h78.2.2.2.2 pic 7 = .int (zi cn) → h78.2.2.2.2 pic 12 = .int (zi uc) → h78.2.2.2.2 pic 13 = .int (zi ur) → h78.2.2.2.2 pic 8 = .int (zi bl) → h78.2.2.2.2 b0 1 = .int (zi hb0) → h78.2.2.2.2 b0 2 = .int (zi vb0) → h78.2.2.2.2 b0 4 = .int (zi C0) → h78.2.2.2.2 b0 5 = .int (zi R0) → h78.2.2.2.2 b0 6 = .int (zi oc0) → h78.2.2.2.2 b0 7 = .int (zi or0) → h78.2.2.2.2 b0 8 = .int (zi f0) → h78.2.2.2.2 b1 1 = .int (zi hb1) → h78.2.2.2.2 b1 2 = .int (zi vb1) → h78.2.2.2.2 b1 4 = .int (zi C1) → h78.2.2.2.2 b1 5 = .int (zi R1) → h78.2.2.2.2 b1 6 = .int (zi oc1) → h78.2.2.2.2 b1 7 = .int (zi or1) → h78.2.2.2.2 b1 8 = .int (zi f1) → h78.2.2.2.2 b2 1 = .int (zi hb2) → h78.2.2.2.2 b2 2 = .int (zi vb2) → h78.2.2.2.2 b2 4 = .int (zi C2) → h78.2.2.2.2 b2 5 = .int (zi R2) → h78.2.2.2.2 b2 6 = .int (zi oc2) → h78.2.2.2.2 b2 7 = .int (zi or2) → h78.2.2.2.2 b2 8 = .int (zi f2) → h78.2.2.2.2 x 11 = .int (zi sg) → h78.2.2.2.2 x 12 = .int (zi sb) → h78.2.2.2.2 x 10 = .int (zi uv2) → (0 < cn → gPq uc ur hb0 vb0 C0 R0 oc0 or0 f0 bl) → (1 < cn → gPq uc ur hb1 vb1 C1 R1 oc1 or1 f1 bl) → (2 < cn → gPq uc ur hb2 vb2 C2 R2 oc2 or2 f2 bl) → gUb ty uv2 bl h78 → gz gPP gGG gcn (d + 1) gt46 88 [some (.ref x), some (.int (zi u)), some (.int (zi zq35)), some (.int (zi n)), some (.ref b0), some (.int (zi i)), none] [] h78 (fun q _ => gSs rT 1027 ty [66010, 69999, 70999] h q.2.2 ∧ ∃ us1 : Int, gfin gt46 q.1 q.2.1 = some none ∧ q.2.2.2.2.2.2 x 10 = .int (zi us1) ∧ 0 ≤ us1 ∧ us1 ≤ 12 ∧ (gUb ty us1 bl q.2.2)) := by
              intro fu
              induction fu with
              | zero => intro h78 i uv2 hm; exact absurd hm (Nat.not_lt_zero _)
              | succ fu ihlp77 =>
                intro h78 i uv2 lp77m sh78 lp77f0 lp77f1 lp77k0 lp77k1 lp77k2 lp77k3 lp77k4 lp77k5 lp77k6 lp77k7 lp77k8 lp77k9 lp77k10 lp77k11 lp77k12 lp77k13 lp77k14 lp77k15 lp77k16 lp77k17 lp77k18 lp77k19 lp77k20 lp77k21 lp77k22 lp77k23 lp77k24 lp77k25 lp77k26 lp77k27 lp77k28 lp77k29 lp77k30 lp77k31 lp77k32 lp77k33 lp77k34 lp77k35 lp77k36
                refine gz_s 2 (pc' := 92) (L' := [some (.ref x), some (.int (zi u)), some (.int (zi zq35)), some (.int (zi n)), some (.ref b0), some (.int (zi i)), none]) (S' := [.ref b0, .int (zi i)]) rfl ?_
                refine gs_gtk rfl (by decide) rfl sh78.1 tb0 rfl rfl lp77k9 ?_
                refine gz_s 1 (pc' := 97) (L' := [some (.ref x), some (.int (zi u)), some (.int (zi zq35)), some (.int (zi n)), some (.ref b0), some (.int (zi i)), none]) (S' := [.ref b0, .int (zi hb0), .int (zi i)]) rfl ?_
                refine gs_gtk rfl (by decide) rfl sh78.1 tb0 rfl rfl lp77k10 ?_
                have hx79 := zx_f (a := hb0) (b := vb0) (A := 2) (B := 2) (by omega) (by omega) (by omega) (by omega)
                refine gy_s 1 (pc' := 101) (L' := [some (.ref x), some (.int (zi u)), some (.int (zi zq35)), some (.int (zi n)), some (.ref b0), some (.int (zi i)), none]) (S' := [.int ((zi hb0) * (zi vb0)), .int (zi i)]) (L2 := [some (.ref x), some (.int (zi u)), some (.int (zi zq35)), some (.int (zi n)), some (.ref b0), some (.int (zi i)), none]) (S2 := [.int (zi (hb0 * vb0)), .int (zi i)]) rfl (by simp only [zi_add, zi_sub, zi_mul, zi_neg, zi_and1, zi_and7, zi_and15, zi_and31, zi_and255]) (by simp only [zi_add, zi_sub, zi_mul, zi_neg, zi_and1, zi_and7, zi_and15, zi_and31, zi_and255]) ?_
                by_cases hc80 : (hb0 * vb0 : Int) ≤ i
                · refine gy_icT (pc' := 155) rfl (by decide) (by decide) (by omega) (by omega) hc80 ?_
                  refine gy_s 2 (pc' := 63) (L' := [some (.ref x), some (.int (zi u)), some (.int (zi zq35)), some (.int ((zi n) + zi 1)), some (.ref b0), some (.int (zi i)), none]) (S' := []) (L2 := [some (.ref x), some (.int (zi u)), some (.int (zi zq35)), some (.int (zi (n + 1))), some (.ref b0), some (.int (zi i)), none]) (S2 := []) rfl (by simp only [zi_add, zi_sub, zi_mul, zi_neg, zi_and1, zi_and7, zi_and15, zi_and31, zi_and255]) (by simp only [zi_add, zi_sub, zi_mul, zi_neg, zi_and1, zi_and7, zi_and15, zi_and31, zi_and255]) ?_
                  exact gz_wk (ihlp70 h78 (n + 1) uv2 (by omega) sh78 (by omega) (by omega) (by omega) lp77k0 lp77k1 lp77k2 lp77k3 lp77k4 lp77k5 lp77k6 lp77k7 lp77k8 lp77k9 lp77k10 lp77k11 lp77k12 lp77k13 lp77k14 lp77k15 lp77k16 lp77k17 lp77k18 lp77k19 lp77k20 lp77k21 lp77k22 lp77k23 lp77k24 lp77k25 lp77k26 lp77k27 lp77k28 lp77k29 lp77k30 lp77k31 lp77k32 lp77k33 lp77k34 lp77k35 lp77k36) (gLw.s (gLw.s (gLw.s (gLw.s (gLw.n (gLw.n (gLw.n gLw.z)))))))
                · refine gy_icF rfl (by decide) (by decide) (by omega) (by omega) hc80 ?_
                  have zz := zc2 (u := u) (k := i) (A := zq35) (B := ur) (C := C0) (R := R0) (f := f0) (hb := hb0) (vb := vb0) (bl := bl) (by omega) (by rw [(by omega : zq35 = uc)]; omega) (by omega) (by omega) (by omega) (by omega) (by omega) (by rw [(by omega : zq35 = uc)]; omega) (by omega) (by omega) (by omega)
                  refine gz_s 2 (pc' := 106) (L' := [some (.ref x), some (.int (zi u)), some (.int (zi zq35)), some (.int (zi n)), some (.ref b0), some (.int (zi i)), none]) (S' := [.int (zi zq35), .int (zi u)]) rfl ?_
                  refine gy_rem rfl (by decide) (by omega) (by omega) ?_
                  have hd81 := zm_f (x := u) (y := zq35) (by omega) (by omega)
                  refine gz_s 1 (pc' := 109) (L' := [some (.ref x), some (.int (zi u)), some (.int (zi zq35)), some (.int (zi n)), some (.ref b0), some (.int (zi i)), none]) (S' := [.ref b0, .int (zi (u % zq35))]) rfl ?_
                  refine gs_gtk rfl (by decide) rfl sh78.1 tb0 rfl rfl lp77k9 ?_
                  have hx82 := zx_f (a := u % zq35) (b := hb0) (A := 7) (B := 2) (by omega) (by omega) (by omega) (by omega)
                  refine gy_s 3 (pc' := 117) (L' := [some (.ref x), some (.int (zi u)), some (.int (zi zq35)), some (.int (zi n)), some (.ref b0), some (.int (zi i)), none]) (S' := [.ref b0, .int (zi i), .int ((zi (u % zq35)) * (zi hb0))]) (L2 := [some (.ref x), some (.int (zi u)), some (.int (zi zq35)), some (.int (zi n)), some (.ref b0), some (.int (zi i)), none]) (S2 := [.ref b0, .int (zi i), .int (zi ((u % zq35) * hb0))]) rfl (by simp only [zi_add, zi_sub, zi_mul, zi_neg, zi_and1, zi_and7, zi_and15, zi_and31, zi_and255]) (by simp only [zi_add, zi_sub, zi_mul, zi_neg, zi_and1, zi_and7, zi_and15, zi_and31, zi_and255]) ?_
                  refine gs_gtk rfl (by decide) rfl sh78.1 tb0 rfl rfl lp77k9 ?_
                  refine gy_rem rfl (by decide) (by omega) (by omega) ?_
                  have hd83 := zm_f (x := i) (y := hb0) (by omega) (by omega)
                  refine gy_s 7 (pc' := 130) (L' := [some (.ref x), some (.int (zi u)), some (.int (zi zq35)), some (.int (zi n)), some (.ref b0), some (.int (zi i)), some (.int ((zi ((u % zq35) * hb0)) + (zi (i % hb0))))]) (S' := [.int (zi zq35), .int (zi u), .int ((zi ((u % zq35) * hb0)) + (zi (i % hb0))), .int (zi n), .ref x]) (L2 := [some (.ref x), some (.int (zi u)), some (.int (zi zq35)), some (.int (zi n)), some (.ref b0), some (.int (zi i)), some (.int (zi (((u % zq35) * hb0) + (i % hb0))))]) (S2 := [.int (zi zq35), .int (zi u), .int (zi (((u % zq35) * hb0) + (i % hb0))), .int (zi n), .ref x]) rfl (by simp only [zi_add, zi_sub, zi_mul, zi_neg, zi_and1, zi_and7, zi_and15, zi_and31, zi_and255]) (by simp only [zi_add, zi_sub, zi_mul, zi_neg, zi_and1, zi_and7, zi_and15, zi_and31, zi_and255]) ?_
                  refine gy_div rfl (by decide) (by omega) (by omega) ?_
                  have hd84 := zd_f (x := u) (y := zq35) (by omega) (by omega)
                  refine gz_s 1 (pc' := 133) (L' := [some (.ref x), some (.int (zi u)), some (.int (zi zq35)), some (.int (zi n)), some (.ref b0), some (.int (zi i)), some (.int (zi (((u % zq35) * hb0) + (i % hb0))))]) (S' := [.ref b0, .int (zi (u / zq35)), .int (zi (((u % zq35) * hb0) + (i % hb0))), .int (zi n), .ref x]) rfl ?_
                  refine gs_gtk rfl (by decide) rfl sh78.1 tb0 rfl rfl lp77k10 ?_
                  have hx85 := zx_f (a := u / zq35) (b := vb0) (A := 63) (B := 2) (by omega) (by omega) (by omega) (by omega)
                  refine gy_s 3 (pc' := 141) (L' := [some (.ref x), some (.int (zi u)), some (.int (zi zq35)), some (.int (zi n)), some (.ref b0), some (.int (zi i)), some (.int (zi (((u % zq35) * hb0) + (i % hb0))))]) (S' := [.ref b0, .int (zi i), .int ((zi (u / zq35)) * (zi vb0)), .int (zi (((u % zq35) * hb0) + (i % hb0))), .int (zi n), .ref x]) (L2 := [some (.ref x), some (.int (zi u)), some (.int (zi zq35)), some (.int (zi n)), some (.ref b0), some (.int (zi i)), some (.int (zi (((u % zq35) * hb0) + (i % hb0))))]) (S2 := [.ref b0, .int (zi i), .int (zi ((u / zq35) * vb0)), .int (zi (((u % zq35) * hb0) + (i % hb0))), .int (zi n), .ref x]) rfl (by simp only [zi_add, zi_sub, zi_mul, zi_neg, zi_and1, zi_and7, zi_and15, zi_and31, zi_and255]) (by simp only [zi_add, zi_sub, zi_mul, zi_neg, zi_and1, zi_and7, zi_and15, zi_and31, zi_and255]) ?_
                  refine gs_gtk rfl (by decide) rfl sh78.1 tb0 rfl rfl lp77k9 ?_
                  refine gy_div rfl (by decide) (by omega) (by omega) ?_
                  have hd86 := zd_f (x := i) (y := hb0) (by omega) (by omega)
                  refine gy_s 1 (pc' := 146) (L' := [some (.ref x), some (.int (zi u)), some (.int (zi zq35)), some (.int (zi n)), some (.ref b0), some (.int (zi i)), some (.int (zi (((u % zq35) * hb0) + (i % hb0))))]) (S' := [.int ((zi ((u / zq35) * vb0)) + (zi (i / hb0))), .int (zi (((u % zq35) * hb0) + (i % hb0))), .int (zi n), .ref x]) (L2 := [some (.ref x), some (.int (zi u)), some (.int (zi zq35)), some (.int (zi n)), some (.ref b0), some (.int (zi i)), some (.int (zi (((u % zq35) * hb0) + (i % hb0))))]) (S2 := [.int (zi (((u / zq35) * vb0) + (i / hb0))), .int (zi (((u % zq35) * hb0) + (i % hb0))), .int (zi n), .ref x]) rfl (by simp only [zi_add, zi_sub, zi_mul, zi_neg, zi_and1, zi_and7, zi_and15, zi_and31, zi_and255]) (by simp only [zi_add, zi_sub, zi_mul, zi_neg, zi_and1, zi_and7, zi_and15, zi_and31, zi_and255]) ?_
                  refine gz_call rfl (by decide) rfl (by decide) (by decide) (gcal_of rfl rfl rfl (Nat.le_of_ble_eq_true rfl) (gJ.recv (G := gGG) sh78.1 tx rfl rfl)) (cl_listBlock0 _ sh78.1 x tx n (by omega) (((u % zq35) * hb0) + (i % hb0)) (by omega) (((u / zq35) * vb0) + (i / hb0)) (by omega) pic lp77k0 tpic bn lp77k1 tbn b0 lp77k2 tb0 bl lp77k8 (by omega) uv2 lp77k32 (by omega) C0 lp77k11 (by omega) f0 lp77k15 (by omega) (by omega) (by omega) (by omega) uq lp77k36) (fun q87 _ wq87 => ?_)
                  obtain ⟨pq87, oq87, hq87⟩ := q87
                  obtain ⟨xq87, fq87_0, gq87, efq87_0, afq87_0, bfq87_0, uq87_0, yq87_0⟩ := wq87
                  refine ⟨_, gq87, ?_⟩
                  show gz gPP gGG gcn _ _ 149 [some (.ref x), some (.int (zi u)), some (.int (zi zq35)), some (.int (zi n)), some (.ref b0), some (.int (zi i)), some (.int (zi (((u % zq35) * hb0) + (i % hb0))))] [] hq87 _
                  have sq87 : gSs rT 1027 ty [66010, 69999, 70999] h hq87 := gSs.tr sh78 xq87 (by decide)
                  have s88 := (xq87.2.2.2.2.2 x 7 (by rw [tx]; decide)).trans lp77k0
                  have s89 := (xq87.2.2.2.2.2 pic 0 (by rw [tpic]; decide)).trans lp77k1
                  have s90 := (xq87.2.2.2.2.2 bn 0 (by rw [tbn]; decide)).trans lp77k2
                  have s91 := (xq87.2.2.2.2.2 bn 1 (by rw [tbn]; decide)).trans lp77k3
                  have s92 := (xq87.2.2.2.2.2 bn 2 (by rw [tbn]; decide)).trans lp77k4
                  have s93 := (xq87.2.2.2.2.2 pic 7 (by rw [tpic]; decide)).trans lp77k5
                  have s94 := (xq87.2.2.2.2.2 pic 12 (by rw [tpic]; decide)).trans lp77k6
                  have s95 := (xq87.2.2.2.2.2 pic 13 (by rw [tpic]; decide)).trans lp77k7
                  have s96 := (xq87.2.2.2.2.2 pic 8 (by rw [tpic]; decide)).trans lp77k8
                  have s97 := (xq87.2.2.2.2.2 b0 1 (by rw [tb0]; decide)).trans lp77k9
                  have s98 := (xq87.2.2.2.2.2 b0 2 (by rw [tb0]; decide)).trans lp77k10
                  have s99 := (xq87.2.2.2.2.2 b0 4 (by rw [tb0]; decide)).trans lp77k11
                  have s100 := (xq87.2.2.2.2.2 b0 5 (by rw [tb0]; decide)).trans lp77k12
                  have s101 := (xq87.2.2.2.2.2 b0 6 (by rw [tb0]; decide)).trans lp77k13
                  have s102 := (xq87.2.2.2.2.2 b0 7 (by rw [tb0]; decide)).trans lp77k14
                  have s103 := (xq87.2.2.2.2.2 b0 8 (by rw [tb0]; decide)).trans lp77k15
                  have s104 := (xq87.2.2.2.2.2 b1 1 (by rw [tb1]; decide)).trans lp77k16
                  have s105 := (xq87.2.2.2.2.2 b1 2 (by rw [tb1]; decide)).trans lp77k17
                  have s106 := (xq87.2.2.2.2.2 b1 4 (by rw [tb1]; decide)).trans lp77k18
                  have s107 := (xq87.2.2.2.2.2 b1 5 (by rw [tb1]; decide)).trans lp77k19
                  have s108 := (xq87.2.2.2.2.2 b1 6 (by rw [tb1]; decide)).trans lp77k20
                  have s109 := (xq87.2.2.2.2.2 b1 7 (by rw [tb1]; decide)).trans lp77k21
                  have s110 := (xq87.2.2.2.2.2 b1 8 (by rw [tb1]; decide)).trans lp77k22
                  have s111 := (xq87.2.2.2.2.2 b2 1 (by rw [tb2]; decide)).trans lp77k23
                  have s112 := (xq87.2.2.2.2.2 b2 2 (by rw [tb2]; decide)).trans lp77k24
                  have s113 := (xq87.2.2.2.2.2 b2 4 (by rw [tb2]; decide)).trans lp77k25
                  have s114 := (xq87.2.2.2.2.2 b2 5 (by rw [tb2]; decide)).trans lp77k26
                  have s115 := (xq87.2.2.2.2.2 b2 6 (by rw [tb2]; decide)).trans lp77k27
                  have s116 := (xq87.2.2.2.2.2 b2 7 (by rw [tb2]; decide)).trans lp77k28
                  have s117 := (xq87.2.2.2.2.2 b2 8 (by rw [tb2]; decide)).trans lp77k29
                  have s118 := (xq87.2.2.2.2.2 x 11 (by rw [tx]; decide)).trans lp77k30
                  have s119 := (xq87.2.2.2.2.2 x 12 (by rw [tx]; decide)).trans lp77k31
                  refine gy_s 2 (pc' := 88) (L' := [some (.ref x), some (.int (zi u)), some (.int (zi zq35)), some (.int (zi n)), some (.ref b0), some (.int ((zi i) + zi 1)), some (.int (zi (((u % zq35) * hb0) + (i % hb0))))]) (S' := []) (L2 := [some (.ref x), some (.int (zi u)), some (.int (zi zq35)), some (.int (zi n)), some (.ref b0), some (.int (zi (i + 1))), some (.int (zi (((u % zq35) * hb0) + (i % hb0))))]) (S2 := []) rfl (by simp only [zi_add, zi_sub, zi_mul, zi_neg, zi_and1, zi_and7, zi_and15, zi_and31, zi_and255]) (by simp only [zi_add, zi_sub, zi_mul, zi_neg, zi_and1, zi_and7, zi_and15, zi_and31, zi_and255]) ?_
                  exact gz_wk (ihlp77 hq87 (i + 1) fq87_0 (by omega) sq87 (by omega) (by omega) s88 s89 s90 s91 s92 s93 s94 s95 s96 s97 s98 s99 s100 s101 s102 s103 s104 s105 s106 s107 s108 s109 s110 s111 s112 s113 s114 s115 s116 s117 s118 s119 efq87_0 lp77k33 lp77k34 lp77k35 yq87_0) (gLw.s (gLw.s (gLw.s (gLw.s (gLw.s (gLw.s (gLw.n gLw.z)))))))
            exact gz_wk (lp77 _ h71 0 uv (Nat.lt_succ_self _) sh71 (by omega) (by omega) lp70k0 lp70k1 lp70k2 lp70k3 lp70k4 lp70k5 lp70k6 lp70k7 lp70k8 lp70k9 lp70k10 lp70k11 lp70k12 lp70k13 lp70k14 lp70k15 lp70k16 lp70k17 lp70k18 lp70k19 lp70k20 lp70k21 lp70k22 lp70k23 lp70k24 lp70k25 lp70k26 lp70k27 lp70k28 lp70k29 lp70k30 lp70k31 lp70k32 lp70k33 lp70k34 lp70k35 lp70k36) (gLw.s (gLw.s (gLw.s (gLw.s (gLw.s (gLw.s (gLw.n gLw.z)))))))
          · refine gs_aak (j := 1) rfl (by decide) sh71.1 tbn rfl rfl rfl (by decide) he75 (by decide) lp70k3 ?_
            refine gz_s 1 (pc' := 85) (L' := [some (.ref x), some (.int (zi u)), some (.int (zi zq35)), some (.int (zi n)), some (.ref b1), none, none]) (S' := []) rfl ?_
            have hq120 := lp70k34 (by omega)
            obtain ⟨k1_0, k1_1, k1_2, k1_3, k1_4, k1_5, k1_6, k1_7, k1_8, k1_9, k1_10, k1_11, k1_12, k1_13, k1_14, k1_15, k1_16, k1_17, k1_18⟩ := hq120
            have zx := zx_f (a := hb1) (b := vb1) (A := 2) (B := 2) (by omega) (by omega) (by omega) (by omega)
            refine gz_s 2 (pc' := 88) (L' := [some (.ref x), some (.int (zi u)), some (.int (zi zq35)), some (.int (zi n)), some (.ref b1), some (.int (zi 0)), none]) (S' := []) rfl ?_
            have lp121 : ∀ (fu : Nat) (h122 : gH) (i : Int) (uv2 : Int), (5 - i).toNat < fu → gSs rT 1027 ty [66010, 69999, 70999] h h122 → (0 ≤ i ∧ i ≤ 4) → (0 ≤ uv2 ∧ uv2 ≤ 12) → h122.2.2.2.2 x 7 = .ref pic → h122.2.2.2.2 pic 0 = .ref bn → h122.2.2.2.2 bn 0 = .ref b0 → h122.2.2.2.2 bn 1 = .ref b1 → h122.2.2.2.2 bn 2 = .ref b2 → h122.2.2.2.2 pic 7 = .int (zi cn) → h122.2.2.2.2 pic 12 = .int (zi uc) → h122.2.2.2.2 pic 13 = .int (zi ur) → h122.2.2.2.2 pic 8 = .int (zi bl) → h122.2.2.2.2 b0 1 = .int (zi hb0) → h122.2.2.2.2 b0 2 = .int (zi vb0) → h122.2.2.2.2 b0 4 = .int (zi C0) → h122.2.2.2.2 b0 5 = .int (zi R0) → h122.2.2.2.2 b0 6 = .int (zi oc0) → h122.2.2.2.2 b0 7 = .int (zi or0) → h122.2.2.2.2 b0 8 = .int (zi f0) → h122.2.2.2.2 b1 1 = .int (zi hb1) → h122.2.2.2.2 b1 2 = .int (zi vb1) → h122.2.2.2.2 b1 4 = .int (zi C1) → h122.2.2.2.2 b1 5 = .int (zi R1) → h122.2.2.2.2 b1 6 = .int (zi oc1) → h122.2.2.2.2 b1 7 = .int (zi or1) → h122.2.2.2.2 b1 8 = .int (zi f1) → h122.2.2.2.2 b2 1 = .int (zi hb2) → h122.2.2.2.2 b2 2 = .int (zi vb2) → h122.2.2.2.2 b2 4 = .int (zi C2) → h122.2.2.2.2 b2 5 = .int (zi R2) → h122.2.2.2.2 b2 6 = .int (zi oc2) → h122.2.2.2.2 b2 7 = .int (zi or2) → h122.2.2.2.2 b2 8 = .int (zi f2) → h122.2.2.2.2 x 11 = .int (zi sg) → h122.2.2.2.2 x 12 = .int (zi sb) → h122.2.2.2.2 x 10 = .int (zi uv2) → (0 < cn → gPq uc ur hb0 vb0 C0 R0 oc0 or0 f0 bl) → (1 < cn → gPq uc ur hb1 vb1 C1 R1 oc1 or1 f1 bl) → (2 < cn → gPq uc ur hb2 vb2 C2 R2 oc2 or2 f2 bl) → gUb ty uv2 bl h122 → gz gPP gGG gcn (d + 1) gt46 88 [some (.ref x), some (.int (zi u)), some (.int (zi zq35)), some (.int (zi n)), some (.ref b1), some (.int (zi i)), none] [] h122 (fun q _ => gSs rT 1027 ty [66010, 69999, 70999] h q.2.2 ∧ ∃ us1 : Int, gfin gt46 q.1 q.2.1 = some none ∧ q.2.2.2.2.2.2 x 10 = .int (zi us1) ∧ 0 ≤ us1 ∧ us1 ≤ 12 ∧ (gUb ty us1 bl q.2.2)) := by
              intro fu
              induction fu with
              | zero => intro h122 i uv2 hm; exact absurd hm (Nat.not_lt_zero _)
              | succ fu ihlp121 =>
                intro h122 i uv2 lp121m sh122 lp121f0 lp121f1 lp121k0 lp121k1 lp121k2 lp121k3 lp121k4 lp121k5 lp121k6 lp121k7 lp121k8 lp121k9 lp121k10 lp121k11 lp121k12 lp121k13 lp121k14 lp121k15 lp121k16 lp121k17 lp121k18 lp121k19 lp121k20 lp121k21 lp121k22 lp121k23 lp121k24 lp121k25 lp121k26 lp121k27 lp121k28 lp121k29 lp121k30 lp121k31 lp121k32 lp121k33 lp121k34 lp121k35 lp121k36
                refine gz_s 2 (pc' := 92) (L' := [some (.ref x), some (.int (zi u)), some (.int (zi zq35)), some (.int (zi n)), some (.ref b1), some (.int (zi i)), none]) (S' := [.ref b1, .int (zi i)]) rfl ?_
                refine gs_gtk rfl (by decide) rfl sh122.1 tb1 rfl rfl lp121k16 ?_
                refine gz_s 1 (pc' := 97) (L' := [some (.ref x), some (.int (zi u)), some (.int (zi zq35)), some (.int (zi n)), some (.ref b1), some (.int (zi i)), none]) (S' := [.ref b1, .int (zi hb1), .int (zi i)]) rfl ?_
                refine gs_gtk rfl (by decide) rfl sh122.1 tb1 rfl rfl lp121k17 ?_
                have hx123 := zx_f (a := hb1) (b := vb1) (A := 2) (B := 2) (by omega) (by omega) (by omega) (by omega)
                refine gy_s 1 (pc' := 101) (L' := [some (.ref x), some (.int (zi u)), some (.int (zi zq35)), some (.int (zi n)), some (.ref b1), some (.int (zi i)), none]) (S' := [.int ((zi hb1) * (zi vb1)), .int (zi i)]) (L2 := [some (.ref x), some (.int (zi u)), some (.int (zi zq35)), some (.int (zi n)), some (.ref b1), some (.int (zi i)), none]) (S2 := [.int (zi (hb1 * vb1)), .int (zi i)]) rfl (by simp only [zi_add, zi_sub, zi_mul, zi_neg, zi_and1, zi_and7, zi_and15, zi_and31, zi_and255]) (by simp only [zi_add, zi_sub, zi_mul, zi_neg, zi_and1, zi_and7, zi_and15, zi_and31, zi_and255]) ?_
                by_cases hc124 : (hb1 * vb1 : Int) ≤ i
                · refine gy_icT (pc' := 155) rfl (by decide) (by decide) (by omega) (by omega) hc124 ?_
                  refine gy_s 2 (pc' := 63) (L' := [some (.ref x), some (.int (zi u)), some (.int (zi zq35)), some (.int ((zi n) + zi 1)), some (.ref b1), some (.int (zi i)), none]) (S' := []) (L2 := [some (.ref x), some (.int (zi u)), some (.int (zi zq35)), some (.int (zi (n + 1))), some (.ref b1), some (.int (zi i)), none]) (S2 := []) rfl (by simp only [zi_add, zi_sub, zi_mul, zi_neg, zi_and1, zi_and7, zi_and15, zi_and31, zi_and255]) (by simp only [zi_add, zi_sub, zi_mul, zi_neg, zi_and1, zi_and7, zi_and15, zi_and31, zi_and255]) ?_
                  exact gz_wk (ihlp70 h122 (n + 1) uv2 (by omega) sh122 (by omega) (by omega) (by omega) lp121k0 lp121k1 lp121k2 lp121k3 lp121k4 lp121k5 lp121k6 lp121k7 lp121k8 lp121k9 lp121k10 lp121k11 lp121k12 lp121k13 lp121k14 lp121k15 lp121k16 lp121k17 lp121k18 lp121k19 lp121k20 lp121k21 lp121k22 lp121k23 lp121k24 lp121k25 lp121k26 lp121k27 lp121k28 lp121k29 lp121k30 lp121k31 lp121k32 lp121k33 lp121k34 lp121k35 lp121k36) (gLw.s (gLw.s (gLw.s (gLw.s (gLw.n (gLw.n (gLw.n gLw.z)))))))
                · refine gy_icF rfl (by decide) (by decide) (by omega) (by omega) hc124 ?_
                  have zz := zc2 (u := u) (k := i) (A := zq35) (B := ur) (C := C1) (R := R1) (f := f1) (hb := hb1) (vb := vb1) (bl := bl) (by omega) (by rw [(by omega : zq35 = uc)]; omega) (by omega) (by omega) (by omega) (by omega) (by omega) (by rw [(by omega : zq35 = uc)]; omega) (by omega) (by omega) (by omega)
                  refine gz_s 2 (pc' := 106) (L' := [some (.ref x), some (.int (zi u)), some (.int (zi zq35)), some (.int (zi n)), some (.ref b1), some (.int (zi i)), none]) (S' := [.int (zi zq35), .int (zi u)]) rfl ?_
                  refine gy_rem rfl (by decide) (by omega) (by omega) ?_
                  have hd125 := zm_f (x := u) (y := zq35) (by omega) (by omega)
                  refine gz_s 1 (pc' := 109) (L' := [some (.ref x), some (.int (zi u)), some (.int (zi zq35)), some (.int (zi n)), some (.ref b1), some (.int (zi i)), none]) (S' := [.ref b1, .int (zi (u % zq35))]) rfl ?_
                  refine gs_gtk rfl (by decide) rfl sh122.1 tb1 rfl rfl lp121k16 ?_
                  have hx126 := zx_f (a := u % zq35) (b := hb1) (A := 7) (B := 2) (by omega) (by omega) (by omega) (by omega)
                  refine gy_s 3 (pc' := 117) (L' := [some (.ref x), some (.int (zi u)), some (.int (zi zq35)), some (.int (zi n)), some (.ref b1), some (.int (zi i)), none]) (S' := [.ref b1, .int (zi i), .int ((zi (u % zq35)) * (zi hb1))]) (L2 := [some (.ref x), some (.int (zi u)), some (.int (zi zq35)), some (.int (zi n)), some (.ref b1), some (.int (zi i)), none]) (S2 := [.ref b1, .int (zi i), .int (zi ((u % zq35) * hb1))]) rfl (by simp only [zi_add, zi_sub, zi_mul, zi_neg, zi_and1, zi_and7, zi_and15, zi_and31, zi_and255]) (by simp only [zi_add, zi_sub, zi_mul, zi_neg, zi_and1, zi_and7, zi_and15, zi_and31, zi_and255]) ?_
                  refine gs_gtk rfl (by decide) rfl sh122.1 tb1 rfl rfl lp121k16 ?_
                  refine gy_rem rfl (by decide) (by omega) (by omega) ?_
                  have hd127 := zm_f (x := i) (y := hb1) (by omega) (by omega)
                  refine gy_s 7 (pc' := 130) (L' := [some (.ref x), some (.int (zi u)), some (.int (zi zq35)), some (.int (zi n)), some (.ref b1), some (.int (zi i)), some (.int ((zi ((u % zq35) * hb1)) + (zi (i % hb1))))]) (S' := [.int (zi zq35), .int (zi u), .int ((zi ((u % zq35) * hb1)) + (zi (i % hb1))), .int (zi n), .ref x]) (L2 := [some (.ref x), some (.int (zi u)), some (.int (zi zq35)), some (.int (zi n)), some (.ref b1), some (.int (zi i)), some (.int (zi (((u % zq35) * hb1) + (i % hb1))))]) (S2 := [.int (zi zq35), .int (zi u), .int (zi (((u % zq35) * hb1) + (i % hb1))), .int (zi n), .ref x]) rfl (by simp only [zi_add, zi_sub, zi_mul, zi_neg, zi_and1, zi_and7, zi_and15, zi_and31, zi_and255]) (by simp only [zi_add, zi_sub, zi_mul, zi_neg, zi_and1, zi_and7, zi_and15, zi_and31, zi_and255]) ?_
                  refine gy_div rfl (by decide) (by omega) (by omega) ?_
                  have hd128 := zd_f (x := u) (y := zq35) (by omega) (by omega)
                  refine gz_s 1 (pc' := 133) (L' := [some (.ref x), some (.int (zi u)), some (.int (zi zq35)), some (.int (zi n)), some (.ref b1), some (.int (zi i)), some (.int (zi (((u % zq35) * hb1) + (i % hb1))))]) (S' := [.ref b1, .int (zi (u / zq35)), .int (zi (((u % zq35) * hb1) + (i % hb1))), .int (zi n), .ref x]) rfl ?_
                  refine gs_gtk rfl (by decide) rfl sh122.1 tb1 rfl rfl lp121k17 ?_
                  have hx129 := zx_f (a := u / zq35) (b := vb1) (A := 63) (B := 2) (by omega) (by omega) (by omega) (by omega)
                  refine gy_s 3 (pc' := 141) (L' := [some (.ref x), some (.int (zi u)), some (.int (zi zq35)), some (.int (zi n)), some (.ref b1), some (.int (zi i)), some (.int (zi (((u % zq35) * hb1) + (i % hb1))))]) (S' := [.ref b1, .int (zi i), .int ((zi (u / zq35)) * (zi vb1)), .int (zi (((u % zq35) * hb1) + (i % hb1))), .int (zi n), .ref x]) (L2 := [some (.ref x), some (.int (zi u)), some (.int (zi zq35)), some (.int (zi n)), some (.ref b1), some (.int (zi i)), some (.int (zi (((u % zq35) * hb1) + (i % hb1))))]) (S2 := [.ref b1, .int (zi i), .int (zi ((u / zq35) * vb1)), .int (zi (((u % zq35) * hb1) + (i % hb1))), .int (zi n), .ref x]) rfl (by simp only [zi_add, zi_sub, zi_mul, zi_neg, zi_and1, zi_and7, zi_and15, zi_and31, zi_and255]) (by simp only [zi_add, zi_sub, zi_mul, zi_neg, zi_and1, zi_and7, zi_and15, zi_and31, zi_and255]) ?_
                  refine gs_gtk rfl (by decide) rfl sh122.1 tb1 rfl rfl lp121k16 ?_
                  refine gy_div rfl (by decide) (by omega) (by omega) ?_
                  have hd130 := zd_f (x := i) (y := hb1) (by omega) (by omega)
                  refine gy_s 1 (pc' := 146) (L' := [some (.ref x), some (.int (zi u)), some (.int (zi zq35)), some (.int (zi n)), some (.ref b1), some (.int (zi i)), some (.int (zi (((u % zq35) * hb1) + (i % hb1))))]) (S' := [.int ((zi ((u / zq35) * vb1)) + (zi (i / hb1))), .int (zi (((u % zq35) * hb1) + (i % hb1))), .int (zi n), .ref x]) (L2 := [some (.ref x), some (.int (zi u)), some (.int (zi zq35)), some (.int (zi n)), some (.ref b1), some (.int (zi i)), some (.int (zi (((u % zq35) * hb1) + (i % hb1))))]) (S2 := [.int (zi (((u / zq35) * vb1) + (i / hb1))), .int (zi (((u % zq35) * hb1) + (i % hb1))), .int (zi n), .ref x]) rfl (by simp only [zi_add, zi_sub, zi_mul, zi_neg, zi_and1, zi_and7, zi_and15, zi_and31, zi_and255]) (by simp only [zi_add, zi_sub, zi_mul, zi_neg, zi_and1, zi_and7, zi_and15, zi_and31, zi_and255]) ?_
                  refine gz_call rfl (by decide) rfl (by decide) (by decide) (gcal_of rfl rfl rfl (Nat.le_of_ble_eq_true rfl) (gJ.recv (G := gGG) sh122.1 tx rfl rfl)) (cl_listBlock1 _ sh122.1 x tx n (by omega) (((u % zq35) * hb1) + (i % hb1)) (by omega) (((u / zq35) * vb1) + (i / hb1)) (by omega) pic lp121k0 tpic bn lp121k1 tbn b1 lp121k3 tb1 bl lp121k8 (by omega) uv2 lp121k32 (by omega) C1 lp121k18 (by omega) f1 lp121k22 (by omega) (by omega) (by omega) (by omega) uq lp121k36) (fun q131 _ wq131 => ?_)
                  obtain ⟨pq131, oq131, hq131⟩ := q131
                  obtain ⟨xq131, fq131_0, gq131, efq131_0, afq131_0, bfq131_0, uq131_0, yq131_0⟩ := wq131
                  refine ⟨_, gq131, ?_⟩
                  show gz gPP gGG gcn _ _ 149 [some (.ref x), some (.int (zi u)), some (.int (zi zq35)), some (.int (zi n)), some (.ref b1), some (.int (zi i)), some (.int (zi (((u % zq35) * hb1) + (i % hb1))))] [] hq131 _
                  have sq131 : gSs rT 1027 ty [66010, 69999, 70999] h hq131 := gSs.tr sh122 xq131 (by decide)
                  have s132 := (xq131.2.2.2.2.2 x 7 (by rw [tx]; decide)).trans lp121k0
                  have s133 := (xq131.2.2.2.2.2 pic 0 (by rw [tpic]; decide)).trans lp121k1
                  have s134 := (xq131.2.2.2.2.2 bn 0 (by rw [tbn]; decide)).trans lp121k2
                  have s135 := (xq131.2.2.2.2.2 bn 1 (by rw [tbn]; decide)).trans lp121k3
                  have s136 := (xq131.2.2.2.2.2 bn 2 (by rw [tbn]; decide)).trans lp121k4
                  have s137 := (xq131.2.2.2.2.2 pic 7 (by rw [tpic]; decide)).trans lp121k5
                  have s138 := (xq131.2.2.2.2.2 pic 12 (by rw [tpic]; decide)).trans lp121k6
                  have s139 := (xq131.2.2.2.2.2 pic 13 (by rw [tpic]; decide)).trans lp121k7
                  have s140 := (xq131.2.2.2.2.2 pic 8 (by rw [tpic]; decide)).trans lp121k8
                  have s141 := (xq131.2.2.2.2.2 b0 1 (by rw [tb0]; decide)).trans lp121k9
                  have s142 := (xq131.2.2.2.2.2 b0 2 (by rw [tb0]; decide)).trans lp121k10
                  have s143 := (xq131.2.2.2.2.2 b0 4 (by rw [tb0]; decide)).trans lp121k11
                  have s144 := (xq131.2.2.2.2.2 b0 5 (by rw [tb0]; decide)).trans lp121k12
                  have s145 := (xq131.2.2.2.2.2 b0 6 (by rw [tb0]; decide)).trans lp121k13
                  have s146 := (xq131.2.2.2.2.2 b0 7 (by rw [tb0]; decide)).trans lp121k14
                  have s147 := (xq131.2.2.2.2.2 b0 8 (by rw [tb0]; decide)).trans lp121k15
                  have s148 := (xq131.2.2.2.2.2 b1 1 (by rw [tb1]; decide)).trans lp121k16
                  have s149 := (xq131.2.2.2.2.2 b1 2 (by rw [tb1]; decide)).trans lp121k17
                  have s150 := (xq131.2.2.2.2.2 b1 4 (by rw [tb1]; decide)).trans lp121k18
                  have s151 := (xq131.2.2.2.2.2 b1 5 (by rw [tb1]; decide)).trans lp121k19
                  have s152 := (xq131.2.2.2.2.2 b1 6 (by rw [tb1]; decide)).trans lp121k20
                  have s153 := (xq131.2.2.2.2.2 b1 7 (by rw [tb1]; decide)).trans lp121k21
                  have s154 := (xq131.2.2.2.2.2 b1 8 (by rw [tb1]; decide)).trans lp121k22
                  have s155 := (xq131.2.2.2.2.2 b2 1 (by rw [tb2]; decide)).trans lp121k23
                  have s156 := (xq131.2.2.2.2.2 b2 2 (by rw [tb2]; decide)).trans lp121k24
                  have s157 := (xq131.2.2.2.2.2 b2 4 (by rw [tb2]; decide)).trans lp121k25
                  have s158 := (xq131.2.2.2.2.2 b2 5 (by rw [tb2]; decide)).trans lp121k26
                  have s159 := (xq131.2.2.2.2.2 b2 6 (by rw [tb2]; decide)).trans lp121k27
                  have s160 := (xq131.2.2.2.2.2 b2 7 (by rw [tb2]; decide)).trans lp121k28
                  have s161 := (xq131.2.2.2.2.2 b2 8 (by rw [tb2]; decide)).trans lp121k29
                  have s162 := (xq131.2.2.2.2.2 x 11 (by rw [tx]; decide)).trans lp121k30
                  have s163 := (xq131.2.2.2.2.2 x 12 (by rw [tx]; decide)).trans lp121k31
                  refine gy_s 2 (pc' := 88) (L' := [some (.ref x), some (.int (zi u)), some (.int (zi zq35)), some (.int (zi n)), some (.ref b1), some (.int ((zi i) + zi 1)), some (.int (zi (((u % zq35) * hb1) + (i % hb1))))]) (S' := []) (L2 := [some (.ref x), some (.int (zi u)), some (.int (zi zq35)), some (.int (zi n)), some (.ref b1), some (.int (zi (i + 1))), some (.int (zi (((u % zq35) * hb1) + (i % hb1))))]) (S2 := []) rfl (by simp only [zi_add, zi_sub, zi_mul, zi_neg, zi_and1, zi_and7, zi_and15, zi_and31, zi_and255]) (by simp only [zi_add, zi_sub, zi_mul, zi_neg, zi_and1, zi_and7, zi_and15, zi_and31, zi_and255]) ?_
                  exact gz_wk (ihlp121 hq131 (i + 1) fq131_0 (by omega) sq131 (by omega) (by omega) s132 s133 s134 s135 s136 s137 s138 s139 s140 s141 s142 s143 s144 s145 s146 s147 s148 s149 s150 s151 s152 s153 s154 s155 s156 s157 s158 s159 s160 s161 s162 s163 efq131_0 lp121k33 lp121k34 lp121k35 yq131_0) (gLw.s (gLw.s (gLw.s (gLw.s (gLw.s (gLw.s (gLw.n gLw.z)))))))
            exact gz_wk (lp121 _ h71 0 uv (Nat.lt_succ_self _) sh71 (by omega) (by omega) lp70k0 lp70k1 lp70k2 lp70k3 lp70k4 lp70k5 lp70k6 lp70k7 lp70k8 lp70k9 lp70k10 lp70k11 lp70k12 lp70k13 lp70k14 lp70k15 lp70k16 lp70k17 lp70k18 lp70k19 lp70k20 lp70k21 lp70k22 lp70k23 lp70k24 lp70k25 lp70k26 lp70k27 lp70k28 lp70k29 lp70k30 lp70k31 lp70k32 lp70k33 lp70k34 lp70k35 lp70k36) (gLw.s (gLw.s (gLw.s (gLw.s (gLw.s (gLw.s (gLw.n gLw.z)))))))
          · refine gs_aak (j := 2) rfl (by decide) sh71.1 tbn rfl rfl rfl (by decide) he75 (by decide) lp70k4 ?_
            refine gz_s 1 (pc' := 85) (L' := [some (.ref x), some (.int (zi u)), some (.int (zi zq35)), some (.int (zi n)), some (.ref b2), none, none]) (S' := []) rfl ?_
            have hq164 := lp70k35 (by omega)
            obtain ⟨k2_0, k2_1, k2_2, k2_3, k2_4, k2_5, k2_6, k2_7, k2_8, k2_9, k2_10, k2_11, k2_12, k2_13, k2_14, k2_15, k2_16, k2_17, k2_18⟩ := hq164
            have zx := zx_f (a := hb2) (b := vb2) (A := 2) (B := 2) (by omega) (by omega) (by omega) (by omega)
            refine gz_s 2 (pc' := 88) (L' := [some (.ref x), some (.int (zi u)), some (.int (zi zq35)), some (.int (zi n)), some (.ref b2), some (.int (zi 0)), none]) (S' := []) rfl ?_
            have lp165 : ∀ (fu : Nat) (h166 : gH) (i : Int) (uv2 : Int), (5 - i).toNat < fu → gSs rT 1027 ty [66010, 69999, 70999] h h166 → (0 ≤ i ∧ i ≤ 4) → (0 ≤ uv2 ∧ uv2 ≤ 12) → h166.2.2.2.2 x 7 = .ref pic → h166.2.2.2.2 pic 0 = .ref bn → h166.2.2.2.2 bn 0 = .ref b0 → h166.2.2.2.2 bn 1 = .ref b1 → h166.2.2.2.2 bn 2 = .ref b2 → h166.2.2.2.2 pic 7 = .int (zi cn) → h166.2.2.2.2 pic 12 = .int (zi uc) → h166.2.2.2.2 pic 13 = .int (zi ur) → h166.2.2.2.2 pic 8 = .int (zi bl) → h166.2.2.2.2 b0 1 = .int (zi hb0) → h166.2.2.2.2 b0 2 = .int (zi vb0) → h166.2.2.2.2 b0 4 = .int (zi C0) → h166.2.2.2.2 b0 5 = .int (zi R0) → h166.2.2.2.2 b0 6 = .int (zi oc0) → h166.2.2.2.2 b0 7 = .int (zi or0) → h166.2.2.2.2 b0 8 = .int (zi f0) → h166.2.2.2.2 b1 1 = .int (zi hb1) → h166.2.2.2.2 b1 2 = .int (zi vb1) → h166.2.2.2.2 b1 4 = .int (zi C1) → h166.2.2.2.2 b1 5 = .int (zi R1) → h166.2.2.2.2 b1 6 = .int (zi oc1) → h166.2.2.2.2 b1 7 = .int (zi or1) → h166.2.2.2.2 b1 8 = .int (zi f1) → h166.2.2.2.2 b2 1 = .int (zi hb2) → h166.2.2.2.2 b2 2 = .int (zi vb2) → h166.2.2.2.2 b2 4 = .int (zi C2) → h166.2.2.2.2 b2 5 = .int (zi R2) → h166.2.2.2.2 b2 6 = .int (zi oc2) → h166.2.2.2.2 b2 7 = .int (zi or2) → h166.2.2.2.2 b2 8 = .int (zi f2) → h166.2.2.2.2 x 11 = .int (zi sg) → h166.2.2.2.2 x 12 = .int (zi sb) → h166.2.2.2.2 x 10 = .int (zi uv2) → (0 < cn → gPq uc ur hb0 vb0 C0 R0 oc0 or0 f0 bl) → (1 < cn → gPq uc ur hb1 vb1 C1 R1 oc1 or1 f1 bl) → (2 < cn → gPq uc ur hb2 vb2 C2 R2 oc2 or2 f2 bl) → gUb ty uv2 bl h166 → gz gPP gGG gcn (d + 1) gt46 88 [some (.ref x), some (.int (zi u)), some (.int (zi zq35)), some (.int (zi n)), some (.ref b2), some (.int (zi i)), none] [] h166 (fun q _ => gSs rT 1027 ty [66010, 69999, 70999] h q.2.2 ∧ ∃ us1 : Int, gfin gt46 q.1 q.2.1 = some none ∧ q.2.2.2.2.2.2 x 10 = .int (zi us1) ∧ 0 ≤ us1 ∧ us1 ≤ 12 ∧ (gUb ty us1 bl q.2.2)) := by
              intro fu
              induction fu with
              | zero => intro h166 i uv2 hm; exact absurd hm (Nat.not_lt_zero _)
              | succ fu ihlp165 =>
                intro h166 i uv2 lp165m sh166 lp165f0 lp165f1 lp165k0 lp165k1 lp165k2 lp165k3 lp165k4 lp165k5 lp165k6 lp165k7 lp165k8 lp165k9 lp165k10 lp165k11 lp165k12 lp165k13 lp165k14 lp165k15 lp165k16 lp165k17 lp165k18 lp165k19 lp165k20 lp165k21 lp165k22 lp165k23 lp165k24 lp165k25 lp165k26 lp165k27 lp165k28 lp165k29 lp165k30 lp165k31 lp165k32 lp165k33 lp165k34 lp165k35 lp165k36
                refine gz_s 2 (pc' := 92) (L' := [some (.ref x), some (.int (zi u)), some (.int (zi zq35)), some (.int (zi n)), some (.ref b2), some (.int (zi i)), none]) (S' := [.ref b2, .int (zi i)]) rfl ?_
                refine gs_gtk rfl (by decide) rfl sh166.1 tb2 rfl rfl lp165k23 ?_
                refine gz_s 1 (pc' := 97) (L' := [some (.ref x), some (.int (zi u)), some (.int (zi zq35)), some (.int (zi n)), some (.ref b2), some (.int (zi i)), none]) (S' := [.ref b2, .int (zi hb2), .int (zi i)]) rfl ?_
                refine gs_gtk rfl (by decide) rfl sh166.1 tb2 rfl rfl lp165k24 ?_
                have hx167 := zx_f (a := hb2) (b := vb2) (A := 2) (B := 2) (by omega) (by omega) (by omega) (by omega)
                refine gy_s 1 (pc' := 101) (L' := [some (.ref x), some (.int (zi u)), some (.int (zi zq35)), some (.int (zi n)), some (.ref b2), some (.int (zi i)), none]) (S' := [.int ((zi hb2) * (zi vb2)), .int (zi i)]) (L2 := [some (.ref x), some (.int (zi u)), some (.int (zi zq35)), some (.int (zi n)), some (.ref b2), some (.int (zi i)), none]) (S2 := [.int (zi (hb2 * vb2)), .int (zi i)]) rfl (by simp only [zi_add, zi_sub, zi_mul, zi_neg, zi_and1, zi_and7, zi_and15, zi_and31, zi_and255]) (by simp only [zi_add, zi_sub, zi_mul, zi_neg, zi_and1, zi_and7, zi_and15, zi_and31, zi_and255]) ?_
                by_cases hc168 : (hb2 * vb2 : Int) ≤ i
                · refine gy_icT (pc' := 155) rfl (by decide) (by decide) (by omega) (by omega) hc168 ?_
                  refine gy_s 2 (pc' := 63) (L' := [some (.ref x), some (.int (zi u)), some (.int (zi zq35)), some (.int ((zi n) + zi 1)), some (.ref b2), some (.int (zi i)), none]) (S' := []) (L2 := [some (.ref x), some (.int (zi u)), some (.int (zi zq35)), some (.int (zi (n + 1))), some (.ref b2), some (.int (zi i)), none]) (S2 := []) rfl (by simp only [zi_add, zi_sub, zi_mul, zi_neg, zi_and1, zi_and7, zi_and15, zi_and31, zi_and255]) (by simp only [zi_add, zi_sub, zi_mul, zi_neg, zi_and1, zi_and7, zi_and15, zi_and31, zi_and255]) ?_
                  exact gz_wk (ihlp70 h166 (n + 1) uv2 (by omega) sh166 (by omega) (by omega) (by omega) lp165k0 lp165k1 lp165k2 lp165k3 lp165k4 lp165k5 lp165k6 lp165k7 lp165k8 lp165k9 lp165k10 lp165k11 lp165k12 lp165k13 lp165k14 lp165k15 lp165k16 lp165k17 lp165k18 lp165k19 lp165k20 lp165k21 lp165k22 lp165k23 lp165k24 lp165k25 lp165k26 lp165k27 lp165k28 lp165k29 lp165k30 lp165k31 lp165k32 lp165k33 lp165k34 lp165k35 lp165k36) (gLw.s (gLw.s (gLw.s (gLw.s (gLw.n (gLw.n (gLw.n gLw.z)))))))
                · refine gy_icF rfl (by decide) (by decide) (by omega) (by omega) hc168 ?_
                  have zz := zc2 (u := u) (k := i) (A := zq35) (B := ur) (C := C2) (R := R2) (f := f2) (hb := hb2) (vb := vb2) (bl := bl) (by omega) (by rw [(by omega : zq35 = uc)]; omega) (by omega) (by omega) (by omega) (by omega) (by omega) (by rw [(by omega : zq35 = uc)]; omega) (by omega) (by omega) (by omega)
                  refine gz_s 2 (pc' := 106) (L' := [some (.ref x), some (.int (zi u)), some (.int (zi zq35)), some (.int (zi n)), some (.ref b2), some (.int (zi i)), none]) (S' := [.int (zi zq35), .int (zi u)]) rfl ?_
                  refine gy_rem rfl (by decide) (by omega) (by omega) ?_
                  have hd169 := zm_f (x := u) (y := zq35) (by omega) (by omega)
                  refine gz_s 1 (pc' := 109) (L' := [some (.ref x), some (.int (zi u)), some (.int (zi zq35)), some (.int (zi n)), some (.ref b2), some (.int (zi i)), none]) (S' := [.ref b2, .int (zi (u % zq35))]) rfl ?_
                  refine gs_gtk rfl (by decide) rfl sh166.1 tb2 rfl rfl lp165k23 ?_
                  have hx170 := zx_f (a := u % zq35) (b := hb2) (A := 7) (B := 2) (by omega) (by omega) (by omega) (by omega)
                  refine gy_s 3 (pc' := 117) (L' := [some (.ref x), some (.int (zi u)), some (.int (zi zq35)), some (.int (zi n)), some (.ref b2), some (.int (zi i)), none]) (S' := [.ref b2, .int (zi i), .int ((zi (u % zq35)) * (zi hb2))]) (L2 := [some (.ref x), some (.int (zi u)), some (.int (zi zq35)), some (.int (zi n)), some (.ref b2), some (.int (zi i)), none]) (S2 := [.ref b2, .int (zi i), .int (zi ((u % zq35) * hb2))]) rfl (by simp only [zi_add, zi_sub, zi_mul, zi_neg, zi_and1, zi_and7, zi_and15, zi_and31, zi_and255]) (by simp only [zi_add, zi_sub, zi_mul, zi_neg, zi_and1, zi_and7, zi_and15, zi_and31, zi_and255]) ?_
                  refine gs_gtk rfl (by decide) rfl sh166.1 tb2 rfl rfl lp165k23 ?_
                  refine gy_rem rfl (by decide) (by omega) (by omega) ?_
                  have hd171 := zm_f (x := i) (y := hb2) (by omega) (by omega)
                  refine gy_s 7 (pc' := 130) (L' := [some (.ref x), some (.int (zi u)), some (.int (zi zq35)), some (.int (zi n)), some (.ref b2), some (.int (zi i)), some (.int ((zi ((u % zq35) * hb2)) + (zi (i % hb2))))]) (S' := [.int (zi zq35), .int (zi u), .int ((zi ((u % zq35) * hb2)) + (zi (i % hb2))), .int (zi n), .ref x]) (L2 := [some (.ref x), some (.int (zi u)), some (.int (zi zq35)), some (.int (zi n)), some (.ref b2), some (.int (zi i)), some (.int (zi (((u % zq35) * hb2) + (i % hb2))))]) (S2 := [.int (zi zq35), .int (zi u), .int (zi (((u % zq35) * hb2) + (i % hb2))), .int (zi n), .ref x]) rfl (by simp only [zi_add, zi_sub, zi_mul, zi_neg, zi_and1, zi_and7, zi_and15, zi_and31, zi_and255]) (by simp only [zi_add, zi_sub, zi_mul, zi_neg, zi_and1, zi_and7, zi_and15, zi_and31, zi_and255]) ?_
                  refine gy_div rfl (by decide) (by omega) (by omega) ?_
                  have hd172 := zd_f (x := u) (y := zq35) (by omega) (by omega)
                  refine gz_s 1 (pc' := 133) (L' := [some (.ref x), some (.int (zi u)), some (.int (zi zq35)), some (.int (zi n)), some (.ref b2), some (.int (zi i)), some (.int (zi (((u % zq35) * hb2) + (i % hb2))))]) (S' := [.ref b2, .int (zi (u / zq35)), .int (zi (((u % zq35) * hb2) + (i % hb2))), .int (zi n), .ref x]) rfl ?_
                  refine gs_gtk rfl (by decide) rfl sh166.1 tb2 rfl rfl lp165k24 ?_
                  have hx173 := zx_f (a := u / zq35) (b := vb2) (A := 63) (B := 2) (by omega) (by omega) (by omega) (by omega)
                  refine gy_s 3 (pc' := 141) (L' := [some (.ref x), some (.int (zi u)), some (.int (zi zq35)), some (.int (zi n)), some (.ref b2), some (.int (zi i)), some (.int (zi (((u % zq35) * hb2) + (i % hb2))))]) (S' := [.ref b2, .int (zi i), .int ((zi (u / zq35)) * (zi vb2)), .int (zi (((u % zq35) * hb2) + (i % hb2))), .int (zi n), .ref x]) (L2 := [some (.ref x), some (.int (zi u)), some (.int (zi zq35)), some (.int (zi n)), some (.ref b2), some (.int (zi i)), some (.int (zi (((u % zq35) * hb2) + (i % hb2))))]) (S2 := [.ref b2, .int (zi i), .int (zi ((u / zq35) * vb2)), .int (zi (((u % zq35) * hb2) + (i % hb2))), .int (zi n), .ref x]) rfl (by simp only [zi_add, zi_sub, zi_mul, zi_neg, zi_and1, zi_and7, zi_and15, zi_and31, zi_and255]) (by simp only [zi_add, zi_sub, zi_mul, zi_neg, zi_and1, zi_and7, zi_and15, zi_and31, zi_and255]) ?_
                  refine gs_gtk rfl (by decide) rfl sh166.1 tb2 rfl rfl lp165k23 ?_
                  refine gy_div rfl (by decide) (by omega) (by omega) ?_
                  have hd174 := zd_f (x := i) (y := hb2) (by omega) (by omega)
                  refine gy_s 1 (pc' := 146) (L' := [some (.ref x), some (.int (zi u)), some (.int (zi zq35)), some (.int (zi n)), some (.ref b2), some (.int (zi i)), some (.int (zi (((u % zq35) * hb2) + (i % hb2))))]) (S' := [.int ((zi ((u / zq35) * vb2)) + (zi (i / hb2))), .int (zi (((u % zq35) * hb2) + (i % hb2))), .int (zi n), .ref x]) (L2 := [some (.ref x), some (.int (zi u)), some (.int (zi zq35)), some (.int (zi n)), some (.ref b2), some (.int (zi i)), some (.int (zi (((u % zq35) * hb2) + (i % hb2))))]) (S2 := [.int (zi (((u / zq35) * vb2) + (i / hb2))), .int (zi (((u % zq35) * hb2) + (i % hb2))), .int (zi n), .ref x]) rfl (by simp only [zi_add, zi_sub, zi_mul, zi_neg, zi_and1, zi_and7, zi_and15, zi_and31, zi_and255]) (by simp only [zi_add, zi_sub, zi_mul, zi_neg, zi_and1, zi_and7, zi_and15, zi_and31, zi_and255]) ?_
                  refine gz_call rfl (by decide) rfl (by decide) (by decide) (gcal_of rfl rfl rfl (Nat.le_of_ble_eq_true rfl) (gJ.recv (G := gGG) sh166.1 tx rfl rfl)) (cl_listBlock2 _ sh166.1 x tx n (by omega) (((u % zq35) * hb2) + (i % hb2)) (by omega) (((u / zq35) * vb2) + (i / hb2)) (by omega) pic lp165k0 tpic bn lp165k1 tbn b2 lp165k4 tb2 bl lp165k8 (by omega) uv2 lp165k32 (by omega) C2 lp165k25 (by omega) f2 lp165k29 (by omega) (by omega) (by omega) (by omega) uq lp165k36) (fun q175 _ wq175 => ?_)
                  obtain ⟨pq175, oq175, hq175⟩ := q175
                  obtain ⟨xq175, fq175_0, gq175, efq175_0, afq175_0, bfq175_0, uq175_0, yq175_0⟩ := wq175
                  refine ⟨_, gq175, ?_⟩
                  show gz gPP gGG gcn _ _ 149 [some (.ref x), some (.int (zi u)), some (.int (zi zq35)), some (.int (zi n)), some (.ref b2), some (.int (zi i)), some (.int (zi (((u % zq35) * hb2) + (i % hb2))))] [] hq175 _
                  have sq175 : gSs rT 1027 ty [66010, 69999, 70999] h hq175 := gSs.tr sh166 xq175 (by decide)
                  have s176 := (xq175.2.2.2.2.2 x 7 (by rw [tx]; decide)).trans lp165k0
                  have s177 := (xq175.2.2.2.2.2 pic 0 (by rw [tpic]; decide)).trans lp165k1
                  have s178 := (xq175.2.2.2.2.2 bn 0 (by rw [tbn]; decide)).trans lp165k2
                  have s179 := (xq175.2.2.2.2.2 bn 1 (by rw [tbn]; decide)).trans lp165k3
                  have s180 := (xq175.2.2.2.2.2 bn 2 (by rw [tbn]; decide)).trans lp165k4
                  have s181 := (xq175.2.2.2.2.2 pic 7 (by rw [tpic]; decide)).trans lp165k5
                  have s182 := (xq175.2.2.2.2.2 pic 12 (by rw [tpic]; decide)).trans lp165k6
                  have s183 := (xq175.2.2.2.2.2 pic 13 (by rw [tpic]; decide)).trans lp165k7
                  have s184 := (xq175.2.2.2.2.2 pic 8 (by rw [tpic]; decide)).trans lp165k8
                  have s185 := (xq175.2.2.2.2.2 b0 1 (by rw [tb0]; decide)).trans lp165k9
                  have s186 := (xq175.2.2.2.2.2 b0 2 (by rw [tb0]; decide)).trans lp165k10
                  have s187 := (xq175.2.2.2.2.2 b0 4 (by rw [tb0]; decide)).trans lp165k11
                  have s188 := (xq175.2.2.2.2.2 b0 5 (by rw [tb0]; decide)).trans lp165k12
                  have s189 := (xq175.2.2.2.2.2 b0 6 (by rw [tb0]; decide)).trans lp165k13
                  have s190 := (xq175.2.2.2.2.2 b0 7 (by rw [tb0]; decide)).trans lp165k14
                  have s191 := (xq175.2.2.2.2.2 b0 8 (by rw [tb0]; decide)).trans lp165k15
                  have s192 := (xq175.2.2.2.2.2 b1 1 (by rw [tb1]; decide)).trans lp165k16
                  have s193 := (xq175.2.2.2.2.2 b1 2 (by rw [tb1]; decide)).trans lp165k17
                  have s194 := (xq175.2.2.2.2.2 b1 4 (by rw [tb1]; decide)).trans lp165k18
                  have s195 := (xq175.2.2.2.2.2 b1 5 (by rw [tb1]; decide)).trans lp165k19
                  have s196 := (xq175.2.2.2.2.2 b1 6 (by rw [tb1]; decide)).trans lp165k20
                  have s197 := (xq175.2.2.2.2.2 b1 7 (by rw [tb1]; decide)).trans lp165k21
                  have s198 := (xq175.2.2.2.2.2 b1 8 (by rw [tb1]; decide)).trans lp165k22
                  have s199 := (xq175.2.2.2.2.2 b2 1 (by rw [tb2]; decide)).trans lp165k23
                  have s200 := (xq175.2.2.2.2.2 b2 2 (by rw [tb2]; decide)).trans lp165k24
                  have s201 := (xq175.2.2.2.2.2 b2 4 (by rw [tb2]; decide)).trans lp165k25
                  have s202 := (xq175.2.2.2.2.2 b2 5 (by rw [tb2]; decide)).trans lp165k26
                  have s203 := (xq175.2.2.2.2.2 b2 6 (by rw [tb2]; decide)).trans lp165k27
                  have s204 := (xq175.2.2.2.2.2 b2 7 (by rw [tb2]; decide)).trans lp165k28
                  have s205 := (xq175.2.2.2.2.2 b2 8 (by rw [tb2]; decide)).trans lp165k29
                  have s206 := (xq175.2.2.2.2.2 x 11 (by rw [tx]; decide)).trans lp165k30
                  have s207 := (xq175.2.2.2.2.2 x 12 (by rw [tx]; decide)).trans lp165k31
                  refine gy_s 2 (pc' := 88) (L' := [some (.ref x), some (.int (zi u)), some (.int (zi zq35)), some (.int (zi n)), some (.ref b2), some (.int ((zi i) + zi 1)), some (.int (zi (((u % zq35) * hb2) + (i % hb2))))]) (S' := []) (L2 := [some (.ref x), some (.int (zi u)), some (.int (zi zq35)), some (.int (zi n)), some (.ref b2), some (.int (zi (i + 1))), some (.int (zi (((u % zq35) * hb2) + (i % hb2))))]) (S2 := []) rfl (by simp only [zi_add, zi_sub, zi_mul, zi_neg, zi_and1, zi_and7, zi_and15, zi_and31, zi_and255]) (by simp only [zi_add, zi_sub, zi_mul, zi_neg, zi_and1, zi_and7, zi_and15, zi_and31, zi_and255]) ?_
                  exact gz_wk (ihlp165 hq175 (i + 1) fq175_0 (by omega) sq175 (by omega) (by omega) s176 s177 s178 s179 s180 s181 s182 s183 s184 s185 s186 s187 s188 s189 s190 s191 s192 s193 s194 s195 s196 s197 s198 s199 s200 s201 s202 s203 s204 s205 s206 s207 efq175_0 lp165k33 lp165k34 lp165k35 yq175_0) (gLw.s (gLw.s (gLw.s (gLw.s (gLw.s (gLw.s (gLw.n gLw.z)))))))
            exact gz_wk (lp165 _ h71 0 uv (Nat.lt_succ_self _) sh71 (by omega) (by omega) lp70k0 lp70k1 lp70k2 lp70k3 lp70k4 lp70k5 lp70k6 lp70k7 lp70k8 lp70k9 lp70k10 lp70k11 lp70k12 lp70k13 lp70k14 lp70k15 lp70k16 lp70k17 lp70k18 lp70k19 lp70k20 lp70k21 lp70k22 lp70k23 lp70k24 lp70k25 lp70k26 lp70k27 lp70k28 lp70k29 lp70k30 lp70k31 lp70k32 lp70k33 lp70k34 lp70k35 lp70k36) (gLw.s (gLw.s (gLw.s (gLw.s (gLw.s (gLw.s (gLw.n gLw.z)))))))
    exact gz_wk (lp70 _ hq35 0 0 (Nat.lt_succ_self _) sq35 (by omega) (by omega) (by omega) s36 s37 s38 s39 s40 s41 s42 s43 s44 s45 s46 s47 s48 s49 s50 s51 s52 s53 s54 s55 s56 s57 s58 s59 s60 s61 s62 s63 s64 s65 s66 s67 s68 hypq0 hypq1 hypq2 pr69) (gLw.s (gLw.s (gLw.s (gLw.s (gLw.n (gLw.n (gLw.n gLw.z)))))))
  · refine gy_ifF rfl (by decide) (by decide) (by omega) hc34 ?_
    refine gz_s 1 (pc' := 13) (L' := [some (.ref x), some (.int (zi u)), none, none, none, none, none]) (S' := [.ref x]) rfl ?_
    refine gs_gtk rfl (by decide) rfl sh1.1 tx rfl rfl s2 ?_
    refine gs_gtk rfl (by decide) rfl sh1.1 tpic rfl rfl s3 ?_
    refine gz_s 1 (pc' := 20) (L' := [some (.ref x), some (.int (zi u)), none, none, none, none, none]) (S' := [.ref x, .ref bn]) rfl ?_
    refine gs_gtk rfl (by decide) rfl sh1.1 tx rfl rfl s33 ?_
    rcases (by omega : sb = 0 ∨ sb = 1 ∨ sb = 2) with he210 | he210 | he210
    · refine gs_aak (j := 0) rfl (by decide) sh1.1 tbn rfl rfl rfl (by decide) he210 (by decide) s4 ?_
      refine gz_s 3 (pc' := 27) (L' := [some (.ref x), some (.int (zi u)), some (.ref b0), none, none, none, none]) (S' := [.ref b0, .int (zi 1)]) rfl ?_
      refine gs_gtk rfl (by decide) rfl sh1.1 tb0 rfl rfl s15 ?_
      refine gz_call rfl (by decide) rfl (by decide) (by decide) (gcal_of rfl rfl rfl (Nat.le_of_ble_eq_true rfl) rfl) (cl_Math_max _ sh1.1 1 (by omega) oc0 (by omega) ) (fun q211 _ wq211 => ?_)
      obtain ⟨pq211, oq211, hq211⟩ := q211
      obtain ⟨xq211, zq211, gq211, aq211, bq211, uq211_0, uq211_1, uq211_2⟩ := wq211
      refine ⟨_, gq211, ?_⟩
      show gz gPP gGG gcn _ _ 33 [some (.ref x), some (.int (zi u)), some (.ref b0), none, none, none, none] [.int (zi zq211)] hq211 _
      have sq211 : gSs rT 1027 ty [66010, 69999, 70999] h hq211 := gSs.tr sh1 xq211 (by decide)
      have s212 := (xq211.2.2.2.2.2 x 7 (by rw [tx]; decide)).trans s2
      have s213 := (xq211.2.2.2.2.2 pic 0 (by rw [tpic]; decide)).trans s3
      have s214 := (xq211.2.2.2.2.2 bn 0 (by rw [tbn]; decide)).trans s4
      have s215 := (xq211.2.2.2.2.2 bn 1 (by rw [tbn]; decide)).trans s5
      have s216 := (xq211.2.2.2.2.2 bn 2 (by rw [tbn]; decide)).trans s6
      have s217 := (xq211.2.2.2.2.2 pic 7 (by rw [tpic]; decide)).trans s7
      have s218 := (xq211.2.2.2.2.2 pic 12 (by rw [tpic]; decide)).trans s8
      have s219 := (xq211.2.2.2.2.2 pic 13 (by rw [tpic]; decide)).trans s9
      have s220 := (xq211.2.2.2.2.2 pic 8 (by rw [tpic]; decide)).trans s10
      have s221 := (xq211.2.2.2.2.2 b0 1 (by rw [tb0]; decide)).trans s11
      have s222 := (xq211.2.2.2.2.2 b0 2 (by rw [tb0]; decide)).trans s12
      have s223 := (xq211.2.2.2.2.2 b0 4 (by rw [tb0]; decide)).trans s13
      have s224 := (xq211.2.2.2.2.2 b0 5 (by rw [tb0]; decide)).trans s14
      have s225 := (xq211.2.2.2.2.2 b0 6 (by rw [tb0]; decide)).trans s15
      have s226 := (xq211.2.2.2.2.2 b0 7 (by rw [tb0]; decide)).trans s16
      have s227 := (xq211.2.2.2.2.2 b0 8 (by rw [tb0]; decide)).trans s17
      have s228 := (xq211.2.2.2.2.2 b1 1 (by rw [tb1]; decide)).trans s18
      have s229 := (xq211.2.2.2.2.2 b1 2 (by rw [tb1]; decide)).trans s19
      have s230 := (xq211.2.2.2.2.2 b1 4 (by rw [tb1]; decide)).trans s20
      have s231 := (xq211.2.2.2.2.2 b1 5 (by rw [tb1]; decide)).trans s21
      have s232 := (xq211.2.2.2.2.2 b1 6 (by rw [tb1]; decide)).trans s22
      have s233 := (xq211.2.2.2.2.2 b1 7 (by rw [tb1]; decide)).trans s23
      have s234 := (xq211.2.2.2.2.2 b1 8 (by rw [tb1]; decide)).trans s24
      have s235 := (xq211.2.2.2.2.2 b2 1 (by rw [tb2]; decide)).trans s25
      have s236 := (xq211.2.2.2.2.2 b2 2 (by rw [tb2]; decide)).trans s26
      have s237 := (xq211.2.2.2.2.2 b2 4 (by rw [tb2]; decide)).trans s27
      have s238 := (xq211.2.2.2.2.2 b2 5 (by rw [tb2]; decide)).trans s28
      have s239 := (xq211.2.2.2.2.2 b2 6 (by rw [tb2]; decide)).trans s29
      have s240 := (xq211.2.2.2.2.2 b2 7 (by rw [tb2]; decide)).trans s30
      have s241 := (xq211.2.2.2.2.2 b2 8 (by rw [tb2]; decide)).trans s31
      have s242 := (xq211.2.2.2.2.2 x 11 (by rw [tx]; decide)).trans s32
      have s243 := (xq211.2.2.2.2.2 x 12 (by rw [tx]; decide)).trans s33
      have s244 := (xq211.2.2.2.2.2 x 10 (by rw [tx]; decide)).trans eh1
      have pr245 := gUb.fr xq211.2 (by decide) hub0
      refine gz_s 1 (pc' := 34) (L' := [some (.ref x), some (.int (zi u)), some (.ref b0), some (.int (zi zq211)), none, none, none]) (S' := []) rfl ?_
      have hq246 := hypq0 (by omega)
      obtain ⟨k0_0, k0_1, k0_2, k0_3, k0_4, k0_5, k0_6, k0_7, k0_8, k0_9, k0_10, k0_11, k0_12, k0_13, k0_14, k0_15, k0_16, k0_17, k0_18⟩ := hq246
      have zz := zc1 (u := u) (oc := zq211) (orr := or0) (C := C0) (R := R0) (f := f0) (bl := bl) (by omega) (by rw [(by omega : zq211 = oc0)]; omega) (by omega) (by omega) (by omega) (by omega) (by omega)
      have zy := zm_f (x := u) (y := zq211) (by omega) (by omega)
      refine gz_s 2 (pc' := 36) (L' := [some (.ref x), some (.int (zi u)), some (.ref b0), some (.int (zi zq211)), none, none, none]) (S' := [.ref x, .ref x]) rfl ?_
      refine gs_gtk rfl (by decide) rfl sq211.1 tx rfl rfl s243 ?_
      refine gz_s 2 (pc' := 41) (L' := [some (.ref x), some (.int (zi u)), some (.ref b0), some (.int (zi zq211)), none, none, none]) (S' := [.int (zi zq211), .int (zi u), .int (zi sb), .ref x]) rfl ?_
      refine gy_rem rfl (by decide) (by omega) (by omega) ?_
      have hd247 := zm_f (x := u) (y := zq211) (by omega) (by omega)
      refine gz_s 2 (pc' := 44) (L' := [some (.ref x), some (.int (zi u)), some (.ref b0), some (.int (zi zq211)), none, none, none]) (S' := [.int (zi zq211), .int (zi u), .int (zi (u % zq211)), .int (zi sb), .ref x]) rfl ?_
      refine gy_div rfl (by decide) (by omega) (by omega) ?_
      have hd248 := zd_f (x := u) (y := zq211) (by omega) (by omega)
      refine gz_call rfl (by decide) rfl (by decide) (by decide) (gcal_of rfl rfl rfl (Nat.le_of_ble_eq_true rfl) (gJ.recv (G := gGG) sq211.1 tx rfl rfl)) (cl_listBlock0 _ sq211.1 x tx sb (by omega) (u % zq211) (by omega) (u / zq211) (by omega) pic s212 tpic bn s213 tbn b0 s214 tb0 bl s220 (by omega) 0 s244 (by omega) C0 s223 (by omega) f0 s227 (by omega) (by omega) (by omega) (by omega) uq pr245) (fun q249 _ wq249 => ?_)
      obtain ⟨pq249, oq249, hq249⟩ := q249
      obtain ⟨xq249, fq249_0, gq249, efq249_0, afq249_0, bfq249_0, uq249_0, yq249_0⟩ := wq249
      refine ⟨_, gq249, ?_⟩
      show gz gPP gGG gcn _ _ 48 [some (.ref x), some (.int (zi u)), some (.ref b0), some (.int (zi zq211)), none, none, none] [] hq249 _
      have sq249 : gSs rT 1027 ty [66010, 69999, 70999] h hq249 := gSs.tr sq211 xq249 (by decide)
      have s250 := (xq249.2.2.2.2.2 x 7 (by rw [tx]; decide)).trans s212
      have s251 := (xq249.2.2.2.2.2 pic 0 (by rw [tpic]; decide)).trans s213
      have s252 := (xq249.2.2.2.2.2 bn 0 (by rw [tbn]; decide)).trans s214
      have s253 := (xq249.2.2.2.2.2 bn 1 (by rw [tbn]; decide)).trans s215
      have s254 := (xq249.2.2.2.2.2 bn 2 (by rw [tbn]; decide)).trans s216
      have s255 := (xq249.2.2.2.2.2 pic 7 (by rw [tpic]; decide)).trans s217
      have s256 := (xq249.2.2.2.2.2 pic 12 (by rw [tpic]; decide)).trans s218
      have s257 := (xq249.2.2.2.2.2 pic 13 (by rw [tpic]; decide)).trans s219
      have s258 := (xq249.2.2.2.2.2 pic 8 (by rw [tpic]; decide)).trans s220
      have s259 := (xq249.2.2.2.2.2 b0 1 (by rw [tb0]; decide)).trans s221
      have s260 := (xq249.2.2.2.2.2 b0 2 (by rw [tb0]; decide)).trans s222
      have s261 := (xq249.2.2.2.2.2 b0 4 (by rw [tb0]; decide)).trans s223
      have s262 := (xq249.2.2.2.2.2 b0 5 (by rw [tb0]; decide)).trans s224
      have s263 := (xq249.2.2.2.2.2 b0 6 (by rw [tb0]; decide)).trans s225
      have s264 := (xq249.2.2.2.2.2 b0 7 (by rw [tb0]; decide)).trans s226
      have s265 := (xq249.2.2.2.2.2 b0 8 (by rw [tb0]; decide)).trans s227
      have s266 := (xq249.2.2.2.2.2 b1 1 (by rw [tb1]; decide)).trans s228
      have s267 := (xq249.2.2.2.2.2 b1 2 (by rw [tb1]; decide)).trans s229
      have s268 := (xq249.2.2.2.2.2 b1 4 (by rw [tb1]; decide)).trans s230
      have s269 := (xq249.2.2.2.2.2 b1 5 (by rw [tb1]; decide)).trans s231
      have s270 := (xq249.2.2.2.2.2 b1 6 (by rw [tb1]; decide)).trans s232
      have s271 := (xq249.2.2.2.2.2 b1 7 (by rw [tb1]; decide)).trans s233
      have s272 := (xq249.2.2.2.2.2 b1 8 (by rw [tb1]; decide)).trans s234
      have s273 := (xq249.2.2.2.2.2 b2 1 (by rw [tb2]; decide)).trans s235
      have s274 := (xq249.2.2.2.2.2 b2 2 (by rw [tb2]; decide)).trans s236
      have s275 := (xq249.2.2.2.2.2 b2 4 (by rw [tb2]; decide)).trans s237
      have s276 := (xq249.2.2.2.2.2 b2 5 (by rw [tb2]; decide)).trans s238
      have s277 := (xq249.2.2.2.2.2 b2 6 (by rw [tb2]; decide)).trans s239
      have s278 := (xq249.2.2.2.2.2 b2 7 (by rw [tb2]; decide)).trans s240
      have s279 := (xq249.2.2.2.2.2 b2 8 (by rw [tb2]; decide)).trans s241
      have s280 := (xq249.2.2.2.2.2 x 11 (by rw [tx]; decide)).trans s242
      have s281 := (xq249.2.2.2.2.2 x 12 (by rw [tx]; decide)).trans s243
      exact gz_end (I := .return_) (len := 1) rfl (Or.inl rfl) ⟨sq249, fq249_0, rfl, efq249_0, (by omega), (by omega), yq249_0⟩
    · refine gs_aak (j := 1) rfl (by decide) sh1.1 tbn rfl rfl rfl (by decide) he210 (by decide) s5 ?_
      refine gz_s 3 (pc' := 27) (L' := [some (.ref x), some (.int (zi u)), some (.ref b1), none, none, none, none]) (S' := [.ref b1, .int (zi 1)]) rfl ?_
      refine gs_gtk rfl (by decide) rfl sh1.1 tb1 rfl rfl s22 ?_
      refine gz_call rfl (by decide) rfl (by decide) (by decide) (gcal_of rfl rfl rfl (Nat.le_of_ble_eq_true rfl) rfl) (cl_Math_max _ sh1.1 1 (by omega) oc1 (by omega) ) (fun q282 _ wq282 => ?_)
      obtain ⟨pq282, oq282, hq282⟩ := q282
      obtain ⟨xq282, zq282, gq282, aq282, bq282, uq282_0, uq282_1, uq282_2⟩ := wq282
      refine ⟨_, gq282, ?_⟩
      show gz gPP gGG gcn _ _ 33 [some (.ref x), some (.int (zi u)), some (.ref b1), none, none, none, none] [.int (zi zq282)] hq282 _
      have sq282 : gSs rT 1027 ty [66010, 69999, 70999] h hq282 := gSs.tr sh1 xq282 (by decide)
      have s283 := (xq282.2.2.2.2.2 x 7 (by rw [tx]; decide)).trans s2
      have s284 := (xq282.2.2.2.2.2 pic 0 (by rw [tpic]; decide)).trans s3
      have s285 := (xq282.2.2.2.2.2 bn 0 (by rw [tbn]; decide)).trans s4
      have s286 := (xq282.2.2.2.2.2 bn 1 (by rw [tbn]; decide)).trans s5
      have s287 := (xq282.2.2.2.2.2 bn 2 (by rw [tbn]; decide)).trans s6
      have s288 := (xq282.2.2.2.2.2 pic 7 (by rw [tpic]; decide)).trans s7
      have s289 := (xq282.2.2.2.2.2 pic 12 (by rw [tpic]; decide)).trans s8
      have s290 := (xq282.2.2.2.2.2 pic 13 (by rw [tpic]; decide)).trans s9
      have s291 := (xq282.2.2.2.2.2 pic 8 (by rw [tpic]; decide)).trans s10
      have s292 := (xq282.2.2.2.2.2 b0 1 (by rw [tb0]; decide)).trans s11
      have s293 := (xq282.2.2.2.2.2 b0 2 (by rw [tb0]; decide)).trans s12
      have s294 := (xq282.2.2.2.2.2 b0 4 (by rw [tb0]; decide)).trans s13
      have s295 := (xq282.2.2.2.2.2 b0 5 (by rw [tb0]; decide)).trans s14
      have s296 := (xq282.2.2.2.2.2 b0 6 (by rw [tb0]; decide)).trans s15
      have s297 := (xq282.2.2.2.2.2 b0 7 (by rw [tb0]; decide)).trans s16
      have s298 := (xq282.2.2.2.2.2 b0 8 (by rw [tb0]; decide)).trans s17
      have s299 := (xq282.2.2.2.2.2 b1 1 (by rw [tb1]; decide)).trans s18
      have s300 := (xq282.2.2.2.2.2 b1 2 (by rw [tb1]; decide)).trans s19
      have s301 := (xq282.2.2.2.2.2 b1 4 (by rw [tb1]; decide)).trans s20
      have s302 := (xq282.2.2.2.2.2 b1 5 (by rw [tb1]; decide)).trans s21
      have s303 := (xq282.2.2.2.2.2 b1 6 (by rw [tb1]; decide)).trans s22
      have s304 := (xq282.2.2.2.2.2 b1 7 (by rw [tb1]; decide)).trans s23
      have s305 := (xq282.2.2.2.2.2 b1 8 (by rw [tb1]; decide)).trans s24
      have s306 := (xq282.2.2.2.2.2 b2 1 (by rw [tb2]; decide)).trans s25
      have s307 := (xq282.2.2.2.2.2 b2 2 (by rw [tb2]; decide)).trans s26
      have s308 := (xq282.2.2.2.2.2 b2 4 (by rw [tb2]; decide)).trans s27
      have s309 := (xq282.2.2.2.2.2 b2 5 (by rw [tb2]; decide)).trans s28
      have s310 := (xq282.2.2.2.2.2 b2 6 (by rw [tb2]; decide)).trans s29
      have s311 := (xq282.2.2.2.2.2 b2 7 (by rw [tb2]; decide)).trans s30
      have s312 := (xq282.2.2.2.2.2 b2 8 (by rw [tb2]; decide)).trans s31
      have s313 := (xq282.2.2.2.2.2 x 11 (by rw [tx]; decide)).trans s32
      have s314 := (xq282.2.2.2.2.2 x 12 (by rw [tx]; decide)).trans s33
      have s315 := (xq282.2.2.2.2.2 x 10 (by rw [tx]; decide)).trans eh1
      have pr316 := gUb.fr xq282.2 (by decide) hub0
      refine gz_s 1 (pc' := 34) (L' := [some (.ref x), some (.int (zi u)), some (.ref b1), some (.int (zi zq282)), none, none, none]) (S' := []) rfl ?_
      have hq317 := hypq1 (by omega)
      obtain ⟨k1_0, k1_1, k1_2, k1_3, k1_4, k1_5, k1_6, k1_7, k1_8, k1_9, k1_10, k1_11, k1_12, k1_13, k1_14, k1_15, k1_16, k1_17, k1_18⟩ := hq317
      have zz := zc1 (u := u) (oc := zq282) (orr := or1) (C := C1) (R := R1) (f := f1) (bl := bl) (by omega) (by rw [(by omega : zq282 = oc1)]; omega) (by omega) (by omega) (by omega) (by omega) (by omega)
      have zy := zm_f (x := u) (y := zq282) (by omega) (by omega)
      refine gz_s 2 (pc' := 36) (L' := [some (.ref x), some (.int (zi u)), some (.ref b1), some (.int (zi zq282)), none, none, none]) (S' := [.ref x, .ref x]) rfl ?_
      refine gs_gtk rfl (by decide) rfl sq282.1 tx rfl rfl s314 ?_
      refine gz_s 2 (pc' := 41) (L' := [some (.ref x), some (.int (zi u)), some (.ref b1), some (.int (zi zq282)), none, none, none]) (S' := [.int (zi zq282), .int (zi u), .int (zi sb), .ref x]) rfl ?_
      refine gy_rem rfl (by decide) (by omega) (by omega) ?_
      have hd318 := zm_f (x := u) (y := zq282) (by omega) (by omega)
      refine gz_s 2 (pc' := 44) (L' := [some (.ref x), some (.int (zi u)), some (.ref b1), some (.int (zi zq282)), none, none, none]) (S' := [.int (zi zq282), .int (zi u), .int (zi (u % zq282)), .int (zi sb), .ref x]) rfl ?_
      refine gy_div rfl (by decide) (by omega) (by omega) ?_
      have hd319 := zd_f (x := u) (y := zq282) (by omega) (by omega)
      refine gz_call rfl (by decide) rfl (by decide) (by decide) (gcal_of rfl rfl rfl (Nat.le_of_ble_eq_true rfl) (gJ.recv (G := gGG) sq282.1 tx rfl rfl)) (cl_listBlock1 _ sq282.1 x tx sb (by omega) (u % zq282) (by omega) (u / zq282) (by omega) pic s283 tpic bn s284 tbn b1 s286 tb1 bl s291 (by omega) 0 s315 (by omega) C1 s301 (by omega) f1 s305 (by omega) (by omega) (by omega) (by omega) uq pr316) (fun q320 _ wq320 => ?_)
      obtain ⟨pq320, oq320, hq320⟩ := q320
      obtain ⟨xq320, fq320_0, gq320, efq320_0, afq320_0, bfq320_0, uq320_0, yq320_0⟩ := wq320
      refine ⟨_, gq320, ?_⟩
      show gz gPP gGG gcn _ _ 48 [some (.ref x), some (.int (zi u)), some (.ref b1), some (.int (zi zq282)), none, none, none] [] hq320 _
      have sq320 : gSs rT 1027 ty [66010, 69999, 70999] h hq320 := gSs.tr sq282 xq320 (by decide)
      have s321 := (xq320.2.2.2.2.2 x 7 (by rw [tx]; decide)).trans s283
      have s322 := (xq320.2.2.2.2.2 pic 0 (by rw [tpic]; decide)).trans s284
      have s323 := (xq320.2.2.2.2.2 bn 0 (by rw [tbn]; decide)).trans s285
      have s324 := (xq320.2.2.2.2.2 bn 1 (by rw [tbn]; decide)).trans s286
      have s325 := (xq320.2.2.2.2.2 bn 2 (by rw [tbn]; decide)).trans s287
      have s326 := (xq320.2.2.2.2.2 pic 7 (by rw [tpic]; decide)).trans s288
      have s327 := (xq320.2.2.2.2.2 pic 12 (by rw [tpic]; decide)).trans s289
      have s328 := (xq320.2.2.2.2.2 pic 13 (by rw [tpic]; decide)).trans s290
      have s329 := (xq320.2.2.2.2.2 pic 8 (by rw [tpic]; decide)).trans s291
      have s330 := (xq320.2.2.2.2.2 b0 1 (by rw [tb0]; decide)).trans s292
      have s331 := (xq320.2.2.2.2.2 b0 2 (by rw [tb0]; decide)).trans s293
      have s332 := (xq320.2.2.2.2.2 b0 4 (by rw [tb0]; decide)).trans s294
      have s333 := (xq320.2.2.2.2.2 b0 5 (by rw [tb0]; decide)).trans s295
      have s334 := (xq320.2.2.2.2.2 b0 6 (by rw [tb0]; decide)).trans s296
      have s335 := (xq320.2.2.2.2.2 b0 7 (by rw [tb0]; decide)).trans s297
      have s336 := (xq320.2.2.2.2.2 b0 8 (by rw [tb0]; decide)).trans s298
      have s337 := (xq320.2.2.2.2.2 b1 1 (by rw [tb1]; decide)).trans s299
      have s338 := (xq320.2.2.2.2.2 b1 2 (by rw [tb1]; decide)).trans s300
      have s339 := (xq320.2.2.2.2.2 b1 4 (by rw [tb1]; decide)).trans s301
      have s340 := (xq320.2.2.2.2.2 b1 5 (by rw [tb1]; decide)).trans s302
      have s341 := (xq320.2.2.2.2.2 b1 6 (by rw [tb1]; decide)).trans s303
      have s342 := (xq320.2.2.2.2.2 b1 7 (by rw [tb1]; decide)).trans s304
      have s343 := (xq320.2.2.2.2.2 b1 8 (by rw [tb1]; decide)).trans s305
      have s344 := (xq320.2.2.2.2.2 b2 1 (by rw [tb2]; decide)).trans s306
      have s345 := (xq320.2.2.2.2.2 b2 2 (by rw [tb2]; decide)).trans s307
      have s346 := (xq320.2.2.2.2.2 b2 4 (by rw [tb2]; decide)).trans s308
      have s347 := (xq320.2.2.2.2.2 b2 5 (by rw [tb2]; decide)).trans s309
      have s348 := (xq320.2.2.2.2.2 b2 6 (by rw [tb2]; decide)).trans s310
      have s349 := (xq320.2.2.2.2.2 b2 7 (by rw [tb2]; decide)).trans s311
      have s350 := (xq320.2.2.2.2.2 b2 8 (by rw [tb2]; decide)).trans s312
      have s351 := (xq320.2.2.2.2.2 x 11 (by rw [tx]; decide)).trans s313
      have s352 := (xq320.2.2.2.2.2 x 12 (by rw [tx]; decide)).trans s314
      exact gz_end (I := .return_) (len := 1) rfl (Or.inl rfl) ⟨sq320, fq320_0, rfl, efq320_0, (by omega), (by omega), yq320_0⟩
    · refine gs_aak (j := 2) rfl (by decide) sh1.1 tbn rfl rfl rfl (by decide) he210 (by decide) s6 ?_
      refine gz_s 3 (pc' := 27) (L' := [some (.ref x), some (.int (zi u)), some (.ref b2), none, none, none, none]) (S' := [.ref b2, .int (zi 1)]) rfl ?_
      refine gs_gtk rfl (by decide) rfl sh1.1 tb2 rfl rfl s29 ?_
      refine gz_call rfl (by decide) rfl (by decide) (by decide) (gcal_of rfl rfl rfl (Nat.le_of_ble_eq_true rfl) rfl) (cl_Math_max _ sh1.1 1 (by omega) oc2 (by omega) ) (fun q353 _ wq353 => ?_)
      obtain ⟨pq353, oq353, hq353⟩ := q353
      obtain ⟨xq353, zq353, gq353, aq353, bq353, uq353_0, uq353_1, uq353_2⟩ := wq353
      refine ⟨_, gq353, ?_⟩
      show gz gPP gGG gcn _ _ 33 [some (.ref x), some (.int (zi u)), some (.ref b2), none, none, none, none] [.int (zi zq353)] hq353 _
      have sq353 : gSs rT 1027 ty [66010, 69999, 70999] h hq353 := gSs.tr sh1 xq353 (by decide)
      have s354 := (xq353.2.2.2.2.2 x 7 (by rw [tx]; decide)).trans s2
      have s355 := (xq353.2.2.2.2.2 pic 0 (by rw [tpic]; decide)).trans s3
      have s356 := (xq353.2.2.2.2.2 bn 0 (by rw [tbn]; decide)).trans s4
      have s357 := (xq353.2.2.2.2.2 bn 1 (by rw [tbn]; decide)).trans s5
      have s358 := (xq353.2.2.2.2.2 bn 2 (by rw [tbn]; decide)).trans s6
      have s359 := (xq353.2.2.2.2.2 pic 7 (by rw [tpic]; decide)).trans s7
      have s360 := (xq353.2.2.2.2.2 pic 12 (by rw [tpic]; decide)).trans s8
      have s361 := (xq353.2.2.2.2.2 pic 13 (by rw [tpic]; decide)).trans s9
      have s362 := (xq353.2.2.2.2.2 pic 8 (by rw [tpic]; decide)).trans s10
      have s363 := (xq353.2.2.2.2.2 b0 1 (by rw [tb0]; decide)).trans s11
      have s364 := (xq353.2.2.2.2.2 b0 2 (by rw [tb0]; decide)).trans s12
      have s365 := (xq353.2.2.2.2.2 b0 4 (by rw [tb0]; decide)).trans s13
      have s366 := (xq353.2.2.2.2.2 b0 5 (by rw [tb0]; decide)).trans s14
      have s367 := (xq353.2.2.2.2.2 b0 6 (by rw [tb0]; decide)).trans s15
      have s368 := (xq353.2.2.2.2.2 b0 7 (by rw [tb0]; decide)).trans s16
      have s369 := (xq353.2.2.2.2.2 b0 8 (by rw [tb0]; decide)).trans s17
      have s370 := (xq353.2.2.2.2.2 b1 1 (by rw [tb1]; decide)).trans s18
      have s371 := (xq353.2.2.2.2.2 b1 2 (by rw [tb1]; decide)).trans s19
      have s372 := (xq353.2.2.2.2.2 b1 4 (by rw [tb1]; decide)).trans s20
      have s373 := (xq353.2.2.2.2.2 b1 5 (by rw [tb1]; decide)).trans s21
      have s374 := (xq353.2.2.2.2.2 b1 6 (by rw [tb1]; decide)).trans s22
      have s375 := (xq353.2.2.2.2.2 b1 7 (by rw [tb1]; decide)).trans s23
      have s376 := (xq353.2.2.2.2.2 b1 8 (by rw [tb1]; decide)).trans s24
      have s377 := (xq353.2.2.2.2.2 b2 1 (by rw [tb2]; decide)).trans s25
      have s378 := (xq353.2.2.2.2.2 b2 2 (by rw [tb2]; decide)).trans s26
      have s379 := (xq353.2.2.2.2.2 b2 4 (by rw [tb2]; decide)).trans s27
      have s380 := (xq353.2.2.2.2.2 b2 5 (by rw [tb2]; decide)).trans s28
      have s381 := (xq353.2.2.2.2.2 b2 6 (by rw [tb2]; decide)).trans s29
      have s382 := (xq353.2.2.2.2.2 b2 7 (by rw [tb2]; decide)).trans s30
      have s383 := (xq353.2.2.2.2.2 b2 8 (by rw [tb2]; decide)).trans s31
      have s384 := (xq353.2.2.2.2.2 x 11 (by rw [tx]; decide)).trans s32
      have s385 := (xq353.2.2.2.2.2 x 12 (by rw [tx]; decide)).trans s33
      have s386 := (xq353.2.2.2.2.2 x 10 (by rw [tx]; decide)).trans eh1
      have pr387 := gUb.fr xq353.2 (by decide) hub0
      refine gz_s 1 (pc' := 34) (L' := [some (.ref x), some (.int (zi u)), some (.ref b2), some (.int (zi zq353)), none, none, none]) (S' := []) rfl ?_
      have hq388 := hypq2 (by omega)
      obtain ⟨k2_0, k2_1, k2_2, k2_3, k2_4, k2_5, k2_6, k2_7, k2_8, k2_9, k2_10, k2_11, k2_12, k2_13, k2_14, k2_15, k2_16, k2_17, k2_18⟩ := hq388
      have zz := zc1 (u := u) (oc := zq353) (orr := or2) (C := C2) (R := R2) (f := f2) (bl := bl) (by omega) (by rw [(by omega : zq353 = oc2)]; omega) (by omega) (by omega) (by omega) (by omega) (by omega)
      have zy := zm_f (x := u) (y := zq353) (by omega) (by omega)
      refine gz_s 2 (pc' := 36) (L' := [some (.ref x), some (.int (zi u)), some (.ref b2), some (.int (zi zq353)), none, none, none]) (S' := [.ref x, .ref x]) rfl ?_
      refine gs_gtk rfl (by decide) rfl sq353.1 tx rfl rfl s385 ?_
      refine gz_s 2 (pc' := 41) (L' := [some (.ref x), some (.int (zi u)), some (.ref b2), some (.int (zi zq353)), none, none, none]) (S' := [.int (zi zq353), .int (zi u), .int (zi sb), .ref x]) rfl ?_
      refine gy_rem rfl (by decide) (by omega) (by omega) ?_
      have hd389 := zm_f (x := u) (y := zq353) (by omega) (by omega)
      refine gz_s 2 (pc' := 44) (L' := [some (.ref x), some (.int (zi u)), some (.ref b2), some (.int (zi zq353)), none, none, none]) (S' := [.int (zi zq353), .int (zi u), .int (zi (u % zq353)), .int (zi sb), .ref x]) rfl ?_
      refine gy_div rfl (by decide) (by omega) (by omega) ?_
      have hd390 := zd_f (x := u) (y := zq353) (by omega) (by omega)
      refine gz_call rfl (by decide) rfl (by decide) (by decide) (gcal_of rfl rfl rfl (Nat.le_of_ble_eq_true rfl) (gJ.recv (G := gGG) sq353.1 tx rfl rfl)) (cl_listBlock2 _ sq353.1 x tx sb (by omega) (u % zq353) (by omega) (u / zq353) (by omega) pic s354 tpic bn s355 tbn b2 s358 tb2 bl s362 (by omega) 0 s386 (by omega) C2 s379 (by omega) f2 s383 (by omega) (by omega) (by omega) (by omega) uq pr387) (fun q391 _ wq391 => ?_)
      obtain ⟨pq391, oq391, hq391⟩ := q391
      obtain ⟨xq391, fq391_0, gq391, efq391_0, afq391_0, bfq391_0, uq391_0, yq391_0⟩ := wq391
      refine ⟨_, gq391, ?_⟩
      show gz gPP gGG gcn _ _ 48 [some (.ref x), some (.int (zi u)), some (.ref b2), some (.int (zi zq353)), none, none, none] [] hq391 _
      have sq391 : gSs rT 1027 ty [66010, 69999, 70999] h hq391 := gSs.tr sq353 xq391 (by decide)
      have s392 := (xq391.2.2.2.2.2 x 7 (by rw [tx]; decide)).trans s354
      have s393 := (xq391.2.2.2.2.2 pic 0 (by rw [tpic]; decide)).trans s355
      have s394 := (xq391.2.2.2.2.2 bn 0 (by rw [tbn]; decide)).trans s356
      have s395 := (xq391.2.2.2.2.2 bn 1 (by rw [tbn]; decide)).trans s357
      have s396 := (xq391.2.2.2.2.2 bn 2 (by rw [tbn]; decide)).trans s358
      have s397 := (xq391.2.2.2.2.2 pic 7 (by rw [tpic]; decide)).trans s359
      have s398 := (xq391.2.2.2.2.2 pic 12 (by rw [tpic]; decide)).trans s360
      have s399 := (xq391.2.2.2.2.2 pic 13 (by rw [tpic]; decide)).trans s361
      have s400 := (xq391.2.2.2.2.2 pic 8 (by rw [tpic]; decide)).trans s362
      have s401 := (xq391.2.2.2.2.2 b0 1 (by rw [tb0]; decide)).trans s363
      have s402 := (xq391.2.2.2.2.2 b0 2 (by rw [tb0]; decide)).trans s364
      have s403 := (xq391.2.2.2.2.2 b0 4 (by rw [tb0]; decide)).trans s365
      have s404 := (xq391.2.2.2.2.2 b0 5 (by rw [tb0]; decide)).trans s366
      have s405 := (xq391.2.2.2.2.2 b0 6 (by rw [tb0]; decide)).trans s367
      have s406 := (xq391.2.2.2.2.2 b0 7 (by rw [tb0]; decide)).trans s368
      have s407 := (xq391.2.2.2.2.2 b0 8 (by rw [tb0]; decide)).trans s369
      have s408 := (xq391.2.2.2.2.2 b1 1 (by rw [tb1]; decide)).trans s370
      have s409 := (xq391.2.2.2.2.2 b1 2 (by rw [tb1]; decide)).trans s371
      have s410 := (xq391.2.2.2.2.2 b1 4 (by rw [tb1]; decide)).trans s372
      have s411 := (xq391.2.2.2.2.2 b1 5 (by rw [tb1]; decide)).trans s373
      have s412 := (xq391.2.2.2.2.2 b1 6 (by rw [tb1]; decide)).trans s374
      have s413 := (xq391.2.2.2.2.2 b1 7 (by rw [tb1]; decide)).trans s375
      have s414 := (xq391.2.2.2.2.2 b1 8 (by rw [tb1]; decide)).trans s376
      have s415 := (xq391.2.2.2.2.2 b2 1 (by rw [tb2]; decide)).trans s377
      have s416 := (xq391.2.2.2.2.2 b2 2 (by rw [tb2]; decide)).trans s378
      have s417 := (xq391.2.2.2.2.2 b2 4 (by rw [tb2]; decide)).trans s379
      have s418 := (xq391.2.2.2.2.2 b2 5 (by rw [tb2]; decide)).trans s380
      have s419 := (xq391.2.2.2.2.2 b2 6 (by rw [tb2]; decide)).trans s381
      have s420 := (xq391.2.2.2.2.2 b2 7 (by rw [tb2]; decide)).trans s382
      have s421 := (xq391.2.2.2.2.2 b2 8 (by rw [tb2]; decide)).trans s383
      have s422 := (xq391.2.2.2.2.2 x 11 (by rw [tx]; decide)).trans s384
      have s423 := (xq391.2.2.2.2.2 x 12 (by rw [tx]; decide)).trans s385
      exact gz_end (I := .return_) (len := 1) rfl (Or.inl rfl) ⟨sq391, fq391_0, rfl, efq391_0, (by omega), (by omega), yq391_0⟩
