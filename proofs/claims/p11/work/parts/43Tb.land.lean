/-! ===== methods of the landed text (by program) ===== -/
set_option maxRecDepth 20000 in
set_option maxHeartbeats 4000000 in
theorem ct_Reader (d : Nat) {ty : Nat → Nat} {h : gH} (hJ : gJ rT 1027 ty h) (x : Nat) (tx : ty x = 200) (nx : 1027 ≤ x) (lx : x < h.1) (kx : h.2.2.1 x = some (.inr 6)) (zx : h.2.2.2.1 x = 0) (dx : ∀ k, h.2.2.2.2 x k = defaultValue (gGG.2.1 6 k)) (s : Nat) (ts : ty s = 51) (p : Nat) (tp : ty p = 54) (no0 : gNo [65, 66, 67, 68, 69, 70] ty) (uq : gUq ty) : gz gPP gGG gcn (d + 3) gt8 0 (gent [.ref x, .ref s, .ref p] 3) [] h (fun q _ => ∃ ty9 : Nat → Nat, gSg [65, 66, 67, 68, 69, 70, 101, 102, 103, 200] [x] [] ty h ty9 q.2.2 ∧ ty9 x = 65 ∧ gfin gt8 q.1 q.2.1 = some none ∧ ((q.2.2.1 : Int) = h.1 + 29) ∧ ((q.2.2.2.1 : Int) = h.2.1 + 2251) ∧ gUq ty9) := by
  have hS : gSs rT 1027 ty [] h h := gSs.rf hJ
  have G0 : gSg [65, 66, 67, 68, 69, 70, 101, 102, 103, 200] [x] [] ty h ty h := gSg.rf hJ (fun x hx => by rw [List.mem_singleton.mp hx, tx]; rfl)
  refine gz_s 1 (pc' := 1) (L' := [some (.ref x), some (.ref s), some (.ref p)]) (S' := [.ref x]) rfl ?_
  refine gz_obj rfl (by decide) (by omega) rfl (by decide) ?_
  refine gz_s 2 (pc' := 6) (L' := [some (.ref x), some (.ref s), some (.ref p)]) (S' := [.ref s, .ref x]) rfl ?_
  refine gs_rput rfl (by decide) rfl hS.1 tx nx lx kx rfl (Or.inr rfl) (fun h1 g2 nh1 mh1 kh1 zh1 eh1 fh1 => ?_)
  have G3 : gSg [65, 66, 67, 68, 69, 70, 101, 102, 103, 200] [x] [] ty h ty h1 := gSg.tr (gSg.ss G0 hS (by decide)) g2 (by decide) (by decide) (fun x hx => Or.inr hx)
  have sS4 : gSs rT 1027 ty [] h1 h1 := gSs.rf g2.1
  have rf5 := Nat.lt_of_lt_of_eq lx nh1.symm
  have rf6 := zh1.trans zx
  have s7 := (fh1 1 (by decide)).trans (show h.2.2.2.2 x 1 = .null from dx 1)
  have s8 := (fh1 2 (by decide)).trans (show h.2.2.2.2 x 2 = .null from dx 2)
  have s9 := (fh1 3 (by decide)).trans (show h.2.2.2.2 x 3 = .int (zi 0) from dx 3)
  refine gz_s 2 (pc' := 11) (L' := [some (.ref x), some (.ref s), some (.ref p)]) (S' := [.ref p, .ref x]) rfl ?_
  refine gs_rput rfl (by decide) rfl sS4.1 tx nx rf5 kh1 rfl (Or.inr rfl) (fun h10 g11 nh10 mh10 kh10 zh10 eh10 fh10 => ?_)
  have G12 : gSg [65, 66, 67, 68, 69, 70, 101, 102, 103, 200] [x] [] ty h ty h10 := gSg.tr (gSg.ss G3 sS4 (by decide)) g11 (by decide) (by decide) (fun x hx => Or.inr hx)
  have sS13 : gSs rT 1027 ty [] h10 h10 := gSs.rf g11.1
  have rf14 := Nat.lt_of_lt_of_eq rf5 nh10.symm
  have rf15 := zh10.trans rf6
  have s16 := (fh10 2 (by decide)).trans s8
  have s17 := (fh10 3 (by decide)).trans s9
  have s18 := (fh10 0 (by decide)).trans eh1
  refine gz_s 1 (pc' := 15) (L' := [some (.ref x), some (.ref s), some (.ref p)]) (S' := [.ref x]) rfl ?_
  refine gs_newo rfl (by decide) rfl sS13.1 (Nat.le_of_lt (Nat.lt_of_le_of_lt (gJ.cell sS13.1 ts rfl).1 (gJ.cell sS13.1 ts rfl).2.1)) (fun ty19 h20 c21 g22 tc21 kc21 zc21 nc21 mc21 ec21 dc21 => ?_)
  have mfc21 : h20.2.1 = h10.2.1 + 15 := mc21
  have gac21 : h.1 ≤ c21 := by have h8 := G12.2.1; have h9 := sS13.2.1; omega
  have nnc21 : 1027 ≤ c21 := by have h8 := (Nat.le_of_lt (Nat.lt_of_le_of_lt (gJ.cell sS13.1 ts rfl).1 (gJ.cell sS13.1 ts rfl).2.1)); omega
  have llc21 : c21 < _ := by rw [nc21, ec21]; exact Nat.lt_succ_self _
  have nex_c21 : x ≠ c21 := by have h8 := rf14; omega
  have G23 : gSg [65, 66, 67, 68, 69, 70, 101, 102, 103, 200] [x] [] ty h ty19 h20 := gSg.tr (gSg.ss G12 sS13 (by decide)) g22 (by decide) (by decide) (fun x hx => by cases hx)
  have rw24 := gSg.raw g22 rf14 (fun w => by cases w)
  have rf25 := (rw24.2.2.1.trans kh10)
  have rf26 := (rw24.2.2.2.trans rf15)
  have t27 : ty19 x = 200 := rw24.1.trans tx
  have t28 : ty19 s = 51 := gSg.typ g22 sS13.1 ts rfl
  have t29 : ty19 p = 54 := gSg.typ g22 sS13.1 tp rfl
  have s30 := gSg.rawat g22 rf14 (fun w => by cases w) tx (by decide) s16
  have s31 := gSg.rawat g22 rf14 (fun w => by cases w) tx (by decide) s17
  have s32 := gSg.rawat g22 rf14 (fun w => by cases w) tx (by decide) s18
  have s33 := gSg.rawat g22 rf14 (fun w => by cases w) tx (by decide) eh10
  have pr34 : gNo [65, 66, 67, 68, 69, 70] ty19 := gNo.gr g22 (by decide) (gNo.sub (by decide) no0)
  have uq35 := gSg.uq g22 uq (by decide)
  have sS36 : gSs rT 1027 ty19 [] h20 h20 := gSs.rf g22.1
  refine gz_s 3 (pc' := 21) (L' := [some (.ref x), some (.ref s), some (.ref p)]) (S' := [.ref p, .ref s, .ref c21, .ref c21, .ref x]) rfl ?_
  refine gz_call rfl (by decide) rfl (by decide) (by decide) (gcal_of rfl rfl rfl (Nat.le_of_ble_eq_true rfl) rfl) (ct_ScanReader _ sS36.1 c21 tc21 nnc21 llc21 kc21 zc21 dc21 s t28 p t29 (gNo.sub (by decide) pr34) uq35) (fun q37 _ wq37 => ?_)
  obtain ⟨pq37, oq37, hq37⟩ := q37
  obtain ⟨tyq37, xq37, trq37_0, gq37, uq37_0, uq37_1, uqq37⟩ := wq37
  dsimp only at uq37_0 uq37_1
  refine ⟨_, gq37, ?_⟩
  show gz gPP gGG gcn _ _ 24 [some (.ref x), some (.ref s), some (.ref p)] [.ref c21, .ref x] hq37 _
  have G38 : gSg [65, 66, 67, 68, 69, 70, 101, 102, 103, 200] [x] [] ty h tyq37 hq37 := gSg.tr (gSg.ss G23 sS36 (by decide)) xq37 (by decide) (by decide) (fun x hx => Or.inl (by rw [List.mem_singleton.mp hx]; exact gac21))
  have rw39 := gSg.raw xq37 rw24.2.1 (fun w => nex_c21 (List.mem_singleton.mp w))
  have rf40 := (rw39.2.2.1.trans rf25)
  have rf41 := (rw39.2.2.2.trans rf26)
  have t42 : tyq37 x = 200 := rw39.1.trans t27
  have t43 : tyq37 s = 51 := gSg.typ xq37 sS36.1 t28 rfl
  have t44 : tyq37 p = 54 := gSg.typ xq37 sS36.1 t29 rfl
  have s45 := gSg.rawat xq37 rw24.2.1 (fun w => nex_c21 (List.mem_singleton.mp w)) t27 (by decide) s30
  have s46 := gSg.rawat xq37 rw24.2.1 (fun w => nex_c21 (List.mem_singleton.mp w)) t27 (by decide) s31
  have s47 := gSg.rawat xq37 rw24.2.1 (fun w => nex_c21 (List.mem_singleton.mp w)) t27 (by decide) s32
  have s48 := gSg.rawat xq37 rw24.2.1 (fun w => nex_c21 (List.mem_singleton.mp w)) t27 (by decide) s33
  have pr49 : gNo [65] tyq37 := gNo.gr xq37 (by decide) (gNo.sub (by decide) pr34)
  have sS50 : gSs rT 1027 tyq37 [] hq37 hq37 := gSs.rf xq37.1
  refine gs_rput rfl (by decide) rfl sS50.1 t42 nx rw39.2.1 rf40 rfl (Or.inr rfl) (fun h51 g52 nh51 mh51 kh51 zh51 eh51 fh51 => ?_)
  have G53 : gSg [65, 66, 67, 68, 69, 70, 101, 102, 103, 200] [x] [] ty h tyq37 h51 := gSg.tr (gSg.ss G38 sS50 (by decide)) g52 (by decide) (by decide) (fun x hx => Or.inr hx)
  have sS54 : gSs rT 1027 tyq37 [] h51 h51 := gSs.rf g52.1
  have rf55 := Nat.lt_of_lt_of_eq rw39.2.1 nh51.symm
  have rf56 := zh51.trans rf41
  have s57 := (fh51 3 (by decide)).trans s46
  have s58 := (fh51 0 (by decide)).trans s47
  have s59 := (fh51 1 (by decide)).trans s48
  obtain ⟨ty61, g60, tg60, ug60⟩ := gSg.adx 65 sS54.1 t42 nx rf55 rfl kh51 (by show (0 : Nat) ≤ _; have h9 := rf56; omega) (by show _ ≤ (0 : Nat); have h9 := rf56; omega) (fun ty9 w9 k hk => ad65 (by rw [s58]; exact ⟨s, rfl, w9 s _ t43 (by decide)⟩) (by rw [s59]; exact ⟨p, rfl, w9 p _ t44 (by decide)⟩) (by rw [eh51]; exact ⟨c21, rfl, w9 c21 _ trq37_0 (by decide)⟩) (by rw [s57]; exact ⟨0, rfl, by show (0 : Int) ≤ _; omega, by show _ ≤ (4100 : Int); omega⟩) k)
  have uq62 := ug60 uqq37 (Or.inr pr49)
  have G63 : gSg [65, 66, 67, 68, 69, 70, 101, 102, 103, 200] [x] [] ty h ty61 h51 := gSg.tr (gSg.ss G53 sS54 (by decide)) g60 (by decide) (by decide) (fun x hx => Or.inr hx)
  have t64 : ty61 s = 51 := gSg.typ g60 sS54.1 t43 rfl
  have t65 : ty61 p = 54 := gSg.typ g60 sS54.1 t44 rfl
  have t66 : ty61 c21 = 66 := gSg.typ g60 sS54.1 trq37_0 rfl
  have sS67 : gSs rT 1027 ty61 [] h51 h51 := gSs.rf g60.1
  have G68 : gSg [65, 66, 67, 68, 69, 70, 101, 102, 103, 200] [x] [] ty h ty61 h51 := gSg.ss G63 sS67 (by decide)
  exact gz_end (I := .return_) (len := 1) rfl (Or.inl rfl) ⟨ty61, G68, tg60, rfl, (by dsimp only; omega), (by dsimp only; omega), uq62⟩
set_option maxRecDepth 20000 in
set_option maxHeartbeats 4000000 in
theorem ct_Band0 (d : Nat) {ty : Nat → Nat} {h : gH} (hJ : gJ rT 1027 ty h) (x : Nat) (tx : ty x = 200) (nx : 1027 ≤ x) (lx : x < h.1) (kx : h.2.2.1 x = some (.inr 0)) (zx : h.2.2.2.1 x = 0) (dx : ∀ k, h.2.2.2.2 x k = defaultValue (gGG.2.1 0 k)) (no0 : gNo [82] ty) (uq : gUq ty) : gz gPP gGG gcn (d + 1) gt3 0 (gent [.ref x] 1) [] h (fun q _ => ∃ ty9 : Nat → Nat, gSg [82, 200] [x] [] ty h ty9 q.2.2 ∧ ty9 x = 82 ∧ gfin gt3 q.1 q.2.1 = some none ∧ ((q.2.2.1 : Int) = h.1 + 0) ∧ ((q.2.2.2.1 : Int) = h.2.1 + 0) ∧ gUq ty9) := by
  have hS : gSs rT 1027 ty [] h h := gSs.rf hJ
  have G0 : gSg [82, 200] [x] [] ty h ty h := gSg.rf hJ (fun x hx => by rw [List.mem_singleton.mp hx, tx]; rfl)
  refine gz_s 1 (pc' := 1) (L' := [some (.ref x)]) (S' := [.ref x]) rfl ?_
  refine gz_obj rfl (by decide) (by omega) rfl (by decide) ?_
  refine gz_s 2 (pc' := 6) (L' := [some (.ref x)]) (S' := [.int (zi 1), .ref x]) rfl ?_
  refine gs_rput rfl (by decide) rfl hS.1 tx nx lx kx rfl (Or.inl rfl) (fun h1 g2 nh1 mh1 kh1 zh1 eh1 fh1 => ?_)
  have G3 : gSg [82, 200] [x] [] ty h ty h1 := gSg.tr (gSg.ss G0 hS (by decide)) g2 (by decide) (by decide) (fun x hx => Or.inr hx)
  have sS4 : gSs rT 1027 ty [] h1 h1 := gSs.rf g2.1
  have rf5 := Nat.lt_of_lt_of_eq lx nh1.symm
  have rf6 := zh1.trans zx
  have s7 := (fh1 0 (by decide)).trans (show h.2.2.2.2 x 0 = .int (zi 0) from dx 0)
  have s8 := (fh1 2 (by decide)).trans (show h.2.2.2.2 x 2 = .int (zi 0) from dx 2)
  have s9 := (fh1 3 (by decide)).trans (show h.2.2.2.2 x 3 = .int (zi 0) from dx 3)
  have s10 := (fh1 4 (by decide)).trans (show h.2.2.2.2 x 4 = .int (zi 0) from dx 4)
  have s11 := (fh1 5 (by decide)).trans (show h.2.2.2.2 x 5 = .int (zi 0) from dx 5)
  have s12 := (fh1 6 (by decide)).trans (show h.2.2.2.2 x 6 = .int (zi 0) from dx 6)
  have s13 := (fh1 7 (by decide)).trans (show h.2.2.2.2 x 7 = .int (zi 0) from dx 7)
  have s14 := (fh1 8 (by decide)).trans (show h.2.2.2.2 x 8 = .int (zi 0) from dx 8)
  have s15 := (fh1 9 (by decide)).trans (show h.2.2.2.2 x 9 = .int (zi 0) from dx 9)
  have s16 := (fh1 10 (by decide)).trans (show h.2.2.2.2 x 10 = .int (zi 0) from dx 10)
  have s17 := (fh1 11 (by decide)).trans (show h.2.2.2.2 x 11 = .int (zi 0) from dx 11)
  refine gz_s 2 (pc' := 11) (L' := [some (.ref x)]) (S' := [.int (zi 1), .ref x]) rfl ?_
  refine gs_rput rfl (by decide) rfl sS4.1 tx nx rf5 kh1 rfl (Or.inl rfl) (fun h18 g19 nh18 mh18 kh18 zh18 eh18 fh18 => ?_)
  have G20 : gSg [82, 200] [x] [] ty h ty h18 := gSg.tr (gSg.ss G3 sS4 (by decide)) g19 (by decide) (by decide) (fun x hx => Or.inr hx)
  have sS21 : gSs rT 1027 ty [] h18 h18 := gSs.rf g19.1
  have rf22 := Nat.lt_of_lt_of_eq rf5 nh18.symm
  have rf23 := zh18.trans rf6
  have s24 := (fh18 0 (by decide)).trans s7
  have s25 := (fh18 3 (by decide)).trans s9
  have s26 := (fh18 4 (by decide)).trans s10
  have s27 := (fh18 5 (by decide)).trans s11
  have s28 := (fh18 6 (by decide)).trans s12
  have s29 := (fh18 7 (by decide)).trans s13
  have s30 := (fh18 8 (by decide)).trans s14
  have s31 := (fh18 9 (by decide)).trans s15
  have s32 := (fh18 10 (by decide)).trans s16
  have s33 := (fh18 11 (by decide)).trans s17
  have s34 := (fh18 1 (by decide)).trans eh1
  obtain ⟨ty36, g35, tg35, ug35⟩ := gSg.adx 82 sS21.1 tx nx rf22 rfl kh18 (by show (0 : Nat) ≤ _; have h9 := rf23; omega) (by show _ ≤ (0 : Nat); have h9 := rf23; omega) (fun ty9 w9 k hk => ad82 (by rw [s24]; exact ⟨0, rfl, by show ((-1) : Int) ≤ _; omega, by show _ ≤ (255 : Int); omega⟩) (by rw [s34]; exact ⟨1, rfl, by show ((-1) : Int) ≤ _; omega, by show _ ≤ (15 : Int); omega⟩) (by rw [eh18]; exact ⟨1, rfl, by show (0 : Int) ≤ _; omega, by show _ ≤ (15 : Int); omega⟩) (by rw [s25]; exact ⟨0, rfl, by show ((-1) : Int) ≤ _; omega, by show _ ≤ (255 : Int); omega⟩) (by rw [s26]; exact ⟨0, rfl, by show (0 : Int) ≤ _; omega, by show _ ≤ (16 : Int); omega⟩) (by rw [s27]; exact ⟨0, rfl, by show (0 : Int) ≤ _; omega, by show _ ≤ (16 : Int); omega⟩) (by rw [s28]; exact ⟨0, rfl, by show (0 : Int) ≤ _; omega, by show _ ≤ (16 : Int); omega⟩) (by rw [s29]; exact ⟨0, rfl, by show (0 : Int) ≤ _; omega, by show _ ≤ (16 : Int); omega⟩) (by rw [s30]; exact ⟨0, rfl, by show (0 : Int) ≤ _; omega, by show _ ≤ (192 : Int); omega⟩) (by rw [s31]; exact ⟨0, rfl, by show (0 : Int) ≤ _; omega, by show _ ≤ (15 : Int); omega⟩) (by rw [s32]; exact ⟨0, rfl, by show (0 : Int) ≤ _; omega, by show _ ≤ (15 : Int); omega⟩) (by rw [s33]; exact ⟨0, rfl, by show ((-2147483648) : Int) ≤ _; omega, by show _ ≤ (2147483647 : Int); omega⟩) k)
  have uq37 := ug35 uq (Or.inr no0)
  have G38 : gSg [82, 200] [x] [] ty h ty36 h18 := gSg.tr (gSg.ss G20 sS21 (by decide)) g35 (by decide) (by decide) (fun x hx => Or.inr hx)
  have sS39 : gSs rT 1027 ty36 [] h18 h18 := gSs.rf g35.1
  have G40 : gSg [82, 200] [x] [] ty h ty36 h18 := gSg.ss G38 sS39 (by decide)
  exact gz_end (I := .return_) (len := 1) rfl (Or.inl rfl) ⟨ty36, G40, tg35, rfl, (by dsimp only; omega), (by dsimp only; omega), uq37⟩
set_option maxRecDepth 20000 in
set_option maxHeartbeats 4000000 in
theorem ct_Band1 (d : Nat) {ty : Nat → Nat} {h : gH} (hJ : gJ rT 1027 ty h) (x : Nat) (tx : ty x = 200) (nx : 1027 ≤ x) (lx : x < h.1) (kx : h.2.2.1 x = some (.inr 0)) (zx : h.2.2.2.1 x = 0) (dx : ∀ k, h.2.2.2.2 x k = defaultValue (gGG.2.1 0 k)) (no0 : gNo [83] ty) (uq : gUq ty) : gz gPP gGG gcn (d + 1) gt3 0 (gent [.ref x] 1) [] h (fun q _ => ∃ ty9 : Nat → Nat, gSg [83, 200] [x] [] ty h ty9 q.2.2 ∧ ty9 x = 83 ∧ gfin gt3 q.1 q.2.1 = some none ∧ ((q.2.2.1 : Int) = h.1 + 0) ∧ ((q.2.2.2.1 : Int) = h.2.1 + 0) ∧ gUq ty9) := by
  have hS : gSs rT 1027 ty [] h h := gSs.rf hJ
  have G0 : gSg [83, 200] [x] [] ty h ty h := gSg.rf hJ (fun x hx => by rw [List.mem_singleton.mp hx, tx]; rfl)
  refine gz_s 1 (pc' := 1) (L' := [some (.ref x)]) (S' := [.ref x]) rfl ?_
  refine gz_obj rfl (by decide) (by omega) rfl (by decide) ?_
  refine gz_s 2 (pc' := 6) (L' := [some (.ref x)]) (S' := [.int (zi 1), .ref x]) rfl ?_
  refine gs_rput rfl (by decide) rfl hS.1 tx nx lx kx rfl (Or.inl rfl) (fun h1 g2 nh1 mh1 kh1 zh1 eh1 fh1 => ?_)
  have G3 : gSg [83, 200] [x] [] ty h ty h1 := gSg.tr (gSg.ss G0 hS (by decide)) g2 (by decide) (by decide) (fun x hx => Or.inr hx)
  have sS4 : gSs rT 1027 ty [] h1 h1 := gSs.rf g2.1
  have rf5 := Nat.lt_of_lt_of_eq lx nh1.symm
  have rf6 := zh1.trans zx
  have s7 := (fh1 0 (by decide)).trans (show h.2.2.2.2 x 0 = .int (zi 0) from dx 0)
  have s8 := (fh1 2 (by decide)).trans (show h.2.2.2.2 x 2 = .int (zi 0) from dx 2)
  have s9 := (fh1 3 (by decide)).trans (show h.2.2.2.2 x 3 = .int (zi 0) from dx 3)
  have s10 := (fh1 4 (by decide)).trans (show h.2.2.2.2 x 4 = .int (zi 0) from dx 4)
  have s11 := (fh1 5 (by decide)).trans (show h.2.2.2.2 x 5 = .int (zi 0) from dx 5)
  have s12 := (fh1 6 (by decide)).trans (show h.2.2.2.2 x 6 = .int (zi 0) from dx 6)
  have s13 := (fh1 7 (by decide)).trans (show h.2.2.2.2 x 7 = .int (zi 0) from dx 7)
  have s14 := (fh1 8 (by decide)).trans (show h.2.2.2.2 x 8 = .int (zi 0) from dx 8)
  have s15 := (fh1 9 (by decide)).trans (show h.2.2.2.2 x 9 = .int (zi 0) from dx 9)
  have s16 := (fh1 10 (by decide)).trans (show h.2.2.2.2 x 10 = .int (zi 0) from dx 10)
  have s17 := (fh1 11 (by decide)).trans (show h.2.2.2.2 x 11 = .int (zi 0) from dx 11)
  refine gz_s 2 (pc' := 11) (L' := [some (.ref x)]) (S' := [.int (zi 1), .ref x]) rfl ?_
  refine gs_rput rfl (by decide) rfl sS4.1 tx nx rf5 kh1 rfl (Or.inl rfl) (fun h18 g19 nh18 mh18 kh18 zh18 eh18 fh18 => ?_)
  have G20 : gSg [83, 200] [x] [] ty h ty h18 := gSg.tr (gSg.ss G3 sS4 (by decide)) g19 (by decide) (by decide) (fun x hx => Or.inr hx)
  have sS21 : gSs rT 1027 ty [] h18 h18 := gSs.rf g19.1
  have rf22 := Nat.lt_of_lt_of_eq rf5 nh18.symm
  have rf23 := zh18.trans rf6
  have s24 := (fh18 0 (by decide)).trans s7
  have s25 := (fh18 3 (by decide)).trans s9
  have s26 := (fh18 4 (by decide)).trans s10
  have s27 := (fh18 5 (by decide)).trans s11
  have s28 := (fh18 6 (by decide)).trans s12
  have s29 := (fh18 7 (by decide)).trans s13
  have s30 := (fh18 8 (by decide)).trans s14
  have s31 := (fh18 9 (by decide)).trans s15
  have s32 := (fh18 10 (by decide)).trans s16
  have s33 := (fh18 11 (by decide)).trans s17
  have s34 := (fh18 1 (by decide)).trans eh1
  obtain ⟨ty36, g35, tg35, ug35⟩ := gSg.adx 83 sS21.1 tx nx rf22 rfl kh18 (by show (0 : Nat) ≤ _; have h9 := rf23; omega) (by show _ ≤ (0 : Nat); have h9 := rf23; omega) (fun ty9 w9 k hk => ad83 (by rw [s24]; exact ⟨0, rfl, by show ((-1) : Int) ≤ _; omega, by show _ ≤ (255 : Int); omega⟩) (by rw [s34]; exact ⟨1, rfl, by show ((-1) : Int) ≤ _; omega, by show _ ≤ (15 : Int); omega⟩) (by rw [eh18]; exact ⟨1, rfl, by show (0 : Int) ≤ _; omega, by show _ ≤ (15 : Int); omega⟩) (by rw [s25]; exact ⟨0, rfl, by show ((-1) : Int) ≤ _; omega, by show _ ≤ (255 : Int); omega⟩) (by rw [s26]; exact ⟨0, rfl, by show (0 : Int) ≤ _; omega, by show _ ≤ (16 : Int); omega⟩) (by rw [s27]; exact ⟨0, rfl, by show (0 : Int) ≤ _; omega, by show _ ≤ (16 : Int); omega⟩) (by rw [s28]; exact ⟨0, rfl, by show (0 : Int) ≤ _; omega, by show _ ≤ (16 : Int); omega⟩) (by rw [s29]; exact ⟨0, rfl, by show (0 : Int) ≤ _; omega, by show _ ≤ (16 : Int); omega⟩) (by rw [s30]; exact ⟨0, rfl, by show (0 : Int) ≤ _; omega, by show _ ≤ (192 : Int); omega⟩) (by rw [s31]; exact ⟨0, rfl, by show (0 : Int) ≤ _; omega, by show _ ≤ (15 : Int); omega⟩) (by rw [s32]; exact ⟨0, rfl, by show (0 : Int) ≤ _; omega, by show _ ≤ (15 : Int); omega⟩) (by rw [s33]; exact ⟨0, rfl, by show ((-2147483648) : Int) ≤ _; omega, by show _ ≤ (2147483647 : Int); omega⟩) k)
  have uq37 := ug35 uq (Or.inr no0)
  have G38 : gSg [83, 200] [x] [] ty h ty36 h18 := gSg.tr (gSg.ss G20 sS21 (by decide)) g35 (by decide) (by decide) (fun x hx => Or.inr hx)
  have sS39 : gSs rT 1027 ty36 [] h18 h18 := gSs.rf g35.1
  have G40 : gSg [83, 200] [x] [] ty h ty36 h18 := gSg.ss G38 sS39 (by decide)
  exact gz_end (I := .return_) (len := 1) rfl (Or.inl rfl) ⟨ty36, G40, tg35, rfl, (by dsimp only; omega), (by dsimp only; omega), uq37⟩
set_option maxRecDepth 20000 in
set_option maxHeartbeats 4000000 in
theorem ct_Band2 (d : Nat) {ty : Nat → Nat} {h : gH} (hJ : gJ rT 1027 ty h) (x : Nat) (tx : ty x = 200) (nx : 1027 ≤ x) (lx : x < h.1) (kx : h.2.2.1 x = some (.inr 0)) (zx : h.2.2.2.1 x = 0) (dx : ∀ k, h.2.2.2.2 x k = defaultValue (gGG.2.1 0 k)) (no0 : gNo [84] ty) (uq : gUq ty) : gz gPP gGG gcn (d + 1) gt3 0 (gent [.ref x] 1) [] h (fun q _ => ∃ ty9 : Nat → Nat, gSg [84, 200] [x] [] ty h ty9 q.2.2 ∧ ty9 x = 84 ∧ gfin gt3 q.1 q.2.1 = some none ∧ ((q.2.2.1 : Int) = h.1 + 0) ∧ ((q.2.2.2.1 : Int) = h.2.1 + 0) ∧ gUq ty9) := by
  have hS : gSs rT 1027 ty [] h h := gSs.rf hJ
  have G0 : gSg [84, 200] [x] [] ty h ty h := gSg.rf hJ (fun x hx => by rw [List.mem_singleton.mp hx, tx]; rfl)
  refine gz_s 1 (pc' := 1) (L' := [some (.ref x)]) (S' := [.ref x]) rfl ?_
  refine gz_obj rfl (by decide) (by omega) rfl (by decide) ?_
  refine gz_s 2 (pc' := 6) (L' := [some (.ref x)]) (S' := [.int (zi 1), .ref x]) rfl ?_
  refine gs_rput rfl (by decide) rfl hS.1 tx nx lx kx rfl (Or.inl rfl) (fun h1 g2 nh1 mh1 kh1 zh1 eh1 fh1 => ?_)
  have G3 : gSg [84, 200] [x] [] ty h ty h1 := gSg.tr (gSg.ss G0 hS (by decide)) g2 (by decide) (by decide) (fun x hx => Or.inr hx)
  have sS4 : gSs rT 1027 ty [] h1 h1 := gSs.rf g2.1
  have rf5 := Nat.lt_of_lt_of_eq lx nh1.symm
  have rf6 := zh1.trans zx
  have s7 := (fh1 0 (by decide)).trans (show h.2.2.2.2 x 0 = .int (zi 0) from dx 0)
  have s8 := (fh1 2 (by decide)).trans (show h.2.2.2.2 x 2 = .int (zi 0) from dx 2)
  have s9 := (fh1 3 (by decide)).trans (show h.2.2.2.2 x 3 = .int (zi 0) from dx 3)
  have s10 := (fh1 4 (by decide)).trans (show h.2.2.2.2 x 4 = .int (zi 0) from dx 4)
  have s11 := (fh1 5 (by decide)).trans (show h.2.2.2.2 x 5 = .int (zi 0) from dx 5)
  have s12 := (fh1 6 (by decide)).trans (show h.2.2.2.2 x 6 = .int (zi 0) from dx 6)
  have s13 := (fh1 7 (by decide)).trans (show h.2.2.2.2 x 7 = .int (zi 0) from dx 7)
  have s14 := (fh1 8 (by decide)).trans (show h.2.2.2.2 x 8 = .int (zi 0) from dx 8)
  have s15 := (fh1 9 (by decide)).trans (show h.2.2.2.2 x 9 = .int (zi 0) from dx 9)
  have s16 := (fh1 10 (by decide)).trans (show h.2.2.2.2 x 10 = .int (zi 0) from dx 10)
  have s17 := (fh1 11 (by decide)).trans (show h.2.2.2.2 x 11 = .int (zi 0) from dx 11)
  refine gz_s 2 (pc' := 11) (L' := [some (.ref x)]) (S' := [.int (zi 1), .ref x]) rfl ?_
  refine gs_rput rfl (by decide) rfl sS4.1 tx nx rf5 kh1 rfl (Or.inl rfl) (fun h18 g19 nh18 mh18 kh18 zh18 eh18 fh18 => ?_)
  have G20 : gSg [84, 200] [x] [] ty h ty h18 := gSg.tr (gSg.ss G3 sS4 (by decide)) g19 (by decide) (by decide) (fun x hx => Or.inr hx)
  have sS21 : gSs rT 1027 ty [] h18 h18 := gSs.rf g19.1
  have rf22 := Nat.lt_of_lt_of_eq rf5 nh18.symm
  have rf23 := zh18.trans rf6
  have s24 := (fh18 0 (by decide)).trans s7
  have s25 := (fh18 3 (by decide)).trans s9
  have s26 := (fh18 4 (by decide)).trans s10
  have s27 := (fh18 5 (by decide)).trans s11
  have s28 := (fh18 6 (by decide)).trans s12
  have s29 := (fh18 7 (by decide)).trans s13
  have s30 := (fh18 8 (by decide)).trans s14
  have s31 := (fh18 9 (by decide)).trans s15
  have s32 := (fh18 10 (by decide)).trans s16
  have s33 := (fh18 11 (by decide)).trans s17
  have s34 := (fh18 1 (by decide)).trans eh1
  obtain ⟨ty36, g35, tg35, ug35⟩ := gSg.adx 84 sS21.1 tx nx rf22 rfl kh18 (by show (0 : Nat) ≤ _; have h9 := rf23; omega) (by show _ ≤ (0 : Nat); have h9 := rf23; omega) (fun ty9 w9 k hk => ad84 (by rw [s24]; exact ⟨0, rfl, by show ((-1) : Int) ≤ _; omega, by show _ ≤ (255 : Int); omega⟩) (by rw [s34]; exact ⟨1, rfl, by show ((-1) : Int) ≤ _; omega, by show _ ≤ (15 : Int); omega⟩) (by rw [eh18]; exact ⟨1, rfl, by show (0 : Int) ≤ _; omega, by show _ ≤ (15 : Int); omega⟩) (by rw [s25]; exact ⟨0, rfl, by show ((-1) : Int) ≤ _; omega, by show _ ≤ (255 : Int); omega⟩) (by rw [s26]; exact ⟨0, rfl, by show (0 : Int) ≤ _; omega, by show _ ≤ (16 : Int); omega⟩) (by rw [s27]; exact ⟨0, rfl, by show (0 : Int) ≤ _; omega, by show _ ≤ (16 : Int); omega⟩) (by rw [s28]; exact ⟨0, rfl, by show (0 : Int) ≤ _; omega, by show _ ≤ (16 : Int); omega⟩) (by rw [s29]; exact ⟨0, rfl, by show (0 : Int) ≤ _; omega, by show _ ≤ (16 : Int); omega⟩) (by rw [s30]; exact ⟨0, rfl, by show (0 : Int) ≤ _; omega, by show _ ≤ (192 : Int); omega⟩) (by rw [s31]; exact ⟨0, rfl, by show (0 : Int) ≤ _; omega, by show _ ≤ (15 : Int); omega⟩) (by rw [s32]; exact ⟨0, rfl, by show (0 : Int) ≤ _; omega, by show _ ≤ (15 : Int); omega⟩) (by rw [s33]; exact ⟨0, rfl, by show ((-2147483648) : Int) ≤ _; omega, by show _ ≤ (2147483647 : Int); omega⟩) k)
  have uq37 := ug35 uq (Or.inr no0)
  have G38 : gSg [84, 200] [x] [] ty h ty36 h18 := gSg.tr (gSg.ss G20 sS21 (by decide)) g35 (by decide) (by decide) (fun x hx => Or.inr hx)
  have sS39 : gSs rT 1027 ty36 [] h18 h18 := gSs.rf g35.1
  have G40 : gSg [84, 200] [x] [] ty h ty36 h18 := gSg.ss G38 sS39 (by decide)
  exact gz_end (I := .return_) (len := 1) rfl (Or.inl rfl) ⟨ty36, G40, tg35, rfl, (by dsimp only; omega), (by dsimp only; omega), uq37⟩
set_option maxRecDepth 20000 in
set_option maxHeartbeats 4000000 in
theorem ct_Suited0 (d : Nat) {ty : Nat → Nat} {h : gH} (hJ : gJ rT 1027 ty h) (x : Nat) (tx : ty x = 200) (nx : 1027 ≤ x) (lx : x < h.1) (kx : h.2.2.1 x = some (.inr 9)) (zx : h.2.2.2.1 x = 0) (dx : ∀ k, h.2.2.2.2 x k = defaultValue (gGG.2.1 9 k)) (no0 : gNo [91, 93, 94, 95, 96, 97, 98, 99] ty) (uq : gUq ty) : gz gPP gGG gcn (d + 1) gt91 0 (gent [.ref x] 1) [] h (fun q _ => ∃ ty9 : Nat → Nat, gSg [91, 93, 94, 95, 96, 97, 98, 99, 200] [x] [] ty h ty9 q.2.2 ∧ ty9 x = 91 ∧ gfin gt91 q.1 q.2.1 = some none ∧ ((q.2.2.1 : Int) = h.1 + 7) ∧ ((q.2.2.2.1 : Int) = h.2.1 + 1558) ∧ gUq ty9) := by
  have hS : gSs rT 1027 ty [] h h := gSs.rf hJ
  have G0 : gSg [91, 93, 94, 95, 96, 97, 98, 99, 200] [x] [] ty h ty h := gSg.rf hJ (fun x hx => by rw [List.mem_singleton.mp hx, tx]; rfl)
  refine gz_s 1 (pc' := 1) (L' := [some (.ref x)]) (S' := [.ref x]) rfl ?_
  refine gz_obj rfl (by decide) (by omega) rfl (by decide) ?_
  refine gz_s 2 (pc' := 7) (L' := [some (.ref x)]) (S' := [.int (zi 17), .ref x]) rfl ?_
  refine gs_newr 93 rfl (by decide) rfl hS.1 (Nat.le_of_lt (Nat.lt_of_le_of_lt nx lx)) (by omega) (by omega) rfl rfl (by show (17 : Int) ≤ _; omega) (by show _ ≤ (17 : Int); omega) (fun _ _ => gos_i (by decide) (by decide)) (fun ty1 h2 c3 g4 tc3 lc3 nc3 mc3 ec3 dc3 uc3 => ?_)
  have gac3 : h.1 ≤ c3 := by have h8 := G0.2.1; have h9 := hS.2.1; omega
  have uq5 := uc3 uq (Or.inr (gNo.sub (by decide) no0))
  have G6 : gSg [91, 93, 94, 95, 96, 97, 98, 99, 200] [x] [] ty h ty1 h2 := gSg.tr (gSg.ss G0 hS (by decide)) g4 (by decide) (by decide) (fun x hx => by cases hx)
  have rw7 := gSg.raw g4 lx (fun w => by cases w)
  have rf8 := (rw7.2.2.1.trans kx)
  have rf9 := (rw7.2.2.2.trans zx)
  have t10 : ty1 x = 200 := rw7.1.trans tx
  have s11 := gSg.rawat g4 lx (fun w => by cases w) tx (by decide) (show h.2.2.2.2 x 0 = .null from dx 0)
  have s12 := gSg.rawat g4 lx (fun w => by cases w) tx (by decide) (show h.2.2.2.2 x 1 = .null from dx 1)
  have s13 := gSg.rawat g4 lx (fun w => by cases w) tx (by decide) (show h.2.2.2.2 x 2 = .null from dx 2)
  have s14 := gSg.rawat g4 lx (fun w => by cases w) tx (by decide) (show h.2.2.2.2 x 3 = .null from dx 3)
  have s15 := gSg.rawat g4 lx (fun w => by cases w) tx (by decide) (show h.2.2.2.2 x 4 = .int (zi 0) from dx 4)
  have s16 := gSg.rawat g4 lx (fun w => by cases w) tx (by decide) (show h.2.2.2.2 x 5 = .null from dx 5)
  have s17 := gSg.rawat g4 lx (fun w => by cases w) tx (by decide) (show h.2.2.2.2 x 6 = .null from dx 6)
  have s18 := gSg.rawat g4 lx (fun w => by cases w) tx (by decide) (show h.2.2.2.2 x 7 = .null from dx 7)
  have s19 := gSg.rawat g4 lx (fun w => by cases w) tx (by decide) (show h.2.2.2.2 x 8 = .int (zi 0) from dx 8)
  have pr20 : gNo [91, 94, 95, 96, 97, 98, 99] ty1 := gNo.gr g4 (by decide) (gNo.sub (by decide) no0)
  have sS21 : gSs rT 1027 ty1 [] h2 h2 := gSs.rf g4.1
  refine gs_rput rfl (by decide) rfl sS21.1 t10 nx rw7.2.1 rf8 rfl (Or.inr rfl) (fun h22 g23 nh22 mh22 kh22 zh22 eh22 fh22 => ?_)
  have G24 : gSg [91, 93, 94, 95, 96, 97, 98, 99, 200] [x] [] ty h ty1 h22 := gSg.tr (gSg.ss G6 sS21 (by decide)) g23 (by decide) (by decide) (fun x hx => Or.inr hx)
  have sS25 : gSs rT 1027 ty1 [] h22 h22 := gSs.rf g23.1
  have rf26 := Nat.lt_of_lt_of_eq rw7.2.1 nh22.symm
  have rf27 := zh22.trans rf9
  have s28 := (fh22 1 (by decide)).trans s12
  have s29 := (fh22 2 (by decide)).trans s13
  have s30 := (fh22 3 (by decide)).trans s14
  have s31 := (fh22 4 (by decide)).trans s15
  have s32 := (fh22 5 (by decide)).trans s16
  have s33 := (fh22 6 (by decide)).trans s17
  have s34 := (fh22 7 (by decide)).trans s18
  have s35 := (fh22 8 (by decide)).trans s19
  refine gz_s 2 (pc' := 16) (L' := [some (.ref x)]) (S' := [.int (zi 256), .ref x]) rfl ?_
  refine gs_newr 94 rfl (by decide) rfl sS25.1 (Nat.le_of_lt (Nat.lt_of_le_of_lt (gJ.cell sS25.1 tc3 rfl).1 (gJ.cell sS25.1 tc3 rfl).2.1)) (by omega) (by omega) rfl rfl (by show (256 : Int) ≤ _; omega) (by show _ ≤ (256 : Int); omega) (fun _ _ => gos_i (by decide) (by decide)) (fun ty36 h37 c38 g39 tc38 lc38 nc38 mc38 ec38 dc38 uc38 => ?_)
  have gac38 : h.1 ≤ c38 := by have h8 := G24.2.1; have h9 := sS25.2.1; omega
  have uq40 := uc38 uq5 (Or.inr (gNo.sub (by decide) pr20))
  have G41 : gSg [91, 93, 94, 95, 96, 97, 98, 99, 200] [x] [] ty h ty36 h37 := gSg.tr (gSg.ss G24 sS25 (by decide)) g39 (by decide) (by decide) (fun x hx => by cases hx)
  have rw42 := gSg.raw g39 rf26 (fun w => by cases w)
  have rf43 := (rw42.2.2.1.trans kh22)
  have rf44 := (rw42.2.2.2.trans rf27)
  have t45 : ty36 x = 200 := rw42.1.trans t10
  have t46 : ty36 c3 = 93 := gSg.typ g39 sS25.1 tc3 rfl
  have s47 := gSg.rawat g39 rf26 (fun w => by cases w) t10 (by decide) s28
  have s48 := gSg.rawat g39 rf26 (fun w => by cases w) t10 (by decide) s29
  have s49 := gSg.rawat g39 rf26 (fun w => by cases w) t10 (by decide) s30
  have s50 := gSg.rawat g39 rf26 (fun w => by cases w) t10 (by decide) s31
  have s51 := gSg.rawat g39 rf26 (fun w => by cases w) t10 (by decide) s32
  have s52 := gSg.rawat g39 rf26 (fun w => by cases w) t10 (by decide) s33
  have s53 := gSg.rawat g39 rf26 (fun w => by cases w) t10 (by decide) s34
  have s54 := gSg.rawat g39 rf26 (fun w => by cases w) t10 (by decide) s35
  have s55 := gSg.rawat g39 rf26 (fun w => by cases w) t10 (by decide) eh22
  have pr56 : gNo [91, 95, 96, 97, 98, 99] ty36 := gNo.gr g39 (by decide) (gNo.sub (by decide) pr20)
  have sS57 : gSs rT 1027 ty36 [] h37 h37 := gSs.rf g39.1
  refine gs_rput rfl (by decide) rfl sS57.1 t45 nx rw42.2.1 rf43 rfl (Or.inr rfl) (fun h58 g59 nh58 mh58 kh58 zh58 eh58 fh58 => ?_)
  have G60 : gSg [91, 93, 94, 95, 96, 97, 98, 99, 200] [x] [] ty h ty36 h58 := gSg.tr (gSg.ss G41 sS57 (by decide)) g59 (by decide) (by decide) (fun x hx => Or.inr hx)
  have sS61 : gSs rT 1027 ty36 [] h58 h58 := gSs.rf g59.1
  have rf62 := Nat.lt_of_lt_of_eq rw42.2.1 nh58.symm
  have rf63 := zh58.trans rf44
  have s64 := (fh58 2 (by decide)).trans s48
  have s65 := (fh58 3 (by decide)).trans s49
  have s66 := (fh58 4 (by decide)).trans s50
  have s67 := (fh58 5 (by decide)).trans s51
  have s68 := (fh58 6 (by decide)).trans s52
  have s69 := (fh58 7 (by decide)).trans s53
  have s70 := (fh58 8 (by decide)).trans s54
  have s71 := (fh58 0 (by decide)).trans s55
  refine gz_s 2 (pc' := 25) (L' := [some (.ref x)]) (S' := [.int (zi 257), .ref x]) rfl ?_
  refine gs_newr 95 rfl (by decide) rfl sS61.1 (Nat.le_of_lt (Nat.lt_of_le_of_lt (gJ.cell sS61.1 t46 rfl).1 (gJ.cell sS61.1 t46 rfl).2.1)) (by omega) (by omega) rfl rfl (by show (257 : Int) ≤ _; omega) (by show _ ≤ (257 : Int); omega) (fun _ _ => gos_i (by decide) (by decide)) (fun ty72 h73 c74 g75 tc74 lc74 nc74 mc74 ec74 dc74 uc74 => ?_)
  have gac74 : h.1 ≤ c74 := by have h8 := G60.2.1; have h9 := sS61.2.1; omega
  have uq76 := uc74 uq40 (Or.inr (gNo.sub (by decide) pr56))
  have G77 : gSg [91, 93, 94, 95, 96, 97, 98, 99, 200] [x] [] ty h ty72 h73 := gSg.tr (gSg.ss G60 sS61 (by decide)) g75 (by decide) (by decide) (fun x hx => by cases hx)
  have rw78 := gSg.raw g75 rf62 (fun w => by cases w)
  have rf79 := (rw78.2.2.1.trans kh58)
  have rf80 := (rw78.2.2.2.trans rf63)
  have t81 : ty72 x = 200 := rw78.1.trans t45
  have t82 : ty72 c3 = 93 := gSg.typ g75 sS61.1 t46 rfl
  have t83 : ty72 c38 = 94 := gSg.typ g75 sS61.1 tc38 rfl
  have s84 := gSg.rawat g75 rf62 (fun w => by cases w) t45 (by decide) s64
  have s85 := gSg.rawat g75 rf62 (fun w => by cases w) t45 (by decide) s65
  have s86 := gSg.rawat g75 rf62 (fun w => by cases w) t45 (by decide) s66
  have s87 := gSg.rawat g75 rf62 (fun w => by cases w) t45 (by decide) s67
  have s88 := gSg.rawat g75 rf62 (fun w => by cases w) t45 (by decide) s68
  have s89 := gSg.rawat g75 rf62 (fun w => by cases w) t45 (by decide) s69
  have s90 := gSg.rawat g75 rf62 (fun w => by cases w) t45 (by decide) s70
  have s91 := gSg.rawat g75 rf62 (fun w => by cases w) t45 (by decide) s71
  have s92 := gSg.rawat g75 rf62 (fun w => by cases w) t45 (by decide) eh58
  have pr93 : gNo [91, 96, 97, 98, 99] ty72 := gNo.gr g75 (by decide) (gNo.sub (by decide) pr56)
  have sS94 : gSs rT 1027 ty72 [] h73 h73 := gSs.rf g75.1
  refine gs_rput rfl (by decide) rfl sS94.1 t81 nx rw78.2.1 rf79 rfl (Or.inr rfl) (fun h95 g96 nh95 mh95 kh95 zh95 eh95 fh95 => ?_)
  have G97 : gSg [91, 93, 94, 95, 96, 97, 98, 99, 200] [x] [] ty h ty72 h95 := gSg.tr (gSg.ss G77 sS94 (by decide)) g96 (by decide) (by decide) (fun x hx => Or.inr hx)
  have sS98 : gSs rT 1027 ty72 [] h95 h95 := gSs.rf g96.1
  have rf99 := Nat.lt_of_lt_of_eq rw78.2.1 nh95.symm
  have rf100 := zh95.trans rf80
  have s101 := (fh95 3 (by decide)).trans s85
  have s102 := (fh95 4 (by decide)).trans s86
  have s103 := (fh95 5 (by decide)).trans s87
  have s104 := (fh95 6 (by decide)).trans s88
  have s105 := (fh95 7 (by decide)).trans s89
  have s106 := (fh95 8 (by decide)).trans s90
  have s107 := (fh95 0 (by decide)).trans s91
  have s108 := (fh95 1 (by decide)).trans s92
  refine gz_s 2 (pc' := 34) (L' := [some (.ref x)]) (S' := [.int (zi 257), .ref x]) rfl ?_
  refine gs_newr 96 rfl (by decide) rfl sS98.1 (Nat.le_of_lt (Nat.lt_of_le_of_lt (gJ.cell sS98.1 t82 rfl).1 (gJ.cell sS98.1 t82 rfl).2.1)) (by omega) (by omega) rfl rfl (by show (257 : Int) ≤ _; omega) (by show _ ≤ (257 : Int); omega) (fun _ _ => gos_i (by decide) (by decide)) (fun ty109 h110 c111 g112 tc111 lc111 nc111 mc111 ec111 dc111 uc111 => ?_)
  have gac111 : h.1 ≤ c111 := by have h8 := G97.2.1; have h9 := sS98.2.1; omega
  have uq113 := uc111 uq76 (Or.inr (gNo.sub (by decide) pr93))
  have G114 : gSg [91, 93, 94, 95, 96, 97, 98, 99, 200] [x] [] ty h ty109 h110 := gSg.tr (gSg.ss G97 sS98 (by decide)) g112 (by decide) (by decide) (fun x hx => by cases hx)
  have rw115 := gSg.raw g112 rf99 (fun w => by cases w)
  have rf116 := (rw115.2.2.1.trans kh95)
  have rf117 := (rw115.2.2.2.trans rf100)
  have t118 : ty109 x = 200 := rw115.1.trans t81
  have t119 : ty109 c3 = 93 := gSg.typ g112 sS98.1 t82 rfl
  have t120 : ty109 c38 = 94 := gSg.typ g112 sS98.1 t83 rfl
  have t121 : ty109 c74 = 95 := gSg.typ g112 sS98.1 tc74 rfl
  have s122 := gSg.rawat g112 rf99 (fun w => by cases w) t81 (by decide) s101
  have s123 := gSg.rawat g112 rf99 (fun w => by cases w) t81 (by decide) s102
  have s124 := gSg.rawat g112 rf99 (fun w => by cases w) t81 (by decide) s103
  have s125 := gSg.rawat g112 rf99 (fun w => by cases w) t81 (by decide) s104
  have s126 := gSg.rawat g112 rf99 (fun w => by cases w) t81 (by decide) s105
  have s127 := gSg.rawat g112 rf99 (fun w => by cases w) t81 (by decide) s106
  have s128 := gSg.rawat g112 rf99 (fun w => by cases w) t81 (by decide) s107
  have s129 := gSg.rawat g112 rf99 (fun w => by cases w) t81 (by decide) s108
  have s130 := gSg.rawat g112 rf99 (fun w => by cases w) t81 (by decide) eh95
  have pr131 : gNo [91, 97, 98, 99] ty109 := gNo.gr g112 (by decide) (gNo.sub (by decide) pr93)
  have sS132 : gSs rT 1027 ty109 [] h110 h110 := gSs.rf g112.1
  refine gs_rput rfl (by decide) rfl sS132.1 t118 nx rw115.2.1 rf116 rfl (Or.inr rfl) (fun h133 g134 nh133 mh133 kh133 zh133 eh133 fh133 => ?_)
  have G135 : gSg [91, 93, 94, 95, 96, 97, 98, 99, 200] [x] [] ty h ty109 h133 := gSg.tr (gSg.ss G114 sS132 (by decide)) g134 (by decide) (by decide) (fun x hx => Or.inr hx)
  have sS136 : gSs rT 1027 ty109 [] h133 h133 := gSs.rf g134.1
  have rf137 := Nat.lt_of_lt_of_eq rw115.2.1 nh133.symm
  have rf138 := zh133.trans rf117
  have s139 := (fh133 4 (by decide)).trans s123
  have s140 := (fh133 5 (by decide)).trans s124
  have s141 := (fh133 6 (by decide)).trans s125
  have s142 := (fh133 7 (by decide)).trans s126
  have s143 := (fh133 8 (by decide)).trans s127
  have s144 := (fh133 0 (by decide)).trans s128
  have s145 := (fh133 1 (by decide)).trans s129
  have s146 := (fh133 2 (by decide)).trans s130
  refine gz_s 2 (pc' := 43) (L' := [some (.ref x)]) (S' := [.int (zi 257), .ref x]) rfl ?_
  refine gs_newr 97 rfl (by decide) rfl sS136.1 (Nat.le_of_lt (Nat.lt_of_le_of_lt (gJ.cell sS136.1 t119 rfl).1 (gJ.cell sS136.1 t119 rfl).2.1)) (by omega) (by omega) rfl rfl (by show (257 : Int) ≤ _; omega) (by show _ ≤ (257 : Int); omega) (fun _ _ => gos_i (by decide) (by decide)) (fun ty147 h148 c149 g150 tc149 lc149 nc149 mc149 ec149 dc149 uc149 => ?_)
  have gac149 : h.1 ≤ c149 := by have h8 := G135.2.1; have h9 := sS136.2.1; omega
  have uq151 := uc149 uq113 (Or.inr (gNo.sub (by decide) pr131))
  have G152 : gSg [91, 93, 94, 95, 96, 97, 98, 99, 200] [x] [] ty h ty147 h148 := gSg.tr (gSg.ss G135 sS136 (by decide)) g150 (by decide) (by decide) (fun x hx => by cases hx)
  have rw153 := gSg.raw g150 rf137 (fun w => by cases w)
  have rf154 := (rw153.2.2.1.trans kh133)
  have rf155 := (rw153.2.2.2.trans rf138)
  have t156 : ty147 x = 200 := rw153.1.trans t118
  have t157 : ty147 c3 = 93 := gSg.typ g150 sS136.1 t119 rfl
  have t158 : ty147 c38 = 94 := gSg.typ g150 sS136.1 t120 rfl
  have t159 : ty147 c74 = 95 := gSg.typ g150 sS136.1 t121 rfl
  have t160 : ty147 c111 = 96 := gSg.typ g150 sS136.1 tc111 rfl
  have s161 := gSg.rawat g150 rf137 (fun w => by cases w) t118 (by decide) s139
  have s162 := gSg.rawat g150 rf137 (fun w => by cases w) t118 (by decide) s140
  have s163 := gSg.rawat g150 rf137 (fun w => by cases w) t118 (by decide) s141
  have s164 := gSg.rawat g150 rf137 (fun w => by cases w) t118 (by decide) s142
  have s165 := gSg.rawat g150 rf137 (fun w => by cases w) t118 (by decide) s143
  have s166 := gSg.rawat g150 rf137 (fun w => by cases w) t118 (by decide) s144
  have s167 := gSg.rawat g150 rf137 (fun w => by cases w) t118 (by decide) s145
  have s168 := gSg.rawat g150 rf137 (fun w => by cases w) t118 (by decide) s146
  have s169 := gSg.rawat g150 rf137 (fun w => by cases w) t118 (by decide) eh133
  have pr170 : gNo [91, 98, 99] ty147 := gNo.gr g150 (by decide) (gNo.sub (by decide) pr131)
  have sS171 : gSs rT 1027 ty147 [] h148 h148 := gSs.rf g150.1
  refine gs_rput rfl (by decide) rfl sS171.1 t156 nx rw153.2.1 rf154 rfl (Or.inr rfl) (fun h172 g173 nh172 mh172 kh172 zh172 eh172 fh172 => ?_)
  have G174 : gSg [91, 93, 94, 95, 96, 97, 98, 99, 200] [x] [] ty h ty147 h172 := gSg.tr (gSg.ss G152 sS171 (by decide)) g173 (by decide) (by decide) (fun x hx => Or.inr hx)
  have sS175 : gSs rT 1027 ty147 [] h172 h172 := gSs.rf g173.1
  have rf176 := Nat.lt_of_lt_of_eq rw153.2.1 nh172.symm
  have rf177 := zh172.trans rf155
  have s178 := (fh172 4 (by decide)).trans s161
  have s179 := (fh172 6 (by decide)).trans s163
  have s180 := (fh172 7 (by decide)).trans s164
  have s181 := (fh172 8 (by decide)).trans s165
  have s182 := (fh172 0 (by decide)).trans s166
  have s183 := (fh172 1 (by decide)).trans s167
  have s184 := (fh172 2 (by decide)).trans s168
  have s185 := (fh172 3 (by decide)).trans s169
  refine gz_s 2 (pc' := 52) (L' := [some (.ref x)]) (S' := [.int (zi 257), .ref x]) rfl ?_
  refine gs_newr 98 rfl (by decide) rfl sS175.1 (Nat.le_of_lt (Nat.lt_of_le_of_lt (gJ.cell sS175.1 t157 rfl).1 (gJ.cell sS175.1 t157 rfl).2.1)) (by omega) (by omega) rfl rfl (by show (257 : Int) ≤ _; omega) (by show _ ≤ (257 : Int); omega) (fun _ _ => gos_i (by decide) (by decide)) (fun ty186 h187 c188 g189 tc188 lc188 nc188 mc188 ec188 dc188 uc188 => ?_)
  have gac188 : h.1 ≤ c188 := by have h8 := G174.2.1; have h9 := sS175.2.1; omega
  have uq190 := uc188 uq151 (Or.inr (gNo.sub (by decide) pr170))
  have G191 : gSg [91, 93, 94, 95, 96, 97, 98, 99, 200] [x] [] ty h ty186 h187 := gSg.tr (gSg.ss G174 sS175 (by decide)) g189 (by decide) (by decide) (fun x hx => by cases hx)
  have rw192 := gSg.raw g189 rf176 (fun w => by cases w)
  have rf193 := (rw192.2.2.1.trans kh172)
  have rf194 := (rw192.2.2.2.trans rf177)
  have t195 : ty186 x = 200 := rw192.1.trans t156
  have t196 : ty186 c3 = 93 := gSg.typ g189 sS175.1 t157 rfl
  have t197 : ty186 c38 = 94 := gSg.typ g189 sS175.1 t158 rfl
  have t198 : ty186 c74 = 95 := gSg.typ g189 sS175.1 t159 rfl
  have t199 : ty186 c111 = 96 := gSg.typ g189 sS175.1 t160 rfl
  have t200 : ty186 c149 = 97 := gSg.typ g189 sS175.1 tc149 rfl
  have s201 := gSg.rawat g189 rf176 (fun w => by cases w) t156 (by decide) s178
  have s202 := gSg.rawat g189 rf176 (fun w => by cases w) t156 (by decide) s179
  have s203 := gSg.rawat g189 rf176 (fun w => by cases w) t156 (by decide) s180
  have s204 := gSg.rawat g189 rf176 (fun w => by cases w) t156 (by decide) s181
  have s205 := gSg.rawat g189 rf176 (fun w => by cases w) t156 (by decide) s182
  have s206 := gSg.rawat g189 rf176 (fun w => by cases w) t156 (by decide) s183
  have s207 := gSg.rawat g189 rf176 (fun w => by cases w) t156 (by decide) s184
  have s208 := gSg.rawat g189 rf176 (fun w => by cases w) t156 (by decide) s185
  have s209 := gSg.rawat g189 rf176 (fun w => by cases w) t156 (by decide) eh172
  have pr210 : gNo [91, 99] ty186 := gNo.gr g189 (by decide) (gNo.sub (by decide) pr170)
  have sS211 : gSs rT 1027 ty186 [] h187 h187 := gSs.rf g189.1
  refine gs_rput rfl (by decide) rfl sS211.1 t195 nx rw192.2.1 rf193 rfl (Or.inr rfl) (fun h212 g213 nh212 mh212 kh212 zh212 eh212 fh212 => ?_)
  have G214 : gSg [91, 93, 94, 95, 96, 97, 98, 99, 200] [x] [] ty h ty186 h212 := gSg.tr (gSg.ss G191 sS211 (by decide)) g213 (by decide) (by decide) (fun x hx => Or.inr hx)
  have sS215 : gSs rT 1027 ty186 [] h212 h212 := gSs.rf g213.1
  have rf216 := Nat.lt_of_lt_of_eq rw192.2.1 nh212.symm
  have rf217 := zh212.trans rf194
  have s218 := (fh212 4 (by decide)).trans s201
  have s219 := (fh212 7 (by decide)).trans s203
  have s220 := (fh212 8 (by decide)).trans s204
  have s221 := (fh212 0 (by decide)).trans s205
  have s222 := (fh212 1 (by decide)).trans s206
  have s223 := (fh212 2 (by decide)).trans s207
  have s224 := (fh212 3 (by decide)).trans s208
  have s225 := (fh212 5 (by decide)).trans s209
  refine gz_s 2 (pc' := 61) (L' := [some (.ref x)]) (S' := [.int (zi 257), .ref x]) rfl ?_
  refine gs_newr 99 rfl (by decide) rfl sS215.1 (Nat.le_of_lt (Nat.lt_of_le_of_lt (gJ.cell sS215.1 t196 rfl).1 (gJ.cell sS215.1 t196 rfl).2.1)) (by omega) (by omega) rfl rfl (by show (257 : Int) ≤ _; omega) (by show _ ≤ (257 : Int); omega) (fun _ _ => gos_i (by decide) (by decide)) (fun ty226 h227 c228 g229 tc228 lc228 nc228 mc228 ec228 dc228 uc228 => ?_)
  have gac228 : h.1 ≤ c228 := by have h8 := G214.2.1; have h9 := sS215.2.1; omega
  have uq230 := uc228 uq190 (Or.inr (gNo.sub (by decide) pr210))
  have G231 : gSg [91, 93, 94, 95, 96, 97, 98, 99, 200] [x] [] ty h ty226 h227 := gSg.tr (gSg.ss G214 sS215 (by decide)) g229 (by decide) (by decide) (fun x hx => by cases hx)
  have rw232 := gSg.raw g229 rf216 (fun w => by cases w)
  have rf233 := (rw232.2.2.1.trans kh212)
  have rf234 := (rw232.2.2.2.trans rf217)
  have t235 : ty226 x = 200 := rw232.1.trans t195
  have t236 : ty226 c3 = 93 := gSg.typ g229 sS215.1 t196 rfl
  have t237 : ty226 c38 = 94 := gSg.typ g229 sS215.1 t197 rfl
  have t238 : ty226 c74 = 95 := gSg.typ g229 sS215.1 t198 rfl
  have t239 : ty226 c111 = 96 := gSg.typ g229 sS215.1 t199 rfl
  have t240 : ty226 c149 = 97 := gSg.typ g229 sS215.1 t200 rfl
  have t241 : ty226 c188 = 98 := gSg.typ g229 sS215.1 tc188 rfl
  have s242 := gSg.rawat g229 rf216 (fun w => by cases w) t195 (by decide) s218
  have s243 := gSg.rawat g229 rf216 (fun w => by cases w) t195 (by decide) s219
  have s244 := gSg.rawat g229 rf216 (fun w => by cases w) t195 (by decide) s220
  have s245 := gSg.rawat g229 rf216 (fun w => by cases w) t195 (by decide) s221
  have s246 := gSg.rawat g229 rf216 (fun w => by cases w) t195 (by decide) s222
  have s247 := gSg.rawat g229 rf216 (fun w => by cases w) t195 (by decide) s223
  have s248 := gSg.rawat g229 rf216 (fun w => by cases w) t195 (by decide) s224
  have s249 := gSg.rawat g229 rf216 (fun w => by cases w) t195 (by decide) s225
  have s250 := gSg.rawat g229 rf216 (fun w => by cases w) t195 (by decide) eh212
  have pr251 : gNo [91] ty226 := gNo.gr g229 (by decide) (gNo.sub (by decide) pr210)
  have sS252 : gSs rT 1027 ty226 [] h227 h227 := gSs.rf g229.1
  refine gs_rput rfl (by decide) rfl sS252.1 t235 nx rw232.2.1 rf233 rfl (Or.inr rfl) (fun h253 g254 nh253 mh253 kh253 zh253 eh253 fh253 => ?_)
  have G255 : gSg [91, 93, 94, 95, 96, 97, 98, 99, 200] [x] [] ty h ty226 h253 := gSg.tr (gSg.ss G231 sS252 (by decide)) g254 (by decide) (by decide) (fun x hx => Or.inr hx)
  have sS256 : gSs rT 1027 ty226 [] h253 h253 := gSs.rf g254.1
  have rf257 := Nat.lt_of_lt_of_eq rw232.2.1 nh253.symm
  have rf258 := zh253.trans rf234
  have s259 := (fh253 4 (by decide)).trans s242
  have s260 := (fh253 8 (by decide)).trans s244
  have s261 := (fh253 0 (by decide)).trans s245
  have s262 := (fh253 1 (by decide)).trans s246
  have s263 := (fh253 2 (by decide)).trans s247
  have s264 := (fh253 3 (by decide)).trans s248
  have s265 := (fh253 5 (by decide)).trans s249
  have s266 := (fh253 6 (by decide)).trans s250
  obtain ⟨ty268, g267, tg267, ug267⟩ := gSg.adx 91 sS256.1 t235 nx rf257 rfl kh253 (by show (0 : Nat) ≤ _; have h9 := rf258; omega) (by show _ ≤ (0 : Nat); have h9 := rf258; omega) (fun ty9 w9 k hk => ad91 (by rw [s261]; exact ⟨c3, rfl, w9 c3 _ t236 (by decide)⟩) (by rw [s262]; exact ⟨c38, rfl, w9 c38 _ t237 (by decide)⟩) (by rw [s263]; exact ⟨c74, rfl, w9 c74 _ t238 (by decide)⟩) (by rw [s264]; exact ⟨c111, rfl, w9 c111 _ t239 (by decide)⟩) (by rw [s259]; exact ⟨0, rfl, by show (0 : Int) ≤ _; omega, by show _ ≤ (256 : Int); omega⟩) (by rw [s265]; exact ⟨c149, rfl, w9 c149 _ t240 (by decide)⟩) (by rw [s266]; exact ⟨c188, rfl, w9 c188 _ t241 (by decide)⟩) (by rw [eh253]; exact ⟨c228, rfl, w9 c228 _ tc228 (by decide)⟩) (by rw [s260]; exact ⟨0, rfl, by show (0 : Int) ≤ _; omega, by show _ ≤ (257 : Int); omega⟩) k)
  have uq269 := ug267 uq230 (Or.inr pr251)
  have G270 : gSg [91, 93, 94, 95, 96, 97, 98, 99, 200] [x] [] ty h ty268 h253 := gSg.tr (gSg.ss G255 sS256 (by decide)) g267 (by decide) (by decide) (fun x hx => Or.inr hx)
  have t271 : ty268 c3 = 93 := gSg.typ g267 sS256.1 t236 rfl
  have t272 : ty268 c38 = 94 := gSg.typ g267 sS256.1 t237 rfl
  have t273 : ty268 c74 = 95 := gSg.typ g267 sS256.1 t238 rfl
  have t274 : ty268 c111 = 96 := gSg.typ g267 sS256.1 t239 rfl
  have t275 : ty268 c149 = 97 := gSg.typ g267 sS256.1 t240 rfl
  have t276 : ty268 c188 = 98 := gSg.typ g267 sS256.1 t241 rfl
  have t277 : ty268 c228 = 99 := gSg.typ g267 sS256.1 tc228 rfl
  have sS278 : gSs rT 1027 ty268 [] h253 h253 := gSs.rf g267.1
  have G279 : gSg [91, 93, 94, 95, 96, 97, 98, 99, 200] [x] [] ty h ty268 h253 := gSg.ss G270 sS278 (by decide)
  exact gz_end (I := .return_) (len := 1) rfl (Or.inl rfl) ⟨ty268, G279, tg267, rfl, (by dsimp only; omega), (by dsimp only; omega), uq269⟩
set_option maxRecDepth 20000 in
set_option maxHeartbeats 4000000 in
theorem ct_Suited1 (d : Nat) {ty : Nat → Nat} {h : gH} (hJ : gJ rT 1027 ty h) (x : Nat) (tx : ty x = 200) (nx : 1027 ≤ x) (lx : x < h.1) (kx : h.2.2.1 x = some (.inr 9)) (zx : h.2.2.2.1 x = 0) (dx : ∀ k, h.2.2.2.2 x k = defaultValue (gGG.2.1 9 k)) (no0 : gNo [76, 77, 78, 79, 80, 81, 85, 92] ty) (uq : gUq ty) : gz gPP gGG gcn (d + 1) gt91 0 (gent [.ref x] 1) [] h (fun q _ => ∃ ty9 : Nat → Nat, gSg [76, 77, 78, 79, 80, 81, 85, 92, 200] [x] [] ty h ty9 q.2.2 ∧ ty9 x = 92 ∧ gfin gt91 q.1 q.2.1 = some none ∧ ((q.2.2.1 : Int) = h.1 + 7) ∧ ((q.2.2.2.1 : Int) = h.2.1 + 1558) ∧ gUq ty9) := by
  have hS : gSs rT 1027 ty [] h h := gSs.rf hJ
  have G0 : gSg [76, 77, 78, 79, 80, 81, 85, 92, 200] [x] [] ty h ty h := gSg.rf hJ (fun x hx => by rw [List.mem_singleton.mp hx, tx]; rfl)
  refine gz_s 1 (pc' := 1) (L' := [some (.ref x)]) (S' := [.ref x]) rfl ?_
  refine gz_obj rfl (by decide) (by omega) rfl (by decide) ?_
  refine gz_s 2 (pc' := 7) (L' := [some (.ref x)]) (S' := [.int (zi 17), .ref x]) rfl ?_
  refine gs_newr 76 rfl (by decide) rfl hS.1 (Nat.le_of_lt (Nat.lt_of_le_of_lt nx lx)) (by omega) (by omega) rfl rfl (by show (17 : Int) ≤ _; omega) (by show _ ≤ (17 : Int); omega) (fun _ _ => gos_i (by decide) (by decide)) (fun ty1 h2 c3 g4 tc3 lc3 nc3 mc3 ec3 dc3 uc3 => ?_)
  have gac3 : h.1 ≤ c3 := by have h8 := G0.2.1; have h9 := hS.2.1; omega
  have uq5 := uc3 uq (Or.inr (gNo.sub (by decide) no0))
  have G6 : gSg [76, 77, 78, 79, 80, 81, 85, 92, 200] [x] [] ty h ty1 h2 := gSg.tr (gSg.ss G0 hS (by decide)) g4 (by decide) (by decide) (fun x hx => by cases hx)
  have rw7 := gSg.raw g4 lx (fun w => by cases w)
  have rf8 := (rw7.2.2.1.trans kx)
  have rf9 := (rw7.2.2.2.trans zx)
  have t10 : ty1 x = 200 := rw7.1.trans tx
  have s11 := gSg.rawat g4 lx (fun w => by cases w) tx (by decide) (show h.2.2.2.2 x 0 = .null from dx 0)
  have s12 := gSg.rawat g4 lx (fun w => by cases w) tx (by decide) (show h.2.2.2.2 x 1 = .null from dx 1)
  have s13 := gSg.rawat g4 lx (fun w => by cases w) tx (by decide) (show h.2.2.2.2 x 2 = .null from dx 2)
  have s14 := gSg.rawat g4 lx (fun w => by cases w) tx (by decide) (show h.2.2.2.2 x 3 = .null from dx 3)
  have s15 := gSg.rawat g4 lx (fun w => by cases w) tx (by decide) (show h.2.2.2.2 x 4 = .int (zi 0) from dx 4)
  have s16 := gSg.rawat g4 lx (fun w => by cases w) tx (by decide) (show h.2.2.2.2 x 5 = .null from dx 5)
  have s17 := gSg.rawat g4 lx (fun w => by cases w) tx (by decide) (show h.2.2.2.2 x 6 = .null from dx 6)
  have s18 := gSg.rawat g4 lx (fun w => by cases w) tx (by decide) (show h.2.2.2.2 x 7 = .null from dx 7)
  have s19 := gSg.rawat g4 lx (fun w => by cases w) tx (by decide) (show h.2.2.2.2 x 8 = .int (zi 0) from dx 8)
  have pr20 : gNo [77, 78, 79, 80, 81, 85, 92] ty1 := gNo.gr g4 (by decide) (gNo.sub (by decide) no0)
  have sS21 : gSs rT 1027 ty1 [] h2 h2 := gSs.rf g4.1
  refine gs_rput rfl (by decide) rfl sS21.1 t10 nx rw7.2.1 rf8 rfl (Or.inr rfl) (fun h22 g23 nh22 mh22 kh22 zh22 eh22 fh22 => ?_)
  have G24 : gSg [76, 77, 78, 79, 80, 81, 85, 92, 200] [x] [] ty h ty1 h22 := gSg.tr (gSg.ss G6 sS21 (by decide)) g23 (by decide) (by decide) (fun x hx => Or.inr hx)
  have sS25 : gSs rT 1027 ty1 [] h22 h22 := gSs.rf g23.1
  have rf26 := Nat.lt_of_lt_of_eq rw7.2.1 nh22.symm
  have rf27 := zh22.trans rf9
  have s28 := (fh22 1 (by decide)).trans s12
  have s29 := (fh22 2 (by decide)).trans s13
  have s30 := (fh22 3 (by decide)).trans s14
  have s31 := (fh22 4 (by decide)).trans s15
  have s32 := (fh22 5 (by decide)).trans s16
  have s33 := (fh22 6 (by decide)).trans s17
  have s34 := (fh22 7 (by decide)).trans s18
  have s35 := (fh22 8 (by decide)).trans s19
  refine gz_s 2 (pc' := 16) (L' := [some (.ref x)]) (S' := [.int (zi 256), .ref x]) rfl ?_
  refine gs_newr 77 rfl (by decide) rfl sS25.1 (Nat.le_of_lt (Nat.lt_of_le_of_lt (gJ.cell sS25.1 tc3 rfl).1 (gJ.cell sS25.1 tc3 rfl).2.1)) (by omega) (by omega) rfl rfl (by show (256 : Int) ≤ _; omega) (by show _ ≤ (256 : Int); omega) (fun _ _ => gos_i (by decide) (by decide)) (fun ty36 h37 c38 g39 tc38 lc38 nc38 mc38 ec38 dc38 uc38 => ?_)
  have gac38 : h.1 ≤ c38 := by have h8 := G24.2.1; have h9 := sS25.2.1; omega
  have uq40 := uc38 uq5 (Or.inr (gNo.sub (by decide) pr20))
  have G41 : gSg [76, 77, 78, 79, 80, 81, 85, 92, 200] [x] [] ty h ty36 h37 := gSg.tr (gSg.ss G24 sS25 (by decide)) g39 (by decide) (by decide) (fun x hx => by cases hx)
  have rw42 := gSg.raw g39 rf26 (fun w => by cases w)
  have rf43 := (rw42.2.2.1.trans kh22)
  have rf44 := (rw42.2.2.2.trans rf27)
  have t45 : ty36 x = 200 := rw42.1.trans t10
  have t46 : ty36 c3 = 76 := gSg.typ g39 sS25.1 tc3 rfl
  have s47 := gSg.rawat g39 rf26 (fun w => by cases w) t10 (by decide) s28
  have s48 := gSg.rawat g39 rf26 (fun w => by cases w) t10 (by decide) s29
  have s49 := gSg.rawat g39 rf26 (fun w => by cases w) t10 (by decide) s30
  have s50 := gSg.rawat g39 rf26 (fun w => by cases w) t10 (by decide) s31
  have s51 := gSg.rawat g39 rf26 (fun w => by cases w) t10 (by decide) s32
  have s52 := gSg.rawat g39 rf26 (fun w => by cases w) t10 (by decide) s33
  have s53 := gSg.rawat g39 rf26 (fun w => by cases w) t10 (by decide) s34
  have s54 := gSg.rawat g39 rf26 (fun w => by cases w) t10 (by decide) s35
  have s55 := gSg.rawat g39 rf26 (fun w => by cases w) t10 (by decide) eh22
  have pr56 : gNo [78, 79, 80, 81, 85, 92] ty36 := gNo.gr g39 (by decide) (gNo.sub (by decide) pr20)
  have sS57 : gSs rT 1027 ty36 [] h37 h37 := gSs.rf g39.1
  refine gs_rput rfl (by decide) rfl sS57.1 t45 nx rw42.2.1 rf43 rfl (Or.inr rfl) (fun h58 g59 nh58 mh58 kh58 zh58 eh58 fh58 => ?_)
  have G60 : gSg [76, 77, 78, 79, 80, 81, 85, 92, 200] [x] [] ty h ty36 h58 := gSg.tr (gSg.ss G41 sS57 (by decide)) g59 (by decide) (by decide) (fun x hx => Or.inr hx)
  have sS61 : gSs rT 1027 ty36 [] h58 h58 := gSs.rf g59.1
  have rf62 := Nat.lt_of_lt_of_eq rw42.2.1 nh58.symm
  have rf63 := zh58.trans rf44
  have s64 := (fh58 2 (by decide)).trans s48
  have s65 := (fh58 3 (by decide)).trans s49
  have s66 := (fh58 4 (by decide)).trans s50
  have s67 := (fh58 5 (by decide)).trans s51
  have s68 := (fh58 6 (by decide)).trans s52
  have s69 := (fh58 7 (by decide)).trans s53
  have s70 := (fh58 8 (by decide)).trans s54
  have s71 := (fh58 0 (by decide)).trans s55
  refine gz_s 2 (pc' := 25) (L' := [some (.ref x)]) (S' := [.int (zi 257), .ref x]) rfl ?_
  refine gs_newr 78 rfl (by decide) rfl sS61.1 (Nat.le_of_lt (Nat.lt_of_le_of_lt (gJ.cell sS61.1 t46 rfl).1 (gJ.cell sS61.1 t46 rfl).2.1)) (by omega) (by omega) rfl rfl (by show (257 : Int) ≤ _; omega) (by show _ ≤ (257 : Int); omega) (fun _ _ => gos_i (by decide) (by decide)) (fun ty72 h73 c74 g75 tc74 lc74 nc74 mc74 ec74 dc74 uc74 => ?_)
  have gac74 : h.1 ≤ c74 := by have h8 := G60.2.1; have h9 := sS61.2.1; omega
  have uq76 := uc74 uq40 (Or.inr (gNo.sub (by decide) pr56))
  have G77 : gSg [76, 77, 78, 79, 80, 81, 85, 92, 200] [x] [] ty h ty72 h73 := gSg.tr (gSg.ss G60 sS61 (by decide)) g75 (by decide) (by decide) (fun x hx => by cases hx)
  have rw78 := gSg.raw g75 rf62 (fun w => by cases w)
  have rf79 := (rw78.2.2.1.trans kh58)
  have rf80 := (rw78.2.2.2.trans rf63)
  have t81 : ty72 x = 200 := rw78.1.trans t45
  have t82 : ty72 c3 = 76 := gSg.typ g75 sS61.1 t46 rfl
  have t83 : ty72 c38 = 77 := gSg.typ g75 sS61.1 tc38 rfl
  have s84 := gSg.rawat g75 rf62 (fun w => by cases w) t45 (by decide) s64
  have s85 := gSg.rawat g75 rf62 (fun w => by cases w) t45 (by decide) s65
  have s86 := gSg.rawat g75 rf62 (fun w => by cases w) t45 (by decide) s66
  have s87 := gSg.rawat g75 rf62 (fun w => by cases w) t45 (by decide) s67
  have s88 := gSg.rawat g75 rf62 (fun w => by cases w) t45 (by decide) s68
  have s89 := gSg.rawat g75 rf62 (fun w => by cases w) t45 (by decide) s69
  have s90 := gSg.rawat g75 rf62 (fun w => by cases w) t45 (by decide) s70
  have s91 := gSg.rawat g75 rf62 (fun w => by cases w) t45 (by decide) s71
  have s92 := gSg.rawat g75 rf62 (fun w => by cases w) t45 (by decide) eh58
  have pr93 : gNo [79, 80, 81, 85, 92] ty72 := gNo.gr g75 (by decide) (gNo.sub (by decide) pr56)
  have sS94 : gSs rT 1027 ty72 [] h73 h73 := gSs.rf g75.1
  refine gs_rput rfl (by decide) rfl sS94.1 t81 nx rw78.2.1 rf79 rfl (Or.inr rfl) (fun h95 g96 nh95 mh95 kh95 zh95 eh95 fh95 => ?_)
  have G97 : gSg [76, 77, 78, 79, 80, 81, 85, 92, 200] [x] [] ty h ty72 h95 := gSg.tr (gSg.ss G77 sS94 (by decide)) g96 (by decide) (by decide) (fun x hx => Or.inr hx)
  have sS98 : gSs rT 1027 ty72 [] h95 h95 := gSs.rf g96.1
  have rf99 := Nat.lt_of_lt_of_eq rw78.2.1 nh95.symm
  have rf100 := zh95.trans rf80
  have s101 := (fh95 3 (by decide)).trans s85
  have s102 := (fh95 4 (by decide)).trans s86
  have s103 := (fh95 5 (by decide)).trans s87
  have s104 := (fh95 6 (by decide)).trans s88
  have s105 := (fh95 7 (by decide)).trans s89
  have s106 := (fh95 8 (by decide)).trans s90
  have s107 := (fh95 0 (by decide)).trans s91
  have s108 := (fh95 1 (by decide)).trans s92
  refine gz_s 2 (pc' := 34) (L' := [some (.ref x)]) (S' := [.int (zi 257), .ref x]) rfl ?_
  refine gs_newr 79 rfl (by decide) rfl sS98.1 (Nat.le_of_lt (Nat.lt_of_le_of_lt (gJ.cell sS98.1 t82 rfl).1 (gJ.cell sS98.1 t82 rfl).2.1)) (by omega) (by omega) rfl rfl (by show (257 : Int) ≤ _; omega) (by show _ ≤ (257 : Int); omega) (fun _ _ => gos_i (by decide) (by decide)) (fun ty109 h110 c111 g112 tc111 lc111 nc111 mc111 ec111 dc111 uc111 => ?_)
  have gac111 : h.1 ≤ c111 := by have h8 := G97.2.1; have h9 := sS98.2.1; omega
  have uq113 := uc111 uq76 (Or.inr (gNo.sub (by decide) pr93))
  have G114 : gSg [76, 77, 78, 79, 80, 81, 85, 92, 200] [x] [] ty h ty109 h110 := gSg.tr (gSg.ss G97 sS98 (by decide)) g112 (by decide) (by decide) (fun x hx => by cases hx)
  have rw115 := gSg.raw g112 rf99 (fun w => by cases w)
  have rf116 := (rw115.2.2.1.trans kh95)
  have rf117 := (rw115.2.2.2.trans rf100)
  have t118 : ty109 x = 200 := rw115.1.trans t81
  have t119 : ty109 c3 = 76 := gSg.typ g112 sS98.1 t82 rfl
  have t120 : ty109 c38 = 77 := gSg.typ g112 sS98.1 t83 rfl
  have t121 : ty109 c74 = 78 := gSg.typ g112 sS98.1 tc74 rfl
  have s122 := gSg.rawat g112 rf99 (fun w => by cases w) t81 (by decide) s101
  have s123 := gSg.rawat g112 rf99 (fun w => by cases w) t81 (by decide) s102
  have s124 := gSg.rawat g112 rf99 (fun w => by cases w) t81 (by decide) s103
  have s125 := gSg.rawat g112 rf99 (fun w => by cases w) t81 (by decide) s104
  have s126 := gSg.rawat g112 rf99 (fun w => by cases w) t81 (by decide) s105
  have s127 := gSg.rawat g112 rf99 (fun w => by cases w) t81 (by decide) s106
  have s128 := gSg.rawat g112 rf99 (fun w => by cases w) t81 (by decide) s107
  have s129 := gSg.rawat g112 rf99 (fun w => by cases w) t81 (by decide) s108
  have s130 := gSg.rawat g112 rf99 (fun w => by cases w) t81 (by decide) eh95
  have pr131 : gNo [80, 81, 85, 92] ty109 := gNo.gr g112 (by decide) (gNo.sub (by decide) pr93)
  have sS132 : gSs rT 1027 ty109 [] h110 h110 := gSs.rf g112.1
  refine gs_rput rfl (by decide) rfl sS132.1 t118 nx rw115.2.1 rf116 rfl (Or.inr rfl) (fun h133 g134 nh133 mh133 kh133 zh133 eh133 fh133 => ?_)
  have G135 : gSg [76, 77, 78, 79, 80, 81, 85, 92, 200] [x] [] ty h ty109 h133 := gSg.tr (gSg.ss G114 sS132 (by decide)) g134 (by decide) (by decide) (fun x hx => Or.inr hx)
  have sS136 : gSs rT 1027 ty109 [] h133 h133 := gSs.rf g134.1
  have rf137 := Nat.lt_of_lt_of_eq rw115.2.1 nh133.symm
  have rf138 := zh133.trans rf117
  have s139 := (fh133 4 (by decide)).trans s123
  have s140 := (fh133 5 (by decide)).trans s124
  have s141 := (fh133 6 (by decide)).trans s125
  have s142 := (fh133 7 (by decide)).trans s126
  have s143 := (fh133 8 (by decide)).trans s127
  have s144 := (fh133 0 (by decide)).trans s128
  have s145 := (fh133 1 (by decide)).trans s129
  have s146 := (fh133 2 (by decide)).trans s130
  refine gz_s 2 (pc' := 43) (L' := [some (.ref x)]) (S' := [.int (zi 257), .ref x]) rfl ?_
  refine gs_newr 80 rfl (by decide) rfl sS136.1 (Nat.le_of_lt (Nat.lt_of_le_of_lt (gJ.cell sS136.1 t119 rfl).1 (gJ.cell sS136.1 t119 rfl).2.1)) (by omega) (by omega) rfl rfl (by show (257 : Int) ≤ _; omega) (by show _ ≤ (257 : Int); omega) (fun _ _ => gos_i (by decide) (by decide)) (fun ty147 h148 c149 g150 tc149 lc149 nc149 mc149 ec149 dc149 uc149 => ?_)
  have gac149 : h.1 ≤ c149 := by have h8 := G135.2.1; have h9 := sS136.2.1; omega
  have uq151 := uc149 uq113 (Or.inr (gNo.sub (by decide) pr131))
  have G152 : gSg [76, 77, 78, 79, 80, 81, 85, 92, 200] [x] [] ty h ty147 h148 := gSg.tr (gSg.ss G135 sS136 (by decide)) g150 (by decide) (by decide) (fun x hx => by cases hx)
  have rw153 := gSg.raw g150 rf137 (fun w => by cases w)
  have rf154 := (rw153.2.2.1.trans kh133)
  have rf155 := (rw153.2.2.2.trans rf138)
  have t156 : ty147 x = 200 := rw153.1.trans t118
  have t157 : ty147 c3 = 76 := gSg.typ g150 sS136.1 t119 rfl
  have t158 : ty147 c38 = 77 := gSg.typ g150 sS136.1 t120 rfl
  have t159 : ty147 c74 = 78 := gSg.typ g150 sS136.1 t121 rfl
  have t160 : ty147 c111 = 79 := gSg.typ g150 sS136.1 tc111 rfl
  have s161 := gSg.rawat g150 rf137 (fun w => by cases w) t118 (by decide) s139
  have s162 := gSg.rawat g150 rf137 (fun w => by cases w) t118 (by decide) s140
  have s163 := gSg.rawat g150 rf137 (fun w => by cases w) t118 (by decide) s141
  have s164 := gSg.rawat g150 rf137 (fun w => by cases w) t118 (by decide) s142
  have s165 := gSg.rawat g150 rf137 (fun w => by cases w) t118 (by decide) s143
  have s166 := gSg.rawat g150 rf137 (fun w => by cases w) t118 (by decide) s144
  have s167 := gSg.rawat g150 rf137 (fun w => by cases w) t118 (by decide) s145
  have s168 := gSg.rawat g150 rf137 (fun w => by cases w) t118 (by decide) s146
  have s169 := gSg.rawat g150 rf137 (fun w => by cases w) t118 (by decide) eh133
  have pr170 : gNo [81, 85, 92] ty147 := gNo.gr g150 (by decide) (gNo.sub (by decide) pr131)
  have sS171 : gSs rT 1027 ty147 [] h148 h148 := gSs.rf g150.1
  refine gs_rput rfl (by decide) rfl sS171.1 t156 nx rw153.2.1 rf154 rfl (Or.inr rfl) (fun h172 g173 nh172 mh172 kh172 zh172 eh172 fh172 => ?_)
  have G174 : gSg [76, 77, 78, 79, 80, 81, 85, 92, 200] [x] [] ty h ty147 h172 := gSg.tr (gSg.ss G152 sS171 (by decide)) g173 (by decide) (by decide) (fun x hx => Or.inr hx)
  have sS175 : gSs rT 1027 ty147 [] h172 h172 := gSs.rf g173.1
  have rf176 := Nat.lt_of_lt_of_eq rw153.2.1 nh172.symm
  have rf177 := zh172.trans rf155
  have s178 := (fh172 4 (by decide)).trans s161
  have s179 := (fh172 6 (by decide)).trans s163
  have s180 := (fh172 7 (by decide)).trans s164
  have s181 := (fh172 8 (by decide)).trans s165
  have s182 := (fh172 0 (by decide)).trans s166
  have s183 := (fh172 1 (by decide)).trans s167
  have s184 := (fh172 2 (by decide)).trans s168
  have s185 := (fh172 3 (by decide)).trans s169
  refine gz_s 2 (pc' := 52) (L' := [some (.ref x)]) (S' := [.int (zi 257), .ref x]) rfl ?_
  refine gs_newr 81 rfl (by decide) rfl sS175.1 (Nat.le_of_lt (Nat.lt_of_le_of_lt (gJ.cell sS175.1 t157 rfl).1 (gJ.cell sS175.1 t157 rfl).2.1)) (by omega) (by omega) rfl rfl (by show (257 : Int) ≤ _; omega) (by show _ ≤ (257 : Int); omega) (fun _ _ => gos_i (by decide) (by decide)) (fun ty186 h187 c188 g189 tc188 lc188 nc188 mc188 ec188 dc188 uc188 => ?_)
  have gac188 : h.1 ≤ c188 := by have h8 := G174.2.1; have h9 := sS175.2.1; omega
  have uq190 := uc188 uq151 (Or.inr (gNo.sub (by decide) pr170))
  have G191 : gSg [76, 77, 78, 79, 80, 81, 85, 92, 200] [x] [] ty h ty186 h187 := gSg.tr (gSg.ss G174 sS175 (by decide)) g189 (by decide) (by decide) (fun x hx => by cases hx)
  have rw192 := gSg.raw g189 rf176 (fun w => by cases w)
  have rf193 := (rw192.2.2.1.trans kh172)
  have rf194 := (rw192.2.2.2.trans rf177)
  have t195 : ty186 x = 200 := rw192.1.trans t156
  have t196 : ty186 c3 = 76 := gSg.typ g189 sS175.1 t157 rfl
  have t197 : ty186 c38 = 77 := gSg.typ g189 sS175.1 t158 rfl
  have t198 : ty186 c74 = 78 := gSg.typ g189 sS175.1 t159 rfl
  have t199 : ty186 c111 = 79 := gSg.typ g189 sS175.1 t160 rfl
  have t200 : ty186 c149 = 80 := gSg.typ g189 sS175.1 tc149 rfl
  have s201 := gSg.rawat g189 rf176 (fun w => by cases w) t156 (by decide) s178
  have s202 := gSg.rawat g189 rf176 (fun w => by cases w) t156 (by decide) s179
  have s203 := gSg.rawat g189 rf176 (fun w => by cases w) t156 (by decide) s180
  have s204 := gSg.rawat g189 rf176 (fun w => by cases w) t156 (by decide) s181
  have s205 := gSg.rawat g189 rf176 (fun w => by cases w) t156 (by decide) s182
  have s206 := gSg.rawat g189 rf176 (fun w => by cases w) t156 (by decide) s183
  have s207 := gSg.rawat g189 rf176 (fun w => by cases w) t156 (by decide) s184
  have s208 := gSg.rawat g189 rf176 (fun w => by cases w) t156 (by decide) s185
  have s209 := gSg.rawat g189 rf176 (fun w => by cases w) t156 (by decide) eh172
  have pr210 : gNo [85, 92] ty186 := gNo.gr g189 (by decide) (gNo.sub (by decide) pr170)
  have sS211 : gSs rT 1027 ty186 [] h187 h187 := gSs.rf g189.1
  refine gs_rput rfl (by decide) rfl sS211.1 t195 nx rw192.2.1 rf193 rfl (Or.inr rfl) (fun h212 g213 nh212 mh212 kh212 zh212 eh212 fh212 => ?_)
  have G214 : gSg [76, 77, 78, 79, 80, 81, 85, 92, 200] [x] [] ty h ty186 h212 := gSg.tr (gSg.ss G191 sS211 (by decide)) g213 (by decide) (by decide) (fun x hx => Or.inr hx)
  have sS215 : gSs rT 1027 ty186 [] h212 h212 := gSs.rf g213.1
  have rf216 := Nat.lt_of_lt_of_eq rw192.2.1 nh212.symm
  have rf217 := zh212.trans rf194
  have s218 := (fh212 4 (by decide)).trans s201
  have s219 := (fh212 7 (by decide)).trans s203
  have s220 := (fh212 8 (by decide)).trans s204
  have s221 := (fh212 0 (by decide)).trans s205
  have s222 := (fh212 1 (by decide)).trans s206
  have s223 := (fh212 2 (by decide)).trans s207
  have s224 := (fh212 3 (by decide)).trans s208
  have s225 := (fh212 5 (by decide)).trans s209
  refine gz_s 2 (pc' := 61) (L' := [some (.ref x)]) (S' := [.int (zi 257), .ref x]) rfl ?_
  refine gs_newr 85 rfl (by decide) rfl sS215.1 (Nat.le_of_lt (Nat.lt_of_le_of_lt (gJ.cell sS215.1 t196 rfl).1 (gJ.cell sS215.1 t196 rfl).2.1)) (by omega) (by omega) rfl rfl (by show (257 : Int) ≤ _; omega) (by show _ ≤ (257 : Int); omega) (fun _ _ => gos_i (by decide) (by decide)) (fun ty226 h227 c228 g229 tc228 lc228 nc228 mc228 ec228 dc228 uc228 => ?_)
  have gac228 : h.1 ≤ c228 := by have h8 := G214.2.1; have h9 := sS215.2.1; omega
  have uq230 := uc228 uq190 (Or.inr (gNo.sub (by decide) pr210))
  have G231 : gSg [76, 77, 78, 79, 80, 81, 85, 92, 200] [x] [] ty h ty226 h227 := gSg.tr (gSg.ss G214 sS215 (by decide)) g229 (by decide) (by decide) (fun x hx => by cases hx)
  have rw232 := gSg.raw g229 rf216 (fun w => by cases w)
  have rf233 := (rw232.2.2.1.trans kh212)
  have rf234 := (rw232.2.2.2.trans rf217)
  have t235 : ty226 x = 200 := rw232.1.trans t195
  have t236 : ty226 c3 = 76 := gSg.typ g229 sS215.1 t196 rfl
  have t237 : ty226 c38 = 77 := gSg.typ g229 sS215.1 t197 rfl
  have t238 : ty226 c74 = 78 := gSg.typ g229 sS215.1 t198 rfl
  have t239 : ty226 c111 = 79 := gSg.typ g229 sS215.1 t199 rfl
  have t240 : ty226 c149 = 80 := gSg.typ g229 sS215.1 t200 rfl
  have t241 : ty226 c188 = 81 := gSg.typ g229 sS215.1 tc188 rfl
  have s242 := gSg.rawat g229 rf216 (fun w => by cases w) t195 (by decide) s218
  have s243 := gSg.rawat g229 rf216 (fun w => by cases w) t195 (by decide) s219
  have s244 := gSg.rawat g229 rf216 (fun w => by cases w) t195 (by decide) s220
  have s245 := gSg.rawat g229 rf216 (fun w => by cases w) t195 (by decide) s221
  have s246 := gSg.rawat g229 rf216 (fun w => by cases w) t195 (by decide) s222
  have s247 := gSg.rawat g229 rf216 (fun w => by cases w) t195 (by decide) s223
  have s248 := gSg.rawat g229 rf216 (fun w => by cases w) t195 (by decide) s224
  have s249 := gSg.rawat g229 rf216 (fun w => by cases w) t195 (by decide) s225
  have s250 := gSg.rawat g229 rf216 (fun w => by cases w) t195 (by decide) eh212
  have pr251 : gNo [92] ty226 := gNo.gr g229 (by decide) (gNo.sub (by decide) pr210)
  have sS252 : gSs rT 1027 ty226 [] h227 h227 := gSs.rf g229.1
  refine gs_rput rfl (by decide) rfl sS252.1 t235 nx rw232.2.1 rf233 rfl (Or.inr rfl) (fun h253 g254 nh253 mh253 kh253 zh253 eh253 fh253 => ?_)
  have G255 : gSg [76, 77, 78, 79, 80, 81, 85, 92, 200] [x] [] ty h ty226 h253 := gSg.tr (gSg.ss G231 sS252 (by decide)) g254 (by decide) (by decide) (fun x hx => Or.inr hx)
  have sS256 : gSs rT 1027 ty226 [] h253 h253 := gSs.rf g254.1
  have rf257 := Nat.lt_of_lt_of_eq rw232.2.1 nh253.symm
  have rf258 := zh253.trans rf234
  have s259 := (fh253 4 (by decide)).trans s242
  have s260 := (fh253 8 (by decide)).trans s244
  have s261 := (fh253 0 (by decide)).trans s245
  have s262 := (fh253 1 (by decide)).trans s246
  have s263 := (fh253 2 (by decide)).trans s247
  have s264 := (fh253 3 (by decide)).trans s248
  have s265 := (fh253 5 (by decide)).trans s249
  have s266 := (fh253 6 (by decide)).trans s250
  obtain ⟨ty268, g267, tg267, ug267⟩ := gSg.adx 92 sS256.1 t235 nx rf257 rfl kh253 (by show (0 : Nat) ≤ _; have h9 := rf258; omega) (by show _ ≤ (0 : Nat); have h9 := rf258; omega) (fun ty9 w9 k hk => ad92 (by rw [s261]; exact ⟨c3, rfl, w9 c3 _ t236 (by decide)⟩) (by rw [s262]; exact ⟨c38, rfl, w9 c38 _ t237 (by decide)⟩) (by rw [s263]; exact ⟨c74, rfl, w9 c74 _ t238 (by decide)⟩) (by rw [s264]; exact ⟨c111, rfl, w9 c111 _ t239 (by decide)⟩) (by rw [s259]; exact ⟨0, rfl, by show (0 : Int) ≤ _; omega, by show _ ≤ (256 : Int); omega⟩) (by rw [s265]; exact ⟨c149, rfl, w9 c149 _ t240 (by decide)⟩) (by rw [s266]; exact ⟨c188, rfl, w9 c188 _ t241 (by decide)⟩) (by rw [eh253]; exact ⟨c228, rfl, w9 c228 _ tc228 (by decide)⟩) (by rw [s260]; exact ⟨0, rfl, by show (0 : Int) ≤ _; omega, by show _ ≤ (257 : Int); omega⟩) k)
  have uq269 := ug267 uq230 (Or.inr pr251)
  have G270 : gSg [76, 77, 78, 79, 80, 81, 85, 92, 200] [x] [] ty h ty268 h253 := gSg.tr (gSg.ss G255 sS256 (by decide)) g267 (by decide) (by decide) (fun x hx => Or.inr hx)
  have t271 : ty268 c3 = 76 := gSg.typ g267 sS256.1 t236 rfl
  have t272 : ty268 c38 = 77 := gSg.typ g267 sS256.1 t237 rfl
  have t273 : ty268 c74 = 78 := gSg.typ g267 sS256.1 t238 rfl
  have t274 : ty268 c111 = 79 := gSg.typ g267 sS256.1 t239 rfl
  have t275 : ty268 c149 = 80 := gSg.typ g267 sS256.1 t240 rfl
  have t276 : ty268 c188 = 81 := gSg.typ g267 sS256.1 t241 rfl
  have t277 : ty268 c228 = 85 := gSg.typ g267 sS256.1 tc228 rfl
  have sS278 : gSs rT 1027 ty268 [] h253 h253 := gSs.rf g267.1
  have G279 : gSg [76, 77, 78, 79, 80, 81, 85, 92, 200] [x] [] ty h ty268 h253 := gSg.ss G270 sS278 (by decide)
  exact gz_end (I := .return_) (len := 1) rfl (Or.inl rfl) ⟨ty268, G279, tg267, rfl, (by dsimp only; omega), (by dsimp only; omega), uq269⟩
