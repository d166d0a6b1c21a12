/-! ===== methods of the landed text (by program) ===== -/
set_option maxRecDepth 20000 in
set_option maxHeartbeats 4000000 in
theorem ct_DctFilter (d : Nat) {ty : Nat → Nat} {h : gH} (hJ : gJ rT 1027 ty h) (x : Nat) (tx : ty x = 200) (nx : 1027 ≤ x) (lx : x < h.1) (kx : h.2.2.1 x = some (.inr 11)) (zx : h.2.2.2.1 x = 0) (dx : ∀ k, h.2.2.2.2 x k = defaultValue (gGG.2.1 11 k)) (no0 : gNo [1, 2, 3, 4, 5, 6, 7, 8, 9, 10, 11, 12, 13, 14, 15, 16, 17, 18, 19, 20, 21, 22, 23, 24, 25, 26, 27, 28, 29, 30, 31, 32, 33, 34, 35, 36, 37, 38, 39, 40, 41, 42, 50, 51, 52, 53, 54, 55, 56, 57, 58, 59, 60, 61, 62, 63, 64, 65, 66, 67, 68, 69, 70, 71, 72, 73, 74, 75, 76, 77, 78, 79, 80, 81, 82, 83, 84, 85, 90, 91, 92, 93, 94, 95, 96, 97, 98, 99] ty) (uq : gUq ty) : gz gPP gGG gcn (d + 3) gt0 0 (gent [.ref x] 1) [] h (fun q _ => ∃ ty9 : Nat → Nat, gSg [50, 51, 52, 53, 54, 55, 56, 57, 58, 59, 60, 61, 62, 63, 64, 82, 83, 84, 112, 113, 114, 200] [x] [64999, 53999] ty h ty9 q.2.2 ∧ ∃ dr pic sk bt2 bn b0 b1 b2 : Nat, True ∧ ∃ n1 iv1 c1 : Int, q.2.2.2.2.2.2 x 3 = .ref dr ∧ ty9 dr = 55 ∧ q.2.2.2.2.2.2 x 2 = .ref pic ∧ ty9 pic = 54 ∧ q.2.2.2.2.2.2 x 4 = .ref sk ∧ ty9 sk = 56 ∧ q.2.2.2.2.2.2 sk 0 = .ref bt2 ∧ ty9 bt2 = 114 ∧ q.2.2.2.2.2.2 pic 0 = .ref bn ∧ ty9 bn = 57 ∧ q.2.2.2.2.2.2 bn 0 = .ref b0 ∧ ty9 b0 = 82 ∧ q.2.2.2.2.2.2 bn 1 = .ref b1 ∧ ty9 b1 = 83 ∧ q.2.2.2.2.2.2 bn 2 = .ref b2 ∧ ty9 b2 = 84 ∧ ty9 x = 50 ∧ gfin gt0 q.1 q.2.1 = some none ∧ q.2.2.2.2.2.2 dr 8 = .int (zi n1) ∧ 0 ≤ n1 ∧ n1 ≤ 10 ∧ q.2.2.2.2.2.2 dr 3 = .int (zi iv1) ∧ 0 ≤ iv1 ∧ iv1 ≤ 100 ∧ q.2.2.2.2.2.2 sk 1 = .int (zi c1) ∧ 0 ≤ c1 ∧ c1 ≤ 500000 ∧ ((q.2.2.1 : Int) = h.1 + 20) ∧ ((q.2.2.2.1 : Int) = h.2.1 + 4733) ∧ (n1 = 0) ∧ (iv1 = 0) ∧ (c1 = 0) ∧ ((q.2.2.2.2.2.1 bt2 : Int) = 1024) ∧ (gTc ty9 0 q.2.2) ∧ (gPC ty9 pic b0 b1 b2 0 q.2.2) ∧ gUq ty9 ∧ gNo [1, 2, 3, 4, 5, 6, 7, 8, 9, 10, 11, 12, 13, 14, 15, 16, 17, 18, 19, 20, 21, 22, 23, 24, 25, 26, 27, 28, 29, 30, 31, 32, 33, 34, 35, 36, 37, 38, 39, 40, 41, 42, 65, 66, 67, 68, 69, 70, 71, 72, 73, 74, 75, 76, 77, 78, 79, 80, 81, 85, 90, 91, 92, 93, 94, 95, 96, 97, 98, 99] ty9) := by
  have hS : gSs rT 1027 ty [64999, 53999] h h := gSs.rf hJ
  have G0 : gSg [50, 51, 52, 53, 54, 55, 56, 57, 58, 59, 60, 61, 62, 63, 64, 82, 83, 84, 112, 113, 114, 200] [x] [64999, 53999] ty h ty h := gSg.rf hJ (fun x hx => by rw [List.mem_singleton.mp hx, tx]; rfl)
  refine gz_s 1 (pc' := 1) (L' := [some (.ref x)]) (S' := [.ref x]) rfl ?_
  refine gz_obj rfl (by decide) (by omega) rfl (by decide) ?_
  refine gz_s 1 (pc' := 5) (L' := [some (.ref x)]) (S' := [.ref x]) rfl ?_
  refine gs_newo rfl (by decide) rfl hS.1 (Nat.le_of_lt (Nat.lt_of_le_of_lt nx lx)) (fun ty1 h2 c3 g4 tc3 kc3 zc3 nc3 mc3 ec3 dc3 => ?_)
  have mfc3 : h2.2.1 = h.2.1 + 2 := mc3
  have gac3 : h.1 ≤ c3 := by have h8 := G0.2.1; have h9 := hS.2.1; omega
  have nnc3 : 1027 ≤ c3 := by have h8 := (Nat.le_of_lt (Nat.lt_of_le_of_lt nx lx)); omega
  have llc3 : c3 < _ := by rw [nc3, ec3]; exact Nat.lt_succ_self _
  have nex_c3 : x ≠ c3 := by have h8 := lx; omega
  have G5 : gSg [50, 51, 52, 53, 54, 55, 56, 57, 58, 59, 60, 61, 62, 63, 64, 82, 83, 84, 112, 113, 114, 200] [x] [64999, 53999] ty h ty1 h2 := gSg.tr (gSg.ss G0 hS (by decide)) g4 (by decide) (by decide) (fun x hx => by cases hx)
  have rw6 := gSg.raw g4 lx (fun w => by cases w)
  have rf7 := (rw6.2.2.1.trans kx)
  have rf8 := (rw6.2.2.2.trans zx)
  have t9 : ty1 x = 200 := rw6.1.trans tx
  have s10 := gSg.rawat g4 lx (fun w => by cases w) tx (by decide) (show h.2.2.2.2 x 0 = .null from dx 0)
  have s11 := gSg.rawat g4 lx (fun w => by cases w) tx (by decide) (show h.2.2.2.2 x 1 = .null from dx 1)
  have s12 := gSg.rawat g4 lx (fun w => by cases w) tx (by decide) (show h.2.2.2.2 x 2 = .null from dx 2)
  have s13 := gSg.rawat g4 lx (fun w => by cases w) tx (by decide) (show h.2.2.2.2 x 3 = .null from dx 3)
  have s14 := gSg.rawat g4 lx (fun w => by cases w) tx (by decide) (show h.2.2.2.2 x 4 = .null from dx 4)
  have s15 := gSg.rawat g4 lx (fun w => by cases w) tx (by decide) (show h.2.2.2.2 x 5 = .null from dx 5)
  have s16 := gSg.rawat g4 lx (fun w => by cases w) tx (by decide) (show h.2.2.2.2 x 6 = .null from dx 6)
  have pr17 : gNo [1, 2, 3, 4, 5, 6, 7, 8, 9, 10, 11, 12, 13, 14, 15, 16, 17, 18, 19, 20, 21, 22, 23, 24, 25, 26, 27, 28, 29, 30, 31, 32, 33, 34, 35, 36, 37, 38, 39, 40, 41, 42, 50, 51, 52, 53, 54, 55, 56, 57, 58, 59, 60, 61, 62, 63, 64, 65, 66, 67, 68, 69, 70, 71, 72, 73, 74, 75, 76, 77, 78, 79, 80, 81, 82, 83, 84, 85, 90, 91, 92, 93, 94, 95, 96, 97, 98, 99] ty1 := gNo.gr g4 (by decide) (gNo.sub (by decide) no0)
  have uq18 := gSg.uq g4 uq (by decide)
  have sS19 : gSs rT 1027 ty1 [64999, 53999] h2 h2 := gSs.rf g4.1
  refine gz_s 1 (pc' := 9) (L' := [some (.ref x)]) (S' := [.ref c3, .ref c3, .ref x]) rfl ?_
  refine gz_call rfl (by decide) rfl (by decide) (by decide) (gcal_of rfl rfl rfl (Nat.le_of_ble_eq_true rfl) rfl) (ct_Collected _ sS19.1 c3 tc3 nnc3 llc3 kc3 zc3 dc3 (gNo.sub (by decide) pr17) uq18) (fun q20 _ wq20 => ?_)
  obtain ⟨pq20, oq20, hq20⟩ := q20
  obtain ⟨tyq20, xq20, fq20_0, trq20_0, gq20, efq20_0, afq20_0, bfq20_0, uq20_0, uq20_1, uqq20⟩ := wq20
  dsimp only at uq20_0 uq20_1
  refine ⟨_, gq20, ?_⟩
  show gz gPP gGG gcn _ _ 12 [some (.ref x)] [.ref c3, .ref x] hq20 _
  have G21 : gSg [50, 51, 52, 53, 54, 55, 56, 57, 58, 59, 60, 61, 62, 63, 64, 82, 83, 84, 112, 113, 114, 200] [x] [64999, 53999] ty h tyq20 hq20 := gSg.tr (gSg.ss G5 sS19 (by decide)) xq20 (by decide) (by decide) (fun x hx => Or.inl (by rw [List.mem_singleton.mp hx]; exact gac3))
  have rw22 := gSg.raw xq20 rw6.2.1 (fun w => nex_c3 (List.mem_singleton.mp w))
  have rf23 := (rw22.2.2.1.trans rf7)
  have rf24 := (rw22.2.2.2.trans rf8)
  have t25 : tyq20 x = 200 := rw22.1.trans t9
  have s26 := gSg.rawat xq20 rw6.2.1 (fun w => nex_c3 (List.mem_singleton.mp w)) t9 (by decide) s10
  have s27 := gSg.rawat xq20 rw6.2.1 (fun w => nex_c3 (List.mem_singleton.mp w)) t9 (by decide) s11
  have s28 := gSg.rawat xq20 rw6.2.1 (fun w => nex_c3 (List.mem_singleton.mp w)) t9 (by decide) s12
  have s29 := gSg.rawat xq20 rw6.2.1 (fun w => nex_c3 (List.mem_singleton.mp w)) t9 (by decide) s13
  have s30 := gSg.rawat xq20 rw6.2.1 (fun w => nex_c3 (List.mem_singleton.mp w)) t9 (by decide) s14
  have s31 := gSg.rawat xq20 rw6.2.1 (fun w => nex_c3 (List.mem_singleton.mp w)) t9 (by decide) s15
  have s32 := gSg.rawat xq20 rw6.2.1 (fun w => nex_c3 (List.mem_singleton.mp w)) t9 (by decide) s16
  have pr33 : gNo [1, 2, 3, 4, 5, 6, 7, 8, 9, 10, 11, 12, 13, 14, 15, 16, 17, 18, 19, 20, 21, 22, 23, 24, 25, 26, 27, 28, 29, 30, 31, 32, 33, 34, 35, 36, 37, 38, 39, 40, 41, 42, 50, 53, 54, 55, 56, 57, 58, 59, 60, 61, 62, 63, 64, 65, 66, 67, 68, 69, 70, 71, 72, 73, 74, 75, 76, 77, 78, 79, 80, 81, 82, 83, 84, 85, 90, 91, 92, 93, 94, 95, 96, 97, 98, 99] tyq20 := gNo.gr xq20 (by decide) (gNo.sub (by decide) pr17)
  have sS34 : gSs rT 1027 tyq20 [64999, 53999] hq20 hq20 := gSs.rf xq20.1
  refine gs_rput rfl (by decide) rfl sS34.1 t25 nx rw22.2.1 rf23 rfl (Or.inr rfl) (fun h35 g36 nh35 mh35 kh35 zh35 eh35 fh35 => ?_)
  have G37 : gSg [50, 51, 52, 53, 54, 55, 56, 57, 58, 59, 60, 61, 62, 63, 64, 82, 83, 84, 112, 113, 114, 200] [x] [64999, 53999] ty h tyq20 h35 := gSg.tr (gSg.ss G21 sS34 (by decide)) g36 (by decide) (by decide) (fun x hx => Or.inr hx)
  have s38 := gSg.at g36 sS34.1 trq20_0 rfl (by decide) efq20_0
  have sS39 : gSs rT 1027 tyq20 [64999, 53999] h35 h35 := gSs.rf g36.1
  have rf40 := Nat.lt_of_lt_of_eq rw22.2.1 nh35.symm
  have rf41 := zh35.trans rf24
  have s42 := (fh35 1 (by decide)).trans s27
  have s43 := (fh35 2 (by decide)).trans s28
  have s44 := (fh35 3 (by decide)).trans s29
  have s45 := (fh35 4 (by decide)).trans s30
  have s46 := (fh35 5 (by decide)).trans s31
  have s47 := (fh35 6 (by decide)).trans s32
  refine gz_s 2 (pc' := 19) (L' := [some (.ref x)]) (S' := [.int (zi 256), .ref x]) rfl ?_
  refine gs_newr 53 rfl (by decide) rfl sS39.1 (Nat.le_of_lt (Nat.lt_of_le_of_lt (gJ.cell sS39.1 trq20_0 rfl).1 (gJ.cell sS39.1 trq20_0 rfl).2.1)) (by omega) (by omega) rfl rfl (by show (256 : Int) ≤ _; omega) (by show _ ≤ (256 : Int); omega) (fun _ _ => gos_i (by decide) (by decide)) (fun ty48 h49 c50 g51 tc50 lc50 nc50 mc50 ec50 dc50 uc50 => ?_)
  have gac50 : h.1 ≤ c50 := by have h8 := G37.2.1; have h9 := sS39.2.1; omega
  have uq52 := uc50 uqq20 (Or.inr (gNo.sub (by decide) pr33))
  have G53 : gSg [50, 51, 52, 53, 54, 55, 56, 57, 58, 59, 60, 61, 62, 63, 64, 82, 83, 84, 112, 113, 114, 200] [x] [64999, 53999] ty h ty48 h49 := gSg.tr (gSg.ss G37 sS39 (by decide)) g51 (by decide) (by decide) (fun x hx => by cases hx)
  have rw54 := gSg.raw g51 rf40 (fun w => by cases w)
  have rf55 := (rw54.2.2.1.trans kh35)
  have rf56 := (rw54.2.2.2.trans rf41)
  have t57 : ty48 x = 200 := rw54.1.trans t25
  have t58 : ty48 c3 = 51 := gSg.typ g51 sS39.1 trq20_0 rfl
  have s59 := gSg.at g51 sS39.1 trq20_0 rfl (by decide) s38
  have s60 := gSg.rawat g51 rf40 (fun w => by cases w) t25 (by decide) s42
  have s61 := gSg.rawat g51 rf40 (fun w => by cases w) t25 (by decide) s43
  have s62 := gSg.rawat g51 rf40 (fun w => by cases w) t25 (by decide) s44
  have s63 := gSg.rawat g51 rf40 (fun w => by cases w) t25 (by decide) s45
  have s64 := gSg.rawat g51 rf40 (fun w => by cases w) t25 (by decide) s46
  have s65 := gSg.rawat g51 rf40 (fun w => by cases w) t25 (by decide) s47
  have s66 := gSg.rawat g51 rf40 (fun w => by cases w) t25 (by decide) eh35
  have pr67 : gNo [1, 2, 3, 4, 5, 6, 7, 8, 9, 10, 11, 12, 13, 14, 15, 16, 17, 18, 19, 20, 21, 22, 23, 24, 25, 26, 27, 28, 29, 30, 31, 32, 33, 34, 35, 36, 37, 38, 39, 40, 41, 42, 50, 54, 55, 56, 57, 58, 59, 60, 61, 62, 63, 64, 65, 66, 67, 68, 69, 70, 71, 72, 73, 74, 75, 76, 77, 78, 79, 80, 81, 82, 83, 84, 85, 90, 91, 92, 93, 94, 95, 96, 97, 98, 99] ty48 := gNo.gr g51 (by decide) (gNo.sub (by decide) pr33)
  have sS68 : gSs rT 1027 ty48 [64999, 53999] h49 h49 := gSs.rf g51.1
  refine gs_rput rfl (by decide) rfl sS68.1 t57 nx rw54.2.1 rf55 rfl (Or.inr rfl) (fun h69 g70 nh69 mh69 kh69 zh69 eh69 fh69 => ?_)
  have G71 : gSg [50, 51, 52, 53, 54, 55, 56, 57, 58, 59, 60, 61, 62, 63, 64, 82, 83, 84, 112, 113, 114, 200] [x] [64999, 53999] ty h ty48 h69 := gSg.tr (gSg.ss G53 sS68 (by decide)) g70 (by decide) (by decide) (fun x hx => Or.inr hx)
  have s72 := gSg.at g70 sS68.1 t58 rfl (by decide) s59
  have sS73 : gSs rT 1027 ty48 [64999, 53999] h69 h69 := gSs.rf g70.1
  have rf74 := Nat.lt_of_lt_of_eq rw54.2.1 nh69.symm
  have rf75 := zh69.trans rf56
  have s76 := (fh69 2 (by decide)).trans s61
  have s77 := (fh69 3 (by decide)).trans s62
  have s78 := (fh69 4 (by decide)).trans s63
  have s79 := (fh69 5 (by decide)).trans s64
  have s80 := (fh69 6 (by decide)).trans s65
  have s81 := (fh69 0 (by decide)).trans s66
  refine gz_s 1 (pc' := 25) (L' := [some (.ref x)]) (S' := [.ref x]) rfl ?_
  refine gs_newo rfl (by decide) rfl sS73.1 (Nat.le_of_lt (Nat.lt_of_le_of_lt (gJ.cell sS73.1 t58 rfl).1 (gJ.cell sS73.1 t58 rfl).2.1)) (fun ty82 h83 c84 g85 tc84 kc84 zc84 nc84 mc84 ec84 dc84 => ?_)
  have mfc84 : h83.2.1 = h69.2.1 + 14 := mc84
  have gac84 : h.1 ≤ c84 := by have h8 := G71.2.1; have h9 := sS73.2.1; omega
  have nnc84 : 1027 ≤ c84 := by have h8 := (Nat.le_of_lt (Nat.lt_of_le_of_lt (gJ.cell sS73.1 t58 rfl).1 (gJ.cell sS73.1 t58 rfl).2.1)); omega
  have llc84 : c84 < _ := by rw [nc84, ec84]; exact Nat.lt_succ_self _
  have nex_c84 : x ≠ c84 := by have h8 := rf74; omega
  have G86 : gSg [50, 51, 52, 53, 54, 55, 56, 57, 58, 59, 60, 61, 62, 63, 64, 82, 83, 84, 112, 113, 114, 200] [x] [64999, 53999] ty h ty82 h83 := gSg.tr (gSg.ss G71 sS73 (by decide)) g85 (by decide) (by decide) (fun x hx => by cases hx)
  have rw87 := gSg.raw g85 rf74 (fun w => by cases w)
  have rf88 := (rw87.2.2.1.trans kh69)
  have rf89 := (rw87.2.2.2.trans rf75)
  have t90 : ty82 x = 200 := rw87.1.trans t57
  have t91 : ty82 c3 = 51 := gSg.typ g85 sS73.1 t58 rfl
  have t92 : ty82 c50 = 53 := gSg.typ g85 sS73.1 tc50 rfl
  have s93 := gSg.at g85 sS73.1 t58 rfl (by decide) s72
  have s94 := gSg.rawat g85 rf74 (fun w => by cases w) t57 (by decide) s76
  have s95 := gSg.rawat g85 rf74 (fun w => by cases w) t57 (by decide) s77
  have s96 := gSg.rawat g85 rf74 (fun w => by cases w) t57 (by decide) s78
  have s97 := gSg.rawat g85 rf74 (fun w => by cases w) t57 (by decide) s79
  have s98 := gSg.rawat g85 rf74 (fun w => by cases w) t57 (by decide) s80
  have s99 := gSg.rawat g85 rf74 (fun w => by cases w) t57 (by decide) s81
  have s100 := gSg.rawat g85 rf74 (fun w => by cases w) t57 (by decide) eh69
  have pr101 : gNo [1, 2, 3, 4, 5, 6, 7, 8, 9, 10, 11, 12, 13, 14, 15, 16, 17, 18, 19, 20, 21, 22, 23, 24, 25, 26, 27, 28, 29, 30, 31, 32, 33, 34, 35, 36, 37, 38, 39, 40, 41, 42, 50, 54, 55, 56, 57, 58, 59, 60, 61, 62, 63, 64, 65, 66, 67, 68, 69, 70, 71, 72, 73, 74, 75, 76, 77, 78, 79, 80, 81, 82, 83, 84, 85, 90, 91, 92, 93, 94, 95, 96, 97, 98, 99] ty82 := gNo.gr g85 (by decide) (gNo.sub (by decide) pr67)
  have uq102 := gSg.uq g85 uq52 (by decide)
  have sS103 : gSs rT 1027 ty82 [64999, 53999] h83 h83 := gSs.rf g85.1
  refine gz_s 1 (pc' := 29) (L' := [some (.ref x)]) (S' := [.ref c84, .ref c84, .ref x]) rfl ?_
  refine gz_call rfl (by decide) rfl (by decide) (by decide) (gcal_of rfl rfl rfl (Nat.le_of_ble_eq_true rfl) rfl) (ct_Picture _ sS103.1 c84 tc84 nnc84 llc84 kc84 zc84 dc84 (gNo.sub (by decide) pr101) uq102) (fun q104 _ wq104 => ?_)
  obtain ⟨pq104, oq104, hq104⟩ := q104
  obtain ⟨tyq104, xq104, cq104_0, cq104_1, cq104_2, cq104_3, ttq104, ecq104_0, tcq104_0, ecq104_1, tcq104_1, ecq104_2, tcq104_2, ecq104_3, tcq104_3, trq104_0, gq104, uq104_0, uq104_1, yq104_0, uqq104⟩ := wq104
  dsimp only at uq104_0 uq104_1
  refine ⟨_, gq104, ?_⟩
  show gz gPP gGG gcn _ _ 32 [some (.ref x)] [.ref c84, .ref x] hq104 _
  have G105 : gSg [50, 51, 52, 53, 54, 55, 56, 57, 58, 59, 60, 61, 62, 63, 64, 82, 83, 84, 112, 113, 114, 200] [x] [64999, 53999] ty h tyq104 hq104 := gSg.tr (gSg.ss G86 sS103 (by decide)) xq104 (by decide) (by decide) (fun x hx => Or.inl (by rw [List.mem_singleton.mp hx]; exact gac84))
  have rw106 := gSg.raw xq104 rw87.2.1 (fun w => nex_c84 (List.mem_singleton.mp w))
  have rf107 := (rw106.2.2.1.trans rf88)
  have rf108 := (rw106.2.2.2.trans rf89)
  have t109 : tyq104 x = 200 := rw106.1.trans t90
  have t110 : tyq104 c3 = 51 := gSg.typ xq104 sS103.1 t91 rfl
  have t111 : tyq104 c50 = 53 := gSg.typ xq104 sS103.1 t92 rfl
  have s112 := gSg.at xq104 sS103.1 t91 rfl (by decide) s93
  have s113 := gSg.rawat xq104 rw87.2.1 (fun w => nex_c84 (List.mem_singleton.mp w)) t90 (by decide) s94
  have s114 := gSg.rawat xq104 rw87.2.1 (fun w => nex_c84 (List.mem_singleton.mp w)) t90 (by decide) s95
  have s115 := gSg.rawat xq104 rw87.2.1 (fun w => nex_c84 (List.mem_singleton.mp w)) t90 (by decide) s96
  have s116 := gSg.rawat xq104 rw87.2.1 (fun w => nex_c84 (List.mem_singleton.mp w)) t90 (by decide) s97
  have s117 := gSg.rawat xq104 rw87.2.1 (fun w => nex_c84 (List.mem_singleton.mp w)) t90 (by decide) s98
  have s118 := gSg.rawat xq104 rw87.2.1 (fun w => nex_c84 (List.mem_singleton.mp w)) t90 (by decide) s99
  have s119 := gSg.rawat xq104 rw87.2.1 (fun w => nex_c84 (List.mem_singleton.mp w)) t90 (by decide) s100
  have pr120 : gNo [1, 2, 3, 4, 5, 6, 7, 8, 9, 10, 11, 12, 13, 14, 15, 16, 17, 18, 19, 20, 21, 22, 23, 24, 25, 26, 27, 28, 29, 30, 31, 32, 33, 34, 35, 36, 37, 38, 39, 40, 41, 42, 50, 55, 56, 59, 60, 61, 62, 63, 64, 65, 66, 67, 68, 69, 70, 71, 72, 73, 74, 75, 76, 77, 78, 79, 80, 81, 85, 90, 91, 92, 93, 94, 95, 96, 97, 98, 99] tyq104 := gNo.gr xq104 (by decide) (gNo.sub (by decide) pr101)
  have sS121 : gSs rT 1027 tyq104 [64999, 53999] hq104 hq104 := gSs.rf xq104.1
  refine gs_rput rfl (by decide) rfl sS121.1 t109 nx rw106.2.1 rf107 rfl (Or.inr rfl) (fun h122 g123 nh122 mh122 kh122 zh122 eh122 fh122 => ?_)
  have G124 : gSg [50, 51, 52, 53, 54, 55, 56, 57, 58, 59, 60, 61, 62, 63, 64, 82, 83, 84, 112, 113, 114, 200] [x] [64999, 53999] ty h tyq104 h122 := gSg.tr (gSg.ss G105 sS121 (by decide)) g123 (by decide) (by decide) (fun x hx => Or.inr hx)
  have s125 := gSg.at g123 sS121.1 t110 rfl (by decide) s112
  have s126 := gSg.at g123 sS121.1 trq104_0 rfl (by decide) ecq104_0
  have s127 := gSg.at g123 sS121.1 tcq104_0 rfl (by decide) ecq104_1
  have s128 := gSg.at g123 sS121.1 tcq104_0 rfl (by decide) ecq104_2
  have s129 := gSg.at g123 sS121.1 tcq104_0 rfl (by decide) ecq104_3
  have pr130 := gPC.gr g123 sS121.1 (by decide) yq104_0
  have sS131 : gSs rT 1027 tyq104 [64999, 53999] h122 h122 := gSs.rf g123.1
  have rf132 := Nat.lt_of_lt_of_eq rw106.2.1 nh122.symm
  have rf133 := zh122.trans rf108
  have s134 := (fh122 3 (by decide)).trans s114
  have s135 := (fh122 4 (by decide)).trans s115
  have s136 := (fh122 5 (by decide)).trans s116
  have s137 := (fh122 6 (by decide)).trans s117
  have s138 := (fh122 0 (by decide)).trans s118
  have s139 := (fh122 1 (by decide)).trans s119
  refine gz_s 1 (pc' := 36) (L' := [some (.ref x)]) (S' := [.ref x]) rfl ?_
  refine gs_newo rfl (by decide) rfl sS131.1 (Nat.le_of_lt (Nat.lt_of_le_of_lt (gJ.cell sS131.1 t110 rfl).1 (gJ.cell sS131.1 t110 rfl).2.1)) (fun ty140 h141 c142 g143 tc142 kc142 zc142 nc142 mc142 ec142 dc142 => ?_)
  have mfc142 : h141.2.1 = h122.2.1 + 10 := mc142
  have gac142 : h.1 ≤ c142 := by have h8 := G124.2.1; have h9 := sS131.2.1; omega
  have nnc142 : 1027 ≤ c142 := by have h8 := (Nat.le_of_lt (Nat.lt_of_le_of_lt (gJ.cell sS131.1 t110 rfl).1 (gJ.cell sS131.1 t110 rfl).2.1)); omega
  have llc142 : c142 < _ := by rw [nc142, ec142]; exact Nat.lt_succ_self _
  have nex_c142 : x ≠ c142 := by have h8 := rf132; omega
  have G144 : gSg [50, 51, 52, 53, 54, 55, 56, 57, 58, 59, 60, 61, 62, 63, 64, 82, 83, 84, 112, 113, 114, 200] [x] [64999, 53999] ty h ty140 h141 := gSg.tr (gSg.ss G124 sS131 (by decide)) g143 (by decide) (by decide) (fun x hx => by cases hx)
  have rw145 := gSg.raw g143 rf132 (fun w => by cases w)
  have rf146 := (rw145.2.2.1.trans kh122)
  have rf147 := (rw145.2.2.2.trans rf133)
  have t148 : ty140 x = 200 := rw145.1.trans t109
  have t149 : ty140 c3 = 51 := gSg.typ g143 sS131.1 t110 rfl
  have t150 : ty140 c50 = 53 := gSg.typ g143 sS131.1 t111 rfl
  have t151 : ty140 c84 = 54 := gSg.typ g143 sS131.1 trq104_0 rfl
  have t152 : ty140 cq104_0 = 57 := gSg.typ g143 sS131.1 tcq104_0 rfl
  have t153 : ty140 cq104_1 = 82 := gSg.typ g143 sS131.1 tcq104_1 rfl
  have t154 : ty140 cq104_2 = 83 := gSg.typ g143 sS131.1 tcq104_2 rfl
  have t155 : ty140 cq104_3 = 84 := gSg.typ g143 sS131.1 tcq104_3 rfl
  have s156 := gSg.at g143 sS131.1 t110 rfl (by decide) s125
  have s157 := gSg.at g143 sS131.1 trq104_0 rfl (by decide) s126
  have s158 := gSg.at g143 sS131.1 tcq104_0 rfl (by decide) s127
  have s159 := gSg.at g143 sS131.1 tcq104_0 rfl (by decide) s128
  have s160 := gSg.at g143 sS131.1 tcq104_0 rfl (by decide) s129
  have s161 := gSg.rawat g143 rf132 (fun w => by cases w) t109 (by decide) s134
  have s162 := gSg.rawat g143 rf132 (fun w => by cases w) t109 (by decide) s135
  have s163 := gSg.rawat g143 rf132 (fun w => by cases w) t109 (by decide) s136
  have s164 := gSg.rawat g143 rf132 (fun w => by cases w) t109 (by decide) s137
  have s165 := gSg.rawat g143 rf132 (fun w => by cases w) t109 (by decide) s138
  have s166 := gSg.rawat g143 rf132 (fun w => by cases w) t109 (by decide) s139
  have s167 := gSg.rawat g143 rf132 (fun w => by cases w) t109 (by decide) eh122
  have pr168 : gNo [1, 2, 3, 4, 5, 6, 7, 8, 9, 10, 11, 12, 13, 14, 15, 16, 17, 18, 19, 20, 21, 22, 23, 24, 25, 26, 27, 28, 29, 30, 31, 32, 33, 34, 35, 36, 37, 38, 39, 40, 41, 42, 50, 55, 56, 59, 60, 61, 62, 63, 64, 65, 66, 67, 68, 69, 70, 71, 72, 73, 74, 75, 76, 77, 78, 79, 80, 81, 85, 90, 91, 92, 93, 94, 95, 96, 97, 98, 99] ty140 := gNo.gr g143 (by decide) (gNo.sub (by decide) pr120)
  have pr169 := gPC.gr g143 sS131.1 (by decide) pr130
  have uq170 := gSg.uq g143 uqq104 (by decide)
  have sS171 : gSs rT 1027 ty140 [64999, 53999] h141 h141 := gSs.rf g143.1
  refine gz_s 1 (pc' := 40) (L' := [some (.ref x)]) (S' := [.ref c142, .ref c142, .ref x]) rfl ?_
  refine gz_call rfl (by decide) rfl (by decide) (by decide) (gcal_of rfl rfl rfl (Nat.le_of_ble_eq_true rfl) rfl) (ct_Draft _ sS171.1 c142 tc142 nnc142 llc142 kc142 zc142 dc142 (gNo.sub (by decide) pr168) uq170) (fun q172 _ wq172 => ?_)
  obtain ⟨pq172, oq172, hq172⟩ := q172
  obtain ⟨tyq172, xq172, fq172_0, fq172_1, trq172_0, gq172, efq172_0, afq172_0, bfq172_0, efq172_1, afq172_1, bfq172_1, uq172_0, uq172_1, uq172_2, uq172_3, yq172_0, uqq172⟩ := wq172
  dsimp only at uq172_0 uq172_1
  refine ⟨_, gq172, ?_⟩
  show gz gPP gGG gcn _ _ 43 [some (.ref x)] [.ref c142, .ref x] hq172 _
  have G173 : gSg [50, 51, 52, 53, 54, 55, 56, 57, 58, 59, 60, 61, 62, 63, 64, 82, 83, 84, 112, 113, 114, 200] [x] [64999, 53999] ty h tyq172 hq172 := gSg.tr (gSg.ss G144 sS171 (by decide)) xq172 (by decide) (by decide) (fun x hx => Or.inl (by rw [List.mem_singleton.mp hx]; exact gac142))
  have rw174 := gSg.raw xq172 rw145.2.1 (fun w => nex_c142 (List.mem_singleton.mp w))
  have rf175 := (rw174.2.2.1.trans rf146)
  have rf176 := (rw174.2.2.2.trans rf147)
  have t177 : tyq172 x = 200 := rw174.1.trans t148
  have t178 : tyq172 c3 = 51 := gSg.typ xq172 sS171.1 t149 rfl
  have t179 : tyq172 c50 = 53 := gSg.typ xq172 sS171.1 t150 rfl
  have t180 : tyq172 c84 = 54 := gSg.typ xq172 sS171.1 t151 rfl
  have t181 : tyq172 cq104_0 = 57 := gSg.typ xq172 sS171.1 t152 rfl
  have t182 : tyq172 cq104_1 = 82 := gSg.typ xq172 sS171.1 t153 rfl
  have t183 : tyq172 cq104_2 = 83 := gSg.typ xq172 sS171.1 t154 rfl
  have t184 : tyq172 cq104_3 = 84 := gSg.typ xq172 sS171.1 t155 rfl
  have s185 := gSg.at xq172 sS171.1 t149 rfl (by decide) s156
  have s186 := gSg.at xq172 sS171.1 t151 rfl (by decide) s157
  have s187 := gSg.at xq172 sS171.1 t152 rfl (by decide) s158
  have s188 := gSg.at xq172 sS171.1 t152 rfl (by decide) s159
  have s189 := gSg.at xq172 sS171.1 t152 rfl (by decide) s160
  have s190 := gSg.rawat xq172 rw145.2.1 (fun w => nex_c142 (List.mem_singleton.mp w)) t148 (by decide) s161
  have s191 := gSg.rawat xq172 rw145.2.1 (fun w => nex_c142 (List.mem_singleton.mp w)) t148 (by decide) s162
  have s192 := gSg.rawat xq172 rw145.2.1 (fun w => nex_c142 (List.mem_singleton.mp w)) t148 (by decide) s163
  have s193 := gSg.rawat xq172 rw145.2.1 (fun w => nex_c142 (List.mem_singleton.mp w)) t148 (by decide) s164
  have s194 := gSg.rawat xq172 rw145.2.1 (fun w => nex_c142 (List.mem_singleton.mp w)) t148 (by decide) s165
  have s195 := gSg.rawat xq172 rw145.2.1 (fun w => nex_c142 (List.mem_singleton.mp w)) t148 (by decide) s166
  have s196 := gSg.rawat xq172 rw145.2.1 (fun w => nex_c142 (List.mem_singleton.mp w)) t148 (by decide) s167
  have pr197 : gNo [1, 2, 3, 4, 5, 6, 7, 8, 9, 10, 11, 12, 13, 14, 15, 16, 17, 18, 19, 20, 21, 22, 23, 24, 25, 26, 27, 28, 29, 30, 31, 32, 33, 34, 35, 36, 37, 38, 39, 40, 41, 42, 50, 56, 65, 66, 67, 68, 69, 70, 71, 72, 73, 74, 75, 76, 77, 78, 79, 80, 81, 85, 90, 91, 92, 93, 94, 95, 96, 97, 98, 99] tyq172 := gNo.gr xq172 (by decide) (gNo.sub (by decide) pr168)
  have pr198 := gPC.gr xq172 sS171.1 (by decide) pr169
  have sS199 : gSs rT 1027 tyq172 [64999, 53999] hq172 hq172 := gSs.rf xq172.1
  refine gs_rput rfl (by decide) rfl sS199.1 t177 nx rw174.2.1 rf175 rfl (Or.inr rfl) (fun h200 g201 nh200 mh200 kh200 zh200 eh200 fh200 => ?_)
  have G202 : gSg [50, 51, 52, 53, 54, 55, 56, 57, 58, 59, 60, 61, 62, 63, 64, 82, 83, 84, 112, 113, 114, 200] [x] [64999, 53999] ty h tyq172 h200 := gSg.tr (gSg.ss G173 sS199 (by decide)) g201 (by decide) (by decide) (fun x hx => Or.inr hx)
  have s203 := gSg.at g201 sS199.1 t178 rfl (by decide) s185
  have s204 := gSg.at g201 sS199.1 t180 rfl (by decide) s186
  have s205 := gSg.at g201 sS199.1 t181 rfl (by decide) s187
  have s206 := gSg.at g201 sS199.1 t181 rfl (by decide) s188
  have s207 := gSg.at g201 sS199.1 t181 rfl (by decide) s189
  have s208 := gSg.at g201 sS199.1 trq172_0 rfl (by decide) efq172_0
  have s209 := gSg.at g201 sS199.1 trq172_0 rfl (by decide) efq172_1
  have pr210 := gPC.gr g201 sS199.1 (by decide) pr198
  have pr211 := gTc.gr g201 sS199.1 (by decide) (by decide) yq172_0
  have sS212 : gSs rT 1027 tyq172 [64999, 53999] h200 h200 := gSs.rf g201.1
  have rf213 := Nat.lt_of_lt_of_eq rw174.2.1 nh200.symm
  have rf214 := zh200.trans rf176
  have s215 := (fh200 4 (by decide)).trans s191
  have s216 := (fh200 5 (by decide)).trans s192
  have s217 := (fh200 6 (by decide)).trans s193
  have s218 := (fh200 0 (by decide)).trans s194
  have s219 := (fh200 1 (by decide)).trans s195
  have s220 := (fh200 2 (by decide)).trans s196
  refine gz_s 1 (pc' := 47) (L' := [some (.ref x)]) (S' := [.ref x]) rfl ?_
  refine gs_newo rfl (by decide) rfl sS212.1 (Nat.le_of_lt (Nat.lt_of_le_of_lt (gJ.cell sS212.1 t178 rfl).1 (gJ.cell sS212.1 t178 rfl).2.1)) (fun ty221 h222 c223 g224 tc223 kc223 zc223 nc223 mc223 ec223 dc223 => ?_)
  have mfc223 : h222.2.1 = h200.2.1 + 4 := mc223
  have gac223 : h.1 ≤ c223 := by have h8 := G202.2.1; have h9 := sS212.2.1; omega
  have nnc223 : 1027 ≤ c223 := by have h8 := (Nat.le_of_lt (Nat.lt_of_le_of_lt (gJ.cell sS212.1 t178 rfl).1 (gJ.cell sS212.1 t178 rfl).2.1)); omega
  have llc223 : c223 < _ := by rw [nc223, ec223]; exact Nat.lt_succ_self _
  have nex_c223 : x ≠ c223 := by have h8 := rf213; omega
  have G225 : gSg [50, 51, 52, 53, 54, 55, 56, 57, 58, 59, 60, 61, 62, 63, 64, 82, 83, 84, 112, 113, 114, 200] [x] [64999, 53999] ty h ty221 h222 := gSg.tr (gSg.ss G202 sS212 (by decide)) g224 (by decide) (by decide) (fun x hx => by cases hx)
  have rw226 := gSg.raw g224 rf213 (fun w => by cases w)
  have rf227 := (rw226.2.2.1.trans kh200)
  have rf228 := (rw226.2.2.2.trans rf214)
  have t229 : ty221 x = 200 := rw226.1.trans t177
  have t230 : ty221 c3 = 51 := gSg.typ g224 sS212.1 t178 rfl
  have t231 : ty221 c50 = 53 := gSg.typ g224 sS212.1 t179 rfl
  have t232 : ty221 c84 = 54 := gSg.typ g224 sS212.1 t180 rfl
  have t233 : ty221 cq104_0 = 57 := gSg.typ g224 sS212.1 t181 rfl
  have t234 : ty221 cq104_1 = 82 := gSg.typ g224 sS212.1 t182 rfl
  have t235 : ty221 cq104_2 = 83 := gSg.typ g224 sS212.1 t183 rfl
  have t236 : ty221 cq104_3 = 84 := gSg.typ g224 sS212.1 t184 rfl
  have t237 : ty221 c142 = 55 := gSg.typ g224 sS212.1 trq172_0 rfl
  have s238 := gSg.at g224 sS212.1 t178 rfl (by decide) s203
  have s239 := gSg.at g224 sS212.1 t180 rfl (by decide) s204
  have s240 := gSg.at g224 sS212.1 t181 rfl (by decide) s205
  have s241 := gSg.at g224 sS212.1 t181 rfl (by decide) s206
  have s242 := gSg.at g224 sS212.1 t181 rfl (by decide) s207
  have s243 := gSg.at g224 sS212.1 trq172_0 rfl (by decide) s208
  have s244 := gSg.at g224 sS212.1 trq172_0 rfl (by decide) s209
  have s245 := gSg.rawat g224 rf213 (fun w => by cases w) t177 (by decide) s215
  have s246 := gSg.rawat g224 rf213 (fun w => by cases w) t177 (by decide) s216
  have s247 := gSg.rawat g224 rf213 (fun w => by cases w) t177 (by decide) s217
  have s248 := gSg.rawat g224 rf213 (fun w => by cases w) t177 (by decide) s218
  have s249 := gSg.rawat g224 rf213 (fun w => by cases w) t177 (by decide) s219
  have s250 := gSg.rawat g224 rf213 (fun w => by cases w) t177 (by decide) s220
  have s251 := gSg.rawat g224 rf213 (fun w => by cases w) t177 (by decide) eh200
  have pr252 : gNo [1, 2, 3, 4, 5, 6, 7, 8, 9, 10, 11, 12, 13, 14, 15, 16, 17, 18, 19, 20, 21, 22, 23, 24, 25, 26, 27, 28, 29, 30, 31, 32, 33, 34, 35, 36, 37, 38, 39, 40, 41, 42, 50, 56, 65, 66, 67, 68, 69, 70, 71, 72, 73, 74, 75, 76, 77, 78, 79, 80, 81, 85, 90, 91, 92, 93, 94, 95, 96, 97, 98, 99] ty221 := gNo.gr g224 (by decide) (gNo.sub (by decide) pr197)
  have pr253 := gPC.gr g224 sS212.1 (by decide) pr210
  have pr254 := gTc.gr g224 sS212.1 (by decide) (by decide) pr211
  have uq255 := gSg.uq g224 uqq172 (by decide)
  have sS256 : gSs rT 1027 ty221 [64999, 53999] h222 h222 := gSs.rf g224.1
  refine gz_s 1 (pc' := 51) (L' := [some (.ref x)]) (S' := [.ref c223, .ref c223, .ref x]) rfl ?_
  refine gz_call rfl (by decide) rfl (by decide) (by decide) (gcal_of rfl rfl rfl (Nat.le_of_ble_eq_true rfl) rfl) (ct_Sink _ sS256.1 c223 tc223 nnc223 llc223 kc223 zc223 dc223 (gNo.sub (by decide) pr252) uq255) (fun q257 _ wq257 => ?_)
  obtain ⟨pq257, oq257, hq257⟩ := q257
  obtain ⟨tyq257, xq257, cq257_0, ttq257, fq257_0, ecq257_0, tcq257_0, trq257_0, gq257, efq257_0, afq257_0, bfq257_0, uq257_0, uq257_1, uq257_2, uq257_3, uqq257⟩ := wq257
  dsimp only at uq257_0 uq257_1 uq257_3
  refine ⟨_, gq257, ?_⟩
  show gz gPP gGG gcn _ _ 54 [some (.ref x)] [.ref c223, .ref x] hq257 _
  have G258 : gSg [50, 51, 52, 53, 54, 55, 56, 57, 58, 59, 60, 61, 62, 63, 64, 82, 83, 84, 112, 113, 114, 200] [x] [64999, 53999] ty h tyq257 hq257 := gSg.tr (gSg.ss G225 sS256 (by decide)) xq257 (by decide) (by decide) (fun x hx => Or.inl (by rw [List.mem_singleton.mp hx]; exact gac223))
  have rw259 := gSg.raw xq257 rw226.2.1 (fun w => nex_c223 (List.mem_singleton.mp w))
  have rf260 := (rw259.2.2.1.trans rf227)
  have rf261 := (rw259.2.2.2.trans rf228)
  have t262 : tyq257 x = 200 := rw259.1.trans t229
  have t263 : tyq257 c3 = 51 := gSg.typ xq257 sS256.1 t230 rfl
  have t264 : tyq257 c50 = 53 := gSg.typ xq257 sS256.1 t231 rfl
  have t265 : tyq257 c84 = 54 := gSg.typ xq257 sS256.1 t232 rfl
  have t266 : tyq257 cq104_0 = 57 := gSg.typ xq257 sS256.1 t233 rfl
  have t267 : tyq257 cq104_1 = 82 := gSg.typ xq257 sS256.1 t234 rfl
  have t268 : tyq257 cq104_2 = 83 := gSg.typ xq257 sS256.1 t235 rfl
  have t269 : tyq257 cq104_3 = 84 := gSg.typ xq257 sS256.1 t236 rfl
  have t270 : tyq257 c142 = 55 := gSg.typ xq257 sS256.1 t237 rfl
  have s271 := gSg.at xq257 sS256.1 t230 rfl (by decide) s238
  have s272 := gSg.at xq257 sS256.1 t232 rfl (by decide) s239
  have s273 := gSg.at xq257 sS256.1 t233 rfl (by decide) s240
  have s274 := gSg.at xq257 sS256.1 t233 rfl (by decide) s241
  have s275 := gSg.at xq257 sS256.1 t233 rfl (by decide) s242
  have s276 := gSg.at xq257 sS256.1 t237 rfl (by decide) s243
  have s277 := gSg.at xq257 sS256.1 t237 rfl (by decide) s244
  have s278 := gSg.rawat xq257 rw226.2.1 (fun w => nex_c223 (List.mem_singleton.mp w)) t229 (by decide) s245
  have s279 := gSg.rawat xq257 rw226.2.1 (fun w => nex_c223 (List.mem_singleton.mp w)) t229 (by decide) s246
  have s280 := gSg.rawat xq257 rw226.2.1 (fun w => nex_c223 (List.mem_singleton.mp w)) t229 (by decide) s247
  have s281 := gSg.rawat xq257 rw226.2.1 (fun w => nex_c223 (List.mem_singleton.mp w)) t229 (by decide) s248
  have s282 := gSg.rawat xq257 rw226.2.1 (fun w => nex_c223 (List.mem_singleton.mp w)) t229 (by decide) s249
  have s283 := gSg.rawat xq257 rw226.2.1 (fun w => nex_c223 (List.mem_singleton.mp w)) t229 (by decide) s250
  have s284 := gSg.rawat xq257 rw226.2.1 (fun w => nex_c223 (List.mem_singleton.mp w)) t229 (by decide) s251
  have pr285 : gNo [1, 2, 3, 4, 5, 6, 7, 8, 9, 10, 11, 12, 13, 14, 15, 16, 17, 18, 19, 20, 21, 22, 23, 24, 25, 26, 27, 28, 29, 30, 31, 32, 33, 34, 35, 36, 37, 38, 39, 40, 41, 42, 50, 65, 66, 67, 68, 69, 70, 71, 72, 73, 74, 75, 76, 77, 78, 79, 80, 81, 85, 90, 91, 92, 93, 94, 95, 96, 97, 98, 99] tyq257 := gNo.gr xq257 (by decide) (gNo.sub (by decide) pr252)
  have pr286 := gPC.gr xq257 sS256.1 (by decide) pr253
  have pr287 := gTc.gr xq257 sS256.1 (by decide) (by decide) pr254
  have sS288 : gSs rT 1027 tyq257 [64999, 53999] hq257 hq257 := gSs.rf xq257.1
  refine gs_rput rfl (by decide) rfl sS288.1 t262 nx rw259.2.1 rf260 rfl (Or.inr rfl) (fun h289 g290 nh289 mh289 kh289 zh289 eh289 fh289 => ?_)
  have G291 : gSg [50, 51, 52, 53, 54, 55, 56, 57, 58, 59, 60, 61, 62, 63, 64, 82, 83, 84, 112, 113, 114, 200] [x] [64999, 53999] ty h tyq257 h289 := gSg.tr (gSg.ss G258 sS288 (by decide)) g290 (by decide) (by decide) (fun x hx => Or.inr hx)
  have hl292 : h289.2.2.2.1 cq257_0 = hq257.2.2.2.1 cq257_0 := gSg.len g290 sS288.1 tcq257_0 rfl
  have s293 := gSg.at g290 sS288.1 t263 rfl (by decide) s271
  have s294 := gSg.at g290 sS288.1 t265 rfl (by decide) s272
  have s295 := gSg.at g290 sS288.1 t266 rfl (by decide) s273
  have s296 := gSg.at g290 sS288.1 t266 rfl (by decide) s274
  have s297 := gSg.at g290 sS288.1 t266 rfl (by decide) s275
  have s298 := gSg.at g290 sS288.1 t270 rfl (by decide) s276
  have s299 := gSg.at g290 sS288.1 t270 rfl (by decide) s277
  have s300 := gSg.at g290 sS288.1 trq257_0 rfl (by decide) ecq257_0
  have s301 := gSg.at g290 sS288.1 trq257_0 rfl (by decide) efq257_0
  have pr302 := gPC.gr g290 sS288.1 (by decide) pr286
  have pr303 := gTc.gr g290 sS288.1 (by decide) (by decide) pr287
  have sS304 : gSs rT 1027 tyq257 [64999, 53999] h289 h289 := gSs.rf g290.1
  have rf305 := Nat.lt_of_lt_of_eq rw259.2.1 nh289.symm
  have rf306 := zh289.trans rf261
  have s307 := (fh289 5 (by decide)).trans s279
  have s308 := (fh289 6 (by decide)).trans s280
  have s309 := (fh289 0 (by decide)).trans s281
  have s310 := (fh289 1 (by decide)).trans s282
  have s311 := (fh289 2 (by decide)).trans s283
  have s312 := (fh289 3 (by decide)).trans s284
  refine gz_s 1 (pc' := 58) (L' := [some (.ref x)]) (S' := [.ref x]) rfl ?_
  refine gz_get rfl (by decide) rfl nx rf305 kh289 s310 ?_
  refine gz_s 1 (pc' := 63) (L' := [some (.ref x)]) (S' := [.int (zi 16), .ref c50]) rfl ?_
  refine gz_call rfl (by decide) rfl (by decide) (by decide) (gcal_of rfl rfl rfl (Nat.le_of_ble_eq_true rfl) rfl) (cl_fill_tables _ sS304.1 c50 t264 16 (by omega) ) (fun q313 _ wq313 => ?_)
  obtain ⟨pq313, oq313, hq313⟩ := q313
  obtain ⟨xq313, gq313⟩ := wq313
  refine ⟨_, gq313, ?_⟩
  show gz gPP gGG gcn _ _ 66 [some (.ref x)] [] hq313 _
  have sq313 : gSs rT 1027 tyq257 [64999, 53999] h289 hq313 := gSs.tr sS304 xq313 (by decide)
  have s314 := (xq313.2.2.2.2.2 c3 1 (by rw [t263]; decide)).trans s293
  have s315 := (xq313.2.2.2.2.2 c84 0 (by rw [t265]; decide)).trans s294
  have s316 := (xq313.2.2.2.2.2 cq104_0 0 (by rw [t266]; decide)).trans s295
  have s317 := (xq313.2.2.2.2.2 cq104_0 1 (by rw [t266]; decide)).trans s296
  have s318 := (xq313.2.2.2.2.2 cq104_0 2 (by rw [t266]; decide)).trans s297
  have s319 := (xq313.2.2.2.2.2 c142 8 (by rw [t270]; decide)).trans s298
  have s320 := (xq313.2.2.2.2.2 c142 3 (by rw [t270]; decide)).trans s299
  have s321 := (xq313.2.2.2.2.2 c223 0 (by rw [trq257_0]; decide)).trans s300
  have s322 := (xq313.2.2.2.2.2 c223 1 (by rw [trq257_0]; decide)).trans s301
  have s323 := (xq313.2.2.2.2.2 x 5 (by rw [t262]; decide)).trans s307
  have s324 := (xq313.2.2.2.2.2 x 6 (by rw [t262]; decide)).trans s308
  have s325 := (xq313.2.2.2.2.2 x 0 (by rw [t262]; decide)).trans s309
  have s326 := (xq313.2.2.2.2.2 x 1 (by rw [t262]; decide)).trans s310
  have s327 := (xq313.2.2.2.2.2 x 2 (by rw [t262]; decide)).trans s311
  have s328 := (xq313.2.2.2.2.2 x 3 (by rw [t262]; decide)).trans s312
  have s329 := (xq313.2.2.2.2.2 x 4 (by rw [t262]; decide)).trans eh289
  have pr330 := gPC.fr xq313.2 (by decide) pr302
  have pr331 := gTc.fr xq313.2 (by decide) pr303
  obtain ⟨ty333, g332, tg332, ug332⟩ := gSg.adx 50 sq313.1 t262 nx (Nat.lt_of_lt_of_eq rf305 sq313.2.1.symm) rfl ((congrFun sq313.2.2.2.1 x).trans kh289) (by show (0 : Nat) ≤ _; have h9 := ((congrFun sq313.2.2.2.2.1 x).trans rf306); omega) (by show _ ≤ (0 : Nat); have h9 := ((congrFun sq313.2.2.2.2.1 x).trans rf306); omega) (fun ty9 w9 k hk => ad50 (by rw [s325]; exact ⟨c3, rfl, w9 c3 _ t263 (by decide)⟩) (by rw [s326]; exact ⟨c50, rfl, w9 c50 _ t264 (by decide)⟩) (by rw [s327]; exact ⟨c84, rfl, w9 c84 _ t265 (by decide)⟩) (by rw [s328]; exact ⟨c142, rfl, w9 c142 _ t270 (by decide)⟩) (by rw [s329]; exact ⟨c223, rfl, w9 c223 _ trq257_0 (by decide)⟩) (by rw [s323]; exact Or.inl rfl) (by rw [s324]; exact Or.inl rfl) k)
  have uq334 := ug332 uqq257 (Or.inr (gNo.sub (by decide) pr285))
  have G335 : gSg [50, 51, 52, 53, 54, 55, 56, 57, 58, 59, 60, 61, 62, 63, 64, 82, 83, 84, 112, 113, 114, 200] [x] [64999, 53999] ty h ty333 hq313 := gSg.tr (gSg.ss G291 sq313 (by decide)) g332 (by decide) (by decide) (fun x hx => Or.inr hx)
  have t336 : ty333 c3 = 51 := gSg.typ g332 sq313.1 t263 rfl
  have t337 : ty333 c50 = 53 := gSg.typ g332 sq313.1 t264 rfl
  have t338 : ty333 c84 = 54 := gSg.typ g332 sq313.1 t265 rfl
  have t339 : ty333 cq104_0 = 57 := gSg.typ g332 sq313.1 t266 rfl
  have t340 : ty333 cq104_1 = 82 := gSg.typ g332 sq313.1 t267 rfl
  have t341 : ty333 cq104_2 = 83 := gSg.typ g332 sq313.1 t268 rfl
  have t342 : ty333 cq104_3 = 84 := gSg.typ g332 sq313.1 t269 rfl
  have t343 : ty333 c142 = 55 := gSg.typ g332 sq313.1 t270 rfl
  have t344 : ty333 c223 = 56 := gSg.typ g332 sq313.1 trq257_0 rfl
  have t345 : ty333 cq257_0 = 114 := gSg.typ g332 sq313.1 tcq257_0 rfl
  have pr346 : gNo [1, 2, 3, 4, 5, 6, 7, 8, 9, 10, 11, 12, 13, 14, 15, 16, 17, 18, 19, 20, 21, 22, 23, 24, 25, 26, 27, 28, 29, 30, 31, 32, 33, 34, 35, 36, 37, 38, 39, 40, 41, 42, 65, 66, 67, 68, 69, 70, 71, 72, 73, 74, 75, 76, 77, 78, 79, 80, 81, 85, 90, 91, 92, 93, 94, 95, 96, 97, 98, 99] ty333 := gNo.gr g332 (by decide) (gNo.sub (by decide) pr285)
  have pr347 := gPC.gr g332 sq313.1 (by decide) pr330
  have pr348 := gTc.gr g332 sq313.1 (by decide) (by decide) pr331
  have sS349 : gSs rT 1027 ty333 [64999, 53999] hq313 hq313 := gSs.rf g332.1
  have hl350 : 1024 ≤ hq313.2.2.2.1 cq257_0 ∧ hq313.2.2.2.1 cq257_0 ≤ 1000000 := gJ.rowl (G := gGG) sS349.1 t345 rfl
  have G351 : gSg [50, 51, 52, 53, 54, 55, 56, 57, 58, 59, 60, 61, 62, 63, 64, 82, 83, 84, 112, 113, 114, 200] [x] [64999, 53999] ty h ty333 hq313 := gSg.ss G335 sS349 (by decide)
  exact gz_end (I := .return_) (len := 1) rfl (Or.inl rfl) ⟨ty333, G351, c142, c84, c223, cq257_0, cq104_0, cq104_1, cq104_2, cq104_3, trivial, fq172_0, fq172_1, fq257_0, s328, t343, s327, t338, s329, t344, s321, t345, s315, t339, s316, t340, s317, t341, s318, t342, tg332, rfl, s319, (by omega), (by omega), s320, (by omega), (by omega), s322, (by omega), (by omega), (by dsimp only; omega), (by dsimp only; omega), (by omega), (by omega), (by omega), (by dsimp only; omega), pr348, pr347, uq334, pr346⟩
