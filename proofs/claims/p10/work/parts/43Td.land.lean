/-! ===== methods of the landed text (by program) ===== -/
set_option maxRecDepth 20000 in
set_option maxHeartbeats 4000000 in
theorem ct_DctFilter (d : Nat) {ty : Nat → Nat} {h : gH} (hJ : gJ rT 1027 ty h) (x : Nat) (tx : ty x = 200) (nx : 1027 ≤ x) (lx : x < h.1) (kx : h.2.2.1 x = some (.inr 11)) (zx : h.2.2.2.1 x = 0) (dx : ∀ k, h.2.2.2.2 x k = defaultValue (gGG.2.1 11 k)) (no0 : gNo [1, 2, 3, 4, 5, 6, 7, 8, 9, 10, 11, 12, 13, 14, 15, 16, 17, 18, 19, 20, 21, 22, 23, 24, 25, 26, 27, 28, 29, 30, 31, 32, 33, 34, 35, 36, 37, 38, 39, 40, 41, 42, 50, 51, 52, 53, 54, 55, 56, 57, 58, 59, 60, 61, 62, 63, 64, 65, 66, 67, 68, 69, 70, 71, 72, 73, 74, 75, 76, 77, 78, 79, 80, 81, 82, 83, 84, 85, 90, 91, 92, 93, 94, 95, 96, 97, 98, 99] ty) (uq : gUq ty) : gz gPP gGG gcn (d + 3) gt0 0 (gent [.ref x] 1) [] h (fun q _ => ∃ ty9 : Nat → Nat, gSg [50, 51, 52, 53, 54, 55, 56, 57, 58, 59, 60, 61, 62, 63, 64, 82, 83, 84, 112, 113, 114, 200] [x] [64999, 53999] ty h ty9 q.2.2 ∧ ∃ dr pic sk bt2 bn b0 b1 b2 : Nat, True ∧ ∃ n1 iv1 w1 c1 : Int, q.2.2.2.2.2.2 x 3 = .ref dr ∧ ty9 dr = 55 ∧ q.2.2.2.2.2.2 x 2 = .ref pic ∧ ty9 pic = 54 ∧ q.2.2.2.2.2.2 x 4 = .ref sk ∧ ty9 sk = 56 ∧ q.2.2.2.2.2.2 sk 0 = .ref bt2 ∧ ty9 bt2 = 114 ∧ q.2.2.2.2.2.2 pic 0 = .ref bn ∧ ty9 bn = 57 ∧ q.2.2.2.2.2.2 bn 0 = .ref b0 ∧ ty9 b0 = 82 ∧ q.2.2.2.2.2.2 bn 1 = .ref b1 ∧ ty9 b1 = 83 ∧ q.2.2.2.2.2.2 bn 2 = .ref b2 ∧ ty9 b2 = 84 ∧ ty9 x = 50 ∧ gfin gt0 q.1 q.2.1 = some none ∧ q.2.2.2.2.2.2 dr 8 = .int (zi n1) ∧ 0 ≤ n1 ∧ n1 ≤ 10 ∧ q.2.2.2.2.2.2 dr 3 = .int (zi iv1) ∧ 0 ≤ iv1 ∧ iv1 ≤ 100 ∧ q.2.2.2.2.2.2 dr 1 = .int (zi w1) ∧ 0 ≤ w1 ∧ w1 ≤ 32 ∧ q.2.2.2.2.2.2 sk 1 = .int (zi c1) ∧ 0 ≤ c1 ∧ c1 ≤ 500000 ∧ ((q.2.2.1 : Int) = h.1 + 20) ∧ ((q.2.2.2.1 : Int) = h.2.1 + 4733) ∧ (n1 = 0) ∧ (iv1 = 0) ∧ (w1 = 0) ∧ (c1 = 0) ∧ ((q.2.2.2.2.2.1 bt2 : Int) = 1024) ∧ (gTc ty9 0 q.2.2) ∧ (gPC ty9 pic b0 b1 b2 0 q.2.2) ∧ (gOy ty9 64 (-1) 64 q.2.2) ∧ (gRr ty9 x q.2.2) ∧ (gRw ty9 x q.2.2) ∧ gUq ty9 ∧ gNo [1, 2, 3, 4, 5, 6, 7, 8, 9, 10, 11, 12, 13, 14, 15, 16, 17, 18, 19, 20, 21, 22, 23, 24, 25, 26, 27, 28, 29, 30, 31, 32, 33, 34, 35, 36, 37, 38, 39, 40, 41, 42, 65, 66, 67, 68, 69, 70, 71, 72, 73, 74, 75, 76, 77, 78, 79, 80, 81, 85, 90, 91, 92, 93, 94, 95, 96, 97, 98, 99] ty9) := by
  have hS : gSs rT 1027 ty [64999, 53999] h h := gSs.rf hJ
  have G0 : gSg [50, 51, 52, 53, 54, 55, 56, 57, 58, 59, 60, 61, 62, 63, 64, 82, 83, 84, 112, 113, 114, 200] [x] [64999, 53999] ty h ty h := gSg.rf hJ (fun x hx => by rw [List.mem_singleton.mp hx, tx]; rfl)
  refine gz_s 1 (pc' := 1) (L' := [some (.ref x)]) (S' := [.ref x]) rfl ?_
  refine gz_obj rfl (by decide) (by omega) rfl (by decide) ?_
  refine gz_s 1 (pc' := 5) (L' := [some (.ref x)]) (S' := [.ref x]) rfl ?_
  refine gs_newo rfl (by decide) rfl hS.1 (Nat.le_of_lt (Nat.lt_of_le_of_lt nx lx)) (fun ty1 h2 c3 g4 tc3 kc3 zc3 nc3 mc3 ec3 dc3 => ?_)
  have mfc3 : h2.2.1 = h.2.1 + 2 := mc3
  have gac3 : h.1 ≤ c3 := by have h8 := G0.2.1; have h9 := hS.2.1; omega
  have nnc3 : 1027 ≤ c3 := by have h8 := (Nat.le_of_lt (Nat.lt_of_le_of_lt nx lx)); omega
  have llc3 := Nat.lt_of_lt_of_eq (Nat.lt_succ_of_le (Nat.le_of_eq ec3)) nc3.symm
  have nex_c3 : x ≠ c3 := by have h8 := lx; omega
  have G5 : gSg [50, 51, 52, 53, 54, 55, 56, 57, 58, 59, 60, 61, 62, 63, 64, 82, 83, 84, 112, 113, 114, 200] [x] [64999, 53999] ty h ty1 h2 := gSg.tr (gSg.ss G0 hS (by decide)) g4 (by decide) (by decide) (fun x hx => by cases hx)
  have rw6 := gSg.raw g4 lx (fun w => by cases w)
  have rf7 := (rw6.2.2.1.trans kx)
  have rf8 := (rw6.2.2.2.trans zx)
  have dd9 := gSg.rawd (ci := 11) (ps := []) g4 lx (fun w => by cases w) tx (by decide) (fun k _ => dx k)
  have t10 : ty1 x = 200 := rw6.1.trans tx
  have pr11 : gNo [1, 2, 3, 4, 5, 6, 7, 8, 9, 10, 11, 12, 13, 14, 15, 16, 17, 18, 19, 20, 21, 22, 23, 24, 25, 26, 27, 28, 29, 30, 31, 32, 33, 34, 35, 36, 37, 38, 39, 40, 41, 42, 50, 51, 52, 53, 54, 55, 56, 57, 58, 59, 60, 61, 62, 63, 64, 65, 66, 67, 68, 69, 70, 71, 72, 73, 74, 75, 76, 77, 78, 79, 80, 81, 82, 83, 84, 85, 90, 91, 92, 93, 94, 95, 96, 97, 98, 99] ty1 := gNo.gr g4 (by decide) (gNo.sub (by decide) no0)
  have uq12 := gSg.uq g4 uq (by decide)
  have sS13 : gSs rT 1027 ty1 [64999, 53999] h2 h2 := gSs.rf g4.1
  refine gz_s 1 (pc' := 9) (L' := [some (.ref x)]) (S' := [.ref c3, .ref c3, .ref x]) rfl ?_
  refine gz_call rfl (by decide) rfl (by decide) (by decide) (gcal_of rfl rfl rfl (Nat.le_of_ble_eq_true rfl) rfl) (ct_Collected _ sS13.1 c3 tc3 nnc3 llc3 kc3 zc3 dc3 (gNo.sub (by decide) pr11) uq12) (fun q14 _ wq14 => ?_)
  obtain ⟨pq14, oq14, hq14⟩ := q14
  obtain ⟨tyq14, xq14, fq14_0, trq14_0, gq14, efq14_0, afq14_0, bfq14_0, uq14_0, uq14_1, uqq14⟩ := wq14
  dsimp only at uq14_0 uq14_1
  refine ⟨_, gq14, ?_⟩
  show gz gPP gGG gcn _ _ 12 [some (.ref x)] [.ref c3, .ref x] hq14 _
  have G15 : gSg [50, 51, 52, 53, 54, 55, 56, 57, 58, 59, 60, 61, 62, 63, 64, 82, 83, 84, 112, 113, 114, 200] [x] [64999, 53999] ty h tyq14 hq14 := gSg.tr (gSg.ss G5 sS13 (by decide)) xq14 (by decide) (by decide) (fun x hx => Or.inl (by rw [List.mem_singleton.mp hx]; exact gac3))
  have rw16 := gSg.raw xq14 rw6.2.1 (fun w => nex_c3 (List.mem_singleton.mp w))
  have rf17 := (rw16.2.2.1.trans rf7)
  have rf18 := (rw16.2.2.2.trans rf8)
  have dd19 := gSg.rawd (ci := 11) (ps := []) xq14 rw6.2.1 (fun w => nex_c3 (List.mem_singleton.mp w)) t10 (by decide) dd9
  have t20 : tyq14 x = 200 := rw16.1.trans t10
  have pr21 : gNo [1, 2, 3, 4, 5, 6, 7, 8, 9, 10, 11, 12, 13, 14, 15, 16, 17, 18, 19, 20, 21, 22, 23, 24, 25, 26, 27, 28, 29, 30, 31, 32, 33, 34, 35, 36, 37, 38, 39, 40, 41, 42, 50, 53, 54, 55, 56, 57, 58, 59, 60, 61, 62, 63, 64, 65, 66, 67, 68, 69, 70, 71, 72, 73, 74, 75, 76, 77, 78, 79, 80, 81, 82, 83, 84, 85, 90, 91, 92, 93, 94, 95, 96, 97, 98, 99] tyq14 := gNo.gr xq14 (by decide) (gNo.sub (by decide) pr11)
  have sS22 : gSs rT 1027 tyq14 [64999, 53999] hq14 hq14 := gSs.rf xq14.1
  refine gs_rput rfl (by decide) rfl sS22.1 t20 nx rw16.2.1 rf17 rfl (Or.inr rfl) (fun h23 g24 nh23 mh23 kh23 zh23 eh23 fh23 => ?_)
  have G25 : gSg [50, 51, 52, 53, 54, 55, 56, 57, 58, 59, 60, 61, 62, 63, 64, 82, 83, 84, 112, 113, 114, 200] [x] [64999, 53999] ty h tyq14 h23 := gSg.tr (gSg.ss G15 sS22 (by decide)) g24 (by decide) (by decide) (fun x hx => Or.inr hx)
  have s26 := gSg.at g24 sS22.1 trq14_0 rfl (by decide) efq14_0
  have sS27 : gSs rT 1027 tyq14 [64999, 53999] h23 h23 := gSs.rf g24.1
  have rf28 := Nat.lt_of_lt_of_eq rw16.2.1 nh23.symm
  have rf29 := zh23.trans rf18
  have dd30 : ∀ k, ¬ k ∈ ([0] : List Nat) → h23.2.2.2.2 x k = defaultValue (gGG.2.1 11 k) := raw_dp fh23 dd19
  refine gz_s 2 (pc' := 19) (L' := [some (.ref x)]) (S' := [.int (zi 256), .ref x]) rfl ?_
  refine gs_newr 53 rfl (by decide) rfl sS27.1 (Nat.le_of_lt (Nat.lt_of_le_of_lt (gJ.cell sS27.1 trq14_0 rfl).1 (gJ.cell sS27.1 trq14_0 rfl).2.1)) (by omega) (by omega) rfl rfl (by show (256 : Int) ≤ _; omega) (by show _ ≤ (256 : Int); omega) (fun _ _ => gos_i (by decide) (by decide)) (fun ty31 h32 c33 g34 tc33 lc33 nc33 mc33 ec33 dc33 uc33 => ?_)
  have gac33 : h.1 ≤ c33 := by have h8 := G25.2.1; have h9 := sS27.2.1; omega
  have uq35 := uc33 uqq14 (Or.inr (gNo.sub (by decide) pr21))
  have G36 : gSg [50, 51, 52, 53, 54, 55, 56, 57, 58, 59, 60, 61, 62, 63, 64, 82, 83, 84, 112, 113, 114, 200] [x] [64999, 53999] ty h ty31 h32 := gSg.tr (gSg.ss G25 sS27 (by decide)) g34 (by decide) (by decide) (fun x hx => by cases hx)
  have rw37 := gSg.raw g34 rf28 (fun w => by cases w)
  have rf38 := (rw37.2.2.1.trans kh23)
  have rf39 := (rw37.2.2.2.trans rf29)
  have dd40 := gSg.rawd (ci := 11) (ps := [0]) g34 rf28 (fun w => by cases w) t20 (by decide) dd30
  have t41 : ty31 x = 200 := rw37.1.trans t20
  have t42 : ty31 c3 = 51 := gSg.typ g34 sS27.1 trq14_0 rfl
  have s43 := gSg.at g34 sS27.1 trq14_0 rfl (by decide) s26
  have s44 := gSg.rawat g34 rf28 (fun w => by cases w) t20 (by decide) eh23
  have pr45 : gNo [1, 2, 3, 4, 5, 6, 7, 8, 9, 10, 11, 12, 13, 14, 15, 16, 17, 18, 19, 20, 21, 22, 23, 24, 25, 26, 27, 28, 29, 30, 31, 32, 33, 34, 35, 36, 37, 38, 39, 40, 41, 42, 50, 54, 55, 56, 57, 58, 59, 60, 61, 62, 63, 64, 65, 66, 67, 68, 69, 70, 71, 72, 73, 74, 75, 76, 77, 78, 79, 80, 81, 82, 83, 84, 85, 90, 91, 92, 93, 94, 95, 96, 97, 98, 99] ty31 := gNo.gr g34 (by decide) (gNo.sub (by decide) pr21)
  have sS46 : gSs rT 1027 ty31 [64999, 53999] h32 h32 := gSs.rf g34.1
  refine gs_rput rfl (by decide) rfl sS46.1 t41 nx rw37.2.1 rf38 rfl (Or.inr rfl) (fun h47 g48 nh47 mh47 kh47 zh47 eh47 fh47 => ?_)
  have G49 : gSg [50, 51, 52, 53, 54, 55, 56, 57, 58, 59, 60, 61, 62, 63, 64, 82, 83, 84, 112, 113, 114, 200] [x] [64999, 53999] ty h ty31 h47 := gSg.tr (gSg.ss G36 sS46 (by decide)) g48 (by decide) (by decide) (fun x hx => Or.inr hx)
  have s50 := gSg.at g48 sS46.1 t42 rfl (by decide) s43
  have sS51 : gSs rT 1027 ty31 [64999, 53999] h47 h47 := gSs.rf g48.1
  have rf52 := Nat.lt_of_lt_of_eq rw37.2.1 nh47.symm
  have rf53 := zh47.trans rf39
  have dd54 : ∀ k, ¬ k ∈ ([1, 0] : List Nat) → h47.2.2.2.2 x k = defaultValue (gGG.2.1 11 k) := raw_dp fh47 dd40
  have s55 := (fh47 0 (by decide)).trans s44
  refine gz_s 1 (pc' := 25) (L' := [some (.ref x)]) (S' := [.ref x]) rfl ?_
  refine gs_newo rfl (by decide) rfl sS51.1 (Nat.le_of_lt (Nat.lt_of_le_of_lt (gJ.cell sS51.1 t42 rfl).1 (gJ.cell sS51.1 t42 rfl).2.1)) (fun ty56 h57 c58 g59 tc58 kc58 zc58 nc58 mc58 ec58 dc58 => ?_)
  have mfc58 : h57.2.1 = h47.2.1 + 14 := mc58
  have gac58 : h.1 ≤ c58 := by have h8 := G49.2.1; have h9 := sS51.2.1; omega
  have nnc58 : 1027 ≤ c58 := by have h8 := (Nat.le_of_lt (Nat.lt_of_le_of_lt (gJ.cell sS51.1 t42 rfl).1 (gJ.cell sS51.1 t42 rfl).2.1)); omega
  have llc58 := Nat.lt_of_lt_of_eq (Nat.lt_succ_of_le (Nat.le_of_eq ec58)) nc58.symm
  have nex_c58 : x ≠ c58 := by have h8 := rf52; omega
  have G60 : gSg [50, 51, 52, 53, 54, 55, 56, 57, 58, 59, 60, 61, 62, 63, 64, 82, 83, 84, 112, 113, 114, 200] [x] [64999, 53999] ty h ty56 h57 := gSg.tr (gSg.ss G49 sS51 (by decide)) g59 (by decide) (by decide) (fun x hx => by cases hx)
  have rw61 := gSg.raw g59 rf52 (fun w => by cases w)
  have rf62 := (rw61.2.2.1.trans kh47)
  have rf63 := (rw61.2.2.2.trans rf53)
  have dd64 := gSg.rawd (ci := 11) (ps := [1, 0]) g59 rf52 (fun w => by cases w) t41 (by decide) dd54
  have t65 : ty56 x = 200 := rw61.1.trans t41
  have t66 : ty56 c3 = 51 := gSg.typ g59 sS51.1 t42 rfl
  have t67 : ty56 c33 = 53 := gSg.typ g59 sS51.1 tc33 rfl
  have s68 := gSg.at g59 sS51.1 t42 rfl (by decide) s50
  have s69 := gSg.rawat g59 rf52 (fun w => by cases w) t41 (by decide) s55
  have s70 := gSg.rawat g59 rf52 (fun w => by cases w) t41 (by decide) eh47
  have pr71 : gNo [1, 2, 3, 4, 5, 6, 7, 8, 9, 10, 11, 12, 13, 14, 15, 16, 17, 18, 19, 20, 21, 22, 23, 24, 25, 26, 27, 28, 29, 30, 31, 32, 33, 34, 35, 36, 37, 38, 39, 40, 41, 42, 50, 54, 55, 56, 57, 58, 59, 60, 61, 62, 63, 64, 65, 66, 67, 68, 69, 70, 71, 72, 73, 74, 75, 76, 77, 78, 79, 80, 81, 82, 83, 84, 85, 90, 91, 92, 93, 94, 95, 96, 97, 98, 99] ty56 := gNo.gr g59 (by decide) (gNo.sub (by decide) pr45)
  have uq72 := gSg.uq g59 uq35 (by decide)
  have sS73 : gSs rT 1027 ty56 [64999, 53999] h57 h57 := gSs.rf g59.1
  refine gz_s 1 (pc' := 29) (L' := [some (.ref x)]) (S' := [.ref c58, .ref c58, .ref x]) rfl ?_
  refine gz_call rfl (by decide) rfl (by decide) (by decide) (gcal_of rfl rfl rfl (Nat.le_of_ble_eq_true rfl) rfl) (ct_Picture _ sS73.1 c58 tc58 nnc58 llc58 kc58 zc58 dc58 (gNo.sub (by decide) pr71) uq72) (fun q74 _ wq74 => ?_)
  obtain ⟨pq74, oq74, hq74⟩ := q74
  obtain ⟨tyq74, xq74, cq74_0, cq74_1, cq74_2, cq74_3, ttq74, ecq74_0, tcq74_0, ecq74_1, tcq74_1, ecq74_2, tcq74_2, ecq74_3, tcq74_3, trq74_0, gq74, uq74_0, uq74_1, yq74_0, uqq74⟩ := wq74
  dsimp only at uq74_0 uq74_1
  refine ⟨_, gq74, ?_⟩
  show gz gPP gGG gcn _ _ 32 [some (.ref x)] [.ref c58, .ref x] hq74 _
  have G75 : gSg [50, 51, 52, 53, 54, 55, 56, 57, 58, 59, 60, 61, 62, 63, 64, 82, 83, 84, 112, 113, 114, 200] [x] [64999, 53999] ty h tyq74 hq74 := gSg.tr (gSg.ss G60 sS73 (by decide)) xq74 (by decide) (by decide) (fun x hx => Or.inl (by rw [List.mem_singleton.mp hx]; exact gac58))
  have rw76 := gSg.raw xq74 rw61.2.1 (fun w => nex_c58 (List.mem_singleton.mp w))
  have rf77 := (rw76.2.2.1.trans rf62)
  have rf78 := (rw76.2.2.2.trans rf63)
  have dd79 := gSg.rawd (ci := 11) (ps := [1, 0]) xq74 rw61.2.1 (fun w => nex_c58 (List.mem_singleton.mp w)) t65 (by decide) dd64
  have t80 : tyq74 x = 200 := rw76.1.trans t65
  have t81 : tyq74 c3 = 51 := gSg.typ xq74 sS73.1 t66 rfl
  have t82 : tyq74 c33 = 53 := gSg.typ xq74 sS73.1 t67 rfl
  have s83 := gSg.at xq74 sS73.1 t66 rfl (by decide) s68
  have s84 := gSg.rawat xq74 rw61.2.1 (fun w => nex_c58 (List.mem_singleton.mp w)) t65 (by decide) s69
  have s85 := gSg.rawat xq74 rw61.2.1 (fun w => nex_c58 (List.mem_singleton.mp w)) t65 (by decide) s70
  have pr86 : gNo [1, 2, 3, 4, 5, 6, 7, 8, 9, 10, 11, 12, 13, 14, 15, 16, 17, 18, 19, 20, 21, 22, 23, 24, 25, 26, 27, 28, 29, 30, 31, 32, 33, 34, 35, 36, 37, 38, 39, 40, 41, 42, 50, 55, 56, 59, 60, 61, 62, 63, 64, 65, 66, 67, 68, 69, 70, 71, 72, 73, 74, 75, 76, 77, 78, 79, 80, 81, 85, 90, 91, 92, 93, 94, 95, 96, 97, 98, 99] tyq74 := gNo.gr xq74 (by decide) (gNo.sub (by decide) pr71)
  have sS87 : gSs rT 1027 tyq74 [64999, 53999] hq74 hq74 := gSs.rf xq74.1
  refine gs_rput rfl (by decide) rfl sS87.1 t80 nx rw76.2.1 rf77 rfl (Or.inr rfl) (fun h88 g89 nh88 mh88 kh88 zh88 eh88 fh88 => ?_)
  have G90 : gSg [50, 51, 52, 53, 54, 55, 56, 57, 58, 59, 60, 61, 62, 63, 64, 82, 83, 84, 112, 113, 114, 200] [x] [64999, 53999] ty h tyq74 h88 := gSg.tr (gSg.ss G75 sS87 (by decide)) g89 (by decide) (by decide) (fun x hx => Or.inr hx)
  have s91 := gSg.at g89 sS87.1 t81 rfl (by decide) s83
  have s92 := gSg.at g89 sS87.1 trq74_0 rfl (by decide) ecq74_0
  have s93 := gSg.at g89 sS87.1 tcq74_0 rfl (by decide) ecq74_1
  have s94 := gSg.at g89 sS87.1 tcq74_0 rfl (by decide) ecq74_2
  have s95 := gSg.at g89 sS87.1 tcq74_0 rfl (by decide) ecq74_3
  have pr96 := gPC.gr g89 sS87.1 (by decide) yq74_0
  have sS97 : gSs rT 1027 tyq74 [64999, 53999] h88 h88 := gSs.rf g89.1
  have rf98 := Nat.lt_of_lt_of_eq rw76.2.1 nh88.symm
  have rf99 := zh88.trans rf78
  have dd100 : ∀ k, ¬ k ∈ ([2, 1, 0] : List Nat) → h88.2.2.2.2 x k = defaultValue (gGG.2.1 11 k) := raw_dp fh88 dd79
  have s101 := (fh88 0 (by decide)).trans s84
  have s102 := (fh88 1 (by decide)).trans s85
  refine gz_s 1 (pc' := 36) (L' := [some (.ref x)]) (S' := [.ref x]) rfl ?_
  refine gs_newo rfl (by decide) rfl sS97.1 (Nat.le_of_lt (Nat.lt_of_le_of_lt (gJ.cell sS97.1 t81 rfl).1 (gJ.cell sS97.1 t81 rfl).2.1)) (fun ty103 h104 c105 g106 tc105 kc105 zc105 nc105 mc105 ec105 dc105 => ?_)
  have mfc105 : h104.2.1 = h88.2.1 + 10 := mc105
  have gac105 : h.1 ≤ c105 := by have h8 := G90.2.1; have h9 := sS97.2.1; omega
  have nnc105 : 1027 ≤ c105 := by have h8 := (Nat.le_of_lt (Nat.lt_of_le_of_lt (gJ.cell sS97.1 t81 rfl).1 (gJ.cell sS97.1 t81 rfl).2.1)); omega
  have llc105 := Nat.lt_of_lt_of_eq (Nat.lt_succ_of_le (Nat.le_of_eq ec105)) nc105.symm
  have nex_c105 : x ≠ c105 := by have h8 := rf98; omega
  have G107 : gSg [50, 51, 52, 53, 54, 55, 56, 57, 58, 59, 60, 61, 62, 63, 64, 82, 83, 84, 112, 113, 114, 200] [x] [64999, 53999] ty h ty103 h104 := gSg.tr (gSg.ss G90 sS97 (by decide)) g106 (by decide) (by decide) (fun x hx => by cases hx)
  have rw108 := gSg.raw g106 rf98 (fun w => by cases w)
  have rf109 := (rw108.2.2.1.trans kh88)
  have rf110 := (rw108.2.2.2.trans rf99)
  have dd111 := gSg.rawd (ci := 11) (ps := [2, 1, 0]) g106 rf98 (fun w => by cases w) t80 (by decide) dd100
  have t112 : ty103 x = 200 := rw108.1.trans t80
  have t113 : ty103 c3 = 51 := gSg.typ g106 sS97.1 t81 rfl
  have t114 : ty103 c33 = 53 := gSg.typ g106 sS97.1 t82 rfl
  have t115 : ty103 c58 = 54 := gSg.typ g106 sS97.1 trq74_0 rfl
  have t116 : ty103 cq74_0 = 57 := gSg.typ g106 sS97.1 tcq74_0 rfl
  have t117 : ty103 cq74_1 = 82 := gSg.typ g106 sS97.1 tcq74_1 rfl
  have t118 : ty103 cq74_2 = 83 := gSg.typ g106 sS97.1 tcq74_2 rfl
  have t119 : ty103 cq74_3 = 84 := gSg.typ g106 sS97.1 tcq74_3 rfl
  have s120 := gSg.at g106 sS97.1 t81 rfl (by decide) s91
  have s121 := gSg.at g106 sS97.1 trq74_0 rfl (by decide) s92
  have s122 := gSg.at g106 sS97.1 tcq74_0 rfl (by decide) s93
  have s123 := gSg.at g106 sS97.1 tcq74_0 rfl (by decide) s94
  have s124 := gSg.at g106 sS97.1 tcq74_0 rfl (by decide) s95
  have s125 := gSg.rawat g106 rf98 (fun w => by cases w) t80 (by decide) s101
  have s126 := gSg.rawat g106 rf98 (fun w => by cases w) t80 (by decide) s102
  have s127 := gSg.rawat g106 rf98 (fun w => by cases w) t80 (by decide) eh88
  have pr128 : gNo [1, 2, 3, 4, 5, 6, 7, 8, 9, 10, 11, 12, 13, 14, 15, 16, 17, 18, 19, 20, 21, 22, 23, 24, 25, 26, 27, 28, 29, 30, 31, 32, 33, 34, 35, 36, 37, 38, 39, 40, 41, 42, 50, 55, 56, 59, 60, 61, 62, 63, 64, 65, 66, 67, 68, 69, 70, 71, 72, 73, 74, 75, 76, 77, 78, 79, 80, 81, 85, 90, 91, 92, 93, 94, 95, 96, 97, 98, 99] ty103 := gNo.gr g106 (by decide) (gNo.sub (by decide) pr86)
  have pr129 := gPC.gr g106 sS97.1 (by decide) pr96
  have uq130 := gSg.uq g106 uqq74 (by decide)
  have sS131 : gSs rT 1027 ty103 [64999, 53999] h104 h104 := gSs.rf g106.1
  refine gz_s 1 (pc' := 40) (L' := [some (.ref x)]) (S' := [.ref c105, .ref c105, .ref x]) rfl ?_
  refine gz_call rfl (by decide) rfl (by decide) (by decide) (gcal_of rfl rfl rfl (Nat.le_of_ble_eq_true rfl) rfl) (ct_Draft _ sS131.1 c105 tc105 nnc105 llc105 kc105 zc105 dc105 (gNo.sub (by decide) pr128) uq130) (fun q132 _ wq132 => ?_)
  obtain ⟨pq132, oq132, hq132⟩ := q132
  obtain ⟨tyq132, xq132, fq132_0, fq132_1, fq132_2, trq132_0, gq132, efq132_0, afq132_0, bfq132_0, efq132_1, afq132_1, bfq132_1, efq132_2, afq132_2, bfq132_2, uq132_0, uq132_1, uq132_2, uq132_3, uq132_4, yq132_0, yq132_1, uqq132⟩ := wq132
  dsimp only at uq132_0 uq132_1
  refine ⟨_, gq132, ?_⟩
  show gz gPP gGG gcn _ _ 43 [some (.ref x)] [.ref c105, .ref x] hq132 _
  have G133 : gSg [50, 51, 52, 53, 54, 55, 56, 57, 58, 59, 60, 61, 62, 63, 64, 82, 83, 84, 112, 113, 114, 200] [x] [64999, 53999] ty h tyq132 hq132 := gSg.tr (gSg.ss G107 sS131 (by decide)) xq132 (by decide) (by decide) (fun x hx => Or.inl (by rw [List.mem_singleton.mp hx]; exact gac105))
  have rw134 := gSg.raw xq132 rw108.2.1 (fun w => nex_c105 (List.mem_singleton.mp w))
  have rf135 := (rw134.2.2.1.trans rf109)
  have rf136 := (rw134.2.2.2.trans rf110)
  have dd137 := gSg.rawd (ci := 11) (ps := [2, 1, 0]) xq132 rw108.2.1 (fun w => nex_c105 (List.mem_singleton.mp w)) t112 (by decide) dd111
  have t138 : tyq132 x = 200 := rw134.1.trans t112
  have t139 : tyq132 c3 = 51 := gSg.typ xq132 sS131.1 t113 rfl
  have t140 : tyq132 c33 = 53 := gSg.typ xq132 sS131.1 t114 rfl
  have t141 : tyq132 c58 = 54 := gSg.typ xq132 sS131.1 t115 rfl
  have t142 : tyq132 cq74_0 = 57 := gSg.typ xq132 sS131.1 t116 rfl
  have t143 : tyq132 cq74_1 = 82 := gSg.typ xq132 sS131.1 t117 rfl
  have t144 : tyq132 cq74_2 = 83 := gSg.typ xq132 sS131.1 t118 rfl
  have t145 : tyq132 cq74_3 = 84 := gSg.typ xq132 sS131.1 t119 rfl
  have s146 := gSg.at xq132 sS131.1 t113 rfl (by decide) s120
  have s147 := gSg.at xq132 sS131.1 t115 rfl (by decide) s121
  have s148 := gSg.at xq132 sS131.1 t116 rfl (by decide) s122
  have s149 := gSg.at xq132 sS131.1 t116 rfl (by decide) s123
  have s150 := gSg.at xq132 sS131.1 t116 rfl (by decide) s124
  have s151 := gSg.rawat xq132 rw108.2.1 (fun w => nex_c105 (List.mem_singleton.mp w)) t112 (by decide) s125
  have s152 := gSg.rawat xq132 rw108.2.1 (fun w => nex_c105 (List.mem_singleton.mp w)) t112 (by decide) s126
  have s153 := gSg.rawat xq132 rw108.2.1 (fun w => nex_c105 (List.mem_singleton.mp w)) t112 (by decide) s127
  have pr154 : gNo [1, 2, 3, 4, 5, 6, 7, 8, 9, 10, 11, 12, 13, 14, 15, 16, 17, 18, 19, 20, 21, 22, 23, 24, 25, 26, 27, 28, 29, 30, 31, 32, 33, 34, 35, 36, 37, 38, 39, 40, 41, 42, 50, 56, 65, 66, 67, 68, 69, 70, 71, 72, 73, 74, 75, 76, 77, 78, 79, 80, 81, 85, 90, 91, 92, 93, 94, 95, 96, 97, 98, 99] tyq132 := gNo.gr xq132 (by decide) (gNo.sub (by decide) pr128)
  have pr155 := gPC.gr xq132 sS131.1 (by decide) pr129
  have sS156 : gSs rT 1027 tyq132 [64999, 53999] hq132 hq132 := gSs.rf xq132.1
  refine gs_rput rfl (by decide) rfl sS156.1 t138 nx rw134.2.1 rf135 rfl (Or.inr rfl) (fun h157 g158 nh157 mh157 kh157 zh157 eh157 fh157 => ?_)
  have G159 : gSg [50, 51, 52, 53, 54, 55, 56, 57, 58, 59, 60, 61, 62, 63, 64, 82, 83, 84, 112, 113, 114, 200] [x] [64999, 53999] ty h tyq132 h157 := gSg.tr (gSg.ss G133 sS156 (by decide)) g158 (by decide) (by decide) (fun x hx => Or.inr hx)
  have s160 := gSg.at g158 sS156.1 t139 rfl (by decide) s146
  have s161 := gSg.at g158 sS156.1 t141 rfl (by decide) s147
  have s162 := gSg.at g158 sS156.1 t142 rfl (by decide) s148
  have s163 := gSg.at g158 sS156.1 t142 rfl (by decide) s149
  have s164 := gSg.at g158 sS156.1 t142 rfl (by decide) s150
  have s165 := gSg.at g158 sS156.1 trq132_0 rfl (by decide) efq132_0
  have s166 := gSg.at g158 sS156.1 trq132_0 rfl (by decide) efq132_1
  have s167 := gSg.at g158 sS156.1 trq132_0 rfl (by decide) efq132_2
  have pr168 := gPC.gr g158 sS156.1 (by decide) pr155
  have pr169 := gTc.gr g158 sS156.1 (by decide) (by decide) yq132_0
  have pr170 := gOy.gr g158 sS156.1 rfl (by decide) (by decide) yq132_1
  have sS171 : gSs rT 1027 tyq132 [64999, 53999] h157 h157 := gSs.rf g158.1
  have rf172 := Nat.lt_of_lt_of_eq rw134.2.1 nh157.symm
  have rf173 := zh157.trans rf136
  have dd174 : ∀ k, ¬ k ∈ ([3, 2, 1, 0] : List Nat) → h157.2.2.2.2 x k = defaultValue (gGG.2.1 11 k) := raw_dp fh157 dd137
  have s175 := (fh157 0 (by decide)).trans s151
  have s176 := (fh157 1 (by decide)).trans s152
  have s177 := (fh157 2 (by decide)).trans s153
  refine gz_s 1 (pc' := 47) (L' := [some (.ref x)]) (S' := [.ref x]) rfl ?_
  refine gs_newo rfl (by decide) rfl sS171.1 (Nat.le_of_lt (Nat.lt_of_le_of_lt (gJ.cell sS171.1 t139 rfl).1 (gJ.cell sS171.1 t139 rfl).2.1)) (fun ty178 h179 c180 g181 tc180 kc180 zc180 nc180 mc180 ec180 dc180 => ?_)
  have mfc180 : h179.2.1 = h157.2.1 + 4 := mc180
  have gac180 : h.1 ≤ c180 := by have h8 := G159.2.1; have h9 := sS171.2.1; omega
  have nnc180 : 1027 ≤ c180 := by have h8 := (Nat.le_of_lt (Nat.lt_of_le_of_lt (gJ.cell sS171.1 t139 rfl).1 (gJ.cell sS171.1 t139 rfl).2.1)); omega
  have llc180 := Nat.lt_of_lt_of_eq (Nat.lt_succ_of_le (Nat.le_of_eq ec180)) nc180.symm
  have nex_c180 : x ≠ c180 := by have h8 := rf172; omega
  have G182 : gSg [50, 51, 52, 53, 54, 55, 56, 57, 58, 59, 60, 61, 62, 63, 64, 82, 83, 84, 112, 113, 114, 200] [x] [64999, 53999] ty h ty178 h179 := gSg.tr (gSg.ss G159 sS171 (by decide)) g181 (by decide) (by decide) (fun x hx => by cases hx)
  have rw183 := gSg.raw g181 rf172 (fun w => by cases w)
  have rf184 := (rw183.2.2.1.trans kh157)
  have rf185 := (rw183.2.2.2.trans rf173)
  have dd186 := gSg.rawd (ci := 11) (ps := [3, 2, 1, 0]) g181 rf172 (fun w => by cases w) t138 (by decide) dd174
  have t187 : ty178 x = 200 := rw183.1.trans t138
  have t188 : ty178 c3 = 51 := gSg.typ g181 sS171.1 t139 rfl
  have t189 : ty178 c33 = 53 := gSg.typ g181 sS171.1 t140 rfl
  have t190 : ty178 c58 = 54 := gSg.typ g181 sS171.1 t141 rfl
  have t191 : ty178 cq74_0 = 57 := gSg.typ g181 sS171.1 t142 rfl
  have t192 : ty178 cq74_1 = 82 := gSg.typ g181 sS171.1 t143 rfl
  have t193 : ty178 cq74_2 = 83 := gSg.typ g181 sS171.1 t144 rfl
  have t194 : ty178 cq74_3 = 84 := gSg.typ g181 sS171.1 t145 rfl
  have t195 : ty178 c105 = 55 := gSg.typ g181 sS171.1 trq132_0 rfl
  have s196 := gSg.at g181 sS171.1 t139 rfl (by decide) s160
  have s197 := gSg.at g181 sS171.1 t141 rfl (by decide) s161
  have s198 := gSg.at g181 sS171.1 t142 rfl (by decide) s162
  have s199 := gSg.at g181 sS171.1 t142 rfl (by decide) s163
  have s200 := gSg.at g181 sS171.1 t142 rfl (by decide) s164
  have s201 := gSg.at g181 sS171.1 trq132_0 rfl (by decide) s165
  have s202 := gSg.at g181 sS171.1 trq132_0 rfl (by decide) s166
  have s203 := gSg.at g181 sS171.1 trq132_0 rfl (by decide) s167
  have s204 := gSg.rawat g181 rf172 (fun w => by cases w) t138 (by decide) s175
  have s205 := gSg.rawat g181 rf172 (fun w => by cases w) t138 (by decide) s176
  have s206 := gSg.rawat g181 rf172 (fun w => by cases w) t138 (by decide) s177
  have s207 := gSg.rawat g181 rf172 (fun w => by cases w) t138 (by decide) eh157
  have pr208 : gNo [1, 2, 3, 4, 5, 6, 7, 8, 9, 10, 11, 12, 13, 14, 15, 16, 17, 18, 19, 20, 21, 22, 23, 24, 25, 26, 27, 28, 29, 30, 31, 32, 33, 34, 35, 36, 37, 38, 39, 40, 41, 42, 50, 56, 65, 66, 67, 68, 69, 70, 71, 72, 73, 74, 75, 76, 77, 78, 79, 80, 81, 85, 90, 91, 92, 93, 94, 95, 96, 97, 98, 99] ty178 := gNo.gr g181 (by decide) (gNo.sub (by decide) pr154)
  have pr209 := gPC.gr g181 sS171.1 (by decide) pr168
  have pr210 := gTc.gr g181 sS171.1 (by decide) (by decide) pr169
  have pr211 := gOy.gr g181 sS171.1 rfl (by decide) (by decide) pr170
  have uq212 := gSg.uq g181 uqq132 (by decide)
  have sS213 : gSs rT 1027 ty178 [64999, 53999] h179 h179 := gSs.rf g181.1
  refine gz_s 1 (pc' := 51) (L' := [some (.ref x)]) (S' := [.ref c180, .ref c180, .ref x]) rfl ?_
  refine gz_call rfl (by decide) rfl (by decide) (by decide) (gcal_of rfl rfl rfl (Nat.le_of_ble_eq_true rfl) rfl) (ct_Sink _ sS213.1 c180 tc180 nnc180 llc180 kc180 zc180 dc180 (gNo.sub (by decide) pr208) uq212) (fun q214 _ wq214 => ?_)
  obtain ⟨pq214, oq214, hq214⟩ := q214
  obtain ⟨tyq214, xq214, cq214_0, ttq214, fq214_0, ecq214_0, tcq214_0, trq214_0, gq214, efq214_0, afq214_0, bfq214_0, uq214_0, uq214_1, uq214_2, uq214_3, uqq214⟩ := wq214
  dsimp only at uq214_0 uq214_1 uq214_3
  refine ⟨_, gq214, ?_⟩
  show gz gPP gGG gcn _ _ 54 [some (.ref x)] [.ref c180, .ref x] hq214 _
  have G215 : gSg [50, 51, 52, 53, 54, 55, 56, 57, 58, 59, 60, 61, 62, 63, 64, 82, 83, 84, 112, 113, 114, 200] [x] [64999, 53999] ty h tyq214 hq214 := gSg.tr (gSg.ss G182 sS213 (by decide)) xq214 (by decide) (by decide) (fun x hx => Or.inl (by rw [List.mem_singleton.mp hx]; exact gac180))
  have rw216 := gSg.raw xq214 rw183.2.1 (fun w => nex_c180 (List.mem_singleton.mp w))
  have rf217 := (rw216.2.2.1.trans rf184)
  have rf218 := (rw216.2.2.2.trans rf185)
  have dd219 := gSg.rawd (ci := 11) (ps := [3, 2, 1, 0]) xq214 rw183.2.1 (fun w => nex_c180 (List.mem_singleton.mp w)) t187 (by decide) dd186
  have t220 : tyq214 x = 200 := rw216.1.trans t187
  have t221 : tyq214 c3 = 51 := gSg.typ xq214 sS213.1 t188 rfl
  have t222 : tyq214 c33 = 53 := gSg.typ xq214 sS213.1 t189 rfl
  have t223 : tyq214 c58 = 54 := gSg.typ xq214 sS213.1 t190 rfl
  have t224 : tyq214 cq74_0 = 57 := gSg.typ xq214 sS213.1 t191 rfl
  have t225 : tyq214 cq74_1 = 82 := gSg.typ xq214 sS213.1 t192 rfl
  have t226 : tyq214 cq74_2 = 83 := gSg.typ xq214 sS213.1 t193 rfl
  have t227 : tyq214 cq74_3 = 84 := gSg.typ xq214 sS213.1 t194 rfl
  have t228 : tyq214 c105 = 55 := gSg.typ xq214 sS213.1 t195 rfl
  have s229 := gSg.at xq214 sS213.1 t188 rfl (by decide) s196
  have s230 := gSg.at xq214 sS213.1 t190 rfl (by decide) s197
  have s231 := gSg.at xq214 sS213.1 t191 rfl (by decide) s198
  have s232 := gSg.at xq214 sS213.1 t191 rfl (by decide) s199
  have s233 := gSg.at xq214 sS213.1 t191 rfl (by decide) s200
  have s234 := gSg.at xq214 sS213.1 t195 rfl (by decide) s201
  have s235 := gSg.at xq214 sS213.1 t195 rfl (by decide) s202
  have s236 := gSg.at xq214 sS213.1 t195 rfl (by decide) s203
  have s237 := gSg.rawat xq214 rw183.2.1 (fun w => nex_c180 (List.mem_singleton.mp w)) t187 (by decide) s204
  have s238 := gSg.rawat xq214 rw183.2.1 (fun w => nex_c180 (List.mem_singleton.mp w)) t187 (by decide) s205
  have s239 := gSg.rawat xq214 rw183.2.1 (fun w => nex_c180 (List.mem_singleton.mp w)) t187 (by decide) s206
  have s240 := gSg.rawat xq214 rw183.2.1 (fun w => nex_c180 (List.mem_singleton.mp w)) t187 (by decide) s207
  have pr241 : gNo [1, 2, 3, 4, 5, 6, 7, 8, 9, 10, 11, 12, 13, 14, 15, 16, 17, 18, 19, 20, 21, 22, 23, 24, 25, 26, 27, 28, 29, 30, 31, 32, 33, 34, 35, 36, 37, 38, 39, 40, 41, 42, 50, 65, 66, 67, 68, 69, 70, 71, 72, 73, 74, 75, 76, 77, 78, 79, 80, 81, 85, 90, 91, 92, 93, 94, 95, 96, 97, 98, 99] tyq214 := gNo.gr xq214 (by decide) (gNo.sub (by decide) pr208)
  have pr242 := gPC.gr xq214 sS213.1 (by decide) pr209
  have pr243 := gTc.gr xq214 sS213.1 (by decide) (by decide) pr210
  have pr244 := gOy.gr xq214 sS213.1 rfl (by decide) (by decide) pr211
  have sS245 : gSs rT 1027 tyq214 [64999, 53999] hq214 hq214 := gSs.rf xq214.1
  refine gs_rput rfl (by decide) rfl sS245.1 t220 nx rw216.2.1 rf217 rfl (Or.inr rfl) (fun h246 g247 nh246 mh246 kh246 zh246 eh246 fh246 => ?_)
  have G248 : gSg [50, 51, 52, 53, 54, 55, 56, 57, 58, 59, 60, 61, 62, 63, 64, 82, 83, 84, 112, 113, 114, 200] [x] [64999, 53999] ty h tyq214 h246 := gSg.tr (gSg.ss G215 sS245 (by decide)) g247 (by decide) (by decide) (fun x hx => Or.inr hx)
  have hl249 : h246.2.2.2.1 cq214_0 = hq214.2.2.2.1 cq214_0 := gSg.len g247 sS245.1 tcq214_0 rfl
  have s250 := gSg.at g247 sS245.1 t221 rfl (by decide) s229
  have s251 := gSg.at g247 sS245.1 t223 rfl (by decide) s230
  have s252 := gSg.at g247 sS245.1 t224 rfl (by decide) s231
  have s253 := gSg.at g247 sS245.1 t224 rfl (by decide) s232
  have s254 := gSg.at g247 sS245.1 t224 rfl (by decide) s233
  have s255 := gSg.at g247 sS245.1 t228 rfl (by decide) s234
  have s256 := gSg.at g247 sS245.1 t228 rfl (by decide) s235
  have s257 := gSg.at g247 sS245.1 t228 rfl (by decide) s236
  have s258 := gSg.at g247 sS245.1 trq214_0 rfl (by decide) ecq214_0
  have s259 := gSg.at g247 sS245.1 trq214_0 rfl (by decide) efq214_0
  have pr260 := gPC.gr g247 sS245.1 (by decide) pr242
  have pr261 := gTc.gr g247 sS245.1 (by decide) (by decide) pr243
  have pr262 := gOy.gr g247 sS245.1 rfl (by decide) (by decide) pr244
  have sS263 : gSs rT 1027 tyq214 [64999, 53999] h246 h246 := gSs.rf g247.1
  have rf264 := Nat.lt_of_lt_of_eq rw216.2.1 nh246.symm
  have rf265 := zh246.trans rf218
  have dd266 : ∀ k, ¬ k ∈ ([4, 3, 2, 1, 0] : List Nat) → h246.2.2.2.2 x k = defaultValue (gGG.2.1 11 k) := raw_dp fh246 dd219
  have s267 := (fh246 0 (by decide)).trans s237
  have s268 := (fh246 1 (by decide)).trans s238
  have s269 := (fh246 2 (by decide)).trans s239
  have s270 := (fh246 3 (by decide)).trans s240
  refine gz_s 1 (pc' := 58) (L' := [some (.ref x)]) (S' := [.ref x]) rfl ?_
  refine gz_get rfl (by decide) rfl nx rf264 kh246 s268 ?_
  refine gz_s 1 (pc' := 63) (L' := [some (.ref x)]) (S' := [.int (zi 16), .ref c33]) rfl ?_
  refine gz_call rfl (by decide) rfl (by decide) (by decide) (gcal_of rfl rfl rfl (Nat.le_of_ble_eq_true rfl) rfl) (cl_fill_tables _ sS263.1 c33 t222 16 ⟨by omega, by omega⟩ ) (fun q271 _ wq271 => ?_)
  obtain ⟨pq271, oq271, hq271⟩ := q271
  obtain ⟨xq271, gq271⟩ := wq271
  refine ⟨_, gq271, ?_⟩
  show gz gPP gGG gcn _ _ 66 [some (.ref x)] [] hq271 _
  have sq271 : gSs rT 1027 tyq214 [64999, 53999] h246 hq271 := gSs.tr sS263 xq271 (by decide)
  have s272 := (xq271.2.2.2.2.2 c3 1 (by rw [t221]; decide)).trans s250
  have s273 := (xq271.2.2.2.2.2 c58 0 (by rw [t223]; decide)).trans s251
  have s274 := (xq271.2.2.2.2.2 cq74_0 0 (by rw [t224]; decide)).trans s252
  have s275 := (xq271.2.2.2.2.2 cq74_0 1 (by rw [t224]; decide)).trans s253
  have s276 := (xq271.2.2.2.2.2 cq74_0 2 (by rw [t224]; decide)).trans s254
  have s277 := (xq271.2.2.2.2.2 c105 8 (by rw [t228]; decide)).trans s255
  have s278 := (xq271.2.2.2.2.2 c105 3 (by rw [t228]; decide)).trans s256
  have s279 := (xq271.2.2.2.2.2 c105 1 (by rw [t228]; decide)).trans s257
  have s280 := (xq271.2.2.2.2.2 c180 0 (by rw [trq214_0]; decide)).trans s258
  have s281 := (xq271.2.2.2.2.2 c180 1 (by rw [trq214_0]; decide)).trans s259
  have s282 := (xq271.2.2.2.2.2 x 0 (by rw [t220]; decide)).trans s267
  have s283 := (xq271.2.2.2.2.2 x 1 (by rw [t220]; decide)).trans s268
  have s284 := (xq271.2.2.2.2.2 x 2 (by rw [t220]; decide)).trans s269
  have s285 := (xq271.2.2.2.2.2 x 3 (by rw [t220]; decide)).trans s270
  have s286 := (xq271.2.2.2.2.2 x 4 (by rw [t220]; decide)).trans eh246
  have dd287 : ∀ k, ¬ k ∈ ([4, 3, 2, 1, 0] : List Nat) → hq271.2.2.2.2 x k = defaultValue (gGG.2.1 11 k) := gFr.rawd xq271.2 t220 (by decide) dd266
  have pr288 := gPC.fr xq271.2 (by decide) pr260
  have pr289 := gTc.fr xq271.2 (by decide) pr261
  have pr290 := gOy.fr xq271.2 (by decide) pr262
  obtain ⟨ty292, g291, tg291, ug291⟩ := gSg.adx 50 sq271.1 t220 nx (Nat.lt_of_lt_of_eq rf264 sq271.2.1.symm) rfl ((congrFun sq271.2.2.2.1 x).trans kh246) (by show (0 : Nat) ≤ _; have h9 := ((congrFun sq271.2.2.2.2.1 x).trans rf265); omega) (by show _ ≤ (0 : Nat); have h9 := ((congrFun sq271.2.2.2.2.1 x).trans rf265); omega) (fun ty9 w9 k hk => ad50 (by rw [s282]; exact ⟨c3, rfl, w9 c3 _ t221 (by decide)⟩) (by rw [s283]; exact ⟨c33, rfl, w9 c33 _ t222 (by decide)⟩) (by rw [s284]; exact ⟨c58, rfl, w9 c58 _ t223 (by decide)⟩) (by rw [s285]; exact ⟨c105, rfl, w9 c105 _ t228 (by decide)⟩) (by rw [s286]; exact ⟨c180, rfl, w9 c180 _ trq214_0 (by decide)⟩) (by rw [(show hq271.2.2.2.2 x 5 = .null from dd287 5 (by decide))]; exact Or.inl rfl) (by rw [(show hq271.2.2.2.2 x 6 = .null from dd287 6 (by decide))]; exact Or.inl rfl) k)
  have uq293 := ug291 uqq214 (Or.inr (gNo.sub (by decide) pr241))
  have k294 := sq271.2.1
  have k294b := sq271.2.2.1
  have hl295 : hq271.2.2.2.1 cq214_0 = h246.2.2.2.1 cq214_0 := congrFun sq271.2.2.2.2.1 cq214_0
  have G296 : gSg [50, 51, 52, 53, 54, 55, 56, 57, 58, 59, 60, 61, 62, 63, 64, 82, 83, 84, 112, 113, 114, 200] [x] [64999, 53999] ty h ty292 hq271 := gSg.tr (gSg.ss G248 sq271 (by decide)) g291 (by decide) (by decide) (fun x hx => Or.inr hx)
  have t297 : ty292 c3 = 51 := gSg.typ g291 sq271.1 t221 rfl
  have t298 : ty292 c33 = 53 := gSg.typ g291 sq271.1 t222 rfl
  have t299 : ty292 c58 = 54 := gSg.typ g291 sq271.1 t223 rfl
  have t300 : ty292 cq74_0 = 57 := gSg.typ g291 sq271.1 t224 rfl
  have t301 : ty292 cq74_1 = 82 := gSg.typ g291 sq271.1 t225 rfl
  have t302 : ty292 cq74_2 = 83 := gSg.typ g291 sq271.1 t226 rfl
  have t303 : ty292 cq74_3 = 84 := gSg.typ g291 sq271.1 t227 rfl
  have t304 : ty292 c105 = 55 := gSg.typ g291 sq271.1 t228 rfl
  have t305 : ty292 c180 = 56 := gSg.typ g291 sq271.1 trq214_0 rfl
  have t306 : ty292 cq214_0 = 114 := gSg.typ g291 sq271.1 tcq214_0 rfl
  have pr307 : gNo [1, 2, 3, 4, 5, 6, 7, 8, 9, 10, 11, 12, 13, 14, 15, 16, 17, 18, 19, 20, 21, 22, 23, 24, 25, 26, 27, 28, 29, 30, 31, 32, 33, 34, 35, 36, 37, 38, 39, 40, 41, 42, 65, 66, 67, 68, 69, 70, 71, 72, 73, 74, 75, 76, 77, 78, 79, 80, 81, 85, 90, 91, 92, 93, 94, 95, 96, 97, 98, 99] ty292 := gNo.gr g291 (by decide) (gNo.sub (by decide) pr241)
  have pr308 := gPC.gr g291 sq271.1 (by decide) pr288
  have pr309 := gTc.gr g291 sq271.1 (by decide) (by decide) pr289
  have pr310 := gOy.gr g291 sq271.1 rfl (by decide) (by decide) pr290
  have sS311 : gSs rT 1027 ty292 [64999, 53999] hq271 hq271 := gSs.rf g291.1
  have hl312 : 1024 ≤ hq271.2.2.2.1 cq214_0 ∧ hq271.2.2.2.1 cq214_0 ≤ 1000000 := gJ.rowl (G := gGG) sS311.1 t306 rfl
  have hrx313 : gRr ty292 x hq271 := ⟨tg291, Or.inl ⟨(show hq271.2.2.2.2 x 5 = .null from dd287 5 (by decide)), (gNo.sub (by decide) pr307)⟩⟩
  have hrx314 : gRw ty292 x hq271 := ⟨tg291, Or.inl ⟨(show hq271.2.2.2.2 x 6 = .null from dd287 6 (by decide)), (gNo.sub (by decide) pr307)⟩⟩
  have G315 : gSg [50, 51, 52, 53, 54, 55, 56, 57, 58, 59, 60, 61, 62, 63, 64, 82, 83, 84, 112, 113, 114, 200] [x] [64999, 53999] ty h ty292 hq271 := gSg.ss G296 sS311 (by decide)
  exact gz_end (I := .return_) (len := 1) rfl (Or.inl rfl) ⟨ty292, G315, c105, c58, c180, cq214_0, cq74_0, cq74_1, cq74_2, cq74_3, trivial, fq132_0, fq132_1, fq132_2, fq214_0, s285, t304, s284, t299, s286, t305, s280, t306, s273, t300, s274, t301, s275, t302, s276, t303, tg291, rfl, s277, (by omega), (by omega), s278, (by omega), (by omega), s279, (by omega), (by omega), s281, (by omega), (by omega), (by dsimp only; omega), (by dsimp only; omega), (by omega), (by omega), (by omega), (by omega), (by dsimp only; omega), pr309, pr308, pr310, hrx313, hrx314, uq293, pr307⟩
