/-! ===== methods of the landed text (by program) ===== -/
set_option maxRecDepth 20000 in
set_option maxHeartbeats 4000000 in
theorem ct_DctFilter (d : Nat) {ty : Nat → Nat} {h : gH} (hJ : gJ rT 1027 ty h) (x : Nat) (tx : ty x = 200) (nx : 1027 ≤ x) (lx : x < h.1) (kx : h.2.2.1 x = some (.inr 11)) (zx : h.2.2.2.1 x = 0) (dx : ∀ k, h.2.2.2.2 x k = defaultValue (gGG.2.1 11 k)) (no0 : gNo [1, 2, 3, 4, 5, 6, 7, 8, 9, 10, 11, 12, 13, 14, 15, 16, 17, 18, 19, 20, 21, 22, 23, 24, 25, 26, 27, 28, 29, 30, 31, 32, 33, 34, 35, 36, 37, 38, 39, 40, 41, 42, 50, 51, 52, 53, 54, 55, 56, 57, 58, 59, 60, 61, 62, 63, 64, 65, 66, 67, 68, 69, 70, 71, 72, 73, 74, 75, 76, 77, 78, 79, 80, 81, 82, 83, 84, 85, 90, 91, 92, 93, 94, 95, 96, 97, 98, 99] ty) (uq : gUq ty) : gz gPP gGG gcn (d + 3) gt0 0 (gent [.ref x] 1) [] h (fun q _ => ∃ ty9 : Nat → Nat, gSg [50, 51, 52, 53, 54, 55, 56, 57, 58, 59, 60, 61, 62, 63, 64, 82, 83, 84, 112, 113, 114, 200] [x] [64999, 53999] ty h ty9 q.2.2 ∧ ∃ dr pic sk bt2 bn b0 b1 b2 : Nat, True ∧ ∃ n1 iv1 c1 : Int, q.2.2.2.2.2.2 x 3 = .ref dr ∧ ty9 dr = 55 ∧ q.2.2.2.2.2.2 x 2 = .ref pic ∧ ty9 pic = 54 ∧ q.2.2.2.2.2.2 x 4 = .ref sk ∧ ty9 sk = 56 ∧ q.2.2.2.2.2.2 sk 0 = .ref bt2 ∧ ty9 bt2 = 114 ∧ q.2.2.2.2.2.2 pic 0 = .ref bn ∧ ty9 bn = 57 ∧ q.2.2.2.2.2.2 bn 0 = .ref b0 ∧ ty9 b0 = 82 ∧ q.2.2.2.2.2.2 bn 1 = .ref b1 ∧ ty9 b1 = 83 ∧ q.2.2.2.2.2.2 bn 2 = .ref b2 ∧ ty9 b2 = 84 ∧ ty9 x = 50 ∧ gfin gt0 q.1 q.2.1 = some none ∧ q.2.2.2.2.2.2 dr 8 = .int (zi n1) ∧ 0 ≤ n1 ∧ n1 ≤ 10 ∧ q.2.2.2.2.2.2 dr 3 = .int (zi iv1) ∧ 0 ≤ iv1 ∧ iv1 ≤ 100 ∧ q.2.2.2.2.2.2 sk 1 = .int (zi c1) ∧ 0 ≤ c1 ∧ c1 ≤ 500000 ∧ ((q.2.2.1 : Int) = h.1 + 20) ∧ ((q.2.2.2.1 : Int) = h.2.1 + 4733) ∧ (n1 = 0) ∧ (iv1 = 0) ∧ (c1 = 0) ∧ ((q.2.2.2.2.2.1 bt2 : Int) = 1024) ∧ (gTc ty9 0 q.2.2) ∧ (gPC ty9 pic b0 b1 b2 0 q.2.2) ∧ (gOy ty9 53 16 256 q.2.2) ∧ (gRr ty9 x q.2.2) ∧ (gRw ty9 x q.2.2) ∧ gUq ty9 ∧ gNo [1, 2, 3, 4, 5, 6, 7, 8, 9, 10, 11, 12, 13, 14, 15, 16, 17, 18, 19, 20, 21, 22, 23, 24, 25, 26, 27, 28, 29, 30, 31, 32, 33, 34, 35, 36, 37, 38, 39, 40, 41, 42, 65, 66, 67, 68, 69, 70, 71, 72, 73, 74, 75, 76, 77, 78, 79, 80, 81, 85, 90, 91, 92, 93, 94, 95, 96, 97, 98, 99] ty9) := by
  have hS : gSs rT 1027 ty [64999, 53999] h h := gSs.rf hJ
  have G0 : gSg [50, 51, 52, 53, 54, 55, 56, 57, 58, 59, 60, 61, 62, 63, 64, 82, 83, 84, 112, 113, 114, 200] [x] [64999, 53999] ty h ty h := gSg.rf hJ (fun x hx => by rw [List.mem_singleton.mp hx, tx]; rfl)
  refine gz_s 1 (pc' := 1) (L' := [some (.ref x)]) (S' := [.ref x]) rfl ?_
  refine gz_obj rfl (by decide) (by omega) rfl (by decide) ?_
  refine gz_s 1 (pc' := 5) (L' := [some (.ref x)]) (S' := [.ref x]) rfl ?_
  refine gs_newo rfl (by decide) rfl hS.1 (Nat.le_of_lt (Nat.lt_of_le_of_lt nx lx)) (fun ty1 h2 c3 g4 tc3 kc3 zc3 nc3 mc3 ec3 dc3 => ?_)
  have mfc3 : h2.2.1 = h.2.1 + 2 := mc3
  have gac3 : h.1 ≤ c3 := by have h8 := G0.2.1; have h9 := hS.2.1; omega
  have nnc3 : 1027 ≤ c3 := by have h8 := (Nat.le_of_lt (Nat.lt_of_le_of_lt nx lx)); omega
  have llc3 := Nat.lt_of_lt_of_eq (Nat.lt_succ_of_le (Nat.le_of_eq ec3)) nc3.symm
  have nex_c3 : x ≠ c3 := by have h8 := lx; omega
  have G5 : gSg [50, 51, 52, 53, 54, 55, 56, 57, 58, 59, 60, 61, 62, 63, 64, 82, 83, 84, 112, 113, 114, 200] [x] [64999, 53999] ty h ty1 h2 := gSg.tr (gSg.ss G0 hS (by decide)) g4 (by decide) (by decide) (fun x hx => by cases hx)
  have rw6 := gSg.raw g4 lx (fun w => by cases w)
  have rf7 := (rw6.2.2.1.trans kx)
  have rf8 := (rw6.2.2.2.trans zx)
  have dd9 := gSg.rawd (ci := 11) (ps := []) g4 lx (fun w => by cases w) tx (by decide) (fun k _ => dx k)
  have t10 : ty1 x = 200 := rw6.1.trans tx
  have pr11 : gNo [1, 2, 3, 4, 5, 6, 7, 8, 9, 10, 11, 12, 13, 14, 15, 16, 17, 18, 19, 20, 21, 22, 23, 24, 25, 26, 27, 28, 29, 30, 31, 32, 33, 34, 35, 36, 37, 38, 39, 40, 41, 42, 50, 51, 52, 53, 54, 55, 56, 57, 58, 59, 60, 61, 62, 63, 64, 65, 66, 67, 68, 69, 70, 71, 72, 73, 74, 75, 76, 77, 78, 79, 80, 81, 82, 83, 84, 85, 90, 91, 92, 93, 94, 95, 96, 97, 98, 99] ty1 := gNo.gr g4 (by decide) (gNo.sub (by decide) no0)
  have uq12 := gSg.uq g4 uq (by decide)
  have sS13 : gSs rT 1027 ty1 [64999, 53999] h2 h2 := gSs.rf g4.1
  refine gz_s 1 (pc' := 9) (L' := [some (.ref x)]) (S' := [.ref c3, .ref c3, .ref x]) rfl ?_
  refine gz_call rfl (by decide) rfl (by decide) (by decide) (gcal_of rfl rfl rfl (Nat.le_of_ble_eq_true rfl) rfl) (ct_Collected _ sS13.1 c3 tc3 nnc3 llc3 kc3 zc3 dc3 (gNo.sub (by decide) pr11) uq12) (fun q14 _ wq14 => ?_)
  obtain ⟨pq14, oq14, hq14⟩ := q14
  obtain ⟨tyq14, xq14, fq14_0, trq14_0, gq14, efq14_0, afq14_0, bfq14_0, uq14_0, uq14_1, uqq14⟩ := wq14
  dsimp only at uq14_0 uq14_1
  refine ⟨_, gq14, ?_⟩
  show gz gPP gGG gcn _ _ 12 [some (.ref x)] [.ref c3, .ref x] hq14 _
  have G15 : gSg [50, 51, 52, 53, 54, 55, 56, 57, 58, 59, 60, 61, 62, 63, 64, 82, 83, 84, 112, 113, 114, 200] [x] [64999, 53999] ty h tyq14 hq14 := gSg.tr (gSg.ss G5 sS13 (by decide)) xq14 (by decide) (by decide) (fun x hx => Or.inl (by rw [List.mem_singleton.mp hx]; exact gac3))
  have rw16 := gSg.raw xq14 rw6.2.1 (fun w => nex_c3 (List.mem_singleton.mp w))
  have rf17 := (rw16.2.2.1.trans rf7)
  have rf18 := (rw16.2.2.2.trans rf8)
  have dd19 := gSg.rawd (ci := 11) (ps := []) xq14 rw6.2.1 (fun w => nex_c3 (List.mem_singleton.mp w)) t10 (by decide) dd9
  have t20 : tyq14 x = 200 := rw16.1.trans t10
  have pr21 : gNo [1, 2, 3, 4, 5, 6, 7, 8, 9, 10, 11, 12, 13, 14, 15, 16, 17, 18, 19, 20, 21, 22, 23, 24, 25, 26, 27, 28, 29, 30, 31, 32, 33, 34, 35, 36, 37, 38, 39, 40, 41, 42, 50, 53, 54, 55, 56, 57, 58, 59, 60, 61, 62, 63, 64, 65, 66, 67, 68, 69, 70, 71, 72, 73, 74, 75, 76, 77, 78, 79, 80, 81, 82, 83, 84, 85, 90, 91, 92, 93, 94, 95, 96, 97, 98, 99] tyq14 := gNo.gr xq14 (by decide) (gNo.sub (by decide) pr11)
  have sS22 : gSs rT 1027 tyq14 [64999, 53999] hq14 hq14 := gSs.rf xq14.1
  refine gs_rput rfl (by decide) rfl sS22.1 t20 nx rw16.2.1 rf17 rfl (Or.inr rfl) (fun h23 g24 nh23 mh23 kh23 zh23 eh23 fh23 => ?_)
  have G25 : gSg [50, 51, 52, 53, 54, 55, 56, 57, 58, 59, 60, 61, 62, 63, 64, 82, 83, 84, 112, 113, 114, 200] [x] [64999, 53999] ty h tyq14 h23 := gSg.tr (gSg.ss G15 sS22 (by decide)) g24 (by decide) (by decide) (fun x hx => Or.inr hx)
  have s26 := gSg.at g24 sS22.1 trq14_0 rfl (by decide) efq14_0
  have sS27 : gSs rT 1027 tyq14 [64999, 53999] h23 h23 := gSs.rf g24.1
  have rf28 := Nat.lt_of_lt_of_eq rw16.2.1 nh23.symm
  have rf29 := zh23.trans rf18
  have dd30 : ∀ k, ¬ k ∈ ([0] : List Nat) → h23.2.2.2.2 x k = defaultValue (gGG.2.1 11 k) := raw_dp fh23 dd19
  refine gz_s 2 (pc' := 19) (L' := [some (.ref x)]) (S' := [.int (zi 256), .ref x]) rfl ?_
  refine gs_newr 53 rfl (by decide) rfl sS27.1 (Nat.le_of_lt (Nat.lt_of_le_of_lt (gJ.cell sS27.1 trq14_0 rfl).1 (gJ.cell sS27.1 trq14_0 rfl).2.1)) (by omega) (by omega) rfl rfl (by show (256 : Int) ≤ _; omega) (by show _ ≤ (256 : Int); omega) (fun _ _ => gos_i (by decide) (by decide)) (fun ty31 h32 c33 g34 tc33 lc33 nc33 mc33 ec33 dc33 uc33 => ?_)
  have gac33 : h.1 ≤ c33 := by have h8 := G25.2.1; have h9 := sS27.2.1; omega
  have uq35 := uc33 uqq14 (Or.inr (gNo.sub (by decide) pr21))
  have G36 : gSg [50, 51, 52, 53, 54, 55, 56, 57, 58, 59, 60, 61, 62, 63, 64, 82, 83, 84, 112, 113, 114, 200] [x] [64999, 53999] ty h ty31 h32 := gSg.tr (gSg.ss G25 sS27 (by decide)) g34 (by decide) (by decide) (fun x hx => by cases hx)
  have rw37 := gSg.raw g34 rf28 (fun w => by cases w)
  have rf38 := (rw37.2.2.1.trans kh23)
  have rf39 := (rw37.2.2.2.trans rf29)
  have dd40 := gSg.rawd (ci := 11) (ps := [0]) g34 rf28 (fun w => by cases w) t20 (by decide) dd30
  have t41 : ty31 x = 200 := rw37.1.trans t20
  have t42 : ty31 c3 = 51 := gSg.typ g34 sS27.1 trq14_0 rfl
  have s43 := gSg.at g34 sS27.1 trq14_0 rfl (by decide) s26
  have s44 := gSg.rawat g34 rf28 (fun w => by cases w) t20 (by decide) eh23
  have pr45 : gNo [1, 2, 3, 4, 5, 6, 7, 8, 9, 10, 11, 12, 13, 14, 15, 16, 17, 18, 19, 20, 21, 22, 23, 24, 25, 26, 27, 28, 29, 30, 31, 32, 33, 34, 35, 36, 37, 38, 39, 40, 41, 42, 50, 54, 55, 56, 57, 58, 59, 60, 61, 62, 63, 64, 65, 66, 67, 68, 69, 70, 71, 72, 73, 74, 75, 76, 77, 78, 79, 80, 81, 82, 83, 84, 85, 90, 91, 92, 93, 94, 95, 96, 97, 98, 99] ty31 := gNo.gr g34 (by decide) (gNo.sub (by decide) pr21)
  have sS46 : gSs rT 1027 ty31 [64999, 53999] h32 h32 := gSs.rf g34.1
  refine gs_rput rfl (by decide) rfl sS46.1 t41 nx rw37.2.1 rf38 rfl (Or.inr rfl) (fun h47 g48 nh47 mh47 kh47 zh47 eh47 fh47 => ?_)
  have G49 : gSg [50, 51, 52, 53, 54, 55, 56, 57, 58, 59, 60, 61, 62, 63, 64, 82, 83, 84, 112, 113, 114, 200] [x] [64999, 53999] ty h ty31 h47 := gSg.tr (gSg.ss G36 sS46 (by decide)) g48 (by decide) (by decide) (fun x hx => Or.inr hx)
  have s50 := gSg.at g48 sS46.1 t42 rfl (by decide) s43
  have sS51 : gSs rT 1027 ty31 [64999, 53999] h47 h47 := gSs.rf g48.1
  have rf52 := Nat.lt_of_lt_of_eq rw37.2.1 nh47.symm
  have rf53 := zh47.trans rf39
  have dd54 : ∀ k, ¬ k ∈ ([1, 0] : List Nat) → h47.2.2.2.2 x k = defaultValue (gGG.2.1 11 k) := raw_dp fh47 dd40
  have s55 := (fh47 0 (by decide)).trans s44
  refine gz_s 1 (pc' := 25) (L' := [some (.ref x)]) (S' := [.ref x]) rfl ?_
  refine gs_newo rfl (by decide) rfl sS51.1 (Nat.le_of_lt (Nat.lt_of_le_of_lt (gJ.cell sS51.1 t42 rfl).1 (gJ.cell sS51.1 t42 rfl).2.1)) (fun ty56 h57 c58 g59 tc58 kc58 zc58 nc58 mc58 ec58 dc58 => ?_)
  have mfc58 : h57.2.1 = h47.2.1 + 14 := mc58
  have gac58 : h.1 ≤ c58 := by have h8 := G49.2.1; have h9 := sS51.2.1; omega
  have nnc58 : 1027 ≤ c58 := by have h8 := (Nat.le_of_lt (Nat.lt_of_le_of_lt (gJ.cell sS51.1 t42 rfl).1 (gJ.cell sS51.1 t42 rfl).2.1)); omega
  have llc58 := Nat.lt_of_lt_of_eq (Nat.lt_succ_of_le (Nat.le_of_eq ec58)) nc58.symm
  have nex_c58 : x ≠ c58 := by have h8 := rf52; omega
  have G60 : gSg [50, 51, 52, 53, 54, 55, 56, 57, 58, 59, 60, 61, 62, 63, 64, 82, 83, 84, 112, 113, 114, 200] [x] [64999, 53999] ty h ty56 h57 := gSg.tr (gSg.ss G49 sS51 (by decide)) g59 (by decide) (by decide) (fun x hx => by cases hx)
  have rw61 := gSg.raw g59 rf52 (fun w => by cases w)
  have rf62 := (rw61.2.2.1.trans kh47)
  have rf63 := (rw61.2.2.2.trans rf53)
  have dd64 := gSg.rawd (ci := 11) (ps := [1, 0]) g59 rf52 (fun w => by cases w) t41 (by decide) dd54
  have t65 : ty56 x = 200 := rw61.1.trans t41
  have t66 : ty56 c3 = 51 := gSg.typ g59 sS51.1 t42 rfl
  have t67 : ty56 c33 = 53 := gSg.typ g59 sS51.1 tc33 rfl
  have s68 := gSg.at g59 sS51.1 t42 rfl (by decide) s50
  have s69 := gSg.rawat g59 rf52 (fun w => by cases w) t41 (by decide) s55
  have s70 := gSg.rawat g59 rf52 (fun w => by cases w) t41 (by decide) eh47
  have pr71 : gNo [1, 2, 3, 4, 5, 6, 7, 8, 9, 10, 11, 12, 13, 14, 15, 16, 17, 18, 19, 20, 21, 22, 23, 24, 25, 26, 27, 28, 29, 30, 31, 32, 33, 34, 35, 36, 37, 38, 39, 40, 41, 42, 50, 54, 55, 56, 57, 58, 59, 60, 61, 62, 63, 64, 65, 66, 67, 68, 69, 70, 71, 72, 73, 74, 75, 76, 77, 78, 79, 80, 81, 82, 83, 84, 85, 90, 91, 92, 93, 94, 95, 96, 97, 98, 99] ty56 := gNo.gr g59 (by decide) (gNo.sub (by decide) pr45)
  have uq72 := gSg.uq g59 uq35 (by decide)
  have sS73 : gSs rT 1027 ty56 [64999, 53999] h57 h57 := gSs.rf g59.1
  refine gz_s 1 (pc' := 29) (L' := [some (.ref x)]) (S' := [.ref c58, .ref c58, .ref x]) rfl ?_
  refine gz_call rfl (by decide) rfl (by decide) (by decide) (gcal_of rfl rfl rfl (Nat.le_of_ble_eq_true rfl) rfl) (ct_Picture _ sS73.1 c58 tc58 nnc58 llc58 kc58 zc58 dc58 (gNo.sub (by decide) pr71) uq72) (fun q74 _ wq74 => ?_)
  obtain ⟨pq74, oq74, hq74⟩ := q74
  obtain ⟨tyq74, xq74, cq74_0, cq74_1, cq74_2, cq74_3, ttq74, ecq74_0, tcq74_0, ecq74_1, tcq74_1, ecq74_2, tcq74_2, ecq74_3, tcq74_3, trq74_0, gq74, uq74_0, uq74_1, yq74_0, uqq74⟩ := wq74
  dsimp only at uq74_0 uq74_1
  refine ⟨_, gq74, ?_⟩
  show gz gPP gGG gcn _ _ 32 [some (.ref x)] [.ref c58, .ref x] hq74 _
  have G75 : gSg [50, 51, 52, 53, 54, 55, 56, 57, 58, 59, 60, 61, 62, 63, 64, 82, 83, 84, 112, 113, 114, 200] [x] [64999, 53999] ty h tyq74 hq74 := gSg.tr (gSg.ss G60 sS73 (by decide)) xq74 (by decide) (by decide) (fun x hx => Or.inl (by rw [List.mem_singleton.mp hx]; exact gac58))
  have rw76 := gSg.raw xq74 rw61.2.1 (fun w => nex_c58 (List.mem_singleton.mp w))
  have rf77 := (rw76.2.2.1.trans rf62)
  have rf78 := (rw76.2.2.2.trans rf63)
  have dd79 := gSg.rawd (ci := 11) (ps := [1, 0]) xq74 rw61.2.1 (fun w => nex_c58 (List.mem_singleton.mp w)) t65 (by decide) dd64
  have t80 : tyq74 x = 200 := rw76.1.trans t65
  have t81 : tyq74 c3 = 51 := gSg.typ xq74 sS73.1 t66 rfl
  have t82 : tyq74 c33 = 53 := gSg.typ xq74 sS73.1 t67 rfl
  have s83 := gSg.at xq74 sS73.1 t66 rfl (by decide) s68
  have s84 := gSg.rawat xq74 rw61.2.1 (fun w => nex_c58 (List.mem_singleton.mp w)) t65 (by decide) s69
  have s85 := gSg.rawat xq74 rw61.2.1 (fun w => nex_c58 (List.mem_singleton.mp w)) t65 (by decide) s70
  have pr86 : gNo [1, 2, 3, 4, 5, 6, 7, 8, 9, 10, 11, 12, 13, 14, 15, 16, 17, 18, 19, 20, 21, 22, 23, 24, 25, 26, 27, 28, 29, 30, 31, 32, 33, 34, 35, 36, 37, 38, 39, 40, 41, 42, 50, 55, 56, 59, 60, 61, 62, 63, 64, 65, 66, 67, 68, 69, 70, 71, 72, 73, 74, 75, 76, 77, 78, 79, 80, 81, 85, 90, 91, 92, 93, 94, 95, 96, 97, 98, 99] tyq74 := gNo.gr xq74 (by decide) (gNo.sub (by decide) pr71)
  have sS87 : gSs rT 1027 tyq74 [64999, 53999] hq74 hq74 := gSs.rf xq74.1
  refine gs_rput rfl (by decide) rfl sS87.1 t80 nx rw76.2.1 rf77 rfl (Or.inr rfl) (fun h88 g89 nh88 mh88 kh88 zh88 eh88 fh88 => ?_)
  have G90 : gSg [50, 51, 52, 53, 54, 55, 56, 57, 58, 59, 60, 61, 62, 63, 64, 82, 83, 84, 112, 113, 114, 200] [x] [64999, 53999] ty h tyq74 h88 := gSg.tr (gSg.ss G75 sS87 (by decide)) g89 (by decide) (by decide) (fun x hx => Or.inr hx)
  have s91 := gSg.at g89 sS87.1 t81 rfl (by decide) s83
  have s92 := gSg.at g89 sS87.1 trq74_0 rfl (by decide) ecq74_0
  have s93 := gSg.at g89 sS87.1 tcq74_0 rfl (by decide) ecq74_1
  have s94 := gSg.at g89 sS87.1 tcq74_0 rfl (by decide) ecq74_2
  have s95 := gSg.at g89 sS87.1 tcq74_0 rfl (by decide) ecq74_3
  have pr96 := gPC.gr g89 sS87.1 (by decide) yq74_0
  have sS97 : gSs rT 1027 tyq74 [64999, 53999] h88 h88 := gSs.rf g89.1
  have rf98 := Nat.lt_of_lt_of_eq rw76.2.1 nh88.symm
  have rf99 := zh88.trans rf78
  have dd100 : ∀ k, ¬ k ∈ ([2, 1, 0] : List Nat) → h88.2.2.2.2 x k = defaultValue (gGG.2.1 11 k) := raw_dp fh88 dd79
  have s101 := (fh88 0 (by decide)).trans s84
  have s102 := (fh88 1 (by decide)).trans s85
  refine gz_s 1 (pc' := 36) (L' := [some (.ref x)]) (S' := [.ref x]) rfl ?_
  refine gs_newo rfl (by decide) rfl sS97.1 (Nat.le_of_lt (Nat.lt_of_le_of_lt (gJ.cell sS97.1 t81 rfl).1 (gJ.cell sS97.1 t81 rfl).2.1)) (fun ty103 h104 c105 g106 tc105 kc105 zc105 nc105 mc105 ec105 dc105 => ?_)
  have mfc105 : h104.2.1 = h88.2.1 + 10 := mc105
  have gac105 : h.1 ≤ c105 := by have h8 := G90.2.1; have h9 := sS97.2.1; omega
  have nnc105 : 1027 ≤ c105 := by have h8 := (Nat.le_of_lt (Nat.lt_of_le_of_lt (gJ.cell sS97.1 t81 rfl).1 (gJ.cell sS97.1 t81 rfl).2.1)); omega
  have llc105 := Nat.lt_of_lt_of_eq (Nat.lt_succ_of_le (Nat.le_of_eq ec105)) nc105.symm
  have nex_c105 : x ≠ c105 := by have h8 := rf98; omega
  have G107 : gSg [50, 51, 52, 53, 54, 55, 56, 57, 58, 59, 60, 61, 62, 63, 64, 82, 83, 84, 112, 113, 114, 200] [x] [64999, 53999] ty h ty103 h104 := gSg.tr (gSg.ss G90 sS97 (by decide)) g106 (by decide) (by decide) (fun x hx => by cases hx)
  have rw108 := gSg.raw g106 rf98 (fun w => by cases w)
  have rf109 := (rw108.2.2.1.trans kh88)
  have rf110 := (rw108.2.2.2.trans rf99)
  have dd111 := gSg.rawd (ci := 11) (ps := [2, 1, 0]) g106 rf98 (fun w => by cases w) t80 (by decide) dd100
  have t112 : ty103 x = 200 := rw108.1.trans t80
  have t113 : ty103 c3 = 51 := gSg.typ g106 sS97.1 t81 rfl
  have t114 : ty103 c33 = 53 := gSg.typ g106 sS97.1 t82 rfl
  have t115 : ty103 c58 = 54 := gSg.typ g106 sS97.1 trq74_0 rfl
  have t116 : ty103 cq74_0 = 57 := gSg.typ g106 sS97.1 tcq74_0 rfl
  have t117 : ty103 cq74_1 = 82 := gSg.typ g106 sS97.1 tcq74_1 rfl
  have t118 : ty103 cq74_2 = 83 := gSg.typ g106 sS97.1 tcq74_2 rfl
  have t119 : ty103 cq74_3 = 84 := gSg.typ g106 sS97.1 tcq74_3 rfl
  have s120 := gSg.at g106 sS97.1 t81 rfl (by decide) s91
  have s121 := gSg.at g106 sS97.1 trq74_0 rfl (by decide) s92
  have s122 := gSg.at g106 sS97.1 tcq74_0 rfl (by decide) s93
  have s123 := gSg.at g106 sS97.1 tcq74_0 rfl (by decide) s94
  have s124 := gSg.at g106 sS97.1 tcq74_0 rfl (by decide) s95
  have s125 := gSg.rawat g106 rf98 (fun w => by cases w) t80 (by decide) s101
  have s126 := gSg.rawat g106 rf98 (fun w => by cases w) t80 (by decide) s102
  have s127 := gSg.rawat g106 rf98 (fun w => by cases w) t80 (by decide) eh88
  have pr128 : gNo [1, 2, 3, 4, 5, 6, 7, 8, 9, 10, 11, 12, 13, 14, 15, 16, 17, 18, 19, 20, 21, 22, 23, 24, 25, 26, 27, 28, 29, 30, 31, 32, 33, 34, 35, 36, 37, 38, 39, 40, 41, 42, 50, 55, 56, 59, 60, 61, 62, 63, 64, 65, 66, 67, 68, 69, 70, 71, 72, 73, 74, 75, 76, 77, 78, 79, 80, 81, 85, 90, 91, 92, 93, 94, 95, 96, 97, 98, 99] ty103 := gNo.gr g106 (by decide) (gNo.sub (by decide) pr86)
  have pr129 := gPC.gr g106 sS97.1 (by decide) pr96
  have uq130 := gSg.uq g106 uqq74 (by decide)
  have sS131 : gSs rT 1027 ty103 [64999, 53999] h104 h104 := gSs.rf g106.1
  refine gz_s 1 (pc' := 40) (L' := [some (.ref x)]) (S' := [.ref c105, .ref c105, .ref x]) rfl ?_
  refine gz_call rfl (by decide) rfl (by decide) (by decide) (gcal_of rfl rfl rfl (Nat.le_of_ble_eq_true rfl) rfl) (ct_Draft _ sS131.1 c105 tc105 nnc105 llc105 kc105 zc105 dc105 (gNo.sub (by decide) pr128) uq130) (fun q132 _ wq132 => ?_)
  obtain ⟨pq132, oq132, hq132⟩ := q132
  obtain ⟨tyq132, xq132, fq132_0, fq132_1, trq132_0, gq132, efq132_0, afq132_0, bfq132_0, efq132_1, afq132_1, bfq132_1, uq132_0, uq132_1, uq132_2, uq132_3, yq132_0, uqq132⟩ := wq132
  dsimp only at uq132_0 uq132_1
  refine ⟨_, gq132, ?_⟩
  show gz gPP gGG gcn _ _ 43 [some (.ref x)] [.ref c105, .ref x] hq132 _
  have G133 : gSg [50, 51, 52, 53, 54, 55, 56, 57, 58, 59, 60, 61, 62, 63, 64, 82, 83, 84, 112, 113, 114, 200] [x] [64999, 53999] ty h tyq132 hq132 := gSg.tr (gSg.ss G107 sS131 (by decide)) xq132 (by decide) (by decide) (fun x hx => Or.inl (by rw [List.mem_singleton.mp hx]; exact gac105))
  have rw134 := gSg.raw xq132 rw108.2.1 (fun w => nex_c105 (List.mem_singleton.mp w))
  have rf135 := (rw134.2.2.1.trans rf109)
  have rf136 := (rw134.2.2.2.trans rf110)
  have dd137 := gSg.rawd (ci := 11) (ps := [2, 1, 0]) xq132 rw108.2.1 (fun w => nex_c105 (List.mem_singleton.mp w)) t112 (by decide) dd111
  have t138 : tyq132 x = 200 := rw134.1.trans t112
  have t139 : tyq132 c3 = 51 := gSg.typ xq132 sS131.1 t113 rfl
  have t140 : tyq132 c33 = 53 := gSg.typ xq132 sS131.1 t114 rfl
  have t141 : tyq132 c58 = 54 := gSg.typ xq132 sS131.1 t115 rfl
  have t142 : tyq132 cq74_0 = 57 := gSg.typ xq132 sS131.1 t116 rfl
  have t143 : tyq132 cq74_1 = 82 := gSg.typ xq132 sS131.1 t117 rfl
  have t144 : tyq132 cq74_2 = 83 := gSg.typ xq132 sS131.1 t118 rfl
  have t145 : tyq132 cq74_3 = 84 := gSg.typ xq132 sS131.1 t119 rfl
  have s146 := gSg.at xq132 sS131.1 t113 rfl (by decide) s120
  have s147 := gSg.at xq132 sS131.1 t115 rfl (by decide) s121
  have s148 := gSg.at xq132 sS131.1 t116 rfl (by decide) s122
  have s149 := gSg.at xq132 sS131.1 t116 rfl (by decide) s123
  have s150 := gSg.at xq132 sS131.1 t116 rfl (by decide) s124
  have s151 := gSg.rawat xq132 rw108.2.1 (fun w => nex_c105 (List.mem_singleton.mp w)) t112 (by decide) s125
  have s152 := gSg.rawat xq132 rw108.2.1 (fun w => nex_c105 (List.mem_singleton.mp w)) t112 (by decide) s126
  have s153 := gSg.rawat xq132 rw108.2.1 (fun w => nex_c105 (List.mem_singleton.mp w)) t112 (by decide) s127
  have pr154 : gNo [1, 2, 3, 4, 5, 6, 7, 8, 9, 10, 11, 12, 13, 14, 15, 16, 17, 18, 19, 20, 21, 22, 23, 24, 25, 26, 27, 28, 29, 30, 31, 32, 33, 34, 35, 36, 37, 38, 39, 40, 41, 42, 50, 56, 65, 66, 67, 68, 69, 70, 71, 72, 73, 74, 75, 76, 77, 78, 79, 80, 81, 85, 90, 91, 92, 93, 94, 95, 96, 97, 98, 99] tyq132 := gNo.gr xq132 (by decide) (gNo.sub (by decide) pr128)
  have pr155 := gPC.gr xq132 sS131.1 (by decide) pr129
  have sS156 : gSs rT 1027 tyq132 [64999, 53999] hq132 hq132 := gSs.rf xq132.1
  refine gs_rput rfl (by decide) rfl sS156.1 t138 nx rw134.2.1 rf135 rfl (Or.inr rfl) (fun h157 g158 nh157 mh157 kh157 zh157 eh157 fh157 => ?_)
  have G159 : gSg [50, 51, 52, 53, 54, 55, 56, 57, 58, 59, 60, 61, 62, 63, 64, 82, 83, 84, 112, 113, 114, 200] [x] [64999, 53999] ty h tyq132 h157 := gSg.tr (gSg.ss G133 sS156 (by decide)) g158 (by decide) (by decide) (fun x hx => Or.inr hx)
  have s160 := gSg.at g158 sS156.1 t139 rfl (by decide) s146
  have s161 := gSg.at g158 sS156.1 t141 rfl (by decide) s147
  have s162 := gSg.at g158 sS156.1 t142 rfl (by decide) s148
  have s163 := gSg.at g158 sS156.1 t142 rfl (by decide) s149
  have s164 := gSg.at g158 sS156.1 t142 rfl (by decide) s150
  have s165 := gSg.at g158 sS156.1 trq132_0 rfl (by decide) efq132_0
  have s166 := gSg.at g158 sS156.1 trq132_0 rfl (by decide) efq132_1
  have pr167 := gPC.gr g158 sS156.1 (by decide) pr155
  have pr168 := gTc.gr g158 sS156.1 (by decide) (by decide) yq132_0
  have sS169 : gSs rT 1027 tyq132 [64999, 53999] h157 h157 := gSs.rf g158.1
  have rf170 := Nat.lt_of_lt_of_eq rw134.2.1 nh157.symm
  have rf171 := zh157.trans rf136
  have dd172 : ∀ k, ¬ k ∈ ([3, 2, 1, 0] : List Nat) → h157.2.2.2.2 x k = defaultValue (gGG.2.1 11 k) := raw_dp fh157 dd137
  have s173 := (fh157 0 (by decide)).trans s151
  have s174 := (fh157 1 (by decide)).trans s152
  have s175 := (fh157 2 (by decide)).trans s153
  refine gz_s 1 (pc' := 47) (L' := [some (.ref x)]) (S' := [.ref x]) rfl ?_
  refine gs_newo rfl (by decide) rfl sS169.1 (Nat.le_of_lt (Nat.lt_of_le_of_lt (gJ.cell sS169.1 t139 rfl).1 (gJ.cell sS169.1 t139 rfl).2.1)) (fun ty176 h177 c178 g179 tc178 kc178 zc178 nc178 mc178 ec178 dc178 => ?_)
  have mfc178 : h177.2.1 = h157.2.1 + 4 := mc178
  have gac178 : h.1 ≤ c178 := by have h8 := G159.2.1; have h9 := sS169.2.1; omega
  have nnc178 : 1027 ≤ c178 := by have h8 := (Nat.le_of_lt (Nat.lt_of_le_of_lt (gJ.cell sS169.1 t139 rfl).1 (gJ.cell sS169.1 t139 rfl).2.1)); omega
  have llc178 := Nat.lt_of_lt_of_eq (Nat.lt_succ_of_le (Nat.le_of_eq ec178)) nc178.symm
  have nex_c178 : x ≠ c178 := by have h8 := rf170; omega
  have G180 : gSg [50, 51, 52, 53, 54, 55, 56, 57, 58, 59, 60, 61, 62, 63, 64, 82, 83, 84, 112, 113, 114, 200] [x] [64999, 53999] ty h ty176 h177 := gSg.tr (gSg.ss G159 sS169 (by decide)) g179 (by decide) (by decide) (fun x hx => by cases hx)
  have rw181 := gSg.raw g179 rf170 (fun w => by cases w)
  have rf182 := (rw181.2.2.1.trans kh157)
  have rf183 := (rw181.2.2.2.trans rf171)
  have dd184 := gSg.rawd (ci := 11) (ps := [3, 2, 1, 0]) g179 rf170 (fun w => by cases w) t138 (by decide) dd172
  have t185 : ty176 x = 200 := rw181.1.trans t138
  have t186 : ty176 c3 = 51 := gSg.typ g179 sS169.1 t139 rfl
  have t187 : ty176 c33 = 53 := gSg.typ g179 sS169.1 t140 rfl
  have t188 : ty176 c58 = 54 := gSg.typ g179 sS169.1 t141 rfl
  have t189 : ty176 cq74_0 = 57 := gSg.typ g179 sS169.1 t142 rfl
  have t190 : ty176 cq74_1 = 82 := gSg.typ g179 sS169.1 t143 rfl
  have t191 : ty176 cq74_2 = 83 := gSg.typ g179 sS169.1 t144 rfl
  have t192 : ty176 cq74_3 = 84 := gSg.typ g179 sS169.1 t145 rfl
  have t193 : ty176 c105 = 55 := gSg.typ g179 sS169.1 trq132_0 rfl
  have s194 := gSg.at g179 sS169.1 t139 rfl (by decide) s160
  have s195 := gSg.at g179 sS169.1 t141 rfl (by decide) s161
  have s196 := gSg.at g179 sS169.1 t142 rfl (by decide) s162
  have s197 := gSg.at g179 sS169.1 t142 rfl (by decide) s163
  have s198 := gSg.at g179 sS169.1 t142 rfl (by decide) s164
  have s199 := gSg.at g179 sS169.1 trq132_0 rfl (by decide) s165
  have s200 := gSg.at g179 sS169.1 trq132_0 rfl (by decide) s166
  have s201 := gSg.rawat g179 rf170 (fun w => by cases w) t138 (by decide) s173
  have s202 := gSg.rawat g179 rf170 (fun w => by cases w) t138 (by decide) s174
  have s203 := gSg.rawat g179 rf170 (fun w => by cases w) t138 (by decide) s175
  have s204 := gSg.rawat g179 rf170 (fun w => by cases w) t138 (by decide) eh157
  have pr205 : gNo [1, 2, 3, 4, 5, 6, 7, 8, 9, 10, 11, 12, 13, 14, 15, 16, 17, 18, 19, 20, 21, 22, 23, 24, 25, 26, 27, 28, 29, 30, 31, 32, 33, 34, 35, 36, 37, 38, 39, 40, 41, 42, 50, 56, 65, 66, 67, 68, 69, 70, 71, 72, 73, 74, 75, 76, 77, 78, 79, 80, 81, 85, 90, 91, 92, 93, 94, 95, 96, 97, 98, 99] ty176 := gNo.gr g179 (by decide) (gNo.sub (by decide) pr154)
  have pr206 := gPC.gr g179 sS169.1 (by decide) pr167
  have pr207 := gTc.gr g179 sS169.1 (by decide) (by decide) pr168
  have uq208 := gSg.uq g179 uqq132 (by decide)
  have sS209 : gSs rT 1027 ty176 [64999, 53999] h177 h177 := gSs.rf g179.1
  refine gz_s 1 (pc' := 51) (L' := [some (.ref x)]) (S' := [.ref c178, .ref c178, .ref x]) rfl ?_
  refine gz_call rfl (by decide) rfl (by decide) (by decide) (gcal_of rfl rfl rfl (Nat.le_of_ble_eq_true rfl) rfl) (ct_Sink _ sS209.1 c178 tc178 nnc178 llc178 kc178 zc178 dc178 (gNo.sub (by decide) pr205) uq208) (fun q210 _ wq210 => ?_)
  obtain ⟨pq210, oq210, hq210⟩ := q210
  obtain ⟨tyq210, xq210, cq210_0, ttq210, fq210_0, ecq210_0, tcq210_0, trq210_0, gq210, efq210_0, afq210_0, bfq210_0, uq210_0, uq210_1, uq210_2, uq210_3, uqq210⟩ := wq210
  dsimp only at uq210_0 uq210_1 uq210_3
  refine ⟨_, gq210, ?_⟩
  show gz gPP gGG gcn _ _ 54 [some (.ref x)] [.ref c178, .ref x] hq210 _
  have G211 : gSg [50, 51, 52, 53, 54, 55, 56, 57, 58, 59, 60, 61, 62, 63, 64, 82, 83, 84, 112, 113, 114, 200] [x] [64999, 53999] ty h tyq210 hq210 := gSg.tr (gSg.ss G180 sS209 (by decide)) xq210 (by decide) (by decide) (fun x hx => Or.inl (by rw [List.mem_singleton.mp hx]; exact gac178))
  have rw212 := gSg.raw xq210 rw181.2.1 (fun w => nex_c178 (List.mem_singleton.mp w))
  have rf213 := (rw212.2.2.1.trans rf182)
  have rf214 := (rw212.2.2.2.trans rf183)
  have dd215 := gSg.rawd (ci := 11) (ps := [3, 2, 1, 0]) xq210 rw181.2.1 (fun w => nex_c178 (List.mem_singleton.mp w)) t185 (by decide) dd184
  have t216 : tyq210 x = 200 := rw212.1.trans t185
  have t217 : tyq210 c3 = 51 := gSg.typ xq210 sS209.1 t186 rfl
  have t218 : tyq210 c33 = 53 := gSg.typ xq210 sS209.1 t187 rfl
  have t219 : tyq210 c58 = 54 := gSg.typ xq210 sS209.1 t188 rfl
  have t220 : tyq210 cq74_0 = 57 := gSg.typ xq210 sS209.1 t189 rfl
  have t221 : tyq210 cq74_1 = 82 := gSg.typ xq210 sS209.1 t190 rfl
  have t222 : tyq210 cq74_2 = 83 := gSg.typ xq210 sS209.1 t191 rfl
  have t223 : tyq210 cq74_3 = 84 := gSg.typ xq210 sS209.1 t192 rfl
  have t224 : tyq210 c105 = 55 := gSg.typ xq210 sS209.1 t193 rfl
  have s225 := gSg.at xq210 sS209.1 t186 rfl (by decide) s194
  have s226 := gSg.at xq210 sS209.1 t188 rfl (by decide) s195
  have s227 := gSg.at xq210 sS209.1 t189 rfl (by decide) s196
  have s228 := gSg.at xq210 sS209.1 t189 rfl (by decide) s197
  have s229 := gSg.at xq210 sS209.1 t189 rfl (by decide) s198
  have s230 := gSg.at xq210 sS209.1 t193 rfl (by decide) s199
  have s231 := gSg.at xq210 sS209.1 t193 rfl (by decide) s200
  have s232 := gSg.rawat xq210 rw181.2.1 (fun w => nex_c178 (List.mem_singleton.mp w)) t185 (by decide) s201
  have s233 := gSg.rawat xq210 rw181.2.1 (fun w => nex_c178 (List.mem_singleton.mp w)) t185 (by decide) s202
  have s234 := gSg.rawat xq210 rw181.2.1 (fun w => nex_c178 (List.mem_singleton.mp w)) t185 (by decide) s203
  have s235 := gSg.rawat xq210 rw181.2.1 (fun w => nex_c178 (List.mem_singleton.mp w)) t185 (by decide) s204
  have pr236 : gNo [1, 2, 3, 4, 5, 6, 7, 8, 9, 10, 11, 12, 13, 14, 15, 16, 17, 18, 19, 20, 21, 22, 23, 24, 25, 26, 27, 28, 29, 30, 31, 32, 33, 34, 35, 36, 37, 38, 39, 40, 41, 42, 50, 65, 66, 67, 68, 69, 70, 71, 72, 73, 74, 75, 76, 77, 78, 79, 80, 81, 85, 90, 91, 92, 93, 94, 95, 96, 97, 98, 99] tyq210 := gNo.gr xq210 (by decide) (gNo.sub (by decide) pr205)
  have pr237 := gPC.gr xq210 sS209.1 (by decide) pr206
  have pr238 := gTc.gr xq210 sS209.1 (by decide) (by decide) pr207
  have sS239 : gSs rT 1027 tyq210 [64999, 53999] hq210 hq210 := gSs.rf xq210.1
  refine gs_rput rfl (by decide) rfl sS239.1 t216 nx rw212.2.1 rf213 rfl (Or.inr rfl) (fun h240 g241 nh240 mh240 kh240 zh240 eh240 fh240 => ?_)
  have G242 : gSg [50, 51, 52, 53, 54, 55, 56, 57, 58, 59, 60, 61, 62, 63, 64, 82, 83, 84, 112, 113, 114, 200] [x] [64999, 53999] ty h tyq210 h240 := gSg.tr (gSg.ss G211 sS239 (by decide)) g241 (by decide) (by decide) (fun x hx => Or.inr hx)
  have hl243 : h240.2.2.2.1 cq210_0 = hq210.2.2.2.1 cq210_0 := gSg.len g241 sS239.1 tcq210_0 rfl
  have s244 := gSg.at g241 sS239.1 t217 rfl (by decide) s225
  have s245 := gSg.at g241 sS239.1 t219 rfl (by decide) s226
  have s246 := gSg.at g241 sS239.1 t220 rfl (by decide) s227
  have s247 := gSg.at g241 sS239.1 t220 rfl (by decide) s228
  have s248 := gSg.at g241 sS239.1 t220 rfl (by decide) s229
  have s249 := gSg.at g241 sS239.1 t224 rfl (by decide) s230
  have s250 := gSg.at g241 sS239.1 t224 rfl (by decide) s231
  have s251 := gSg.at g241 sS239.1 trq210_0 rfl (by decide) ecq210_0
  have s252 := gSg.at g241 sS239.1 trq210_0 rfl (by decide) efq210_0
  have pr253 := gPC.gr g241 sS239.1 (by decide) pr237
  have pr254 := gTc.gr g241 sS239.1 (by decide) (by decide) pr238
  have sS255 : gSs rT 1027 tyq210 [64999, 53999] h240 h240 := gSs.rf g241.1
  have rf256 := Nat.lt_of_lt_of_eq rw212.2.1 nh240.symm
  have rf257 := zh240.trans rf214
  have dd258 : ∀ k, ¬ k ∈ ([4, 3, 2, 1, 0] : List Nat) → h240.2.2.2.2 x k = defaultValue (gGG.2.1 11 k) := raw_dp fh240 dd215
  have s259 := (fh240 0 (by decide)).trans s232
  have s260 := (fh240 1 (by decide)).trans s233
  have s261 := (fh240 2 (by decide)).trans s234
  have s262 := (fh240 3 (by decide)).trans s235
  refine gz_s 1 (pc' := 58) (L' := [some (.ref x)]) (S' := [.ref x]) rfl ?_
  refine gz_get rfl (by decide) rfl nx rf256 kh240 s260 ?_
  refine gz_s 1 (pc' := 63) (L' := [some (.ref x)]) (S' := [.int (zi 16), .ref c33]) rfl ?_
  refine gz_call rfl (by decide) rfl (by decide) (by decide) (gcal_of rfl rfl rfl (Nat.le_of_ble_eq_true rfl) rfl) (cl_fill_tables _ sS255.1 c33 t218 16 ⟨by omega, by omega⟩ uqq210) (fun q263 _ wq263 => ?_)
  obtain ⟨pq263, oq263, hq263⟩ := q263
  obtain ⟨xq263, gq263, yq263_0⟩ := wq263
  refine ⟨_, gq263, ?_⟩
  show gz gPP gGG gcn _ _ 66 [some (.ref x)] [] hq263 _
  have sq263 : gSs rT 1027 tyq210 [64999, 53999] h240 hq263 := gSs.tr sS255 xq263 (by decide)
  have s264 := (xq263.2.2.2.2.2 c3 1 (by rw [t217]; decide)).trans s244
  have s265 := (xq263.2.2.2.2.2 c58 0 (by rw [t219]; decide)).trans s245
  have s266 := (xq263.2.2.2.2.2 cq74_0 0 (by rw [t220]; decide)).trans s246
  have s267 := (xq263.2.2.2.2.2 cq74_0 1 (by rw [t220]; decide)).trans s247
  have s268 := (xq263.2.2.2.2.2 cq74_0 2 (by rw [t220]; decide)).trans s248
  have s269 := (xq263.2.2.2.2.2 c105 8 (by rw [t224]; decide)).trans s249
  have s270 := (xq263.2.2.2.2.2 c105 3 (by rw [t224]; decide)).trans s250
  have s271 := (xq263.2.2.2.2.2 c178 0 (by rw [trq210_0]; decide)).trans s251
  have s272 := (xq263.2.2.2.2.2 c178 1 (by rw [trq210_0]; decide)).trans s252
  have s273 := (xq263.2.2.2.2.2 x 0 (by rw [t216]; decide)).trans s259
  have s274 := (xq263.2.2.2.2.2 x 1 (by rw [t216]; decide)).trans s260
  have s275 := (xq263.2.2.2.2.2 x 2 (by rw [t216]; decide)).trans s261
  have s276 := (xq263.2.2.2.2.2 x 3 (by rw [t216]; decide)).trans s262
  have s277 := (xq263.2.2.2.2.2 x 4 (by rw [t216]; decide)).trans eh240
  have dd278 : ∀ k, ¬ k ∈ ([4, 3, 2, 1, 0] : List Nat) → hq263.2.2.2.2 x k = defaultValue (gGG.2.1 11 k) := gFr.rawd xq263.2 t216 (by decide) dd258
  have pr279 := gPC.fr xq263.2 (by decide) pr253
  have pr280 := gTc.fr xq263.2 (by decide) pr254
  obtain ⟨ty282, g281, tg281, ug281⟩ := gSg.adx 50 sq263.1 t216 nx (Nat.lt_of_lt_of_eq rf256 sq263.2.1.symm) rfl ((congrFun sq263.2.2.2.1 x).trans kh240) (by show (0 : Nat) ≤ _; have h9 := ((congrFun sq263.2.2.2.2.1 x).trans rf257); omega) (by show _ ≤ (0 : Nat); have h9 := ((congrFun sq263.2.2.2.2.1 x).trans rf257); omega) (fun ty9 w9 k hk => ad50 (by rw [s273]; exact ⟨c3, rfl, w9 c3 _ t217 (by decide)⟩) (by rw [s274]; exact ⟨c33, rfl, w9 c33 _ t218 (by decide)⟩) (by rw [s275]; exact ⟨c58, rfl, w9 c58 _ t219 (by decide)⟩) (by rw [s276]; exact ⟨c105, rfl, w9 c105 _ t224 (by decide)⟩) (by rw [s277]; exact ⟨c178, rfl, w9 c178 _ trq210_0 (by decide)⟩) (by rw [(show hq263.2.2.2.2 x 5 = .null from dd278 5 (by decide))]; exact Or.inl rfl) (by rw [(show hq263.2.2.2.2 x 6 = .null from dd278 6 (by decide))]; exact Or.inl rfl) k)
  have uq283 := ug281 uqq210 (Or.inr (gNo.sub (by decide) pr236))
  have k284 := sq263.2.1
  have k284b := sq263.2.2.1
  have hl285 : hq263.2.2.2.1 cq210_0 = h240.2.2.2.1 cq210_0 := congrFun sq263.2.2.2.2.1 cq210_0
  have G286 : gSg [50, 51, 52, 53, 54, 55, 56, 57, 58, 59, 60, 61, 62, 63, 64, 82, 83, 84, 112, 113, 114, 200] [x] [64999, 53999] ty h ty282 hq263 := gSg.tr (gSg.ss G242 sq263 (by decide)) g281 (by decide) (by decide) (fun x hx => Or.inr hx)
  have t287 : ty282 c3 = 51 := gSg.typ g281 sq263.1 t217 rfl
  have t288 : ty282 c33 = 53 := gSg.typ g281 sq263.1 t218 rfl
  have t289 : ty282 c58 = 54 := gSg.typ g281 sq263.1 t219 rfl
  have t290 : ty282 cq74_0 = 57 := gSg.typ g281 sq263.1 t220 rfl
  have t291 : ty282 cq74_1 = 82 := gSg.typ g281 sq263.1 t221 rfl
  have t292 : ty282 cq74_2 = 83 := gSg.typ g281 sq263.1 t222 rfl
  have t293 : ty282 cq74_3 = 84 := gSg.typ g281 sq263.1 t223 rfl
  have t294 : ty282 c105 = 55 := gSg.typ g281 sq263.1 t224 rfl
  have t295 : ty282 c178 = 56 := gSg.typ g281 sq263.1 trq210_0 rfl
  have t296 : ty282 cq210_0 = 114 := gSg.typ g281 sq263.1 tcq210_0 rfl
  have pr297 : gNo [1, 2, 3, 4, 5, 6, 7, 8, 9, 10, 11, 12, 13, 14, 15, 16, 17, 18, 19, 20, 21, 22, 23, 24, 25, 26, 27, 28, 29, 30, 31, 32, 33, 34, 35, 36, 37, 38, 39, 40, 41, 42, 65, 66, 67, 68, 69, 70, 71, 72, 73, 74, 75, 76, 77, 78, 79, 80, 81, 85, 90, 91, 92, 93, 94, 95, 96, 97, 98, 99] ty282 := gNo.gr g281 (by decide) (gNo.sub (by decide) pr236)
  have pr298 := gPC.gr g281 sq263.1 (by decide) pr279
  have pr299 := gTc.gr g281 sq263.1 (by decide) (by decide) pr280
  have pr300 := gOy.gr g281 sq263.1 rfl (by decide) (by decide) yq263_0
  have sS301 : gSs rT 1027 ty282 [64999, 53999] hq263 hq263 := gSs.rf g281.1
  have hl302 : 1024 ≤ hq263.2.2.2.1 cq210_0 ∧ hq263.2.2.2.1 cq210_0 ≤ 1000000 := gJ.rowl (G := gGG) sS301.1 t296 rfl
  have hrx303 : gRr ty282 x hq263 := ⟨tg281, Or.inl ⟨(show hq263.2.2.2.2 x 5 = .null from dd278 5 (by decide)), (gNo.sub (by decide) pr297)⟩⟩
  have hrx304 : gRw ty282 x hq263 := ⟨tg281, Or.inl ⟨(show hq263.2.2.2.2 x 6 = .null from dd278 6 (by decide)), (gNo.sub (by decide) pr297)⟩⟩
  have G305 : gSg [50, 51, 52, 53, 54, 55, 56, 57, 58, 59, 60, 61, 62, 63, 64, 82, 83, 84, 112, 113, 114, 200] [x] [64999, 53999] ty h ty282 hq263 := gSg.ss G286 sS301 (by decide)
  exact gz_end (I := .return_) (len := 1) rfl (Or.inl rfl) ⟨ty282, G305, c105, c58, c178, cq210_0, cq74_0, cq74_1, cq74_2, cq74_3, trivial, fq132_0, fq132_1, fq210_0, s276, t294, s275, t289, s277, t295, s271, t296, s265, t290, s266, t291, s267, t292, s268, t293, tg281, rfl, s269, (by omega), (by omega), s270, (by omega), (by omega), s272, (by omega), (by omega), (by dsimp only; omega), (by dsimp only; omega), (by omega), (by omega), (by omega), (by dsimp only; omega), pr299, pr298, pr300, hrx303, hrx304, uq283, pr297⟩
