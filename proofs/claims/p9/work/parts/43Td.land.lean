/-! ===== methods of the landed text (by program) ===== -/
set_option maxRecDepth 20000 in
set_option maxHeartbeats 4000000 in
theorem ct_DctFilter (d : Nat) {ty : Nat → Nat} {h : gH} (hJ : gJ rT 1027 ty h) (x : Nat) (tx : ty x = 200) (nx : 1027 ≤ x) (lx : x < h.1) (kx : h.2.2.1 x = some (.inr 11)) (zx : h.2.2.2.1 x = 0) (dx : ∀ k, h.2.2.2.2 x k = defaultValue (gGG.2.1 11 k)) (no0 : gNo [1, 2, 3, 4, 5, 6, 7, 8, 9, 10, 11, 12, 13, 14, 15, 16, 17, 18, 19, 20, 21, 22, 23, 24, 25, 26, 27, 28, 29, 30, 31, 32, 33, 34, 35, 36, 37, 38, 39, 40, 41, 42, 50, 51, 52, 53, 54, 55, 56, 57, 58, 59, 60, 61, 62, 63, 64, 65, 66, 67, 68, 69, 70, 71, 72, 73, 74, 75, 76, 77, 78, 79, 80, 81, 82, 83, 84, 85, 90, 91, 92, 93, 94, 95, 96, 97, 98, 99] ty) (uq : gUq ty) : gz gPP gGG gcn (d + 3) gt0 0 (gent [.ref x] 1) [] h (fun q _ => ∃ ty9 : Nat → Nat, gSg [50, 51, 52, 53, 54, 55, 56, 57, 58, 59, 60, 61, 62, 63, 64, 82, 83, 84, 112, 113, 114, 200] [x] [64999, 53999] ty h ty9 q.2.2 ∧ ∃ dr pic sk bt2 bn b0 b1 b2 : Nat, True ∧ ∃ n1 iv1 c1 : Int, q.2.2.2.2.2.2 x 3 = .ref dr ∧ ty9 dr = 55 ∧ q.2.2.2.2.2.2 x 2 = .ref pic ∧ ty9 pic = 54 ∧ q.2.2.2.2.2.2 x 4 = .ref sk ∧ ty9 sk = 56 ∧ q.2.2.2.2.2.2 sk 0 = .ref bt2 ∧ ty9 bt2 = 114 ∧ q.2.2.2.2.2.2 pic 0 = .ref bn ∧ ty9 bn = 57 ∧ q.2.2.2.2.2.2 bn 0 = .ref b0 ∧ ty9 b0 = 82 ∧ q.2.2.2.2.2.2 bn 1 = .ref b1 ∧ ty9 b1 = 83 ∧ q.2.2.2.2.2.2 bn 2 = .ref b2 ∧ ty9 b2 = 84 ∧ ty9 x = 50 ∧ gfin gt0 q.1 q.2.1 = some none ∧ q.2.2.2.2.2.2 dr 8 = .int (zi n1) ∧ 0 ≤ n1 ∧ n1 ≤ 10 ∧ q.2.2.2.2.2.2 dr 3 = .int (zi iv1) ∧ 0 ≤ iv1 ∧ iv1 ≤ 100 ∧ q.2.2.2.2.2.2 sk 1 = .int (zi c1) ∧ 0 ≤ c1 ∧ c1 ≤ 500000 ∧ ((q.2.2.1 : Int) = h.1 + 20) ∧ ((q.2.2.2.1 : Int) = h.2.1 + 4733) ∧ (n1 = 0) ∧ (iv1 = 0) ∧ (c1 = 0) ∧ ((q.2.2.2.2.2.1 bt2 : Int) = 1024) ∧ (gTc ty9 0 q.2.2) ∧ (gPC ty9 pic b0 b1 b2 0 q.2.2) ∧ (gOyB ty9 59 0 1024 q.2.2) ∧ (gRr ty9 x q.2.2) ∧ (gRw ty9 x q.2.2) ∧ gUq ty9 ∧ gNo [1, 2, 3, 4, 5, 6, 7, 8, 9, 10, 11, 12, 13, 14, 15, 16, 17, 18, 19, 20, 21, 22, 23, 24, 25, 26, 27, 28, 29, 30, 31, 32, 33, 34, 35, 36, 37, 38, 39, 40, 41, 42, 65, 66, 67, 68, 69, 70, 71, 72, 73, 74, 75, 76, 77, 78, 79, 80, 81, 85, 90, 91, 92, 93, 94, 95, 96, 97, 98, 99] ty9) := by
  have hS : gSs rT 1027 ty [64999, 53999] h h := gSs.rf hJ
  have G0 : gSg [50, 51, 52, 53, 54, 55, 56, 57, 58, 59, 60, 61, 62, 63, 64, 82, 83, 84, 112, 113, 114, 200] [x] [64999, 53999] ty h ty h := gSg.rf hJ (fun x hx => by rw [List.mem_singleton.mp hx, tx]; rfl)
  refine gz_s 1 (pc' := 1) (L' := [some (.ref x)]) (S' := [.ref x]) rfl ?_
  refine gz_obj rfl (by decide) (by omega) rfl (by decide) ?_
  refine gz_s 1 (pc' := 5) (L' := [some (.ref x)]) (S' := [.ref x]) rfl ?_
  refine gs_newo rfl (by decide) rfl hS.1 (Nat.le_of_lt (Nat.lt_of_le_of_lt nx lx)) (fun ty1 h2 c3 g4 tc3 kc3 zc3 nc3 mc3 ec3 dc3 => ?_)
  have mfc3 : h2.2.1 = h.2.1 + 2 := mc3
  have gac3 : h.1 ≤ c3 := by have h8 := G0.2.1; have h9 := hS.2.1; omega
  have nnc3 : 1027 ≤ c3 := by have h8 := (Nat.le_of_lt (Nat.lt_of_le_of_lt nx lx)); omega
  have llc3 := Nat.lt_of_lt_of_eq (Nat.lt_succ_of_le (Nat.le_of_eq ec3)) nc3.symm
  have nex_c3 : x ≠ c3 := by have h8 := lx; omega
  have G5 : gSg [50, 51, 52, 53, 54, 55, 56, 57, 58, 59, 60, 61, 62, 63, 64, 82, 83, 84, 112, 113, 114, 200] [x] [64999, 53999] ty h ty1 h2 := gSg.tr (gSg.ss G0 hS (by decide)) g4 (by decide) (by decide) (fun x hx => by cases hx)
  have rw6 := gSg.raw g4 lx (fun w => by cases w)
  have rf7 := (rw6.2.2.1.trans kx)
  have rf8 := (rw6.2.2.2.trans zx)
  have dd9 := gSg.rawd (ci := 11) (ps := []) g4 lx (fun w => by cases w) tx (by decide) (fun k _ => dx k)
  have t10 : ty1 x = 200 := rw6.1.trans tx
  have pr11 : gNo [1, 2, 3, 4, 5, 6, 7, 8, 9, 10, 11, 12, 13, 14, 15, 16, 17, 18, 19, 20, 21, 22, 23, 24, 25, 26, 27, 28, 29, 30, 31, 32, 33, 34, 35, 36, 37, 38, 39, 40, 41, 42, 50, 51, 52, 53, 54, 55, 56, 57, 58, 59, 60, 61, 62, 63, 64, 65, 66, 67, 68, 69, 70, 71, 72, 73, 74, 75, 76, 77, 78, 79, 80, 81, 82, 83, 84, 85, 90, 91, 92, 93, 94, 95, 96, 97, 98, 99] ty1 := gNo.gr g4 (by decide) (gNo.sub (by decide) no0)
  have uq12 := gSg.uq g4 uq (by decide)
  have sS13 : gSs rT 1027 ty1 [64999, 53999] h2 h2 := gSs.rf g4.1
  refine gz_s 1 (pc' := 9) (L' := [some (.ref x)]) (S' := [.ref c3, .ref c3, .ref x]) rfl ?_
  refine gz_call rfl (by decide) rfl (by decide) (by decide) (gcal_of rfl rfl rfl (Nat.le_of_ble_eq_true rfl) rfl) (ct_Collected _ sS13.1 c3 tc3 nnc3 llc3 kc3 zc3 dc3 (gNo.sub (by decide) pr11) uq12) (fun q14 _ wq14 => ?_)
  obtain ⟨pq14, oq14, hq14⟩ := q14
  obtain ⟨tyq14, xq14, fq14_0, trq14_0, gq14, efq14_0, afq14_0, bfq14_0, uq14_0, uq14_1, uqq14⟩ := wq14
  dsimp only at uq14_0 uq14_1
  refine ⟨_, gq14, ?_⟩
  show gz gPP gGG gcn _ _ 12 [some (.ref x)] [.ref c3, .ref x] hq14 _
  have G15 : gSg [50, 51, 52, 53, 54, 55, 56, 57, 58, 59, 60, 61, 62, 63, 64, 82, 83, 84, 112, 113, 114, 200] [x] [64999, 53999] ty h tyq14 hq14 := gSg.tr (gSg.ss G5 sS13 (by decide)) xq14 (by decide) (by decide) (fun x hx => Or.inl (by rw [List.mem_singleton.mp hx]; exact gac3))
  have rw16 := gSg.raw xq14 rw6.2.1 (fun w => nex_c3 (List.mem_singleton.mp w))
  have rf17 := (rw16.2.2.1.trans rf7)
  have rf18 := (rw16.2.2.2.trans rf8)
  have dd19 := gSg.rawd (ci := 11) (ps := []) xq14 rw6.2.1 (fun w => nex_c3 (List.mem_singleton.mp w)) t10 (by decide) dd9
  have t20 : tyq14 x = 200 := rw16.1.trans t10
  have pr21 : gNo [1, 2, 3, 4, 5, 6, 7, 8, 9, 10, 11, 12, 13, 14, 15, 16, 17, 18, 19, 20, 21, 22, 23, 24, 25, 26, 27, 28, 29, 30, 31, 32, 33, 34, 35, 36, 37, 38, 39, 40, 41, 42, 50, 53, 54, 55, 56, 57, 58, 59, 60, 61, 62, 63, 64, 65, 66, 67, 68, 69, 70, 71, 72, 73, 74, 75, 76, 77, 78, 79, 80, 81, 82, 83, 84, 85, 90, 91, 92, 93, 94, 95, 96, 97, 98, 99] tyq14 := gNo.gr xq14 (by decide) (gNo.sub (by decide) pr11)
  have sS22 : gSs rT 1027 tyq14 [64999, 53999] hq14 hq14 := gSs.rf xq14.1
  refine gs_rput rfl (by decide) rfl sS22.1 t20 nx rw16.2.1 rf17 rfl (Or.inr rfl) (fun h23 g24 nh23 mh23 kh23 zh23 eh23 fh23 => ?_)
  have G25 : gSg [50, 51, 52, 53, 54, 55, 56, 57, 58, 59, 60, 61, 62, 63, 64, 82, 83, 84, 112, 113, 114, 200] [x] [64999, 53999] ty h tyq14 h23 := gSg.tr (gSg.ss G15 sS22 (by decide)) g24 (by decide) (by decide) (fun x hx => Or.inr hx)
  have s26 := gSg.at g24 sS22.1 trq14_0 rfl (by decide) efq14_0
  have sS27 : gSs rT 1027 tyq14 [64999, 53999] h23 h23 := gSs.rf g24.1
  have rf28 := Nat.lt_of_lt_of_eq rw16.2.1 nh23.symm
  have rf29 := zh23.trans rf18
  have dd30 : ∀ k, ¬ k ∈ ([0] : List Nat) → h23.2.2.2.2 x k = defaultValue (gGG.2.1 11 k) := raw_dp fh23 dd19
  refine gz_s 2 (pc' := 19) (L' := [some (.ref x)]) (S' := [.int (zi 256), .ref x]) rfl ?_
  refine gs_newr 53 rfl (by decide) rfl sS27.1 (Nat.le_of_lt (Nat.lt_of_le_of_lt (gJ.cell sS27.1 trq14_0 rfl).1 (gJ.cell sS27.1 trq14_0 rfl).2.1)) (by omega) (by omega) rfl rfl (by show (256 : Int) ≤ _; omega) (by show _ ≤ (256 : Int); omega) (fun _ _ => gos_i (by decide) (by decide)) (fun ty31 h32 c33 g34 tc33 lc33 nc33 mc33 ec33 dc33 uc33 => ?_)
  have gac33 : h.1 ≤ c33 := by have h8 := G25.2.1; have h9 := sS27.2.1; omega
  have uq35 := uc33 uqq14 (Or.inr (gNo.sub (by decide) pr21))
  have G36 : gSg [50, 51, 52, 53, 54, 55, 56, 57, 58, 59, 60, 61, 62, 63, 64, 82, 83, 84, 112, 113, 114, 200] [x] [64999, 53999] ty h ty31 h32 := gSg.tr (gSg.ss G25 sS27 (by decide)) g34 (by decide) (by decide) (fun x hx => by cases hx)
  have rw37 := gSg.raw g34 rf28 (fun w => by cases w)
  have rf38 := (rw37.2.2.1.trans kh23)
  have rf39 := (rw37.2.2.2.trans rf29)
  have dd40 := gSg.rawd (ci := 11) (ps := [0]) g34 rf28 (fun w => by cases w) t20 (by decide) dd30
  have t41 : ty31 x = 200 := rw37.1.trans t20
  have t42 : ty31 c3 = 51 := gSg.typ g34 sS27.1 trq14_0 rfl
  have s43 := gSg.at g34 sS27.1 trq14_0 rfl (by decide) s26
  have s44 := gSg.rawat g34 rf28 (fun w => by cases w) t20 (by decide) eh23
  have pr45 : gNo [1, 2, 3, 4, 5, 6, 7, 8, 9, 10, 11, 12, 13, 14, 15, 16, 17, 18, 19, 20, 21, 22, 23, 24, 25, 26, 27, 28, 29, 30, 31, 32, 33, 34, 35, 36, 37, 38, 39, 40, 41, 42, 50, 54, 55, 56, 57, 58, 59, 60, 61, 62, 63, 64, 65, 66, 67, 68, 69, 70, 71, 72, 73, 74, 75, 76, 77, 78, 79, 80, 81, 82, 83, 84, 85, 90, 91, 92, 93, 94, 95, 96, 97, 98, 99] ty31 := gNo.gr g34 (by decide) (gNo.sub (by decide) pr21)
  have sS46 : gSs rT 1027 ty31 [64999, 53999] h32 h32 := gSs.rf g34.1
  refine gs_rput rfl (by decide) rfl sS46.1 t41 nx rw37.2.1 rf38 rfl (Or.inr rfl) (fun h47 g48 nh47 mh47 kh47 zh47 eh47 fh47 => ?_)
  have G49 : gSg [50, 51, 52, 53, 54, 55, 56, 57, 58, 59, 60, 61, 62, 63, 64, 82, 83, 84, 112, 113, 114, 200] [x] [64999, 53999] ty h ty31 h47 := gSg.tr (gSg.ss G36 sS46 (by decide)) g48 (by decide) (by decide) (fun x hx => Or.inr hx)
  have s50 := gSg.at g48 sS46.1 t42 rfl (by decide) s43
  have sS51 : gSs rT 1027 ty31 [64999, 53999] h47 h47 := gSs.rf g48.1
  have rf52 := Nat.lt_of_lt_of_eq rw37.2.1 nh47.symm
  have rf53 := zh47.trans rf39
  have dd54 : ∀ k, ¬ k ∈ ([1, 0] : List Nat) → h47.2.2.2.2 x k = defaultValue (gGG.2.1 11 k) := raw_dp fh47 dd40
  have s55 := (fh47 0 (by decide)).trans s44
  refine gz_s 1 (pc' := 25) (L' := [some (.ref x)]) (S' := [.ref x]) rfl ?_
  refine gs_newo rfl (by decide) rfl sS51.1 (Nat.le_of_lt (Nat.lt_of_le_of_lt (gJ.cell sS51.1 t42 rfl).1 (gJ.cell sS51.1 t42 rfl).2.1)) (fun ty56 h57 c58 g59 tc58 kc58 zc58 nc58 mc58 ec58 dc58 => ?_)
  have mfc58 : h57.2.1 = h47.2.1 + 14 := mc58
  have gac58 : h.1 ≤ c58 := by have h8 := G49.2.1; have h9 := sS51.2.1; omega
  have nnc58 : 1027 ≤ c58 := by have h8 := (Nat.le_of_lt (Nat.lt_of_le_of_lt (gJ.cell sS51.1 t42 rfl).1 (gJ.cell sS51.1 t42 rfl).2.1)); omega
  have llc58 := Nat.lt_of_lt_of_eq (Nat.lt_succ_of_le (Nat.le_of_eq ec58)) nc58.symm
  have nex_c58 : x ≠ c58 := by have h8 := rf52; omega
  have G60 : gSg [50, 51, 52, 53, 54, 55, 56, 57, 58, 59, 60, 61, 62, 63, 64, 82, 83, 84, 112, 113, 114, 200] [x] [64999, 53999] ty h ty56 h57 := gSg.tr (gSg.ss G49 sS51 (by decide)) g59 (by decide) (by decide) (fun x hx => by cases hx)
  have rw61 := gSg.raw g59 rf52 (fun w => by cases w)
  have rf62 := (rw61.2.2.1.trans kh47)
  have rf63 := (rw61.2.2.2.trans rf53)
  have dd64 := gSg.rawd (ci := 11) (ps := [1, 0]) g59 rf52 (fun w => by cases w) t41 (by decide) dd54
  have t65 : ty56 x = 200 := rw61.1.trans t41
  have t66 : ty56 c3 = 51 := gSg.typ g59 sS51.1 t42 rfl
  have t67 : ty56 c33 = 53 := gSg.typ g59 sS51.1 tc33 rfl
  have s68 := gSg.at g59 sS51.1 t42 rfl (by decide) s50
  have s69 := gSg.rawat g59 rf52 (fun w => by cases w) t41 (by decide) s55
  have s70 := gSg.rawat g59 rf52 (fun w => by cases w) t41 (by decide) eh47
  have pr71 : gNo [1, 2, 3, 4, 5, 6, 7, 8, 9, 10, 11, 12, 13, 14, 15, 16, 17, 18, 19, 20, 21, 22, 23, 24, 25, 26, 27, 28, 29, 30, 31, 32, 33, 34, 35, 36, 37, 38, 39, 40, 41, 42, 50, 54, 55, 56, 57, 58, 59, 60, 61, 62, 63, 64, 65, 66, 67, 68, 69, 70, 71, 72, 73, 74, 75, 76, 77, 78, 79, 80, 81, 82, 83, 84, 85, 90, 91, 92, 93, 94, 95, 96, 97, 98, 99] ty56 := gNo.gr g59 (by decide) (gNo.sub (by decide) pr45)
  have uq72 := gSg.uq g59 uq35 (by decide)
  have sS73 : gSs rT 1027 ty56 [64999, 53999] h57 h57 := gSs.rf g59.1
  refine gz_s 1 (pc' := 29) (L' := [some (.ref x)]) (S' := [.ref c58, .ref c58, .ref x]) rfl ?_
  refine gz_call rfl (by decide) rfl (by decide) (by decide) (gcal_of rfl rfl rfl (Nat.le_of_ble_eq_true rfl) rfl) (ct_Picture _ sS73.1 c58 tc58 nnc58 llc58 kc58 zc58 dc58 (gNo.sub (by decide) pr71) uq72) (fun q74 _ wq74 => ?_)
  obtain ⟨pq74, oq74, hq74⟩ := q74
  obtain ⟨tyq74, xq74, cq74_0, cq74_1, cq74_2, cq74_3, ttq74, ecq74_0, tcq74_0, ecq74_1, tcq74_1, ecq74_2, tcq74_2, ecq74_3, tcq74_3, trq74_0, gq74, uq74_0, uq74_1, yq74_0, uqq74⟩ := wq74
  dsimp only at uq74_0 uq74_1
  refine ⟨_, gq74, ?_⟩
  show gz gPP gGG gcn _ _ 32 [some (.ref x)] [.ref c58, .ref x] hq74 _
  have G75 : gSg [50, 51, 52, 53, 54, 55, 56, 57, 58, 59, 60, 61, 62, 63, 64, 82, 83, 84, 112, 113, 114, 200] [x] [64999, 53999] ty h tyq74 hq74 := gSg.tr (gSg.ss G60 sS73 (by decide)) xq74 (by decide) (by decide) (fun x hx => Or.inl (by rw [List.mem_singleton.mp hx]; exact gac58))
  have rw76 := gSg.raw xq74 rw61.2.1 (fun w => nex_c58 (List.mem_singleton.mp w))
  have rf77 := (rw76.2.2.1.trans rf62)
  have rf78 := (rw76.2.2.2.trans rf63)
  have dd79 := gSg.rawd (ci := 11) (ps := [1, 0]) xq74 rw61.2.1 (fun w => nex_c58 (List.mem_singleton.mp w)) t65 (by decide) dd64
  have t80 : tyq74 x = 200 := rw76.1.trans t65
  have t81 : tyq74 c3 = 51 := gSg.typ xq74 sS73.1 t66 rfl
  have t82 : tyq74 c33 = 53 := gSg.typ xq74 sS73.1 t67 rfl
  have s83 := gSg.at xq74 sS73.1 t66 rfl (by decide) s68
  have s84 := gSg.rawat xq74 rw61.2.1 (fun w => nex_c58 (List.mem_singleton.mp w)) t65 (by decide) s69
  have s85 := gSg.rawat xq74 rw61.2.1 (fun w => nex_c58 (List.mem_singleton.mp w)) t65 (by decide) s70
  have pr86 : gNo [1, 2, 3, 4, 5, 6, 7, 8, 9, 10, 11, 12, 13, 14, 15, 16, 17, 18, 19, 20, 21, 22, 23, 24, 25, 26, 27, 28, 29, 30, 31, 32, 33, 34, 35, 36, 37, 38, 39, 40, 41, 42, 50, 55, 56, 59, 60, 61, 62, 63, 64, 65, 66, 67, 68, 69, 70, 71, 72, 73, 74, 75, 76, 77, 78, 79, 80, 81, 85, 90, 91, 92, 93, 94, 95, 96, 97, 98, 99] tyq74 := gNo.gr xq74 (by decide) (gNo.sub (by decide) pr71)
  have sS87 : gSs rT 1027 tyq74 [64999, 53999] hq74 hq74 := gSs.rf xq74.1
  refine gs_rput rfl (by decide) rfl sS87.1 t80 nx rw76.2.1 rf77 rfl (Or.inr rfl) (fun h88 g89 nh88 mh88 kh88 zh88 eh88 fh88 => ?_)
  have G90 : gSg [50, 51, 52, 53, 54, 55, 56, 57, 58, 59, 60, 61, 62, 63, 64, 82, 83, 84, 112, 113, 114, 200] [x] [64999, 53999] ty h tyq74 h88 := gSg.tr (gSg.ss G75 sS87 (by decide)) g89 (by decide) (by decide) (fun x hx => Or.inr hx)
  have s91 := gSg.at g89 sS87.1 t81 rfl (by decide) s83
  have s92 := gSg.at g89 sS87.1 trq74_0 rfl (by decide) ecq74_0
  have s93 := gSg.at g89 sS87.1 tcq74_0 rfl (by decide) ecq74_1
  have s94 := gSg.at g89 sS87.1 tcq74_0 rfl (by decide) ecq74_2
  have s95 := gSg.at g89 sS87.1 tcq74_0 rfl (by decide) ecq74_3
  have pr96 := gPC.gr g89 sS87.1 (by decide) yq74_0
  have sS97 : gSs rT 1027 tyq74 [64999, 53999] h88 h88 := gSs.rf g89.1
  have rf98 := Nat.lt_of_lt_of_eq rw76.2.1 nh88.symm
  have rf99 := zh88.trans rf78
  have dd100 : ∀ k, ¬ k ∈ ([2, 1, 0] : List Nat) → h88.2.2.2.2 x k = defaultValue (gGG.2.1 11 k) := raw_dp fh88 dd79
  have s101 := (fh88 0 (by decide)).trans s84
  have s102 := (fh88 1 (by decide)).trans s85
  refine gz_s 1 (pc' := 36) (L' := [some (.ref x)]) (S' := [.ref x]) rfl ?_
  refine gs_newo rfl (by decide) rfl sS97.1 (Nat.le_of_lt (Nat.lt_of_le_of_lt (gJ.cell sS97.1 t81 rfl).1 (gJ.cell sS97.1 t81 rfl).2.1)) (fun ty103 h104 c105 g106 tc105 kc105 zc105 nc105 mc105 ec105 dc105 => ?_)
  have mfc105 : h104.2.1 = h88.2.1 + 10 := mc105
  have gac105 : h.1 ≤ c105 := by have h8 := G90.2.1; have h9 := sS97.2.1; omega
  have nnc105 : 1027 ≤ c105 := by have h8 := (Nat.le_of_lt (Nat.lt_of_le_of_lt (gJ.cell sS97.1 t81 rfl).1 (gJ.cell sS97.1 t81 rfl).2.1)); omega
  have llc105 := Nat.lt_of_lt_of_eq (Nat.lt_succ_of_le (Nat.le_of_eq ec105)) nc105.symm
  have nex_c105 : x ≠ c105 := by have h8 := rf98; omega
  have G107 : gSg [50, 51, 52, 53, 54, 55, 56, 57, 58, 59, 60, 61, 62, 63, 64, 82, 83, 84, 112, 113, 114, 200] [x] [64999, 53999] ty h ty103 h104 := gSg.tr (gSg.ss G90 sS97 (by decide)) g106 (by decide) (by decide) (fun x hx => by cases hx)
  have rw108 := gSg.raw g106 rf98 (fun w => by cases w)
  have rf109 := (rw108.2.2.1.trans kh88)
  have rf110 := (rw108.2.2.2.trans rf99)
  have dd111 := gSg.rawd (ci := 11) (ps := [2, 1, 0]) g106 rf98 (fun w => by cases w) t80 (by decide) dd100
  have t112 : ty103 x = 200 := rw108.1.trans t80
  have t113 : ty103 c3 = 51 := gSg.typ g106 sS97.1 t81 rfl
  have t114 : ty103 c33 = 53 := gSg.typ g106 sS97.1 t82 rfl
  have t115 : ty103 c58 = 54 := gSg.typ g106 sS97.1 trq74_0 rfl
  have t116 : ty103 cq74_0 = 57 := gSg.typ g106 sS97.1 tcq74_0 rfl
  have t117 : ty103 cq74_1 = 82 := gSg.typ g106 sS97.1 tcq74_1 rfl
  have t118 : ty103 cq74_2 = 83 := gSg.typ g106 sS97.1 tcq74_2 rfl
  have t119 : ty103 cq74_3 = 84 := gSg.typ g106 sS97.1 tcq74_3 rfl
  have s120 := gSg.at g106 sS97.1 t81 rfl (by decide) s91
  have s121 := gSg.at g106 sS97.1 trq74_0 rfl (by decide) s92
  have s122 := gSg.at g106 sS97.1 tcq74_0 rfl (by decide) s93
  have s123 := gSg.at g106 sS97.1 tcq74_0 rfl (by decide) s94
  have s124 := gSg.at g106 sS97.1 tcq74_0 rfl (by decide) s95
  have s125 := gSg.rawat g106 rf98 (fun w => by cases w) t80 (by decide) s101
  have s126 := gSg.rawat g106 rf98 (fun w => by cases w) t80 (by decide) s102
  have s127 := gSg.rawat g106 rf98 (fun w => by cases w) t80 (by decide) eh88
  have pr128 : gNo [1, 2, 3, 4, 5, 6, 7, 8, 9, 10, 11, 12, 13, 14, 15, 16, 17, 18, 19, 20, 21, 22, 23, 24, 25, 26, 27, 28, 29, 30, 31, 32, 33, 34, 35, 36, 37, 38, 39, 40, 41, 42, 50, 55, 56, 59, 60, 61, 62, 63, 64, 65, 66, 67, 68, 69, 70, 71, 72, 73, 74, 75, 76, 77, 78, 79, 80, 81, 85, 90, 91, 92, 93, 94, 95, 96, 97, 98, 99] ty103 := gNo.gr g106 (by decide) (gNo.sub (by decide) pr86)
  have pr129 := gPC.gr g106 sS97.1 (by decide) pr96
  have uq130 := gSg.uq g106 uqq74 (by decide)
  have sS131 : gSs rT 1027 ty103 [64999, 53999] h104 h104 := gSs.rf g106.1
  refine gz_s 1 (pc' := 40) (L' := [some (.ref x)]) (S' := [.ref c105, .ref c105, .ref x]) rfl ?_
  refine gz_call rfl (by decide) rfl (by decide) (by decide) (gcal_of rfl rfl rfl (Nat.le_of_ble_eq_true rfl) rfl) (ct_Draft _ sS131.1 c105 tc105 nnc105 llc105 kc105 zc105 dc105 (gNo.sub (by decide) pr128) uq130) (fun q132 _ wq132 => ?_)
  obtain ⟨pq132, oq132, hq132⟩ := q132
  obtain ⟨tyq132, xq132, fq132_0, fq132_1, trq132_0, gq132, efq132_0, afq132_0, bfq132_0, efq132_1, afq132_1, bfq132_1, uq132_0, uq132_1, uq132_2, uq132_3, yq132_0, yq132_1, uqq132⟩ := wq132
  dsimp only at uq132_0 uq132_1
  refine ⟨_, gq132, ?_⟩
  show gz gPP gGG gcn _ _ 43 [some (.ref x)] [.ref c105, .ref x] hq132 _
  have G133 : gSg [50, 51, 52, 53, 54, 55, 56, 57, 58, 59, 60, 61, 62, 63, 64, 82, 83, 84, 112, 113, 114, 200] [x] [64999, 53999] ty h tyq132 hq132 := gSg.tr (gSg.ss G107 sS131 (by decide)) xq132 (by decide) (by decide) (fun x hx => Or.inl (by rw [List.mem_singleton.mp hx]; exact gac105))
  have rw134 := gSg.raw xq132 rw108.2.1 (fun w => nex_c105 (List.mem_singleton.mp w))
  have rf135 := (rw134.2.2.1.trans rf109)
  have rf136 := (rw134.2.2.2.trans rf110)
  have dd137 := gSg.rawd (ci := 11) (ps := [2, 1, 0]) xq132 rw108.2.1 (fun w => nex_c105 (List.mem_singleton.mp w)) t112 (by decide) dd111
  have t138 : tyq132 x = 200 := rw134.1.trans t112
  have t139 : tyq132 c3 = 51 := gSg.typ xq132 sS131.1 t113 rfl
  have t140 : tyq132 c33 = 53 := gSg.typ xq132 sS131.1 t114 rfl
  have t141 : tyq132 c58 = 54 := gSg.typ xq132 sS131.1 t115 rfl
  have t142 : tyq132 cq74_0 = 57 := gSg.typ xq132 sS131.1 t116 rfl
  have t143 : tyq132 cq74_1 = 82 := gSg.typ xq132 sS131.1 t117 rfl
  have t144 : tyq132 cq74_2 = 83 := gSg.typ xq132 sS131.1 t118 rfl
  have t145 : tyq132 cq74_3 = 84 := gSg.typ xq132 sS131.1 t119 rfl
  have s146 := gSg.at xq132 sS131.1 t113 rfl (by decide) s120
  have s147 := gSg.at xq132 sS131.1 t115 rfl (by decide) s121
  have s148 := gSg.at xq132 sS131.1 t116 rfl (by decide) s122
  have s149 := gSg.at xq132 sS131.1 t116 rfl (by decide) s123
  have s150 := gSg.at xq132 sS131.1 t116 rfl (by decide) s124
  have s151 := gSg.rawat xq132 rw108.2.1 (fun w => nex_c105 (List.mem_singleton.mp w)) t112 (by decide) s125
  have s152 := gSg.rawat xq132 rw108.2.1 (fun w => nex_c105 (List.mem_singleton.mp w)) t112 (by decide) s126
  have s153 := gSg.rawat xq132 rw108.2.1 (fun w => nex_c105 (List.mem_singleton.mp w)) t112 (by decide) s127
  have pr154 : gNo [1, 2, 3, 4, 5, 6, 7, 8, 9, 10, 11, 12, 13, 14, 15, 16, 17, 18, 19, 20, 21, 22, 23, 24, 25, 26, 27, 28, 29, 30, 31, 32, 33, 34, 35, 36, 37, 38, 39, 40, 41, 42, 50, 56, 65, 66, 67, 68, 69, 70, 71, 72, 73, 74, 75, 76, 77, 78, 79, 80, 81, 85, 90, 91, 92, 93, 94, 95, 96, 97, 98, 99] tyq132 := gNo.gr xq132 (by decide) (gNo.sub (by decide) pr128)
  have pr155 := gPC.gr xq132 sS131.1 (by decide) pr129
  have sS156 : gSs rT 1027 tyq132 [64999, 53999] hq132 hq132 := gSs.rf xq132.1
  refine gs_rput rfl (by decide) rfl sS156.1 t138 nx rw134.2.1 rf135 rfl (Or.inr rfl) (fun h157 g158 nh157 mh157 kh157 zh157 eh157 fh157 => ?_)
  have G159 : gSg [50, 51, 52, 53, 54, 55, 56, 57, 58, 59, 60, 61, 62, 63, 64, 82, 83, 84, 112, 113, 114, 200] [x] [64999, 53999] ty h tyq132 h157 := gSg.tr (gSg.ss G133 sS156 (by decide)) g158 (by decide) (by decide) (fun x hx => Or.inr hx)
  have s160 := gSg.at g158 sS156.1 t139 rfl (by decide) s146
  have s161 := gSg.at g158 sS156.1 t141 rfl (by decide) s147
  have s162 := gSg.at g158 sS156.1 t142 rfl (by decide) s148
  have s163 := gSg.at g158 sS156.1 t142 rfl (by decide) s149
  have s164 := gSg.at g158 sS156.1 t142 rfl (by decide) s150
  have s165 := gSg.at g158 sS156.1 trq132_0 rfl (by decide) efq132_0
  have s166 := gSg.at g158 sS156.1 trq132_0 rfl (by decide) efq132_1
  have pr167 := gPC.gr g158 sS156.1 (by decide) pr155
  have pr168 := gTc.gr g158 sS156.1 (by decide) (by decide) yq132_0
  have pr169 := gOyB.gr g158 sS156.1 rfl (by decide) (by decide) yq132_1
  have sS170 : gSs rT 1027 tyq132 [64999, 53999] h157 h157 := gSs.rf g158.1
  have rf171 := Nat.lt_of_lt_of_eq rw134.2.1 nh157.symm
  have rf172 := zh157.trans rf136
  have dd173 : ∀ k, ¬ k ∈ ([3, 2, 1, 0] : List Nat) → h157.2.2.2.2 x k = defaultValue (gGG.2.1 11 k) := raw_dp fh157 dd137
  have s174 := (fh157 0 (by decide)).trans s151
  have s175 := (fh157 1 (by decide)).trans s152
  have s176 := (fh157 2 (by decide)).trans s153
  refine gz_s 1 (pc' := 47) (L' := [some (.ref x)]) (S' := [.ref x]) rfl ?_
  refine gs_newo rfl (by decide) rfl sS170.1 (Nat.le_of_lt (Nat.lt_of_le_of_lt (gJ.cell sS170.1 t139 rfl).1 (gJ.cell sS170.1 t139 rfl).2.1)) (fun ty177 h178 c179 g180 tc179 kc179 zc179 nc179 mc179 ec179 dc179 => ?_)
  have mfc179 : h178.2.1 = h157.2.1 + 4 := mc179
  have gac179 : h.1 ≤ c179 := by have h8 := G159.2.1; have h9 := sS170.2.1; omega
  have nnc179 : 1027 ≤ c179 := by have h8 := (Nat.le_of_lt (Nat.lt_of_le_of_lt (gJ.cell sS170.1 t139 rfl).1 (gJ.cell sS170.1 t139 rfl).2.1)); omega
  have llc179 := Nat.lt_of_lt_of_eq (Nat.lt_succ_of_le (Nat.le_of_eq ec179)) nc179.symm
  have nex_c179 : x ≠ c179 := by have h8 := rf171; omega
  have G181 : gSg [50, 51, 52, 53, 54, 55, 56, 57, 58, 59, 60, 61, 62, 63, 64, 82, 83, 84, 112, 113, 114, 200] [x] [64999, 53999] ty h ty177 h178 := gSg.tr (gSg.ss G159 sS170 (by decide)) g180 (by decide) (by decide) (fun x hx => by cases hx)
  have rw182 := gSg.raw g180 rf171 (fun w => by cases w)
  have rf183 := (rw182.2.2.1.trans kh157)
  have rf184 := (rw182.2.2.2.trans rf172)
  have dd185 := gSg.rawd (ci := 11) (ps := [3, 2, 1, 0]) g180 rf171 (fun w => by cases w) t138 (by decide) dd173
  have t186 : ty177 x = 200 := rw182.1.trans t138
  have t187 : ty177 c3 = 51 := gSg.typ g180 sS170.1 t139 rfl
  have t188 : ty177 c33 = 53 := gSg.typ g180 sS170.1 t140 rfl
  have t189 : ty177 c58 = 54 := gSg.typ g180 sS170.1 t141 rfl
  have t190 : ty177 cq74_0 = 57 := gSg.typ g180 sS170.1 t142 rfl
  have t191 : ty177 cq74_1 = 82 := gSg.typ g180 sS170.1 t143 rfl
  have t192 : ty177 cq74_2 = 83 := gSg.typ g180 sS170.1 t144 rfl
  have t193 : ty177 cq74_3 = 84 := gSg.typ g180 sS170.1 t145 rfl
  have t194 : ty177 c105 = 55 := gSg.typ g180 sS170.1 trq132_0 rfl
  have s195 := gSg.at g180 sS170.1 t139 rfl (by decide) s160
  have s196 := gSg.at g180 sS170.1 t141 rfl (by decide) s161
  have s197 := gSg.at g180 sS170.1 t142 rfl (by decide) s162
  have s198 := gSg.at g180 sS170.1 t142 rfl (by decide) s163
  have s199 := gSg.at g180 sS170.1 t142 rfl (by decide) s164
  have s200 := gSg.at g180 sS170.1 trq132_0 rfl (by decide) s165
  have s201 := gSg.at g180 sS170.1 trq132_0 rfl (by decide) s166
  have s202 := gSg.rawat g180 rf171 (fun w => by cases w) t138 (by decide) s174
  have s203 := gSg.rawat g180 rf171 (fun w => by cases w) t138 (by decide) s175
  have s204 := gSg.rawat g180 rf171 (fun w => by cases w) t138 (by decide) s176
  have s205 := gSg.rawat g180 rf171 (fun w => by cases w) t138 (by decide) eh157
  have pr206 : gNo [1, 2, 3, 4, 5, 6, 7, 8, 9, 10, 11, 12, 13, 14, 15, 16, 17, 18, 19, 20, 21, 22, 23, 24, 25, 26, 27, 28, 29, 30, 31, 32, 33, 34, 35, 36, 37, 38, 39, 40, 41, 42, 50, 56, 65, 66, 67, 68, 69, 70, 71, 72, 73, 74, 75, 76, 77, 78, 79, 80, 81, 85, 90, 91, 92, 93, 94, 95, 96, 97, 98, 99] ty177 := gNo.gr g180 (by decide) (gNo.sub (by decide) pr154)
  have pr207 := gPC.gr g180 sS170.1 (by decide) pr167
  have pr208 := gTc.gr g180 sS170.1 (by decide) (by decide) pr168
  have pr209 := gOyB.gr g180 sS170.1 rfl (by decide) (by decide) pr169
  have uq210 := gSg.uq g180 uqq132 (by decide)
  have sS211 : gSs rT 1027 ty177 [64999, 53999] h178 h178 := gSs.rf g180.1
  refine gz_s 1 (pc' := 51) (L' := [some (.ref x)]) (S' := [.ref c179, .ref c179, .ref x]) rfl ?_
  refine gz_call rfl (by decide) rfl (by decide) (by decide) (gcal_of rfl rfl rfl (Nat.le_of_ble_eq_true rfl) rfl) (ct_Sink _ sS211.1 c179 tc179 nnc179 llc179 kc179 zc179 dc179 (gNo.sub (by decide) pr206) uq210) (fun q212 _ wq212 => ?_)
  obtain ⟨pq212, oq212, hq212⟩ := q212
  obtain ⟨tyq212, xq212, cq212_0, ttq212, fq212_0, ecq212_0, tcq212_0, trq212_0, gq212, efq212_0, afq212_0, bfq212_0, uq212_0, uq212_1, uq212_2, uq212_3, uqq212⟩ := wq212
  dsimp only at uq212_0 uq212_1 uq212_3
  refine ⟨_, gq212, ?_⟩
  show gz gPP gGG gcn _ _ 54 [some (.ref x)] [.ref c179, .ref x] hq212 _
  have G213 : gSg [50, 51, 52, 53, 54, 55, 56, 57, 58, 59, 60, 61, 62, 63, 64, 82, 83, 84, 112, 113, 114, 200] [x] [64999, 53999] ty h tyq212 hq212 := gSg.tr (gSg.ss G181 sS211 (by decide)) xq212 (by decide) (by decide) (fun x hx => Or.inl (by rw [List.mem_singleton.mp hx]; exact gac179))
  have rw214 := gSg.raw xq212 rw182.2.1 (fun w => nex_c179 (List.mem_singleton.mp w))
  have rf215 := (rw214.2.2.1.trans rf183)
  have rf216 := (rw214.2.2.2.trans rf184)
  have dd217 := gSg.rawd (ci := 11) (ps := [3, 2, 1, 0]) xq212 rw182.2.1 (fun w => nex_c179 (List.mem_singleton.mp w)) t186 (by decide) dd185
  have t218 : tyq212 x = 200 := rw214.1.trans t186
  have t219 : tyq212 c3 = 51 := gSg.typ xq212 sS211.1 t187 rfl
  have t220 : tyq212 c33 = 53 := gSg.typ xq212 sS211.1 t188 rfl
  have t221 : tyq212 c58 = 54 := gSg.typ xq212 sS211.1 t189 rfl
  have t222 : tyq212 cq74_0 = 57 := gSg.typ xq212 sS211.1 t190 rfl
  have t223 : tyq212 cq74_1 = 82 := gSg.typ xq212 sS211.1 t191 rfl
  have t224 : tyq212 cq74_2 = 83 := gSg.typ xq212 sS211.1 t192 rfl
  have t225 : tyq212 cq74_3 = 84 := gSg.typ xq212 sS211.1 t193 rfl
  have t226 : tyq212 c105 = 55 := gSg.typ xq212 sS211.1 t194 rfl
  have s227 := gSg.at xq212 sS211.1 t187 rfl (by decide) s195
  have s228 := gSg.at xq212 sS211.1 t189 rfl (by decide) s196
  have s229 := gSg.at xq212 sS211.1 t190 rfl (by decide) s197
  have s230 := gSg.at xq212 sS211.1 t190 rfl (by decide) s198
  have s231 := gSg.at xq212 sS211.1 t190 rfl (by decide) s199
  have s232 := gSg.at xq212 sS211.1 t194 rfl (by decide) s200
  have s233 := gSg.at xq212 sS211.1 t194 rfl (by decide) s201
  have s234 := gSg.rawat xq212 rw182.2.1 (fun w => nex_c179 (List.mem_singleton.mp w)) t186 (by decide) s202
  have s235 := gSg.rawat xq212 rw182.2.1 (fun w => nex_c179 (List.mem_singleton.mp w)) t186 (by decide) s203
  have s236 := gSg.rawat xq212 rw182.2.1 (fun w => nex_c179 (List.mem_singleton.mp w)) t186 (by decide) s204
  have s237 := gSg.rawat xq212 rw182.2.1 (fun w => nex_c179 (List.mem_singleton.mp w)) t186 (by decide) s205
  have pr238 : gNo [1, 2, 3, 4, 5, 6, 7, 8, 9, 10, 11, 12, 13, 14, 15, 16, 17, 18, 19, 20, 21, 22, 23, 24, 25, 26, 27, 28, 29, 30, 31, 32, 33, 34, 35, 36, 37, 38, 39, 40, 41, 42, 50, 65, 66, 67, 68, 69, 70, 71, 72, 73, 74, 75, 76, 77, 78, 79, 80, 81, 85, 90, 91, 92, 93, 94, 95, 96, 97, 98, 99] tyq212 := gNo.gr xq212 (by decide) (gNo.sub (by decide) pr206)
  have pr239 := gPC.gr xq212 sS211.1 (by decide) pr207
  have pr240 := gTc.gr xq212 sS211.1 (by decide) (by decide) pr208
  have pr241 := gOyB.gr xq212 sS211.1 rfl (by decide) (by decide) pr209
  have sS242 : gSs rT 1027 tyq212 [64999, 53999] hq212 hq212 := gSs.rf xq212.1
  refine gs_rput rfl (by decide) rfl sS242.1 t218 nx rw214.2.1 rf215 rfl (Or.inr rfl) (fun h243 g244 nh243 mh243 kh243 zh243 eh243 fh243 => ?_)
  have G245 : gSg [50, 51, 52, 53, 54, 55, 56, 57, 58, 59, 60, 61, 62, 63, 64, 82, 83, 84, 112, 113, 114, 200] [x] [64999, 53999] ty h tyq212 h243 := gSg.tr (gSg.ss G213 sS242 (by decide)) g244 (by decide) (by decide) (fun x hx => Or.inr hx)
  have hl246 : h243.2.2.2.1 cq212_0 = hq212.2.2.2.1 cq212_0 := gSg.len g244 sS242.1 tcq212_0 rfl
  have s247 := gSg.at g244 sS242.1 t219 rfl (by decide) s227
  have s248 := gSg.at g244 sS242.1 t221 rfl (by decide) s228
  have s249 := gSg.at g244 sS242.1 t222 rfl (by decide) s229
  have s250 := gSg.at g244 sS242.1 t222 rfl (by decide) s230
  have s251 := gSg.at g244 sS242.1 t222 rfl (by decide) s231
  have s252 := gSg.at g244 sS242.1 t226 rfl (by decide) s232
  have s253 := gSg.at g244 sS242.1 t226 rfl (by decide) s233
  have s254 := gSg.at g244 sS242.1 trq212_0 rfl (by decide) ecq212_0
  have s255 := gSg.at g244 sS242.1 trq212_0 rfl (by decide) efq212_0
  have pr256 := gPC.gr g244 sS242.1 (by decide) pr239
  have pr257 := gTc.gr g244 sS242.1 (by decide) (by decide) pr240
  have pr258 := gOyB.gr g244 sS242.1 rfl (by decide) (by decide) pr241
  have sS259 : gSs rT 1027 tyq212 [64999, 53999] h243 h243 := gSs.rf g244.1
  have rf260 := Nat.lt_of_lt_of_eq rw214.2.1 nh243.symm
  have rf261 := zh243.trans rf216
  have dd262 : ∀ k, ¬ k ∈ ([4, 3, 2, 1, 0] : List Nat) → h243.2.2.2.2 x k = defaultValue (gGG.2.1 11 k) := raw_dp fh243 dd217
  have s263 := (fh243 0 (by decide)).trans s234
  have s264 := (fh243 1 (by decide)).trans s235
  have s265 := (fh243 2 (by decide)).trans s236
  have s266 := (fh243 3 (by decide)).trans s237
  refine gz_s 1 (pc' := 58) (L' := [some (.ref x)]) (S' := [.ref x]) rfl ?_
  refine gz_get rfl (by decide) rfl nx rf260 kh243 s264 ?_
  refine gz_s 1 (pc' := 63) (L' := [some (.ref x)]) (S' := [.int (zi 16), .ref c33]) rfl ?_
  refine gz_call rfl (by decide) rfl (by decide) (by decide) (gcal_of rfl rfl rfl (Nat.le_of_ble_eq_true rfl) rfl) (cl_fill_tables _ sS259.1 c33 t220 16 ⟨by omega, by omega⟩ ) (fun q267 _ wq267 => ?_)
  obtain ⟨pq267, oq267, hq267⟩ := q267
  obtain ⟨xq267, gq267⟩ := wq267
  refine ⟨_, gq267, ?_⟩
  show gz gPP gGG gcn _ _ 66 [some (.ref x)] [] hq267 _
  have sq267 : gSs rT 1027 tyq212 [64999, 53999] h243 hq267 := gSs.tr sS259 xq267 (by decide)
  have s268 := (xq267.2.2.2.2.2 c3 1 (by rw [t219]; decide)).trans s247
  have s269 := (xq267.2.2.2.2.2 c58 0 (by rw [t221]; decide)).trans s248
  have s270 := (xq267.2.2.2.2.2 cq74_0 0 (by rw [t222]; decide)).trans s249
  have s271 := (xq267.2.2.2.2.2 cq74_0 1 (by rw [t222]; decide)).trans s250
  have s272 := (xq267.2.2.2.2.2 cq74_0 2 (by rw [t222]; decide)).trans s251
  have s273 := (xq267.2.2.2.2.2 c105 8 (by rw [t226]; decide)).trans s252
  have s274 := (xq267.2.2.2.2.2 c105 3 (by rw [t226]; decide)).trans s253
  have s275 := (xq267.2.2.2.2.2 c179 0 (by rw [trq212_0]; decide)).trans s254
  have s276 := (xq267.2.2.2.2.2 c179 1 (by rw [trq212_0]; decide)).trans s255
  have s277 := (xq267.2.2.2.2.2 x 0 (by rw [t218]; decide)).trans s263
  have s278 := (xq267.2.2.2.2.2 x 1 (by rw [t218]; decide)).trans s264
  have s279 := (xq267.2.2.2.2.2 x 2 (by rw [t218]; decide)).trans s265
  have s280 := (xq267.2.2.2.2.2 x 3 (by rw [t218]; decide)).trans s266
  have s281 := (xq267.2.2.2.2.2 x 4 (by rw [t218]; decide)).trans eh243
  have dd282 : ∀ k, ¬ k ∈ ([4, 3, 2, 1, 0] : List Nat) → hq267.2.2.2.2 x k = defaultValue (gGG.2.1 11 k) := gFr.rawd xq267.2 t218 (by decide) dd262
  have pr283 := gPC.fr xq267.2 (by decide) pr256
  have pr284 := gTc.fr xq267.2 (by decide) pr257
  have pr285 := gOyB.fr xq267.2 (by decide) pr258
  obtain ⟨ty287, g286, tg286, ug286⟩ := gSg.adx 50 sq267.1 t218 nx (Nat.lt_of_lt_of_eq rf260 sq267.2.1.symm) rfl ((congrFun sq267.2.2.2.1 x).trans kh243) (by show (0 : Nat) ≤ _; have h9 := ((congrFun sq267.2.2.2.2.1 x).trans rf261); omega) (by show _ ≤ (0 : Nat); have h9 := ((congrFun sq267.2.2.2.2.1 x).trans rf261); omega) (fun ty9 w9 k hk => ad50 (by rw [s277]; exact ⟨c3, rfl, w9 c3 _ t219 (by decide)⟩) (by rw [s278]; exact ⟨c33, rfl, w9 c33 _ t220 (by decide)⟩) (by rw [s279]; exact ⟨c58, rfl, w9 c58 _ t221 (by decide)⟩) (by rw [s280]; exact ⟨c105, rfl, w9 c105 _ t226 (by decide)⟩) (by rw [s281]; exact ⟨c179, rfl, w9 c179 _ trq212_0 (by decide)⟩) (by rw [(show hq267.2.2.2.2 x 5 = .null from dd282 5 (by decide))]; exact Or.inl rfl) (by rw [(show hq267.2.2.2.2 x 6 = .null from dd282 6 (by decide))]; exact Or.inl rfl) k)
  have uq288 := ug286 uqq212 (Or.inr (gNo.sub (by decide) pr238))
  have k289 := sq267.2.1
  have k289b := sq267.2.2.1
  have hl290 : hq267.2.2.2.1 cq212_0 = h243.2.2.2.1 cq212_0 := congrFun sq267.2.2.2.2.1 cq212_0
  have G291 : gSg [50, 51, 52, 53, 54, 55, 56, 57, 58, 59, 60, 61, 62, 63, 64, 82, 83, 84, 112, 113, 114, 200] [x] [64999, 53999] ty h ty287 hq267 := gSg.tr (gSg.ss G245 sq267 (by decide)) g286 (by decide) (by decide) (fun x hx => Or.inr hx)
  have t292 : ty287 c3 = 51 := gSg.typ g286 sq267.1 t219 rfl
  have t293 : ty287 c33 = 53 := gSg.typ g286 sq267.1 t220 rfl
  have t294 : ty287 c58 = 54 := gSg.typ g286 sq267.1 t221 rfl
  have t295 : ty287 cq74_0 = 57 := gSg.typ g286 sq267.1 t222 rfl
  have t296 : ty287 cq74_1 = 82 := gSg.typ g286 sq267.1 t223 rfl
  have t297 : ty287 cq74_2 = 83 := gSg.typ g286 sq267.1 t224 rfl
  have t298 : ty287 cq74_3 = 84 := gSg.typ g286 sq267.1 t225 rfl
  have t299 : ty287 c105 = 55 := gSg.typ g286 sq267.1 t226 rfl
  have t300 : ty287 c179 = 56 := gSg.typ g286 sq267.1 trq212_0 rfl
  have t301 : ty287 cq212_0 = 114 := gSg.typ g286 sq267.1 tcq212_0 rfl
  have pr302 : gNo [1, 2, 3, 4, 5, 6, 7, 8, 9, 10, 11, 12, 13, 14, 15, 16, 17, 18, 19, 20, 21, 22, 23, 24, 25, 26, 27, 28, 29, 30, 31, 32, 33, 34, 35, 36, 37, 38, 39, 40, 41, 42, 65, 66, 67, 68, 69, 70, 71, 72, 73, 74, 75, 76, 77, 78, 79, 80, 81, 85, 90, 91, 92, 93, 94, 95, 96, 97, 98, 99] ty287 := gNo.gr g286 (by decide) (gNo.sub (by decide) pr238)
  have pr303 := gPC.gr g286 sq267.1 (by decide) pr283
  have pr304 := gTc.gr g286 sq267.1 (by decide) (by decide) pr284
  have pr305 := gOyB.gr g286 sq267.1 rfl (by decide) (by decide) pr285
  have sS306 : gSs rT 1027 ty287 [64999, 53999] hq267 hq267 := gSs.rf g286.1
  have hl307 : 1024 ≤ hq267.2.2.2.1 cq212_0 ∧ hq267.2.2.2.1 cq212_0 ≤ 1000000 := gJ.rowl (G := gGG) sS306.1 t301 rfl
  have hrx308 : gRr ty287 x hq267 := ⟨tg286, Or.inl ⟨(show hq267.2.2.2.2 x 5 = .null from dd282 5 (by decide)), (gNo.sub (by decide) pr302)⟩⟩
  have hrx309 : gRw ty287 x hq267 := ⟨tg286, Or.inl ⟨(show hq267.2.2.2.2 x 6 = .null from dd282 6 (by decide)), (gNo.sub (by decide) pr302)⟩⟩
  have G310 : gSg [50, 51, 52, 53, 54, 55, 56, 57, 58, 59, 60, 61, 62, 63, 64, 82, 83, 84, 112, 113, 114, 200] [x] [64999, 53999] ty h ty287 hq267 := gSg.ss G291 sS306 (by decide)
  exact gz_end (I := .return_) (len := 1) rfl (Or.inl rfl) ⟨ty287, G310, c105, c58, c179, cq212_0, cq74_0, cq74_1, cq74_2, cq74_3, trivial, fq132_0, fq132_1, fq212_0, s280, t299, s279, t294, s281, t300, s275, t301, s269, t295, s270, t296, s271, t297, s272, t298, tg286, rfl, s273, (by omega), (by omega), s274, (by omega), (by omega), s276, (by omega), (by omega), (by dsimp only; omega), (by dsimp only; omega), (by omega), (by omega), (by omega), (by dsimp only; omega), pr304, pr303, pr305, hrx308, hrx309, uq288, pr302⟩
