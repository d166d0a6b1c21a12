/-! ===== methods of the landed text (by program) ===== -/
set_option maxRecDepth 20000 in
set_option maxHeartbeats 4000000 in
theorem ct_DctFilter (d : Nat) {ty : Nat → Nat} {h : gH} (hJ : gJ rT 1027 ty h) (x : Nat) (tx : ty x = 200) (nx : 1027 ≤ x) (lx : x < h.1) (kx : h.2.2.1 x = some (.inr 11)) (zx : h.2.2.2.1 x = 0) (dx : ∀ k, h.2.2.2.2 x k = defaultValue (gGG.2.1 11 k)) (no0 : gNo [1, 2, 3, 4, 5, 6, 7, 8, 9, 10, 11, 12, 13, 14, 15, 16, 17, 18, 19, 20, 21, 22, 23, 24, 25, 26, 27, 28, 29, 30, 31, 32, 33, 34, 35, 36, 37, 38, 39, 40, 41, 42, 50, 51, 52, 53, 54, 55, 56, 57, 58, 59, 60, 61, 62, 63, 64, 65, 66, 67, 68, 69, 70, 71, 72, 73, 74, 75, 76, 77, 78, 79, 80, 81, 82, 83, 84, 85, 90, 91, 92, 93, 94, 95, 96, 97, 98, 99] ty) (uq : gUq ty) : gz gPP gGG gcn (d + 3) gt0 0 (gent [.ref x] 1) [] h (fun q _ => ∃ ty9 : Nat → Nat, gSg [50, 51, 52, 53, 54, 55, 56, 57, 58, 59, 60, 61, 62, 63, 64, 82, 83, 84, 112, 113, 114, 200] [x] [64999, 53999] ty h ty9 q.2.2 ∧ ∃ dr pic sk cl2 bt2 bn b0 b1 b2 : Nat, True ∧ ∃ n1 iv1 w1 h1 c1 s1 : Int, q.2.2.2.2.2.2 x 3 = .ref dr ∧ ty9 dr = 55 ∧ q.2.2.2.2.2.2 x 2 = .ref pic ∧ ty9 pic = 54 ∧ q.2.2.2.2.2.2 x 4 = .ref sk ∧ ty9 sk = 56 ∧ q.2.2.2.2.2.2 x 0 = .ref cl2 ∧ ty9 cl2 = 51 ∧ q.2.2.2.2.2.2 sk 0 = .ref bt2 ∧ ty9 bt2 = 114 ∧ q.2.2.2.2.2.2 pic 0 = .ref bn ∧ ty9 bn = 57 ∧ q.2.2.2.2.2.2 bn 0 = .ref b0 ∧ ty9 b0 = 82 ∧ q.2.2.2.2.2.2 bn 1 = .ref b1 ∧ ty9 b1 = 83 ∧ q.2.2.2.2.2.2 bn 2 = .ref b2 ∧ ty9 b2 = 84 ∧ ty9 x = 50 ∧ gfin gt0 q.1 q.2.1 = some none ∧ q.2.2.2.2.2.2 dr 8 = .int (zi n1) ∧ 0 ≤ n1 ∧ n1 ≤ 10 ∧ q.2.2.2.2.2.2 dr 3 = .int (zi iv1) ∧ 0 ≤ iv1 ∧ iv1 ≤ 100 ∧ q.2.2.2.2.2.2 dr 1 = .int (zi w1) ∧ 0 ≤ w1 ∧ w1 ≤ 32 ∧ q.2.2.2.2.2.2 dr 2 = .int (zi h1) ∧ 0 ≤ h1 ∧ h1 ≤ 32 ∧ q.2.2.2.2.2.2 sk 1 = .int (zi c1) ∧ 0 ≤ c1 ∧ c1 ≤ 500000 ∧ q.2.2.2.2.2.2 cl2 1 = .int (zi s1) ∧ 0 ≤ s1 ∧ s1 ≤ 2000 ∧ ((q.2.2.1 : Int) = h.1 + 20) ∧ ((q.2.2.2.1 : Int) = h.2.1 + 4733) ∧ (n1 = 0) ∧ (iv1 = 0) ∧ (w1 = 0) ∧ (h1 = 0) ∧ (c1 = 0) ∧ (s1 = 0) ∧ ((q.2.2.2.2.2.1 bt2 : Int) = 1024) ∧ (gTc ty9 0 q.2.2) ∧ (gPC ty9 pic b0 b1 b2 0 q.2.2) ∧ (gXr ty9 (((fun _ => 16, fun _ => 0, fun _ => 0, fun _ => 0, fun _ => 0, fun _ => 0, fun _ => -1), (0, 0, 0, fun _ => 0)) : gSS) q.2.2) ∧ (gRr ty9 x q.2.2) ∧ (gRw ty9 x q.2.2) ∧ gUq ty9 ∧ gNo [1, 2, 3, 4, 5, 6, 7, 8, 9, 10, 11, 12, 13, 14, 15, 16, 17, 18, 19, 20, 21, 22, 23, 24, 25, 26, 27, 28, 29, 30, 31, 32, 33, 34, 35, 36, 37, 38, 39, 40, 41, 42, 65, 66, 67, 68, 69, 70, 71, 72, 73, 74, 75, 76, 77, 78, 79, 80, 81, 85, 90, 91, 92, 93, 94, 95, 96, 97, 98, 99] ty9) := by
  have hS : gSs rT 1027 ty [64999, 53999] h h := gSs.rf hJ
  have G0 : gSg [50, 51, 52, 53, 54, 55, 56, 57, 58, 59, 60, 61, 62, 63, 64, 82, 83, 84, 112, 113, 114, 200] [x] [64999, 53999] ty h ty h := gSg.rf hJ (fun x hx => by rw [List.mem_singleton.mp hx, tx]; rfl)
  refine gz_s 1 (pc' := 1) (L' := [some (.ref x)]) (S' := [.ref x]) rfl ?_
  refine gz_obj rfl (by decide) (by omega) rfl (by decide) ?_
  refine gz_s 1 (pc' := 5) (L' := [some (.ref x)]) (S' := [.ref x]) rfl ?_
  refine gs_newo rfl (by decide) rfl hS.1 (Nat.le_of_lt (Nat.lt_of_le_of_lt nx lx)) (fun ty1 h2 c3 g4 tc3 kc3 zc3 nc3 mc3 ec3 dc3 => ?_)
  have mfc3 : h2.2.1 = h.2.1 + 2 := mc3
  have gac3 : h.1 ≤ c3 := by have h8 := G0.2.1; have h9 := hS.2.1; omega
  have nnc3 : 1027 ≤ c3 := by have h8 := (Nat.le_of_lt (Nat.lt_of_le_of_lt nx lx)); omega
  have llc3 := Nat.lt_of_lt_of_eq (Nat.lt_succ_of_le (Nat.le_of_eq ec3)) nc3.symm
  have nex_c3 : x ≠ c3 := by have h8 := lx; omega
  have G5 : gSg [50, 51, 52, 53, 54, 55, 56, 57, 58, 59, 60, 61, 62, 63, 64, 82, 83, 84, 112, 113, 114, 200] [x] [64999, 53999] ty h ty1 h2 := gSg.tr (gSg.ss G0 hS (by decide)) g4 (by decide) (by decide) (fun x hx => by cases hx)
  have rw6 := gSg.raw g4 lx (fun w => by cases w)
  have rf7 := (rw6.2.2.1.trans kx)
  have rf8 := (rw6.2.2.2.trans zx)
  have dd9 := gSg.rawd (ci := 11) (ps := []) g4 lx (fun w => by cases w) tx (by decide) (fun k _ => dx k)
  have t10 : ty1 x = 200 := rw6.1.trans tx
  have pr11 : gNo [1, 2, 3, 4, 5, 6, 7, 8, 9, 10, 11, 12, 13, 14, 15, 16, 17, 18, 19, 20, 21, 22, 23, 24, 25, 26, 27, 28, 29, 30, 31, 32, 33, 34, 35, 36, 37, 38, 39, 40, 41, 42, 50, 51, 52, 53, 54, 55, 56, 57, 58, 59, 60, 61, 62, 63, 64, 65, 66, 67, 68, 69, 70, 71, 72, 73, 74, 75, 76, 77, 78, 79, 80, 81, 82, 83, 84, 85, 90, 91, 92, 93, 94, 95, 96, 97, 98, 99] ty1 := gNo.gr g4 (by decide) (gNo.sub (by decide) no0)
  have uq12 := gSg.uq g4 uq (by decide)
  have sS13 : gSs rT 1027 ty1 [64999, 53999] h2 h2 := gSs.rf g4.1
  refine gz_s 1 (pc' := 9) (L' := [some (.ref x)]) (S' := [.ref c3, .ref c3, .ref x]) rfl ?_
  refine gz_call rfl (by decide) rfl (by decide) (by decide) (gcal_of rfl rfl rfl (Nat.le_of_ble_eq_true rfl) rfl) (ct_Collected _ sS13.1 c3 tc3 nnc3 llc3 kc3 zc3 dc3 (gNo.sub (by decide) pr11) uq12) (fun q14 _ wq14 => ?_)
  obtain ⟨pq14, oq14, hq14⟩ := q14
  obtain ⟨tyq14, xq14, fq14_0, trq14_0, gq14, efq14_0, afq14_0, bfq14_0, uq14_0, uq14_1, uq14_2, uqq14⟩ := wq14
  dsimp only at uq14_0 uq14_1
  refine ⟨_, gq14, ?_⟩
  show gz gPP gGG gcn _ _ 12 [some (.ref x)] [.ref c3, .ref x] hq14 _
  have G15 : gSg [50, 51, 52, 53, 54, 55, 56, 57, 58, 59, 60, 61, 62, 63, 64, 82, 83, 84, 112, 113, 114, 200] [x] [64999, 53999] ty h tyq14 hq14 := gSg.tr (gSg.ss G5 sS13 (by decide)) xq14 (by decide) (by decide) (fun x hx => Or.inl (by rw [List.mem_singleton.mp hx]; exact gac3))
  have rw16 := gSg.raw xq14 rw6.2.1 (fun w => nex_c3 (List.mem_singleton.mp w))
  have rf17 := (rw16.2.2.1.trans rf7)
  have rf18 := (rw16.2.2.2.trans rf8)
  have dd19 := gSg.rawd (ci := 11) (ps := []) xq14 rw6.2.1 (fun w => nex_c3 (List.mem_singleton.mp w)) t10 (by decide) dd9
  have t20 : tyq14 x = 200 := rw16.1.trans t10
  have pr21 : gNo [1, 2, 3, 4, 5, 6, 7, 8, 9, 10, 11, 12, 13, 14, 15, 16, 17, 18, 19, 20, 21, 22, 23, 24, 25, 26, 27, 28, 29, 30, 31, 32, 33, 34, 35, 36, 37, 38, 39, 40, 41, 42, 50, 53, 54, 55, 56, 57, 58, 59, 60, 61, 62, 63, 64, 65, 66, 67, 68, 69, 70, 71, 72, 73, 74, 75, 76, 77, 78, 79, 80, 81, 82, 83, 84, 85, 90, 91, 92, 93, 94, 95, 96, 97, 98, 99] tyq14 := gNo.gr xq14 (by decide) (gNo.sub (by decide) pr11)
  have sS22 : gSs rT 1027 tyq14 [64999, 53999] hq14 hq14 := gSs.rf xq14.1
  refine gs_rput rfl (by decide) rfl sS22.1 t20 nx rw16.2.1 rf17 rfl (Or.inr rfl) (fun h23 g24 nh23 mh23 kh23 zh23 eh23 fh23 => ?_)
  have G25 : gSg [50, 51, 52, 53, 54, 55, 56, 57, 58, 59, 60, 61, 62, 63, 64, 82, 83, 84, 112, 113, 114, 200] [x] [64999, 53999] ty h tyq14 h23 := gSg.tr (gSg.ss G15 sS22 (by decide)) g24 (by decide) (by decide) (fun x hx => Or.inr hx)
  have s26 := gSg.at g24 sS22.1 trq14_0 rfl (by decide) efq14_0
  have sS27 : gSs rT 1027 tyq14 [64999, 53999] h23 h23 := gSs.rf g24.1
  have rf28 := Nat.lt_of_lt_of_eq rw16.2.1 nh23.symm
  have rf29 := zh23.trans rf18
  have dd30 : ∀ k, ¬ k ∈ ([0] : List Nat) → h23.2.2.2.2 x k = defaultValue (gGG.2.1 11 k) := raw_dp fh23 dd19
  refine gz_s 2 (pc' := 19) (L' := [some (.ref x)]) (S' := [.int (zi 256), .ref x]) rfl ?_
  refine gs_newr 53 rfl (by decide) rfl sS27.1 (Nat.le_of_lt (Nat.lt_of_le_of_lt (gJ.cell sS27.1 trq14_0 rfl).1 (gJ.cell sS27.1 trq14_0 rfl).2.1)) (by omega) (by omega) rfl rfl (by show (256 : Int) ≤ _; omega) (by show _ ≤ (256 : Int); omega) (fun _ _ => gos_i (by decide) (by decide)) (fun ty31 h32 c33 g34 tc33 lc33 nc33 mc33 ec33 dc33 uc33 => ?_)
  have gac33 : h.1 ≤ c33 := by have h8 := G25.2.1; have h9 := sS27.2.1; omega
  have uq35 := uc33 uqq14 (Or.inr (gNo.sub (by decide) pr21))
  have G36 : gSg [50, 51, 52, 53, 54, 55, 56, 57, 58, 59, 60, 61, 62, 63, 64, 82, 83, 84, 112, 113, 114, 200] [x] [64999, 53999] ty h ty31 h32 := gSg.tr (gSg.ss G25 sS27 (by decide)) g34 (by decide) (by decide) (fun x hx => by cases hx)
  have rw37 := gSg.raw g34 rf28 (fun w => by cases w)
  have rf38 := (rw37.2.2.1.trans kh23)
  have rf39 := (rw37.2.2.2.trans rf29)
  have dd40 := gSg.rawd (ci := 11) (ps := [0]) g34 rf28 (fun w => by cases w) t20 (by decide) dd30
  have t41 : ty31 x = 200 := rw37.1.trans t20
  have t42 : ty31 c3 = 51 := gSg.typ g34 sS27.1 trq14_0 rfl
  have s43 := gSg.at g34 sS27.1 trq14_0 rfl (by decide) s26
  have s44 := gSg.rawat g34 rf28 (fun w => by cases w) t20 (by decide) eh23
  have pr45 : gNo [1, 2, 3, 4, 5, 6, 7, 8, 9, 10, 11, 12, 13, 14, 15, 16, 17, 18, 19, 20, 21, 22, 23, 24, 25, 26, 27, 28, 29, 30, 31, 32, 33, 34, 35, 36, 37, 38, 39, 40, 41, 42, 50, 54, 55, 56, 57, 58, 59, 60, 61, 62, 63, 64, 65, 66, 67, 68, 69, 70, 71, 72, 73, 74, 75, 76, 77, 78, 79, 80, 81, 82, 83, 84, 85, 90, 91, 92, 93, 94, 95, 96, 97, 98, 99] ty31 := gNo.gr g34 (by decide) (gNo.sub (by decide) pr21)
  have sS46 : gSs rT 1027 ty31 [64999, 53999] h32 h32 := gSs.rf g34.1
  refine gs_rput rfl (by decide) rfl sS46.1 t41 nx rw37.2.1 rf38 rfl (Or.inr rfl) (fun h47 g48 nh47 mh47 kh47 zh47 eh47 fh47 => ?_)
  have G49 : gSg [50, 51, 52, 53, 54, 55, 56, 57, 58, 59, 60, 61, 62, 63, 64, 82, 83, 84, 112, 113, 114, 200] [x] [64999, 53999] ty h ty31 h47 := gSg.tr (gSg.ss G36 sS46 (by decide)) g48 (by decide) (by decide) (fun x hx => Or.inr hx)
  have s50 := gSg.at g48 sS46.1 t42 rfl (by decide) s43
  have sS51 : gSs rT 1027 ty31 [64999, 53999] h47 h47 := gSs.rf g48.1
  have rf52 := Nat.lt_of_lt_of_eq rw37.2.1 nh47.symm
  have rf53 := zh47.trans rf39
  have dd54 : ∀ k, ¬ k ∈ ([1, 0] : List Nat) → h47.2.2.2.2 x k = defaultValue (gGG.2.1 11 k) := raw_dp fh47 dd40
  have s55 := (fh47 0 (by decide)).trans s44
  refine gz_s 1 (pc' := 25) (L' := [some (.ref x)]) (S' := [.ref x]) rfl ?_
  refine gs_newo rfl (by decide) rfl sS51.1 (Nat.le_of_lt (Nat.lt_of_le_of_lt (gJ.cell sS51.1 t42 rfl).1 (gJ.cell sS51.1 t42 rfl).2.1)) (fun ty56 h57 c58 g59 tc58 kc58 zc58 nc58 mc58 ec58 dc58 => ?_)
  have mfc58 : h57.2.1 = h47.2.1 + 14 := mc58
  have gac58 : h.1 ≤ c58 := by have h8 := G49.2.1; have h9 := sS51.2.1; omega
  have nnc58 : 1027 ≤ c58 := by have h8 := (Nat.le_of_lt (Nat.lt_of_le_of_lt (gJ.cell sS51.1 t42 rfl).1 (gJ.cell sS51.1 t42 rfl).2.1)); omega
  have llc58 := Nat.lt_of_lt_of_eq (Nat.lt_succ_of_le (Nat.le_of_eq ec58)) nc58.symm
  have nex_c58 : x ≠ c58 := by have h8 := rf52; omega
  have G60 : gSg [50, 51, 52, 53, 54, 55, 56, 57, 58, 59, 60, 61, 62, 63, 64, 82, 83, 84, 112, 113, 114, 200] [x] [64999, 53999] ty h ty56 h57 := gSg.tr (gSg.ss G49 sS51 (by decide)) g59 (by decide) (by decide) (fun x hx => by cases hx)
  have rw61 := gSg.raw g59 rf52 (fun w => by cases w)
  have rf62 := (rw61.2.2.1.trans kh47)
  have rf63 := (rw61.2.2.2.trans rf53)
  have dd64 := gSg.rawd (ci := 11) (ps := [1, 0]) g59 rf52 (fun w => by cases w) t41 (by decide) dd54
  have t65 : ty56 x = 200 := rw61.1.trans t41
  have t66 : ty56 c3 = 51 := gSg.typ g59 sS51.1 t42 rfl
  have t67 : ty56 c33 = 53 := gSg.typ g59 sS51.1 tc33 rfl
  have s68 := gSg.at g59 sS51.1 t42 rfl (by decide) s50
  have s69 := gSg.rawat g59 rf52 (fun w => by cases w) t41 (by decide) s55
  have s70 := gSg.rawat g59 rf52 (fun w => by cases w) t41 (by decide) eh47
  have pr71 : gNo [1, 2, 3, 4, 5, 6, 7, 8, 9, 10, 11, 12, 13, 14, 15, 16, 17, 18, 19, 20, 21, 22, 23, 24, 25, 26, 27, 28, 29, 30, 31, 32, 33, 34, 35, 36, 37, 38, 39, 40, 41, 42, 50, 54, 55, 56, 57, 58, 59, 60, 61, 62, 63, 64, 65, 66, 67, 68, 69, 70, 71, 72, 73, 74, 75, 76, 77, 78, 79, 80, 81, 82, 83, 84, 85, 90, 91, 92, 93, 94, 95, 96, 97, 98, 99] ty56 := gNo.gr g59 (by decide) (gNo.sub (by decide) pr45)
  have uq72 := gSg.uq g59 uq35 (by decide)
  have sS73 : gSs rT 1027 ty56 [64999, 53999] h57 h57 := gSs.rf g59.1
  refine gz_s 1 (pc' := 29) (L' := [some (.ref x)]) (S' := [.ref c58, .ref c58, .ref x]) rfl ?_
  refine gz_call rfl (by decide) rfl (by decide) (by decide) (gcal_of rfl rfl rfl (Nat.le_of_ble_eq_true rfl) rfl) (ct_Picture _ sS73.1 c58 tc58 nnc58 llc58 kc58 zc58 dc58 (gNo.sub (by decide) pr71) uq72) (fun q74 _ wq74 => ?_)
  obtain ⟨pq74, oq74, hq74⟩ := q74
  obtain ⟨tyq74, xq74, cq74_0, cq74_1, cq74_2, cq74_3, ttq74, ecq74_0, tcq74_0, ecq74_1, tcq74_1, ecq74_2, tcq74_2, ecq74_3, tcq74_3, trq74_0, gq74, uq74_0, uq74_1, yq74_0, uqq74⟩ := wq74
  dsimp only at uq74_0 uq74_1
  refine ⟨_, gq74, ?_⟩
  show gz gPP gGG gcn _ _ 32 [some (.ref x)] [.ref c58, .ref x] hq74 _
  have G75 : gSg [50, 51, 52, 53, 54, 55, 56, 57, 58, 59, 60, 61, 62, 63, 64, 82, 83, 84, 112, 113, 114, 200] [x] [64999, 53999] ty h tyq74 hq74 := gSg.tr (gSg.ss G60 sS73 (by decide)) xq74 (by decide) (by decide) (fun x hx => Or.inl (by rw [List.mem_singleton.mp hx]; exact gac58))
  have rw76 := gSg.raw xq74 rw61.2.1 (fun w => nex_c58 (List.mem_singleton.mp w))
  have rf77 := (rw76.2.2.1.trans rf62)
  have rf78 := (rw76.2.2.2.trans rf63)
  have dd79 := gSg.rawd (ci := 11) (ps := [1, 0]) xq74 rw61.2.1 (fun w => nex_c58 (List.mem_singleton.mp w)) t65 (by decide) dd64
  have t80 : tyq74 x = 200 := rw76.1.trans t65
  have t81 : tyq74 c3 = 51 := gSg.typ xq74 sS73.1 t66 rfl
  have t82 : tyq74 c33 = 53 := gSg.typ xq74 sS73.1 t67 rfl
  have s83 := gSg.at xq74 sS73.1 t66 rfl (by decide) s68
  have s84 := gSg.rawat xq74 rw61.2.1 (fun w => nex_c58 (List.mem_singleton.mp w)) t65 (by decide) s69
  have s85 := gSg.rawat xq74 rw61.2.1 (fun w => nex_c58 (List.mem_singleton.mp w)) t65 (by decide) s70
  have pr86 : gNo [1, 2, 3, 4, 5, 6, 7, 8, 9, 10, 11, 12, 13, 14, 15, 16, 17, 18, 19, 20, 21, 22, 23, 24, 25, 26, 27, 28, 29, 30, 31, 32, 33, 34, 35, 36, 37, 38, 39, 40, 41, 42, 50, 55, 56, 59, 60, 61, 62, 63, 64, 65, 66, 67, 68, 69, 70, 71, 72, 73, 74, 75, 76, 77, 78, 79, 80, 81, 85, 90, 91, 92, 93, 94, 95, 96, 97, 98, 99] tyq74 := gNo.gr xq74 (by decide) (gNo.sub (by decide) pr71)
  have sS87 : gSs rT 1027 tyq74 [64999, 53999] hq74 hq74 := gSs.rf xq74.1
  refine gs_rput rfl (by decide) rfl sS87.1 t80 nx rw76.2.1 rf77 rfl (Or.inr rfl) (fun h88 g89 nh88 mh88 kh88 zh88 eh88 fh88 => ?_)
  have G90 : gSg [50, 51, 52, 53, 54, 55, 56, 57, 58, 59, 60, 61, 62, 63, 64, 82, 83, 84, 112, 113, 114, 200] [x] [64999, 53999] ty h tyq74 h88 := gSg.tr (gSg.ss G75 sS87 (by decide)) g89 (by decide) (by decide) (fun x hx => Or.inr hx)
  have s91 := gSg.at g89 sS87.1 t81 rfl (by decide) s83
  have s92 := gSg.at g89 sS87.1 trq74_0 rfl (by decide) ecq74_0
  have s93 := gSg.at g89 sS87.1 tcq74_0 rfl (by decide) ecq74_1
  have s94 := gSg.at g89 sS87.1 tcq74_0 rfl (by decide) ecq74_2
  have s95 := gSg.at g89 sS87.1 tcq74_0 rfl (by decide) ecq74_3
  have pr96 := gPC.gr g89 sS87.1 (by decide) yq74_0
  have sS97 : gSs rT 1027 tyq74 [64999, 53999] h88 h88 := gSs.rf g89.1
  have rf98 := Nat.lt_of_lt_of_eq rw76.2.1 nh88.symm
  have rf99 := zh88.trans rf78
  have dd100 : ∀ k, ¬ k ∈ ([2, 1, 0] : List Nat) → h88.2.2.2.2 x k = defaultValue (gGG.2.1 11 k) := raw_dp fh88 dd79
  have s101 := (fh88 0 (by decide)).trans s84
  have s102 := (fh88 1 (by decide)).trans s85
  refine gz_s 1 (pc' := 36) (L' := [some (.ref x)]) (S' := [.ref x]) rfl ?_
  refine gs_newo rfl (by decide) rfl sS97.1 (Nat.le_of_lt (Nat.lt_of_le_of_lt (gJ.cell sS97.1 t81 rfl).1 (gJ.cell sS97.1 t81 rfl).2.1)) (fun ty103 h104 c105 g106 tc105 kc105 zc105 nc105 mc105 ec105 dc105 => ?_)
  have mfc105 : h104.2.1 = h88.2.1 + 10 := mc105
  have gac105 : h.1 ≤ c105 := by have h8 := G90.2.1; have h9 := sS97.2.1; omega
  have nnc105 : 1027 ≤ c105 := by have h8 := (Nat.le_of_lt (Nat.lt_of_le_of_lt (gJ.cell sS97.1 t81 rfl).1 (gJ.cell sS97.1 t81 rfl).2.1)); omega
  have llc105 := Nat.lt_of_lt_of_eq (Nat.lt_succ_of_le (Nat.le_of_eq ec105)) nc105.symm
  have nex_c105 : x ≠ c105 := by have h8 := rf98; omega
  have G107 : gSg [50, 51, 52, 53, 54, 55, 56, 57, 58, 59, 60, 61, 62, 63, 64, 82, 83, 84, 112, 113, 114, 200] [x] [64999, 53999] ty h ty103 h104 := gSg.tr (gSg.ss G90 sS97 (by decide)) g106 (by decide) (by decide) (fun x hx => by cases hx)
  have rw108 := gSg.raw g106 rf98 (fun w => by cases w)
  have rf109 := (rw108.2.2.1.trans kh88)
  have rf110 := (rw108.2.2.2.trans rf99)
  have dd111 := gSg.rawd (ci := 11) (ps := [2, 1, 0]) g106 rf98 (fun w => by cases w) t80 (by decide) dd100
  have t112 : ty103 x = 200 := rw108.1.trans t80
  have t113 : ty103 c3 = 51 := gSg.typ g106 sS97.1 t81 rfl
  have t114 : ty103 c33 = 53 := gSg.typ g106 sS97.1 t82 rfl
  have t115 : ty103 c58 = 54 := gSg.typ g106 sS97.1 trq74_0 rfl
  have t116 : ty103 cq74_0 = 57 := gSg.typ g106 sS97.1 tcq74_0 rfl
  have t117 : ty103 cq74_1 = 82 := gSg.typ g106 sS97.1 tcq74_1 rfl
  have t118 : ty103 cq74_2 = 83 := gSg.typ g106 sS97.1 tcq74_2 rfl
  have t119 : ty103 cq74_3 = 84 := gSg.typ g106 sS97.1 tcq74_3 rfl
  have s120 := gSg.at g106 sS97.1 t81 rfl (by decide) s91
  have s121 := gSg.at g106 sS97.1 trq74_0 rfl (by decide) s92
  have s122 := gSg.at g106 sS97.1 tcq74_0 rfl (by decide) s93
  have s123 := gSg.at g106 sS97.1 tcq74_0 rfl (by decide) s94
  have s124 := gSg.at g106 sS97.1 tcq74_0 rfl (by decide) s95
  have s125 := gSg.rawat g106 rf98 (fun w => by cases w) t80 (by decide) s101
  have s126 := gSg.rawat g106 rf98 (fun w => by cases w) t80 (by decide) s102
  have s127 := gSg.rawat g106 rf98 (fun w => by cases w) t80 (by decide) eh88
  have pr128 : gNo [1, 2, 3, 4, 5, 6, 7, 8, 9, 10, 11, 12, 13, 14, 15, 16, 17, 18, 19, 20, 21, 22, 23, 24, 25, 26, 27, 28, 29, 30, 31, 32, 33, 34, 35, 36, 37, 38, 39, 40, 41, 42, 50, 55, 56, 59, 60, 61, 62, 63, 64, 65, 66, 67, 68, 69, 70, 71, 72, 73, 74, 75, 76, 77, 78, 79, 80, 81, 85, 90, 91, 92, 93, 94, 95, 96, 97, 98, 99] ty103 := gNo.gr g106 (by decide) (gNo.sub (by decide) pr86)
  have pr129 := gPC.gr g106 sS97.1 (by decide) pr96
  have uq130 := gSg.uq g106 uqq74 (by decide)
  have sS131 : gSs rT 1027 ty103 [64999, 53999] h104 h104 := gSs.rf g106.1
  refine gz_s 1 (pc' := 40) (L' := [some (.ref x)]) (S' := [.ref c105, .ref c105, .ref x]) rfl ?_
  refine gz_call rfl (by decide) rfl (by decide) (by decide) (gcal_of rfl rfl rfl (Nat.le_of_ble_eq_true rfl) rfl) (ct_Draft _ sS131.1 c105 tc105 nnc105 llc105 kc105 zc105 dc105 (gNo.sub (by decide) pr128) uq130) (fun q132 _ wq132 => ?_)
  obtain ⟨pq132, oq132, hq132⟩ := q132
  obtain ⟨tyq132, xq132, fq132_0, fq132_1, fq132_2, fq132_3, trq132_0, gq132, efq132_0, afq132_0, bfq132_0, efq132_1, afq132_1, bfq132_1, efq132_2, afq132_2, bfq132_2, efq132_3, afq132_3, bfq132_3, uq132_0, uq132_1, uq132_2, uq132_3, uq132_4, uq132_5, yq132_0, yq132_1, yq132_2, yq132_3, yq132_4, yq132_5, yq132_6, uqq132⟩ := wq132
  dsimp only at uq132_0 uq132_1
  refine ⟨_, gq132, ?_⟩
  show gz gPP gGG gcn _ _ 43 [some (.ref x)] [.ref c105, .ref x] hq132 _
  have G133 : gSg [50, 51, 52, 53, 54, 55, 56, 57, 58, 59, 60, 61, 62, 63, 64, 82, 83, 84, 112, 113, 114, 200] [x] [64999, 53999] ty h tyq132 hq132 := gSg.tr (gSg.ss G107 sS131 (by decide)) xq132 (by decide) (by decide) (fun x hx => Or.inl (by rw [List.mem_singleton.mp hx]; exact gac105))
  have rw134 := gSg.raw xq132 rw108.2.1 (fun w => nex_c105 (List.mem_singleton.mp w))
  have rf135 := (rw134.2.2.1.trans rf109)
  have rf136 := (rw134.2.2.2.trans rf110)
  have dd137 := gSg.rawd (ci := 11) (ps := [2, 1, 0]) xq132 rw108.2.1 (fun w => nex_c105 (List.mem_singleton.mp w)) t112 (by decide) dd111
  have t138 : tyq132 x = 200 := rw134.1.trans t112
  have t139 : tyq132 c3 = 51 := gSg.typ xq132 sS131.1 t113 rfl
  have t140 : tyq132 c33 = 53 := gSg.typ xq132 sS131.1 t114 rfl
  have t141 : tyq132 c58 = 54 := gSg.typ xq132 sS131.1 t115 rfl
  have t142 : tyq132 cq74_0 = 57 := gSg.typ xq132 sS131.1 t116 rfl
  have t143 : tyq132 cq74_1 = 82 := gSg.typ xq132 sS131.1 t117 rfl
  have t144 : tyq132 cq74_2 = 83 := gSg.typ xq132 sS131.1 t118 rfl
  have t145 : tyq132 cq74_3 = 84 := gSg.typ xq132 sS131.1 t119 rfl
  have s146 := gSg.at xq132 sS131.1 t113 rfl (by decide) s120
  have s147 := gSg.at xq132 sS131.1 t115 rfl (by decide) s121
  have s148 := gSg.at xq132 sS131.1 t116 rfl (by decide) s122
  have s149 := gSg.at xq132 sS131.1 t116 rfl (by decide) s123
  have s150 := gSg.at xq132 sS131.1 t116 rfl (by decide) s124
  have s151 := gSg.rawat xq132 rw108.2.1 (fun w => nex_c105 (List.mem_singleton.mp w)) t112 (by decide) s125
  have s152 := gSg.rawat xq132 rw108.2.1 (fun w => nex_c105 (List.mem_singleton.mp w)) t112 (by decide) s126
  have s153 := gSg.rawat xq132 rw108.2.1 (fun w => nex_c105 (List.mem_singleton.mp w)) t112 (by decide) s127
  have pr154 : gNo [1, 2, 3, 4, 5, 6, 7, 8, 9, 10, 11, 12, 13, 14, 15, 16, 17, 18, 19, 20, 21, 22, 23, 24, 25, 26, 27, 28, 29, 30, 31, 32, 33, 34, 35, 36, 37, 38, 39, 40, 41, 42, 50, 56, 65, 66, 67, 68, 69, 70, 71, 72, 73, 74, 75, 76, 77, 78, 79, 80, 81, 85, 90, 91, 92, 93, 94, 95, 96, 97, 98, 99] tyq132 := gNo.gr xq132 (by decide) (gNo.sub (by decide) pr128)
  have pr155 := gPC.gr xq132 sS131.1 (by decide) pr129
  have sS156 : gSs rT 1027 tyq132 [64999, 53999] hq132 hq132 := gSs.rf xq132.1
  refine gs_rput rfl (by decide) rfl sS156.1 t138 nx rw134.2.1 rf135 rfl (Or.inr rfl) (fun h157 g158 nh157 mh157 kh157 zh157 eh157 fh157 => ?_)
  have G159 : gSg [50, 51, 52, 53, 54, 55, 56, 57, 58, 59, 60, 61, 62, 63, 64, 82, 83, 84, 112, 113, 114, 200] [x] [64999, 53999] ty h tyq132 h157 := gSg.tr (gSg.ss G133 sS156 (by decide)) g158 (by decide) (by decide) (fun x hx => Or.inr hx)
  have s160 := gSg.at g158 sS156.1 t139 rfl (by decide) s146
  have s161 := gSg.at g158 sS156.1 t141 rfl (by decide) s147
  have s162 := gSg.at g158 sS156.1 t142 rfl (by decide) s148
  have s163 := gSg.at g158 sS156.1 t142 rfl (by decide) s149
  have s164 := gSg.at g158 sS156.1 t142 rfl (by decide) s150
  have s165 := gSg.at g158 sS156.1 trq132_0 rfl (by decide) efq132_0
  have s166 := gSg.at g158 sS156.1 trq132_0 rfl (by decide) efq132_1
  have s167 := gSg.at g158 sS156.1 trq132_0 rfl (by decide) efq132_2
  have s168 := gSg.at g158 sS156.1 trq132_0 rfl (by decide) efq132_3
  have pr169 := gPC.gr g158 sS156.1 (by decide) pr155
  have pr170 := gTc.gr g158 sS156.1 (by decide) (by decide) yq132_0
  have pr171 := gOy.gr g158 sS156.1 rfl (by decide) (by decide) yq132_1
  have pr172 := gRn.gr g158 sS156.1 rfl (by decide) (by decide) yq132_2
  have pr173 := gRn.gr g158 sS156.1 rfl (by decide) (by decide) yq132_3
  have pr174 := gRn.gr g158 sS156.1 rfl (by decide) (by decide) yq132_4
  have pr175 := gRn.gr g158 sS156.1 rfl (by decide) (by decide) yq132_5
  have pr176 := gRn.gr g158 sS156.1 rfl (by decide) (by decide) yq132_6
  have sS177 : gSs rT 1027 tyq132 [64999, 53999] h157 h157 := gSs.rf g158.1
  have rf178 := Nat.lt_of_lt_of_eq rw134.2.1 nh157.symm
  have rf179 := zh157.trans rf136
  have dd180 : ∀ k, ¬ k ∈ ([3, 2, 1, 0] : List Nat) → h157.2.2.2.2 x k = defaultValue (gGG.2.1 11 k) := raw_dp fh157 dd137
  have s181 := (fh157 0 (by decide)).trans s151
  have s182 := (fh157 1 (by decide)).trans s152
  have s183 := (fh157 2 (by decide)).trans s153
  refine gz_s 1 (pc' := 47) (L' := [some (.ref x)]) (S' := [.ref x]) rfl ?_
  refine gs_newo rfl (by decide) rfl sS177.1 (Nat.le_of_lt (Nat.lt_of_le_of_lt (gJ.cell sS177.1 t139 rfl).1 (gJ.cell sS177.1 t139 rfl).2.1)) (fun ty184 h185 c186 g187 tc186 kc186 zc186 nc186 mc186 ec186 dc186 => ?_)
  have mfc186 : h185.2.1 = h157.2.1 + 4 := mc186
  have gac186 : h.1 ≤ c186 := by have h8 := G159.2.1; have h9 := sS177.2.1; omega
  have nnc186 : 1027 ≤ c186 := by have h8 := (Nat.le_of_lt (Nat.lt_of_le_of_lt (gJ.cell sS177.1 t139 rfl).1 (gJ.cell sS177.1 t139 rfl).2.1)); omega
  have llc186 := Nat.lt_of_lt_of_eq (Nat.lt_succ_of_le (Nat.le_of_eq ec186)) nc186.symm
  have nex_c186 : x ≠ c186 := by have h8 := rf178; omega
  have G188 : gSg [50, 51, 52, 53, 54, 55, 56, 57, 58, 59, 60, 61, 62, 63, 64, 82, 83, 84, 112, 113, 114, 200] [x] [64999, 53999] ty h ty184 h185 := gSg.tr (gSg.ss G159 sS177 (by decide)) g187 (by decide) (by decide) (fun x hx => by cases hx)
  have rw189 := gSg.raw g187 rf178 (fun w => by cases w)
  have rf190 := (rw189.2.2.1.trans kh157)
  have rf191 := (rw189.2.2.2.trans rf179)
  have dd192 := gSg.rawd (ci := 11) (ps := [3, 2, 1, 0]) g187 rf178 (fun w => by cases w) t138 (by decide) dd180
  have t193 : ty184 x = 200 := rw189.1.trans t138
  have t194 : ty184 c3 = 51 := gSg.typ g187 sS177.1 t139 rfl
  have t195 : ty184 c33 = 53 := gSg.typ g187 sS177.1 t140 rfl
  have t196 : ty184 c58 = 54 := gSg.typ g187 sS177.1 t141 rfl
  have t197 : ty184 cq74_0 = 57 := gSg.typ g187 sS177.1 t142 rfl
  have t198 : ty184 cq74_1 = 82 := gSg.typ g187 sS177.1 t143 rfl
  have t199 : ty184 cq74_2 = 83 := gSg.typ g187 sS177.1 t144 rfl
  have t200 : ty184 cq74_3 = 84 := gSg.typ g187 sS177.1 t145 rfl
  have t201 : ty184 c105 = 55 := gSg.typ g187 sS177.1 trq132_0 rfl
  have s202 := gSg.at g187 sS177.1 t139 rfl (by decide) s160
  have s203 := gSg.at g187 sS177.1 t141 rfl (by decide) s161
  have s204 := gSg.at g187 sS177.1 t142 rfl (by decide) s162
  have s205 := gSg.at g187 sS177.1 t142 rfl (by decide) s163
  have s206 := gSg.at g187 sS177.1 t142 rfl (by decide) s164
  have s207 := gSg.at g187 sS177.1 trq132_0 rfl (by decide) s165
  have s208 := gSg.at g187 sS177.1 trq132_0 rfl (by decide) s166
  have s209 := gSg.at g187 sS177.1 trq132_0 rfl (by decide) s167
  have s210 := gSg.at g187 sS177.1 trq132_0 rfl (by decide) s168
  have s211 := gSg.rawat g187 rf178 (fun w => by cases w) t138 (by decide) s181
  have s212 := gSg.rawat g187 rf178 (fun w => by cases w) t138 (by decide) s182
  have s213 := gSg.rawat g187 rf178 (fun w => by cases w) t138 (by decide) s183
  have s214 := gSg.rawat g187 rf178 (fun w => by cases w) t138 (by decide) eh157
  have pr215 : gNo [1, 2, 3, 4, 5, 6, 7, 8, 9, 10, 11, 12, 13, 14, 15, 16, 17, 18, 19, 20, 21, 22, 23, 24, 25, 26, 27, 28, 29, 30, 31, 32, 33, 34, 35, 36, 37, 38, 39, 40, 41, 42, 50, 56, 65, 66, 67, 68, 69, 70, 71, 72, 73, 74, 75, 76, 77, 78, 79, 80, 81, 85, 90, 91, 92, 93, 94, 95, 96, 97, 98, 99] ty184 := gNo.gr g187 (by decide) (gNo.sub (by decide) pr154)
  have pr216 := gPC.gr g187 sS177.1 (by decide) pr169
  have pr217 := gTc.gr g187 sS177.1 (by decide) (by decide) pr170
  have pr218 := gOy.gr g187 sS177.1 rfl (by decide) (by decide) pr171
  have pr219 := gRn.gr g187 sS177.1 rfl (by decide) (by decide) pr172
  have pr220 := gRn.gr g187 sS177.1 rfl (by decide) (by decide) pr173
  have pr221 := gRn.gr g187 sS177.1 rfl (by decide) (by decide) pr174
  have pr222 := gRn.gr g187 sS177.1 rfl (by decide) (by decide) pr175
  have pr223 := gRn.gr g187 sS177.1 rfl (by decide) (by decide) pr176
  have uq224 := gSg.uq g187 uqq132 (by decide)
  have sS225 : gSs rT 1027 ty184 [64999, 53999] h185 h185 := gSs.rf g187.1
  refine gz_s 1 (pc' := 51) (L' := [some (.ref x)]) (S' := [.ref c186, .ref c186, .ref x]) rfl ?_
  refine gz_call rfl (by decide) rfl (by decide) (by decide) (gcal_of rfl rfl rfl (Nat.le_of_ble_eq_true rfl) rfl) (ct_Sink _ sS225.1 c186 tc186 nnc186 llc186 kc186 zc186 dc186 (gNo.sub (by decide) pr215) uq224) (fun q226 _ wq226 => ?_)
  obtain ⟨pq226, oq226, hq226⟩ := q226
  obtain ⟨tyq226, xq226, cq226_0, ttq226, fq226_0, ecq226_0, tcq226_0, trq226_0, gq226, efq226_0, afq226_0, bfq226_0, uq226_0, uq226_1, uq226_2, uq226_3, uqq226⟩ := wq226
  dsimp only at uq226_0 uq226_1 uq226_3
  refine ⟨_, gq226, ?_⟩
  show gz gPP gGG gcn _ _ 54 [some (.ref x)] [.ref c186, .ref x] hq226 _
  have G227 : gSg [50, 51, 52, 53, 54, 55, 56, 57, 58, 59, 60, 61, 62, 63, 64, 82, 83, 84, 112, 113, 114, 200] [x] [64999, 53999] ty h tyq226 hq226 := gSg.tr (gSg.ss G188 sS225 (by decide)) xq226 (by decide) (by decide) (fun x hx => Or.inl (by rw [List.mem_singleton.mp hx]; exact gac186))
  have rw228 := gSg.raw xq226 rw189.2.1 (fun w => nex_c186 (List.mem_singleton.mp w))
  have rf229 := (rw228.2.2.1.trans rf190)
  have rf230 := (rw228.2.2.2.trans rf191)
  have dd231 := gSg.rawd (ci := 11) (ps := [3, 2, 1, 0]) xq226 rw189.2.1 (fun w => nex_c186 (List.mem_singleton.mp w)) t193 (by decide) dd192
  have t232 : tyq226 x = 200 := rw228.1.trans t193
  have t233 : tyq226 c3 = 51 := gSg.typ xq226 sS225.1 t194 rfl
  have t234 : tyq226 c33 = 53 := gSg.typ xq226 sS225.1 t195 rfl
  have t235 : tyq226 c58 = 54 := gSg.typ xq226 sS225.1 t196 rfl
  have t236 : tyq226 cq74_0 = 57 := gSg.typ xq226 sS225.1 t197 rfl
  have t237 : tyq226 cq74_1 = 82 := gSg.typ xq226 sS225.1 t198 rfl
  have t238 : tyq226 cq74_2 = 83 := gSg.typ xq226 sS225.1 t199 rfl
  have t239 : tyq226 cq74_3 = 84 := gSg.typ xq226 sS225.1 t200 rfl
  have t240 : tyq226 c105 = 55 := gSg.typ xq226 sS225.1 t201 rfl
  have s241 := gSg.at xq226 sS225.1 t194 rfl (by decide) s202
  have s242 := gSg.at xq226 sS225.1 t196 rfl (by decide) s203
  have s243 := gSg.at xq226 sS225.1 t197 rfl (by decide) s204
  have s244 := gSg.at xq226 sS225.1 t197 rfl (by decide) s205
  have s245 := gSg.at xq226 sS225.1 t197 rfl (by decide) s206
  have s246 := gSg.at xq226 sS225.1 t201 rfl (by decide) s207
  have s247 := gSg.at xq226 sS225.1 t201 rfl (by decide) s208
  have s248 := gSg.at xq226 sS225.1 t201 rfl (by decide) s209
  have s249 := gSg.at xq226 sS225.1 t201 rfl (by decide) s210
  have s250 := gSg.rawat xq226 rw189.2.1 (fun w => nex_c186 (List.mem_singleton.mp w)) t193 (by decide) s211
  have s251 := gSg.rawat xq226 rw189.2.1 (fun w => nex_c186 (List.mem_singleton.mp w)) t193 (by decide) s212
  have s252 := gSg.rawat xq226 rw189.2.1 (fun w => nex_c186 (List.mem_singleton.mp w)) t193 (by decide) s213
  have s253 := gSg.rawat xq226 rw189.2.1 (fun w => nex_c186 (List.mem_singleton.mp w)) t193 (by decide) s214
  have pr254 : gNo [1, 2, 3, 4, 5, 6, 7, 8, 9, 10, 11, 12, 13, 14, 15, 16, 17, 18, 19, 20, 21, 22, 23, 24, 25, 26, 27, 28, 29, 30, 31, 32, 33, 34, 35, 36, 37, 38, 39, 40, 41, 42, 50, 65, 66, 67, 68, 69, 70, 71, 72, 73, 74, 75, 76, 77, 78, 79, 80, 81, 85, 90, 91, 92, 93, 94, 95, 96, 97, 98, 99] tyq226 := gNo.gr xq226 (by decide) (gNo.sub (by decide) pr215)
  have pr255 := gPC.gr xq226 sS225.1 (by decide) pr216
  have pr256 := gTc.gr xq226 sS225.1 (by decide) (by decide) pr217
  have pr257 := gOy.gr xq226 sS225.1 rfl (by decide) (by decide) pr218
  have pr258 := gRn.gr xq226 sS225.1 rfl (by decide) (by decide) pr219
  have pr259 := gRn.gr xq226 sS225.1 rfl (by decide) (by decide) pr220
  have pr260 := gRn.gr xq226 sS225.1 rfl (by decide) (by decide) pr221
  have pr261 := gRn.gr xq226 sS225.1 rfl (by decide) (by decide) pr222
  have pr262 := gRn.gr xq226 sS225.1 rfl (by decide) (by decide) pr223
  have sS263 : gSs rT 1027 tyq226 [64999, 53999] hq226 hq226 := gSs.rf xq226.1
  refine gs_rput rfl (by decide) rfl sS263.1 t232 nx rw228.2.1 rf229 rfl (Or.inr rfl) (fun h264 g265 nh264 mh264 kh264 zh264 eh264 fh264 => ?_)
  have G266 : gSg [50, 51, 52, 53, 54, 55, 56, 57, 58, 59, 60, 61, 62, 63, 64, 82, 83, 84, 112, 113, 114, 200] [x] [64999, 53999] ty h tyq226 h264 := gSg.tr (gSg.ss G227 sS263 (by decide)) g265 (by decide) (by decide) (fun x hx => Or.inr hx)
  have hl267 : h264.2.2.2.1 cq226_0 = hq226.2.2.2.1 cq226_0 := gSg.len g265 sS263.1 tcq226_0 rfl
  have s268 := gSg.at g265 sS263.1 t233 rfl (by decide) s241
  have s269 := gSg.at g265 sS263.1 t235 rfl (by decide) s242
  have s270 := gSg.at g265 sS263.1 t236 rfl (by decide) s243
  have s271 := gSg.at g265 sS263.1 t236 rfl (by decide) s244
  have s272 := gSg.at g265 sS263.1 t236 rfl (by decide) s245
  have s273 := gSg.at g265 sS263.1 t240 rfl (by decide) s246
  have s274 := gSg.at g265 sS263.1 t240 rfl (by decide) s247
  have s275 := gSg.at g265 sS263.1 t240 rfl (by decide) s248
  have s276 := gSg.at g265 sS263.1 t240 rfl (by decide) s249
  have s277 := gSg.at g265 sS263.1 trq226_0 rfl (by decide) ecq226_0
  have s278 := gSg.at g265 sS263.1 trq226_0 rfl (by decide) efq226_0
  have pr279 := gPC.gr g265 sS263.1 (by decide) pr255
  have pr280 := gTc.gr g265 sS263.1 (by decide) (by decide) pr256
  have pr281 := gOy.gr g265 sS263.1 rfl (by decide) (by decide) pr257
  have pr282 := gRn.gr g265 sS263.1 rfl (by decide) (by decide) pr258
  have pr283 := gRn.gr g265 sS263.1 rfl (by decide) (by decide) pr259
  have pr284 := gRn.gr g265 sS263.1 rfl (by decide) (by decide) pr260
  have pr285 := gRn.gr g265 sS263.1 rfl (by decide) (by decide) pr261
  have pr286 := gRn.gr g265 sS263.1 rfl (by decide) (by decide) pr262
  have sS287 : gSs rT 1027 tyq226 [64999, 53999] h264 h264 := gSs.rf g265.1
  have rf288 := Nat.lt_of_lt_of_eq rw228.2.1 nh264.symm
  have rf289 := zh264.trans rf230
  have dd290 : ∀ k, ¬ k ∈ ([4, 3, 2, 1, 0] : List Nat) → h264.2.2.2.2 x k = defaultValue (gGG.2.1 11 k) := raw_dp fh264 dd231
  have s291 := (fh264 0 (by decide)).trans s250
  have s292 := (fh264 1 (by decide)).trans s251
  have s293 := (fh264 2 (by decide)).trans s252
  have s294 := (fh264 3 (by decide)).trans s253
  refine gz_s 1 (pc' := 58) (L' := [some (.ref x)]) (S' := [.ref x]) rfl ?_
  refine gz_get rfl (by decide) rfl nx rf288 kh264 s292 ?_
  refine gz_s 1 (pc' := 63) (L' := [some (.ref x)]) (S' := [.int (zi 16), .ref c33]) rfl ?_
  refine gz_call rfl (by decide) rfl (by decide) (by decide) (gcal_of rfl rfl rfl (Nat.le_of_ble_eq_true rfl) rfl) (cl_fill_tables _ sS287.1 c33 t234 16 ⟨by omega, by omega⟩ uqq226) (fun q295 _ wq295 => ?_)
  obtain ⟨pq295, oq295, hq295⟩ := q295
  obtain ⟨xq295, gq295, yq295_0⟩ := wq295
  refine ⟨_, gq295, ?_⟩
  show gz gPP gGG gcn _ _ 66 [some (.ref x)] [] hq295 _
  have sq295 : gSs rT 1027 tyq226 [64999, 53999] h264 hq295 := gSs.tr sS287 xq295 (by decide)
  have s296 := (xq295.2.2.2.2.2 c3 1 (by rw [t233]; decide)).trans s268
  have s297 := (xq295.2.2.2.2.2 c58 0 (by rw [t235]; decide)).trans s269
  have s298 := (xq295.2.2.2.2.2 cq74_0 0 (by rw [t236]; decide)).trans s270
  have s299 := (xq295.2.2.2.2.2 cq74_0 1 (by rw [t236]; decide)).trans s271
  have s300 := (xq295.2.2.2.2.2 cq74_0 2 (by rw [t236]; decide)).trans s272
  have s301 := (xq295.2.2.2.2.2 c105 8 (by rw [t240]; decide)).trans s273
  have s302 := (xq295.2.2.2.2.2 c105 3 (by rw [t240]; decide)).trans s274
  have s303 := (xq295.2.2.2.2.2 c105 1 (by rw [t240]; decide)).trans s275
  have s304 := (xq295.2.2.2.2.2 c105 2 (by rw [t240]; decide)).trans s276
  have s305 := (xq295.2.2.2.2.2 c186 0 (by rw [trq226_0]; decide)).trans s277
  have s306 := (xq295.2.2.2.2.2 c186 1 (by rw [trq226_0]; decide)).trans s278
  have s307 := (xq295.2.2.2.2.2 x 0 (by rw [t232]; decide)).trans s291
  have s308 := (xq295.2.2.2.2.2 x 1 (by rw [t232]; decide)).trans s292
  have s309 := (xq295.2.2.2.2.2 x 2 (by rw [t232]; decide)).trans s293
  have s310 := (xq295.2.2.2.2.2 x 3 (by rw [t232]; decide)).trans s294
  have s311 := (xq295.2.2.2.2.2 x 4 (by rw [t232]; decide)).trans eh264
  have dd312 : ∀ k, ¬ k ∈ ([4, 3, 2, 1, 0] : List Nat) → hq295.2.2.2.2 x k = defaultValue (gGG.2.1 11 k) := gFr.rawd xq295.2 t232 (by decide) dd290
  have pr313 := gPC.fr xq295.2 (by decide) pr279
  have pr314 := gTc.fr xq295.2 (by decide) pr280
  have pr315 := gOy.fr xq295.2 (by decide) pr281
  have pr316 := gRn.fr xq295.2 (by decide) pr282
  have pr317 := gRn.fr xq295.2 (by decide) pr283
  have pr318 := gRn.fr xq295.2 (by decide) pr284
  have pr319 := gRn.fr xq295.2 (by decide) pr285
  have pr320 := gRn.fr xq295.2 (by decide) pr286
  obtain ⟨ty322, g321, tg321, ug321⟩ := gSg.adx 50 sq295.1 t232 nx (Nat.lt_of_lt_of_eq rf288 sq295.2.1.symm) rfl ((congrFun sq295.2.2.2.1 x).trans kh264) (by show (0 : Nat) ≤ _; have h9 := ((congrFun sq295.2.2.2.2.1 x).trans rf289); omega) (by show _ ≤ (0 : Nat); have h9 := ((congrFun sq295.2.2.2.2.1 x).trans rf289); omega) (fun ty9 w9 k hk => ad50 (by rw [s307]; exact ⟨c3, rfl, w9 c3 _ t233 (by decide)⟩) (by rw [s308]; exact ⟨c33, rfl, w9 c33 _ t234 (by decide)⟩) (by rw [s309]; exact ⟨c58, rfl, w9 c58 _ t235 (by decide)⟩) (by rw [s310]; exact ⟨c105, rfl, w9 c105 _ t240 (by decide)⟩) (by rw [s311]; exact ⟨c186, rfl, w9 c186 _ trq226_0 (by decide)⟩) (by rw [(show hq295.2.2.2.2 x 5 = .null from dd312 5 (by decide))]; exact Or.inl rfl) (by rw [(show hq295.2.2.2.2 x 6 = .null from dd312 6 (by decide))]; exact Or.inl rfl) k)
  have uq323 := ug321 uqq226 (Or.inr (gNo.sub (by decide) pr254))
  have k324 := sq295.2.1
  have k324b := sq295.2.2.1
  have hl325 : hq295.2.2.2.1 cq226_0 = h264.2.2.2.1 cq226_0 := congrFun sq295.2.2.2.2.1 cq226_0
  have G326 : gSg [50, 51, 52, 53, 54, 55, 56, 57, 58, 59, 60, 61, 62, 63, 64, 82, 83, 84, 112, 113, 114, 200] [x] [64999, 53999] ty h ty322 hq295 := gSg.tr (gSg.ss G266 sq295 (by decide)) g321 (by decide) (by decide) (fun x hx => Or.inr hx)
  have t327 : ty322 c3 = 51 := gSg.typ g321 sq295.1 t233 rfl
  have t328 : ty322 c33 = 53 := gSg.typ g321 sq295.1 t234 rfl
  have t329 : ty322 c58 = 54 := gSg.typ g321 sq295.1 t235 rfl
  have t330 : ty322 cq74_0 = 57 := gSg.typ g321 sq295.1 t236 rfl
  have t331 : ty322 cq74_1 = 82 := gSg.typ g321 sq295.1 t237 rfl
  have t332 : ty322 cq74_2 = 83 := gSg.typ g321 sq295.1 t238 rfl
  have t333 : ty322 cq74_3 = 84 := gSg.typ g321 sq295.1 t239 rfl
  have t334 : ty322 c105 = 55 := gSg.typ g321 sq295.1 t240 rfl
  have t335 : ty322 c186 = 56 := gSg.typ g321 sq295.1 trq226_0 rfl
  have t336 : ty322 cq226_0 = 114 := gSg.typ g321 sq295.1 tcq226_0 rfl
  have pr337 : gNo [1, 2, 3, 4, 5, 6, 7, 8, 9, 10, 11, 12, 13, 14, 15, 16, 17, 18, 19, 20, 21, 22, 23, 24, 25, 26, 27, 28, 29, 30, 31, 32, 33, 34, 35, 36, 37, 38, 39, 40, 41, 42, 65, 66, 67, 68, 69, 70, 71, 72, 73, 74, 75, 76, 77, 78, 79, 80, 81, 85, 90, 91, 92, 93, 94, 95, 96, 97, 98, 99] ty322 := gNo.gr g321 (by decide) (gNo.sub (by decide) pr254)
  have pr338 := gPC.gr g321 sq295.1 (by decide) pr313
  have pr339 := gTc.gr g321 sq295.1 (by decide) (by decide) pr314
  have pr340 := gOy.gr g321 sq295.1 rfl (by decide) (by decide) pr315
  have pr341 := gRn.gr g321 sq295.1 rfl (by decide) (by decide) pr316
  have pr342 := gRn.gr g321 sq295.1 rfl (by decide) (by decide) pr317
  have pr343 := gRn.gr g321 sq295.1 rfl (by decide) (by decide) pr318
  have pr344 := gRn.gr g321 sq295.1 rfl (by decide) (by decide) pr319
  have pr345 := gRn.gr g321 sq295.1 rfl (by decide) (by decide) pr320
  have pr346 := gOy.gr g321 sq295.1 rfl (by decide) (by decide) yq295_0
  have sS347 : gSs rT 1027 ty322 [64999, 53999] hq295 hq295 := gSs.rf g321.1
  have hl348 : 1024 ≤ hq295.2.2.2.1 cq226_0 ∧ hq295.2.2.2.1 cq226_0 ≤ 1000000 := gJ.rowl (G := gGG) sS347.1 t336 rfl
  have hxr349 : gXr ty322 (((fun _ => 16, fun _ => 0, fun _ => 0, fun _ => 0, fun _ => 0, fun _ => 0, fun _ => -1), (0, 0, 0, fun _ => 0)) : gSS) hq295 := ⟨gOy.Rn (by decide) pr346, pr341, pr342, pr343, pr344, pr345, gOy.Rn (by decide) pr340⟩
  have hrx350 : gRr ty322 x hq295 := ⟨tg321, Or.inl ⟨(show hq295.2.2.2.2 x 5 = .null from dd312 5 (by decide)), (gNo.sub (by decide) pr337)⟩⟩
  have hrx351 : gRw ty322 x hq295 := ⟨tg321, Or.inl ⟨(show hq295.2.2.2.2 x 6 = .null from dd312 6 (by decide)), (gNo.sub (by decide) pr337)⟩⟩
  have G352 : gSg [50, 51, 52, 53, 54, 55, 56, 57, 58, 59, 60, 61, 62, 63, 64, 82, 83, 84, 112, 113, 114, 200] [x] [64999, 53999] ty h ty322 hq295 := gSg.ss G326 sS347 (by decide)
  exact gz_end (I := .return_) (len := 1) rfl (Or.inl rfl) ⟨ty322, G352, c105, c58, c186, c3, cq226_0, cq74_0, cq74_1, cq74_2, cq74_3, trivial, fq132_0, fq132_1, fq132_2, fq132_3, fq226_0, fq14_0, s310, t334, s309, t329, s311, t335, s307, t327, s305, t336, s297, t330, s298, t331, s299, t332, s300, t333, tg321, rfl, s301, (by omega), (by omega), s302, (by omega), (by omega), s303, (by omega), (by omega), s304, (by omega), (by omega), s306, (by omega), (by omega), s296, (by omega), (by omega), (by dsimp only; omega), (by dsimp only; omega), (by omega), (by omega), (by omega), (by omega), (by omega), (by omega), (by dsimp only; omega), pr339, pr338, hxr349, hrx350, hrx351, uq323, pr337⟩
