set_option maxRecDepth 20000 in
set_option maxHeartbeats 4000000 in
theorem sg_begin (d : Nat) {ty : Nat → Nat} {h : gH} {Ln : Int} {sc : Nat → Int} (hJ : gJ rT 1027 ty h) (uq : gUq ty) (hyst : gSta ty h) (scr : gScr ty Ln sc h) (no0 : gNo [1, 2, 3, 4, 5, 6, 7, 8, 9, 10, 11, 12, 13, 14, 15, 16, 17, 18, 19, 20, 21, 22, 23, 24, 25, 26, 27, 28, 29, 30, 31, 32, 33, 34, 35, 36, 37, 38, 39, 40, 41, 42, 50, 51, 52, 53, 54, 55, 56, 57, 58, 59, 60, 61, 62, 63, 64, 65, 66, 67, 68, 69, 70, 71, 72, 73, 74, 75, 76, 77, 78, 79, 80, 81, 82, 83, 84, 85, 90, 91, 92, 93, 94, 95, 96, 97, 98, 99] ty) : gz gPP gGG gcn (d + 6) (gtLlaw [23]) 0 [some (.ref 2), none, none, none, none, none, none, none] [] h (fun q L9 => ∃ ty9 : Nat → Nat, gSg [1, 2, 3, 4, 5, 6, 7, 8, 9, 10, 11, 12, 13, 14, 15, 16, 17, 18, 19, 20, 21, 22, 23, 24, 25, 26, 27, 28, 29, 30, 31, 32, 33, 34, 35, 36, 37, 38, 39, 40, 41, 42, 50, 51, 52, 53, 54, 55, 56, 57, 58, 59, 60, 61, 62, 63, 64, 82, 83, 84, 90, 112, 113, 114, 200] [] [8999, 10999, 31999, 53999, 64999] ty h ty9 q.2.2 ∧ ∃ x m o : Nat, ty9 x = 50 ∧ ty9 m = 1 ∧ ty9 o = 90 ∧ gIx ty9 x 0 1024 0 q.2.2 ∧ gIm ty9 m 0 q.2.2 ∧ gUq ty9 ∧ (q.2.2.1 : Int) = h.1 + 64 ∧ (q.2.2.2.1 : Int) = h.2.1 + 93470 ∧ q.1 = 23 ∧ q.2.1 = [] ∧ gLw [some (.ref 2), some (.ref x), some (.ref m), some (.ref o), some (.int (zi 0)), none, none, none] L9) := by
  have hS : gSs rT 1027 ty [8999, 10999, 31999, 53999, 64999] h h := gSs.rf hJ
  have G0 : gSg [1, 2, 3, 4, 5, 6, 7, 8, 9, 10, 11, 12, 13, 14, 15, 16, 17, 18, 19, 20, 21, 22, 23, 24, 25, 26, 27, 28, 29, 30, 31, 32, 33, 34, 35, 36, 37, 38, 39, 40, 41, 42, 50, 51, 52, 53, 54, 55, 56, 57, 58, 59, 60, 61, 62, 63, 64, 82, 83, 84, 90, 112, 113, 114, 200] [] [8999, 10999, 31999, 53999, 64999] ty h ty h := gSg.rf hJ (fun x hx => by cases hx)
  refine gs_newo rfl (by decide) rfl hS.1 (gSta.fr hS.2 (by decide) hyst).2.2.1 (fun ty1 h2 c3 g4 tc3 kc3 zc3 nc3 mc3 ec3 dc3 => ?_)
  have mfc3 : h2.2.1 = h.2.1 + 7 := mc3
  have gac3 : h.1 ≤ c3 := by have h8 := G0.2.1; have h9 := hS.2.1; omega
  have nnc3 : 1027 ≤ c3 := by have h8 := (gSta.fr hS.2 (by decide) hyst).2.2.1; omega
  have llc3 := Nat.lt_of_lt_of_eq (Nat.lt_succ_of_le (Nat.le_of_eq ec3)) nc3.symm
  have G5 : gSg [1, 2, 3, 4, 5, 6, 7, 8, 9, 10, 11, 12, 13, 14, 15, 16, 17, 18, 19, 20, 21, 22, 23, 24, 25, 26, 27, 28, 29, 30, 31, 32, 33, 34, 35, 36, 37, 38, 39, 40, 41, 42, 50, 51, 52, 53, 54, 55, 56, 57, 58, 59, 60, 61, 62, 63, 64, 82, 83, 84, 90, 112, 113, 114, 200] [] [8999, 10999, 31999, 53999, 64999] ty h ty1 h2 := gSg.tr (gSg.ss G0 hS (by decide)) g4 (by decide) (by decide) (fun x hx => by cases hx)
  have pr6 : gNo [1, 2, 3, 4, 5, 6, 7, 8, 9, 10, 11, 12, 13, 14, 15, 16, 17, 18, 19, 20, 21, 22, 23, 24, 25, 26, 27, 28, 29, 30, 31, 32, 33, 34, 35, 36, 37, 38, 39, 40, 41, 42, 50, 51, 52, 53, 54, 55, 56, 57, 58, 59, 60, 61, 62, 63, 64, 65, 66, 67, 68, 69, 70, 71, 72, 73, 74, 75, 76, 77, 78, 79, 80, 81, 82, 83, 84, 85, 90, 91, 92, 93, 94, 95, 96, 97, 98, 99] ty1 := gNo.gr g4 (by decide) (gNo.sub (by decide) no0)
  have uq7 := gSg.uq g4 uq (by decide)
  have scr8 := gScr.gr g4 (by decide) (fun x hx => by cases hx) (gScr.fr hS.2 (by decide) scr)
  have hyst9 := gSta.gr g4 (by decide) (fun x hx => by cases hx) (gSta.fr hS.2 (by decide) hyst)
  have sS10 : gSs rT 1027 ty1 [8999, 10999, 31999, 53999, 64999] h2 h2 := gSs.rf g4.1
  refine gz_s 1 (pc' := 4) (L' := [some (.ref 2), none, none, none, none, none, none, none]) (S' := [.ref c3, .ref c3]) rfl ?_
  refine gz_call rfl (by decide) rfl (by decide) (by decide) (gcal_of rfl rfl rfl (Nat.le_of_ble_eq_true rfl) rfl) (ct_DctFilter _ sS10.1 c3 tc3 nnc3 llc3 kc3 zc3 dc3 pr6 uq7) (fun q11 _ wq11 => ?_)
  obtain ⟨pq11, oq11, hq11⟩ := q11
  obtain ⟨tyq11, xq11, cq11_0, cq11_1, cq11_2, cq11_3, cq11_4, cq11_5, cq11_6, cq11_7, ttq11, fq11_0, fq11_1, fq11_2, ecq11_0, tcq11_0, ecq11_1, tcq11_1, ecq11_2, tcq11_2, ecq11_3, tcq11_3, ecq11_4, tcq11_4, ecq11_5, tcq11_5, ecq11_6, tcq11_6, ecq11_7, tcq11_7, trq11_0, gq11, efq11_0, afq11_0, bfq11_0, efq11_1, afq11_1, bfq11_1, efq11_2, afq11_2, bfq11_2, uq11_0, uq11_1, uq11_2, uq11_3, uq11_4, uq11_5, yq11_0, yq11_1, yq11_2, yq11_3, uqq11, noq11_0⟩ := wq11
  dsimp only at uq11_0 uq11_1 uq11_5
  refine ⟨_, gq11, ?_⟩
  show gz gPP gGG gcn _ _ 7 [some (.ref 2), none, none, none, none, none, none, none] [.ref c3] hq11 _
  have G12 : gSg [1, 2, 3, 4, 5, 6, 7, 8, 9, 10, 11, 12, 13, 14, 15, 16, 17, 18, 19, 20, 21, 22, 23, 24, 25, 26, 27, 28, 29, 30, 31, 32, 33, 34, 35, 36, 37, 38, 39, 40, 41, 42, 50, 51, 52, 53, 54, 55, 56, 57, 58, 59, 60, 61, 62, 63, 64, 82, 83, 84, 90, 112, 113, 114, 200] [] [8999, 10999, 31999, 53999, 64999] ty h tyq11 hq11 := gSg.tr (gSg.ss G5 sS10 (by decide)) xq11 (by decide) (by decide) (fun x hx => Or.inl (by rw [List.mem_singleton.mp hx]; exact gac3))
  have pr13 : gNo [1, 2, 3, 4, 5, 6, 7, 8, 9, 10, 11, 12, 13, 14, 15, 16, 17, 18, 19, 20, 21, 22, 23, 24, 25, 26, 27, 28, 29, 30, 31, 32, 33, 34, 35, 36, 37, 38, 39, 40, 41, 42, 65, 66, 67, 68, 69, 70, 71, 72, 73, 74, 75, 76, 77, 78, 79, 80, 81, 85, 90, 91, 92, 93, 94, 95, 96, 97, 98, 99] tyq11 := gNo.gr xq11 (by decide) (gNo.sub (by decide) pr6)
  have scr14 := gScr.gr xq11 (by decide) (fun x hx => by rw [List.mem_singleton.mp hx]; have h9 := nnc3; omega) (gScr.fr sS10.2 (by decide) scr8)
  have hyst15 := gSta.gr xq11 (by decide) (fun x hx => by rw [List.mem_singleton.mp hx]; have h9 := nnc3; omega) (gSta.fr sS10.2 (by decide) hyst9)
  have sS16 : gSs rT 1027 tyq11 [8999, 10999, 31999, 53999, 64999] hq11 hq11 := gSs.rf xq11.1
  refine gz_s 1 (pc' := 8) (L' := [some (.ref 2), some (.ref c3), none, none, none, none, none, none]) (S' := []) rfl ?_
  refine gs_newo rfl (by decide) rfl sS16.1 (Nat.le_of_lt (Nat.lt_of_le_of_lt (gJ.cell sS16.1 trq11_0 rfl).1 (gJ.cell sS16.1 trq11_0 rfl).2.1)) (fun ty17 h18 c19 g20 tc19 kc19 zc19 nc19 mc19 ec19 dc19 => ?_)
  have mfc19 : h18.2.1 = hq11.2.1 + 77 := mc19
  have gac19 : h.1 ≤ c19 := by have h8 := G12.2.1; have h9 := sS16.2.1; omega
  have nnc19 : 1027 ≤ c19 := by have h8 := (Nat.le_of_lt (Nat.lt_of_le_of_lt (gJ.cell sS16.1 trq11_0 rfl).1 (gJ.cell sS16.1 trq11_0 rfl).2.1)); omega
  have llc19 := Nat.lt_of_lt_of_eq (Nat.lt_succ_of_le (Nat.le_of_eq ec19)) nc19.symm
  have G21 : gSg [1, 2, 3, 4, 5, 6, 7, 8, 9, 10, 11, 12, 13, 14, 15, 16, 17, 18, 19, 20, 21, 22, 23, 24, 25, 26, 27, 28, 29, 30, 31, 32, 33, 34, 35, 36, 37, 38, 39, 40, 41, 42, 50, 51, 52, 53, 54, 55, 56, 57, 58, 59, 60, 61, 62, 63, 64, 82, 83, 84, 90, 112, 113, 114, 200] [] [8999, 10999, 31999, 53999, 64999] ty h ty17 h18 := gSg.tr (gSg.ss G12 sS16 (by decide)) g20 (by decide) (by decide) (fun x hx => by cases hx)
  have t22 : ty17 c3 = 50 := gSg.typ g20 sS16.1 trq11_0 rfl
  have t23 : ty17 cq11_0 = 55 := gSg.typ g20 sS16.1 tcq11_0 rfl
  have t24 : ty17 cq11_1 = 54 := gSg.typ g20 sS16.1 tcq11_1 rfl
  have t25 : ty17 cq11_2 = 56 := gSg.typ g20 sS16.1 tcq11_2 rfl
  have t26 : ty17 cq11_3 = 114 := gSg.typ g20 sS16.1 tcq11_3 rfl
  have hl27 : h18.2.2.2.1 cq11_3 = hq11.2.2.2.1 cq11_3 := gSg.len g20 sS16.1 tcq11_3 rfl
  have t28 : ty17 cq11_4 = 57 := gSg.typ g20 sS16.1 tcq11_4 rfl
  have t29 : ty17 cq11_5 = 82 := gSg.typ g20 sS16.1 tcq11_5 rfl
  have t30 : ty17 cq11_6 = 83 := gSg.typ g20 sS16.1 tcq11_6 rfl
  have t31 : ty17 cq11_7 = 84 := gSg.typ g20 sS16.1 tcq11_7 rfl
  have s32 := gSg.at g20 sS16.1 trq11_0 rfl (by decide) ecq11_0
  have s33 := gSg.at g20 sS16.1 trq11_0 rfl (by decide) ecq11_1
  have s34 := gSg.at g20 sS16.1 trq11_0 rfl (by decide) ecq11_2
  have s35 := gSg.at g20 sS16.1 tcq11_2 rfl (by decide) ecq11_3
  have s36 := gSg.at g20 sS16.1 tcq11_1 rfl (by decide) ecq11_4
  have s37 := gSg.at g20 sS16.1 tcq11_4 rfl (by decide) ecq11_5
  have s38 := gSg.at g20 sS16.1 tcq11_4 rfl (by decide) ecq11_6
  have s39 := gSg.at g20 sS16.1 tcq11_4 rfl (by decide) ecq11_7
  have s40 := gSg.at g20 sS16.1 tcq11_0 rfl (by decide) efq11_0
  have s41 := gSg.at g20 sS16.1 tcq11_0 rfl (by decide) efq11_1
  have s42 := gSg.at g20 sS16.1 tcq11_2 rfl (by decide) efq11_2
  have pr43 : gNo [1, 2, 3, 4, 5, 6, 7, 8, 9, 10, 11, 12, 13, 14, 15, 16, 17, 18, 19, 20, 21, 22, 23, 24, 25, 26, 27, 28, 29, 30, 31, 32, 33, 34, 35, 36, 37, 38, 39, 40, 41, 42, 65, 66, 67, 68, 69, 70, 71, 72, 73, 74, 75, 76, 77, 78, 79, 80, 81, 85, 90, 91, 92, 93, 94, 95, 96, 97, 98, 99] ty17 := gNo.gr g20 (by decide) (gNo.sub (by decide) noq11_0)
  have pr44 := gTc.gr g20 sS16.1 (by decide) (by decide) yq11_0
  have pr45 := gPC.gr g20 sS16.1 (by decide) yq11_1
  have pr46 := gRr.gr g20 sS16.1 (by decide) (by decide) yq11_2
  have pr47 := gRw.gr g20 sS16.1 (by decide) (by decide) yq11_3
  have uq48 := gSg.uq g20 uqq11 (by decide)
  have scr49 := gScr.gr g20 (by decide) (fun x hx => by cases hx) (gScr.fr sS16.2 (by decide) scr14)
  have hyst50 := gSta.gr g20 (by decide) (fun x hx => by cases hx) (gSta.fr sS16.2 (by decide) hyst15)
  have sS51 : gSs rT 1027 ty17 [8999, 10999, 31999, 53999, 64999] h18 h18 := gSs.rf g20.1
  refine gz_s 1 (pc' := 12) (L' := [some (.ref 2), some (.ref c3), none, none, none, none, none, none]) (S' := [.ref c19, .ref c19]) rfl ?_
  refine gz_call rfl (by decide) rfl (by decide) (by decide) (gcal_of rfl rfl rfl (Nat.le_of_ble_eq_true rfl) rfl) (ct_Model _ sS51.1 c19 tc19 nnc19 llc19 kc19 zc19 dc19 (gNo.sub (by decide) pr43) uq48) (fun q52 _ wq52 => ?_)
  obtain ⟨pq52, oq52, hq52⟩ := q52
  obtain ⟨tyq52, xq52, fq52_0, fq52_1, fq52_2, fq52_3, fq52_4, trq52_0, gq52, efq52_0, afq52_0, bfq52_0, efq52_1, afq52_1, bfq52_1, efq52_2, afq52_2, bfq52_2, efq52_3, afq52_3, bfq52_3, efq52_4, afq52_4, bfq52_4, uq52_0, uq52_1, uq52_2, uq52_3, uq52_4, uq52_5, uq52_6, yq52_0, uqq52⟩ := wq52
  dsimp only at uq52_5 uq52_6
  refine ⟨_, gq52, ?_⟩
  show gz gPP gGG gcn _ _ 15 [some (.ref 2), some (.ref c3), none, none, none, none, none, none] [.ref c19] hq52 _
  have G53 : gSg [1, 2, 3, 4, 5, 6, 7, 8, 9, 10, 11, 12, 13, 14, 15, 16, 17, 18, 19, 20, 21, 22, 23, 24, 25, 26, 27, 28, 29, 30, 31, 32, 33, 34, 35, 36, 37, 38, 39, 40, 41, 42, 50, 51, 52, 53, 54, 55, 56, 57, 58, 59, 60, 61, 62, 63, 64, 82, 83, 84, 90, 112, 113, 114, 200] [] [8999, 10999, 31999, 53999, 64999] ty h tyq52 hq52 := gSg.tr (gSg.ss G21 sS51 (by decide)) xq52 (by decide) (by decide) (fun x hx => Or.inl (by rw [List.mem_singleton.mp hx]; exact gac19))
  have t54 : tyq52 c3 = 50 := gSg.typ xq52 sS51.1 t22 rfl
  have t55 : tyq52 cq11_0 = 55 := gSg.typ xq52 sS51.1 t23 rfl
  have t56 : tyq52 cq11_1 = 54 := gSg.typ xq52 sS51.1 t24 rfl
  have t57 : tyq52 cq11_2 = 56 := gSg.typ xq52 sS51.1 t25 rfl
  have t58 : tyq52 cq11_3 = 114 := gSg.typ xq52 sS51.1 t26 rfl
  have hl59 : hq52.2.2.2.1 cq11_3 = h18.2.2.2.1 cq11_3 := gSg.len xq52 sS51.1 t26 rfl
  have t60 : tyq52 cq11_4 = 57 := gSg.typ xq52 sS51.1 t28 rfl
  have t61 : tyq52 cq11_5 = 82 := gSg.typ xq52 sS51.1 t29 rfl
  have t62 : tyq52 cq11_6 = 83 := gSg.typ xq52 sS51.1 t30 rfl
  have t63 : tyq52 cq11_7 = 84 := gSg.typ xq52 sS51.1 t31 rfl
  have s64 := gSg.at xq52 sS51.1 t22 rfl (by decide) s32
  have s65 := gSg.at xq52 sS51.1 t22 rfl (by decide) s33
  have s66 := gSg.at xq52 sS51.1 t22 rfl (by decide) s34
  have s67 := gSg.at xq52 sS51.1 t25 rfl (by decide) s35
  have s68 := gSg.at xq52 sS51.1 t24 rfl (by decide) s36
  have s69 := gSg.at xq52 sS51.1 t28 rfl (by decide) s37
  have s70 := gSg.at xq52 sS51.1 t28 rfl (by decide) s38
  have s71 := gSg.at xq52 sS51.1 t28 rfl (by decide) s39
  have s72 := gSg.at xq52 sS51.1 t23 rfl (by decide) s40
  have s73 := gSg.at xq52 sS51.1 t23 rfl (by decide) s41
  have s74 := gSg.at xq52 sS51.1 t25 rfl (by decide) s42
  have pr75 : gNo [65, 66, 67, 68, 69, 70, 71, 72, 73, 74, 75, 76, 77, 78, 79, 80, 81, 85, 90, 91, 92, 93, 94, 95, 96, 97, 98, 99] tyq52 := gNo.gr xq52 (by decide) (gNo.sub (by decide) pr43)
  have pr76 := gTc.gr xq52 sS51.1 (by decide) (by decide) pr44
  have pr77 := gPC.gr xq52 sS51.1 (by decide) pr45
  have pr78 := gRr.gr xq52 sS51.1 (by decide) (by decide) pr46
  have pr79 := gRw.gr xq52 sS51.1 (by decide) (by decide) pr47
  have scr80 := gScr.gr xq52 (by decide) (fun x hx => by rw [List.mem_singleton.mp hx]; have h9 := nnc19; omega) (gScr.fr sS51.2 (by decide) scr49)
  have hyst81 := gSta.gr xq52 (by decide) (fun x hx => by rw [List.mem_singleton.mp hx]; have h9 := nnc19; omega) (gSta.fr sS51.2 (by decide) hyst50)
  have sS82 : gSs rT 1027 tyq52 [8999, 10999, 31999, 53999, 64999] hq52 hq52 := gSs.rf xq52.1
  refine gz_s 2 (pc' := 17) (L' := [some (.ref 2), some (.ref c3), some (.ref c19), none, none, none, none, none]) (S' := [.int (zi 1)]) rfl ?_
  refine gs_newr 90 rfl (by decide) rfl sS82.1 (Nat.le_of_lt (Nat.lt_of_le_of_lt (gJ.cell sS82.1 t54 rfl).1 (gJ.cell sS82.1 t54 rfl).2.1)) (by omega) (by omega) rfl rfl (by show (1 : Int) ≤ _; omega) (by show _ ≤ (1 : Int); omega) (fun _ _ => gos_l (by decide) (by decide)) (fun ty83 h84 c85 g86 tc85 lc85 nc85 mc85 ec85 dc85 uc85 => ?_)
  have gac85 : h.1 ≤ c85 := by have h8 := G53.2.1; have h9 := sS82.2.1; omega
  have uq87 := uc85 uqq52 (Or.inr (gNo.sub (by decide) pr75))
  have G88 : gSg [1, 2, 3, 4, 5, 6, 7, 8, 9, 10, 11, 12, 13, 14, 15, 16, 17, 18, 19, 20, 21, 22, 23, 24, 25, 26, 27, 28, 29, 30, 31, 32, 33, 34, 35, 36, 37, 38, 39, 40, 41, 42, 50, 51, 52, 53, 54, 55, 56, 57, 58, 59, 60, 61, 62, 63, 64, 82, 83, 84, 90, 112, 113, 114, 200] [] [8999, 10999, 31999, 53999, 64999] ty h ty83 h84 := gSg.tr (gSg.ss G53 sS82 (by decide)) g86 (by decide) (by decide) (fun x hx => by cases hx)
  have t89 : ty83 c3 = 50 := gSg.typ g86 sS82.1 t54 rfl
  have t90 : ty83 cq11_0 = 55 := gSg.typ g86 sS82.1 t55 rfl
  have t91 : ty83 cq11_1 = 54 := gSg.typ g86 sS82.1 t56 rfl
  have t92 : ty83 cq11_2 = 56 := gSg.typ g86 sS82.1 t57 rfl
  have t93 : ty83 cq11_3 = 114 := gSg.typ g86 sS82.1 t58 rfl
  have hl94 : h84.2.2.2.1 cq11_3 = hq52.2.2.2.1 cq11_3 := gSg.len g86 sS82.1 t58 rfl
  have t95 : ty83 cq11_4 = 57 := gSg.typ g86 sS82.1 t60 rfl
  have t96 : ty83 cq11_5 = 82 := gSg.typ g86 sS82.1 t61 rfl
  have t97 : ty83 cq11_6 = 83 := gSg.typ g86 sS82.1 t62 rfl
  have t98 : ty83 cq11_7 = 84 := gSg.typ g86 sS82.1 t63 rfl
  have t99 : ty83 c19 = 1 := gSg.typ g86 sS82.1 trq52_0 rfl
  have s100 := gSg.at g86 sS82.1 t54 rfl (by decide) s64
  have s101 := gSg.at g86 sS82.1 t54 rfl (by decide) s65
  have s102 := gSg.at g86 sS82.1 t54 rfl (by decide) s66
  have s103 := gSg.at g86 sS82.1 t57 rfl (by decide) s67
  have s104 := gSg.at g86 sS82.1 t56 rfl (by decide) s68
  have s105 := gSg.at g86 sS82.1 t60 rfl (by decide) s69
  have s106 := gSg.at g86 sS82.1 t60 rfl (by decide) s70
  have s107 := gSg.at g86 sS82.1 t60 rfl (by decide) s71
  have s108 := gSg.at g86 sS82.1 t55 rfl (by decide) s72
  have s109 := gSg.at g86 sS82.1 t55 rfl (by decide) s73
  have s110 := gSg.at g86 sS82.1 t57 rfl (by decide) s74
  have s111 := gSg.at g86 sS82.1 trq52_0 rfl (by decide) efq52_0
  have s112 := gSg.at g86 sS82.1 trq52_0 rfl (by decide) efq52_1
  have s113 := gSg.at g86 sS82.1 trq52_0 rfl (by decide) efq52_2
  have s114 := gSg.at g86 sS82.1 trq52_0 rfl (by decide) efq52_3
  have s115 := gSg.at g86 sS82.1 trq52_0 rfl (by decide) efq52_4
  have pr116 : gNo [65, 66, 67, 68, 69, 70, 71, 72, 73, 74, 75, 76, 77, 78, 79, 80, 81, 85, 91, 92, 93, 94, 95, 96, 97, 98, 99] ty83 := gNo.gr g86 (by decide) (gNo.sub (by decide) pr75)
  have pr117 := gTc.gr g86 sS82.1 (by decide) (by decide) pr76
  have pr118 := gPC.gr g86 sS82.1 (by decide) pr77
  have pr119 := gRr.gr g86 sS82.1 (by decide) (by decide) pr78
  have pr120 := gRw.gr g86 sS82.1 (by decide) (by decide) pr79
  have pr121 := gTs.gr g86 sS82.1 (by decide) (by decide) yq52_0
  have scr122 := gScr.gr g86 (by decide) (fun x hx => by cases hx) (gScr.fr sS82.2 (by decide) scr80)
  have hyst123 := gSta.gr g86 (by decide) (fun x hx => by cases hx) (gSta.fr sS82.2 (by decide) hyst81)
  have sS124 : gSs rT 1027 ty83 [8999, 10999, 31999, 53999, 64999] h84 h84 := gSs.rf g86.1
  refine gz_s 3 (pc' := 23) (L' := [some (.ref 2), some (.ref c3), some (.ref c19), some (.ref c85), some (.int (zi 0)), none, none, none]) (S' := []) rfl ?_
  have hl125 : 1024 ≤ h84.2.2.2.1 cq11_3 ∧ h84.2.2.2.1 cq11_3 ≤ 1000000 := gJ.rowl (G := gGG) sS124.1 t93 rfl
  have hix126 : gIx ty83 c3 0 (h84.2.2.2.1 cq11_3 : Int) fq11_1 h84 := ⟨cq11_1, cq11_5, cq11_6, cq11_7, cq11_0, cq11_2, cq11_3, fq11_0, fq11_2, ⟨t89, t90, t92, t93⟩, ⟨s101, s100, s102, s103⟩, pr118, (by rw [(by omega : fq11_0 = 0)]; exact pr117), ⟨s108, by omega, by omega⟩, ⟨s109, by omega, by omega⟩, ⟨s110, by omega, by omega⟩, ⟨by omega, by omega⟩, pr119, pr120⟩
  have hix127 : gIx ty83 c3 0 1024 0 h84 := by
    have e9 := hix126
    rw [(by omega : (h84.2.2.2.1 cq11_3 : Int) = 1024)] at e9
    rw [(by omega : fq11_1 = 0)] at e9
    exact e9
  obtain ⟨z128, ez128, az128, bz128⟩ := gJ.int (k := 18) (G := gGG) sS124.1 t99 rfl rfl rfl
  obtain ⟨z129, ez129, az129, bz129⟩ := gJ.int (k := 19) (G := gGG) sS124.1 t99 rfl rfl rfl
  obtain ⟨z130, ez130, az130, bz130⟩ := gJ.int (k := 21) (G := gGG) sS124.1 t99 rfl rfl rfl
  obtain ⟨z131, ez131, az131, bz131⟩ := gJ.int (k := 22) (G := gGG) sS124.1 t99 rfl rfl rfl
  obtain ⟨z132, ez132, az132, bz132⟩ := gJ.int (k := 20) (G := gGG) sS124.1 t99 rfl rfl rfl
  have him133 : gIm ty83 c19 0 h84 := ⟨fq52_0, z128, z129, z130, z131, z132, fq52_1, fq52_2, fq52_3, t99, ⟨s111, by omega, by omega⟩, ⟨ez128, by omega, by omega⟩, ⟨ez129, by omega, by omega⟩, ⟨ez130, by omega, by omega⟩, ⟨ez131, by omega, by omega⟩, ⟨ez132, by omega, by omega⟩, (fun w9 => absurd w9 (by omega)), ⟨s112, by omega, by omega⟩, (by rw [(by omega : fq52_1 = 0)]; exact pr121), ⟨s113, by omega, by omega⟩, ⟨s114, by omega, by omega⟩, by omega, ⟨(by rw [(by omega : (0 : Int) = fq52_4)]; exact s115), by omega, by omega⟩⟩
  have G134 : gSg [1, 2, 3, 4, 5, 6, 7, 8, 9, 10, 11, 12, 13, 14, 15, 16, 17, 18, 19, 20, 21, 22, 23, 24, 25, 26, 27, 28, 29, 30, 31, 32, 33, 34, 35, 36, 37, 38, 39, 40, 41, 42, 50, 51, 52, 53, 54, 55, 56, 57, 58, 59, 60, 61, 62, 63, 64, 82, 83, 84, 90, 112, 113, 114, 200] [] [8999, 10999, 31999, 53999, 64999] ty h ty83 h84 := gSg.ss G88 sS124 (by decide)
  exact gz_end (I := .iload 4) (len := 2) rfl (Or.inr (by decide)) ⟨ty83, G134, c3, c19, c85, t89, t99, tc85, hix127, him133, uq87, (by dsimp only; omega), (by dsimp only; omega), rfl, rfl, (gLw.s (gLw.s (gLw.s (gLw.s (gLw.s (gLw.n (gLw.n (gLw.n gLw.z))))))))⟩
