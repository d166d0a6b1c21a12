/-! ===== stretches of the law (by program) ===== -/
set_option maxRecDepth 20000 in
set_option maxHeartbeats 4000000 in
theorem sg_begin (d : Nat) {ty : Nat → Nat} {h : gH} {Ln : Int} {sc : Nat → Int} (hJ : gJ rT 1027 ty h) (uq : gUq ty) (hyst : gSta ty h) (scr : gScr ty Ln sc h) (no0 : gNo [1, 2, 3, 4, 5, 6, 7, 8, 9, 10, 11, 12, 13, 14, 15, 16, 17, 18, 19, 20, 21, 22, 23, 24, 25, 26, 27, 28, 29, 30, 31, 32, 33, 34, 35, 36, 37, 38, 39, 40, 41, 42, 50, 51, 52, 53, 54, 55, 56, 57, 58, 59, 60, 61, 62, 63, 64, 65, 66, 67, 68, 69, 70, 71, 72, 73, 74, 75, 76, 77, 78, 79, 80, 81, 82, 83, 84, 85, 90, 91, 92, 93, 94, 95, 96, 97, 98, 99] ty) : gz gPP gGG gcn (d + 6) (gtLlaw [23]) 0 [some (.ref 2), none, none, none, none, none, none, none] [] h (fun q L9 => ∃ ty9 : Nat → Nat, gSg [1, 2, 3, 4, 5, 6, 7, 8, 9, 10, 11, 12, 13, 14, 15, 16, 17, 18, 19, 20, 21, 22, 23, 24, 25, 26, 27, 28, 29, 30, 31, 32, 33, 34, 35, 36, 37, 38, 39, 40, 41, 42, 50, 51, 52, 53, 54, 55, 56, 57, 58, 59, 60, 61, 62, 63, 64, 82, 83, 84, 90, 112, 113, 114, 200] [] [8999, 10999, 31999, 53999, 64999] ty h ty9 q.2.2 ∧ ∃ x m o : Nat, ty9 x = 50 ∧ ty9 m = 1 ∧ ty9 o = 90 ∧ gIx ty9 x 0 1024 0 q.2.2 ∧ gIm ty9 m 0 q.2.2 ∧ gRe ty9 q.2.2 ∧ gUq ty9 ∧ (q.2.2.1 : Int) = h.1 + 64 ∧ (q.2.2.2.1 : Int) = h.2.1 + 93470 ∧ q.1 = 23 ∧ q.2.1 = [] ∧ gLw [some (.ref 2), some (.ref x), some (.ref m), some (.ref o), some (.int (zi 0)), none, none, none] L9) := by
  have hS : gSs rT 1027 ty [8999, 10999, 31999, 53999, 64999] h h := gSs.rf hJ
  have G0 : gSg [1, 2, 3, 4, 5, 6, 7, 8, 9, 10, 11, 12, 13, 14, 15, 16, 17, 18, 19, 20, 21, 22, 23, 24, 25, 26, 27, 28, 29, 30, 31, 32, 33, 34, 35, 36, 37, 38, 39, 40, 41, 42, 50, 51, 52, 53, 54, 55, 56, 57, 58, 59, 60, 61, 62, 63, 64, 82, 83, 84, 90, 112, 113, 114, 200] [] [8999, 10999, 31999, 53999, 64999] ty h ty h := gSg.rf hJ (fun x hx => by cases hx)
  refine gs_newo rfl (by decide) rfl hS.1 (gSta.fr hS.2 (by decide) hyst).2.2.1 (fun ty1 h2 c3 g4 tc3 kc3 zc3 nc3 mc3 ec3 dc3 => ?_)
  have mfc3 : h2.2.1 = h.2.1 + 7 := mc3
  have gac3 : h.1 ≤ c3 := by have h8 := G0.2.1; have h9 := hS.2.1; omega
  have nnc3 : 1027 ≤ c3 := by have h8 := (gSta.fr hS.2 (by decide) hyst).2.2.1; omega
  have llc3 := Nat.lt_of_lt_of_eq (Nat.lt_succ_of_le (Nat.le_of_eq ec3)) nc3.symm
  have G5 : gSg [1, 2, 3, 4, 5, 6, 7, 8, 9, 10, 11, 12, 13, 14, 15, 16, 17, 18, 19, 20, 21, 22, 23, 24, 25, 26, 27, 28, 29, 30, 31, 32, 33, 34, 35, 36, 37, 38, 39, 40, 41, 42, 50, 51, 52, 53, 54, 55, 56, 57, 58, 59, 60, 61, 62, 63, 64, 82, 83, 84, 90, 112, 113, 114, 200] [] [8999, 10999, 31999, 53999, 64999] ty h ty1 h2 := gSg.tr (gSg.ss G0 hS (by decide)) g4 (by decide) (by decide) (fun x hx => by cases hx)
  have pr6 : gNo [1, 2, 3, 4, 5, 6, 7, 8, 9, 10, 11, 12, 13, 14, 15, 16, 17, 18, 19, 20, 21, 22, 23, 24, 25, 26, 27, 28, 29, 30, 31, 32, 33, 34, 35, 36, 37, 38, 39, 40, 41, 42, 50, 51, 52, 53, 54, 55, 56, 57, 58, 59, 60, 61, 62, 63, 64, 65, 66, 67, 68, 69, 70, 71, 72, 73, 74, 75, 76, 77, 78, 79, 80, 81, 82, 83, 84, 85, 90, 91, 92, 93, 94, 95, 96, 97, 98, 99] ty1 := gNo.gr g4 (by decide) (gNo.sub (by decide) no0)
  have uq7 := gSg.uq g4 uq (by decide)
  have scr8 := gScr.gr g4 (by decide) (fun x hx => by cases hx) (gScr.fr hS.2 (by decide) scr)
  have hyst9 := gSta.gr g4 (by decide) (fun x hx => by cases hx) (gSta.fr hS.2 (by decide) hyst)
  have sS10 : gSs rT 1027 ty1 [8999, 10999, 31999, 53999, 64999] h2 h2 := gSs.rf g4.1
  refine gz_s 1 (pc' := 4) (L' := [some (.ref 2), none, none, none, none, none, none, none]) (S' := [.ref c3, .ref c3]) rfl ?_
  refine gz_call rfl (by decide) rfl (by decide) (by decide) (gcal_of rfl rfl rfl (Nat.le_of_ble_eq_true rfl) rfl) (ct_DctFilter _ sS10.1 c3 tc3 nnc3 llc3 kc3 zc3 dc3 pr6 uq7) (fun q11 _ wq11 => ?_)
  obtain ⟨pq11, oq11, hq11⟩ := q11
  obtain ⟨tyq11, xq11, cq11_0, cq11_1, cq11_2, cq11_3, cq11_4, cq11_5, cq11_6, cq11_7, ttq11, fq11_0, fq11_1, fq11_2, fq11_3, ecq11_0, tcq11_0, ecq11_1, tcq11_1, ecq11_2, tcq11_2, ecq11_3, tcq11_3, ecq11_4, tcq11_4, ecq11_5, tcq11_5, ecq11_6, tcq11_6, ecq11_7, tcq11_7, trq11_0, gq11, efq11_0, afq11_0, bfq11_0, efq11_1, afq11_1, bfq11_1, efq11_2, afq11_2, bfq11_2, efq11_3, afq11_3, bfq11_3, uq11_0, uq11_1, uq11_2, uq11_3, uq11_4, uq11_5, uq11_6, yq11_0, yq11_1, yq11_2, yq11_3, yq11_4, uqq11, noq11_0⟩ := wq11
  dsimp only at uq11_0 uq11_1 uq11_6
  refine ⟨_, gq11, ?_⟩
  show gz gPP gGG gcn _ _ 7 [some (.ref 2), none, none, none, none, none, none, none] [.ref c3] hq11 _
  have G12 : gSg [1, 2, 3, 4, 5, 6, 7, 8, 9, 10, 11, 12, 13, 14, 15, 16, 17, 18, 19, 20, 21, 22, 23, 24, 25, 26, 27, 28, 29, 30, 31, 32, 33, 34, 35, 36, 37, 38, 39, 40, 41, 42, 50, 51, 52, 53, 54, 55, 56, 57, 58, 59, 60, 61, 62, 63, 64, 82, 83, 84, 90, 112, 113, 114, 200] [] [8999, 10999, 31999, 53999, 64999] ty h tyq11 hq11 := gSg.tr (gSg.ss G5 sS10 (by decide)) xq11 (by decide) (by decide) (fun x hx => Or.inl (by rw [List.mem_singleton.mp hx]; exact gac3))
  have pr13 : gNo [1, 2, 3, 4, 5, 6, 7, 8, 9, 10, 11, 12, 13, 14, 15, 16, 17, 18, 19, 20, 21, 22, 23, 24, 25, 26, 27, 28, 29, 30, 31, 32, 33, 34, 35, 36, 37, 38, 39, 40, 41, 42, 65, 66, 67, 68, 69, 70, 71, 72, 73, 74, 75, 76, 77, 78, 79, 80, 81, 85, 90, 91, 92, 93, 94, 95, 96, 97, 98, 99] tyq11 := gNo.gr xq11 (by decide) (gNo.sub (by decide) pr6)
  have scr14 := gScr.gr xq11 (by decide) (fun x hx => by rw [List.mem_singleton.mp hx]; have h9 := nnc3; omega) (gScr.fr sS10.2 (by decide) scr8)
  have hyst15 := gSta.gr xq11 (by decide) (fun x hx => by rw [List.mem_singleton.mp hx]; have h9 := nnc3; omega) (gSta.fr sS10.2 (by decide) hyst9)
  have sS16 : gSs rT 1027 tyq11 [8999, 10999, 31999, 53999, 64999] hq11 hq11 := gSs.rf xq11.1
  refine gz_s 1 (pc' := 8) (L' := [some (.ref 2), some (.ref c3), none, none, none, none, none, none]) (S' := []) rfl ?_
  refine gs_newo rfl (by decide) rfl sS16.1 (Nat.le_of_lt (Nat.lt_of_le_of_lt (gJ.cell sS16.1 trq11_0 rfl).1 (gJ.cell sS16.1 trq11_0 rfl).2.1)) (fun ty17 h18 c19 g20 tc19 kc19 zc19 nc19 mc19 ec19 dc19 => ?_)
  have mfc19 : h18.2.1 = hq11.2.1 + 77 := mc19
  have gac19 : h.1 ≤ c19 := by have h8 := G12.2.1; have h9 := sS16.2.1; omega
  have nnc19 : 1027 ≤ c19 := by have h8 := (Nat.le_of_lt (Nat.lt_of_le_of_lt (gJ.cell sS16.1 trq11_0 rfl).1 (gJ.cell sS16.1 trq11_0 rfl).2.1)); omega
  have llc19 := Nat.lt_of_lt_of_eq (Nat.lt_succ_of_le (Nat.le_of_eq ec19)) nc19.symm
  have G21 : gSg [1, 2, 3, 4, 5, 6, 7, 8, 9, 10, 11, 12, 13, 14, 15, 16, 17, 18, 19, 20, 21, 22, 23, 24, 25, 26, 27, 28, 29, 30, 31, 32, 33, 34, 35, 36, 37, 38, 39, 40, 41, 42, 50, 51, 52, 53, 54, 55, 56, 57, 58, 59, 60, 61, 62, 63, 64, 82, 83, 84, 90, 112, 113, 114, 200] [] [8999, 10999, 31999, 53999, 64999] ty h ty17 h18 := gSg.tr (gSg.ss G12 sS16 (by decide)) g20 (by decide) (by decide) (fun x hx => by cases hx)
  have t22 : ty17 c3 = 50 := gSg.typ g20 sS16.1 trq11_0 rfl
  have t23 : ty17 cq11_0 = 55 := gSg.typ g20 sS16.1 tcq11_0 rfl
  have t24 : ty17 cq11_1 = 54 := gSg.typ g20 sS16.1 tcq11_1 rfl
  have t25 : ty17 cq11_2 = 56 := gSg.typ g20 sS16.1 tcq11_2 rfl
  have t26 : ty17 cq11_3 = 114 := gSg.typ g20 sS16.1 tcq11_3 rfl
  have hl27 : h18.2.2.2.1 cq11_3 = hq11.2.2.2.1 cq11_3 := gSg.len g20 sS16.1 tcq11_3 rfl
  have t28 : ty17 cq11_4 = 57 := gSg.typ g20 sS16.1 tcq11_4 rfl
  have t29 : ty17 cq11_5 = 82 := gSg.typ g20 sS16.1 tcq11_5 rfl
  have t30 : ty17 cq11_6 = 83 := gSg.typ g20 sS16.1 tcq11_6 rfl
  have t31 : ty17 cq11_7 = 84 := gSg.typ g20 sS16.1 tcq11_7 rfl
  have s32 := gSg.at g20 sS16.1 trq11_0 rfl (by decide) ecq11_0
  have s33 := gSg.at g20 sS16.1 trq11_0 rfl (by decide) ecq11_1
  have s34 := gSg.at g20 sS16.1 trq11_0 rfl (by decide) ecq11_2
  have s35 := gSg.at g20 sS16.1 tcq11_2 rfl (by decide) ecq11_3
  have s36 := gSg.at g20 sS16.1 tcq11_1 rfl (by decide) ecq11_4
  have s37 := gSg.at g20 sS16.1 tcq11_4 rfl (by decide) ecq11_5
  have s38 := gSg.at g20 sS16.1 tcq11_4 rfl (by decide) ecq11_6
  have s39 := gSg.at g20 sS16.1 tcq11_4 rfl (by decide) ecq11_7
  have s40 := gSg.at g20 sS16.1 tcq11_0 rfl (by decide) efq11_0
  have s41 := gSg.at g20 sS16.1 tcq11_0 rfl (by decide) efq11_1
  have s42 := gSg.at g20 sS16.1 tcq11_0 rfl (by decide) efq11_2
  have s43 := gSg.at g20 sS16.1 tcq11_2 rfl (by decide) efq11_3
  have pr44 : gNo [1, 2, 3, 4, 5, 6, 7, 8, 9, 10, 11, 12, 13, 14, 15, 16, 17, 18, 19, 20, 21, 22, 23, 24, 25, 26, 27, 28, 29, 30, 31, 32, 33, 34, 35, 36, 37, 38, 39, 40, 41, 42, 65, 66, 67, 68, 69, 70, 71, 72, 73, 74, 75, 76, 77, 78, 79, 80, 81, 85, 90, 91, 92, 93, 94, 95, 96, 97, 98, 99] ty17 := gNo.gr g20 (by decide) (gNo.sub (by decide) noq11_0)
  have pr45 := gTc.gr g20 sS16.1 (by decide) (by decide) yq11_0
  have pr46 := gPC.gr g20 sS16.1 (by decide) yq11_1
  have pr47 := gOy.gr g20 sS16.1 rfl (by decide) (by decide) yq11_2
  have pr48 := gRr.gr g20 sS16.1 (by decide) (by decide) yq11_3
  have pr49 := gRw.gr g20 sS16.1 (by decide) (by decide) yq11_4
  have uq50 := gSg.uq g20 uqq11 (by decide)
  have scr51 := gScr.gr g20 (by decide) (fun x hx => by cases hx) (gScr.fr sS16.2 (by decide) scr14)
  have hyst52 := gSta.gr g20 (by decide) (fun x hx => by cases hx) (gSta.fr sS16.2 (by decide) hyst15)
  have sS53 : gSs rT 1027 ty17 [8999, 10999, 31999, 53999, 64999] h18 h18 := gSs.rf g20.1
  refine gz_s 1 (pc' := 12) (L' := [some (.ref 2), some (.ref c3), none, none, none, none, none, none]) (S' := [.ref c19, .ref c19]) rfl ?_
  refine gz_call rfl (by decide) rfl (by decide) (by decide) (gcal_of rfl rfl rfl (Nat.le_of_ble_eq_true rfl) rfl) (ct_Model _ sS53.1 c19 tc19 nnc19 llc19 kc19 zc19 dc19 (gNo.sub (by decide) pr44) uq50) (fun q54 _ wq54 => ?_)
  obtain ⟨pq54, oq54, hq54⟩ := q54
  obtain ⟨tyq54, xq54, fq54_0, fq54_1, fq54_2, fq54_3, fq54_4, trq54_0, gq54, efq54_0, afq54_0, bfq54_0, efq54_1, afq54_1, bfq54_1, efq54_2, afq54_2, bfq54_2, efq54_3, afq54_3, bfq54_3, efq54_4, afq54_4, bfq54_4, uq54_0, uq54_1, uq54_2, uq54_3, uq54_4, uq54_5, uq54_6, yq54_0, yq54_1, uqq54⟩ := wq54
  dsimp only at uq54_5 uq54_6
  refine ⟨_, gq54, ?_⟩
  show gz gPP gGG gcn _ _ 15 [some (.ref 2), some (.ref c3), none, none, none, none, none, none] [.ref c19] hq54 _
  have G55 : gSg [1, 2, 3, 4, 5, 6, 7, 8, 9, 10, 11, 12, 13, 14, 15, 16, 17, 18, 19, 20, 21, 22, 23, 24, 25, 26, 27, 28, 29, 30, 31, 32, 33, 34, 35, 36, 37, 38, 39, 40, 41, 42, 50, 51, 52, 53, 54, 55, 56, 57, 58, 59, 60, 61, 62, 63, 64, 82, 83, 84, 90, 112, 113, 114, 200] [] [8999, 10999, 31999, 53999, 64999] ty h tyq54 hq54 := gSg.tr (gSg.ss G21 sS53 (by decide)) xq54 (by decide) (by decide) (fun x hx => Or.inl (by rw [List.mem_singleton.mp hx]; exact gac19))
  have t56 : tyq54 c3 = 50 := gSg.typ xq54 sS53.1 t22 rfl
  have t57 : tyq54 cq11_0 = 55 := gSg.typ xq54 sS53.1 t23 rfl
  have t58 : tyq54 cq11_1 = 54 := gSg.typ xq54 sS53.1 t24 rfl
  have t59 : tyq54 cq11_2 = 56 := gSg.typ xq54 sS53.1 t25 rfl
  have t60 : tyq54 cq11_3 = 114 := gSg.typ xq54 sS53.1 t26 rfl
  have hl61 : hq54.2.2.2.1 cq11_3 = h18.2.2.2.1 cq11_3 := gSg.len xq54 sS53.1 t26 rfl
  have t62 : tyq54 cq11_4 = 57 := gSg.typ xq54 sS53.1 t28 rfl
  have t63 : tyq54 cq11_5 = 82 := gSg.typ xq54 sS53.1 t29 rfl
  have t64 : tyq54 cq11_6 = 83 := gSg.typ xq54 sS53.1 t30 rfl
  have t65 : tyq54 cq11_7 = 84 := gSg.typ xq54 sS53.1 t31 rfl
  have s66 := gSg.at xq54 sS53.1 t22 rfl (by decide) s32
  have s67 := gSg.at xq54 sS53.1 t22 rfl (by decide) s33
  have s68 := gSg.at xq54 sS53.1 t22 rfl (by decide) s34
  have s69 := gSg.at xq54 sS53.1 t25 rfl (by decide) s35
  have s70 := gSg.at xq54 sS53.1 t24 rfl (by decide) s36
  have s71 := gSg.at xq54 sS53.1 t28 rfl (by decide) s37
  have s72 := gSg.at xq54 sS53.1 t28 rfl (by decide) s38
  have s73 := gSg.at xq54 sS53.1 t28 rfl (by decide) s39
  have s74 := gSg.at xq54 sS53.1 t23 rfl (by decide) s40
  have s75 := gSg.at xq54 sS53.1 t23 rfl (by decide) s41
  have s76 := gSg.at xq54 sS53.1 t23 rfl (by decide) s42
  have s77 := gSg.at xq54 sS53.1 t25 rfl (by decide) s43
  have pr78 : gNo [65, 66, 67, 68, 69, 70, 71, 72, 73, 74, 75, 76, 77, 78, 79, 80, 81, 85, 90, 91, 92, 93, 94, 95, 96, 97, 98, 99] tyq54 := gNo.gr xq54 (by decide) (gNo.sub (by decide) pr44)
  have pr79 := gTc.gr xq54 sS53.1 (by decide) (by decide) pr45
  have pr80 := gPC.gr xq54 sS53.1 (by decide) pr46
  have pr81 := gOy.gr xq54 sS53.1 rfl (by decide) (by decide) pr47
  have pr82 := gRr.gr xq54 sS53.1 (by decide) (by decide) pr48
  have pr83 := gRw.gr xq54 sS53.1 (by decide) (by decide) pr49
  have scr84 := gScr.gr xq54 (by decide) (fun x hx => by rw [List.mem_singleton.mp hx]; have h9 := nnc19; omega) (gScr.fr sS53.2 (by decide) scr51)
  have hyst85 := gSta.gr xq54 (by decide) (fun x hx => by rw [List.mem_singleton.mp hx]; have h9 := nnc19; omega) (gSta.fr sS53.2 (by decide) hyst52)
  have sS86 : gSs rT 1027 tyq54 [8999, 10999, 31999, 53999, 64999] hq54 hq54 := gSs.rf xq54.1
  refine gz_s 2 (pc' := 17) (L' := [some (.ref 2), some (.ref c3), some (.ref c19), none, none, none, none, none]) (S' := [.int (zi 1)]) rfl ?_
  refine gs_newr 90 rfl (by decide) rfl sS86.1 (Nat.le_of_lt (Nat.lt_of_le_of_lt (gJ.cell sS86.1 t56 rfl).1 (gJ.cell sS86.1 t56 rfl).2.1)) (by omega) (by omega) rfl rfl (by show (1 : Int) ≤ _; omega) (by show _ ≤ (1 : Int); omega) (fun _ _ => gos_l (by decide) (by decide)) (fun ty87 h88 c89 g90 tc89 lc89 nc89 mc89 ec89 dc89 uc89 => ?_)
  have gac89 : h.1 ≤ c89 := by have h8 := G55.2.1; have h9 := sS86.2.1; omega
  have uq91 := uc89 uqq54 (Or.inr (gNo.sub (by decide) pr78))
  have G92 : gSg [1, 2, 3, 4, 5, 6, 7, 8, 9, 10, 11, 12, 13, 14, 15, 16, 17, 18, 19, 20, 21, 22, 23, 24, 25, 26, 27, 28, 29, 30, 31, 32, 33, 34, 35, 36, 37, 38, 39, 40, 41, 42, 50, 51, 52, 53, 54, 55, 56, 57, 58, 59, 60, 61, 62, 63, 64, 82, 83, 84, 90, 112, 113, 114, 200] [] [8999, 10999, 31999, 53999, 64999] ty h ty87 h88 := gSg.tr (gSg.ss G55 sS86 (by decide)) g90 (by decide) (by decide) (fun x hx => by cases hx)
  have t93 : ty87 c3 = 50 := gSg.typ g90 sS86.1 t56 rfl
  have t94 : ty87 cq11_0 = 55 := gSg.typ g90 sS86.1 t57 rfl
  have t95 : ty87 cq11_1 = 54 := gSg.typ g90 sS86.1 t58 rfl
  have t96 : ty87 cq11_2 = 56 := gSg.typ g90 sS86.1 t59 rfl
  have t97 : ty87 cq11_3 = 114 := gSg.typ g90 sS86.1 t60 rfl
  have hl98 : h88.2.2.2.1 cq11_3 = hq54.2.2.2.1 cq11_3 := gSg.len g90 sS86.1 t60 rfl
  have t99 : ty87 cq11_4 = 57 := gSg.typ g90 sS86.1 t62 rfl
  have t100 : ty87 cq11_5 = 82 := gSg.typ g90 sS86.1 t63 rfl
  have t101 : ty87 cq11_6 = 83 := gSg.typ g90 sS86.1 t64 rfl
  have t102 : ty87 cq11_7 = 84 := gSg.typ g90 sS86.1 t65 rfl
  have t103 : ty87 c19 = 1 := gSg.typ g90 sS86.1 trq54_0 rfl
  have s104 := gSg.at g90 sS86.1 t56 rfl (by decide) s66
  have s105 := gSg.at g90 sS86.1 t56 rfl (by decide) s67
  have s106 := gSg.at g90 sS86.1 t56 rfl (by decide) s68
  have s107 := gSg.at g90 sS86.1 t59 rfl (by decide) s69
  have s108 := gSg.at g90 sS86.1 t58 rfl (by decide) s70
  have s109 := gSg.at g90 sS86.1 t62 rfl (by decide) s71
  have s110 := gSg.at g90 sS86.1 t62 rfl (by decide) s72
  have s111 := gSg.at g90 sS86.1 t62 rfl (by decide) s73
  have s112 := gSg.at g90 sS86.1 t57 rfl (by decide) s74
  have s113 := gSg.at g90 sS86.1 t57 rfl (by decide) s75
  have s114 := gSg.at g90 sS86.1 t57 rfl (by decide) s76
  have s115 := gSg.at g90 sS86.1 t59 rfl (by decide) s77
  have s116 := gSg.at g90 sS86.1 trq54_0 rfl (by decide) efq54_0
  have s117 := gSg.at g90 sS86.1 trq54_0 rfl (by decide) efq54_1
  have s118 := gSg.at g90 sS86.1 trq54_0 rfl (by decide) efq54_2
  have s119 := gSg.at g90 sS86.1 trq54_0 rfl (by decide) efq54_3
  have s120 := gSg.at g90 sS86.1 trq54_0 rfl (by decide) efq54_4
  have pr121 : gNo [65, 66, 67, 68, 69, 70, 71, 72, 73, 74, 75, 76, 77, 78, 79, 80, 81, 85, 91, 92, 93, 94, 95, 96, 97, 98, 99] ty87 := gNo.gr g90 (by decide) (gNo.sub (by decide) pr78)
  have pr122 := gTc.gr g90 sS86.1 (by decide) (by decide) pr79
  have pr123 := gPC.gr g90 sS86.1 (by decide) pr80
  have pr124 := gOy.gr g90 sS86.1 rfl (by decide) (by decide) pr81
  have pr125 := gRr.gr g90 sS86.1 (by decide) (by decide) pr82
  have pr126 := gRw.gr g90 sS86.1 (by decide) (by decide) pr83
  have pr127 := gTs.gr g90 sS86.1 (by decide) (by decide) yq54_0
  have pr128 := gOy.gr g90 sS86.1 rfl (by decide) (by decide) yq54_1
  have scr129 := gScr.gr g90 (by decide) (fun x hx => by cases hx) (gScr.fr sS86.2 (by decide) scr84)
  have hyst130 := gSta.gr g90 (by decide) (fun x hx => by cases hx) (gSta.fr sS86.2 (by decide) hyst85)
  have sS131 : gSs rT 1027 ty87 [8999, 10999, 31999, 53999, 64999] h88 h88 := gSs.rf g90.1
  refine gz_s 3 (pc' := 23) (L' := [some (.ref 2), some (.ref c3), some (.ref c19), some (.ref c89), some (.int (zi 0)), none, none, none]) (S' := []) rfl ?_
  have hl132 : 1024 ≤ h88.2.2.2.1 cq11_3 ∧ h88.2.2.2.1 cq11_3 ≤ 1000000 := gJ.rowl (G := gGG) sS131.1 t97 rfl
  have hix133 : gIx ty87 c3 0 (h88.2.2.2.1 cq11_3 : Int) (64 * fq11_2 + fq11_0) h88 := ⟨cq11_1, cq11_5, cq11_6, cq11_7, cq11_0, cq11_2, cq11_3, fq11_0, fq11_3, fq11_1, fq11_2, ⟨t93, t94, t96, t97⟩, ⟨s105, s104, s106, s107⟩, pr123, (by rw [(by omega : fq11_0 = 0)]; exact pr122), ⟨s112, by omega, by omega⟩, ⟨s113, by omega, by omega⟩, ⟨s115, by omega, by omega⟩, ⟨by omega, by omega⟩, pr125, pr126, ⟨s114, by omega, by omega⟩, rfl⟩
  have hix134 : gIx ty87 c3 0 1024 0 h88 := by
    have e9 := hix133
    rw [(by omega : (h88.2.2.2.1 cq11_3 : Int) = 1024)] at e9
    rw [(by omega : (64 * fq11_2 + fq11_0) = 0)] at e9
    exact e9
  obtain ⟨z135, ez135, az135, bz135⟩ := gJ.int (k := 18) (G := gGG) sS131.1 t103 rfl rfl rfl
  obtain ⟨z136, ez136, az136, bz136⟩ := gJ.int (k := 19) (G := gGG) sS131.1 t103 rfl rfl rfl
  obtain ⟨z137, ez137, az137, bz137⟩ := gJ.int (k := 21) (G := gGG) sS131.1 t103 rfl rfl rfl
  obtain ⟨z138, ez138, az138, bz138⟩ := gJ.int (k := 22) (G := gGG) sS131.1 t103 rfl rfl rfl
  obtain ⟨z139, ez139, az139, bz139⟩ := gJ.int (k := 20) (G := gGG) sS131.1 t103 rfl rfl rfl
  have him140 : gIm ty87 c19 0 h88 := ⟨fq54_0, z135, z136, z137, z138, z139, fq54_1, fq54_2, fq54_3, fq54_4, t103, ⟨s116, by omega, by omega⟩, ⟨ez135, by omega, by omega⟩, ⟨ez136, by omega, by omega⟩, ⟨ez137, by omega, by omega⟩, ⟨ez138, by omega, by omega⟩, ⟨ez139, by omega, by omega⟩, (fun w9 => absurd w9 (by omega)), ⟨s117, by omega, by omega⟩, (by rw [(by omega : fq54_1 = 0)]; exact pr127), ⟨s118, by omega, by omega⟩, ⟨s119, by omega, by omega⟩, by omega, ⟨s120, by omega, by omega⟩, by omega⟩
  have G141 : gSg [1, 2, 3, 4, 5, 6, 7, 8, 9, 10, 11, 12, 13, 14, 15, 16, 17, 18, 19, 20, 21, 22, 23, 24, 25, 26, 27, 28, 29, 30, 31, 32, 33, 34, 35, 36, 37, 38, 39, 40, 41, 42, 50, 51, 52, 53, 54, 55, 56, 57, 58, 59, 60, 61, 62, 63, 64, 82, 83, 84, 90, 112, 113, 114, 200] [] [8999, 10999, 31999, 53999, 64999] ty h ty87 h88 := gSg.ss G92 sS131 (by decide)
  exact gz_end (I := .iload 4) (len := 2) rfl (Or.inr (by decide)) ⟨ty87, G141, c3, c19, c89, t93, t103, tc89, hix134, him140, (gRe.oy pr124 pr128), uq91, (by dsimp only; omega), (by dsimp only; omega), rfl, rfl, (gLw.s (gLw.s (gLw.s (gLw.s (gLw.s (gLw.n (gLw.n (gLw.n gLw.z))))))))⟩
