/-! ===== stretches of the law (by program) ===== -/
set_option maxRecDepth 20000 in
set_option maxHeartbeats 4000000 in
theorem sg_begin (d : Nat) {ty : Nat → Nat} {h : gH} {Ln : Int} {sc : Nat → Int} (hJ : gJ rT 1027 ty h) (uq : gUq ty) (hyst : gSta ty h) (scr : gScr ty Ln sc h) (no0 : gNo [1, 2, 3, 4, 5, 6, 7, 8, 9, 10, 11, 12, 13, 14, 15, 16, 17, 18, 19, 20, 21, 22, 23, 24, 25, 26, 27, 28, 29, 30, 31, 32, 33, 34, 35, 36, 37, 38, 39, 40, 41, 42, 50, 51, 52, 53, 54, 55, 56, 57, 58, 59, 60, 61, 62, 63, 64, 65, 66, 67, 68, 69, 70, 71, 72, 73, 74, 75, 76, 77, 78, 79, 80, 81, 82, 83, 84, 85, 90, 91, 92, 93, 94, 95, 96, 97, 98, 99] ty) : gz gPP gGG gcn (d + 6) (gtLlaw [23]) 0 [some (.ref 2), none, none, none, none, none, none, none] [] h (fun q L9 => ∃ ty9 : Nat → Nat, gSg [1, 2, 3, 4, 5, 6, 7, 8, 9, 10, 11, 12, 13, 14, 15, 16, 17, 18, 19, 20, 21, 22, 23, 24, 25, 26, 27, 28, 29, 30, 31, 32, 33, 34, 35, 36, 37, 38, 39, 40, 41, 42, 50, 51, 52, 53, 54, 55, 56, 57, 58, 59, 60, 61, 62, 63, 64, 82, 83, 84, 90, 112, 113, 114, 200] [] [8999, 10999, 31999, 53999, 64999] ty h ty9 q.2.2 ∧ ∃ x m o : Nat, ty9 x = 50 ∧ ty9 m = 1 ∧ ty9 o = 90 ∧ gIx ty9 x 0 1024 0 q.2.2 ∧ gIm ty9 m 0 q.2.2 ∧ gRe ty9 q.2.2 ∧ gUq ty9 ∧ (q.2.2.1 : Int) = h.1 + 64 ∧ (q.2.2.2.1 : Int) = h.2.1 + 93470 ∧ q.1 = 23 ∧ q.2.1 = [] ∧ gLw [some (.ref 2), some (.ref x), some (.ref m), some (.ref o), some (.int (zi 0)), none, none, none] L9) := by
  have hS : gSs rT 1027 ty [8999, 10999, 31999, 53999, 64999] h h := gSs.rf hJ
  have G0 : gSg [1, 2, 3, 4, 5, 6, 7, 8, 9, 10, 11, 12, 13, 14, 15, 16, 17, 18, 19, 20, 21, 22, 23, 24, 25, 26, 27, 28, 29, 30, 31, 32, 33, 34, 35, 36, 37, 38, 39, 40, 41, 42, 50, 51, 52, 53, 54, 55, 56, 57, 58, 59, 60, 61, 62, 63, 64, 82, 83, 84, 90, 112, 113, 114, 200] [] [8999, 10999, 31999, 53999, 64999] ty h ty h := gSg.rf hJ (fun x hx => by cases hx)
  refine gs_newo rfl (by decide) rfl hS.1 (gSta.fr hS.2 (by decide) hyst).2.2.1 (fun ty1 h2 c3 g4 tc3 kc3 zc3 nc3 mc3 ec3 dc3 => ?_)
  have mfc3 : h2.2.1 = h.2.1 + 7 := mc3
  have gac3 : h.1 ≤ c3 := by have h8 := G0.2.1; have h9 := hS.2.1; omega
  have nnc3 : 1027 ≤ c3 := by have h8 := (gSta.fr hS.2 (by decide) hyst).2.2.1; omega
  have llc3 := Nat.lt_of_lt_of_eq (Nat.lt_succ_of_le (Nat.le_of_eq ec3)) nc3.symm
  have G5 : gSg [1, 2, 3, 4, 5, 6, 7, 8, 9, 10, 11, 12, 13, 14, 15, 16, 17, 18, 19, 20, 21, 22, 23, 24, 25, 26, 27, 28, 29, 30, 31, 32, 33, 34, 35, 36, 37, 38, 39, 40, 41, 42, 50, 51, 52, 53, 54, 55, 56, 57, 58, 59, 60, 61, 62, 63, 64, 82, 83, 84, 90, 112, 113, 114, 200] [] [8999, 10999, 31999, 53999, 64999] ty h ty1 h2 := gSg.tr (gSg.ss G0 hS (by decide)) g4 (by decide) (by decide) (fun x hx => by cases hx)
  have pr6 : gNo [1, 2, 3, 4, 5, 6, 7, 8, 9, 10, 11, 12, 13, 14, 15, 16, 17, 18, 19, 20, 21, 22, 23, 24, 25, 26, 27, 28, 29, 30, 31, 32, 33, 34, 35, 36, 37, 38, 39, 40, 41, 42, 50, 51, 52, 53, 54, 55, 56, 57, 58, 59, 60, 61, 62, 63, 64, 65, 66, 67, 68, 69, 70, 71, 72, 73, 74, 75, 76, 77, 78, 79, 80, 81, 82, 83, 84, 85, 90, 91, 92, 93, 94, 95, 96, 97, 98, 99] ty1 := gNo.gr g4 (by decide) (gNo.sub (by decide) no0)
  have uq7 := gSg.uq g4 uq (by decide)
  have scr8 := gScr.gr g4 (by decide) (fun x hx => by cases hx) (gScr.fr hS.2 (by decide) scr)
  have hyst9 := gSta.gr g4 (by decide) (fun x hx => by cases hx) (gSta.fr hS.2 (by decide) hyst)
  have sS10 : gSs rT 1027 ty1 [8999, 10999, 31999, 53999, 64999] h2 h2 := gSs.rf g4.1
  refine gz_s 1 (pc' := 4) (L' := [some (.ref 2), none, none, none, none, none, none, none]) (S' := [.ref c3, .ref c3]) rfl ?_
  refine gz_call rfl (by decide) rfl (by decide) (by decide) (gcal_of rfl rfl rfl (Nat.le_of_ble_eq_true rfl) rfl) (ct_DctFilter _ sS10.1 c3 tc3 nnc3 llc3 kc3 zc3 dc3 pr6 uq7) (fun q11 _ wq11 => ?_)
  obtain ⟨pq11, oq11, hq11⟩ := q11
  obtain ⟨tyq11, xq11, cq11_0, cq11_1, cq11_2, cq11_3, cq11_4, cq11_5, cq11_6, cq11_7, ttq11, fq11_0, fq11_1, fq11_2, ecq11_0, tcq11_0, ecq11_1, tcq11_1, ecq11_2, tcq11_2, ecq11_3, tcq11_3, ecq11_4, tcq11_4, ecq11_5, tcq11_5, ecq11_6, tcq11_6, ecq11_7, tcq11_7, trq11_0, gq11, efq11_0, afq11_0, bfq11_0, efq11_1, afq11_1, bfq11_1, efq11_2, afq11_2, bfq11_2, uq11_0, uq11_1, uq11_2, uq11_3, uq11_4, uq11_5, yq11_0, yq11_1, yq11_2, yq11_3, yq11_4, uqq11, noq11_0⟩ := wq11
  dsimp only at uq11_0 uq11_1 uq11_5
  refine ⟨_, gq11, ?_⟩
  show gz gPP gGG gcn _ _ 7 [some (.ref 2), none, none, none, none, none, none, none] [.ref c3] hq11 _
  have G12 : gSg [1, 2, 3, 4, 5, 6, 7, 8, 9, 10, 11, 12, 13, 14, 15, 16, 17, 18, 19, 20, 21, 22, 23, 24, 25, 26, 27, 28, 29, 30, 31, 32, 33, 34, 35, 36, 37, 38, 39, 40, 41, 42, 50, 51, 52, 53, 54, 55, 56, 57, 58, 59, 60, 61, 62, 63, 64, 82, 83, 84, 90, 112, 113, 114, 200] [] [8999, 10999, 31999, 53999, 64999] ty h tyq11 hq11 := gSg.tr (gSg.ss G5 sS10 (by decide)) xq11 (by decide) (by decide) (fun x hx => Or.inl (by rw [List.mem_singleton.mp hx]; exact gac3))
  have pr13 : gNo [1, 2, 3, 4, 5, 6, 7, 8, 9, 10, 11, 12, 13, 14, 15, 16, 17, 18, 19, 20, 21, 22, 23, 24, 25, 26, 27, 28, 29, 30, 31, 32, 33, 34, 35, 36, 37, 38, 39, 40, 41, 42, 65, 66, 67, 68, 69, 70, 71, 72, 73, 74, 75, 76, 77, 78, 79, 80, 81, 85, 90, 91, 92, 93, 94, 95, 96, 97, 98, 99] tyq11 := gNo.gr xq11 (by decide) (gNo.sub (by decide) pr6)
  have scr14 := gScr.gr xq11 (by decide) (fun x hx => by rw [List.mem_singleton.mp hx]; have h9 := nnc3; omega) (gScr.fr sS10.2 (by decide) scr8)
  have hyst15 := gSta.gr xq11 (by decide) (fun x hx => by rw [List.mem_singleton.mp hx]; have h9 := nnc3; omega) (gSta.fr sS10.2 (by decide) hyst9)
  have sS16 : gSs rT 1027 tyq11 [8999, 10999, 31999, 53999, 64999] hq11 hq11 := gSs.rf xq11.1
  refine gz_s 1 (pc' := 8) (L' := [some (.ref 2), some (.ref c3), none, none, none, none, none, none]) (S' := []) rfl ?_
  refine gs_newo rfl (by decide) rfl sS16.1 (Nat.le_of_lt (Nat.lt_of_le_of_lt (gJ.cell sS16.1 trq11_0 rfl).1 (gJ.cell sS16.1 trq11_0 rfl).2.1)) (fun ty17 h18 c19 g20 tc19 kc19 zc19 nc19 mc19 ec19 dc19 => ?_)
  have mfc19 : h18.2.1 = hq11.2.1 + 77 := mc19
  have gac19 : h.1 ≤ c19 := by have h8 := G12.2.1; have h9 := sS16.2.1; omega
  have nnc19 : 1027 ≤ c19 := by have h8 := (Nat.le_of_lt (Nat.lt_of_le_of_lt (gJ.cell sS16.1 trq11_0 rfl).1 (gJ.cell sS16.1 trq11_0 rfl).2.1)); omega
  have llc19 := Nat.lt_of_lt_of_eq (Nat.lt_succ_of_le (Nat.le_of_eq ec19)) nc19.symm
  have G21 : gSg [1, 2, 3, 4, 5, 6, 7, 8, 9, 10, 11, 12, 13, 14, 15, 16, 17, 18, 19, 20, 21, 22, 23, 24, 25, 26, 27, 28, 29, 30, 31, 32, 33, 34, 35, 36, 37, 38, 39, 40, 41, 42, 50, 51, 52, 53, 54, 55, 56, 57, 58, 59, 60, 61, 62, 63, 64, 82, 83, 84, 90, 112, 113, 114, 200] [] [8999, 10999, 31999, 53999, 64999] ty h ty17 h18 := gSg.tr (gSg.ss G12 sS16 (by decide)) g20 (by decide) (by decide) (fun x hx => by cases hx)
  have t22 : ty17 c3 = 50 := gSg.typ g20 sS16.1 trq11_0 rfl
  have t23 : ty17 cq11_0 = 55 := gSg.typ g20 sS16.1 tcq11_0 rfl
  have t24 : ty17 cq11_1 = 54 := gSg.typ g20 sS16.1 tcq11_1 rfl
  have t25 : ty17 cq11_2 = 56 := gSg.typ g20 sS16.1 tcq11_2 rfl
  have t26 : ty17 cq11_3 = 114 := gSg.typ g20 sS16.1 tcq11_3 rfl
  have hl27 : h18.2.2.2.1 cq11_3 = hq11.2.2.2.1 cq11_3 := gSg.len g20 sS16.1 tcq11_3 rfl
  have t28 : ty17 cq11_4 = 57 := gSg.typ g20 sS16.1 tcq11_4 rfl
  have t29 : ty17 cq11_5 = 82 := gSg.typ g20 sS16.1 tcq11_5 rfl
  have t30 : ty17 cq11_6 = 83 := gSg.typ g20 sS16.1 tcq11_6 rfl
  have t31 : ty17 cq11_7 = 84 := gSg.typ g20 sS16.1 tcq11_7 rfl
  have s32 := gSg.at g20 sS16.1 trq11_0 rfl (by decide) ecq11_0
  have s33 := gSg.at g20 sS16.1 trq11_0 rfl (by decide) ecq11_1
  have s34 := gSg.at g20 sS16.1 trq11_0 rfl (by decide) ecq11_2
  have s35 := gSg.at g20 sS16.1 tcq11_2 rfl (by decide) ecq11_3
  have s36 := gSg.at g20 sS16.1 tcq11_1 rfl (by decide) ecq11_4
  have s37 := gSg.at g20 sS16.1 tcq11_4 rfl (by decide) ecq11_5
  have s38 := gSg.at g20 sS16.1 tcq11_4 rfl (by decide) ecq11_6
  have s39 := gSg.at g20 sS16.1 tcq11_4 rfl (by decide) ecq11_7
  have s40 := gSg.at g20 sS16.1 tcq11_0 rfl (by decide) efq11_0
  have s41 := gSg.at g20 sS16.1 tcq11_0 rfl (by decide) efq11_1
  have s42 := gSg.at g20 sS16.1 tcq11_2 rfl (by decide) efq11_2
  have pr43 : gNo [1, 2, 3, 4, 5, 6, 7, 8, 9, 10, 11, 12, 13, 14, 15, 16, 17, 18, 19, 20, 21, 22, 23, 24, 25, 26, 27, 28, 29, 30, 31, 32, 33, 34, 35, 36, 37, 38, 39, 40, 41, 42, 65, 66, 67, 68, 69, 70, 71, 72, 73, 74, 75, 76, 77, 78, 79, 80, 81, 85, 90, 91, 92, 93, 94, 95, 96, 97, 98, 99] ty17 := gNo.gr g20 (by decide) (gNo.sub (by decide) noq11_0)
  have pr44 := gTc.gr g20 sS16.1 (by decide) (by decide) yq11_0
  have pr45 := gPC.gr g20 sS16.1 (by decide) yq11_1
  have pr46 := gOyB.gr g20 sS16.1 rfl (by decide) (by decide) yq11_2
  have pr47 := gRr.gr g20 sS16.1 (by decide) (by decide) yq11_3
  have pr48 := gRw.gr g20 sS16.1 (by decide) (by decide) yq11_4
  have uq49 := gSg.uq g20 uqq11 (by decide)
  have scr50 := gScr.gr g20 (by decide) (fun x hx => by cases hx) (gScr.fr sS16.2 (by decide) scr14)
  have hyst51 := gSta.gr g20 (by decide) (fun x hx => by cases hx) (gSta.fr sS16.2 (by decide) hyst15)
  have sS52 : gSs rT 1027 ty17 [8999, 10999, 31999, 53999, 64999] h18 h18 := gSs.rf g20.1
  refine gz_s 1 (pc' := 12) (L' := [some (.ref 2), some (.ref c3), none, none, none, none, none, none]) (S' := [.ref c19, .ref c19]) rfl ?_
  refine gz_call rfl (by decide) rfl (by decide) (by decide) (gcal_of rfl rfl rfl (Nat.le_of_ble_eq_true rfl) rfl) (ct_Model _ sS52.1 c19 tc19 nnc19 llc19 kc19 zc19 dc19 (gNo.sub (by decide) pr43) uq49) (fun q53 _ wq53 => ?_)
  obtain ⟨pq53, oq53, hq53⟩ := q53
  obtain ⟨tyq53, xq53, fq53_0, fq53_1, fq53_2, fq53_3, fq53_4, trq53_0, gq53, efq53_0, afq53_0, bfq53_0, efq53_1, afq53_1, bfq53_1, efq53_2, afq53_2, bfq53_2, efq53_3, afq53_3, bfq53_3, efq53_4, afq53_4, bfq53_4, uq53_0, uq53_1, uq53_2, uq53_3, uq53_4, uq53_5, uq53_6, yq53_0, yq53_1, uqq53⟩ := wq53
  dsimp only at uq53_5 uq53_6
  refine ⟨_, gq53, ?_⟩
  show gz gPP gGG gcn _ _ 15 [some (.ref 2), some (.ref c3), none, none, none, none, none, none] [.ref c19] hq53 _
  have G54 : gSg [1, 2, 3, 4, 5, 6, 7, 8, 9, 10, 11, 12, 13, 14, 15, 16, 17, 18, 19, 20, 21, 22, 23, 24, 25, 26, 27, 28, 29, 30, 31, 32, 33, 34, 35, 36, 37, 38, 39, 40, 41, 42, 50, 51, 52, 53, 54, 55, 56, 57, 58, 59, 60, 61, 62, 63, 64, 82, 83, 84, 90, 112, 113, 114, 200] [] [8999, 10999, 31999, 53999, 64999] ty h tyq53 hq53 := gSg.tr (gSg.ss G21 sS52 (by decide)) xq53 (by decide) (by decide) (fun x hx => Or.inl (by rw [List.mem_singleton.mp hx]; exact gac19))
  have t55 : tyq53 c3 = 50 := gSg.typ xq53 sS52.1 t22 rfl
  have t56 : tyq53 cq11_0 = 55 := gSg.typ xq53 sS52.1 t23 rfl
  have t57 : tyq53 cq11_1 = 54 := gSg.typ xq53 sS52.1 t24 rfl
  have t58 : tyq53 cq11_2 = 56 := gSg.typ xq53 sS52.1 t25 rfl
  have t59 : tyq53 cq11_3 = 114 := gSg.typ xq53 sS52.1 t26 rfl
  have hl60 : hq53.2.2.2.1 cq11_3 = h18.2.2.2.1 cq11_3 := gSg.len xq53 sS52.1 t26 rfl
  have t61 : tyq53 cq11_4 = 57 := gSg.typ xq53 sS52.1 t28 rfl
  have t62 : tyq53 cq11_5 = 82 := gSg.typ xq53 sS52.1 t29 rfl
  have t63 : tyq53 cq11_6 = 83 := gSg.typ xq53 sS52.1 t30 rfl
  have t64 : tyq53 cq11_7 = 84 := gSg.typ xq53 sS52.1 t31 rfl
  have s65 := gSg.at xq53 sS52.1 t22 rfl (by decide) s32
  have s66 := gSg.at xq53 sS52.1 t22 rfl (by decide) s33
  have s67 := gSg.at xq53 sS52.1 t22 rfl (by decide) s34
  have s68 := gSg.at xq53 sS52.1 t25 rfl (by decide) s35
  have s69 := gSg.at xq53 sS52.1 t24 rfl (by decide) s36
  have s70 := gSg.at xq53 sS52.1 t28 rfl (by decide) s37
  have s71 := gSg.at xq53 sS52.1 t28 rfl (by decide) s38
  have s72 := gSg.at xq53 sS52.1 t28 rfl (by decide) s39
  have s73 := gSg.at xq53 sS52.1 t23 rfl (by decide) s40
  have s74 := gSg.at xq53 sS52.1 t23 rfl (by decide) s41
  have s75 := gSg.at xq53 sS52.1 t25 rfl (by decide) s42
  have pr76 : gNo [65, 66, 67, 68, 69, 70, 71, 72, 73, 74, 75, 76, 77, 78, 79, 80, 81, 85, 90, 91, 92, 93, 94, 95, 96, 97, 98, 99] tyq53 := gNo.gr xq53 (by decide) (gNo.sub (by decide) pr43)
  have pr77 := gTc.gr xq53 sS52.1 (by decide) (by decide) pr44
  have pr78 := gPC.gr xq53 sS52.1 (by decide) pr45
  have pr79 := gOyB.gr xq53 sS52.1 rfl (by decide) (by decide) pr46
  have pr80 := gRr.gr xq53 sS52.1 (by decide) (by decide) pr47
  have pr81 := gRw.gr xq53 sS52.1 (by decide) (by decide) pr48
  have scr82 := gScr.gr xq53 (by decide) (fun x hx => by rw [List.mem_singleton.mp hx]; have h9 := nnc19; omega) (gScr.fr sS52.2 (by decide) scr50)
  have hyst83 := gSta.gr xq53 (by decide) (fun x hx => by rw [List.mem_singleton.mp hx]; have h9 := nnc19; omega) (gSta.fr sS52.2 (by decide) hyst51)
  have sS84 : gSs rT 1027 tyq53 [8999, 10999, 31999, 53999, 64999] hq53 hq53 := gSs.rf xq53.1
  refine gz_s 2 (pc' := 17) (L' := [some (.ref 2), some (.ref c3), some (.ref c19), none, none, none, none, none]) (S' := [.int (zi 1)]) rfl ?_
  refine gs_newr 90 rfl (by decide) rfl sS84.1 (Nat.le_of_lt (Nat.lt_of_le_of_lt (gJ.cell sS84.1 t55 rfl).1 (gJ.cell sS84.1 t55 rfl).2.1)) (by omega) (by omega) rfl rfl (by show (1 : Int) ≤ _; omega) (by show _ ≤ (1 : Int); omega) (fun _ _ => gos_l (by decide) (by decide)) (fun ty85 h86 c87 g88 tc87 lc87 nc87 mc87 ec87 dc87 uc87 => ?_)
  have gac87 : h.1 ≤ c87 := by have h8 := G54.2.1; have h9 := sS84.2.1; omega
  have uq89 := uc87 uqq53 (Or.inr (gNo.sub (by decide) pr76))
  have G90 : gSg [1, 2, 3, 4, 5, 6, 7, 8, 9, 10, 11, 12, 13, 14, 15, 16, 17, 18, 19, 20, 21, 22, 23, 24, 25, 26, 27, 28, 29, 30, 31, 32, 33, 34, 35, 36, 37, 38, 39, 40, 41, 42, 50, 51, 52, 53, 54, 55, 56, 57, 58, 59, 60, 61, 62, 63, 64, 82, 83, 84, 90, 112, 113, 114, 200] [] [8999, 10999, 31999, 53999, 64999] ty h ty85 h86 := gSg.tr (gSg.ss G54 sS84 (by decide)) g88 (by decide) (by decide) (fun x hx => by cases hx)
  have t91 : ty85 c3 = 50 := gSg.typ g88 sS84.1 t55 rfl
  have t92 : ty85 cq11_0 = 55 := gSg.typ g88 sS84.1 t56 rfl
  have t93 : ty85 cq11_1 = 54 := gSg.typ g88 sS84.1 t57 rfl
  have t94 : ty85 cq11_2 = 56 := gSg.typ g88 sS84.1 t58 rfl
  have t95 : ty85 cq11_3 = 114 := gSg.typ g88 sS84.1 t59 rfl
  have hl96 : h86.2.2.2.1 cq11_3 = hq53.2.2.2.1 cq11_3 := gSg.len g88 sS84.1 t59 rfl
  have t97 : ty85 cq11_4 = 57 := gSg.typ g88 sS84.1 t61 rfl
  have t98 : ty85 cq11_5 = 82 := gSg.typ g88 sS84.1 t62 rfl
  have t99 : ty85 cq11_6 = 83 := gSg.typ g88 sS84.1 t63 rfl
  have t100 : ty85 cq11_7 = 84 := gSg.typ g88 sS84.1 t64 rfl
  have t101 : ty85 c19 = 1 := gSg.typ g88 sS84.1 trq53_0 rfl
  have s102 := gSg.at g88 sS84.1 t55 rfl (by decide) s65
  have s103 := gSg.at g88 sS84.1 t55 rfl (by decide) s66
  have s104 := gSg.at g88 sS84.1 t55 rfl (by decide) s67
  have s105 := gSg.at g88 sS84.1 t58 rfl (by decide) s68
  have s106 := gSg.at g88 sS84.1 t57 rfl (by decide) s69
  have s107 := gSg.at g88 sS84.1 t61 rfl (by decide) s70
  have s108 := gSg.at g88 sS84.1 t61 rfl (by decide) s71
  have s109 := gSg.at g88 sS84.1 t61 rfl (by decide) s72
  have s110 := gSg.at g88 sS84.1 t56 rfl (by decide) s73
  have s111 := gSg.at g88 sS84.1 t56 rfl (by decide) s74
  have s112 := gSg.at g88 sS84.1 t58 rfl (by decide) s75
  have s113 := gSg.at g88 sS84.1 trq53_0 rfl (by decide) efq53_0
  have s114 := gSg.at g88 sS84.1 trq53_0 rfl (by decide) efq53_1
  have s115 := gSg.at g88 sS84.1 trq53_0 rfl (by decide) efq53_2
  have s116 := gSg.at g88 sS84.1 trq53_0 rfl (by decide) efq53_3
  have s117 := gSg.at g88 sS84.1 trq53_0 rfl (by decide) efq53_4
  have pr118 : gNo [65, 66, 67, 68, 69, 70, 71, 72, 73, 74, 75, 76, 77, 78, 79, 80, 81, 85, 91, 92, 93, 94, 95, 96, 97, 98, 99] ty85 := gNo.gr g88 (by decide) (gNo.sub (by decide) pr76)
  have pr119 := gTc.gr g88 sS84.1 (by decide) (by decide) pr77
  have pr120 := gPC.gr g88 sS84.1 (by decide) pr78
  have pr121 := gOyB.gr g88 sS84.1 rfl (by decide) (by decide) pr79
  have pr122 := gRr.gr g88 sS84.1 (by decide) (by decide) pr80
  have pr123 := gRw.gr g88 sS84.1 (by decide) (by decide) pr81
  have pr124 := gTs.gr g88 sS84.1 (by decide) (by decide) yq53_0
  have pr125 := gOyB.gr g88 sS84.1 rfl (by decide) (by decide) yq53_1
  have scr126 := gScr.gr g88 (by decide) (fun x hx => by cases hx) (gScr.fr sS84.2 (by decide) scr82)
  have hyst127 := gSta.gr g88 (by decide) (fun x hx => by cases hx) (gSta.fr sS84.2 (by decide) hyst83)
  have sS128 : gSs rT 1027 ty85 [8999, 10999, 31999, 53999, 64999] h86 h86 := gSs.rf g88.1
  refine gz_s 3 (pc' := 23) (L' := [some (.ref 2), some (.ref c3), some (.ref c19), some (.ref c87), some (.int (zi 0)), none, none, none]) (S' := []) rfl ?_
  have hl129 : 1024 ≤ h86.2.2.2.1 cq11_3 ∧ h86.2.2.2.1 cq11_3 ≤ 1000000 := gJ.rowl (G := gGG) sS128.1 t95 rfl
  have hix130 : gIx ty85 c3 0 (h86.2.2.2.1 cq11_3 : Int) fq11_1 h86 := ⟨cq11_1, cq11_5, cq11_6, cq11_7, cq11_0, cq11_2, cq11_3, fq11_0, fq11_2, ⟨t91, t92, t94, t95⟩, ⟨s103, s102, s104, s105⟩, pr120, (by rw [(by omega : fq11_0 = 0)]; exact pr119), ⟨s110, by omega, by omega⟩, ⟨s111, by omega, by omega⟩, ⟨s112, by omega, by omega⟩, ⟨by omega, by omega⟩, pr122, pr123⟩
  have hix131 : gIx ty85 c3 0 1024 0 h86 := by
    have e9 := hix130
    rw [(by omega : (h86.2.2.2.1 cq11_3 : Int) = 1024)] at e9
    rw [(by omega : fq11_1 = 0)] at e9
    exact e9
  obtain ⟨z132, ez132, az132, bz132⟩ := gJ.int (k := 18) (G := gGG) sS128.1 t101 rfl rfl rfl
  obtain ⟨z133, ez133, az133, bz133⟩ := gJ.int (k := 19) (G := gGG) sS128.1 t101 rfl rfl rfl
  obtain ⟨z134, ez134, az134, bz134⟩ := gJ.int (k := 21) (G := gGG) sS128.1 t101 rfl rfl rfl
  obtain ⟨z135, ez135, az135, bz135⟩ := gJ.int (k := 22) (G := gGG) sS128.1 t101 rfl rfl rfl
  obtain ⟨z136, ez136, az136, bz136⟩ := gJ.int (k := 20) (G := gGG) sS128.1 t101 rfl rfl rfl
  have him137 : gIm ty85 c19 0 h86 := ⟨fq53_0, z132, z133, z134, z135, z136, fq53_1, fq53_2, fq53_3, t101, ⟨s113, by omega, by omega⟩, ⟨ez132, by omega, by omega⟩, ⟨ez133, by omega, by omega⟩, ⟨ez134, by omega, by omega⟩, ⟨ez135, by omega, by omega⟩, ⟨ez136, by omega, by omega⟩, (fun w9 => absurd w9 (by omega)), ⟨s114, by omega, by omega⟩, (by rw [(by omega : fq53_1 = 0)]; exact pr124), ⟨s115, by omega, by omega⟩, ⟨s116, by omega, by omega⟩, by omega, ⟨(by rw [(by omega : (0 : Int) = fq53_4)]; exact s117), by omega, by omega⟩⟩
  have G138 : gSg [1, 2, 3, 4, 5, 6, 7, 8, 9, 10, 11, 12, 13, 14, 15, 16, 17, 18, 19, 20, 21, 22, 23, 24, 25, 26, 27, 28, 29, 30, 31, 32, 33, 34, 35, 36, 37, 38, 39, 40, 41, 42, 50, 51, 52, 53, 54, 55, 56, 57, 58, 59, 60, 61, 62, 63, 64, 82, 83, 84, 90, 112, 113, 114, 200] [] [8999, 10999, 31999, 53999, 64999] ty h ty85 h86 := gSg.ss G90 sS128 (by decide)
  exact gz_end (I := .iload 4) (len := 2) rfl (Or.inr (by decide)) ⟨ty85, G138, c3, c19, c87, t91, t101, tc87, hix131, him137, (gRe.oy pr121 pr125), uq89, (by dsimp only; omega), (by dsimp only; omega), rfl, rfl, (gLw.s (gLw.s (gLw.s (gLw.s (gLw.s (gLw.n (gLw.n (gLw.n gLw.z))))))))⟩
