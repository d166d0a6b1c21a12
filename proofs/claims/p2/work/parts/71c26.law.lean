/-! ===== stretches of the law (by program) ===== -/
set_option maxRecDepth 20000 in
set_option maxHeartbeats 4000000 in
theorem sg_begin (d : Nat) {ty : Nat → Nat} {h : gH} {Ln : Int} {sc : Nat → Int} (hJ : gJ rT 1027 ty h) (uq : gUq ty) (hyst : gSta ty h) (hysx : gStx ty h) (scr : gScr ty Ln sc h) (no0 : gNo [1, 2, 3, 4, 5, 6, 7, 8, 9, 10, 11, 12, 13, 14, 15, 16, 17, 18, 19, 20, 21, 22, 23, 24, 25, 26, 27, 28, 29, 30, 31, 32, 33, 34, 35, 36, 37, 38, 39, 40, 41, 42, 50, 51, 52, 53, 54, 55, 56, 57, 58, 59, 60, 61, 62, 63, 64, 65, 66, 67, 68, 69, 70, 71, 72, 73, 74, 75, 76, 77, 78, 79, 80, 81, 82, 83, 84, 85, 90, 91, 92, 93, 94, 95, 96, 97, 98, 99] ty) : gz gPP gGG gcn (d + 6) (gtLlaw [23]) 0 [some (.ref 2), none, none, none, none, none, none, none] [] h (fun q L9 => ∃ ty9 : Nat → Nat, gSg [1, 2, 3, 4, 5, 6, 7, 8, 9, 10, 11, 12, 13, 14, 15, 16, 17, 18, 19, 20, 21, 22, 23, 24, 25, 26, 27, 28, 29, 30, 31, 32, 33, 34, 35, 36, 37, 38, 39, 40, 41, 42, 50, 51, 52, 53, 54, 55, 56, 57, 58, 59, 60, 61, 62, 63, 64, 82, 83, 84, 90, 112, 113, 114, 200] [] [8999, 10999, 31999, 53999, 64999] ty h ty9 q.2.2 ∧ ∃ x m o : Nat, ty9 x = 50 ∧ ty9 m = 1 ∧ ty9 o = 90 ∧ gIx ty9 x 0 1024 0 (((fun _ => 16, fun _ => 0, fun _ => 0, fun _ => 0, fun _ => 0, fun _ => 0, fun _ => -1), (0, 0, 0, fun _ => 0)) : gSS) q.2.2 ∧ gIm ty9 m 0 (((fun _ => 16, fun _ => 0, fun _ => 0, fun _ => 0, fun _ => 0, fun _ => 0, fun _ => -1), (0, 0, 0, fun _ => 0)) : gSS) q.2.2 ∧ gUq ty9 ∧ (q.2.2.1 : Int) = h.1 + 64 ∧ (q.2.2.2.1 : Int) = h.2.1 + 93470 ∧ q.1 = 23 ∧ q.2.1 = [] ∧ gLw [some (.ref 2), some (.ref x), some (.ref m), some (.ref o), some (.int (zi 0)), none, none, none] L9) := by
  have hS : gSs rT 1027 ty [8999, 10999, 31999, 53999, 64999] h h := gSs.rf hJ
  have G0 : gSg [1, 2, 3, 4, 5, 6, 7, 8, 9, 10, 11, 12, 13, 14, 15, 16, 17, 18, 19, 20, 21, 22, 23, 24, 25, 26, 27, 28, 29, 30, 31, 32, 33, 34, 35, 36, 37, 38, 39, 40, 41, 42, 50, 51, 52, 53, 54, 55, 56, 57, 58, 59, 60, 61, 62, 63, 64, 82, 83, 84, 90, 112, 113, 114, 200] [] [8999, 10999, 31999, 53999, 64999] ty h ty h := gSg.rf hJ (fun x hx => by cases hx)
  refine gs_newo rfl (by decide) rfl hS.1 (gSta.fr hS.2 (by decide) hyst).2.2.1 (fun ty1 h2 c3 g4 tc3 kc3 zc3 nc3 mc3 ec3 dc3 => ?_)
  have mfc3 : h2.2.1 = h.2.1 + 7 := mc3
  have gac3 : h.1 ≤ c3 := by have h8 := G0.2.1; have h9 := hS.2.1; omega
  have nnc3 : 1027 ≤ c3 := by have h8 := (gSta.fr hS.2 (by decide) hyst).2.2.1; omega
  have llc3 := Nat.lt_of_lt_of_eq (Nat.lt_succ_of_le (Nat.le_of_eq ec3)) nc3.symm
  have G5 : gSg [1, 2, 3, 4, 5, 6, 7, 8, 9, 10, 11, 12, 13, 14, 15, 16, 17, 18, 19, 20, 21, 22, 23, 24, 25, 26, 27, 28, 29, 30, 31, 32, 33, 34, 35, 36, 37, 38, 39, 40, 41, 42, 50, 51, 52, 53, 54, 55, 56, 57, 58, 59, 60, 61, 62, 63, 64, 82, 83, 84, 90, 112, 113, 114, 200] [] [8999, 10999, 31999, 53999, 64999] ty h ty1 h2 := gSg.tr (gSg.ss G0 hS (by decide)) g4 (by decide) (by decide) (fun x hx => by cases hx)
  have pr6 : gNo [1, 2, 3, 4, 5, 6, 7, 8, 9, 10, 11, 12, 13, 14, 15, 16, 17, 18, 19, 20, 21, 22, 23, 24, 25, 26, 27, 28, 29, 30, 31, 32, 33, 34, 35, 36, 37, 38, 39, 40, 41, 42, 50, 51, 52, 53, 54, 55, 56, 57, 58, 59, 60, 61, 62, 63, 64, 65, 66, 67, 68, 69, 70, 71, 72, 73, 74, 75, 76, 77, 78, 79, 80, 81, 82, 83, 84, 85, 90, 91, 92, 93, 94, 95, 96, 97, 98, 99] ty1 := gNo.gr g4 (by decide) (gNo.sub (by decide) no0)
  have pr7 := gStx.gr g4 (by decide) (fun x hx => by cases hx) hysx
  have uq8 := gSg.uq g4 uq (by decide)
  have scr9 := gScr.gr g4 (by decide) (fun x hx => by cases hx) (gScr.fr hS.2 (by decide) scr)
  have hyst10 := gSta.gr g4 (by decide) (fun x hx => by cases hx) (gSta.fr hS.2 (by decide) hyst)
  have sS11 : gSs rT 1027 ty1 [8999, 10999, 31999, 53999, 64999] h2 h2 := gSs.rf g4.1
  refine gz_s 1 (pc' := 4) (L' := [some (.ref 2), none, none, none, none, none, none, none]) (S' := [.ref c3, .ref c3]) rfl ?_
  refine gz_call rfl (by decide) rfl (by decide) (by decide) (gcal_of rfl rfl rfl (Nat.le_of_ble_eq_true rfl) rfl) (ct_DctFilter _ sS11.1 c3 tc3 nnc3 llc3 kc3 zc3 dc3 pr6 uq8) (fun q12 _ wq12 => ?_)
  obtain ⟨pq12, oq12, hq12⟩ := q12
  obtain ⟨tyq12, xq12, cq12_0, cq12_1, cq12_2, cq12_3, cq12_4, cq12_5, cq12_6, cq12_7, cq12_8, ttq12, fq12_0, fq12_1, fq12_2, fq12_3, fq12_4, fq12_5, ecq12_0, tcq12_0, ecq12_1, tcq12_1, ecq12_2, tcq12_2, ecq12_3, tcq12_3, ecq12_4, tcq12_4, ecq12_5, tcq12_5, ecq12_6, tcq12_6, ecq12_7, tcq12_7, ecq12_8, tcq12_8, trq12_0, gq12, efq12_0, afq12_0, bfq12_0, efq12_1, afq12_1, bfq12_1, efq12_2, afq12_2, bfq12_2, efq12_3, afq12_3, bfq12_3, efq12_4, afq12_4, bfq12_4, efq12_5, afq12_5, bfq12_5, uq12_0, uq12_1, uq12_2, uq12_3, uq12_4, uq12_5, uq12_6, uq12_7, uq12_8, yq12_0, yq12_1, yq12_2, yq12_3, yq12_4, uqq12, noq12_0⟩ := wq12
  dsimp only at uq12_0 uq12_1 uq12_8
  refine ⟨_, gq12, ?_⟩
  show gz gPP gGG gcn _ _ 7 [some (.ref 2), none, none, none, none, none, none, none] [.ref c3] hq12 _
  have G13 : gSg [1, 2, 3, 4, 5, 6, 7, 8, 9, 10, 11, 12, 13, 14, 15, 16, 17, 18, 19, 20, 21, 22, 23, 24, 25, 26, 27, 28, 29, 30, 31, 32, 33, 34, 35, 36, 37, 38, 39, 40, 41, 42, 50, 51, 52, 53, 54, 55, 56, 57, 58, 59, 60, 61, 62, 63, 64, 82, 83, 84, 90, 112, 113, 114, 200] [] [8999, 10999, 31999, 53999, 64999] ty h tyq12 hq12 := gSg.tr (gSg.ss G5 sS11 (by decide)) xq12 (by decide) (by decide) (fun x hx => Or.inl (by rw [List.mem_singleton.mp hx]; exact gac3))
  have pr14 : gNo [1, 2, 3, 4, 5, 6, 7, 8, 9, 10, 11, 12, 13, 14, 15, 16, 17, 18, 19, 20, 21, 22, 23, 24, 25, 26, 27, 28, 29, 30, 31, 32, 33, 34, 35, 36, 37, 38, 39, 40, 41, 42, 65, 66, 67, 68, 69, 70, 71, 72, 73, 74, 75, 76, 77, 78, 79, 80, 81, 85, 90, 91, 92, 93, 94, 95, 96, 97, 98, 99] tyq12 := gNo.gr xq12 (by decide) (gNo.sub (by decide) pr6)
  have pr15 := gStx.gr xq12 (by decide) (fun x hx => by rw [List.mem_singleton.mp hx]; have h9 := nnc3; omega) pr7
  have scr16 := gScr.gr xq12 (by decide) (fun x hx => by rw [List.mem_singleton.mp hx]; have h9 := nnc3; omega) (gScr.fr sS11.2 (by decide) scr9)
  have hyst17 := gSta.gr xq12 (by decide) (fun x hx => by rw [List.mem_singleton.mp hx]; have h9 := nnc3; omega) (gSta.fr sS11.2 (by decide) hyst10)
  have sS18 : gSs rT 1027 tyq12 [8999, 10999, 31999, 53999, 64999] hq12 hq12 := gSs.rf xq12.1
  refine gz_s 1 (pc' := 8) (L' := [some (.ref 2), some (.ref c3), none, none, none, none, none, none]) (S' := []) rfl ?_
  refine gs_newo rfl (by decide) rfl sS18.1 (Nat.le_of_lt (Nat.lt_of_le_of_lt (gJ.cell sS18.1 trq12_0 rfl).1 (gJ.cell sS18.1 trq12_0 rfl).2.1)) (fun ty19 h20 c21 g22 tc21 kc21 zc21 nc21 mc21 ec21 dc21 => ?_)
  have mfc21 : h20.2.1 = hq12.2.1 + 77 := mc21
  have gac21 : h.1 ≤ c21 := by have h8 := G13.2.1; have h9 := sS18.2.1; omega
  have nnc21 : 1027 ≤ c21 := by have h8 := (Nat.le_of_lt (Nat.lt_of_le_of_lt (gJ.cell sS18.1 trq12_0 rfl).1 (gJ.cell sS18.1 trq12_0 rfl).2.1)); omega
  have llc21 := Nat.lt_of_lt_of_eq (Nat.lt_succ_of_le (Nat.le_of_eq ec21)) nc21.symm
  have G23 : gSg [1, 2, 3, 4, 5, 6, 7, 8, 9, 10, 11, 12, 13, 14, 15, 16, 17, 18, 19, 20, 21, 22, 23, 24, 25, 26, 27, 28, 29, 30, 31, 32, 33, 34, 35, 36, 37, 38, 39, 40, 41, 42, 50, 51, 52, 53, 54, 55, 56, 57, 58, 59, 60, 61, 62, 63, 64, 82, 83, 84, 90, 112, 113, 114, 200] [] [8999, 10999, 31999, 53999, 64999] ty h ty19 h20 := gSg.tr (gSg.ss G13 sS18 (by decide)) g22 (by decide) (by decide) (fun x hx => by cases hx)
  have t24 : ty19 c3 = 50 := gSg.typ g22 sS18.1 trq12_0 rfl
  have t25 : ty19 cq12_0 = 55 := gSg.typ g22 sS18.1 tcq12_0 rfl
  have t26 : ty19 cq12_1 = 54 := gSg.typ g22 sS18.1 tcq12_1 rfl
  have t27 : ty19 cq12_2 = 56 := gSg.typ g22 sS18.1 tcq12_2 rfl
  have t28 : ty19 cq12_3 = 51 := gSg.typ g22 sS18.1 tcq12_3 rfl
  have t29 : ty19 cq12_4 = 114 := gSg.typ g22 sS18.1 tcq12_4 rfl
  have hl30 : h20.2.2.2.1 cq12_4 = hq12.2.2.2.1 cq12_4 := gSg.len g22 sS18.1 tcq12_4 rfl
  have t31 : ty19 cq12_5 = 57 := gSg.typ g22 sS18.1 tcq12_5 rfl
  have t32 : ty19 cq12_6 = 82 := gSg.typ g22 sS18.1 tcq12_6 rfl
  have t33 : ty19 cq12_7 = 83 := gSg.typ g22 sS18.1 tcq12_7 rfl
  have t34 : ty19 cq12_8 = 84 := gSg.typ g22 sS18.1 tcq12_8 rfl
  have s35 := gSg.at g22 sS18.1 trq12_0 rfl (by decide) ecq12_0
  have s36 := gSg.at g22 sS18.1 trq12_0 rfl (by decide) ecq12_1
  have s37 := gSg.at g22 sS18.1 trq12_0 rfl (by decide) ecq12_2
  have s38 := gSg.at g22 sS18.1 trq12_0 rfl (by decide) ecq12_3
  have s39 := gSg.at g22 sS18.1 tcq12_2 rfl (by decide) ecq12_4
  have s40 := gSg.at g22 sS18.1 tcq12_1 rfl (by decide) ecq12_5
  have s41 := gSg.at g22 sS18.1 tcq12_5 rfl (by decide) ecq12_6
  have s42 := gSg.at g22 sS18.1 tcq12_5 rfl (by decide) ecq12_7
  have s43 := gSg.at g22 sS18.1 tcq12_5 rfl (by decide) ecq12_8
  have s44 := gSg.at g22 sS18.1 tcq12_0 rfl (by decide) efq12_0
  have s45 := gSg.at g22 sS18.1 tcq12_0 rfl (by decide) efq12_1
  have s46 := gSg.at g22 sS18.1 tcq12_0 rfl (by decide) efq12_2
  have s47 := gSg.at g22 sS18.1 tcq12_0 rfl (by decide) efq12_3
  have s48 := gSg.at g22 sS18.1 tcq12_2 rfl (by decide) efq12_4
  have s49 := gSg.at g22 sS18.1 tcq12_3 rfl (by decide) efq12_5
  have pr50 : gNo [1, 2, 3, 4, 5, 6, 7, 8, 9, 10, 11, 12, 13, 14, 15, 16, 17, 18, 19, 20, 21, 22, 23, 24, 25, 26, 27, 28, 29, 30, 31, 32, 33, 34, 35, 36, 37, 38, 39, 40, 41, 42, 65, 66, 67, 68, 69, 70, 71, 72, 73, 74, 75, 76, 77, 78, 79, 80, 81, 85, 90, 91, 92, 93, 94, 95, 96, 97, 98, 99] ty19 := gNo.gr g22 (by decide) (gNo.sub (by decide) noq12_0)
  have pr51 := gStx.gr g22 (by decide) (fun x hx => by cases hx) pr15
  have pr52 := gTc.gr g22 sS18.1 (by decide) (by decide) yq12_0
  have pr53 := gPC.gr g22 sS18.1 (by decide) yq12_1
  have pr54 := gXr.gr g22 sS18.1 (by decide) (by decide) yq12_2
  have pr55 := gRr.gr g22 sS18.1 (by decide) (by decide) yq12_3
  have pr56 := gRw.gr g22 sS18.1 (by decide) (by decide) yq12_4
  have uq57 := gSg.uq g22 uqq12 (by decide)
  have scr58 := gScr.gr g22 (by decide) (fun x hx => by cases hx) (gScr.fr sS18.2 (by decide) scr16)
  have hyst59 := gSta.gr g22 (by decide) (fun x hx => by cases hx) (gSta.fr sS18.2 (by decide) hyst17)
  have sS60 : gSs rT 1027 ty19 [8999, 10999, 31999, 53999, 64999] h20 h20 := gSs.rf g22.1
  refine gz_s 1 (pc' := 12) (L' := [some (.ref 2), some (.ref c3), none, none, none, none, none, none]) (S' := [.ref c21, .ref c21]) rfl ?_
  refine gz_call rfl (by decide) rfl (by decide) (by decide) (gcal_of rfl rfl rfl (Nat.le_of_ble_eq_true rfl) rfl) (ct_Model _ sS60.1 c21 tc21 nnc21 llc21 kc21 zc21 dc21 (gNo.sub (by decide) pr50) uq57) (fun q61 _ wq61 => ?_)
  obtain ⟨pq61, oq61, hq61⟩ := q61
  obtain ⟨tyq61, xq61, fq61_0, fq61_1, fq61_2, fq61_3, fq61_4, fq61_5, fq61_6, trq61_0, gq61, efq61_0, afq61_0, bfq61_0, efq61_1, afq61_1, bfq61_1, efq61_2, afq61_2, bfq61_2, efq61_3, afq61_3, bfq61_3, efq61_4, afq61_4, bfq61_4, efq61_5, afq61_5, bfq61_5, efq61_6, afq61_6, bfq61_6, uq61_0, uq61_1, uq61_2, uq61_3, uq61_4, uq61_5, uq61_6, uq61_7, uq61_8, yq61_0, yq61_1, yq61_2, uqq61⟩ := wq61
  dsimp only at uq61_7 uq61_8
  refine ⟨_, gq61, ?_⟩
  show gz gPP gGG gcn _ _ 15 [some (.ref 2), some (.ref c3), none, none, none, none, none, none] [.ref c21] hq61 _
  have G62 : gSg [1, 2, 3, 4, 5, 6, 7, 8, 9, 10, 11, 12, 13, 14, 15, 16, 17, 18, 19, 20, 21, 22, 23, 24, 25, 26, 27, 28, 29, 30, 31, 32, 33, 34, 35, 36, 37, 38, 39, 40, 41, 42, 50, 51, 52, 53, 54, 55, 56, 57, 58, 59, 60, 61, 62, 63, 64, 82, 83, 84, 90, 112, 113, 114, 200] [] [8999, 10999, 31999, 53999, 64999] ty h tyq61 hq61 := gSg.tr (gSg.ss G23 sS60 (by decide)) xq61 (by decide) (by decide) (fun x hx => Or.inl (by rw [List.mem_singleton.mp hx]; exact gac21))
  have t63 : tyq61 c3 = 50 := gSg.typ xq61 sS60.1 t24 rfl
  have t64 : tyq61 cq12_0 = 55 := gSg.typ xq61 sS60.1 t25 rfl
  have t65 : tyq61 cq12_1 = 54 := gSg.typ xq61 sS60.1 t26 rfl
  have t66 : tyq61 cq12_2 = 56 := gSg.typ xq61 sS60.1 t27 rfl
  have t67 : tyq61 cq12_3 = 51 := gSg.typ xq61 sS60.1 t28 rfl
  have t68 : tyq61 cq12_4 = 114 := gSg.typ xq61 sS60.1 t29 rfl
  have hl69 : hq61.2.2.2.1 cq12_4 = h20.2.2.2.1 cq12_4 := gSg.len xq61 sS60.1 t29 rfl
  have t70 : tyq61 cq12_5 = 57 := gSg.typ xq61 sS60.1 t31 rfl
  have t71 : tyq61 cq12_6 = 82 := gSg.typ xq61 sS60.1 t32 rfl
  have t72 : tyq61 cq12_7 = 83 := gSg.typ xq61 sS60.1 t33 rfl
  have t73 : tyq61 cq12_8 = 84 := gSg.typ xq61 sS60.1 t34 rfl
  have s74 := gSg.at xq61 sS60.1 t24 rfl (by decide) s35
  have s75 := gSg.at xq61 sS60.1 t24 rfl (by decide) s36
  have s76 := gSg.at xq61 sS60.1 t24 rfl (by decide) s37
  have s77 := gSg.at xq61 sS60.1 t24 rfl (by decide) s38
  have s78 := gSg.at xq61 sS60.1 t27 rfl (by decide) s39
  have s79 := gSg.at xq61 sS60.1 t26 rfl (by decide) s40
  have s80 := gSg.at xq61 sS60.1 t31 rfl (by decide) s41
  have s81 := gSg.at xq61 sS60.1 t31 rfl (by decide) s42
  have s82 := gSg.at xq61 sS60.1 t31 rfl (by decide) s43
  have s83 := gSg.at xq61 sS60.1 t25 rfl (by decide) s44
  have s84 := gSg.at xq61 sS60.1 t25 rfl (by decide) s45
  have s85 := gSg.at xq61 sS60.1 t25 rfl (by decide) s46
  have s86 := gSg.at xq61 sS60.1 t25 rfl (by decide) s47
  have s87 := gSg.at xq61 sS60.1 t27 rfl (by decide) s48
  have s88 := gSg.at xq61 sS60.1 t28 rfl (by decide) s49
  have pr89 : gNo [65, 66, 67, 68, 69, 70, 71, 72, 73, 74, 75, 76, 77, 78, 79, 80, 81, 85, 90, 91, 92, 93, 94, 95, 96, 97, 98, 99] tyq61 := gNo.gr xq61 (by decide) (gNo.sub (by decide) pr50)
  have pr90 := gStx.gr xq61 (by decide) (fun x hx => by rw [List.mem_singleton.mp hx]; have h9 := nnc21; omega) pr51
  have pr91 := gTc.gr xq61 sS60.1 (by decide) (by decide) pr52
  have pr92 := gPC.gr xq61 sS60.1 (by decide) pr53
  have pr93 := gXr.gr xq61 sS60.1 (by decide) (by decide) pr54
  have pr94 := gRr.gr xq61 sS60.1 (by decide) (by decide) pr55
  have pr95 := gRw.gr xq61 sS60.1 (by decide) (by decide) pr56
  have scr96 := gScr.gr xq61 (by decide) (fun x hx => by rw [List.mem_singleton.mp hx]; have h9 := nnc21; omega) (gScr.fr sS60.2 (by decide) scr58)
  have hyst97 := gSta.gr xq61 (by decide) (fun x hx => by rw [List.mem_singleton.mp hx]; have h9 := nnc21; omega) (gSta.fr sS60.2 (by decide) hyst59)
  have sS98 : gSs rT 1027 tyq61 [8999, 10999, 31999, 53999, 64999] hq61 hq61 := gSs.rf xq61.1
  refine gz_s 2 (pc' := 17) (L' := [some (.ref 2), some (.ref c3), some (.ref c21), none, none, none, none, none]) (S' := [.int (zi 1)]) rfl ?_
  refine gs_newr 90 rfl (by decide) rfl sS98.1 (Nat.le_of_lt (Nat.lt_of_le_of_lt (gJ.cell sS98.1 t63 rfl).1 (gJ.cell sS98.1 t63 rfl).2.1)) (by omega) (by omega) rfl rfl (by show (1 : Int) ≤ _; omega) (by show _ ≤ (1 : Int); omega) (fun _ _ => gos_l (by decide) (by decide)) (fun ty99 h100 c101 g102 tc101 lc101 nc101 mc101 ec101 dc101 uc101 => ?_)
  have gac101 : h.1 ≤ c101 := by have h8 := G62.2.1; have h9 := sS98.2.1; omega
  have uq103 := uc101 uqq61 (Or.inr (gNo.sub (by decide) pr89))
  have G104 : gSg [1, 2, 3, 4, 5, 6, 7, 8, 9, 10, 11, 12, 13, 14, 15, 16, 17, 18, 19, 20, 21, 22, 23, 24, 25, 26, 27, 28, 29, 30, 31, 32, 33, 34, 35, 36, 37, 38, 39, 40, 41, 42, 50, 51, 52, 53, 54, 55, 56, 57, 58, 59, 60, 61, 62, 63, 64, 82, 83, 84, 90, 112, 113, 114, 200] [] [8999, 10999, 31999, 53999, 64999] ty h ty99 h100 := gSg.tr (gSg.ss G62 sS98 (by decide)) g102 (by decide) (by decide) (fun x hx => by cases hx)
  have t105 : ty99 c3 = 50 := gSg.typ g102 sS98.1 t63 rfl
  have t106 : ty99 cq12_0 = 55 := gSg.typ g102 sS98.1 t64 rfl
  have t107 : ty99 cq12_1 = 54 := gSg.typ g102 sS98.1 t65 rfl
  have t108 : ty99 cq12_2 = 56 := gSg.typ g102 sS98.1 t66 rfl
  have t109 : ty99 cq12_3 = 51 := gSg.typ g102 sS98.1 t67 rfl
  have t110 : ty99 cq12_4 = 114 := gSg.typ g102 sS98.1 t68 rfl
  have hl111 : h100.2.2.2.1 cq12_4 = hq61.2.2.2.1 cq12_4 := gSg.len g102 sS98.1 t68 rfl
  have t112 : ty99 cq12_5 = 57 := gSg.typ g102 sS98.1 t70 rfl
  have t113 : ty99 cq12_6 = 82 := gSg.typ g102 sS98.1 t71 rfl
  have t114 : ty99 cq12_7 = 83 := gSg.typ g102 sS98.1 t72 rfl
  have t115 : ty99 cq12_8 = 84 := gSg.typ g102 sS98.1 t73 rfl
  have t116 : ty99 c21 = 1 := gSg.typ g102 sS98.1 trq61_0 rfl
  have s117 := gSg.at g102 sS98.1 t63 rfl (by decide) s74
  have s118 := gSg.at g102 sS98.1 t63 rfl (by decide) s75
  have s119 := gSg.at g102 sS98.1 t63 rfl (by decide) s76
  have s120 := gSg.at g102 sS98.1 t63 rfl (by decide) s77
  have s121 := gSg.at g102 sS98.1 t66 rfl (by decide) s78
  have s122 := gSg.at g102 sS98.1 t65 rfl (by decide) s79
  have s123 := gSg.at g102 sS98.1 t70 rfl (by decide) s80
  have s124 := gSg.at g102 sS98.1 t70 rfl (by decide) s81
  have s125 := gSg.at g102 sS98.1 t70 rfl (by decide) s82
  have s126 := gSg.at g102 sS98.1 t64 rfl (by decide) s83
  have s127 := gSg.at g102 sS98.1 t64 rfl (by decide) s84
  have s128 := gSg.at g102 sS98.1 t64 rfl (by decide) s85
  have s129 := gSg.at g102 sS98.1 t64 rfl (by decide) s86
  have s130 := gSg.at g102 sS98.1 t66 rfl (by decide) s87
  have s131 := gSg.at g102 sS98.1 t67 rfl (by decide) s88
  have s132 := gSg.at g102 sS98.1 trq61_0 rfl (by decide) efq61_0
  have s133 := gSg.at g102 sS98.1 trq61_0 rfl (by decide) efq61_1
  have s134 := gSg.at g102 sS98.1 trq61_0 rfl (by decide) efq61_2
  have s135 := gSg.at g102 sS98.1 trq61_0 rfl (by decide) efq61_3
  have s136 := gSg.at g102 sS98.1 trq61_0 rfl (by decide) efq61_4
  have s137 := gSg.at g102 sS98.1 trq61_0 rfl (by decide) efq61_5
  have s138 := gSg.at g102 sS98.1 trq61_0 rfl (by decide) efq61_6
  have pr139 : gNo [65, 66, 67, 68, 69, 70, 71, 72, 73, 74, 75, 76, 77, 78, 79, 80, 81, 85, 91, 92, 93, 94, 95, 96, 97, 98, 99] ty99 := gNo.gr g102 (by decide) (gNo.sub (by decide) pr89)
  have pr140 := gStx.gr g102 (by decide) (fun x hx => by cases hx) pr90
  have pr141 := gTc.gr g102 sS98.1 (by decide) (by decide) pr91
  have pr142 := gPC.gr g102 sS98.1 (by decide) pr92
  have pr143 := gXr.gr g102 sS98.1 (by decide) (by decide) pr93
  have pr144 := gRr.gr g102 sS98.1 (by decide) (by decide) pr94
  have pr145 := gRw.gr g102 sS98.1 (by decide) (by decide) pr95
  have pr146 := gTs.gr g102 sS98.1 (by decide) (by decide) yq61_0
  have pr147 := gMw.gr g102 sS98.1 (by decide) (by decide) yq61_1
  have pr148 := gRn.gr g102 sS98.1 rfl (by decide) (by decide) yq61_2
  have scr149 := gScr.gr g102 (by decide) (fun x hx => by cases hx) (gScr.fr sS98.2 (by decide) scr96)
  have hyst150 := gSta.gr g102 (by decide) (fun x hx => by cases hx) (gSta.fr sS98.2 (by decide) hyst97)
  have sS151 : gSs rT 1027 ty99 [8999, 10999, 31999, 53999, 64999] h100 h100 := gSs.rf g102.1
  refine gz_s 3 (pc' := 23) (L' := [some (.ref 2), some (.ref c3), some (.ref c21), some (.ref c101), some (.int (zi 0)), none, none, none]) (S' := []) rfl ?_
  have hl152 : 1024 ≤ h100.2.2.2.1 cq12_4 ∧ h100.2.2.2.1 cq12_4 ≤ 1000000 := gJ.rowl (G := gGG) sS151.1 t110 rfl
  have hsw153 : gSW ty99 cq12_4 (((fun _ => 16, fun _ => 0, fun _ => 0, fun _ => 0, fun _ => 0, fun _ => 0, fun _ => -1), (0, 0, 0, fun _ => 0)) : gSS).2 h100 := ⟨t110, Int.le_refl 0, fun j hj => absurd hj (by show ¬ (j : Int) < 0; omega)⟩
  have hix154 : gIx ty99 c3 0 (h100.2.2.2.1 cq12_4 : Int) (64 * fq12_2 + fq12_0 + 4096 * fq12_3 + 262144 * fq12_5 + 536870912 * fq12_1) (((fun _ => 16, fun _ => 0, fun _ => 0, fun _ => 0, fun _ => 0, fun _ => 0, fun _ => -1), (0, 0, 0, fun _ => 0)) : gSS) h100 := ⟨cq12_1, cq12_6, cq12_7, cq12_8, cq12_0, cq12_2, cq12_4, cq12_3, fq12_0, fq12_4, fq12_1, fq12_2, fq12_3, fq12_5, ⟨t105, t106, t108, t110⟩, ⟨s118, s117, s119, s121⟩, pr142, (by rw [(by omega : fq12_0 = 0)]; exact pr141), ⟨s126, by omega, by omega⟩, ⟨s127, by omega, by omega⟩, ⟨s130, by omega, by omega⟩, ⟨by omega, by omega⟩, pr144, pr145, ⟨s128, by omega, by omega⟩, ⟨s129, by omega, by omega⟩, by omega, rfl, pr143, ⟨hsw153, (show _ = (0 : Int) by omega)⟩, (by rw [(by omega : fq12_0 = 0)]; exact eTz.zero), t109, s120, ⟨s131, by omega, by omega⟩⟩
  have hix155 : gIx ty99 c3 0 1024 0 (((fun _ => 16, fun _ => 0, fun _ => 0, fun _ => 0, fun _ => 0, fun _ => 0, fun _ => -1), (0, 0, 0, fun _ => 0)) : gSS) h100 := by
    have e9 := hix154
    rw [(by omega : (h100.2.2.2.1 cq12_4 : Int) = 1024)] at e9
    rw [(by omega : (64 * fq12_2 + fq12_0 + 4096 * fq12_3 + 262144 * fq12_5 + 536870912 * fq12_1) = 0)] at e9
    exact e9
  obtain ⟨z156, ez156, az156, bz156⟩ := gJ.int (k := 18) (G := gGG) sS151.1 t116 rfl rfl rfl
  obtain ⟨z157, ez157, az157, bz157⟩ := gJ.int (k := 19) (G := gGG) sS151.1 t116 rfl rfl rfl
  obtain ⟨z158, ez158, az158, bz158⟩ := gJ.int (k := 21) (G := gGG) sS151.1 t116 rfl rfl rfl
  obtain ⟨z159, ez159, az159, bz159⟩ := gJ.int (k := 22) (G := gGG) sS151.1 t116 rfl rfl rfl
  obtain ⟨z160, ez160, az160, bz160⟩ := gJ.int (k := 20) (G := gGG) sS151.1 t116 rfl rfl rfl
  have him161s : gSO ty99 (((fun _ => 16, fun _ => 0, fun _ => 0, fun _ => 0, fun _ => 0, fun _ => 0, fun _ => -1), (0, 0, 0, fun _ => 0)) : gSS).2 h100 := gSO.nil (fun _ => rfl) rfl
  have him161 : gIm ty99 c21 0 (((fun _ => 16, fun _ => 0, fun _ => 0, fun _ => 0, fun _ => 0, fun _ => 0, fun _ => -1), (0, 0, 0, fun _ => 0)) : gSS) h100 := ⟨fq61_0, z156, z157, z158, z159, z160, fq61_1, fq61_2, fq61_3, fq61_4, fq61_6, fq61_5, t116, ⟨s132, by omega, by omega⟩, ⟨ez156, by omega, by omega⟩, ⟨ez157, by omega, by omega⟩, ⟨ez158, by omega, by omega⟩, ⟨ez159, by omega, by omega⟩, ⟨ez160, by omega, by omega⟩, (fun w9 => absurd w9 (by omega)), ⟨s133, by omega, by omega⟩, (by rw [(by omega : fq61_1 = 0)]; exact pr146), ⟨s134, by omega, by omega⟩, ⟨s135, by omega, by omega⟩, by omega, ⟨s136, by omega, by omega⟩, ⟨s138, by omega, by omega⟩, by omega, pr147, pr148, ⟨him161s, (show _ = (0 : Int) by omega)⟩, (by rw [(by omega : fq61_1 = 0)]; exact eTz.zero), ⟨s137, by omega, by omega⟩⟩
  have G162 : gSg [1, 2, 3, 4, 5, 6, 7, 8, 9, 10, 11, 12, 13, 14, 15, 16, 17, 18, 19, 20, 21, 22, 23, 24, 25, 26, 27, 28, 29, 30, 31, 32, 33, 34, 35, 36, 37, 38, 39, 40, 41, 42, 50, 51, 52, 53, 54, 55, 56, 57, 58, 59, 60, 61, 62, 63, 64, 82, 83, 84, 90, 112, 113, 114, 200] [] [8999, 10999, 31999, 53999, 64999] ty h ty99 h100 := gSg.ss G104 sS151 (by decide)
  exact gz_end (I := .iload 4) (len := 2) rfl (Or.inr (by decide)) ⟨ty99, G162, c3, c21, c101, t105, t116, tc101, hix155, him161, uq103, (by dsimp only; omega), (by dsimp only; omega), rfl, rfl, (gLw.s (gLw.s (gLw.s (gLw.s (gLw.s (gLw.n (gLw.n (gLw.n gLw.z))))))))⟩
