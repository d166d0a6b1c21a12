/-! ===== stretches of the law (by program) ===== -/
set_option maxRecDepth 20000 in
set_option maxHeartbeats 4000000 in
theorem sg_begin (d : Nat) {ty : Nat → Nat} {h : gH} {Ln : Int} {sc : Nat → Int} (hJ : gJ rT 1027 ty h) (uq : gUq ty) (hyst : gSta ty h) (hysx : gStx ty h) (scr : gScr ty Ln sc h) (no0 : gNo [1, 2, 3, 4, 5, 6, 7, 8, 9, 10, 11, 12, 13, 14, 15, 16, 17, 18, 19, 20, 21, 22, 23, 24, 25, 26, 27, 28, 29, 30, 31, 32, 33, 34, 35, 36, 37, 38, 39, 40, 41, 42, 50, 51, 52, 53, 54, 55, 56, 57, 58, 59, 60, 61, 62, 63, 64, 65, 66, 67, 68, 69, 70, 71, 72, 73, 74, 75, 76, 77, 78, 79, 80, 81, 82, 83, 84, 85, 90, 91, 92, 93, 94, 95, 96, 97, 98, 99] ty) : gz gPP gGG gcn (d + 6) (gtLlaw [23]) 0 [some (.ref 2), none, none, none, none, none, none, none] [] h (fun q L9 => ∃ ty9 : Nat → Nat, gSg [1, 2, 3, 4, 5, 6, 7, 8, 9, 10, 11, 12, 13, 14, 15, 16, 17, 18, 19, 20, 21, 22, 23, 24, 25, 26, 27, 28, 29, 30, 31, 32, 33, 34, 35, 36, 37, 38, 39, 40, 41, 42, 50, 51, 52, 53, 54, 55, 56, 57, 58, 59, 60, 61, 62, 63, 64, 82, 83, 84, 90, 112, 113, 114, 200] [] [8999, 10999, 31999, 53999, 64999] ty h ty9 q.2.2 ∧ ∃ x m o : Nat, ty9 x = 50 ∧ ty9 m = 1 ∧ ty9 o = 90 ∧ gIx ty9 x 0 1024 0 (((fun _ => 16, fun _ => 0, fun _ => 0, fun _ => 0, fun _ => 0, fun _ => 0, fun _ => -1), (0, 0, 0, fun _ => 0)) : gSS) q.2.2 ∧ gIm ty9 m 0 (((fun _ => 16, fun _ => 0, fun _ => 0, fun _ => 0, fun _ => 0, fun _ => 0, fun _ => -1), (0, 0, 0, fun _ => 0)) : gSS) q.2.2 ∧ gUq ty9 ∧ (q.2.2.1 : Int) = h.1 + 64 ∧ (q.2.2.2.1 : Int) = h.2.1 + 93470 ∧ q.1 = 23 ∧ q.2.1 = [] ∧ gLw [some (.ref 2), some (.ref x), some (.ref m), some (.ref o), some (.int (zi 0)), none, none, none] L9) := by
  have hS : gSs rT 1027 ty [8999, 10999, 31999, 53999, 64999] h h := gSs.rf hJ
  have G0 : gSg [1, 2, 3, 4, 5, 6, 7, 8, 9, 10, 11, 12, 13, 14, 15, 16, 17, 18, 19, 20, 21, 22, 23, 24, 25, 26, 27, 28, 29, 30, 31, 32, 33, 34, 35, 36, 37, 38, 39, 40, 41, 42, 50, 51, 52, 53, 54, 55, 56, 57, 58, 59, 60, 61, 62, 63, 64, 82, 83, 84, 90, 112, 113, 114, 200] [] [8999, 10999, 31999, 53999, 64999] ty h ty h := gSg.rf hJ (fun x hx => by cases hx)
  refine gs_newo rfl (by decide) rfl hS.1 (gSta.fr hS.2 (by decide) hyst).2.2.1 (fun ty1 h2 c3 g4 tc3 kc3 zc3 nc3 mc3 ec3 dc3 => ?_)
  have mfc3 : h2.2.1 = h.2.1 + 7 := mc3
  have gac3 : h.1 ≤ c3 := by have h8 := G0.2.1; have h9 := hS.2.1; omega
  have nnc3 : 1027 ≤ c3 := by have h8 := (gSta.fr hS.2 (by decide) hyst).2.2.1; omega
  have llc3 := Nat.lt_of_lt_of_eq (Nat.lt_succ_of_le (Nat.le_of_eq ec3)) nc3.symm
  have G5 : gSg [1, 2, 3, 4, 5, 6, 7, 8, 9, 10, 11, 12, 13, 14, 15, 16, 17, 18, 19, 20, 21, 22, 23, 24, 25, 26, 27, 28, 29, 30, 31, 32, 33, 34, 35, 36, 37, 38, 39, 40, 41, 42, 50, 51, 52, 53, 54, 55, 56, 57, 58, 59, 60, 61, 62, 63, 64, 82, 83, 84, 90, 112, 113, 114, 200] [] [8999, 10999, 31999, 53999, 64999] ty h ty1 h2 := gSg.tr (gSg.ss G0 hS (by decide)) g4 (by decide) (by decide) (fun x hx => by cases hx)
  have pr6 : gNo [1, 2, 3, 4, 5, 6, 7, 8, 9, 10, 11, 12, 13, 14, 15, 16, 17, 18, 19, 20, 21, 22, 23, 24, 25, 26, 27, 28, 29, 30, 31, 32, 33, 34, 35, 36, 37, 38, 39, 40, 41, 42, 50, 51, 52, 53, 54, 55, 56, 57, 58, 59, 60, 61, 62, 63, 64, 65, 66, 67, 68, 69, 70, 71, 72, 73, 74, 75, 76, 77, 78, 79, 80, 81, 82, 83, 84, 85, 90, 91, 92, 93, 94, 95, 96, 97, 98, 99] ty1 := gNo.gr g4 (by decide) (gNo.sub (by decide) no0)
  have pr7 := gStx.gr g4 (by decide) (fun x hx => by cases hx) hysx
  have uq8 := gSg.uq g4 uq (by decide)
  have scr9 := gScr.gr g4 (by decide) (fun x hx => by cases hx) (gScr.fr hS.2 (by decide) scr)
  have hyst10 := gSta.gr g4 (by decide) (fun x hx => by cases hx) (gSta.fr hS.2 (by decide) hyst)
  have sS11 : gSs rT 1027 ty1 [8999, 10999, 31999, 53999, 64999] h2 h2 := gSs.rf g4.1
  refine gz_s 1 (pc' := 4) (L' := [some (.ref 2), none, none, none, none, none, none, none]) (S' := [.ref c3, .ref c3]) rfl ?_
  refine gz_call rfl (by decide) rfl (by decide) (by decide) (gcal_of rfl rfl rfl (Nat.le_of_ble_eq_true rfl) rfl) (ct_DctFilter _ sS11.1 c3 tc3 nnc3 llc3 kc3 zc3 dc3 pr6 uq8) (fun q12 _ wq12 => ?_)
  obtain ⟨pq12, oq12, hq12⟩ := q12
  obtain ⟨tyq12, xq12, cq12_0, cq12_1, cq12_2, cq12_3, cq12_4, cq12_5, cq12_6, cq12_7, ttq12, fq12_0, fq12_1, fq12_2, fq12_3, fq12_4, ecq12_0, tcq12_0, ecq12_1, tcq12_1, ecq12_2, tcq12_2, ecq12_3, tcq12_3, ecq12_4, tcq12_4, ecq12_5, tcq12_5, ecq12_6, tcq12_6, ecq12_7, tcq12_7, trq12_0, gq12, efq12_0, afq12_0, bfq12_0, efq12_1, afq12_1, bfq12_1, efq12_2, afq12_2, bfq12_2, efq12_3, afq12_3, bfq12_3, efq12_4, afq12_4, bfq12_4, uq12_0, uq12_1, uq12_2, uq12_3, uq12_4, uq12_5, uq12_6, uq12_7, yq12_0, yq12_1, yq12_2, yq12_3, yq12_4, uqq12, noq12_0⟩ := wq12
  dsimp only at uq12_0 uq12_1 uq12_7
  refine ⟨_, gq12, ?_⟩
  show gz gPP gGG gcn _ _ 7 [some (.ref 2), none, none, none, none, none, none, none] [.ref c3] hq12 _
  have G13 : gSg [1, 2, 3, 4, 5, 6, 7, 8, 9, 10, 11, 12, 13, 14, 15, 16, 17, 18, 19, 20, 21, 22, 23, 24, 25, 26, 27, 28, 29, 30, 31, 32, 33, 34, 35, 36, 37, 38, 39, 40, 41, 42, 50, 51, 52, 53, 54, 55, 56, 57, 58, 59, 60, 61, 62, 63, 64, 82, 83, 84, 90, 112, 113, 114, 200] [] [8999, 10999, 31999, 53999, 64999] ty h tyq12 hq12 := gSg.tr (gSg.ss G5 sS11 (by decide)) xq12 (by decide) (by decide) (fun x hx => Or.inl (by rw [List.mem_singleton.mp hx]; exact gac3))
  have pr14 : gNo [1, 2, 3, 4, 5, 6, 7, 8, 9, 10, 11, 12, 13, 14, 15, 16, 17, 18, 19, 20, 21, 22, 23, 24, 25, 26, 27, 28, 29, 30, 31, 32, 33, 34, 35, 36, 37, 38, 39, 40, 41, 42, 65, 66, 67, 68, 69, 70, 71, 72, 73, 74, 75, 76, 77, 78, 79, 80, 81, 85, 90, 91, 92, 93, 94, 95, 96, 97, 98, 99] tyq12 := gNo.gr xq12 (by decide) (gNo.sub (by decide) pr6)
  have pr15 := gStx.gr xq12 (by decide) (fun x hx => by rw [List.mem_singleton.mp hx]; have h9 := nnc3; omega) pr7
  have scr16 := gScr.gr xq12 (by decide) (fun x hx => by rw [List.mem_singleton.mp hx]; have h9 := nnc3; omega) (gScr.fr sS11.2 (by decide) scr9)
  have hyst17 := gSta.gr xq12 (by decide) (fun x hx => by rw [List.mem_singleton.mp hx]; have h9 := nnc3; omega) (gSta.fr sS11.2 (by decide) hyst10)
  have sS18 : gSs rT 1027 tyq12 [8999, 10999, 31999, 53999, 64999] hq12 hq12 := gSs.rf xq12.1
  refine gz_s 1 (pc' := 8) (L' := [some (.ref 2), some (.ref c3), none, none, none, none, none, none]) (S' := []) rfl ?_
  refine gs_newo rfl (by decide) rfl sS18.1 (Nat.le_of_lt (Nat.lt_of_le_of_lt (gJ.cell sS18.1 trq12_0 rfl).1 (gJ.cell sS18.1 trq12_0 rfl).2.1)) (fun ty19 h20 c21 g22 tc21 kc21 zc21 nc21 mc21 ec21 dc21 => ?_)
  have mfc21 : h20.2.1 = hq12.2.1 + 77 := mc21
  have gac21 : h.1 ≤ c21 := by have h8 := G13.2.1; have h9 := sS18.2.1; omega
  have nnc21 : 1027 ≤ c21 := by have h8 := (Nat.le_of_lt (Nat.lt_of_le_of_lt (gJ.cell sS18.1 trq12_0 rfl).1 (gJ.cell sS18.1 trq12_0 rfl).2.1)); omega
  have llc21 := Nat.lt_of_lt_of_eq (Nat.lt_succ_of_le (Nat.le_of_eq ec21)) nc21.symm
  have G23 : gSg [1, 2, 3, 4, 5, 6, 7, 8, 9, 10, 11, 12, 13, 14, 15, 16, 17, 18, 19, 20, 21, 22, 23, 24, 25, 26, 27, 28, 29, 30, 31, 32, 33, 34, 35, 36, 37, 38, 39, 40, 41, 42, 50, 51, 52, 53, 54, 55, 56, 57, 58, 59, 60, 61, 62, 63, 64, 82, 83, 84, 90, 112, 113, 114, 200] [] [8999, 10999, 31999, 53999, 64999] ty h ty19 h20 := gSg.tr (gSg.ss G13 sS18 (by decide)) g22 (by decide) (by decide) (fun x hx => by cases hx)
  have t24 : ty19 c3 = 50 := gSg.typ g22 sS18.1 trq12_0 rfl
  have t25 : ty19 cq12_0 = 55 := gSg.typ g22 sS18.1 tcq12_0 rfl
  have t26 : ty19 cq12_1 = 54 := gSg.typ g22 sS18.1 tcq12_1 rfl
  have t27 : ty19 cq12_2 = 56 := gSg.typ g22 sS18.1 tcq12_2 rfl
  have t28 : ty19 cq12_3 = 114 := gSg.typ g22 sS18.1 tcq12_3 rfl
  have hl29 : h20.2.2.2.1 cq12_3 = hq12.2.2.2.1 cq12_3 := gSg.len g22 sS18.1 tcq12_3 rfl
  have t30 : ty19 cq12_4 = 57 := gSg.typ g22 sS18.1 tcq12_4 rfl
  have t31 : ty19 cq12_5 = 82 := gSg.typ g22 sS18.1 tcq12_5 rfl
  have t32 : ty19 cq12_6 = 83 := gSg.typ g22 sS18.1 tcq12_6 rfl
  have t33 : ty19 cq12_7 = 84 := gSg.typ g22 sS18.1 tcq12_7 rfl
  have s34 := gSg.at g22 sS18.1 trq12_0 rfl (by decide) ecq12_0
  have s35 := gSg.at g22 sS18.1 trq12_0 rfl (by decide) ecq12_1
  have s36 := gSg.at g22 sS18.1 trq12_0 rfl (by decide) ecq12_2
  have s37 := gSg.at g22 sS18.1 tcq12_2 rfl (by decide) ecq12_3
  have s38 := gSg.at g22 sS18.1 tcq12_1 rfl (by decide) ecq12_4
  have s39 := gSg.at g22 sS18.1 tcq12_4 rfl (by decide) ecq12_5
  have s40 := gSg.at g22 sS18.1 tcq12_4 rfl (by decide) ecq12_6
  have s41 := gSg.at g22 sS18.1 tcq12_4 rfl (by decide) ecq12_7
  have s42 := gSg.at g22 sS18.1 tcq12_0 rfl (by decide) efq12_0
  have s43 := gSg.at g22 sS18.1 tcq12_0 rfl (by decide) efq12_1
  have s44 := gSg.at g22 sS18.1 tcq12_0 rfl (by decide) efq12_2
  have s45 := gSg.at g22 sS18.1 tcq12_0 rfl (by decide) efq12_3
  have s46 := gSg.at g22 sS18.1 tcq12_2 rfl (by decide) efq12_4
  have pr47 : gNo [1, 2, 3, 4, 5, 6, 7, 8, 9, 10, 11, 12, 13, 14, 15, 16, 17, 18, 19, 20, 21, 22, 23, 24, 25, 26, 27, 28, 29, 30, 31, 32, 33, 34, 35, 36, 37, 38, 39, 40, 41, 42, 65, 66, 67, 68, 69, 70, 71, 72, 73, 74, 75, 76, 77, 78, 79, 80, 81, 85, 90, 91, 92, 93, 94, 95, 96, 97, 98, 99] ty19 := gNo.gr g22 (by decide) (gNo.sub (by decide) noq12_0)
  have pr48 := gStx.gr g22 (by decide) (fun x hx => by cases hx) pr15
  have pr49 := gTc.gr g22 sS18.1 (by decide) (by decide) yq12_0
  have pr50 := gPC.gr g22 sS18.1 (by decide) yq12_1
  have pr51 := gXr.gr g22 sS18.1 (by decide) (by decide) yq12_2
  have pr52 := gRr.gr g22 sS18.1 (by decide) (by decide) yq12_3
  have pr53 := gRw.gr g22 sS18.1 (by decide) (by decide) yq12_4
  have uq54 := gSg.uq g22 uqq12 (by decide)
  have scr55 := gScr.gr g22 (by decide) (fun x hx => by cases hx) (gScr.fr sS18.2 (by decide) scr16)
  have hyst56 := gSta.gr g22 (by decide) (fun x hx => by cases hx) (gSta.fr sS18.2 (by decide) hyst17)
  have sS57 : gSs rT 1027 ty19 [8999, 10999, 31999, 53999, 64999] h20 h20 := gSs.rf g22.1
  refine gz_s 1 (pc' := 12) (L' := [some (.ref 2), some (.ref c3), none, none, none, none, none, none]) (S' := [.ref c21, .ref c21]) rfl ?_
  refine gz_call rfl (by decide) rfl (by decide) (by decide) (gcal_of rfl rfl rfl (Nat.le_of_ble_eq_true rfl) rfl) (ct_Model _ sS57.1 c21 tc21 nnc21 llc21 kc21 zc21 dc21 (gNo.sub (by decide) pr47) uq54) (fun q58 _ wq58 => ?_)
  obtain ⟨pq58, oq58, hq58⟩ := q58
  obtain ⟨tyq58, xq58, fq58_0, fq58_1, fq58_2, fq58_3, fq58_4, fq58_5, trq58_0, gq58, efq58_0, afq58_0, bfq58_0, efq58_1, afq58_1, bfq58_1, efq58_2, afq58_2, bfq58_2, efq58_3, afq58_3, bfq58_3, efq58_4, afq58_4, bfq58_4, efq58_5, afq58_5, bfq58_5, uq58_0, uq58_1, uq58_2, uq58_3, uq58_4, uq58_5, uq58_6, uq58_7, yq58_0, yq58_1, yq58_2, uqq58⟩ := wq58
  dsimp only at uq58_6 uq58_7
  refine ⟨_, gq58, ?_⟩
  show gz gPP gGG gcn _ _ 15 [some (.ref 2), some (.ref c3), none, none, none, none, none, none] [.ref c21] hq58 _
  have G59 : gSg [1, 2, 3, 4, 5, 6, 7, 8, 9, 10, 11, 12, 13, 14, 15, 16, 17, 18, 19, 20, 21, 22, 23, 24, 25, 26, 27, 28, 29, 30, 31, 32, 33, 34, 35, 36, 37, 38, 39, 40, 41, 42, 50, 51, 52, 53, 54, 55, 56, 57, 58, 59, 60, 61, 62, 63, 64, 82, 83, 84, 90, 112, 113, 114, 200] [] [8999, 10999, 31999, 53999, 64999] ty h tyq58 hq58 := gSg.tr (gSg.ss G23 sS57 (by decide)) xq58 (by decide) (by decide) (fun x hx => Or.inl (by rw [List.mem_singleton.mp hx]; exact gac21))
  have t60 : tyq58 c3 = 50 := gSg.typ xq58 sS57.1 t24 rfl
  have t61 : tyq58 cq12_0 = 55 := gSg.typ xq58 sS57.1 t25 rfl
  have t62 : tyq58 cq12_1 = 54 := gSg.typ xq58 sS57.1 t26 rfl
  have t63 : tyq58 cq12_2 = 56 := gSg.typ xq58 sS57.1 t27 rfl
  have t64 : tyq58 cq12_3 = 114 := gSg.typ xq58 sS57.1 t28 rfl
  have hl65 : hq58.2.2.2.1 cq12_3 = h20.2.2.2.1 cq12_3 := gSg.len xq58 sS57.1 t28 rfl
  have t66 : tyq58 cq12_4 = 57 := gSg.typ xq58 sS57.1 t30 rfl
  have t67 : tyq58 cq12_5 = 82 := gSg.typ xq58 sS57.1 t31 rfl
  have t68 : tyq58 cq12_6 = 83 := gSg.typ xq58 sS57.1 t32 rfl
  have t69 : tyq58 cq12_7 = 84 := gSg.typ xq58 sS57.1 t33 rfl
  have s70 := gSg.at xq58 sS57.1 t24 rfl (by decide) s34
  have s71 := gSg.at xq58 sS57.1 t24 rfl (by decide) s35
  have s72 := gSg.at xq58 sS57.1 t24 rfl (by decide) s36
  have s73 := gSg.at xq58 sS57.1 t27 rfl (by decide) s37
  have s74 := gSg.at xq58 sS57.1 t26 rfl (by decide) s38
  have s75 := gSg.at xq58 sS57.1 t30 rfl (by decide) s39
  have s76 := gSg.at xq58 sS57.1 t30 rfl (by decide) s40
  have s77 := gSg.at xq58 sS57.1 t30 rfl (by decide) s41
  have s78 := gSg.at xq58 sS57.1 t25 rfl (by decide) s42
  have s79 := gSg.at xq58 sS57.1 t25 rfl (by decide) s43
  have s80 := gSg.at xq58 sS57.1 t25 rfl (by decide) s44
  have s81 := gSg.at xq58 sS57.1 t25 rfl (by decide) s45
  have s82 := gSg.at xq58 sS57.1 t27 rfl (by decide) s46
  have pr83 : gNo [65, 66, 67, 68, 69, 70, 71, 72, 73, 74, 75, 76, 77, 78, 79, 80, 81, 85, 90, 91, 92, 93, 94, 95, 96, 97, 98, 99] tyq58 := gNo.gr xq58 (by decide) (gNo.sub (by decide) pr47)
  have pr84 := gStx.gr xq58 (by decide) (fun x hx => by rw [List.mem_singleton.mp hx]; have h9 := nnc21; omega) pr48
  have pr85 := gTc.gr xq58 sS57.1 (by decide) (by decide) pr49
  have pr86 := gPC.gr xq58 sS57.1 (by decide) pr50
  have pr87 := gXr.gr xq58 sS57.1 (by decide) (by decide) pr51
  have pr88 := gRr.gr xq58 sS57.1 (by decide) (by decide) pr52
  have pr89 := gRw.gr xq58 sS57.1 (by decide) (by decide) pr53
  have scr90 := gScr.gr xq58 (by decide) (fun x hx => by rw [List.mem_singleton.mp hx]; have h9 := nnc21; omega) (gScr.fr sS57.2 (by decide) scr55)
  have hyst91 := gSta.gr xq58 (by decide) (fun x hx => by rw [List.mem_singleton.mp hx]; have h9 := nnc21; omega) (gSta.fr sS57.2 (by decide) hyst56)
  have sS92 : gSs rT 1027 tyq58 [8999, 10999, 31999, 53999, 64999] hq58 hq58 := gSs.rf xq58.1
  refine gz_s 2 (pc' := 17) (L' := [some (.ref 2), some (.ref c3), some (.ref c21), none, none, none, none, none]) (S' := [.int (zi 1)]) rfl ?_
  refine gs_newr 90 rfl (by decide) rfl sS92.1 (Nat.le_of_lt (Nat.lt_of_le_of_lt (gJ.cell sS92.1 t60 rfl).1 (gJ.cell sS92.1 t60 rfl).2.1)) (by omega) (by omega) rfl rfl (by show (1 : Int) ≤ _; omega) (by show _ ≤ (1 : Int); omega) (fun _ _ => gos_l (by decide) (by decide)) (fun ty93 h94 c95 g96 tc95 lc95 nc95 mc95 ec95 dc95 uc95 => ?_)
  have gac95 : h.1 ≤ c95 := by have h8 := G59.2.1; have h9 := sS92.2.1; omega
  have uq97 := uc95 uqq58 (Or.inr (gNo.sub (by decide) pr83))
  have G98 : gSg [1, 2, 3, 4, 5, 6, 7, 8, 9, 10, 11, 12, 13, 14, 15, 16, 17, 18, 19, 20, 21, 22, 23, 24, 25, 26, 27, 28, 29, 30, 31, 32, 33, 34, 35, 36, 37, 38, 39, 40, 41, 42, 50, 51, 52, 53, 54, 55, 56, 57, 58, 59, 60, 61, 62, 63, 64, 82, 83, 84, 90, 112, 113, 114, 200] [] [8999, 10999, 31999, 53999, 64999] ty h ty93 h94 := gSg.tr (gSg.ss G59 sS92 (by decide)) g96 (by decide) (by decide) (fun x hx => by cases hx)
  have t99 : ty93 c3 = 50 := gSg.typ g96 sS92.1 t60 rfl
  have t100 : ty93 cq12_0 = 55 := gSg.typ g96 sS92.1 t61 rfl
  have t101 : ty93 cq12_1 = 54 := gSg.typ g96 sS92.1 t62 rfl
  have t102 : ty93 cq12_2 = 56 := gSg.typ g96 sS92.1 t63 rfl
  have t103 : ty93 cq12_3 = 114 := gSg.typ g96 sS92.1 t64 rfl
  have hl104 : h94.2.2.2.1 cq12_3 = hq58.2.2.2.1 cq12_3 := gSg.len g96 sS92.1 t64 rfl
  have t105 : ty93 cq12_4 = 57 := gSg.typ g96 sS92.1 t66 rfl
  have t106 : ty93 cq12_5 = 82 := gSg.typ g96 sS92.1 t67 rfl
  have t107 : ty93 cq12_6 = 83 := gSg.typ g96 sS92.1 t68 rfl
  have t108 : ty93 cq12_7 = 84 := gSg.typ g96 sS92.1 t69 rfl
  have t109 : ty93 c21 = 1 := gSg.typ g96 sS92.1 trq58_0 rfl
  have s110 := gSg.at g96 sS92.1 t60 rfl (by decide) s70
  have s111 := gSg.at g96 sS92.1 t60 rfl (by decide) s71
  have s112 := gSg.at g96 sS92.1 t60 rfl (by decide) s72
  have s113 := gSg.at g96 sS92.1 t63 rfl (by decide) s73
  have s114 := gSg.at g96 sS92.1 t62 rfl (by decide) s74
  have s115 := gSg.at g96 sS92.1 t66 rfl (by decide) s75
  have s116 := gSg.at g96 sS92.1 t66 rfl (by decide) s76
  have s117 := gSg.at g96 sS92.1 t66 rfl (by decide) s77
  have s118 := gSg.at g96 sS92.1 t61 rfl (by decide) s78
  have s119 := gSg.at g96 sS92.1 t61 rfl (by decide) s79
  have s120 := gSg.at g96 sS92.1 t61 rfl (by decide) s80
  have s121 := gSg.at g96 sS92.1 t61 rfl (by decide) s81
  have s122 := gSg.at g96 sS92.1 t63 rfl (by decide) s82
  have s123 := gSg.at g96 sS92.1 trq58_0 rfl (by decide) efq58_0
  have s124 := gSg.at g96 sS92.1 trq58_0 rfl (by decide) efq58_1
  have s125 := gSg.at g96 sS92.1 trq58_0 rfl (by decide) efq58_2
  have s126 := gSg.at g96 sS92.1 trq58_0 rfl (by decide) efq58_3
  have s127 := gSg.at g96 sS92.1 trq58_0 rfl (by decide) efq58_4
  have s128 := gSg.at g96 sS92.1 trq58_0 rfl (by decide) efq58_5
  have pr129 : gNo [65, 66, 67, 68, 69, 70, 71, 72, 73, 74, 75, 76, 77, 78, 79, 80, 81, 85, 91, 92, 93, 94, 95, 96, 97, 98, 99] ty93 := gNo.gr g96 (by decide) (gNo.sub (by decide) pr83)
  have pr130 := gStx.gr g96 (by decide) (fun x hx => by cases hx) pr84
  have pr131 := gTc.gr g96 sS92.1 (by decide) (by decide) pr85
  have pr132 := gPC.gr g96 sS92.1 (by decide) pr86
  have pr133 := gXr.gr g96 sS92.1 (by decide) (by decide) pr87
  have pr134 := gRr.gr g96 sS92.1 (by decide) (by decide) pr88
  have pr135 := gRw.gr g96 sS92.1 (by decide) (by decide) pr89
  have pr136 := gTs.gr g96 sS92.1 (by decide) (by decide) yq58_0
  have pr137 := gMw.gr g96 sS92.1 (by decide) (by decide) yq58_1
  have pr138 := gRn.gr g96 sS92.1 rfl (by decide) (by decide) yq58_2
  have scr139 := gScr.gr g96 (by decide) (fun x hx => by cases hx) (gScr.fr sS92.2 (by decide) scr90)
  have hyst140 := gSta.gr g96 (by decide) (fun x hx => by cases hx) (gSta.fr sS92.2 (by decide) hyst91)
  have sS141 : gSs rT 1027 ty93 [8999, 10999, 31999, 53999, 64999] h94 h94 := gSs.rf g96.1
  refine gz_s 3 (pc' := 23) (L' := [some (.ref 2), some (.ref c3), some (.ref c21), some (.ref c95), some (.int (zi 0)), none, none, none]) (S' := []) rfl ?_
  have hl142 : 1024 ≤ h94.2.2.2.1 cq12_3 ∧ h94.2.2.2.1 cq12_3 ≤ 1000000 := gJ.rowl (G := gGG) sS141.1 t103 rfl
  have hsw143 : gSW ty93 cq12_3 (((fun _ => 16, fun _ => 0, fun _ => 0, fun _ => 0, fun _ => 0, fun _ => 0, fun _ => -1), (0, 0, 0, fun _ => 0)) : gSS).2 h94 := ⟨t103, Int.le_refl 0, fun j hj => absurd hj (by show ¬ (j : Int) < 0; omega)⟩
  have hix144 : gIx ty93 c3 0 (h94.2.2.2.1 cq12_3 : Int) (64 * fq12_2 + fq12_0 + 4096 * fq12_3 + 262144 * fq12_1) (((fun _ => 16, fun _ => 0, fun _ => 0, fun _ => 0, fun _ => 0, fun _ => 0, fun _ => -1), (0, 0, 0, fun _ => 0)) : gSS) h94 := ⟨cq12_1, cq12_5, cq12_6, cq12_7, cq12_0, cq12_2, cq12_3, fq12_0, fq12_4, fq12_1, fq12_2, fq12_3, ⟨t99, t100, t102, t103⟩, ⟨s111, s110, s112, s113⟩, pr132, (by rw [(by omega : fq12_0 = 0)]; exact pr131), ⟨s118, by omega, by omega⟩, ⟨s119, by omega, by omega⟩, ⟨s122, by omega, by omega⟩, ⟨by omega, by omega⟩, pr134, pr135, ⟨s120, by omega, by omega⟩, ⟨s121, by omega, by omega⟩, by omega, rfl, pr133, ⟨hsw143, (show _ = (0 : Int) by omega)⟩, (by rw [(by omega : fq12_0 = 0)]; exact eTz.zero)⟩
  have hix145 : gIx ty93 c3 0 1024 0 (((fun _ => 16, fun _ => 0, fun _ => 0, fun _ => 0, fun _ => 0, fun _ => 0, fun _ => -1), (0, 0, 0, fun _ => 0)) : gSS) h94 := by
    have e9 := hix144
    rw [(by omega : (h94.2.2.2.1 cq12_3 : Int) = 1024)] at e9
    rw [(by omega : (64 * fq12_2 + fq12_0 + 4096 * fq12_3 + 262144 * fq12_1) = 0)] at e9
    exact e9
  obtain ⟨z146, ez146, az146, bz146⟩ := gJ.int (k := 18) (G := gGG) sS141.1 t109 rfl rfl rfl
  obtain ⟨z147, ez147, az147, bz147⟩ := gJ.int (k := 19) (G := gGG) sS141.1 t109 rfl rfl rfl
  obtain ⟨z148, ez148, az148, bz148⟩ := gJ.int (k := 21) (G := gGG) sS141.1 t109 rfl rfl rfl
  obtain ⟨z149, ez149, az149, bz149⟩ := gJ.int (k := 22) (G := gGG) sS141.1 t109 rfl rfl rfl
  obtain ⟨z150, ez150, az150, bz150⟩ := gJ.int (k := 20) (G := gGG) sS141.1 t109 rfl rfl rfl
  have him151s : gSO ty93 (((fun _ => 16, fun _ => 0, fun _ => 0, fun _ => 0, fun _ => 0, fun _ => 0, fun _ => -1), (0, 0, 0, fun _ => 0)) : gSS).2 h94 := gSO.nil (fun _ => rfl) rfl
  have him151 : gIm ty93 c21 0 (((fun _ => 16, fun _ => 0, fun _ => 0, fun _ => 0, fun _ => 0, fun _ => 0, fun _ => -1), (0, 0, 0, fun _ => 0)) : gSS) h94 := ⟨fq58_0, z146, z147, z148, z149, z150, fq58_1, fq58_2, fq58_3, fq58_4, fq58_5, t109, ⟨s123, by omega, by omega⟩, ⟨ez146, by omega, by omega⟩, ⟨ez147, by omega, by omega⟩, ⟨ez148, by omega, by omega⟩, ⟨ez149, by omega, by omega⟩, ⟨ez150, by omega, by omega⟩, (fun w9 => absurd w9 (by omega)), ⟨s124, by omega, by omega⟩, (by rw [(by omega : fq58_1 = 0)]; exact pr136), ⟨s125, by omega, by omega⟩, ⟨s126, by omega, by omega⟩, by omega, ⟨s127, by omega, by omega⟩, ⟨s128, by omega, by omega⟩, by omega, pr137, pr138, ⟨him151s, (show _ = (0 : Int) by omega)⟩, (by rw [(by omega : fq58_1 = 0)]; exact eTz.zero)⟩
  have G152 : gSg [1, 2, 3, 4, 5, 6, 7, 8, 9, 10, 11, 12, 13, 14, 15, 16, 17, 18, 19, 20, 21, 22, 23, 24, 25, 26, 27, 28, 29, 30, 31, 32, 33, 34, 35, 36, 37, 38, 39, 40, 41, 42, 50, 51, 52, 53, 54, 55, 56, 57, 58, 59, 60, 61, 62, 63, 64, 82, 83, 84, 90, 112, 113, 114, 200] [] [8999, 10999, 31999, 53999, 64999] ty h ty93 h94 := gSg.ss G98 sS141 (by decide)
  exact gz_end (I := .iload 4) (len := 2) rfl (Or.inr (by decide)) ⟨ty93, G152, c3, c21, c95, t99, t109, tc95, hix145, him151, uq97, (by dsimp only; omega), (by dsimp only; omega), rfl, rfl, (gLw.s (gLw.s (gLw.s (gLw.s (gLw.s (gLw.n (gLw.n (gLw.n gLw.z))))))))⟩
