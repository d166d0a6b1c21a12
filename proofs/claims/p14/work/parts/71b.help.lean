/-! ===== the law's helpers, where nothing is thrown (by program) ===== -/
set_option maxRecDepth 20000 in
set_option maxHeartbeats 4000000 in
theorem hp_add (d : Nat) {ty : Nat → Nat} {h : gH} (hJ : gJ rT 1027 ty h) (x : Nat) (tx : ty x = 50) (b : Int) (rb : (-128) ≤ b ∧ b ≤ 127) (S : gSS) (ld : Int) (rld : 0 ≤ ld ∧ ld ≤ 192) (lb : Int) (rlb : 1024 ≤ lb ∧ lb ≤ 1000000) (iv : Int) (riv : 0 ≤ iv ∧ iv ≤ 26476544) (uq : gUq ty) (hc : gz gPP gGG gcn d gt68 0 (gent [.ref x, .int (zi b)] 2) [] h (fun q _ => ∃ ty9 : Nat → Nat, gSg [] [] [51001, 52999] ty h ty9 q.2.2 ∧ ∃ ld1 lb1 iv1 : Int, gfin gt68 q.1 q.2.1 = some none ∧ 0 ≤ ld1 ∧ ld1 ≤ 192 ∧ 1024 ≤ lb1 ∧ lb1 ≤ 1000000 ∧ 0 ≤ iv1 ∧ iv1 ≤ 26476544 ∧ (iv1 = iv) ∧ (1024 * (((q.2.2.1 : Int) - h.1) - 31 - 2 * (ld1 - ld)) ≤ lb1 - lb) ∧ (((q.2.2.2.1 : Int) - h.2.1) ≤ 4303 + 12480 * (ld1 - ld) + 2 * (lb1 - lb)) ∧ (ld ≤ ld1) ∧ (lb ≤ lb1) ∧ (gIx ty9 x ld1 lb1 iv1 S q.2.2))) : gz gPP gGG gcn (d + 1) (gtLadd []) 0 (gent [.ref x, .int (zi b)] 3) [] h (fun q _ => ∃ ty9 : Nat → Nat, gSg [] [] [51001, 52999] ty h ty9 q.2.2 ∧ ∃ z ld1 lb1 iv1 : Int, gfin (gtLadd []) q.1 q.2.1 = some (some (.int (zi z))) ∧ 0 ≤ z ∧ z ≤ 0 ∧ 0 ≤ ld1 ∧ ld1 ≤ 192 ∧ 1024 ≤ lb1 ∧ lb1 ≤ 1000000 ∧ 0 ≤ iv1 ∧ iv1 ≤ 26476544 ∧ (iv1 = iv) ∧ (1024 * (((q.2.2.1 : Int) - h.1) - 31 - 2 * (ld1 - ld)) ≤ lb1 - lb) ∧ (((q.2.2.2.1 : Int) - h.2.1) ≤ 4303 + 12480 * (ld1 - ld) + 2 * (lb1 - lb)) ∧ (ld ≤ ld1) ∧ (lb ≤ lb1) ∧ (gIx ty9 x ld1 lb1 iv1 S q.2.2)) := by
  have hS : gSs rT 1027 ty [51001, 52999] h h := gSs.rf hJ
  have G0 : gSg [] [] [51001, 52999] ty h ty h := gSg.rf hJ (fun x hx => by cases hx)
  refine gz_s 2 (pc' := 2) (L' := [some (.ref x), some (.int (zi b)), none]) (S' := [.int (zi b), .ref x]) rfl ?_
  refine gz_call rfl (by decide) rfl (by decide) (by decide) (gcal_of rfl rfl rfl (Nat.le_of_ble_eq_true rfl) (gJ.recv (G := gGG) hS.1 tx rfl rfl)) (hc) (fun q1 _ wq1 => ?_)
  obtain ⟨pq1, oq1, hq1⟩ := q1
  obtain ⟨tyq1, xq1, xq1_0, xq1_1, xq1_2, gq1, axq1_0, bxq1_0, axq1_1, bxq1_1, axq1_2, bxq1_2, uq1_0, uq1_1, uq1_2, uq1_3, uq1_4, yq1_0⟩ := wq1
  dsimp only at uq1_1 uq1_2
  refine ⟨_, gq1, ?_⟩
  show gz gPP gGG gcn _ _ 5 [some (.ref x), some (.int (zi b)), none] [] hq1 _
  have G2 : gSg [] [] [51001, 52999] ty h tyq1 hq1 := gSg.tr (gSg.ss G0 hS (by decide)) xq1 (by decide) (by decide) (fun x hx => by cases hx)
  have t3 : tyq1 x = 50 := gSg.typ xq1 hS.1 tx rfl
  have uq4 := gSg.uq xq1 uq (by decide)
  have sS5 : gSs rT 1027 tyq1 [51001, 52999] hq1 hq1 := gSs.rf xq1.1
  refine gz_s 2 (pc' := 12) (L' := [some (.ref x), some (.int (zi b)), none]) (S' := [.int (zi 0)]) rfl ?_
  have G6 : gSg [] [] [51001, 52999] ty h tyq1 hq1 := gSg.ss G2 sS5 (by decide)
  exact gz_end (I := .ireturn) (len := 1) rfl (Or.inl rfl) ⟨tyq1, G6, 0, xq1_0, xq1_1, xq1_2, rfl, (by omega), (by omega), (by omega), (by omega), (by omega), (by omega), (by omega), (by omega), (by omega), (by dsimp only; omega), (by dsimp only; omega), (by omega), (by omega), yq1_0⟩
set_option maxRecDepth 20000 in
set_option maxHeartbeats 4000000 in
theorem hp_sample (d : Nat) {ty : Nat → Nat} {h : gH} (hJ : gJ rT 1027 ty h) (x : Nat) (tx : ty x = 50) (a : Int) (ra : (-2147483648) ≤ a ∧ a ≤ 2147483647) (b : Int) (rb : (-2147483648) ≤ b ∧ b ≤ 2147483647) (c : Int) (rc : (-2147483648) ≤ c ∧ c ≤ 2147483647) (o : Nat) (to : ty o = 90) (S : gSS) (ld : Int) (rld : 0 ≤ ld ∧ ld ≤ 192) (lb : Int) (rlb : 1024 ≤ lb ∧ lb ≤ 1000000) (iv : Int) (riv : 0 ≤ iv ∧ iv ≤ 26476544) (uq : gUq ty) (hc : gz gPP gGG gcn d gt70 0 (gent [.ref x, .int (zi a), .int (zi b), .int (zi c)] 8) [] h (fun q _ => ∃ ty9 : Nat → Nat, gSg [] [] [] ty h ty9 q.2.2 ∧ ∃ z ld1 lb1 iv1 : Int, gfin gt70 q.1 q.2.1 = some (some (.int (zi z))) ∧ (-2147483648) ≤ z ∧ z ≤ 2147483647 ∧ 0 ≤ ld1 ∧ ld1 ≤ 192 ∧ 1024 ≤ lb1 ∧ lb1 ≤ 1000000 ∧ 0 ≤ iv1 ∧ iv1 ≤ 26476544 ∧ (iv1 = iv) ∧ (1024 * (((q.2.2.1 : Int) - h.1) - 31 - 2 * (ld1 - ld)) ≤ lb1 - lb) ∧ (((q.2.2.2.1 : Int) - h.2.1) ≤ 4303 + 12480 * (ld1 - ld) + 2 * (lb1 - lb)) ∧ (ld ≤ ld1) ∧ (lb ≤ lb1) ∧ (gIx ty9 x ld1 lb1 iv1 S q.2.2))) : gz gPP gGG gcn (d + 1) (gtLsample []) 0 (gent [.ref x, .int (zi a), .int (zi b), .int (zi c), .ref o] 6) [] h (fun q _ => ∃ ty9 : Nat → Nat, gSg [] [] [90999] ty h ty9 q.2.2 ∧ ∃ z ld1 lb1 iv1 : Int, gfin (gtLsample []) q.1 q.2.1 = some (some (.int (zi z))) ∧ 0 ≤ z ∧ z ≤ 0 ∧ 0 ≤ ld1 ∧ ld1 ≤ 192 ∧ 1024 ≤ lb1 ∧ lb1 ≤ 1000000 ∧ 0 ≤ iv1 ∧ iv1 ≤ 26476544 ∧ (iv1 = iv) ∧ (1024 * (((q.2.2.1 : Int) - h.1) - 31 - 2 * (ld1 - ld)) ≤ lb1 - lb) ∧ (((q.2.2.2.1 : Int) - h.2.1) ≤ 4303 + 12480 * (ld1 - ld) + 2 * (lb1 - lb)) ∧ (ld ≤ ld1) ∧ (lb ≤ lb1) ∧ (gIx ty9 x ld1 lb1 iv1 S q.2.2)) := by
  have hS : gSs rT 1027 ty [90999] h h := gSs.rf hJ
  have G0 : gSg [] [] [90999] ty h ty h := gSg.rf hJ (fun x hx => by cases hx)
  refine gz_s 6 (pc' := 7) (L' := [some (.ref x), some (.int (zi a)), some (.int (zi b)), some (.int (zi c)), some (.ref o), none]) (S' := [.int (zi c), .int (zi b), .int (zi a), .ref x, .int (zi 0), .ref o]) rfl ?_
  refine gz_call rfl (by decide) rfl (by decide) (by decide) (gcal_of rfl rfl rfl (Nat.le_of_ble_eq_true rfl) (gJ.recv (G := gGG) hS.1 tx rfl rfl)) (hc) (fun q1 _ wq1 => ?_)
  obtain ⟨pq1, oq1, hq1⟩ := q1
  obtain ⟨tyq1, xq1, zq1, xq1_0, xq1_1, xq1_2, gq1, aq1, bq1, axq1_0, bxq1_0, axq1_1, bxq1_1, axq1_2, bxq1_2, uq1_0, uq1_1, uq1_2, uq1_3, uq1_4, yq1_0⟩ := wq1
  dsimp only at uq1_1 uq1_2
  refine ⟨_, gq1, ?_⟩
  show gz gPP gGG gcn _ _ 10 [some (.ref x), some (.int (zi a)), some (.int (zi b)), some (.int (zi c)), some (.ref o), none] [.int (zi zq1), .int (zi 0), .ref o] hq1 _
  have G2 : gSg [] [] [90999] ty h tyq1 hq1 := gSg.tr (gSg.ss G0 hS (by decide)) xq1 (by decide) (by decide) (fun x hx => by cases hx)
  have t3 : tyq1 x = 50 := gSg.typ xq1 hS.1 tx rfl
  have t4 : tyq1 o = 90 := gSg.typ xq1 hS.1 to rfl
  have uq5 := gSg.uq xq1 uq (by decide)
  have sS6 : gSs rT 1027 tyq1 [90999] hq1 hq1 := gSs.rf xq1.1
  refine gy_i2l rfl (by decide) (by omega) ?_
  have hl7 : 1 ≤ hq1.2.2.2.1 o ∧ hq1.2.2.2.1 o ≤ 1 := gJ.rowl (G := gGG) sS6.1 t4 rfl
  refine gs_last rfl (by decide) sS6 t4 rfl rfl rfl (by decide) (fun _ => rfl) (by omega) (by omega) (fun _ => (by decide : (90999 : Nat) ∈ ([90999] : List Nat))) (by omega) (by omega) (fun h8 sh8 eh8 fh8 => ?_)
  have pr9 := gIx.pa fh8 (sh8.2.2.2.2.1.trans sS6.2.2.2.2.1.symm) t4 (fun _ => (by decide : ¬ (90999 : Nat) ∈ gIxp)) yq1_0
  refine gz_s 2 (pc' := 20) (L' := [some (.ref x), some (.int (zi a)), some (.int (zi b)), some (.int (zi c)), some (.ref o), none]) (S' := [.int (zi 0)]) rfl ?_
  have k10 := sh8.2.1
  have k10b := sh8.2.2.1
  have G11 : gSg [] [] [90999] ty h tyq1 h8 := gSg.ss G2 sh8 (by decide)
  exact gz_end (I := .ireturn) (len := 1) rfl (Or.inl rfl) ⟨tyq1, G11, 0, xq1_0, xq1_1, xq1_2, rfl, (by omega), (by omega), (by omega), (by omega), (by omega), (by omega), (by omega), (by omega), (by omega), (by dsimp only; omega), (by dsimp only; omega), (by omega), (by omega), pr9⟩
set_option maxRecDepth 20000 in
set_option maxHeartbeats 4000000 in
theorem hp_coefficient (d : Nat) {ty : Nat → Nat} {h : gH} (hJ : gJ rT 1027 ty h) (x : Nat) (tx : ty x = 50) (a : Int) (ra : (-2147483648) ≤ a ∧ a ≤ 2147483647) (b : Int) (rb : (-2147483648) ≤ b ∧ b ≤ 2147483647) (o : Nat) (to : ty o = 90) (S : gSS) (ld : Int) (rld : 0 ≤ ld ∧ ld ≤ 192) (lb : Int) (rlb : 1024 ≤ lb ∧ lb ≤ 1000000) (iv : Int) (riv : 0 ≤ iv ∧ iv ≤ 26476544) (uq : gUq ty) (hc : gz gPP gGG gcn d gt79 0 (gent [.ref x, .int (zi a), .int (zi b)] 3) [] h (fun q _ => ∃ ty9 : Nat → Nat, gSg [] [] [] ty h ty9 q.2.2 ∧ ∃ z ld1 lb1 iv1 : Int, gfin gt79 q.1 q.2.1 = some (some (.int (zi z))) ∧ (-2147483648) ≤ z ∧ z ≤ 2147483647 ∧ 0 ≤ ld1 ∧ ld1 ≤ 192 ∧ 1024 ≤ lb1 ∧ lb1 ≤ 1000000 ∧ 0 ≤ iv1 ∧ iv1 ≤ 26476544 ∧ (iv1 = iv) ∧ (1024 * (((q.2.2.1 : Int) - h.1) - 31 - 2 * (ld1 - ld)) ≤ lb1 - lb) ∧ (((q.2.2.2.1 : Int) - h.2.1) ≤ 4303 + 12480 * (ld1 - ld) + 2 * (lb1 - lb)) ∧ (ld ≤ ld1) ∧ (lb ≤ lb1) ∧ (gIx ty9 x ld1 lb1 iv1 S q.2.2))) : gz gPP gGG gcn (d + 1) (gtLcoefficient []) 0 (gent [.ref x, .int (zi a), .int (zi b), .ref o] 5) [] h (fun q _ => ∃ ty9 : Nat → Nat, gSg [] [] [90999] ty h ty9 q.2.2 ∧ ∃ z ld1 lb1 iv1 : Int, gfin (gtLcoefficient []) q.1 q.2.1 = some (some (.int (zi z))) ∧ 0 ≤ z ∧ z ≤ 0 ∧ 0 ≤ ld1 ∧ ld1 ≤ 192 ∧ 1024 ≤ lb1 ∧ lb1 ≤ 1000000 ∧ 0 ≤ iv1 ∧ iv1 ≤ 26476544 ∧ (iv1 = iv) ∧ (1024 * (((q.2.2.1 : Int) - h.1) - 31 - 2 * (ld1 - ld)) ≤ lb1 - lb) ∧ (((q.2.2.2.1 : Int) - h.2.1) ≤ 4303 + 12480 * (ld1 - ld) + 2 * (lb1 - lb)) ∧ (ld ≤ ld1) ∧ (lb ≤ lb1) ∧ (gIx ty9 x ld1 lb1 iv1 S q.2.2)) := by
  have hS : gSs rT 1027 ty [90999] h h := gSs.rf hJ
  have G0 : gSg [] [] [90999] ty h ty h := gSg.rf hJ (fun x hx => by cases hx)
  refine gz_s 5 (pc' := 5) (L' := [some (.ref x), some (.int (zi a)), some (.int (zi b)), some (.ref o), none]) (S' := [.int (zi b), .int (zi a), .ref x, .int (zi 0), .ref o]) rfl ?_
  refine gz_call rfl (by decide) rfl (by decide) (by decide) (gcal_of rfl rfl rfl (Nat.le_of_ble_eq_true rfl) (gJ.recv (G := gGG) hS.1 tx rfl rfl)) (hc) (fun q1 _ wq1 => ?_)
  obtain ⟨pq1, oq1, hq1⟩ := q1
  obtain ⟨tyq1, xq1, zq1, xq1_0, xq1_1, xq1_2, gq1, aq1, bq1, axq1_0, bxq1_0, axq1_1, bxq1_1, axq1_2, bxq1_2, uq1_0, uq1_1, uq1_2, uq1_3, uq1_4, yq1_0⟩ := wq1
  dsimp only at uq1_1 uq1_2
  refine ⟨_, gq1, ?_⟩
  show gz gPP gGG gcn _ _ 8 [some (.ref x), some (.int (zi a)), some (.int (zi b)), some (.ref o), none] [.int (zi zq1), .int (zi 0), .ref o] hq1 _
  have G2 : gSg [] [] [90999] ty h tyq1 hq1 := gSg.tr (gSg.ss G0 hS (by decide)) xq1 (by decide) (by decide) (fun x hx => by cases hx)
  have t3 : tyq1 x = 50 := gSg.typ xq1 hS.1 tx rfl
  have t4 : tyq1 o = 90 := gSg.typ xq1 hS.1 to rfl
  have uq5 := gSg.uq xq1 uq (by decide)
  have sS6 : gSs rT 1027 tyq1 [90999] hq1 hq1 := gSs.rf xq1.1
  refine gy_i2l rfl (by decide) (by omega) ?_
  have hl7 : 1 ≤ hq1.2.2.2.1 o ∧ hq1.2.2.2.1 o ≤ 1 := gJ.rowl (G := gGG) sS6.1 t4 rfl
  refine gs_last rfl (by decide) sS6 t4 rfl rfl rfl (by decide) (fun _ => rfl) (by omega) (by omega) (fun _ => (by decide : (90999 : Nat) ∈ ([90999] : List Nat))) (by omega) (by omega) (fun h8 sh8 eh8 fh8 => ?_)
  have pr9 := gIx.pa fh8 (sh8.2.2.2.2.1.trans sS6.2.2.2.2.1.symm) t4 (fun _ => (by decide : ¬ (90999 : Nat) ∈ gIxp)) yq1_0
  refine gz_s 2 (pc' := 18) (L' := [some (.ref x), some (.int (zi a)), some (.int (zi b)), some (.ref o), none]) (S' := [.int (zi 0)]) rfl ?_
  have k10 := sh8.2.1
  have k10b := sh8.2.2.1
  have G11 : gSg [] [] [90999] ty h tyq1 h8 := gSg.ss G2 sh8 (by decide)
  exact gz_end (I := .ireturn) (len := 1) rfl (Or.inl rfl) ⟨tyq1, G11, 0, xq1_0, xq1_1, xq1_2, rfl, (by omega), (by omega), (by omega), (by omega), (by omega), (by omega), (by omega), (by omega), (by omega), (by dsimp only; omega), (by dsimp only; omega), (by omega), (by omega), pr9⟩
set_option maxRecDepth 20000 in
set_option maxHeartbeats 4000000 in
theorem hp_exact (d : Nat) {ty : Nat → Nat} {h : gH} (hJ : gJ rT 1027 ty h) (x : Nat) (tx : ty x = 50) (a : Int) (ra : (-2147483648) ≤ a ∧ a ≤ 2147483647) (b : Int) (rb : (-2147483648) ≤ b ∧ b ≤ 2147483647) (o : Nat) (to : ty o = 90) (S : gSS) (ld : Int) (rld : 0 ≤ ld ∧ ld ≤ 192) (lb : Int) (rlb : 1024 ≤ lb ∧ lb ≤ 1000000) (iv : Int) (riv : 0 ≤ iv ∧ iv ≤ 26476544) (uq : gUq ty) (hc : gz gPP gGG gcn d gt80 0 (gent [.ref x, .int (zi a), .int (zi b)] 3) [] h (fun q _ => ∃ ty9 : Nat → Nat, gSg [] [] [] ty h ty9 q.2.2 ∧ ∃ z ld1 lb1 iv1 : Int, gfin gt80 q.1 q.2.1 = some (some (.long (zl z))) ∧ (-9223372036854775808) ≤ z ∧ z ≤ 9223372036854775807 ∧ 0 ≤ ld1 ∧ ld1 ≤ 192 ∧ 1024 ≤ lb1 ∧ lb1 ≤ 1000000 ∧ 0 ≤ iv1 ∧ iv1 ≤ 26476544 ∧ (iv1 = iv) ∧ (1024 * (((q.2.2.1 : Int) - h.1) - 31 - 2 * (ld1 - ld)) ≤ lb1 - lb) ∧ (((q.2.2.2.1 : Int) - h.2.1) ≤ 4303 + 12480 * (ld1 - ld) + 2 * (lb1 - lb)) ∧ (ld ≤ ld1) ∧ (lb ≤ lb1) ∧ (gIx ty9 x ld1 lb1 iv1 S q.2.2))) : gz gPP gGG gcn (d + 1) (gtLexact []) 0 (gent [.ref x, .int (zi a), .int (zi b), .ref o] 5) [] h (fun q _ => ∃ ty9 : Nat → Nat, gSg [] [] [90999] ty h ty9 q.2.2 ∧ ∃ z ld1 lb1 iv1 : Int, gfin (gtLexact []) q.1 q.2.1 = some (some (.int (zi z))) ∧ 0 ≤ z ∧ z ≤ 0 ∧ 0 ≤ ld1 ∧ ld1 ≤ 192 ∧ 1024 ≤ lb1 ∧ lb1 ≤ 1000000 ∧ 0 ≤ iv1 ∧ iv1 ≤ 26476544 ∧ (iv1 = iv) ∧ (1024 * (((q.2.2.1 : Int) - h.1) - 31 - 2 * (ld1 - ld)) ≤ lb1 - lb) ∧ (((q.2.2.2.1 : Int) - h.2.1) ≤ 4303 + 12480 * (ld1 - ld) + 2 * (lb1 - lb)) ∧ (ld ≤ ld1) ∧ (lb ≤ lb1) ∧ (gIx ty9 x ld1 lb1 iv1 S q.2.2)) := by
  have hS : gSs rT 1027 ty [90999] h h := gSs.rf hJ
  have G0 : gSg [] [] [90999] ty h ty h := gSg.rf hJ (fun x hx => by cases hx)
  refine gz_s 5 (pc' := 5) (L' := [some (.ref x), some (.int (zi a)), some (.int (zi b)), some (.ref o), none]) (S' := [.int (zi b), .int (zi a), .ref x, .int (zi 0), .ref o]) rfl ?_
  refine gz_call rfl (by decide) rfl (by decide) (by decide) (gcal_of rfl rfl rfl (Nat.le_of_ble_eq_true rfl) (gJ.recv (G := gGG) hS.1 tx rfl rfl)) (hc) (fun q1 _ wq1 => ?_)
  obtain ⟨pq1, oq1, hq1⟩ := q1
  obtain ⟨tyq1, xq1, zq1, xq1_0, xq1_1, xq1_2, gq1, aq1, bq1, axq1_0, bxq1_0, axq1_1, bxq1_1, axq1_2, bxq1_2, uq1_0, uq1_1, uq1_2, uq1_3, uq1_4, yq1_0⟩ := wq1
  dsimp only at uq1_1 uq1_2
  refine ⟨_, gq1, ?_⟩
  show gz gPP gGG gcn _ _ 8 [some (.ref x), some (.int (zi a)), some (.int (zi b)), some (.ref o), none] [.long (zl zq1), .int (zi 0), .ref o] hq1 _
  have G2 : gSg [] [] [90999] ty h tyq1 hq1 := gSg.tr (gSg.ss G0 hS (by decide)) xq1 (by decide) (by decide) (fun x hx => by cases hx)
  have t3 : tyq1 x = 50 := gSg.typ xq1 hS.1 tx rfl
  have t4 : tyq1 o = 90 := gSg.typ xq1 hS.1 to rfl
  have uq5 := gSg.uq xq1 uq (by decide)
  have sS6 : gSs rT 1027 tyq1 [90999] hq1 hq1 := gSs.rf xq1.1
  have hl7 : 1 ≤ hq1.2.2.2.1 o ∧ hq1.2.2.2.1 o ≤ 1 := gJ.rowl (G := gGG) sS6.1 t4 rfl
  refine gs_last rfl (by decide) sS6 t4 rfl rfl rfl (by decide) (fun _ => rfl) (by omega) (by omega) (fun _ => (by decide : (90999 : Nat) ∈ ([90999] : List Nat))) (by omega) (by omega) (fun h8 sh8 eh8 fh8 => ?_)
  have pr9 := gIx.pa fh8 (sh8.2.2.2.2.1.trans sS6.2.2.2.2.1.symm) t4 (fun _ => (by decide : ¬ (90999 : Nat) ∈ gIxp)) yq1_0
  refine gz_s 2 (pc' := 17) (L' := [some (.ref x), some (.int (zi a)), some (.int (zi b)), some (.ref o), none]) (S' := [.int (zi 0)]) rfl ?_
  have k10 := sh8.2.1
  have k10b := sh8.2.2.1
  have G11 : gSg [] [] [90999] ty h tyq1 h8 := gSg.ss G2 sh8 (by decide)
  exact gz_end (I := .ireturn) (len := 1) rfl (Or.inl rfl) ⟨tyq1, G11, 0, xq1_0, xq1_1, xq1_2, rfl, (by omega), (by omega), (by omega), (by omega), (by omega), (by omega), (by omega), (by omega), (by omega), (by dsimp only; omega), (by dsimp only; omega), (by omega), (by omega), pr9⟩
set_option maxRecDepth 20000 in
set_option maxHeartbeats 4000000 in
theorem hp_told (d : Nat) {ty : Nat → Nat} {h : gH} (hJ : gJ rT 1027 ty h) (x : Nat) (tx : ty x = 50) (a : Int) (ra : (-2147483648) ≤ a ∧ a ≤ 2147483647) (b : Int) (rb : (-2147483648) ≤ b ∧ b ≤ 2147483647) (o : Nat) (to : ty o = 90) (S : gSS) (ld : Int) (rld : 0 ≤ ld ∧ ld ≤ 192) (lb : Int) (rlb : 1024 ≤ lb ∧ lb ≤ 1000000) (iv : Int) (riv : 0 ≤ iv ∧ iv ≤ 26476544) (uq : gUq ty) (hc : gz gPP gGG gcn d gt81 0 (gent [.ref x, .int (zi a), .int (zi b)] 4) [] h (fun q _ => ∃ ty9 : Nat → Nat, gSg [] [] [] ty h ty9 q.2.2 ∧ ∃ z ld1 lb1 iv1 : Int, gfin gt81 q.1 q.2.1 = some (some (.int (zi z))) ∧ (-2147483648) ≤ z ∧ z ≤ 2147483647 ∧ 0 ≤ ld1 ∧ ld1 ≤ 192 ∧ 1024 ≤ lb1 ∧ lb1 ≤ 1000000 ∧ 0 ≤ iv1 ∧ iv1 ≤ 26476544 ∧ (iv1 = iv) ∧ (1024 * (((q.2.2.1 : Int) - h.1) - 31 - 2 * (ld1 - ld)) ≤ lb1 - lb) ∧ (((q.2.2.2.1 : Int) - h.2.1) ≤ 4303 + 12480 * (ld1 - ld) + 2 * (lb1 - lb)) ∧ (ld ≤ ld1) ∧ (lb ≤ lb1) ∧ (gIx ty9 x ld1 lb1 iv1 S q.2.2))) : gz gPP gGG gcn (d + 1) (gtLtold []) 0 (gent [.ref x, .int (zi a), .int (zi b), .ref o] 5) [] h (fun q _ => ∃ ty9 : Nat → Nat, gSg [] [] [90999] ty h ty9 q.2.2 ∧ ∃ z ld1 lb1 iv1 : Int, gfin (gtLtold []) q.1 q.2.1 = some (some (.int (zi z))) ∧ 0 ≤ z ∧ z ≤ 0 ∧ 0 ≤ ld1 ∧ ld1 ≤ 192 ∧ 1024 ≤ lb1 ∧ lb1 ≤ 1000000 ∧ 0 ≤ iv1 ∧ iv1 ≤ 26476544 ∧ (iv1 = iv) ∧ (1024 * (((q.2.2.1 : Int) - h.1) - 31 - 2 * (ld1 - ld)) ≤ lb1 - lb) ∧ (((q.2.2.2.1 : Int) - h.2.1) ≤ 4303 + 12480 * (ld1 - ld) + 2 * (lb1 - lb)) ∧ (ld ≤ ld1) ∧ (lb ≤ lb1) ∧ (gIx ty9 x ld1 lb1 iv1 S q.2.2)) := by
  have hS : gSs rT 1027 ty [90999] h h := gSs.rf hJ
  have G0 : gSg [] [] [90999] ty h ty h := gSg.rf hJ (fun x hx => by cases hx)
  refine gz_s 5 (pc' := 5) (L' := [some (.ref x), some (.int (zi a)), some (.int (zi b)), some (.ref o), none]) (S' := [.int (zi b), .int (zi a), .ref x, .int (zi 0), .ref o]) rfl ?_
  refine gz_call rfl (by decide) rfl (by decide) (by decide) (gcal_of rfl rfl rfl (Nat.le_of_ble_eq_true rfl) (gJ.recv (G := gGG) hS.1 tx rfl rfl)) (hc) (fun q1 _ wq1 => ?_)
  obtain ⟨pq1, oq1, hq1⟩ := q1
  obtain ⟨tyq1, xq1, zq1, xq1_0, xq1_1, xq1_2, gq1, aq1, bq1, axq1_0, bxq1_0, axq1_1, bxq1_1, axq1_2, bxq1_2, uq1_0, uq1_1, uq1_2, uq1_3, uq1_4, yq1_0⟩ := wq1
  dsimp only at uq1_1 uq1_2
  refine ⟨_, gq1, ?_⟩
  show gz gPP gGG gcn _ _ 8 [some (.ref x), some (.int (zi a)), some (.int (zi b)), some (.ref o), none] [.int (zi zq1), .int (zi 0), .ref o] hq1 _
  have G2 : gSg [] [] [90999] ty h tyq1 hq1 := gSg.tr (gSg.ss G0 hS (by decide)) xq1 (by decide) (by decide) (fun x hx => by cases hx)
  have t3 : tyq1 x = 50 := gSg.typ xq1 hS.1 tx rfl
  have t4 : tyq1 o = 90 := gSg.typ xq1 hS.1 to rfl
  have uq5 := gSg.uq xq1 uq (by decide)
  have sS6 : gSs rT 1027 tyq1 [90999] hq1 hq1 := gSs.rf xq1.1
  refine gy_i2l rfl (by decide) (by omega) ?_
  have hl7 : 1 ≤ hq1.2.2.2.1 o ∧ hq1.2.2.2.1 o ≤ 1 := gJ.rowl (G := gGG) sS6.1 t4 rfl
  refine gs_last rfl (by decide) sS6 t4 rfl rfl rfl (by decide) (fun _ => rfl) (by omega) (by omega) (fun _ => (by decide : (90999 : Nat) ∈ ([90999] : List Nat))) (by omega) (by omega) (fun h8 sh8 eh8 fh8 => ?_)
  have pr9 := gIx.pa fh8 (sh8.2.2.2.2.1.trans sS6.2.2.2.2.1.symm) t4 (fun _ => (by decide : ¬ (90999 : Nat) ∈ gIxp)) yq1_0
  refine gz_s 2 (pc' := 18) (L' := [some (.ref x), some (.int (zi a)), some (.int (zi b)), some (.ref o), none]) (S' := [.int (zi 0)]) rfl ?_
  have k10 := sh8.2.1
  have k10b := sh8.2.2.1
  have G11 : gSg [] [] [90999] ty h tyq1 h8 := gSg.ss G2 sh8 (by decide)
  exact gz_end (I := .ireturn) (len := 1) rfl (Or.inl rfl) ⟨tyq1, G11, 0, xq1_0, xq1_1, xq1_2, rfl, (by omega), (by omega), (by omega), (by omega), (by omega), (by omega), (by omega), (by omega), (by omega), (by dsimp only; omega), (by dsimp only; omega), (by omega), (by omega), pr9⟩
set_option maxRecDepth 20000 in
set_option maxHeartbeats 4000000 in
theorem hp_table (d : Nat) {ty : Nat → Nat} {h : gH} (hJ : gJ rT 1027 ty h) (x : Nat) (tx : ty x = 50) (a : Int) (ra : (-2147483648) ≤ a ∧ a ≤ 2147483647) (b : Int) (rb : (-2147483648) ≤ b ∧ b ≤ 2147483647) (v : Int) (rv : (-2147483648) ≤ v ∧ v ≤ 2147483647) (o : Nat) (to : ty o = 90) (S : gSS) (ld : Int) (rld : 0 ≤ ld ∧ ld ≤ 192) (lb : Int) (rlb : 1024 ≤ lb ∧ lb ≤ 1000000) (iv : Int) (riv : 0 ≤ iv ∧ iv ≤ 26476544) (uq : gUq ty) (hc : gz gPP gGG gcn d gt85 0 (gent [.ref x, .int (zi a), .int (zi b), .int (zi v)] 5) [] h (fun q _ => ∃ ty9 : Nat → Nat, gSg [] [] [53999] ty h ty9 q.2.2 ∧ ∃ z ld1 lb1 iv1 : Int, gfin gt85 q.1 q.2.1 = some (some (.int (zi z))) ∧ 0 ≤ z ∧ z ≤ 255 ∧ 0 ≤ ld1 ∧ ld1 ≤ 192 ∧ 1024 ≤ lb1 ∧ lb1 ≤ 1000000 ∧ 0 ≤ iv1 ∧ iv1 ≤ 26476544 ∧ (z = S.1.1 (a * 64 + b).toNat) ∧ (0 ≤ a) ∧ (a ≤ 3) ∧ (0 ≤ b) ∧ (b ≤ 63) ∧ (v = -1 ∨ (1 ≤ v ∧ v ≤ 255)) ∧ (iv1 = iv) ∧ (1024 * (((q.2.2.1 : Int) - h.1) - 31 - 2 * (ld1 - ld)) ≤ lb1 - lb) ∧ (((q.2.2.2.1 : Int) - h.2.1) ≤ 4303 + 12480 * (ld1 - ld) + 2 * (lb1 - lb)) ∧ (ld ≤ ld1) ∧ (lb ≤ lb1) ∧ (gIx ty9 x ld1 lb1 iv1 (eQ0 S a b v) q.2.2))) : gz gPP gGG gcn (d + 1) (gtLtable []) 0 (gent [.ref x, .int (zi a), .int (zi b), .int (zi v), .ref o] 6) [] h (fun q _ => ∃ ty9 : Nat → Nat, gSg [] [] [53999, 90999] ty h ty9 q.2.2 ∧ ∃ z ld1 lb1 iv1 : Int, gfin (gtLtable []) q.1 q.2.1 = some (some (.int (zi z))) ∧ 0 ≤ z ∧ z ≤ 0 ∧ 0 ≤ ld1 ∧ ld1 ≤ 192 ∧ 1024 ≤ lb1 ∧ lb1 ≤ 1000000 ∧ 0 ≤ iv1 ∧ iv1 ≤ 26476544 ∧ (0 ≤ a) ∧ (a ≤ 3) ∧ (0 ≤ b) ∧ (b ≤ 63) ∧ (v = -1 ∨ (1 ≤ v ∧ v ≤ 255)) ∧ (iv1 = iv) ∧ (1024 * (((q.2.2.1 : Int) - h.1) - 31 - 2 * (ld1 - ld)) ≤ lb1 - lb) ∧ (((q.2.2.2.1 : Int) - h.2.1) ≤ 4303 + 12480 * (ld1 - ld) + 2 * (lb1 - lb)) ∧ (ld ≤ ld1) ∧ (lb ≤ lb1) ∧ (gIx ty9 x ld1 lb1 iv1 (eQ0 S a b v) q.2.2)) := by
  have hS : gSs rT 1027 ty [53999, 90999] h h := gSs.rf hJ
  have G0 : gSg [] [] [53999, 90999] ty h ty h := gSg.rf hJ (fun x hx => by cases hx)
  refine gz_s 6 (pc' := 7) (L' := [some (.ref x), some (.int (zi a)), some (.int (zi b)), some (.int (zi v)), some (.ref o), none]) (S' := [.int (zi v), .int (zi b), .int (zi a), .ref x, .int (zi 0), .ref o]) rfl ?_
  refine gz_call rfl (by decide) rfl (by decide) (by decide) (gcal_of rfl rfl rfl (Nat.le_of_ble_eq_true rfl) (gJ.recv (G := gGG) hS.1 tx rfl rfl)) (hc) (fun q1 _ wq1 => ?_)
  obtain ⟨pq1, oq1, hq1⟩ := q1
  obtain ⟨tyq1, xq1, zq1, xq1_0, xq1_1, xq1_2, gq1, aq1, bq1, axq1_0, bxq1_0, axq1_1, bxq1_1, axq1_2, bxq1_2, uq1_0, uq1_1, uq1_2, uq1_3, uq1_4, uq1_5, uq1_6, uq1_7, uq1_8, uq1_9, uq1_10, yq1_0⟩ := wq1
  dsimp only at uq1_7 uq1_8
  refine ⟨_, gq1, ?_⟩
  show gz gPP gGG gcn _ _ 10 [some (.ref x), some (.int (zi a)), some (.int (zi b)), some (.int (zi v)), some (.ref o), none] [.int (zi zq1), .int (zi 0), .ref o] hq1 _
  have G2 : gSg [] [] [53999, 90999] ty h tyq1 hq1 := gSg.tr (gSg.ss G0 hS (by decide)) xq1 (by decide) (by decide) (fun x hx => by cases hx)
  have t3 : tyq1 x = 50 := gSg.typ xq1 hS.1 tx rfl
  have t4 : tyq1 o = 90 := gSg.typ xq1 hS.1 to rfl
  have uq5 := gSg.uq xq1 uq (by decide)
  have sS6 : gSs rT 1027 tyq1 [53999, 90999] hq1 hq1 := gSs.rf xq1.1
  refine gy_i2l rfl (by decide) (by omega) ?_
  have hl7 : 1 ≤ hq1.2.2.2.1 o ∧ hq1.2.2.2.1 o ≤ 1 := gJ.rowl (G := gGG) sS6.1 t4 rfl
  refine gs_last rfl (by decide) sS6 t4 rfl rfl rfl (by decide) (fun _ => rfl) (by omega) (by omega) (fun _ => (by decide : (90999 : Nat) ∈ ([53999, 90999] : List Nat))) (by omega) (by omega) (fun h8 sh8 eh8 fh8 => ?_)
  have pr9 := gIx.pa fh8 (sh8.2.2.2.2.1.trans sS6.2.2.2.2.1.symm) t4 (fun _ => (by decide : ¬ (90999 : Nat) ∈ gIxp)) yq1_0
  refine gz_s 2 (pc' := 24) (L' := [some (.ref x), some (.int (zi a)), some (.int (zi b)), some (.int (zi v)), some (.ref o), none]) (S' := [.int (zi 0)]) rfl ?_
  have k10 := sh8.2.1
  have k10b := sh8.2.2.1
  have G11 : gSg [] [] [53999, 90999] ty h tyq1 h8 := gSg.ss G2 sh8 (by decide)
  exact gz_end (I := .ireturn) (len := 1) rfl (Or.inl rfl) ⟨tyq1, G11, 0, xq1_0, xq1_1, xq1_2, rfl, (by omega), (by omega), (by omega), (by omega), (by omega), (by omega), (by omega), (by omega), (by omega), (by omega), (by omega), (by omega), (by omega), (by omega), (by dsimp only; omega), (by dsimp only; omega), (by omega), (by omega), pr9⟩
set_option maxRecDepth 20000 in
set_option maxHeartbeats 4000000 in
theorem hp_point (d : Nat) {ty : Nat → Nat} {h : gH} (hJ : gJ rT 1027 ty h) (x : Nat) (tx : ty x = 50) (a : Int) (ra : (-2147483648) ≤ a ∧ a ≤ 2147483647) (b : Int) (rb : (-2147483648) ≤ b ∧ b ≤ 2147483647) (v : Int) (rv : (-2147483648) ≤ v ∧ v ≤ 2147483647) (o : Nat) (to : ty o = 90) (S : gSS) (ld : Int) (rld : 0 ≤ ld ∧ ld ≤ 192) (lb : Int) (rlb : 1024 ≤ lb ∧ lb ≤ 1000000) (iv : Int) (riv : 0 ≤ iv ∧ iv ≤ 26476544) (uq : gUq ty) (hc : gz gPP gGG gcn d gt86 0 (gent [.ref x, .int (zi a), .int (zi b), .int (zi v)] 4) [] h (fun q _ => ∃ ty9 : Nat → Nat, gSg [] [] [55001, 55002, 59999] ty h ty9 q.2.2 ∧ ∃ z ld1 lb1 iv1 : Int, gfin gt86 q.1 q.2.1 = some (some (.int (zi z))) ∧ 0 ≤ z ∧ z ≤ 255 ∧ 0 ≤ ld1 ∧ ld1 ≤ 192 ∧ 1024 ≤ lb1 ∧ lb1 ≤ 1000000 ∧ 0 ≤ iv1 ∧ iv1 ≤ 26476544 ∧ (z = S.1.2.1 (b * 32 + a).toNat) ∧ (0 ≤ a) ∧ (a ≤ 31) ∧ (0 ≤ b) ∧ (b ≤ 31) ∧ (0 ≤ v) ∧ (v ≤ 255) ∧ (iv1 = iv + 64 * (if iv / 64 % 64 ≤ a then a + 1 - iv / 64 % 64 else 0) + 4096 * (if iv / 4096 % 64 ≤ b then b + 1 - iv / 4096 % 64 else 0)) ∧ (1024 * (((q.2.2.1 : Int) - h.1) - 31 - 2 * (ld1 - ld)) ≤ lb1 - lb) ∧ (((q.2.2.2.1 : Int) - h.2.1) ≤ 4303 + 12480 * (ld1 - ld) + 2 * (lb1 - lb)) ∧ (ld ≤ ld1) ∧ (lb ≤ lb1) ∧ (gIx ty9 x ld1 lb1 iv1 (eQ1 S a b v) q.2.2))) : gz gPP gGG gcn (d + 1) (gtLpoint []) 0 (gent [.ref x, .int (zi a), .int (zi b), .int (zi v), .ref o] 6) [] h (fun q _ => ∃ ty9 : Nat → Nat, gSg [] [] [55001, 55002, 59999, 90999] ty h ty9 q.2.2 ∧ ∃ z ld1 lb1 iv1 : Int, gfin (gtLpoint []) q.1 q.2.1 = some (some (.int (zi z))) ∧ 0 ≤ z ∧ z ≤ 0 ∧ 0 ≤ ld1 ∧ ld1 ≤ 192 ∧ 1024 ≤ lb1 ∧ lb1 ≤ 1000000 ∧ 0 ≤ iv1 ∧ iv1 ≤ 26476544 ∧ (0 ≤ a) ∧ (a ≤ 31) ∧ (0 ≤ b) ∧ (b ≤ 31) ∧ (0 ≤ v) ∧ (v ≤ 255) ∧ (iv1 = iv + 64 * (if iv / 64 % 64 ≤ a then a + 1 - iv / 64 % 64 else 0) + 4096 * (if iv / 4096 % 64 ≤ b then b + 1 - iv / 4096 % 64 else 0)) ∧ (1024 * (((q.2.2.1 : Int) - h.1) - 31 - 2 * (ld1 - ld)) ≤ lb1 - lb) ∧ (((q.2.2.2.1 : Int) - h.2.1) ≤ 4303 + 12480 * (ld1 - ld) + 2 * (lb1 - lb)) ∧ (ld ≤ ld1) ∧ (lb ≤ lb1) ∧ (gIx ty9 x ld1 lb1 iv1 (eQ1 S a b v) q.2.2)) := by
  have hS : gSs rT 1027 ty [55001, 55002, 59999, 90999] h h := gSs.rf hJ
  have G0 : gSg [] [] [55001, 55002, 59999, 90999] ty h ty h := gSg.rf hJ (fun x hx => by cases hx)
  refine gz_s 6 (pc' := 7) (L' := [some (.ref x), some (.int (zi a)), some (.int (zi b)), some (.int (zi v)), some (.ref o), none]) (S' := [.int (zi v), .int (zi b), .int (zi a), .ref x, .int (zi 0), .ref o]) rfl ?_
  refine gz_call rfl (by decide) rfl (by decide) (by decide) (gcal_of rfl rfl rfl (Nat.le_of_ble_eq_true rfl) (gJ.recv (G := gGG) hS.1 tx rfl rfl)) (hc) (fun q1 _ wq1 => ?_)
  obtain ⟨pq1, oq1, hq1⟩ := q1
  obtain ⟨tyq1, xq1, zq1, xq1_0, xq1_1, xq1_2, gq1, aq1, bq1, axq1_0, bxq1_0, axq1_1, bxq1_1, axq1_2, bxq1_2, uq1_0, uq1_1, uq1_2, uq1_3, uq1_4, uq1_5, uq1_6, uq1_7, uq1_8, uq1_9, uq1_10, uq1_11, yq1_0⟩ := wq1
  dsimp only at uq1_8 uq1_9
  refine ⟨_, gq1, ?_⟩
  show gz gPP gGG gcn _ _ 10 [some (.ref x), some (.int (zi a)), some (.int (zi b)), some (.int (zi v)), some (.ref o), none] [.int (zi zq1), .int (zi 0), .ref o] hq1 _
  have G2 : gSg [] [] [55001, 55002, 59999, 90999] ty h tyq1 hq1 := gSg.tr (gSg.ss G0 hS (by decide)) xq1 (by decide) (by decide) (fun x hx => by cases hx)
  have t3 : tyq1 x = 50 := gSg.typ xq1 hS.1 tx rfl
  have t4 : tyq1 o = 90 := gSg.typ xq1 hS.1 to rfl
  have uq5 := gSg.uq xq1 uq (by decide)
  have sS6 : gSs rT 1027 tyq1 [55001, 55002, 59999, 90999] hq1 hq1 := gSs.rf xq1.1
  refine gy_i2l rfl (by decide) (by omega) ?_
  have hl7 : 1 ≤ hq1.2.2.2.1 o ∧ hq1.2.2.2.1 o ≤ 1 := gJ.rowl (G := gGG) sS6.1 t4 rfl
  refine gs_last rfl (by decide) sS6 t4 rfl rfl rfl (by decide) (fun _ => rfl) (by omega) (by omega) (fun _ => (by decide : (90999 : Nat) ∈ ([55001, 55002, 59999, 90999] : List Nat))) (by omega) (by omega) (fun h8 sh8 eh8 fh8 => ?_)
  have pr9 := gIx.pa fh8 (sh8.2.2.2.2.1.trans sS6.2.2.2.2.1.symm) t4 (fun _ => (by decide : ¬ (90999 : Nat) ∈ gIxp)) yq1_0
  refine gz_s 2 (pc' := 24) (L' := [some (.ref x), some (.int (zi a)), some (.int (zi b)), some (.int (zi v)), some (.ref o), none]) (S' := [.int (zi 0)]) rfl ?_
  have k10 := sh8.2.1
  have k10b := sh8.2.2.1
  have G11 : gSg [] [] [55001, 55002, 59999, 90999] ty h tyq1 h8 := gSg.ss G2 sh8 (by decide)
  exact gz_end (I := .ireturn) (len := 1) rfl (Or.inl rfl) ⟨tyq1, G11, 0, xq1_0, xq1_1, xq1_2, rfl, (by omega), (by omega), (by omega), (by omega), (by omega), (by omega), (by omega), (by omega), (by omega), (by omega), (by omega), (by omega), (by omega), (by omega), (by omega), (by dsimp only; omega), (by dsimp only; omega), (by omega), (by omega), pr9⟩
set_option maxRecDepth 20000 in
set_option maxHeartbeats 4000000 in
theorem hp_restart (d : Nat) {ty : Nat → Nat} {h : gH} (hJ : gJ rT 1027 ty h) (x : Nat) (tx : ty x = 50) (n : Int) (rn : (-2147483648) ≤ n ∧ n ≤ 2147483647) (o : Nat) (to : ty o = 90) (S : gSS) (ld : Int) (rld : 0 ≤ ld ∧ ld ≤ 192) (lb : Int) (rlb : 1024 ≤ lb ∧ lb ≤ 1000000) (iv : Int) (riv : 0 ≤ iv ∧ iv ≤ 26476544) (uq : gUq ty) (hc : gz gPP gGG gcn d gt88 0 (gent [.ref x, .int (zi n)] 3) [] h (fun q _ => ∃ ty9 : Nat → Nat, gSg [] [] [55003] ty h ty9 q.2.2 ∧ ∃ z ld1 lb1 iv1 : Int, gfin gt88 q.1 q.2.1 = some (some (.int (zi z))) ∧ 0 ≤ z ∧ z ≤ 100 ∧ 0 ≤ ld1 ∧ ld1 ≤ 192 ∧ 1024 ≤ lb1 ∧ lb1 ≤ 1000000 ∧ 0 ≤ iv1 ∧ iv1 ≤ 26476544 ∧ (0 ≤ n) ∧ (n ≤ 100) ∧ (z = iv / 262144) ∧ (iv1 = iv % 262144 + 262144 * n) ∧ (1024 * (((q.2.2.1 : Int) - h.1) - 31 - 2 * (ld1 - ld)) ≤ lb1 - lb) ∧ (((q.2.2.2.1 : Int) - h.2.1) ≤ 4303 + 12480 * (ld1 - ld) + 2 * (lb1 - lb)) ∧ (ld ≤ ld1) ∧ (lb ≤ lb1) ∧ (gIx ty9 x ld1 lb1 iv1 S q.2.2))) : gz gPP gGG gcn (d + 1) (gtLrestart []) 0 (gent [.ref x, .int (zi n), .ref o] 4) [] h (fun q _ => ∃ ty9 : Nat → Nat, gSg [] [] [55003, 90999] ty h ty9 q.2.2 ∧ ∃ z ld1 lb1 iv1 : Int, gfin (gtLrestart []) q.1 q.2.1 = some (some (.int (zi z))) ∧ 0 ≤ z ∧ z ≤ 0 ∧ 0 ≤ ld1 ∧ ld1 ≤ 192 ∧ 1024 ≤ lb1 ∧ lb1 ≤ 1000000 ∧ 0 ≤ iv1 ∧ iv1 ≤ 26476544 ∧ (0 ≤ n) ∧ (n ≤ 100) ∧ (iv1 = iv % 262144 + 262144 * n) ∧ (1024 * (((q.2.2.1 : Int) - h.1) - 31 - 2 * (ld1 - ld)) ≤ lb1 - lb) ∧ (((q.2.2.2.1 : Int) - h.2.1) ≤ 4303 + 12480 * (ld1 - ld) + 2 * (lb1 - lb)) ∧ (ld ≤ ld1) ∧ (lb ≤ lb1) ∧ (gIx ty9 x ld1 lb1 iv1 S q.2.2)) := by
  have hS : gSs rT 1027 ty [55003, 90999] h h := gSs.rf hJ
  have G0 : gSg [] [] [55003, 90999] ty h ty h := gSg.rf hJ (fun x hx => by cases hx)
  refine gz_s 4 (pc' := 4) (L' := [some (.ref x), some (.int (zi n)), some (.ref o), none]) (S' := [.int (zi n), .ref x, .int (zi 0), .ref o]) rfl ?_
  refine gz_call rfl (by decide) rfl (by decide) (by decide) (gcal_of rfl rfl rfl (Nat.le_of_ble_eq_true rfl) (gJ.recv (G := gGG) hS.1 tx rfl rfl)) (hc) (fun q1 _ wq1 => ?_)
  obtain ⟨pq1, oq1, hq1⟩ := q1
  obtain ⟨tyq1, xq1, zq1, xq1_0, xq1_1, xq1_2, gq1, aq1, bq1, axq1_0, bxq1_0, axq1_1, bxq1_1, axq1_2, bxq1_2, uq1_0, uq1_1, uq1_2, uq1_3, uq1_4, uq1_5, uq1_6, uq1_7, yq1_0⟩ := wq1
  dsimp only at uq1_4 uq1_5
  refine ⟨_, gq1, ?_⟩
  show gz gPP gGG gcn _ _ 7 [some (.ref x), some (.int (zi n)), some (.ref o), none] [.int (zi zq1), .int (zi 0), .ref o] hq1 _
  have G2 : gSg [] [] [55003, 90999] ty h tyq1 hq1 := gSg.tr (gSg.ss G0 hS (by decide)) xq1 (by decide) (by decide) (fun x hx => by cases hx)
  have t3 : tyq1 x = 50 := gSg.typ xq1 hS.1 tx rfl
  have t4 : tyq1 o = 90 := gSg.typ xq1 hS.1 to rfl
  have uq5 := gSg.uq xq1 uq (by decide)
  have sS6 : gSs rT 1027 tyq1 [55003, 90999] hq1 hq1 := gSs.rf xq1.1
  refine gy_i2l rfl (by decide) (by omega) ?_
  have hl7 : 1 ≤ hq1.2.2.2.1 o ∧ hq1.2.2.2.1 o ≤ 1 := gJ.rowl (G := gGG) sS6.1 t4 rfl
  refine gs_last rfl (by decide) sS6 t4 rfl rfl rfl (by decide) (fun _ => rfl) (by omega) (by omega) (fun _ => (by decide : (90999 : Nat) ∈ ([55003, 90999] : List Nat))) (by omega) (by omega) (fun h8 sh8 eh8 fh8 => ?_)
  have pr9 := gIx.pa fh8 (sh8.2.2.2.2.1.trans sS6.2.2.2.2.1.symm) t4 (fun _ => (by decide : ¬ (90999 : Nat) ∈ gIxp)) yq1_0
  refine gz_s 2 (pc' := 16) (L' := [some (.ref x), some (.int (zi n)), some (.ref o), none]) (S' := [.int (zi 0)]) rfl ?_
  have k10 := sh8.2.1
  have k10b := sh8.2.2.1
  have G11 : gSg [] [] [55003, 90999] ty h tyq1 h8 := gSg.ss G2 sh8 (by decide)
  exact gz_end (I := .ireturn) (len := 1) rfl (Or.inl rfl) ⟨tyq1, G11, 0, xq1_0, xq1_1, xq1_2, rfl, (by omega), (by omega), (by omega), (by omega), (by omega), (by omega), (by omega), (by omega), (by omega), (by omega), (by omega), (by dsimp only; omega), (by dsimp only; omega), (by omega), (by omega), pr9⟩
set_option maxRecDepth 20000 in
set_option maxHeartbeats 4000000 in
theorem hp_encode (d : Nat) {ty : Nat → Nat} {h : gH} (hJ : gJ rT 1027 ty h) (x : Nat) (tx : ty x = 50) (qu : Int) (rqu : (-2147483648) ≤ qu ∧ qu ≤ 2147483647) (o : Nat) (to : ty o = 90) (S : gSS) (ld : Int) (rld : 0 ≤ ld ∧ ld ≤ 192) (lb : Int) (rlb : 1024 ≤ lb ∧ lb ≤ 1000000) (iv : Int) (riv : 0 ≤ iv ∧ iv ≤ 26476544) (uq : gUq ty) (hc : gz gPP gGG gcn d gt89 0 (gent [.ref x, .int (zi qu)] 3) [] h (fun q _ => ∃ ty9 : Nat → Nat, gSg [71, 72, 73, 74, 75, 76, 77, 78, 79, 80, 81, 85, 91, 92, 93, 94, 95, 96, 97, 98, 99, 114, 200] [] [50006, 55008, 56000, 56001, 56002, 56003, 64999, 71005, 71006, 71007, 71008, 71009, 71010, 71011, 71012, 71013, 71014, 72999, 73999, 74999, 76999, 77999, 78999, 79999, 80999, 81999, 85999, 91004, 91008, 92004, 92008, 93999, 94999, 95999, 96999, 97999, 98999, 99999, 114999] ty h ty9 q.2.2 ∧ ∃ z ld1 lb1 iv1 : Int, gfin gt89 q.1 q.2.1 = some (some (.int (zi z))) ∧ (-2147483648) ≤ z ∧ z ≤ 2147483647 ∧ 0 ≤ ld1 ∧ ld1 ≤ 192 ∧ 1024 ≤ lb1 ∧ lb1 ≤ 1000000 ∧ 0 ≤ iv1 ∧ iv1 ≤ 26476544 ∧ (1 ≤ qu) ∧ (qu ≤ 100) ∧ (1 ≤ iv / 64 % 64) ∧ (iv1 = iv - iv % 64) ∧ (z = (eNn qu (iv / 262144) (iv / 64 % 64) (iv / 4096 % 64) (iv % 64) S).1) ∧ (1024 * (((q.2.2.1 : Int) - h.1) - 31 - 2 * (ld1 - ld)) ≤ lb1 - lb) ∧ (((q.2.2.2.1 : Int) - h.2.1) ≤ 4303 + 12480 * (ld1 - ld) + 2 * (lb1 - lb)) ∧ (ld ≤ ld1) ∧ (lb ≤ lb1) ∧ (gIx ty9 x ld1 lb1 iv1 (eQ3 qu (iv / 262144) (iv / 64 % 64) (iv / 4096 % 64) (iv % 64) S) q.2.2) ∧ gUq ty9)) : gz gPP gGG gcn (d + 1) (gtLencode []) 0 (gent [.ref x, .int (zi qu), .ref o] 4) [] h (fun q _ => ∃ ty9 : Nat → Nat, gSg [71, 72, 73, 74, 75, 76, 77, 78, 79, 80, 81, 85, 91, 92, 93, 94, 95, 96, 97, 98, 99, 114, 200] [] [50006, 55008, 56000, 56001, 56002, 56003, 64999, 71005, 71006, 71007, 71008, 71009, 71010, 71011, 71012, 71013, 71014, 72999, 73999, 74999, 76999, 77999, 78999, 79999, 80999, 81999, 85999, 90999, 91004, 91008, 92004, 92008, 93999, 94999, 95999, 96999, 97999, 98999, 99999, 114999] ty h ty9 q.2.2 ∧ ∃ z ld1 lb1 iv1 : Int, gfin (gtLencode []) q.1 q.2.1 = some (some (.int (zi z))) ∧ 0 ≤ z ∧ z ≤ 0 ∧ 0 ≤ ld1 ∧ ld1 ≤ 192 ∧ 1024 ≤ lb1 ∧ lb1 ≤ 1000000 ∧ 0 ≤ iv1 ∧ iv1 ≤ 26476544 ∧ (1 ≤ qu) ∧ (qu ≤ 100) ∧ (1 ≤ iv / 64 % 64) ∧ (iv1 = iv - iv % 64) ∧ (1024 * (((q.2.2.1 : Int) - h.1) - 31 - 2 * (ld1 - ld)) ≤ lb1 - lb) ∧ (((q.2.2.2.1 : Int) - h.2.1) ≤ 4303 + 12480 * (ld1 - ld) + 2 * (lb1 - lb)) ∧ (ld ≤ ld1) ∧ (lb ≤ lb1) ∧ (gIx ty9 x ld1 lb1 iv1 (eQ3 qu (iv / 262144) (iv / 64 % 64) (iv / 4096 % 64) (iv % 64) S) q.2.2) ∧ gUq ty9) := by
  have hS : gSs rT 1027 ty [50006, 55008, 56000, 56001, 56002, 56003, 64999, 71005, 71006, 71007, 71008, 71009, 71010, 71011, 71012, 71013, 71014, 72999, 73999, 74999, 76999, 77999, 78999, 79999, 80999, 81999, 85999, 90999, 91004, 91008, 92004, 92008, 93999, 94999, 95999, 96999, 97999, 98999, 99999, 114999] h h := gSs.rf hJ
  have G0 : gSg [71, 72, 73, 74, 75, 76, 77, 78, 79, 80, 81, 85, 91, 92, 93, 94, 95, 96, 97, 98, 99, 114, 200] [] [50006, 55008, 56000, 56001, 56002, 56003, 64999, 71005, 71006, 71007, 71008, 71009, 71010, 71011, 71012, 71013, 71014, 72999, 73999, 74999, 76999, 77999, 78999, 79999, 80999, 81999, 85999, 90999, 91004, 91008, 92004, 92008, 93999, 94999, 95999, 96999, 97999, 98999, 99999, 114999] ty h ty h := gSg.rf hJ (fun x hx => by cases hx)
  refine gz_s 4 (pc' := 4) (L' := [some (.ref x), some (.int (zi qu)), some (.ref o), none]) (S' := [.int (zi qu), .ref x, .int (zi 0), .ref o]) rfl ?_
  refine gz_call rfl (by decide) rfl (by decide) (by decide) (gcal_of rfl rfl rfl (Nat.le_of_ble_eq_true rfl) (gJ.recv (G := gGG) hS.1 tx rfl rfl)) (hc) (fun q1 _ wq1 => ?_)
  obtain ⟨pq1, oq1, hq1⟩ := q1
  obtain ⟨tyq1, xq1, zq1, xq1_0, xq1_1, xq1_2, gq1, aq1, bq1, axq1_0, bxq1_0, axq1_1, bxq1_1, axq1_2, bxq1_2, uq1_0, uq1_1, uq1_2, uq1_3, uq1_4, uq1_5, uq1_6, uq1_7, uq1_8, yq1_0, uqq1⟩ := wq1
  dsimp only at uq1_5 uq1_6
  refine ⟨_, gq1, ?_⟩
  show gz gPP gGG gcn _ _ 7 [some (.ref x), some (.int (zi qu)), some (.ref o), none] [.int (zi zq1), .int (zi 0), .ref o] hq1 _
  have G2 : gSg [71, 72, 73, 74, 75, 76, 77, 78, 79, 80, 81, 85, 91, 92, 93, 94, 95, 96, 97, 98, 99, 114, 200] [] [50006, 55008, 56000, 56001, 56002, 56003, 64999, 71005, 71006, 71007, 71008, 71009, 71010, 71011, 71012, 71013, 71014, 72999, 73999, 74999, 76999, 77999, 78999, 79999, 80999, 81999, 85999, 90999, 91004, 91008, 92004, 92008, 93999, 94999, 95999, 96999, 97999, 98999, 99999, 114999] ty h tyq1 hq1 := gSg.tr (gSg.ss G0 hS (by decide)) xq1 (by decide) (by decide) (fun x hx => by cases hx)
  have t3 : tyq1 x = 50 := gSg.typ xq1 hS.1 tx rfl
  have t4 : tyq1 o = 90 := gSg.typ xq1 hS.1 to rfl
  have sS5 : gSs rT 1027 tyq1 [50006, 55008, 56000, 56001, 56002, 56003, 64999, 71005, 71006, 71007, 71008, 71009, 71010, 71011, 71012, 71013, 71014, 72999, 73999, 74999, 76999, 77999, 78999, 79999, 80999, 81999, 85999, 90999, 91004, 91008, 92004, 92008, 93999, 94999, 95999, 96999, 97999, 98999, 99999, 114999] hq1 hq1 := gSs.rf xq1.1
  refine gy_i2l rfl (by decide) (by omega) ?_
  have hl6 : 1 ≤ hq1.2.2.2.1 o ∧ hq1.2.2.2.1 o ≤ 1 := gJ.rowl (G := gGG) sS5.1 t4 rfl
  refine gs_last rfl (by decide) sS5 t4 rfl rfl rfl (by decide) (fun _ => rfl) (by omega) (by omega) (fun _ => (by decide : (90999 : Nat) ∈ ([50006, 55008, 56000, 56001, 56002, 56003, 64999, 71005, 71006, 71007, 71008, 71009, 71010, 71011, 71012, 71013, 71014, 72999, 73999, 74999, 76999, 77999, 78999, 79999, 80999, 81999, 85999, 90999, 91004, 91008, 92004, 92008, 93999, 94999, 95999, 96999, 97999, 98999, 99999, 114999] : List Nat))) (by omega) (by omega) (fun h7 sh7 eh7 fh7 => ?_)
  have pr8 := gIx.pa fh7 (sh7.2.2.2.2.1.trans sS5.2.2.2.2.1.symm) t4 (fun _ => (by decide : ¬ (90999 : Nat) ∈ gIxp)) yq1_0
  refine gz_s 2 (pc' := 19) (L' := [some (.ref x), some (.int (zi qu)), some (.ref o), none]) (S' := [.int (zi 0)]) rfl ?_
  have k9 := sh7.2.1
  have k9b := sh7.2.2.1
  have G10 : gSg [71, 72, 73, 74, 75, 76, 77, 78, 79, 80, 81, 85, 91, 92, 93, 94, 95, 96, 97, 98, 99, 114, 200] [] [50006, 55008, 56000, 56001, 56002, 56003, 64999, 71005, 71006, 71007, 71008, 71009, 71010, 71011, 71012, 71013, 71014, 72999, 73999, 74999, 76999, 77999, 78999, 79999, 80999, 81999, 85999, 90999, 91004, 91008, 92004, 92008, 93999, 94999, 95999, 96999, 97999, 98999, 99999, 114999] ty h tyq1 h7 := gSg.ss G2 sh7 (by decide)
  exact gz_end (I := .ireturn) (len := 1) rfl (Or.inl rfl) ⟨tyq1, G10, 0, xq1_0, xq1_1, xq1_2, rfl, (by omega), (by omega), (by omega), (by omega), (by omega), (by omega), (by omega), (by omega), (by omega), (by omega), (by omega), (by omega), (by dsimp only; omega), (by dsimp only; omega), (by omega), (by omega), pr8, uqq1⟩
set_option maxRecDepth 20000 in
set_option maxHeartbeats 4000000 in
theorem hp_octet (d : Nat) {ty : Nat → Nat} {h : gH} (hJ : gJ rT 1027 ty h) (x : Nat) (tx : ty x = 50) (i : Int) (ri : (-2147483648) ≤ i ∧ i ≤ 2147483647) (o : Nat) (to : ty o = 90) (S : gSS) (ld : Int) (rld : 0 ≤ ld ∧ ld ≤ 192) (lb : Int) (rlb : 1024 ≤ lb ∧ lb ≤ 1000000) (iv : Int) (riv : 0 ≤ iv ∧ iv ≤ 26476544) (uq : gUq ty) (hc : gz gPP gGG gcn d gt129 0 (gent [.ref x, .int (zi i)] 2) [] h (fun q _ => ∃ ty9 : Nat → Nat, gSg [] [] [] ty h ty9 q.2.2 ∧ ∃ z ld1 lb1 iv1 : Int, gfin gt129 q.1 q.2.1 = some (some (.int (zi z))) ∧ (-128) ≤ z ∧ z ≤ 127 ∧ 0 ≤ ld1 ∧ ld1 ≤ 192 ∧ 1024 ≤ lb1 ∧ lb1 ≤ 1000000 ∧ 0 ≤ iv1 ∧ iv1 ≤ 26476544 ∧ (0 ≤ i) ∧ (i < S.2.1) ∧ (z = eeS (S.2.2.2.2 i.toNat)) ∧ (iv1 = iv) ∧ (1024 * (((q.2.2.1 : Int) - h.1) - 31 - 2 * (ld1 - ld)) ≤ lb1 - lb) ∧ (((q.2.2.2.1 : Int) - h.2.1) ≤ 4303 + 12480 * (ld1 - ld) + 2 * (lb1 - lb)) ∧ (ld ≤ ld1) ∧ (lb ≤ lb1) ∧ (gIx ty9 x ld1 lb1 iv1 S q.2.2))) : gz gPP gGG gcn (d + 1) (gtLoctet []) 0 (gent [.ref x, .int (zi i), .ref o] 4) [] h (fun q _ => ∃ ty9 : Nat → Nat, gSg [] [] [90999] ty h ty9 q.2.2 ∧ ∃ z ld1 lb1 iv1 : Int, gfin (gtLoctet []) q.1 q.2.1 = some (some (.int (zi z))) ∧ 0 ≤ z ∧ z ≤ 0 ∧ 0 ≤ ld1 ∧ ld1 ≤ 192 ∧ 1024 ≤ lb1 ∧ lb1 ≤ 1000000 ∧ 0 ≤ iv1 ∧ iv1 ≤ 26476544 ∧ (0 ≤ i) ∧ (i < S.2.1) ∧ (iv1 = iv) ∧ (1024 * (((q.2.2.1 : Int) - h.1) - 31 - 2 * (ld1 - ld)) ≤ lb1 - lb) ∧ (((q.2.2.2.1 : Int) - h.2.1) ≤ 4303 + 12480 * (ld1 - ld) + 2 * (lb1 - lb)) ∧ (ld ≤ ld1) ∧ (lb ≤ lb1) ∧ (gIx ty9 x ld1 lb1 iv1 S q.2.2)) := by
  have hS : gSs rT 1027 ty [90999] h h := gSs.rf hJ
  have G0 : gSg [] [] [90999] ty h ty h := gSg.rf hJ (fun x hx => by cases hx)
  refine gz_s 4 (pc' := 4) (L' := [some (.ref x), some (.int (zi i)), some (.ref o), none]) (S' := [.int (zi i), .ref x, .int (zi 0), .ref o]) rfl ?_
  refine gz_call rfl (by decide) rfl (by decide) (by decide) (gcal_of rfl rfl rfl (Nat.le_of_ble_eq_true rfl) (gJ.recv (G := gGG) hS.1 tx rfl rfl)) (hc) (fun q1 _ wq1 => ?_)
  obtain ⟨pq1, oq1, hq1⟩ := q1
  obtain ⟨tyq1, xq1, zq1, xq1_0, xq1_1, xq1_2, gq1, aq1, bq1, axq1_0, bxq1_0, axq1_1, bxq1_1, axq1_2, bxq1_2, uq1_0, uq1_1, uq1_2, uq1_3, uq1_4, uq1_5, uq1_6, uq1_7, yq1_0⟩ := wq1
  dsimp only at uq1_4 uq1_5
  refine ⟨_, gq1, ?_⟩
  show gz gPP gGG gcn _ _ 7 [some (.ref x), some (.int (zi i)), some (.ref o), none] [.int (zi zq1), .int (zi 0), .ref o] hq1 _
  have G2 : gSg [] [] [90999] ty h tyq1 hq1 := gSg.tr (gSg.ss G0 hS (by decide)) xq1 (by decide) (by decide) (fun x hx => by cases hx)
  have t3 : tyq1 x = 50 := gSg.typ xq1 hS.1 tx rfl
  have t4 : tyq1 o = 90 := gSg.typ xq1 hS.1 to rfl
  have uq5 := gSg.uq xq1 uq (by decide)
  have sS6 : gSs rT 1027 tyq1 [90999] hq1 hq1 := gSs.rf xq1.1
  refine gy_i2l rfl (by decide) (by omega) ?_
  have hl7 : 1 ≤ hq1.2.2.2.1 o ∧ hq1.2.2.2.1 o ≤ 1 := gJ.rowl (G := gGG) sS6.1 t4 rfl
  refine gs_last rfl (by decide) sS6 t4 rfl rfl rfl (by decide) (fun _ => rfl) (by omega) (by omega) (fun _ => (by decide : (90999 : Nat) ∈ ([90999] : List Nat))) (by omega) (by omega) (fun h8 sh8 eh8 fh8 => ?_)
  have pr9 := gIx.pa fh8 (sh8.2.2.2.2.1.trans sS6.2.2.2.2.1.symm) t4 (fun _ => (by decide : ¬ (90999 : Nat) ∈ gIxp)) yq1_0
  refine gz_s 2 (pc' := 16) (L' := [some (.ref x), some (.int (zi i)), some (.ref o), none]) (S' := [.int (zi 0)]) rfl ?_
  have k10 := sh8.2.1
  have k10b := sh8.2.2.1
  have G11 : gSg [] [] [90999] ty h tyq1 h8 := gSg.ss G2 sh8 (by decide)
  exact gz_end (I := .ireturn) (len := 1) rfl (Or.inl rfl) ⟨tyq1, G11, 0, xq1_0, xq1_1, xq1_2, rfl, (by omega), (by omega), (by omega), (by omega), (by omega), (by omega), (by omega), (by omega), (by omega), (by omega), (by omega), (by dsimp only; omega), (by dsimp only; omega), (by omega), (by omega), pr9⟩
