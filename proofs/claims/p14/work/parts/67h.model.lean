/-! ===== the model: methods (by program) ===== -/
set_option maxRecDepth 20000 in
set_option maxHeartbeats 4000000 in
theorem mm_units (d : Nat) {ty : Nat → Nat} {h : gH} (hJ : gJ rT 1027 ty h) (m : Nat) (tm : ty m = 1) (sb : Int) (esb : h.2.2.2.2 m 39 = .int (zi sb)) (rsb : 0 ≤ sb ∧ sb ≤ 3) (w : Int) (ew : h.2.2.2.2 m 18 = .int (zi w)) (rw : 0 ≤ w ∧ w ≤ 64) (hh : Int) (ehh : h.2.2.2.2 m 19 = .int (zi hh)) (rhh : 0 ≤ hh ∧ hh ≤ 64) (wd : Int) (ewd : h.2.2.2.2 m 21 = .int (zi wd)) (rwd : 1 ≤ wd ∧ wd ≤ 2) (hg : Int) (ehg : h.2.2.2.2 m 22 = .int (zi hg)) (rhg : 1 ≤ hg ∧ hg ≤ 2) (b0 : Int) (rb0 : 0 ≤ b0 ∧ b0 ≤ 2) (oc0 : Int) (roc0 : 1 ≤ oc0 ∧ oc0 ≤ 8) (or0 : Int) (ror0 : 1 ≤ or0 ∧ or0 ≤ 8) (pp0 : 1 ≤ zup w (8 * wd)) (pp1 : zup w (8 * wd) ≤ 8) (pp2 : 1 ≤ zup hh (8 * hg)) (pp3 : zup hh (8 * hg) ≤ 8) (el0 : gEl ty 25 0 b0 b0 h) (el1 : gEl ty 17 b0 oc0 oc0 h) (el2 : gEl ty 18 b0 or0 or0 h) : gz gPP gGG gcn (d + 1) gt145 0 (gent [.ref m] 2) [] h (fun q _ => gSs rT 1027 ty [] h q.2.2 ∧ ∃ z : Int, gfin gt145 q.1 q.2.1 = some (some (.int (zi z))) ∧ 1 ≤ z ∧ z ≤ 64 ∧ (sb = 1 → z = oc0 * or0) ∧ (¬ sb = 1 → z = zup w (8 * wd) * zup hh (8 * hg))) := by
  have hS : gSs rT 1027 ty [] h h := gSs.rf hJ
  have hxC := zb3 (a := oc0) (b := or0) (by omega) (by omega)
  refine gz_s 1 (pc' := 1) (L' := [some (.ref m), none]) (S' := [.ref m]) rfl ?_
  refine gs_gtr rfl (by decide) rfl hS.1 tm rfl rfl rfl (fun c1 ec1 tc1 => ?_)
  refine gz_s 1 (pc' := 5) (L' := [some (.ref m), none]) (S' := [.int (zi 0), .ref c1]) rfl ?_
  have hl2 : 3 ≤ h.2.2.2.1 c1 ∧ h.2.2.2.1 c1 ≤ 3 := gJ.rowl (G := gGG) hS.1 tc1 rfl
  refine gs_alx rfl (by decide) hS.1 tc1 rfl rfl rfl (by decide) (fun _ => rfl) (by omega) (by omega) (by decide) el0 (fun ex3 ax3 bx3 => ?_)
  refine gz_s 2 (pc' := 8) (L' := [some (.ref m), some (.int (zi b0))]) (S' := [.ref m]) rfl ?_
  refine gs_gtk rfl (by decide) rfl hS.1 tm rfl rfl esb ?_
  refine gz_s 1 (pc' := 12) (L' := [some (.ref m), some (.int (zi b0))]) (S' := [.int (zi 1), .int (zi sb)]) rfl ?_
  by_cases hc4 : ¬ (sb : Int) = 1
  · refine gy_icT (pc' := 31) rfl (by decide) (by decide) (by omega) (by omega) hc4 ?_
    refine gz_s 1 (pc' := 32) (L' := [some (.ref m), some (.int (zi b0))]) (S' := [.ref m]) rfl ?_
    refine gs_gtk rfl (by decide) rfl hS.1 tm rfl rfl ew ?_
    refine gz_s 2 (pc' := 38) (L' := [some (.ref m), some (.int (zi b0))]) (S' := [.ref m, .int (zi 8), .int (zi w)]) rfl ?_
    refine gs_gtk rfl (by decide) rfl hS.1 tm rfl rfl ewd ?_
    refine gy_s 1 (pc' := 42) (L' := [some (.ref m), some (.int (zi b0))]) (S' := [.int ((zi 8) * (zi wd)), .int (zi w)]) (L2 := [some (.ref m), some (.int (zi b0))]) (S2 := [.int (zi (8 * wd)), .int (zi w)]) rfl (by simp only [zi_add, zi_sub, zi_mul, zi_neg, zi_and1, zi_and7, zi_and15, zi_and31, zi_and255]) (by simp only [zi_add, zi_sub, zi_mul, zi_neg, zi_and1, zi_and7, zi_and15, zi_and31, zi_and255]) ?_
    refine gz_call rfl (by decide) rfl (by decide) (by decide) (gcal_of rfl rfl rfl (Nat.le_of_ble_eq_true rfl) rfl) (mm_up _ hS.1 w (by omega) (8 * wd) (by omega) ) (fun q5 _ wq5 => ?_)
    obtain ⟨pq5, oq5, hq5⟩ := q5
    obtain ⟨xq5, zq5, gq5, aq5, bq5, uq5_0⟩ := wq5
    refine ⟨_, gq5, ?_⟩
    show gz gPP gGG gcn _ _ 45 [some (.ref m), some (.int (zi b0))] [.int (zi zq5)] hq5 _
    have sq5 := gSs.tr hS xq5 (by decide)
    have s6 := (xq5.2.2.2.2.2 m 39 (by rw [tm]; decide)).trans esb
    have s7 := (xq5.2.2.2.2.2 m 18 (by rw [tm]; decide)).trans ew
    have s8 := (xq5.2.2.2.2.2 m 19 (by rw [tm]; decide)).trans ehh
    have s9 := (xq5.2.2.2.2.2 m 21 (by rw [tm]; decide)).trans ewd
    have s10 := (xq5.2.2.2.2.2 m 22 (by rw [tm]; decide)).trans ehg
    have s11 := (xq5.2.2.2.2.2 m 40 (by rw [tm]; decide)).trans ec1
    have pr12 := gEl.fr xq5.2 (by decide) (fun _ => rfl) el0
    have pr13 := gEl.fr xq5.2 (by decide) (fun _ => rfl) el1
    have pr14 := gEl.fr xq5.2 (by decide) (fun _ => rfl) el2
    refine gz_s 1 (pc' := 46) (L' := [some (.ref m), some (.int (zi b0))]) (S' := [.ref m, .int (zi zq5)]) rfl ?_
    refine gs_gtk rfl (by decide) rfl sq5.1 tm rfl rfl s8 ?_
    refine gz_s 2 (pc' := 52) (L' := [some (.ref m), some (.int (zi b0))]) (S' := [.ref m, .int (zi 8), .int (zi hh), .int (zi zq5)]) rfl ?_
    refine gs_gtk rfl (by decide) rfl sq5.1 tm rfl rfl s10 ?_
    refine gy_s 1 (pc' := 56) (L' := [some (.ref m), some (.int (zi b0))]) (S' := [.int ((zi 8) * (zi hg)), .int (zi hh), .int (zi zq5)]) (L2 := [some (.ref m), some (.int (zi b0))]) (S2 := [.int (zi (8 * hg)), .int (zi hh), .int (zi zq5)]) rfl (by simp only [zi_add, zi_sub, zi_mul, zi_neg, zi_and1, zi_and7, zi_and15, zi_and31, zi_and255]) (by simp only [zi_add, zi_sub, zi_mul, zi_neg, zi_and1, zi_and7, zi_and15, zi_and31, zi_and255]) ?_
    refine gz_call rfl (by decide) rfl (by decide) (by decide) (gcal_of rfl rfl rfl (Nat.le_of_ble_eq_true rfl) rfl) (mm_up _ sq5.1 hh (by omega) (8 * hg) (by omega) ) (fun q15 _ wq15 => ?_)
    obtain ⟨pq15, oq15, hq15⟩ := q15
    obtain ⟨xq15, zq15, gq15, aq15, bq15, uq15_0⟩ := wq15
    refine ⟨_, gq15, ?_⟩
    show gz gPP gGG gcn _ _ 59 [some (.ref m), some (.int (zi b0))] [.int (zi zq15), .int (zi zq5)] hq15 _
    have sq15 := gSs.tr sq5 xq15 (by decide)
    have s16 := (xq15.2.2.2.2.2 m 39 (by rw [tm]; decide)).trans s6
    have s17 := (xq15.2.2.2.2.2 m 18 (by rw [tm]; decide)).trans s7
    have s18 := (xq15.2.2.2.2.2 m 19 (by rw [tm]; decide)).trans s8
    have s19 := (xq15.2.2.2.2.2 m 21 (by rw [tm]; decide)).trans s9
    have s20 := (xq15.2.2.2.2.2 m 22 (by rw [tm]; decide)).trans s10
    have s21 := (xq15.2.2.2.2.2 m 40 (by rw [tm]; decide)).trans s11
    have pr22 := gEl.fr xq15.2 (by decide) (fun _ => rfl) pr12
    have pr23 := gEl.fr xq15.2 (by decide) (fun _ => rfl) pr13
    have pr24 := gEl.fr xq15.2 (by decide) (fun _ => rfl) pr14
    have hxA : zq5 * zq15 = zup w (8 * wd) * zup hh (8 * hg) := by rw [uq5_0, uq15_0]
    have hxB := zb3 (a := zup w (8 * wd)) (b := zup hh (8 * hg)) (by omega) (by omega)
    have hx25 := zx_f (a := zq5) (b := zq15) (A := 4097) (B := 4097) (by omega) (by omega) (by omega) (by omega)
    refine gy_s 1 (pc' := 60) (L' := [some (.ref m), some (.int (zi b0))]) (S' := [.int ((zi zq5) * (zi zq15))]) (L2 := [some (.ref m), some (.int (zi b0))]) (S2 := [.int (zi (zq5 * zq15))]) rfl (by simp only [zi_add, zi_sub, zi_mul, zi_neg, zi_and1, zi_and7, zi_and15, zi_and31, zi_and255]) (by simp only [zi_add, zi_sub, zi_mul, zi_neg, zi_and1, zi_and7, zi_and15, zi_and31, zi_and255]) ?_
    exact gz_end (I := .ireturn) (len := 1) rfl (Or.inl rfl) ⟨sq15, zq5 * zq15, rfl, (by omega), (by omega), (by omega), (by omega)⟩
  · refine gy_icF rfl (by decide) (by decide) (by omega) (by omega) hc4 ?_
    refine gz_s 1 (pc' := 16) (L' := [some (.ref m), some (.int (zi b0))]) (S' := [.ref m]) rfl ?_
    refine gs_gtr rfl (by decide) rfl hS.1 tm rfl rfl rfl (fun c26 ec26 tc26 => ?_)
    refine gz_s 1 (pc' := 20) (L' := [some (.ref m), some (.int (zi b0))]) (S' := [.int (zi b0), .ref c26]) rfl ?_
    have hl27 : 3 ≤ h.2.2.2.1 c26 ∧ h.2.2.2.1 c26 ≤ 3 := gJ.rowl (G := gGG) hS.1 tc26 rfl
    refine gs_alx rfl (by decide) hS.1 tc26 rfl rfl rfl (by decide) (fun _ => rfl) (by omega) (by omega) (by decide) el1 (fun ex28 ax28 bx28 => ?_)
    refine gz_s 1 (pc' := 22) (L' := [some (.ref m), some (.int (zi b0))]) (S' := [.ref m, .int (zi oc0)]) rfl ?_
    refine gs_gtr rfl (by decide) rfl hS.1 tm rfl rfl rfl (fun c29 ec29 tc29 => ?_)
    refine gz_s 1 (pc' := 26) (L' := [some (.ref m), some (.int (zi b0))]) (S' := [.int (zi b0), .ref c29, .int (zi oc0)]) rfl ?_
    have hl30 : 3 ≤ h.2.2.2.1 c29 ∧ h.2.2.2.1 c29 ≤ 3 := gJ.rowl (G := gGG) hS.1 tc29 rfl
    refine gs_alx rfl (by decide) hS.1 tc29 rfl rfl rfl (by decide) (fun _ => rfl) (by omega) (by omega) (by decide) el2 (fun ex31 ax31 bx31 => ?_)
    have hx32 := zx_f (a := oc0) (b := or0) (A := 8) (B := 8) (by omega) (by omega) (by omega) (by omega)
    refine gy_s 2 (pc' := 60) (L' := [some (.ref m), some (.int (zi b0))]) (S' := [.int ((zi oc0) * (zi or0))]) (L2 := [some (.ref m), some (.int (zi b0))]) (S2 := [.int (zi (oc0 * or0))]) rfl (by simp only [zi_add, zi_sub, zi_mul, zi_neg, zi_and1, zi_and7, zi_and15, zi_and31, zi_and255]) (by simp only [zi_add, zi_sub, zi_mul, zi_neg, zi_and1, zi_and7, zi_and15, zi_and31, zi_and255]) ?_
    exact gz_end (I := .ireturn) (len := 1) rfl (Or.inl rfl) ⟨hS, oc0 * or0, rfl, (by omega), (by omega), (by omega), (by omega)⟩
set_option maxRecDepth 20000 in
set_option maxHeartbeats 4000000 in
theorem mm_blocksOf (d : Nat) {ty : Nat → Nat} {h : gH} (hJ : gJ rT 1027 ty h) (m : Nat) (tm : ty m = 1) (b : Int) (rb : 0 ≤ b ∧ b ≤ 2) (sb : Int) (esb : h.2.2.2.2 m 39 = .int (zi sb)) (rsb : 0 ≤ sb ∧ sb ≤ 3) (hb : Int) (rhb : 1 ≤ hb ∧ hb ≤ 2) (vb : Int) (rvb : 1 ≤ vb ∧ vb ≤ 2) (el0 : gEl ty 12 b hb hb h) (el1 : gEl ty 13 b vb vb h) : gz gPP gGG gcn (d + 0) gt151 0 (gent [.ref m, .int (zi b)] 2) [] h (fun q _ => gSs rT 1027 ty [] h q.2.2 ∧ ∃ z : Int, gfin gt151 q.1 q.2.1 = some (some (.int (zi z))) ∧ 1 ≤ z ∧ z ≤ 4 ∧ (sb = 1 → z = 1) ∧ (¬ sb = 1 → z = hb * vb)) := by
  have hS : gSs rT 1027 ty [] h h := gSs.rf hJ
  have hxC : 1 ≤ hb * vb ∧ hb * vb ≤ 4 := by rcases (by omega : hb = 1 ∨ hb = 2) with e | e <;> rw [e] <;> omega
  refine gz_s 1 (pc' := 1) (L' := [some (.ref m), some (.int (zi b))]) (S' := [.ref m]) rfl ?_
  refine gs_gtk rfl (by decide) rfl hS.1 tm rfl rfl esb ?_
  refine gz_s 1 (pc' := 5) (L' := [some (.ref m), some (.int (zi b))]) (S' := [.int (zi 1), .int (zi sb)]) rfl ?_
  by_cases hc1 : ¬ (sb : Int) = 1
  · refine gy_icT (pc' := 12) rfl (by decide) (by decide) (by omega) (by omega) hc1 ?_
    refine gz_s 1 (pc' := 13) (L' := [some (.ref m), some (.int (zi b))]) (S' := [.ref m]) rfl ?_
    refine gs_gtr rfl (by decide) rfl hS.1 tm rfl rfl rfl (fun c2 ec2 tc2 => ?_)
    refine gz_s 1 (pc' := 17) (L' := [some (.ref m), some (.int (zi b))]) (S' := [.int (zi b), .ref c2]) rfl ?_
    have hl3 : 3 ≤ h.2.2.2.1 c2 ∧ h.2.2.2.1 c2 ≤ 3 := gJ.rowl (G := gGG) hS.1 tc2 rfl
    refine gs_alx rfl (by decide) hS.1 tc2 rfl rfl rfl (by decide) (fun _ => rfl) (by omega) (by omega) (by decide) el0 (fun ex4 ax4 bx4 => ?_)
    refine gz_s 1 (pc' := 19) (L' := [some (.ref m), some (.int (zi b))]) (S' := [.ref m, .int (zi hb)]) rfl ?_
    refine gs_gtr rfl (by decide) rfl hS.1 tm rfl rfl rfl (fun c5 ec5 tc5 => ?_)
    refine gz_s 1 (pc' := 23) (L' := [some (.ref m), some (.int (zi b))]) (S' := [.int (zi b), .ref c5, .int (zi hb)]) rfl ?_
    have hl6 : 3 ≤ h.2.2.2.1 c5 ∧ h.2.2.2.1 c5 ≤ 3 := gJ.rowl (G := gGG) hS.1 tc5 rfl
    refine gs_alx rfl (by decide) hS.1 tc5 rfl rfl rfl (by decide) (fun _ => rfl) (by omega) (by omega) (by decide) el1 (fun ex7 ax7 bx7 => ?_)
    have hx8 := zx_f (a := hb) (b := vb) (A := 2) (B := 2) (by omega) (by omega) (by omega) (by omega)
    refine gy_s 1 (pc' := 25) (L' := [some (.ref m), some (.int (zi b))]) (S' := [.int ((zi hb) * (zi vb))]) (L2 := [some (.ref m), some (.int (zi b))]) (S2 := [.int (zi (hb * vb))]) rfl (by simp only [zi_add, zi_sub, zi_mul, zi_neg, zi_and1, zi_and7, zi_and15, zi_and31, zi_and255]) (by simp only [zi_add, zi_sub, zi_mul, zi_neg, zi_and1, zi_and7, zi_and15, zi_and31, zi_and255]) ?_
    exact gz_end (I := .ireturn) (len := 1) rfl (Or.inl rfl) ⟨hS, hb * vb, rfl, (by omega), (by omega), (by omega), (by omega)⟩
  · refine gy_icF rfl (by decide) (by decide) (by omega) (by omega) hc1 ?_
    refine gz_s 2 (pc' := 25) (L' := [some (.ref m), some (.int (zi b))]) (S' := [.int (zi 1)]) rfl ?_
    exact gz_end (I := .ireturn) (len := 1) rfl (Or.inl rfl) ⟨hS, 1, rfl, (by omega), (by omega), (by omega), (by omega)⟩
set_option maxRecDepth 20000 in
set_option maxHeartbeats 4000000 in
theorem mm_block (d : Nat) {ty : Nat → Nat} {h : gH} (hJ : gJ rT 1027 ty h) (m : Nat) (tm : ty m = 1) (b : Int) (rb : 0 ≤ b ∧ b ≤ 2) (u : Int) (ru : 0 ≤ u ∧ u ≤ 63) (k : Int) (rk : 0 ≤ k ∧ k ≤ 3) (sb : Int) (esb : h.2.2.2.2 m 39 = .int (zi sb)) (rsb : 0 ≤ sb ∧ sb ≤ 3) (w : Int) (ew : h.2.2.2.2 m 18 = .int (zi w)) (rw : 0 ≤ w ∧ w ≤ 64) (hh : Int) (ehh : h.2.2.2.2 m 19 = .int (zi hh)) (rhh : 0 ≤ hh ∧ hh ≤ 64) (wd : Int) (ewd : h.2.2.2.2 m 21 = .int (zi wd)) (rwd : 1 ≤ wd ∧ wd ≤ 2) (hg : Int) (ehg : h.2.2.2.2 m 22 = .int (zi hg)) (rhg : 1 ≤ hg ∧ hg ≤ 2) (hb : Int) (rhb : 1 ≤ hb ∧ hb ≤ 2) (vb : Int) (rvb : 1 ≤ vb ∧ vb ≤ 2) (C : Int) (rC : 1 ≤ C ∧ C ≤ 8) (R : Int) (rR : 1 ≤ R ∧ R ≤ 8) (oc : Int) (roc : 1 ≤ oc ∧ oc ≤ 8) (orr : Int) (rorr : 1 ≤ orr ∧ orr ≤ 8) (f : Int) (rf : 0 ≤ f ∧ f ≤ 191) (pp0 : oc ≤ C) (pp1 : orr ≤ R) (pp2 : f + C * R ≤ 192) (pp3 : C = zup w (8 * wd) * hb) (pp4 : R = zup hh (8 * hg) * vb) (pp5 : sb = 1 → u < oc * orr) (pp6 : ¬ sb = 1 → (u < zup w (8 * wd) * zup hh (8 * hg) ∧ k < hb * vb)) (pp7 : 1 ≤ zup w (8 * wd)) (el0 : gEl ty 12 b hb hb h) (el1 : gEl ty 13 b vb vb h) (el2 : gEl ty 15 b C C h) (el3 : gEl ty 16 b R R h) (el4 : gEl ty 17 b oc oc h) (el5 : gEl ty 18 b orr orr h) (el6 : gEl ty 19 b f f h) : gz gPP gGG gcn (d + 1) gt152 0 (gent [.ref m, .int (zi b), .int (zi u), .int (zi k)] 7) [] h (fun q _ => gSs rT 1027 ty [] h q.2.2 ∧ ∃ z : Int, gfin gt152 q.1 q.2.1 = some (some (.int (zi z))) ∧ 0 ≤ z ∧ z ≤ 191) := by
  have hS : gSs rT 1027 ty [] h h := gSs.rf hJ
  refine gz_s 1 (pc' := 1) (L' := [some (.ref m), some (.int (zi b)), some (.int (zi u)), some (.int (zi k)), none, none, none]) (S' := [.ref m]) rfl ?_
  refine gs_gtk rfl (by decide) rfl hS.1 tm rfl rfl esb ?_
  refine gz_s 1 (pc' := 5) (L' := [some (.ref m), some (.int (zi b)), some (.int (zi u)), some (.int (zi k)), none, none, none]) (S' := [.int (zi 1), .int (zi sb)]) rfl ?_
  by_cases hc1 : ¬ (sb : Int) = 1
  · refine gy_icT (pc' := 40) rfl (by decide) (by decide) (by omega) (by omega) hc1 ?_
    refine gz_s 1 (pc' := 41) (L' := [some (.ref m), some (.int (zi b)), some (.int (zi u)), some (.int (zi k)), none, none, none]) (S' := [.ref m]) rfl ?_
    refine gs_gtk rfl (by decide) rfl hS.1 tm rfl rfl ew ?_
    refine gz_s 2 (pc' := 47) (L' := [some (.ref m), some (.int (zi b)), some (.int (zi u)), some (.int (zi k)), none, none, none]) (S' := [.ref m, .int (zi 8), .int (zi w)]) rfl ?_
    refine gs_gtk rfl (by decide) rfl hS.1 tm rfl rfl ewd ?_
    refine gy_s 1 (pc' := 51) (L' := [some (.ref m), some (.int (zi b)), some (.int (zi u)), some (.int (zi k)), none, none, none]) (S' := [.int ((zi 8) * (zi wd)), .int (zi w)]) (L2 := [some (.ref m), some (.int (zi b)), some (.int (zi u)), some (.int (zi k)), none, none, none]) (S2 := [.int (zi (8 * wd)), .int (zi w)]) rfl (by simp only [zi_add, zi_sub, zi_mul, zi_neg, zi_and1, zi_and7, zi_and15, zi_and31, zi_and255]) (by simp only [zi_add, zi_sub, zi_mul, zi_neg, zi_and1, zi_and7, zi_and15, zi_and31, zi_and255]) ?_
    refine gz_call rfl (by decide) rfl (by decide) (by decide) (gcal_of rfl rfl rfl (Nat.le_of_ble_eq_true rfl) rfl) (mm_up _ hS.1 w (by omega) (8 * wd) (by omega) ) (fun q2 _ wq2 => ?_)
    obtain ⟨pq2, oq2, hq2⟩ := q2
    obtain ⟨xq2, zq2, gq2, aq2, bq2, uq2_0⟩ := wq2
    refine ⟨_, gq2, ?_⟩
    show gz gPP gGG gcn _ _ 54 [some (.ref m), some (.int (zi b)), some (.int (zi u)), some (.int (zi k)), none, none, none] [.int (zi zq2)] hq2 _
    have sq2 := gSs.tr hS xq2 (by decide)
    have s3 := (xq2.2.2.2.2.2 m 39 (by rw [tm]; decide)).trans esb
    have s4 := (xq2.2.2.2.2.2 m 18 (by rw [tm]; decide)).trans ew
    have s5 := (xq2.2.2.2.2.2 m 19 (by rw [tm]; decide)).trans ehh
    have s6 := (xq2.2.2.2.2.2 m 21 (by rw [tm]; decide)).trans ewd
    have s7 := (xq2.2.2.2.2.2 m 22 (by rw [tm]; decide)).trans ehg
    have pr8 := gEl.fr xq2.2 (by decide) (fun _ => rfl) el0
    have pr9 := gEl.fr xq2.2 (by decide) (fun _ => rfl) el1
    have pr10 := gEl.fr xq2.2 (by decide) (fun _ => rfl) el2
    have pr11 := gEl.fr xq2.2 (by decide) (fun _ => rfl) el3
    have pr12 := gEl.fr xq2.2 (by decide) (fun _ => rfl) el4
    have pr13 := gEl.fr xq2.2 (by decide) (fun _ => rfl) el5
    have pr14 := gEl.fr xq2.2 (by decide) (fun _ => rfl) el6
    refine gz_s 2 (pc' := 57) (L' := [some (.ref m), some (.int (zi b)), some (.int (zi u)), some (.int (zi k)), some (.int (zi zq2)), none, none]) (S' := [.ref m]) rfl ?_
    refine gs_gtr rfl (by decide) rfl sq2.1 tm rfl rfl rfl (fun c15 ec15 tc15 => ?_)
    refine gz_s 1 (pc' := 61) (L' := [some (.ref m), some (.int (zi b)), some (.int (zi u)), some (.int (zi k)), some (.int (zi zq2)), none, none]) (S' := [.int (zi b), .ref c15]) rfl ?_
    have hl16 : 3 ≤ hq2.2.2.2.1 c15 ∧ hq2.2.2.2.1 c15 ≤ 3 := gJ.rowl (G := gGG) sq2.1 tc15 rfl
    refine gs_alx rfl (by decide) sq2.1 tc15 rfl rfl rfl (by decide) (fun _ => rfl) (by omega) (by omega) (by decide) pr8 (fun ex17 ax17 bx17 => ?_)
    refine gz_s 2 (pc' := 65) (L' := [some (.ref m), some (.int (zi b)), some (.int (zi u)), some (.int (zi k)), some (.int (zi zq2)), none, none]) (S' := [.int (zi zq2), .int (zi u), .int (zi hb)]) rfl ?_
    refine gy_rem rfl (by decide) (by omega) (by omega) ?_
    have hd18 := zm_f (x := u) (y := zq2) (by omega) (by omega)
    refine gy_s 3 (pc' := 69) (L' := [some (.ref m), some (.int (zi b)), some (.int (zi u)), some (.int (zi k)), some (.int (zi zq2)), none, none]) (S' := [.ref m, .int (zi k), .int ((zi hb) * (zi (u % zq2)))]) (L2 := [some (.ref m), some (.int (zi b)), some (.int (zi u)), some (.int (zi k)), some (.int (zi zq2)), none, none]) (S2 := [.ref m, .int (zi k), .int (zi (hb * (u % zq2)))]) rfl (by simp only [zi_add, zi_sub, zi_mul, zi_neg, zi_and1, zi_and7, zi_and15, zi_and31, zi_and255]) (by simp only [zi_add, zi_sub, zi_mul, zi_neg, zi_and1, zi_and7, zi_and15, zi_and31, zi_and255]) ?_
    refine gs_gtk rfl (by decide) rfl sq2.1 tm rfl rfl ec15 ?_
    refine gz_s 1 (pc' := 73) (L' := [some (.ref m), some (.int (zi b)), some (.int (zi u)), some (.int (zi k)), some (.int (zi zq2)), none, none]) (S' := [.int (zi b), .ref c15, .int (zi k), .int (zi (hb * (u % zq2)))]) rfl ?_
    have hl19 : 3 ≤ hq2.2.2.2.1 c15 ∧ hq2.2.2.2.1 c15 ≤ 3 := gJ.rowl (G := gGG) sq2.1 tc15 rfl
    refine gs_alx rfl (by decide) sq2.1 tc15 rfl rfl rfl (by decide) (fun _ => rfl) (by omega) (by omega) (by decide) pr8 (fun ex20 ax20 bx20 => ?_)
    refine gy_rem rfl (by decide) (by omega) (by omega) ?_
    have hd21 := zm_f (x := k) (y := hb) (by omega) (by omega)
    refine gy_s 3 (pc' := 79) (L' := [some (.ref m), some (.int (zi b)), some (.int (zi u)), some (.int (zi k)), some (.int (zi zq2)), some (.int ((zi (hb * (u % zq2))) + (zi (k % hb)))), none]) (S' := [.ref m]) (L2 := [some (.ref m), some (.int (zi b)), some (.int (zi u)), some (.int (zi k)), some (.int (zi zq2)), some (.int (zi ((hb * (u % zq2)) + (k % hb)))), none]) (S2 := [.ref m]) rfl (by simp only [zi_add, zi_sub, zi_mul, zi_neg, zi_and1, zi_and7, zi_and15, zi_and31, zi_and255]) (by simp only [zi_add, zi_sub, zi_mul, zi_neg, zi_and1, zi_and7, zi_and15, zi_and31, zi_and255]) ?_
    refine gs_gtr rfl (by decide) rfl sq2.1 tm rfl rfl rfl (fun c22 ec22 tc22 => ?_)
    refine gz_s 1 (pc' := 83) (L' := [some (.ref m), some (.int (zi b)), some (.int (zi u)), some (.int (zi k)), some (.int (zi zq2)), some (.int (zi ((hb * (u % zq2)) + (k % hb)))), none]) (S' := [.int (zi b), .ref c22]) rfl ?_
    have hl23 : 3 ≤ hq2.2.2.2.1 c22 ∧ hq2.2.2.2.1 c22 ≤ 3 := gJ.rowl (G := gGG) sq2.1 tc22 rfl
    refine gs_alx rfl (by decide) sq2.1 tc22 rfl rfl rfl (by decide) (fun _ => rfl) (by omega) (by omega) (by decide) pr9 (fun ex24 ax24 bx24 => ?_)
    refine gz_s 2 (pc' := 87) (L' := [some (.ref m), some (.int (zi b)), some (.int (zi u)), some (.int (zi k)), some (.int (zi zq2)), some (.int (zi ((hb * (u % zq2)) + (k % hb)))), none]) (S' := [.int (zi zq2), .int (zi u), .int (zi vb)]) rfl ?_
    refine gy_div rfl (by decide) (by omega) (by omega) ?_
    have hd25 := zd_f (x := u) (y := zq2) (by omega) (by omega)
    refine gy_s 3 (pc' := 91) (L' := [some (.ref m), some (.int (zi b)), some (.int (zi u)), some (.int (zi k)), some (.int (zi zq2)), some (.int (zi ((hb * (u % zq2)) + (k % hb)))), none]) (S' := [.ref m, .int (zi k), .int ((zi vb) * (zi (u / zq2)))]) (L2 := [some (.ref m), some (.int (zi b)), some (.int (zi u)), some (.int (zi k)), some (.int (zi zq2)), some (.int (zi ((hb * (u % zq2)) + (k % hb)))), none]) (S2 := [.ref m, .int (zi k), .int (zi (vb * (u / zq2)))]) rfl (by simp only [zi_add, zi_sub, zi_mul, zi_neg, zi_and1, zi_and7, zi_and15, zi_and31, zi_and255]) (by simp only [zi_add, zi_sub, zi_mul, zi_neg, zi_and1, zi_and7, zi_and15, zi_and31, zi_and255]) ?_
    refine gs_gtk rfl (by decide) rfl sq2.1 tm rfl rfl ec15 ?_
    refine gz_s 1 (pc' := 95) (L' := [some (.ref m), some (.int (zi b)), some (.int (zi u)), some (.int (zi k)), some (.int (zi zq2)), some (.int (zi ((hb * (u % zq2)) + (k % hb)))), none]) (S' := [.int (zi b), .ref c15, .int (zi k), .int (zi (vb * (u / zq2)))]) rfl ?_
    have hl26 : 3 ≤ hq2.2.2.2.1 c15 ∧ hq2.2.2.2.1 c15 ≤ 3 := gJ.rowl (G := gGG) sq2.1 tc15 rfl
    refine gs_alx rfl (by decide) sq2.1 tc15 rfl rfl rfl (by decide) (fun _ => rfl) (by omega) (by omega) (by decide) pr8 (fun ex27 ax27 bx27 => ?_)
    refine gy_div rfl (by decide) (by omega) (by omega) ?_
    have hd28 := zd_f (x := k) (y := hb) (by omega) (by omega)
    refine gy_s 3 (pc' := 101) (L' := [some (.ref m), some (.int (zi b)), some (.int (zi u)), some (.int (zi k)), some (.int (zi zq2)), some (.int (zi ((hb * (u % zq2)) + (k % hb)))), some (.int ((zi (vb * (u / zq2))) + (zi (k / hb))))]) (S' := [.ref m]) (L2 := [some (.ref m), some (.int (zi b)), some (.int (zi u)), some (.int (zi k)), some (.int (zi zq2)), some (.int (zi ((hb * (u % zq2)) + (k % hb)))), some (.int (zi ((vb * (u / zq2)) + (k / hb))))]) (S2 := [.ref m]) rfl (by simp only [zi_add, zi_sub, zi_mul, zi_neg, zi_and1, zi_and7, zi_and15, zi_and31, zi_and255]) (by simp only [zi_add, zi_sub, zi_mul, zi_neg, zi_and1, zi_and7, zi_and15, zi_and31, zi_and255]) ?_
    refine gs_gtr rfl (by decide) rfl sq2.1 tm rfl rfl rfl (fun c29 ec29 tc29 => ?_)
    refine gz_s 1 (pc' := 105) (L' := [some (.ref m), some (.int (zi b)), some (.int (zi u)), some (.int (zi k)), some (.int (zi zq2)), some (.int (zi ((hb * (u % zq2)) + (k % hb)))), some (.int (zi ((vb * (u / zq2)) + (k / hb))))]) (S' := [.int (zi b), .ref c29]) rfl ?_
    have hl30 : 3 ≤ hq2.2.2.2.1 c29 ∧ hq2.2.2.2.1 c29 ≤ 3 := gJ.rowl (G := gGG) sq2.1 tc29 rfl
    refine gs_alx rfl (by decide) sq2.1 tc29 rfl rfl rfl (by decide) (fun _ => rfl) (by omega) (by omega) (by decide) pr14 (fun ex31 ax31 bx31 => ?_)
    refine gz_s 1 (pc' := 107) (L' := [some (.ref m), some (.int (zi b)), some (.int (zi u)), some (.int (zi k)), some (.int (zi zq2)), some (.int (zi ((hb * (u % zq2)) + (k % hb)))), some (.int (zi ((vb * (u / zq2)) + (k / hb))))]) (S' := [.ref m, .int (zi f)]) rfl ?_
    refine gs_gtr rfl (by decide) rfl sq2.1 tm rfl rfl rfl (fun c32 ec32 tc32 => ?_)
    refine gz_s 1 (pc' := 111) (L' := [some (.ref m), some (.int (zi b)), some (.int (zi u)), some (.int (zi k)), some (.int (zi zq2)), some (.int (zi ((hb * (u % zq2)) + (k % hb)))), some (.int (zi ((vb * (u / zq2)) + (k / hb))))]) (S' := [.int (zi b), .ref c32, .int (zi f)]) rfl ?_
    have hl33 : 3 ≤ hq2.2.2.2.1 c32 ∧ hq2.2.2.2.1 c32 ≤ 3 := gJ.rowl (G := gGG) sq2.1 tc32 rfl
    refine gs_alx rfl (by decide) sq2.1 tc32 rfl rfl rfl (by decide) (fun _ => rfl) (by omega) (by omega) (by decide) pr10 (fun ex34 ax34 bx34 => ?_)
    refine gz_s 1 (pc' := 114) (L' := [some (.ref m), some (.int (zi b)), some (.int (zi u)), some (.int (zi k)), some (.int (zi zq2)), some (.int (zi ((hb * (u % zq2)) + (k % hb)))), some (.int (zi ((vb * (u / zq2)) + (k / hb))))]) (S' := [.int (zi ((vb * (u / zq2)) + (k / hb))), .int (zi C), .int (zi f)]) rfl ?_
    have p68 := pp6 (by omega)
    have zz := zb2 (u := u) (k := k) (A' := zq2) (A := zup w (8 * wd)) (B := zup hh (8 * hg)) (C := C) (R := R) (f := f) (hb := hb) (vb := vb) uq2_0 (by omega) p68.1 (by omega) p68.2 (by omega) (by omega) (by omega) pp3 pp4 (by omega) pp2
    refine gy_s 4 (pc' := 119) (L' := [some (.ref m), some (.int (zi b)), some (.int (zi u)), some (.int (zi k)), some (.int (zi zq2)), some (.int (zi ((hb * (u % zq2)) + (k % hb)))), some (.int (zi ((vb * (u / zq2)) + (k / hb))))]) (S' := [.int (((zi f) + ((zi C) * (zi ((vb * (u / zq2)) + (k / hb))))) + (zi ((hb * (u % zq2)) + (k % hb))))]) (L2 := [some (.ref m), some (.int (zi b)), some (.int (zi u)), some (.int (zi k)), some (.int (zi zq2)), some (.int (zi ((hb * (u % zq2)) + (k % hb)))), some (.int (zi ((vb * (u / zq2)) + (k / hb))))]) (S2 := [.int (zi ((f + (C * ((vb * (u / zq2)) + (k / hb)))) + ((hb * (u % zq2)) + (k % hb))))]) rfl (by simp only [zi_add, zi_sub, zi_mul, zi_neg, zi_and1, zi_and7, zi_and15, zi_and31, zi_and255]) (by simp only [zi_add, zi_sub, zi_mul, zi_neg, zi_and1, zi_and7, zi_and15, zi_and31, zi_and255]) ?_
    exact gz_end (I := .ireturn) (len := 1) rfl (Or.inl rfl) ⟨sq2, (f + (C * ((vb * (u / zq2)) + (k / hb)))) + ((hb * (u % zq2)) + (k % hb)), rfl, (by omega), (by omega)⟩
  · refine gy_icF rfl (by decide) (by decide) (by omega) (by omega) hc1 ?_
    refine gz_s 1 (pc' := 9) (L' := [some (.ref m), some (.int (zi b)), some (.int (zi u)), some (.int (zi k)), none, none, none]) (S' := [.ref m]) rfl ?_
    refine gs_gtr rfl (by decide) rfl hS.1 tm rfl rfl rfl (fun c35 ec35 tc35 => ?_)
    refine gz_s 1 (pc' := 13) (L' := [some (.ref m), some (.int (zi b)), some (.int (zi u)), some (.int (zi k)), none, none, none]) (S' := [.int (zi b), .ref c35]) rfl ?_
    have hl36 : 3 ≤ h.2.2.2.1 c35 ∧ h.2.2.2.1 c35 ≤ 3 := gJ.rowl (G := gGG) hS.1 tc35 rfl
    refine gs_alx rfl (by decide) hS.1 tc35 rfl rfl rfl (by decide) (fun _ => rfl) (by omega) (by omega) (by decide) el6 (fun ex37 ax37 bx37 => ?_)
    refine gz_s 1 (pc' := 15) (L' := [some (.ref m), some (.int (zi b)), some (.int (zi u)), some (.int (zi k)), none, none, none]) (S' := [.ref m, .int (zi f)]) rfl ?_
    refine gs_gtr rfl (by decide) rfl hS.1 tm rfl rfl rfl (fun c38 ec38 tc38 => ?_)
    refine gz_s 1 (pc' := 19) (L' := [some (.ref m), some (.int (zi b)), some (.int (zi u)), some (.int (zi k)), none, none, none]) (S' := [.int (zi b), .ref c38, .int (zi f)]) rfl ?_
    have hl39 : 3 ≤ h.2.2.2.1 c38 ∧ h.2.2.2.1 c38 ≤ 3 := gJ.rowl (G := gGG) hS.1 tc38 rfl
    refine gs_alx rfl (by decide) hS.1 tc38 rfl rfl rfl (by decide) (fun _ => rfl) (by omega) (by omega) (by decide) el2 (fun ex40 ax40 bx40 => ?_)
    refine gz_s 2 (pc' := 22) (L' := [some (.ref m), some (.int (zi b)), some (.int (zi u)), some (.int (zi k)), none, none, none]) (S' := [.ref m, .int (zi u), .int (zi C), .int (zi f)]) rfl ?_
    refine gs_gtr rfl (by decide) rfl hS.1 tm rfl rfl rfl (fun c41 ec41 tc41 => ?_)
    refine gz_s 1 (pc' := 26) (L' := [some (.ref m), some (.int (zi b)), some (.int (zi u)), some (.int (zi k)), none, none, none]) (S' := [.int (zi b), .ref c41, .int (zi u), .int (zi C), .int (zi f)]) rfl ?_
    have hl42 : 3 ≤ h.2.2.2.1 c41 ∧ h.2.2.2.1 c41 ≤ 3 := gJ.rowl (G := gGG) hS.1 tc41 rfl
    refine gs_alx rfl (by decide) hS.1 tc41 rfl rfl rfl (by decide) (fun _ => rfl) (by omega) (by omega) (by decide) el4 (fun ex43 ax43 bx43 => ?_)
    refine gy_div rfl (by decide) (by omega) (by omega) ?_
    have hd44 := zd_f (x := u) (y := oc) (by omega) (by omega)
    have hx45 := zx_f (a := C) (b := u / oc) (A := 8) (B := 63) (by omega) (by omega) (by omega) (by omega)
    refine gy_s 4 (pc' := 32) (L' := [some (.ref m), some (.int (zi b)), some (.int (zi u)), some (.int (zi k)), none, none, none]) (S' := [.ref m, .int (zi u), .int ((zi f) + ((zi C) * (zi (u / oc))))]) (L2 := [some (.ref m), some (.int (zi b)), some (.int (zi u)), some (.int (zi k)), none, none, none]) (S2 := [.ref m, .int (zi u), .int (zi (f + (C * (u / oc))))]) rfl (by simp only [zi_add, zi_sub, zi_mul, zi_neg, zi_and1, zi_and7, zi_and15, zi_and31, zi_and255]) (by simp only [zi_add, zi_sub, zi_mul, zi_neg, zi_and1, zi_and7, zi_and15, zi_and31, zi_and255]) ?_
    refine gs_gtk rfl (by decide) rfl hS.1 tm rfl rfl ec41 ?_
    refine gz_s 1 (pc' := 36) (L' := [some (.ref m), some (.int (zi b)), some (.int (zi u)), some (.int (zi k)), none, none, none]) (S' := [.int (zi b), .ref c41, .int (zi u), .int (zi (f + (C * (u / oc))))]) rfl ?_
    have zz := zb1 (u := u) (oc := oc) (orr := orr) (C := C) (R := R) (f := f) (by omega) (pp5 (by omega)) (by omega) (by omega) (by omega) (by omega) pp2
    have hl46 : 3 ≤ h.2.2.2.1 c41 ∧ h.2.2.2.1 c41 ≤ 3 := gJ.rowl (G := gGG) hS.1 tc41 rfl
    refine gs_alx rfl (by decide) hS.1 tc41 rfl rfl rfl (by decide) (fun _ => rfl) (by omega) (by omega) (by decide) el4 (fun ex47 ax47 bx47 => ?_)
    refine gy_rem rfl (by decide) (by omega) (by omega) ?_
    have hd48 := zm_f (x := u) (y := oc) (by omega) (by omega)
    refine gy_s 1 (pc' := 39) (L' := [some (.ref m), some (.int (zi b)), some (.int (zi u)), some (.int (zi k)), none, none, none]) (S' := [.int ((zi (f + (C * (u / oc)))) + (zi (u % oc)))]) (L2 := [some (.ref m), some (.int (zi b)), some (.int (zi u)), some (.int (zi k)), none, none, none]) (S2 := [.int (zi ((f + (C * (u / oc))) + (u % oc)))]) rfl (by simp only [zi_add, zi_sub, zi_mul, zi_neg, zi_and1, zi_and7, zi_and15, zi_and31, zi_and255]) (by simp only [zi_add, zi_sub, zi_mul, zi_neg, zi_and1, zi_and7, zi_and15, zi_and31, zi_and255]) ?_
    exact gz_end (I := .ireturn) (len := 1) rfl (Or.inl rfl) ⟨hS, (f + (C * (u / oc))) + (u % oc), rfl, (by omega), (by omega)⟩
set_option maxRecDepth 20000 in
set_option maxHeartbeats 4000000 in
theorem mm_readUnit (d : Nat) {ty : Nat → Nat} {h : gH} (hJ : gJ rT 1027 ty h) (m : Nat) (tm : ty m = 1) (u : Int) (ru : 0 ≤ u ∧ u ≤ 63) (a0 : Int) (ea0 : h.2.2.2.2 m 47 = .int (zi a0)) (ra0 : 0 ≤ a0 ∧ a0 ≤ 2001) (k0 : Int) (ek0 : h.2.2.2.2 m 48 = .int (zi k0)) (rk0 : 0 ≤ k0 ∧ k0 ≤ 7) (sz : Int) (esz : h.2.2.2.2 m 3 = .int (zi sz)) (rsz : 0 ≤ sz ∧ sz ≤ 2000) (u0 : Int) (eu0 : h.2.2.2.2 m 46 = .int (zi u0)) (ru0 : 0 ≤ u0 ∧ u0 ≤ 1) (sb : Int) (esb : h.2.2.2.2 m 39 = .int (zi sb)) (rsb : 0 ≤ sb ∧ sb ≤ 3) (by1 : Int) (eby1 : h.2.2.2.2 m 17 = .int (zi by1)) (rby1 : 0 ≤ by1 ∧ by1 ≤ 1) (fr : Int) (efr : h.2.2.2.2 m 41 = .int (zi fr)) (rfr : 0 ≤ fr ∧ fr ≤ 63) (tt : Int) (ett : h.2.2.2.2 m 42 = .int (zi tt)) (rtt : 0 ≤ tt ∧ tt ≤ 63) (ab : Int) (eab : h.2.2.2.2 m 43 = .int (zi ab)) (rab : 0 ≤ ab ∧ ab ≤ 15) (lw : Int) (elw : h.2.2.2.2 m 44 = .int (zi lw)) (rlw : 0 ≤ lw ∧ lw ≤ 13) (w : Int) (ew : h.2.2.2.2 m 18 = .int (zi w)) (rw : 0 ≤ w ∧ w ≤ 64) (hh : Int) (ehh : h.2.2.2.2 m 19 = .int (zi hh)) (rhh : 0 ≤ hh ∧ hh ≤ 64) (wd : Int) (ewd : h.2.2.2.2 m 21 = .int (zi wd)) (rwd : 1 ≤ wd ∧ wd ≤ 2) (hg : Int) (ehg : h.2.2.2.2 m 22 = .int (zi hg)) (rhg : 1 ≤ hg ∧ hg ≤ 2) (bs : Int) (ebs : h.2.2.2.2 m 20 = .int (zi bs)) (rbs : 1 ≤ bs ∧ bs ≤ 3) (b0 : Int) (rb0 : 0 ≤ b0 ∧ b0 ≤ 2) (oc0 : Int) (roc0 : 1 ≤ oc0 ∧ oc0 ≤ 8) (or0 : Int) (ror0 : 1 ≤ or0 ∧ or0 ≤ 8) (pp0 : k0 = 0 ∨ a0 < sz) (pp1 : fr ≤ tt) (pp2 : sb = 1 → u < oc0 * or0) (pp3 : ¬ sb = 1 → u < zup w (8 * wd) * zup hh (8 * hg)) (pp4 : 1 ≤ zup w (8 * wd)) (pp5 : zup w (8 * wd) ≤ 8) (pp6 : 1 ≤ zup hh (8 * hg)) (pp7 : zup hh (8 * hg) ≤ 8) (el0 : gEl ty 25 0 b0 b0 h) (el1 : gEl ty 17 b0 oc0 oc0 h) (el2 : gEl ty 18 b0 or0 or0 h) (hypic : gPic ty w hh wd hg bs h) (hysb : gSb ty sb bs h) : gz gPP gGG gcn (d + 6) gt150 0 (gent [.ref m, .int (zi u)] 6) [] h (fun q _ => gSs rT 1027 ty [1045, 1046, 1047, 1048, 20999, 23999] h q.2.2 ∧ ∃ a1 k1 u1 : Int, gfin gt150 q.1 q.2.1 = some none ∧ q.2.2.2.2.2.2 m 47 = .int (zi a1) ∧ 0 ≤ a1 ∧ a1 ≤ 2001 ∧ q.2.2.2.2.2.2 m 48 = .int (zi k1) ∧ 0 ≤ k1 ∧ k1 ≤ 7 ∧ q.2.2.2.2.2.2 m 46 = .int (zi u1) ∧ 0 ≤ u1 ∧ u1 ≤ 1 ∧ (k1 = 0 ∨ a1 < sz) ∧ (a0 ≤ a1) ∧ (u1 = 0 → u0 = 0)) := by
  have hS : gSs rT 1027 ty [1045, 1046, 1047, 1048, 20999, 23999] h h := gSs.rf hJ
  refine gz_s 2 (pc' := 2) (L' := [some (.ref m), some (.int (zi u)), some (.int (zi 0)), none, none, none]) (S' := []) rfl ?_
  have lp1 : ∀ (fu : Nat) (h2 : gH) (i : Int) (av : Int) (kv : Int) (uv : Int), (4 - i).toNat < fu → gSs rT 1027 ty [1045, 1046, 1047, 1048, 20999, 23999] h h2 → (0 ≤ i ∧ i ≤ 3) → (0 ≤ av ∧ av ≤ 2001) → (0 ≤ kv ∧ kv ≤ 7) → (0 ≤ uv ∧ uv ≤ 1) → (kv = 0 ∨ av < sz) → (a0 ≤ av) → (uv = 0 → u0 = 0) → (i ≤ sb) → h2.2.2.2.2 m 3 = .int (zi sz) → h2.2.2.2.2 m 39 = .int (zi sb) → h2.2.2.2.2 m 17 = .int (zi by1) → h2.2.2.2.2 m 41 = .int (zi fr) → h2.2.2.2.2 m 42 = .int (zi tt) → h2.2.2.2.2 m 43 = .int (zi ab) → h2.2.2.2.2 m 44 = .int (zi lw) → h2.2.2.2.2 m 18 = .int (zi w) → h2.2.2.2.2 m 19 = .int (zi hh) → h2.2.2.2.2 m 21 = .int (zi wd) → h2.2.2.2.2 m 22 = .int (zi hg) → h2.2.2.2.2 m 20 = .int (zi bs) → h2.2.2.2.2 m 47 = .int (zi av) → h2.2.2.2.2 m 48 = .int (zi kv) → h2.2.2.2.2 m 46 = .int (zi uv) → gEl ty 25 0 b0 b0 h2 → gEl ty 17 b0 oc0 oc0 h2 → gEl ty 18 b0 or0 or0 h2 → gPic ty w hh wd hg bs h2 → gSb ty sb bs h2 → gz gPP gGG gcn (d + 6) gt150 2 [some (.ref m), some (.int (zi u)), some (.int (zi i)), none, none, none] [] h2 (fun q _ => gSs rT 1027 ty [1045, 1046, 1047, 1048, 20999, 23999] h q.2.2 ∧ ∃ a1 k1 u1 : Int, gfin gt150 q.1 q.2.1 = some none ∧ q.2.2.2.2.2.2 m 47 = .int (zi a1) ∧ 0 ≤ a1 ∧ a1 ≤ 2001 ∧ q.2.2.2.2.2.2 m 48 = .int (zi k1) ∧ 0 ≤ k1 ∧ k1 ≤ 7 ∧ q.2.2.2.2.2.2 m 46 = .int (zi u1) ∧ 0 ≤ u1 ∧ u1 ≤ 1 ∧ (k1 = 0 ∨ a1 < sz) ∧ (a0 ≤ a1) ∧ (u1 = 0 → u0 = 0)) := by
    intro fu
    induction fu with
    | zero => intro h2 i av kv uv hm; exact absurd hm (Nat.not_lt_zero _)
    | succ fu ihlp1 =>
      intro h2 i av kv uv lp1m sh2 lp1f0 lp1f1 lp1f2 lp1f3 lp1f4 lp1f5 lp1f6 lp1f7 lp1k0 lp1k1 lp1k2 lp1k3 lp1k4 lp1k5 lp1k6 lp1k7 lp1k8 lp1k9 lp1k10 lp1k11 lp1k12 lp1k13 lp1k14 lp1k15 lp1k16 lp1k17 lp1k18 lp1k19
      refine gz_s 2 (pc' := 4) (L' := [some (.ref m), some (.int (zi u)), some (.int (zi i)), none, none, none]) (S' := [.ref m, .int (zi i)]) rfl ?_
      refine gs_gtk rfl (by decide) rfl sh2.1 tm rfl rfl lp1k1 ?_
      by_cases hc3 : (sb : Int) ≤ i
      · refine gy_icT (pc' := 127) rfl (by decide) (by decide) (by omega) (by omega) hc3 ?_
        exact gz_end (I := .return_) (len := 1) rfl (Or.inl rfl) ⟨sh2, av, kv, uv, rfl, lp1k12, (by omega), (by omega), lp1k13, (by omega), (by omega), lp1k14, (by omega), (by omega), (by omega), (by omega), (by omega)⟩
      · refine gy_icF rfl (by decide) (by decide) (by omega) (by omega) hc3 ?_
        refine gz_s 1 (pc' := 11) (L' := [some (.ref m), some (.int (zi u)), some (.int (zi i)), none, none, none]) (S' := [.ref m]) rfl ?_
        refine gs_gtk rfl (by decide) rfl sh2.1 tm rfl rfl lp1k14 ?_
        by_cases hc4 : ¬ (uv : Int) = 0
        · refine gy_ifT (pc' := 127) rfl (by decide) (by decide) (by omega) hc4 ?_
          exact gz_end (I := .return_) (len := 1) rfl (Or.inl rfl) ⟨sh2, av, kv, uv, rfl, lp1k12, (by omega), (by omega), lp1k13, (by omega), (by omega), lp1k14, (by omega), (by omega), (by omega), (by omega), (by omega)⟩
        · refine gy_ifF rfl (by decide) (by decide) (by omega) hc4 ?_
          refine gz_s 1 (pc' := 18) (L' := [some (.ref m), some (.int (zi u)), some (.int (zi i)), none, none, none]) (S' := [.ref m]) rfl ?_
          refine gs_gtr rfl (by decide) rfl sh2.1 tm rfl rfl rfl (fun c5 ec5 tc5 => ?_)
          refine gz_s 1 (pc' := 22) (L' := [some (.ref m), some (.int (zi u)), some (.int (zi i)), none, none, none]) (S' := [.int (zi i), .ref c5]) rfl ?_
          have hs1U := lp1k19.1
          obtain ⟨bU, l0U, l1U, l2U, l3U, l4U⟩ := lp1k19.2 i (by omega) (by omega)
          obtain ⟨hbU, vbU, CU, RU, ocU, orrU, fU, eU_0, eU_1, eU_2, eU_3, eU_4, eU_5, eU_6, eU_7, kU⟩ := lp1k18.2 bU (by omega) (by omega)
          obtain ⟨kU_0, kU_1, kU_2, kU_3, kU_4, kU_5, kU_6, kU_7, kU_8, kU_9, kU_10, kU_11, kU_12, kU_13, kU_14, kU_15, kU_16, kU_17⟩ := kU
          have kkU := zb3 (a := CU) (b := RU) (by omega) (by omega)
          have kpU := zx_f (a := hbU) (b := vbU) (A := 2) (B := 2) (by omega) (by omega) (by omega) (by omega)
          have v0U : sb = 1 → bU = b0 := fun hs => by
            have i0 : i = 0 := by omega
            have l2 := l2U
            rw [i0] at l2
            exact gEl.un (k := 40) (r := rg25) sh2.1 tm rfl trivial rfl rfl rfl (fun _ => rfl) (by decide) (i := 0) (by omega) (by decide) l2 lp1k15
          have v4U : sb = 1 → ocU = oc0 := fun hs => by
            have l2 := eU_4
            rw [v0U hs] at l2
            exact gEl.un (k := 31) (r := rg17) sh2.1 tm rfl trivial rfl rfl rfl (fun _ => rfl) (by decide) (i := b0) (by omega) (by show b0 < 3; omega) l2 lp1k16
          have v5U : sb = 1 → orrU = or0 := fun hs => by
            have l2 := eU_5
            rw [v0U hs] at l2
            exact gEl.un (k := 32) (r := rg18) sh2.1 tm rfl trivial rfl rfl rfl (fun _ => rfl) (by decide) (i := b0) (by omega) (by show b0 < 3; omega) l2 lp1k17
          have v6U : sb = 1 → ocU * orrU = oc0 * or0 := fun hs => by rw [v4U hs, v5U hs]
          have hl6 : 3 ≤ h2.2.2.2.1 c5 ∧ h2.2.2.2.1 c5 ≤ 3 := gJ.rowl (G := gGG) sh2.1 tc5 rfl
          refine gs_alx rfl (by decide) sh2.1 tc5 rfl rfl rfl (by decide) (fun _ => rfl) (by omega) (by omega) (by decide) l2U (fun ex7 ax7 bx7 => ?_)
          refine gz_s 3 (pc' := 27) (L' := [some (.ref m), some (.int (zi u)), some (.int (zi i)), some (.int (zi bU)), some (.int (zi 0)), none]) (S' := []) rfl ?_
          have lp8 : ∀ (fu : Nat) (h9 : gH) (k : Int) (av2 : Int) (kv2 : Int) (uv2 : Int), (5 - k).toNat < fu → gSs rT 1027 ty [1045, 1046, 1047, 1048, 20999, 23999] h h9 → (0 ≤ k ∧ k ≤ 4) → (0 ≤ av2 ∧ av2 ≤ 2001) → (0 ≤ kv2 ∧ kv2 ≤ 7) → (0 ≤ uv2 ∧ uv2 ≤ 1) → (kv2 = 0 ∨ av2 < sz) → (a0 ≤ av2) → (uv2 = 0 → u0 = 0) → (sb = 1 → k ≤ 1) → (¬ sb = 1 → k ≤ hbU * vbU) → h9.2.2.2.2 m 3 = .int (zi sz) → h9.2.2.2.2 m 39 = .int (zi sb) → h9.2.2.2.2 m 17 = .int (zi by1) → h9.2.2.2.2 m 41 = .int (zi fr) → h9.2.2.2.2 m 42 = .int (zi tt) → h9.2.2.2.2 m 43 = .int (zi ab) → h9.2.2.2.2 m 44 = .int (zi lw) → h9.2.2.2.2 m 18 = .int (zi w) → h9.2.2.2.2 m 19 = .int (zi hh) → h9.2.2.2.2 m 21 = .int (zi wd) → h9.2.2.2.2 m 22 = .int (zi hg) → h9.2.2.2.2 m 20 = .int (zi bs) → h9.2.2.2.2 m 40 = .ref c5 → h9.2.2.2.2 m 47 = .int (zi av2) → h9.2.2.2.2 m 48 = .int (zi kv2) → h9.2.2.2.2 m 46 = .int (zi uv2) → gEl ty 25 0 b0 b0 h9 → gEl ty 17 b0 oc0 oc0 h9 → gEl ty 18 b0 or0 or0 h9 → gPic ty w hh wd hg bs h9 → gSb ty sb bs h9 → gEl ty 25 i bU bU h9 → gEl ty 21 bU 0 3 h9 → gEl ty 22 bU 4 7 h9 → gEl ty 12 bU hbU hbU h9 → gEl ty 13 bU vbU vbU h9 → gEl ty 15 bU CU CU h9 → gEl ty 16 bU RU RU h9 → gEl ty 17 bU ocU ocU h9 → gEl ty 18 bU orrU orrU h9 → gEl ty 19 bU fU fU h9 → gEl ty 14 bU 0 3 h9 → gz gPP gGG gcn (d + 6) gt150 27 [some (.ref m), some (.int (zi u)), some (.int (zi i)), some (.int (zi bU)), some (.int (zi k)), none] [] h9 (fun q _ => gSs rT 1027 ty [1045, 1046, 1047, 1048, 20999, 23999] h q.2.2 ∧ ∃ a1 k1 u1 : Int, gfin gt150 q.1 q.2.1 = some none ∧ q.2.2.2.2.2.2 m 47 = .int (zi a1) ∧ 0 ≤ a1 ∧ a1 ≤ 2001 ∧ q.2.2.2.2.2.2 m 48 = .int (zi k1) ∧ 0 ≤ k1 ∧ k1 ≤ 7 ∧ q.2.2.2.2.2.2 m 46 = .int (zi u1) ∧ 0 ≤ u1 ∧ u1 ≤ 1 ∧ (k1 = 0 ∨ a1 < sz) ∧ (a0 ≤ a1) ∧ (u1 = 0 → u0 = 0)) := by
            intro fu
            induction fu with
            | zero => intro h9 k av2 kv2 uv2 hm; exact absurd hm (Nat.not_lt_zero _)
            | succ fu ihlp8 =>
              intro h9 k av2 kv2 uv2 lp8m sh9 lp8f0 lp8f1 lp8f2 lp8f3 lp8f4 lp8f5 lp8f6 lp8f7 lp8f8 lp8k0 lp8k1 lp8k2 lp8k3 lp8k4 lp8k5 lp8k6 lp8k7 lp8k8 lp8k9 lp8k10 lp8k11 lp8k12 lp8k13 lp8k14 lp8k15 lp8k16 lp8k17 lp8k18 lp8k19 lp8k20 lp8k21 lp8k22 lp8k23 lp8k24 lp8k25 lp8k26 lp8k27 lp8k28 lp8k29 lp8k30 lp8k31
              refine gz_s 3 (pc' := 31) (L' := [some (.ref m), some (.int (zi u)), some (.int (zi i)), some (.int (zi bU)), some (.int (zi k)), none]) (S' := [.int (zi bU), .ref m, .int (zi k)]) rfl ?_
              refine gz_call rfl (by decide) rfl (by decide) (by decide) (gcal_of rfl rfl rfl (Nat.le_of_ble_eq_true rfl) (gJ.recv (G := gGG) sh9.1 tm rfl rfl)) (mm_blocksOf _ sh9.1 m tm bU (by omega) sb lp8k1 (by omega) hbU (by omega) vbU (by omega) lp8k24 lp8k25) (fun q10 _ wq10 => ?_)
              obtain ⟨pq10, oq10, hq10⟩ := q10
              obtain ⟨xq10, zq10, gq10, aq10, bq10, uq10_0, uq10_1⟩ := wq10
              refine ⟨_, gq10, ?_⟩
              show gz gPP gGG gcn _ _ 34 [some (.ref m), some (.int (zi u)), some (.int (zi i)), some (.int (zi bU)), some (.int (zi k)), none] [.int (zi zq10), .int (zi k)] hq10 _
              have sq10 := gSs.tr sh9 xq10 (by decide)
              have s11 := (xq10.2.2.2.2.2 m 3 (by rw [tm]; decide)).trans lp8k0
              have s12 := (xq10.2.2.2.2.2 m 39 (by rw [tm]; decide)).trans lp8k1
              have s13 := (xq10.2.2.2.2.2 m 17 (by rw [tm]; decide)).trans lp8k2
              have s14 := (xq10.2.2.2.2.2 m 41 (by rw [tm]; decide)).trans lp8k3
              have s15 := (xq10.2.2.2.2.2 m 42 (by rw [tm]; decide)).trans lp8k4
              have s16 := (xq10.2.2.2.2.2 m 43 (by rw [tm]; decide)).trans lp8k5
              have s17 := (xq10.2.2.2.2.2 m 44 (by rw [tm]; decide)).trans lp8k6
              have s18 := (xq10.2.2.2.2.2 m 18 (by rw [tm]; decide)).trans lp8k7
              have s19 := (xq10.2.2.2.2.2 m 19 (by rw [tm]; decide)).trans lp8k8
              have s20 := (xq10.2.2.2.2.2 m 21 (by rw [tm]; decide)).trans lp8k9
              have s21 := (xq10.2.2.2.2.2 m 22 (by rw [tm]; decide)).trans lp8k10
              have s22 := (xq10.2.2.2.2.2 m 20 (by rw [tm]; decide)).trans lp8k11
              have s23 := (xq10.2.2.2.2.2 m 40 (by rw [tm]; decide)).trans lp8k12
              have s24 := (xq10.2.2.2.2.2 m 47 (by rw [tm]; decide)).trans lp8k13
              have s25 := (xq10.2.2.2.2.2 m 48 (by rw [tm]; decide)).trans lp8k14
              have s26 := (xq10.2.2.2.2.2 m 46 (by rw [tm]; decide)).trans lp8k15
              have pr27 := gEl.fr xq10.2 (by decide) (fun _ => rfl) lp8k16
              have pr28 := gEl.fr xq10.2 (by decide) (fun _ => rfl) lp8k17
              have pr29 := gEl.fr xq10.2 (by decide) (fun _ => rfl) lp8k18
              have pr30 := gPic.fr xq10.2 (by decide) lp8k19
              have pr31 := gSb.fr xq10.2 (by decide) lp8k20
              have pr32 := gEl.fr xq10.2 (by decide) (fun _ => rfl) lp8k21
              have pr33 := gEl.fr xq10.2 (by decide) (fun _ => rfl) lp8k22
              have pr34 := gEl.fr xq10.2 (by decide) (fun _ => rfl) lp8k23
              have pr35 := gEl.fr xq10.2 (by decide) (fun _ => rfl) lp8k24
              have pr36 := gEl.fr xq10.2 (by decide) (fun _ => rfl) lp8k25
              have pr37 := gEl.fr xq10.2 (by decide) (fun _ => rfl) lp8k26
              have pr38 := gEl.fr xq10.2 (by decide) (fun _ => rfl) lp8k27
              have pr39 := gEl.fr xq10.2 (by decide) (fun _ => rfl) lp8k28
              have pr40 := gEl.fr xq10.2 (by decide) (fun _ => rfl) lp8k29
              have pr41 := gEl.fr xq10.2 (by decide) (fun _ => rfl) lp8k30
              have pr42 := gEl.fr xq10.2 (by decide) (fun _ => rfl) lp8k31
              by_cases hc43 : (zq10 : Int) ≤ k
              · refine gy_icT (pc' := 121) rfl (by decide) (by decide) (by omega) (by omega) hc43 ?_
                refine gy_s 2 (pc' := 2) (L' := [some (.ref m), some (.int (zi u)), some (.int ((zi i) + zi 1)), some (.int (zi bU)), some (.int (zi k)), none]) (S' := []) (L2 := [some (.ref m), some (.int (zi u)), some (.int (zi (i + 1))), some (.int (zi bU)), some (.int (zi k)), none]) (S2 := []) rfl (by simp only [zi_add, zi_sub, zi_mul, zi_neg, zi_and1, zi_and7, zi_and15, zi_and31, zi_and255]) (by simp only [zi_add, zi_sub, zi_mul, zi_neg, zi_and1, zi_and7, zi_and15, zi_and31, zi_and255]) ?_
                exact gz_wk (ihlp1 hq10 (i + 1) av2 kv2 uv2 (by omega) sq10 (by omega) (by omega) (by omega) (by omega) (by omega) (by omega) (by omega) (by omega) s11 s12 s13 s14 s15 s16 s17 s18 s19 s20 s21 s22 s24 s25 s26 pr27 pr28 pr29 pr30 pr31) (gLw.s (gLw.s (gLw.s (gLw.n (gLw.n (gLw.n gLw.z))))))
              · refine gy_icF rfl (by decide) (by decide) (by omega) (by omega) hc43 ?_
                refine gz_s 1 (pc' := 38) (L' := [some (.ref m), some (.int (zi u)), some (.int (zi i)), some (.int (zi bU)), some (.int (zi k)), none]) (S' := [.ref m]) rfl ?_
                refine gs_gtk rfl (by decide) rfl sq10.1 tm rfl rfl s26 ?_
                by_cases hc44 : ¬ (uv2 : Int) = 0
                · refine gy_ifT (pc' := 121) rfl (by decide) (by decide) (by omega) hc44 ?_
                  refine gy_s 2 (pc' := 2) (L' := [some (.ref m), some (.int (zi u)), some (.int ((zi i) + zi 1)), some (.int (zi bU)), some (.int (zi k)), none]) (S' := []) (L2 := [some (.ref m), some (.int (zi u)), some (.int (zi (i + 1))), some (.int (zi bU)), some (.int (zi k)), none]) (S2 := []) rfl (by simp only [zi_add, zi_sub, zi_mul, zi_neg, zi_and1, zi_and7, zi_and15, zi_and31, zi_and255]) (by simp only [zi_add, zi_sub, zi_mul, zi_neg, zi_and1, zi_and7, zi_and15, zi_and31, zi_and255]) ?_
                  exact gz_wk (ihlp1 hq10 (i + 1) av2 kv2 uv2 (by omega) sq10 (by omega) (by omega) (by omega) (by omega) (by omega) (by omega) (by omega) (by omega) s11 s12 s13 s14 s15 s16 s17 s18 s19 s20 s21 s22 s24 s25 s26 pr27 pr28 pr29 pr30 pr31) (gLw.s (gLw.s (gLw.s (gLw.n (gLw.n (gLw.n gLw.z))))))
                · refine gy_ifF rfl (by decide) (by decide) (by omega) hc44 ?_
                  refine gz_s 5 (pc' := 51) (L' := [some (.ref m), some (.int (zi u)), some (.int (zi i)), some (.int (zi bU)), some (.int (zi k)), none]) (S' := [.int (zi k), .int (zi u), .int (zi bU), .ref m, .int (zi 64)]) rfl ?_
                  refine gz_call rfl (by decide) rfl (by decide) (by decide) (gcal_of rfl rfl rfl (Nat.le_of_ble_eq_true rfl) (gJ.recv (G := gGG) sq10.1 tm rfl rfl)) (mm_block _ sq10.1 m tm bU (by omega) u (by omega) k (by omega) sb s12 (by omega) w s18 (by omega) hh s19 (by omega) wd s20 (by omega) hg s21 (by omega) hbU (by omega) vbU (by omega) CU (by omega) RU (by omega) ocU (by omega) orrU (by omega) fU (by omega) (by omega) (by omega) (by omega) (by omega) (by omega) (by omega) (by omega) (by omega) pr35 pr36 pr37 pr38 pr39 pr40 pr41) (fun q45 _ wq45 => ?_)
                  obtain ⟨pq45, oq45, hq45⟩ := q45
                  obtain ⟨xq45, zq45, gq45, aq45, bq45⟩ := wq45
                  refine ⟨_, gq45, ?_⟩
                  show gz gPP gGG gcn _ _ 54 [some (.ref m), some (.int (zi u)), some (.int (zi i)), some (.int (zi bU)), some (.int (zi k)), none] [.int (zi zq45), .int (zi 64)] hq45 _
                  have sq45 := gSs.tr sq10 xq45 (by decide)
                  have s46 := (xq45.2.2.2.2.2 m 3 (by rw [tm]; decide)).trans s11
                  have s47 := (xq45.2.2.2.2.2 m 39 (by rw [tm]; decide)).trans s12
                  have s48 := (xq45.2.2.2.2.2 m 17 (by rw [tm]; decide)).trans s13
                  have s49 := (xq45.2.2.2.2.2 m 41 (by rw [tm]; decide)).trans s14
                  have s50 := (xq45.2.2.2.2.2 m 42 (by rw [tm]; decide)).trans s15
                  have s51 := (xq45.2.2.2.2.2 m 43 (by rw [tm]; decide)).trans s16
                  have s52 := (xq45.2.2.2.2.2 m 44 (by rw [tm]; decide)).trans s17
                  have s53 := (xq45.2.2.2.2.2 m 18 (by rw [tm]; decide)).trans s18
                  have s54 := (xq45.2.2.2.2.2 m 19 (by rw [tm]; decide)).trans s19
                  have s55 := (xq45.2.2.2.2.2 m 21 (by rw [tm]; decide)).trans s20
                  have s56 := (xq45.2.2.2.2.2 m 22 (by rw [tm]; decide)).trans s21
                  have s57 := (xq45.2.2.2.2.2 m 20 (by rw [tm]; decide)).trans s22
                  have s58 := (xq45.2.2.2.2.2 m 40 (by rw [tm]; decide)).trans s23
                  have s59 := (xq45.2.2.2.2.2 m 47 (by rw [tm]; decide)).trans s24
                  have s60 := (xq45.2.2.2.2.2 m 48 (by rw [tm]; decide)).trans s25
                  have s61 := (xq45.2.2.2.2.2 m 46 (by rw [tm]; decide)).trans s26
                  have pr62 := gEl.fr xq45.2 (by decide) (fun _ => rfl) pr27
                  have pr63 := gEl.fr xq45.2 (by decide) (fun _ => rfl) pr28
                  have pr64 := gEl.fr xq45.2 (by decide) (fun _ => rfl) pr29
                  have pr65 := gPic.fr xq45.2 (by decide) pr30
                  have pr66 := gSb.fr xq45.2 (by decide) pr31
                  have pr67 := gEl.fr xq45.2 (by decide) (fun _ => rfl) pr32
                  have pr68 := gEl.fr xq45.2 (by decide) (fun _ => rfl) pr33
                  have pr69 := gEl.fr xq45.2 (by decide) (fun _ => rfl) pr34
                  have pr70 := gEl.fr xq45.2 (by decide) (fun _ => rfl) pr35
                  have pr71 := gEl.fr xq45.2 (by decide) (fun _ => rfl) pr36
                  have pr72 := gEl.fr xq45.2 (by decide) (fun _ => rfl) pr37
                  have pr73 := gEl.fr xq45.2 (by decide) (fun _ => rfl) pr38
                  have pr74 := gEl.fr xq45.2 (by decide) (fun _ => rfl) pr39
                  have pr75 := gEl.fr xq45.2 (by decide) (fun _ => rfl) pr40
                  have pr76 := gEl.fr xq45.2 (by decide) (fun _ => rfl) pr41
                  have pr77 := gEl.fr xq45.2 (by decide) (fun _ => rfl) pr42
                  refine gy_s 3 (pc' := 58) (L' := [some (.ref m), some (.int (zi u)), some (.int (zi i)), some (.int (zi bU)), some (.int (zi k)), some (.int ((zi 64) * (zi zq45)))]) (S' := [.ref m]) (L2 := [some (.ref m), some (.int (zi u)), some (.int (zi i)), some (.int (zi bU)), some (.int (zi k)), some (.int (zi (64 * zq45)))]) (S2 := [.ref m]) rfl (by simp only [zi_add, zi_sub, zi_mul, zi_neg, zi_and1, zi_and7, zi_and15, zi_and31, zi_and255]) (by simp only [zi_add, zi_sub, zi_mul, zi_neg, zi_and1, zi_and7, zi_and15, zi_and31, zi_and255]) ?_
                  refine gs_gtk rfl (by decide) rfl sq45.1 tm rfl rfl s48 ?_
                  by_cases hc78 : ¬ (by1 : Int) = 0
                  · refine gy_ifT (pc' := 74) rfl (by decide) (by decide) (by omega) hc78 ?_
                    refine gz_s 1 (pc' := 75) (L' := [some (.ref m), some (.int (zi u)), some (.int (zi i)), some (.int (zi bU)), some (.int (zi k)), some (.int (zi (64 * zq45)))]) (S' := [.ref m]) rfl ?_
                    refine gs_gtk rfl (by decide) rfl sq45.1 tm rfl rfl s49 ?_
                    by_cases hc79 : ¬ (fr : Int) = 0
                    · refine gy_ifT (pc' := 91) rfl (by decide) (by decide) (by omega) hc79 ?_
                      refine gz_s 1 (pc' := 92) (L' := [some (.ref m), some (.int (zi u)), some (.int (zi i)), some (.int (zi bU)), some (.int (zi k)), some (.int (zi (64 * zq45)))]) (S' := [.ref m]) rfl ?_
                      refine gs_gtk rfl (by decide) rfl sq45.1 tm rfl rfl s51 ?_
                      by_cases hc80 : ¬ (ab : Int) = 0
                      · refine gy_ifT (pc' := 108) rfl (by decide) (by decide) (by omega) hc80 ?_
                        refine gz_s 3 (pc' := 112) (L' := [some (.ref m), some (.int (zi u)), some (.int (zi i)), some (.int (zi bU)), some (.int (zi k)), some (.int (zi (64 * zq45)))]) (S' := [.int (zi (64 * zq45)), .int (zi bU), .ref m]) rfl ?_
                        refine gz_call rfl (by decide) rfl (by decide) (by decide) (gcal_of rfl rfl rfl (Nat.le_of_ble_eq_true rfl) (gJ.recv (G := gGG) sq45.1 tm rfl rfl)) (mm_readMore _ sq45.1 m tm bU (by omega) (64 * zq45) (by omega) av2 s59 (by omega) kv2 s60 (by omega) sz s46 (by omega) uv2 s61 (by omega) lw s52 (by omega) fr s49 (by omega) tt s50 (by omega) (by omega) pr69) (fun q81 _ wq81 => ?_)
                        obtain ⟨pq81, oq81, hq81⟩ := q81
                        obtain ⟨xq81, fq81_0, fq81_1, fq81_2, gq81, efq81_0, afq81_0, bfq81_0, efq81_1, afq81_1, bfq81_1, efq81_2, afq81_2, bfq81_2, uq81_0, uq81_1, uq81_2⟩ := wq81
                        refine ⟨_, gq81, ?_⟩
                        show gz gPP gGG gcn _ _ 115 [some (.ref m), some (.int (zi u)), some (.int (zi i)), some (.int (zi bU)), some (.int (zi k)), some (.int (zi (64 * zq45)))] [] hq81 _
                        have sq81 := gSs.tr sq45 xq81 (by decide)
                        have s82 := (xq81.2.2.2.2.2 m 3 (by rw [tm]; decide)).trans s46
                        have s83 := (xq81.2.2.2.2.2 m 39 (by rw [tm]; decide)).trans s47
                        have s84 := (xq81.2.2.2.2.2 m 17 (by rw [tm]; decide)).trans s48
                        have s85 := (xq81.2.2.2.2.2 m 41 (by rw [tm]; decide)).trans s49
                        have s86 := (xq81.2.2.2.2.2 m 42 (by rw [tm]; decide)).trans s50
                        have s87 := (xq81.2.2.2.2.2 m 43 (by rw [tm]; decide)).trans s51
                        have s88 := (xq81.2.2.2.2.2 m 44 (by rw [tm]; decide)).trans s52
                        have s89 := (xq81.2.2.2.2.2 m 18 (by rw [tm]; decide)).trans s53
                        have s90 := (xq81.2.2.2.2.2 m 19 (by rw [tm]; decide)).trans s54
                        have s91 := (xq81.2.2.2.2.2 m 21 (by rw [tm]; decide)).trans s55
                        have s92 := (xq81.2.2.2.2.2 m 22 (by rw [tm]; decide)).trans s56
                        have s93 := (xq81.2.2.2.2.2 m 20 (by rw [tm]; decide)).trans s57
                        have s94 := (xq81.2.2.2.2.2 m 40 (by rw [tm]; decide)).trans s58
                        have pr95 := gEl.fr xq81.2 (by decide) (fun _ => rfl) pr62
                        have pr96 := gEl.fr xq81.2 (by decide) (fun _ => rfl) pr63
                        have pr97 := gEl.fr xq81.2 (by decide) (fun _ => rfl) pr64
                        have pr98 := gPic.fr xq81.2 (by decide) pr65
                        have pr99 := gSb.fr xq81.2 (by decide) pr66
                        have pr100 := gEl.fr xq81.2 (by decide) (fun _ => rfl) pr67
                        have pr101 := gEl.fr xq81.2 (by decide) (fun _ => rfl) pr68
                        have pr102 := gEl.fr xq81.2 (by decide) (fun _ => rfl) pr69
                        have pr103 := gEl.fr xq81.2 (by decide) (fun _ => rfl) pr70
                        have pr104 := gEl.fr xq81.2 (by decide) (fun _ => rfl) pr71
                        have pr105 := gEl.fr xq81.2 (by decide) (fun _ => rfl) pr72
                        have pr106 := gEl.fr xq81.2 (by decide) (fun _ => rfl) pr73
                        have pr107 := gEl.fr xq81.2 (by decide) (fun _ => rfl) pr74
                        have pr108 := gEl.fr xq81.2 (by decide) (fun _ => rfl) pr75
                        have pr109 := gEl.fr xq81.2 (by decide) (fun _ => rfl) pr76
                        have pr110 := gEl.fr xq81.2 (by decide) (fun _ => rfl) pr77
                        refine gy_s 2 (pc' := 27) (L' := [some (.ref m), some (.int (zi u)), some (.int (zi i)), some (.int (zi bU)), some (.int ((zi k) + zi 1)), some (.int (zi (64 * zq45)))]) (S' := []) (L2 := [some (.ref m), some (.int (zi u)), some (.int (zi i)), some (.int (zi bU)), some (.int (zi (k + 1))), some (.int (zi (64 * zq45)))]) (S2 := []) rfl (by simp only [zi_add, zi_sub, zi_mul, zi_neg, zi_and1, zi_and7, zi_and15, zi_and31, zi_and255]) (by simp only [zi_add, zi_sub, zi_mul, zi_neg, zi_and1, zi_and7, zi_and15, zi_and31, zi_and255]) ?_
                        exact gz_wk (ihlp8 hq81 (k + 1) fq81_0 fq81_1 fq81_2 (by omega) sq81 (by omega) (by omega) (by omega) (by omega) (by omega) (by omega) (by omega) (by omega) (by omega) s82 s83 s84 s85 s86 s87 s88 s89 s90 s91 s92 s93 s94 efq81_0 efq81_1 efq81_2 pr95 pr96 pr97 pr98 pr99 pr100 pr101 pr102 pr103 pr104 pr105 pr106 pr107 pr108 pr109 pr110) (gLw.s (gLw.s (gLw.s (gLw.s (gLw.s (gLw.n gLw.z))))))
                      · refine gy_ifF rfl (by decide) (by decide) (by omega) hc80 ?_
                        refine gz_s 3 (pc' := 102) (L' := [some (.ref m), some (.int (zi u)), some (.int (zi i)), some (.int (zi bU)), some (.int (zi k)), some (.int (zi (64 * zq45)))]) (S' := [.int (zi (64 * zq45)), .int (zi bU), .ref m]) rfl ?_
                        refine gz_call rfl (by decide) rfl (by decide) (by decide) (gcal_of rfl rfl rfl (Nat.le_of_ble_eq_true rfl) (gJ.recv (G := gGG) sq45.1 tm rfl rfl)) (mm_readOthers _ sq45.1 m tm bU (by omega) (64 * zq45) (by omega) av2 s59 (by omega) kv2 s60 (by omega) sz s46 (by omega) uv2 s61 (by omega) lw s52 (by omega) fr s49 (by omega) tt s50 (by omega) (by omega) pr69) (fun q111 _ wq111 => ?_)
                        obtain ⟨pq111, oq111, hq111⟩ := q111
                        obtain ⟨xq111, fq111_0, fq111_1, fq111_2, gq111, efq111_0, afq111_0, bfq111_0, efq111_1, afq111_1, bfq111_1, efq111_2, afq111_2, bfq111_2, uq111_0, uq111_1, uq111_2⟩ := wq111
                        refine ⟨_, gq111, ?_⟩
                        show gz gPP gGG gcn _ _ 105 [some (.ref m), some (.int (zi u)), some (.int (zi i)), some (.int (zi bU)), some (.int (zi k)), some (.int (zi (64 * zq45)))] [] hq111 _
                        have sq111 := gSs.tr sq45 xq111 (by decide)
                        have s112 := (xq111.2.2.2.2.2 m 3 (by rw [tm]; decide)).trans s46
                        have s113 := (xq111.2.2.2.2.2 m 39 (by rw [tm]; decide)).trans s47
                        have s114 := (xq111.2.2.2.2.2 m 17 (by rw [tm]; decide)).trans s48
                        have s115 := (xq111.2.2.2.2.2 m 41 (by rw [tm]; decide)).trans s49
                        have s116 := (xq111.2.2.2.2.2 m 42 (by rw [tm]; decide)).trans s50
                        have s117 := (xq111.2.2.2.2.2 m 43 (by rw [tm]; decide)).trans s51
                        have s118 := (xq111.2.2.2.2.2 m 44 (by rw [tm]; decide)).trans s52
                        have s119 := (xq111.2.2.2.2.2 m 18 (by rw [tm]; decide)).trans s53
                        have s120 := (xq111.2.2.2.2.2 m 19 (by rw [tm]; decide)).trans s54
                        have s121 := (xq111.2.2.2.2.2 m 21 (by rw [tm]; decide)).trans s55
                        have s122 := (xq111.2.2.2.2.2 m 22 (by rw [tm]; decide)).trans s56
                        have s123 := (xq111.2.2.2.2.2 m 20 (by rw [tm]; decide)).trans s57
                        have s124 := (xq111.2.2.2.2.2 m 40 (by rw [tm]; decide)).trans s58
                        have pr125 := gEl.fr xq111.2 (by decide) (fun _ => rfl) pr62
                        have pr126 := gEl.fr xq111.2 (by decide) (fun _ => rfl) pr63
                        have pr127 := gEl.fr xq111.2 (by decide) (fun _ => rfl) pr64
                        have pr128 := gPic.fr xq111.2 (by decide) pr65
                        have pr129 := gSb.fr xq111.2 (by decide) pr66
                        have pr130 := gEl.fr xq111.2 (by decide) (fun _ => rfl) pr67
                        have pr131 := gEl.fr xq111.2 (by decide) (fun _ => rfl) pr68
                        have pr132 := gEl.fr xq111.2 (by decide) (fun _ => rfl) pr69
                        have pr133 := gEl.fr xq111.2 (by decide) (fun _ => rfl) pr70
                        have pr134 := gEl.fr xq111.2 (by decide) (fun _ => rfl) pr71
                        have pr135 := gEl.fr xq111.2 (by decide) (fun _ => rfl) pr72
                        have pr136 := gEl.fr xq111.2 (by decide) (fun _ => rfl) pr73
                        have pr137 := gEl.fr xq111.2 (by decide) (fun _ => rfl) pr74
                        have pr138 := gEl.fr xq111.2 (by decide) (fun _ => rfl) pr75
                        have pr139 := gEl.fr xq111.2 (by decide) (fun _ => rfl) pr76
                        have pr140 := gEl.fr xq111.2 (by decide) (fun _ => rfl) pr77
                        refine gy_s 3 (pc' := 27) (L' := [some (.ref m), some (.int (zi u)), some (.int (zi i)), some (.int (zi bU)), some (.int ((zi k) + zi 1)), some (.int (zi (64 * zq45)))]) (S' := []) (L2 := [some (.ref m), some (.int (zi u)), some (.int (zi i)), some (.int (zi bU)), some (.int (zi (k + 1))), some (.int (zi (64 * zq45)))]) (S2 := []) rfl (by simp only [zi_add, zi_sub, zi_mul, zi_neg, zi_and1, zi_and7, zi_and15, zi_and31, zi_and255]) (by simp only [zi_add, zi_sub, zi_mul, zi_neg, zi_and1, zi_and7, zi_and15, zi_and31, zi_and255]) ?_
                        exact gz_wk (ihlp8 hq111 (k + 1) fq111_0 fq111_1 fq111_2 (by omega) sq111 (by omega) (by omega) (by omega) (by omega) (by omega) (by omega) (by omega) (by omega) (by omega) s112 s113 s114 s115 s116 s117 s118 s119 s120 s121 s122 s123 s124 efq111_0 efq111_1 efq111_2 pr125 pr126 pr127 pr128 pr129 pr130 pr131 pr132 pr133 pr134 pr135 pr136 pr137 pr138 pr139 pr140) (gLw.s (gLw.s (gLw.s (gLw.s (gLw.s (gLw.n gLw.z))))))
                    · refine gy_ifF rfl (by decide) (by decide) (by omega) hc79 ?_
                      refine gz_s 3 (pc' := 85) (L' := [some (.ref m), some (.int (zi u)), some (.int (zi i)), some (.int (zi bU)), some (.int (zi k)), some (.int (zi (64 * zq45)))]) (S' := [.int (zi (64 * zq45)), .int (zi bU), .ref m]) rfl ?_
                      refine gz_call rfl (by decide) rfl (by decide) (by decide) (gcal_of rfl rfl rfl (Nat.le_of_ble_eq_true rfl) (gJ.recv (G := gGG) sq45.1 tm rfl rfl)) (mm_readFirst _ sq45.1 m tm bU (by omega) (64 * zq45) (by omega) av2 s59 (by omega) kv2 s60 (by omega) sz s46 (by omega) uv2 s61 (by omega) lw s52 (by omega) (by omega) pr68) (fun q141 _ wq141 => ?_)
                      obtain ⟨pq141, oq141, hq141⟩ := q141
                      obtain ⟨xq141, fq141_0, fq141_1, fq141_2, gq141, efq141_0, afq141_0, bfq141_0, efq141_1, afq141_1, bfq141_1, efq141_2, afq141_2, bfq141_2, uq141_0, uq141_1, uq141_2⟩ := wq141
                      refine ⟨_, gq141, ?_⟩
                      show gz gPP gGG gcn _ _ 88 [some (.ref m), some (.int (zi u)), some (.int (zi i)), some (.int (zi bU)), some (.int (zi k)), some (.int (zi (64 * zq45)))] [] hq141 _
                      have sq141 := gSs.tr sq45 xq141 (by decide)
                      have s142 := (xq141.2.2.2.2.2 m 3 (by rw [tm]; decide)).trans s46
                      have s143 := (xq141.2.2.2.2.2 m 39 (by rw [tm]; decide)).trans s47
                      have s144 := (xq141.2.2.2.2.2 m 17 (by rw [tm]; decide)).trans s48
                      have s145 := (xq141.2.2.2.2.2 m 41 (by rw [tm]; decide)).trans s49
                      have s146 := (xq141.2.2.2.2.2 m 42 (by rw [tm]; decide)).trans s50
                      have s147 := (xq141.2.2.2.2.2 m 43 (by rw [tm]; decide)).trans s51
                      have s148 := (xq141.2.2.2.2.2 m 44 (by rw [tm]; decide)).trans s52
                      have s149 := (xq141.2.2.2.2.2 m 18 (by rw [tm]; decide)).trans s53
                      have s150 := (xq141.2.2.2.2.2 m 19 (by rw [tm]; decide)).trans s54
                      have s151 := (xq141.2.2.2.2.2 m 21 (by rw [tm]; decide)).trans s55
                      have s152 := (xq141.2.2.2.2.2 m 22 (by rw [tm]; decide)).trans s56
                      have s153 := (xq141.2.2.2.2.2 m 20 (by rw [tm]; decide)).trans s57
                      have s154 := (xq141.2.2.2.2.2 m 40 (by rw [tm]; decide)).trans s58
                      have pr155 := gEl.fr xq141.2 (by decide) (fun _ => rfl) pr62
                      have pr156 := gEl.fr xq141.2 (by decide) (fun _ => rfl) pr63
                      have pr157 := gEl.fr xq141.2 (by decide) (fun _ => rfl) pr64
                      have pr158 := gPic.fr xq141.2 (by decide) pr65
                      have pr159 := gSb.fr xq141.2 (by decide) pr66
                      have pr160 := gEl.fr xq141.2 (by decide) (fun _ => rfl) pr67
                      have pr161 := gEl.fr xq141.2 (by decide) (fun _ => rfl) pr68
                      have pr162 := gEl.fr xq141.2 (by decide) (fun _ => rfl) pr69
                      have pr163 := gEl.fr xq141.2 (by decide) (fun _ => rfl) pr70
                      have pr164 := gEl.fr xq141.2 (by decide) (fun _ => rfl) pr71
                      have pr165 := gEl.fr xq141.2 (by decide) (fun _ => rfl) pr72
                      have pr166 := gEl.fr xq141.2 (by decide) (fun _ => rfl) pr73
                      have pr167 := gEl.fr xq141.2 (by decide) (fun _ => rfl) pr74
                      have pr168 := gEl.fr xq141.2 (by decide) (fun _ => rfl) pr75
                      have pr169 := gEl.fr xq141.2 (by decide) (fun _ => rfl) pr76
                      have pr170 := gEl.fr xq141.2 (by decide) (fun _ => rfl) pr77
                      refine gy_s 3 (pc' := 27) (L' := [some (.ref m), some (.int (zi u)), some (.int (zi i)), some (.int (zi bU)), some (.int ((zi k) + zi 1)), some (.int (zi (64 * zq45)))]) (S' := []) (L2 := [some (.ref m), some (.int (zi u)), some (.int (zi i)), some (.int (zi bU)), some (.int (zi (k + 1))), some (.int (zi (64 * zq45)))]) (S2 := []) rfl (by simp only [zi_add, zi_sub, zi_mul, zi_neg, zi_and1, zi_and7, zi_and15, zi_and31, zi_and255]) (by simp only [zi_add, zi_sub, zi_mul, zi_neg, zi_and1, zi_and7, zi_and15, zi_and31, zi_and255]) ?_
                      exact gz_wk (ihlp8 hq141 (k + 1) fq141_0 fq141_1 fq141_2 (by omega) sq141 (by omega) (by omega) (by omega) (by omega) (by omega) (by omega) (by omega) (by omega) (by omega) s142 s143 s144 s145 s146 s147 s148 s149 s150 s151 s152 s153 s154 efq141_0 efq141_1 efq141_2 pr155 pr156 pr157 pr158 pr159 pr160 pr161 pr162 pr163 pr164 pr165 pr166 pr167 pr168 pr169 pr170) (gLw.s (gLw.s (gLw.s (gLw.s (gLw.s (gLw.n gLw.z))))))
                  · refine gy_ifF rfl (by decide) (by decide) (by omega) hc78 ?_
                    refine gz_s 3 (pc' := 68) (L' := [some (.ref m), some (.int (zi u)), some (.int (zi i)), some (.int (zi bU)), some (.int (zi k)), some (.int (zi (64 * zq45)))]) (S' := [.int (zi (64 * zq45)), .int (zi bU), .ref m]) rfl ?_
                    refine gz_call rfl (by decide) rfl (by decide) (by decide) (gcal_of rfl rfl rfl (Nat.le_of_ble_eq_true rfl) (gJ.recv (G := gGG) sq45.1 tm rfl rfl)) (mm_readWhole _ sq45.1 m tm bU (by omega) (64 * zq45) (by omega) av2 s59 (by omega) kv2 s60 (by omega) sz s46 (by omega) uv2 s61 (by omega) (by omega) pr68 pr69) (fun q171 _ wq171 => ?_)
                    obtain ⟨pq171, oq171, hq171⟩ := q171
                    obtain ⟨xq171, fq171_0, fq171_1, fq171_2, gq171, efq171_0, afq171_0, bfq171_0, efq171_1, afq171_1, bfq171_1, efq171_2, afq171_2, bfq171_2, uq171_0, uq171_1, uq171_2⟩ := wq171
                    refine ⟨_, gq171, ?_⟩
                    show gz gPP gGG gcn _ _ 71 [some (.ref m), some (.int (zi u)), some (.int (zi i)), some (.int (zi bU)), some (.int (zi k)), some (.int (zi (64 * zq45)))] [] hq171 _
                    have sq171 := gSs.tr sq45 xq171 (by decide)
                    have s172 := (xq171.2.2.2.2.2 m 3 (by rw [tm]; decide)).trans s46
                    have s173 := (xq171.2.2.2.2.2 m 39 (by rw [tm]; decide)).trans s47
                    have s174 := (xq171.2.2.2.2.2 m 17 (by rw [tm]; decide)).trans s48
                    have s175 := (xq171.2.2.2.2.2 m 41 (by rw [tm]; decide)).trans s49
                    have s176 := (xq171.2.2.2.2.2 m 42 (by rw [tm]; decide)).trans s50
                    have s177 := (xq171.2.2.2.2.2 m 43 (by rw [tm]; decide)).trans s51
                    have s178 := (xq171.2.2.2.2.2 m 44 (by rw [tm]; decide)).trans s52
                    have s179 := (xq171.2.2.2.2.2 m 18 (by rw [tm]; decide)).trans s53
                    have s180 := (xq171.2.2.2.2.2 m 19 (by rw [tm]; decide)).trans s54
                    have s181 := (xq171.2.2.2.2.2 m 21 (by rw [tm]; decide)).trans s55
                    have s182 := (xq171.2.2.2.2.2 m 22 (by rw [tm]; decide)).trans s56
                    have s183 := (xq171.2.2.2.2.2 m 20 (by rw [tm]; decide)).trans s57
                    have s184 := (xq171.2.2.2.2.2 m 40 (by rw [tm]; decide)).trans s58
                    have pr185 := gEl.fr xq171.2 (by decide) (fun _ => rfl) pr62
                    have pr186 := gEl.fr xq171.2 (by decide) (fun _ => rfl) pr63
                    have pr187 := gEl.fr xq171.2 (by decide) (fun _ => rfl) pr64
                    have pr188 := gPic.fr xq171.2 (by decide) pr65
                    have pr189 := gSb.fr xq171.2 (by decide) pr66
                    have pr190 := gEl.fr xq171.2 (by decide) (fun _ => rfl) pr67
                    have pr191 := gEl.fr xq171.2 (by decide) (fun _ => rfl) pr68
                    have pr192 := gEl.fr xq171.2 (by decide) (fun _ => rfl) pr69
                    have pr193 := gEl.fr xq171.2 (by decide) (fun _ => rfl) pr70
                    have pr194 := gEl.fr xq171.2 (by decide) (fun _ => rfl) pr71
                    have pr195 := gEl.fr xq171.2 (by decide) (fun _ => rfl) pr72
                    have pr196 := gEl.fr xq171.2 (by decide) (fun _ => rfl) pr73
                    have pr197 := gEl.fr xq171.2 (by decide) (fun _ => rfl) pr74
                    have pr198 := gEl.fr xq171.2 (by decide) (fun _ => rfl) pr75
                    have pr199 := gEl.fr xq171.2 (by decide) (fun _ => rfl) pr76
                    have pr200 := gEl.fr xq171.2 (by decide) (fun _ => rfl) pr77
                    refine gy_s 3 (pc' := 27) (L' := [some (.ref m), some (.int (zi u)), some (.int (zi i)), some (.int (zi bU)), some (.int ((zi k) + zi 1)), some (.int (zi (64 * zq45)))]) (S' := []) (L2 := [some (.ref m), some (.int (zi u)), some (.int (zi i)), some (.int (zi bU)), some (.int (zi (k + 1))), some (.int (zi (64 * zq45)))]) (S2 := []) rfl (by simp only [zi_add, zi_sub, zi_mul, zi_neg, zi_and1, zi_and7, zi_and15, zi_and31, zi_and255]) (by simp only [zi_add, zi_sub, zi_mul, zi_neg, zi_and1, zi_and7, zi_and15, zi_and31, zi_and255]) ?_
                    exact gz_wk (ihlp8 hq171 (k + 1) fq171_0 fq171_1 fq171_2 (by omega) sq171 (by omega) (by omega) (by omega) (by omega) (by omega) (by omega) (by omega) (by omega) (by omega) s172 s173 s174 s175 s176 s177 s178 s179 s180 s181 s182 s183 s184 efq171_0 efq171_1 efq171_2 pr185 pr186 pr187 pr188 pr189 pr190 pr191 pr192 pr193 pr194 pr195 pr196 pr197 pr198 pr199 pr200) (gLw.s (gLw.s (gLw.s (gLw.s (gLw.s (gLw.n gLw.z))))))
          exact gz_wk (lp8 _ h2 0 av kv uv (Nat.lt_succ_self _) sh2 (by omega) (by omega) (by omega) (by omega) (by omega) (by omega) (by omega) (by omega) (by omega) lp1k0 lp1k1 lp1k2 lp1k3 lp1k4 lp1k5 lp1k6 lp1k7 lp1k8 lp1k9 lp1k10 lp1k11 ec5 lp1k12 lp1k13 lp1k14 lp1k15 lp1k16 lp1k17 lp1k18 lp1k19 l2U l3U l4U eU_0 eU_1 eU_2 eU_3 eU_4 eU_5 eU_6 eU_7) (gLw.s (gLw.s (gLw.s (gLw.s (gLw.s (gLw.n gLw.z))))))
  exact gz_wk (lp1 _ h 0 a0 k0 u0 (Nat.lt_succ_self _) hS (by omega) (by omega) (by omega) (by omega) (by omega) (by omega) (by omega) (by omega) esz esb eby1 efr ett eab elw ew ehh ewd ehg ebs ea0 ek0 eu0 el0 el1 el2 hypic hysb) (gLw.s (gLw.s (gLw.s (gLw.n (gLw.n (gLw.n gLw.z))))))
set_option maxRecDepth 20000 in
set_option maxHeartbeats 4000000 in
theorem mm_hurtUnits (d : Nat) {ty : Nat → Nat} {h : gH} (hJ : gJ rT 1027 ty h) (m : Nat) (tm : ty m = 1) (u : Int) (ru : 0 ≤ u ∧ u ≤ 63) (nx : Int) (rnx : 0 ≤ nx ∧ nx ≤ 64) (sb : Int) (esb : h.2.2.2.2 m 39 = .int (zi sb)) (rsb : 0 ≤ sb ∧ sb ≤ 3) (w : Int) (ew : h.2.2.2.2 m 18 = .int (zi w)) (rw : 0 ≤ w ∧ w ≤ 64) (hh : Int) (ehh : h.2.2.2.2 m 19 = .int (zi hh)) (rhh : 0 ≤ hh ∧ hh ≤ 64) (wd : Int) (ewd : h.2.2.2.2 m 21 = .int (zi wd)) (rwd : 1 ≤ wd ∧ wd ≤ 2) (hg : Int) (ehg : h.2.2.2.2 m 22 = .int (zi hg)) (rhg : 1 ≤ hg ∧ hg ≤ 2) (bs : Int) (ebs : h.2.2.2.2 m 20 = .int (zi bs)) (rbs : 1 ≤ bs ∧ bs ≤ 3) (b0 : Int) (rb0 : 0 ≤ b0 ∧ b0 ≤ 2) (oc0 : Int) (roc0 : 1 ≤ oc0 ∧ oc0 ≤ 8) (or0 : Int) (ror0 : 1 ≤ or0 ∧ or0 ≤ 8) (pp0 : sb = 1 → nx ≤ oc0 * or0) (pp1 : ¬ sb = 1 → nx ≤ zup w (8 * wd) * zup hh (8 * hg)) (pp2 : 1 ≤ zup w (8 * wd)) (pp3 : zup w (8 * wd) ≤ 8) (pp4 : 1 ≤ zup hh (8 * hg)) (pp5 : zup hh (8 * hg) ≤ 8) (el0 : gEl ty 25 0 b0 b0 h) (el1 : gEl ty 17 b0 oc0 oc0 h) (el2 : gEl ty 18 b0 or0 or0 h) (hypic : gPic ty w hh wd hg bs h) (hysb : gSb ty sb bs h) : gz gPP gGG gcn (d + 2) gt164 0 (gent [.ref m, .int (zi u), .int (zi nx)] 7) [] h (fun q _ => gSs rT 1027 ty [24999] h q.2.2 ∧ gfin gt164 q.1 q.2.1 = some none) := by
  have hS : gSs rT 1027 ty [24999] h h := gSs.rf hJ
  refine gz_s 2 (pc' := 2) (L' := [some (.ref m), some (.int (zi u)), some (.int (zi nx)), some (.int (zi u)), none, none, none]) (S' := []) rfl ?_
  have lp1 : ∀ (fu : Nat) (h2 : gH) (ku : Int), (65 - ku).toNat < fu → gSs rT 1027 ty [24999] h h2 → (0 ≤ ku ∧ ku ≤ 64) → (u ≤ ku) → h2.2.2.2.2 m 39 = .int (zi sb) → h2.2.2.2.2 m 18 = .int (zi w) → h2.2.2.2.2 m 19 = .int (zi hh) → h2.2.2.2.2 m 21 = .int (zi wd) → h2.2.2.2.2 m 22 = .int (zi hg) → h2.2.2.2.2 m 20 = .int (zi bs) → gEl ty 25 0 b0 b0 h2 → gEl ty 17 b0 oc0 oc0 h2 → gEl ty 18 b0 or0 or0 h2 → gPic ty w hh wd hg bs h2 → gSb ty sb bs h2 → gz gPP gGG gcn (d + 2) gt164 2 [some (.ref m), some (.int (zi u)), some (.int (zi nx)), some (.int (zi ku)), none, none, none] [] h2 (fun q _ => gSs rT 1027 ty [24999] h q.2.2 ∧ gfin gt164 q.1 q.2.1 = some none) := by
    intro fu
    induction fu with
    | zero => intro h2 ku hm; exact absurd hm (Nat.not_lt_zero _)
    | succ fu ihlp1 =>
      intro h2 ku lp1m sh2 lp1f0 lp1f1 lp1k0 lp1k1 lp1k2 lp1k3 lp1k4 lp1k5 lp1k6 lp1k7 lp1k8 lp1k9 lp1k10
      refine gz_s 2 (pc' := 4) (L' := [some (.ref m), some (.int (zi u)), some (.int (zi nx)), some (.int (zi ku)), none, none, none]) (S' := [.int (zi nx), .int (zi ku)]) rfl ?_
      by_cases hc3 : (nx : Int) ≤ ku
      · refine gy_icT (pc' := 75) rfl (by decide) (by decide) (by omega) (by omega) hc3 ?_
        exact gz_end (I := .return_) (len := 1) rfl (Or.inl rfl) ⟨sh2, rfl⟩
      · refine gy_icF rfl (by decide) (by decide) (by omega) (by omega) hc3 ?_
        refine gz_s 2 (pc' := 10) (L' := [some (.ref m), some (.int (zi u)), some (.int (zi nx)), some (.int (zi ku)), some (.int (zi 0)), none, none]) (S' := []) rfl ?_
        have lp4 : ∀ (fu : Nat) (h5 : gH) (i : Int), (4 - i).toNat < fu → gSs rT 1027 ty [24999] h h5 → (0 ≤ i ∧ i ≤ 3) → (i ≤ sb) → h5.2.2.2.2 m 39 = .int (zi sb) → h5.2.2.2.2 m 18 = .int (zi w) → h5.2.2.2.2 m 19 = .int (zi hh) → h5.2.2.2.2 m 21 = .int (zi wd) → h5.2.2.2.2 m 22 = .int (zi hg) → h5.2.2.2.2 m 20 = .int (zi bs) → gEl ty 25 0 b0 b0 h5 → gEl ty 17 b0 oc0 oc0 h5 → gEl ty 18 b0 or0 or0 h5 → gPic ty w hh wd hg bs h5 → gSb ty sb bs h5 → gz gPP gGG gcn (d + 2) gt164 10 [some (.ref m), some (.int (zi u)), some (.int (zi nx)), some (.int (zi ku)), some (.int (zi i)), none, none] [] h5 (fun q _ => gSs rT 1027 ty [24999] h q.2.2 ∧ gfin gt164 q.1 q.2.1 = some none) := by
          intro fu
          induction fu with
          | zero => intro h5 i hm; exact absurd hm (Nat.not_lt_zero _)
          | succ fu ihlp4 =>
            intro h5 i lp4m sh5 lp4f0 lp4f1 lp4k0 lp4k1 lp4k2 lp4k3 lp4k4 lp4k5 lp4k6 lp4k7 lp4k8 lp4k9 lp4k10
            refine gz_s 2 (pc' := 13) (L' := [some (.ref m), some (.int (zi u)), some (.int (zi nx)), some (.int (zi ku)), some (.int (zi i)), none, none]) (S' := [.ref m, .int (zi i)]) rfl ?_
            refine gs_gtk rfl (by decide) rfl sh5.1 tm rfl rfl lp4k0 ?_
            by_cases hc6 : (sb : Int) ≤ i
            · refine gy_icT (pc' := 69) rfl (by decide) (by decide) (by omega) (by omega) hc6 ?_
              refine gy_s 2 (pc' := 2) (L' := [some (.ref m), some (.int (zi u)), some (.int (zi nx)), some (.int ((zi ku) + zi 1)), some (.int (zi i)), none, none]) (S' := []) (L2 := [some (.ref m), some (.int (zi u)), some (.int (zi nx)), some (.int (zi (ku + 1))), some (.int (zi i)), none, none]) (S2 := []) rfl (by simp only [zi_add, zi_sub, zi_mul, zi_neg, zi_and1, zi_and7, zi_and15, zi_and31, zi_and255]) (by simp only [zi_add, zi_sub, zi_mul, zi_neg, zi_and1, zi_and7, zi_and15, zi_and31, zi_and255]) ?_
              exact gz_wk (ihlp1 h5 (ku + 1) (by omega) sh5 (by omega) (by omega) lp4k0 lp4k1 lp4k2 lp4k3 lp4k4 lp4k5 lp4k6 lp4k7 lp4k8 lp4k9 lp4k10) (gLw.s (gLw.s (gLw.s (gLw.s (gLw.n (gLw.n (gLw.n gLw.z)))))))
            · refine gy_icF rfl (by decide) (by decide) (by omega) (by omega) hc6 ?_
              refine gz_s 1 (pc' := 20) (L' := [some (.ref m), some (.int (zi u)), some (.int (zi nx)), some (.int (zi ku)), some (.int (zi i)), none, none]) (S' := [.ref m]) rfl ?_
              refine gs_gtr rfl (by decide) rfl sh5.1 tm rfl rfl rfl (fun c7 ec7 tc7 => ?_)
              refine gz_s 1 (pc' := 25) (L' := [some (.ref m), some (.int (zi u)), some (.int (zi nx)), some (.int (zi ku)), some (.int (zi i)), none, none]) (S' := [.int (zi i), .ref c7]) rfl ?_
              have hs1U := lp4k10.1
              obtain ⟨bU, l0U, l1U, l2U, l3U, l4U⟩ := lp4k10.2 i (by omega) (by omega)
              obtain ⟨hbU, vbU, CU, RU, ocU, orrU, fU, eU_0, eU_1, eU_2, eU_3, eU_4, eU_5, eU_6, eU_7, kU⟩ := lp4k9.2 bU (by omega) (by omega)
              obtain ⟨kU_0, kU_1, kU_2, kU_3, kU_4, kU_5, kU_6, kU_7, kU_8, kU_9, kU_10, kU_11, kU_12, kU_13, kU_14, kU_15, kU_16, kU_17⟩ := kU
              have kkU := zb3 (a := CU) (b := RU) (by omega) (by omega)
              have kpU := zx_f (a := hbU) (b := vbU) (A := 2) (B := 2) (by omega) (by omega) (by omega) (by omega)
              have v0U : sb = 1 → bU = b0 := fun hs => by
                have i0 : i = 0 := by omega
                have l2 := l2U
                rw [i0] at l2
                exact gEl.un (k := 40) (r := rg25) sh5.1 tm rfl trivial rfl rfl rfl (fun _ => rfl) (by decide) (i := 0) (by omega) (by decide) l2 lp4k6
              have v4U : sb = 1 → ocU = oc0 := fun hs => by
                have l2 := eU_4
                rw [v0U hs] at l2
                exact gEl.un (k := 31) (r := rg17) sh5.1 tm rfl trivial rfl rfl rfl (fun _ => rfl) (by decide) (i := b0) (by omega) (by show b0 < 3; omega) l2 lp4k7
              have v5U : sb = 1 → orrU = or0 := fun hs => by
                have l2 := eU_5
                rw [v0U hs] at l2
                exact gEl.un (k := 32) (r := rg18) sh5.1 tm rfl trivial rfl rfl rfl (fun _ => rfl) (by decide) (i := b0) (by omega) (by show b0 < 3; omega) l2 lp4k8
              have v6U : sb = 1 → ocU * orrU = oc0 * or0 := fun hs => by rw [v4U hs, v5U hs]
              have hl8 : 3 ≤ h5.2.2.2.1 c7 ∧ h5.2.2.2.1 c7 ≤ 3 := gJ.rowl (G := gGG) sh5.1 tc7 rfl
              refine gs_alx rfl (by decide) sh5.1 tc7 rfl rfl rfl (by decide) (fun _ => rfl) (by omega) (by omega) (by decide) l2U (fun ex9 ax9 bx9 => ?_)
              refine gz_s 3 (pc' := 31) (L' := [some (.ref m), some (.int (zi u)), some (.int (zi nx)), some (.int (zi ku)), some (.int (zi i)), some (.int (zi bU)), some (.int (zi 0))]) (S' := []) rfl ?_
              have lp10 : ∀ (fu : Nat) (h11 : gH) (k : Int), (5 - k).toNat < fu → gSs rT 1027 ty [24999] h h11 → (0 ≤ k ∧ k ≤ 4) → (sb = 1 → k ≤ 1) → (¬ sb = 1 → k ≤ hbU * vbU) → h11.2.2.2.2 m 39 = .int (zi sb) → h11.2.2.2.2 m 18 = .int (zi w) → h11.2.2.2.2 m 19 = .int (zi hh) → h11.2.2.2.2 m 21 = .int (zi wd) → h11.2.2.2.2 m 22 = .int (zi hg) → h11.2.2.2.2 m 20 = .int (zi bs) → h11.2.2.2.2 m 40 = .ref c7 → gEl ty 25 0 b0 b0 h11 → gEl ty 17 b0 oc0 oc0 h11 → gEl ty 18 b0 or0 or0 h11 → gPic ty w hh wd hg bs h11 → gSb ty sb bs h11 → gEl ty 25 i bU bU h11 → gEl ty 21 bU 0 3 h11 → gEl ty 22 bU 4 7 h11 → gEl ty 12 bU hbU hbU h11 → gEl ty 13 bU vbU vbU h11 → gEl ty 15 bU CU CU h11 → gEl ty 16 bU RU RU h11 → gEl ty 17 bU ocU ocU h11 → gEl ty 18 bU orrU orrU h11 → gEl ty 19 bU fU fU h11 → gEl ty 14 bU 0 3 h11 → gz gPP gGG gcn (d + 2) gt164 31 [some (.ref m), some (.int (zi u)), some (.int (zi nx)), some (.int (zi ku)), some (.int (zi i)), some (.int (zi bU)), some (.int (zi k))] [] h11 (fun q _ => gSs rT 1027 ty [24999] h q.2.2 ∧ gfin gt164 q.1 q.2.1 = some none) := by
                intro fu
                induction fu with
                | zero => intro h11 k hm; exact absurd hm (Nat.not_lt_zero _)
                | succ fu ihlp10 =>
                  intro h11 k lp10m sh11 lp10f0 lp10f1 lp10f2 lp10k0 lp10k1 lp10k2 lp10k3 lp10k4 lp10k5 lp10k6 lp10k7 lp10k8 lp10k9 lp10k10 lp10k11 lp10k12 lp10k13 lp10k14 lp10k15 lp10k16 lp10k17 lp10k18 lp10k19 lp10k20 lp10k21 lp10k22
                  refine gz_s 3 (pc' := 36) (L' := [some (.ref m), some (.int (zi u)), some (.int (zi nx)), some (.int (zi ku)), some (.int (zi i)), some (.int (zi bU)), some (.int (zi k))]) (S' := [.int (zi bU), .ref m, .int (zi k)]) rfl ?_
                  refine gz_call rfl (by decide) rfl (by decide) (by decide) (gcal_of rfl rfl rfl (Nat.le_of_ble_eq_true rfl) (gJ.recv (G := gGG) sh11.1 tm rfl rfl)) (mm_blocksOf _ sh11.1 m tm bU (by omega) sb lp10k0 (by omega) hbU (by omega) vbU (by omega) lp10k15 lp10k16) (fun q12 _ wq12 => ?_)
                  obtain ⟨pq12, oq12, hq12⟩ := q12
                  obtain ⟨xq12, zq12, gq12, aq12, bq12, uq12_0, uq12_1⟩ := wq12
                  refine ⟨_, gq12, ?_⟩
                  show gz gPP gGG gcn _ _ 39 [some (.ref m), some (.int (zi u)), some (.int (zi nx)), some (.int (zi ku)), some (.int (zi i)), some (.int (zi bU)), some (.int (zi k))] [.int (zi zq12), .int (zi k)] hq12 _
                  have sq12 := gSs.tr sh11 xq12 (by decide)
                  have s13 := (xq12.2.2.2.2.2 m 39 (by rw [tm]; decide)).trans lp10k0
                  have s14 := (xq12.2.2.2.2.2 m 18 (by rw [tm]; decide)).trans lp10k1
                  have s15 := (xq12.2.2.2.2.2 m 19 (by rw [tm]; decide)).trans lp10k2
                  have s16 := (xq12.2.2.2.2.2 m 21 (by rw [tm]; decide)).trans lp10k3
                  have s17 := (xq12.2.2.2.2.2 m 22 (by rw [tm]; decide)).trans lp10k4
                  have s18 := (xq12.2.2.2.2.2 m 20 (by rw [tm]; decide)).trans lp10k5
                  have s19 := (xq12.2.2.2.2.2 m 40 (by rw [tm]; decide)).trans lp10k6
                  have pr20 := gEl.fr xq12.2 (by decide) (fun _ => rfl) lp10k7
                  have pr21 := gEl.fr xq12.2 (by decide) (fun _ => rfl) lp10k8
                  have pr22 := gEl.fr xq12.2 (by decide) (fun _ => rfl) lp10k9
                  have pr23 := gPic.fr xq12.2 (by decide) lp10k10
                  have pr24 := gSb.fr xq12.2 (by decide) lp10k11
                  have pr25 := gEl.fr xq12.2 (by decide) (fun _ => rfl) lp10k12
                  have pr26 := gEl.fr xq12.2 (by decide) (fun _ => rfl) lp10k13
                  have pr27 := gEl.fr xq12.2 (by decide) (fun _ => rfl) lp10k14
                  have pr28 := gEl.fr xq12.2 (by decide) (fun _ => rfl) lp10k15
                  have pr29 := gEl.fr xq12.2 (by decide) (fun _ => rfl) lp10k16
                  have pr30 := gEl.fr xq12.2 (by decide) (fun _ => rfl) lp10k17
                  have pr31 := gEl.fr xq12.2 (by decide) (fun _ => rfl) lp10k18
                  have pr32 := gEl.fr xq12.2 (by decide) (fun _ => rfl) lp10k19
                  have pr33 := gEl.fr xq12.2 (by decide) (fun _ => rfl) lp10k20
                  have pr34 := gEl.fr xq12.2 (by decide) (fun _ => rfl) lp10k21
                  have pr35 := gEl.fr xq12.2 (by decide) (fun _ => rfl) lp10k22
                  by_cases hc36 : (zq12 : Int) ≤ k
                  · refine gy_icT (pc' := 63) rfl (by decide) (by decide) (by omega) (by omega) hc36 ?_
                    refine gy_s 2 (pc' := 10) (L' := [some (.ref m), some (.int (zi u)), some (.int (zi nx)), some (.int (zi ku)), some (.int ((zi i) + zi 1)), some (.int (zi bU)), some (.int (zi k))]) (S' := []) (L2 := [some (.ref m), some (.int (zi u)), some (.int (zi nx)), some (.int (zi ku)), some (.int (zi (i + 1))), some (.int (zi bU)), some (.int (zi k))]) (S2 := []) rfl (by simp only [zi_add, zi_sub, zi_mul, zi_neg, zi_and1, zi_and7, zi_and15, zi_and31, zi_and255]) (by simp only [zi_add, zi_sub, zi_mul, zi_neg, zi_and1, zi_and7, zi_and15, zi_and31, zi_and255]) ?_
                    exact gz_wk (ihlp4 hq12 (i + 1) (by omega) sq12 (by omega) (by omega) s13 s14 s15 s16 s17 s18 pr20 pr21 pr22 pr23 pr24) (gLw.s (gLw.s (gLw.s (gLw.s (gLw.s (gLw.n (gLw.n gLw.z)))))))
                  · refine gy_icF rfl (by decide) (by decide) (by omega) (by omega) hc36 ?_
                    refine gz_s 1 (pc' := 43) (L' := [some (.ref m), some (.int (zi u)), some (.int (zi nx)), some (.int (zi ku)), some (.int (zi i)), some (.int (zi bU)), some (.int (zi k))]) (S' := [.ref m]) rfl ?_
                    refine gs_gtr rfl (by decide) rfl sq12.1 tm rfl rfl rfl (fun c37 ec37 tc37 => ?_)
                    refine gz_s 4 (pc' := 52) (L' := [some (.ref m), some (.int (zi u)), some (.int (zi nx)), some (.int (zi ku)), some (.int (zi i)), some (.int (zi bU)), some (.int (zi k))]) (S' := [.int (zi k), .int (zi ku), .int (zi bU), .ref m, .ref c37]) rfl ?_
                    refine gz_call rfl (by decide) rfl (by decide) (by decide) (gcal_of rfl rfl rfl (Nat.le_of_ble_eq_true rfl) (gJ.recv (G := gGG) sq12.1 tm rfl rfl)) (mm_block _ sq12.1 m tm bU (by omega) ku (by omega) k (by omega) sb s13 (by omega) w s14 (by omega) hh s15 (by omega) wd s16 (by omega) hg s17 (by omega) hbU (by omega) vbU (by omega) CU (by omega) RU (by omega) ocU (by omega) orrU (by omega) fU (by omega) (by omega) (by omega) (by omega) (by omega) (by omega) (by omega) (by omega) (by omega) pr28 pr29 pr30 pr31 pr32 pr33 pr34) (fun q38 _ wq38 => ?_)
                    obtain ⟨pq38, oq38, hq38⟩ := q38
                    obtain ⟨xq38, zq38, gq38, aq38, bq38⟩ := wq38
                    refine ⟨_, gq38, ?_⟩
                    show gz gPP gGG gcn _ _ 55 [some (.ref m), some (.int (zi u)), some (.int (zi nx)), some (.int (zi ku)), some (.int (zi i)), some (.int (zi bU)), some (.int (zi k))] [.int (zi zq38), .ref c37] hq38 _
                    have sq38 := gSs.tr sq12 xq38 (by decide)
                    have s39 := (xq38.2.2.2.2.2 m 39 (by rw [tm]; decide)).trans s13
                    have s40 := (xq38.2.2.2.2.2 m 18 (by rw [tm]; decide)).trans s14
                    have s41 := (xq38.2.2.2.2.2 m 19 (by rw [tm]; decide)).trans s15
                    have s42 := (xq38.2.2.2.2.2 m 21 (by rw [tm]; decide)).trans s16
                    have s43 := (xq38.2.2.2.2.2 m 22 (by rw [tm]; decide)).trans s17
                    have s44 := (xq38.2.2.2.2.2 m 20 (by rw [tm]; decide)).trans s18
                    have s45 := (xq38.2.2.2.2.2 m 40 (by rw [tm]; decide)).trans s19
                    have s46 := (xq38.2.2.2.2.2 m 38 (by rw [tm]; decide)).trans ec37
                    have pr47 := gEl.fr xq38.2 (by decide) (fun _ => rfl) pr20
                    have pr48 := gEl.fr xq38.2 (by decide) (fun _ => rfl) pr21
                    have pr49 := gEl.fr xq38.2 (by decide) (fun _ => rfl) pr22
                    have pr50 := gPic.fr xq38.2 (by decide) pr23
                    have pr51 := gSb.fr xq38.2 (by decide) pr24
                    have pr52 := gEl.fr xq38.2 (by decide) (fun _ => rfl) pr25
                    have pr53 := gEl.fr xq38.2 (by decide) (fun _ => rfl) pr26
                    have pr54 := gEl.fr xq38.2 (by decide) (fun _ => rfl) pr27
                    have pr55 := gEl.fr xq38.2 (by decide) (fun _ => rfl) pr28
                    have pr56 := gEl.fr xq38.2 (by decide) (fun _ => rfl) pr29
                    have pr57 := gEl.fr xq38.2 (by decide) (fun _ => rfl) pr30
                    have pr58 := gEl.fr xq38.2 (by decide) (fun _ => rfl) pr31
                    have pr59 := gEl.fr xq38.2 (by decide) (fun _ => rfl) pr32
                    have pr60 := gEl.fr xq38.2 (by decide) (fun _ => rfl) pr33
                    have pr61 := gEl.fr xq38.2 (by decide) (fun _ => rfl) pr34
                    have pr62 := gEl.fr xq38.2 (by decide) (fun _ => rfl) pr35
                    refine gz_s 1 (pc' := 56) (L' := [some (.ref m), some (.int (zi u)), some (.int (zi nx)), some (.int (zi ku)), some (.int (zi i)), some (.int (zi bU)), some (.int (zi k))]) (S' := [.int (zi 1), .int (zi zq38), .ref c37]) rfl ?_
                    have hl63 : 192 ≤ hq38.2.2.2.1 c37 ∧ hq38.2.2.2.1 c37 ≤ 192 := gJ.rowl (G := gGG) sq38.1 tc37 rfl
                    refine gs_zast rfl (by decide) sq38 tc37 rfl rfl rfl (by decide) (fun _ => rfl) (by omega) (by omega) (fun _ => (by decide : (24999 : Nat) ∈ ([24999] : List Nat))) (by omega) (by omega) (by omega) (fun h64 sh64 eh64 fh64 => ?_)
                    have pr65 := gEl.pt fh64 tc37 (by decide) pr47
                    have pr66 := gEl.pt fh64 tc37 (by decide) pr48
                    have pr67 := gEl.pt fh64 tc37 (by decide) pr49
                    have pr68 := gPic.pt fh64 tc37 (by decide) pr50
                    have pr69 := gSb.pt fh64 tc37 (by decide) pr51
                    have pr70 := gEl.pt fh64 tc37 (by decide) pr52
                    have pr71 := gEl.pt fh64 tc37 (by decide) pr53
                    have pr72 := gEl.pt fh64 tc37 (by decide) pr54
                    have pr73 := gEl.pt fh64 tc37 (by decide) pr55
                    have pr74 := gEl.pt fh64 tc37 (by decide) pr56
                    have pr75 := gEl.pt fh64 tc37 (by decide) pr57
                    have pr76 := gEl.pt fh64 tc37 (by decide) pr58
                    have pr77 := gEl.pt fh64 tc37 (by decide) pr59
                    have pr78 := gEl.pt fh64 tc37 (by decide) pr60
                    have pr79 := gEl.pt fh64 tc37 (by decide) pr61
                    have pr80 := gEl.pt fh64 tc37 (by decide) pr62
                    have s81 := (fh64 m 39 (fun q => absurd (((tm).symm.trans (congrArg ty q.1)).trans tc37) (by decide))).trans s39
                    have s82 := (fh64 m 18 (fun q => absurd (((tm).symm.trans (congrArg ty q.1)).trans tc37) (by decide))).trans s40
                    have s83 := (fh64 m 19 (fun q => absurd (((tm).symm.trans (congrArg ty q.1)).trans tc37) (by decide))).trans s41
                    have s84 := (fh64 m 21 (fun q => absurd (((tm).symm.trans (congrArg ty q.1)).trans tc37) (by decide))).trans s42
                    have s85 := (fh64 m 22 (fun q => absurd (((tm).symm.trans (congrArg ty q.1)).trans tc37) (by decide))).trans s43
                    have s86 := (fh64 m 20 (fun q => absurd (((tm).symm.trans (congrArg ty q.1)).trans tc37) (by decide))).trans s44
                    have s87 := (fh64 m 40 (fun q => absurd (((tm).symm.trans (congrArg ty q.1)).trans tc37) (by decide))).trans s45
                    have s88 := (fh64 m 38 (fun q => absurd (((tm).symm.trans (congrArg ty q.1)).trans tc37) (by decide))).trans s46
                    refine gy_s 2 (pc' := 31) (L' := [some (.ref m), some (.int (zi u)), some (.int (zi nx)), some (.int (zi ku)), some (.int (zi i)), some (.int (zi bU)), some (.int ((zi k) + zi 1))]) (S' := []) (L2 := [some (.ref m), some (.int (zi u)), some (.int (zi nx)), some (.int (zi ku)), some (.int (zi i)), some (.int (zi bU)), some (.int (zi (k + 1)))]) (S2 := []) rfl (by simp only [zi_add, zi_sub, zi_mul, zi_neg, zi_and1, zi_and7, zi_and15, zi_and31, zi_and255]) (by simp only [zi_add, zi_sub, zi_mul, zi_neg, zi_and1, zi_and7, zi_and15, zi_and31, zi_and255]) ?_
                    exact gz_wk (ihlp10 h64 (k + 1) (by omega) sh64 (by omega) (by omega) (by omega) s81 s82 s83 s84 s85 s86 s87 pr65 pr66 pr67 pr68 pr69 pr70 pr71 pr72 pr73 pr74 pr75 pr76 pr77 pr78 pr79 pr80) (gLw.s (gLw.s (gLw.s (gLw.s (gLw.s (gLw.s (gLw.s gLw.z)))))))
              exact gz_wk (lp10 _ h5 0 (Nat.lt_succ_self _) sh5 (by omega) (by omega) (by omega) lp4k0 lp4k1 lp4k2 lp4k3 lp4k4 lp4k5 ec7 lp4k6 lp4k7 lp4k8 lp4k9 lp4k10 l2U l3U l4U eU_0 eU_1 eU_2 eU_3 eU_4 eU_5 eU_6 eU_7) (gLw.s (gLw.s (gLw.s (gLw.s (gLw.s (gLw.s (gLw.s gLw.z)))))))
        exact gz_wk (lp4 _ h2 0 (Nat.lt_succ_self _) sh2 (by omega) (by omega) lp1k0 lp1k1 lp1k2 lp1k3 lp1k4 lp1k5 lp1k6 lp1k7 lp1k8 lp1k9 lp1k10) (gLw.s (gLw.s (gLw.s (gLw.s (gLw.s (gLw.n (gLw.n gLw.z)))))))
  exact gz_wk (lp1 _ h u (Nat.lt_succ_self _) hS (by omega) (by omega) esb ew ehh ewd ehg ebs el0 el1 el2 hypic hysb) (gLw.s (gLw.s (gLw.s (gLw.s (gLw.n (gLw.n (gLw.n gLw.z)))))))
set_option maxRecDepth 20000 in
set_option maxHeartbeats 4000000 in
theorem mm_readUnits (d : Nat) {ty : Nat → Nat} {h : gH} (hJ : gJ rT 1027 ty h) (m : Nat) (tm : ty m = 1) (a0 : Int) (ea0 : h.2.2.2.2 m 47 = .int (zi a0)) (ra0 : 0 ≤ a0 ∧ a0 ≤ 2000) (k0 : Int) (ek0 : h.2.2.2.2 m 48 = .int (zi k0)) (rk0 : 0 ≤ k0 ∧ k0 ≤ 0) (sz : Int) (esz : h.2.2.2.2 m 3 = .int (zi sz)) (rsz : 0 ≤ sz ∧ sz ≤ 2000) (u0 : Int) (eu0 : h.2.2.2.2 m 46 = .int (zi u0)) (ru0 : 0 ≤ u0 ∧ u0 ≤ 1) (iv : Int) (eiv : h.2.2.2.2 m 8 = .int (zi iv)) (riv : 0 ≤ iv ∧ iv ≤ 65535) (sb : Int) (esb : h.2.2.2.2 m 39 = .int (zi sb)) (rsb : 0 ≤ sb ∧ sb ≤ 3) (by1 : Int) (eby1 : h.2.2.2.2 m 17 = .int (zi by1)) (rby1 : 0 ≤ by1 ∧ by1 ≤ 1) (fr : Int) (efr : h.2.2.2.2 m 41 = .int (zi fr)) (rfr : 0 ≤ fr ∧ fr ≤ 63) (tt : Int) (ett : h.2.2.2.2 m 42 = .int (zi tt)) (rtt : 0 ≤ tt ∧ tt ≤ 63) (ab : Int) (eab : h.2.2.2.2 m 43 = .int (zi ab)) (rab : 0 ≤ ab ∧ ab ≤ 15) (lw : Int) (elw : h.2.2.2.2 m 44 = .int (zi lw)) (rlw : 0 ≤ lw ∧ lw ≤ 13) (w : Int) (ew : h.2.2.2.2 m 18 = .int (zi w)) (rw : 0 ≤ w ∧ w ≤ 64) (hh : Int) (ehh : h.2.2.2.2 m 19 = .int (zi hh)) (rhh : 0 ≤ hh ∧ hh ≤ 64) (wd : Int) (ewd : h.2.2.2.2 m 21 = .int (zi wd)) (rwd : 1 ≤ wd ∧ wd ≤ 2) (hg : Int) (ehg : h.2.2.2.2 m 22 = .int (zi hg)) (rhg : 1 ≤ hg ∧ hg ≤ 2) (bs : Int) (ebs : h.2.2.2.2 m 20 = .int (zi bs)) (rbs : 1 ≤ bs ∧ bs ≤ 3) (pp0 : fr ≤ tt) (hypic : gPic ty w hh wd hg bs h) (hysb : gSb ty sb bs h) : gz gPP gGG gcn (d + 7) gt143 0 (gent [.ref m] 5) [] h (fun q _ => gSs rT 1027 ty [1045, 1046, 1047, 1048, 20999, 23999, 24999] h q.2.2 ∧ ∃ a1 k1 : Int, gfin gt143 q.1 q.2.1 = some none ∧ q.2.2.2.2.2.2 m 47 = .int (zi a1) ∧ 0 ≤ a1 ∧ a1 ≤ 2001 ∧ q.2.2.2.2.2.2 m 48 = .int (zi k1) ∧ 0 ≤ k1 ∧ k1 ≤ 7 ∧ (k1 = 0 ∨ a1 < sz) ∧ (a0 ≤ a1)) := by
  have hS : gSs rT 1027 ty [1045, 1046, 1047, 1048, 20999, 23999, 24999] h h := gSs.rf hJ
  refine gz_s 1 (pc' := 1) (L' := [some (.ref m), none, none, none, none]) (S' := [.ref m]) rfl ?_
  have hs10 := hysb.1
  obtain ⟨b0, l00, l10, l20, l30, l40⟩ := hysb.2 0 (by omega) (by omega)
  obtain ⟨hb0, vb0, C0, R0, oc0, orr0, f0, e0_0, e0_1, e0_2, e0_3, e0_4, e0_5, e0_6, e0_7, k0⟩ := hypic.2 b0 (by omega) (by omega)
  obtain ⟨k0_0, k0_1, k0_2, k0_3, k0_4, k0_5, k0_6, k0_7, k0_8, k0_9, k0_10, k0_11, k0_12, k0_13, k0_14, k0_15, k0_16, k0_17⟩ := k0
  have kk0 := zb3 (a := C0) (b := R0) (by omega) (by omega)
  have kp0 := zx_f (a := hb0) (b := vb0) (A := 2) (B := 2) (by omega) (by omega) (by omega) (by omega)
  have hpa := gPic.all hypic
  refine gz_call rfl (by decide) rfl (by decide) (by decide) (gcal_of rfl rfl rfl (Nat.le_of_ble_eq_true rfl) (gJ.recv (G := gGG) hS.1 tm rfl rfl)) (mm_begin _ hS.1 m tm ) (fun q1 _ wq1 => ?_)
  obtain ⟨pq1, oq1, hq1⟩ := q1
  obtain ⟨xq1, gq1⟩ := wq1
  refine ⟨_, gq1, ?_⟩
  show gz gPP gGG gcn _ _ 4 [some (.ref m), none, none, none, none] [] hq1 _
  have sq1 := gSs.tr hS xq1 (by decide)
  have s2 := (xq1.2.2.2.2.2 m 47 (by rw [tm]; decide)).trans ea0
  have s3 := (xq1.2.2.2.2.2 m 48 (by rw [tm]; decide)).trans ek0
  have s4 := (xq1.2.2.2.2.2 m 3 (by rw [tm]; decide)).trans esz
  have s5 := (xq1.2.2.2.2.2 m 46 (by rw [tm]; decide)).trans eu0
  have s6 := (xq1.2.2.2.2.2 m 8 (by rw [tm]; decide)).trans eiv
  have s7 := (xq1.2.2.2.2.2 m 39 (by rw [tm]; decide)).trans esb
  have s8 := (xq1.2.2.2.2.2 m 17 (by rw [tm]; decide)).trans eby1
  have s9 := (xq1.2.2.2.2.2 m 41 (by rw [tm]; decide)).trans efr
  have s10 := (xq1.2.2.2.2.2 m 42 (by rw [tm]; decide)).trans ett
  have s11 := (xq1.2.2.2.2.2 m 43 (by rw [tm]; decide)).trans eab
  have s12 := (xq1.2.2.2.2.2 m 44 (by rw [tm]; decide)).trans elw
  have s13 := (xq1.2.2.2.2.2 m 18 (by rw [tm]; decide)).trans ew
  have s14 := (xq1.2.2.2.2.2 m 19 (by rw [tm]; decide)).trans ehh
  have s15 := (xq1.2.2.2.2.2 m 21 (by rw [tm]; decide)).trans ewd
  have s16 := (xq1.2.2.2.2.2 m 22 (by rw [tm]; decide)).trans ehg
  have s17 := (xq1.2.2.2.2.2 m 20 (by rw [tm]; decide)).trans ebs
  have pr18 := gPic.fr xq1.2 (by decide) hypic
  have pr19 := gSb.fr xq1.2 (by decide) hysb
  have pr20 := gEl.fr xq1.2 (by decide) (fun _ => rfl) l20
  have pr21 := gEl.fr xq1.2 (by decide) (fun _ => rfl) l30
  have pr22 := gEl.fr xq1.2 (by decide) (fun _ => rfl) l40
  have pr23 := gEl.fr xq1.2 (by decide) (fun _ => rfl) e0_0
  have pr24 := gEl.fr xq1.2 (by decide) (fun _ => rfl) e0_1
  have pr25 := gEl.fr xq1.2 (by decide) (fun _ => rfl) e0_2
  have pr26 := gEl.fr xq1.2 (by decide) (fun _ => rfl) e0_3
  have pr27 := gEl.fr xq1.2 (by decide) (fun _ => rfl) e0_4
  have pr28 := gEl.fr xq1.2 (by decide) (fun _ => rfl) e0_5
  have pr29 := gEl.fr xq1.2 (by decide) (fun _ => rfl) e0_6
  have pr30 := gEl.fr xq1.2 (by decide) (fun _ => rfl) e0_7
  refine gz_s 1 (pc' := 5) (L' := [some (.ref m), none, none, none, none]) (S' := [.ref m]) rfl ?_
  refine gz_call rfl (by decide) rfl (by decide) (by decide) (gcal_of rfl rfl rfl (Nat.le_of_ble_eq_true rfl) (gJ.recv (G := gGG) sq1.1 tm rfl rfl)) (mm_units _ sq1.1 m tm sb s7 (by omega) w s13 (by omega) hh s14 (by omega) wd s15 (by omega) hg s16 (by omega) b0 (by omega) oc0 (by omega) orr0 (by omega) (by omega) (by omega) (by omega) (by omega) pr20 pr27 pr28) (fun q31 _ wq31 => ?_)
  obtain ⟨pq31, oq31, hq31⟩ := q31
  obtain ⟨xq31, zq31, gq31, aq31, bq31, uq31_0, uq31_1⟩ := wq31
  refine ⟨_, gq31, ?_⟩
  show gz gPP gGG gcn _ _ 8 [some (.ref m), none, none, none, none] [.int (zi zq31)] hq31 _
  have sq31 := gSs.tr sq1 xq31 (by decide)
  have s32 := (xq31.2.2.2.2.2 m 47 (by rw [tm]; decide)).trans s2
  have s33 := (xq31.2.2.2.2.2 m 48 (by rw [tm]; decide)).trans s3
  have s34 := (xq31.2.2.2.2.2 m 3 (by rw [tm]; decide)).trans s4
  have s35 := (xq31.2.2.2.2.2 m 46 (by rw [tm]; decide)).trans s5
  have s36 := (xq31.2.2.2.2.2 m 8 (by rw [tm]; decide)).trans s6
  have s37 := (xq31.2.2.2.2.2 m 39 (by rw [tm]; decide)).trans s7
  have s38 := (xq31.2.2.2.2.2 m 17 (by rw [tm]; decide)).trans s8
  have s39 := (xq31.2.2.2.2.2 m 41 (by rw [tm]; decide)).trans s9
  have s40 := (xq31.2.2.2.2.2 m 42 (by rw [tm]; decide)).trans s10
  have s41 := (xq31.2.2.2.2.2 m 43 (by rw [tm]; decide)).trans s11
  have s42 := (xq31.2.2.2.2.2 m 44 (by rw [tm]; decide)).trans s12
  have s43 := (xq31.2.2.2.2.2 m 18 (by rw [tm]; decide)).trans s13
  have s44 := (xq31.2.2.2.2.2 m 19 (by rw [tm]; decide)).trans s14
  have s45 := (xq31.2.2.2.2.2 m 21 (by rw [tm]; decide)).trans s15
  have s46 := (xq31.2.2.2.2.2 m 22 (by rw [tm]; decide)).trans s16
  have s47 := (xq31.2.2.2.2.2 m 20 (by rw [tm]; decide)).trans s17
  have pr48 := gPic.fr xq31.2 (by decide) pr18
  have pr49 := gSb.fr xq31.2 (by decide) pr19
  have pr50 := gEl.fr xq31.2 (by decide) (fun _ => rfl) pr20
  have pr51 := gEl.fr xq31.2 (by decide) (fun _ => rfl) pr21
  have pr52 := gEl.fr xq31.2 (by decide) (fun _ => rfl) pr22
  have pr53 := gEl.fr xq31.2 (by decide) (fun _ => rfl) pr23
  have pr54 := gEl.fr xq31.2 (by decide) (fun _ => rfl) pr24
  have pr55 := gEl.fr xq31.2 (by decide) (fun _ => rfl) pr25
  have pr56 := gEl.fr xq31.2 (by decide) (fun _ => rfl) pr26
  have pr57 := gEl.fr xq31.2 (by decide) (fun _ => rfl) pr27
  have pr58 := gEl.fr xq31.2 (by decide) (fun _ => rfl) pr28
  have pr59 := gEl.fr xq31.2 (by decide) (fun _ => rfl) pr29
  have pr60 := gEl.fr xq31.2 (by decide) (fun _ => rfl) pr30
  refine gz_s 5 (pc' := 13) (L' := [some (.ref m), some (.int (zi zq31)), some (.int (zi 0)), some (.int (zi 0)), none]) (S' := []) rfl ?_
  have lp61 : ∀ (fu : Nat) (h62 : gH) (uu : Int) (jp : Int) (av : Int) (kv : Int) (uv : Int), (65 - uu).toNat < fu → gSs rT 1027 ty [1045, 1046, 1047, 1048, 20999, 23999, 24999] h h62 → (0 ≤ uu ∧ uu ≤ 64) → (0 ≤ jp ∧ jp ≤ 1) → (0 ≤ av ∧ av ≤ 2001) → (0 ≤ kv ∧ kv ≤ 7) → (0 ≤ uv ∧ uv ≤ 1) → (kv = 0 ∨ av < sz) → (a0 ≤ av) → h62.2.2.2.2 m 3 = .int (zi sz) → h62.2.2.2.2 m 8 = .int (zi iv) → h62.2.2.2.2 m 39 = .int (zi sb) → h62.2.2.2.2 m 17 = .int (zi by1) → h62.2.2.2.2 m 41 = .int (zi fr) → h62.2.2.2.2 m 42 = .int (zi tt) → h62.2.2.2.2 m 43 = .int (zi ab) → h62.2.2.2.2 m 44 = .int (zi lw) → h62.2.2.2.2 m 18 = .int (zi w) → h62.2.2.2.2 m 19 = .int (zi hh) → h62.2.2.2.2 m 21 = .int (zi wd) → h62.2.2.2.2 m 22 = .int (zi hg) → h62.2.2.2.2 m 20 = .int (zi bs) → h62.2.2.2.2 m 47 = .int (zi av) → h62.2.2.2.2 m 48 = .int (zi kv) → h62.2.2.2.2 m 46 = .int (zi uv) → gPic ty w hh wd hg bs h62 → gSb ty sb bs h62 → gEl ty 25 0 b0 b0 h62 → gEl ty 21 b0 0 3 h62 → gEl ty 22 b0 4 7 h62 → gEl ty 12 b0 hb0 hb0 h62 → gEl ty 13 b0 vb0 vb0 h62 → gEl ty 15 b0 C0 C0 h62 → gEl ty 16 b0 R0 R0 h62 → gEl ty 17 b0 oc0 oc0 h62 → gEl ty 18 b0 orr0 orr0 h62 → gEl ty 19 b0 f0 f0 h62 → gEl ty 14 b0 0 3 h62 → gz gPP gGG gcn (d + 7) gt143 13 [some (.ref m), some (.int (zi zq31)), some (.int (zi uu)), some (.int (zi jp)), none] [] h62 (fun q _ => gSs rT 1027 ty [1045, 1046, 1047, 1048, 20999, 23999, 24999] h q.2.2 ∧ ∃ a1 k1 : Int, gfin gt143 q.1 q.2.1 = some none ∧ q.2.2.2.2.2.2 m 47 = .int (zi a1) ∧ 0 ≤ a1 ∧ a1 ≤ 2001 ∧ q.2.2.2.2.2.2 m 48 = .int (zi k1) ∧ 0 ≤ k1 ∧ k1 ≤ 7 ∧ (k1 = 0 ∨ a1 < sz) ∧ (a0 ≤ a1)) := by
    intro fu
    induction fu with
    | zero => intro h62 uu jp av kv uv hm; exact absurd hm (Nat.not_lt_zero _)
    | succ fu ihlp61 =>
      intro h62 uu jp av kv uv lp61m sh62 lp61f0 lp61f1 lp61f2 lp61f3 lp61f4 lp61f5 lp61f6 lp61k0 lp61k1 lp61k2 lp61k3 lp61k4 lp61k5 lp61k6 lp61k7 lp61k8 lp61k9 lp61k10 lp61k11 lp61k12 lp61k13 lp61k14 lp61k15 lp61k16 lp61k17 lp61k18 lp61k19 lp61k20 lp61k21 lp61k22 lp61k23 lp61k24 lp61k25 lp61k26 lp61k27 lp61k28
      refine gz_s 2 (pc' := 15) (L' := [some (.ref m), some (.int (zi zq31)), some (.int (zi uu)), some (.int (zi jp)), none]) (S' := [.int (zi zq31), .int (zi uu)]) rfl ?_
      by_cases hc63 : (zq31 : Int) ≤ uu
      · refine gy_icT (pc' := 100) rfl (by decide) (by decide) (by omega) (by omega) hc63 ?_
        exact gz_end (I := .return_) (len := 1) rfl (Or.inl rfl) ⟨sh62, av, kv, rfl, lp61k13, (by omega), (by omega), lp61k14, (by omega), (by omega), (by omega), (by omega)⟩
      · refine gy_icF rfl (by decide) (by decide) (by omega) (by omega) hc63 ?_
        refine gz_s 2 (pc' := 20) (L' := [some (.ref m), some (.int (zi zq31)), some (.int (zi uu)), some (.int (zi jp)), none]) (S' := [.int (zi 0), .ref m]) rfl ?_
        refine gs_put rfl (by decide) rfl sh62 tm rfl rfl rfl rfl (Or.inl rfl) (by decide) (by omega) (by omega) (fun h64 sh64 eh64 fh64 => ?_)
        have pr65 := gPic.pt fh64 tm (by decide) lp61k16
        have pr66 := gSb.pt fh64 tm (by decide) lp61k17
        have pr67 := gEl.pt fh64 tm (by decide) lp61k18
        have pr68 := gEl.pt fh64 tm (by decide) lp61k19
        have pr69 := gEl.pt fh64 tm (by decide) lp61k20
        have pr70 := gEl.pt fh64 tm (by decide) lp61k21
        have pr71 := gEl.pt fh64 tm (by decide) lp61k22
        have pr72 := gEl.pt fh64 tm (by decide) lp61k23
        have pr73 := gEl.pt fh64 tm (by decide) lp61k24
        have pr74 := gEl.pt fh64 tm (by decide) lp61k25
        have pr75 := gEl.pt fh64 tm (by decide) lp61k26
        have pr76 := gEl.pt fh64 tm (by decide) lp61k27
        have pr77 := gEl.pt fh64 tm (by decide) lp61k28
        have s78 := (fh64 m 3 (fun q => absurd q.2 (by decide))).trans lp61k0
        have s79 := (fh64 m 8 (fun q => absurd q.2 (by decide))).trans lp61k1
        have s80 := (fh64 m 39 (fun q => absurd q.2 (by decide))).trans lp61k2
        have s81 := (fh64 m 17 (fun q => absurd q.2 (by decide))).trans lp61k3
        have s82 := (fh64 m 41 (fun q => absurd q.2 (by decide))).trans lp61k4
        have s83 := (fh64 m 42 (fun q => absurd q.2 (by decide))).trans lp61k5
        have s84 := (fh64 m 43 (fun q => absurd q.2 (by decide))).trans lp61k6
        have s85 := (fh64 m 44 (fun q => absurd q.2 (by decide))).trans lp61k7
        have s86 := (fh64 m 18 (fun q => absurd q.2 (by decide))).trans lp61k8
        have s87 := (fh64 m 19 (fun q => absurd q.2 (by decide))).trans lp61k9
        have s88 := (fh64 m 21 (fun q => absurd q.2 (by decide))).trans lp61k10
        have s89 := (fh64 m 22 (fun q => absurd q.2 (by decide))).trans lp61k11
        have s90 := (fh64 m 20 (fun q => absurd q.2 (by decide))).trans lp61k12
        have s91 := (fh64 m 47 (fun q => absurd q.2 (by decide))).trans lp61k13
        have s92 := (fh64 m 48 (fun q => absurd q.2 (by decide))).trans lp61k14
        refine gz_s 1 (pc' := 24) (L' := [some (.ref m), some (.int (zi zq31)), some (.int (zi uu)), some (.int (zi jp)), none]) (S' := [.ref m]) rfl ?_
        refine gs_gtk rfl (by decide) rfl sh64.1 tm rfl rfl s79 ?_
        by_cases hc93 : (iv : Int) ≤ 0
        · refine gy_ifT (pc' := 52) rfl (by decide) (by decide) (by omega) hc93 ?_
          refine gz_s 2 (pc' := 54) (L' := [some (.ref m), some (.int (zi zq31)), some (.int (zi uu)), some (.int (zi jp)), none]) (S' := [.int (zi uu), .ref m]) rfl ?_
          refine gz_call rfl (by decide) rfl (by decide) (by decide) (gcal_of rfl rfl rfl (Nat.le_of_ble_eq_true rfl) (gJ.recv (G := gGG) sh64.1 tm rfl rfl)) (mm_readUnit _ sh64.1 m tm uu (by omega) av s91 (by omega) kv s92 (by omega) sz s78 (by omega) 0 eh64 (by omega) sb s80 (by omega) by1 s81 (by omega) fr s82 (by omega) tt s83 (by omega) ab s84 (by omega) lw s85 (by omega) w s86 (by omega) hh s87 (by omega) wd s88 (by omega) hg s89 (by omega) bs s90 (by omega) b0 (by omega) oc0 (by omega) orr0 (by omega) (by omega) (by omega) (by omega) (by omega) (by omega) (by omega) (by omega) (by omega) pr67 pr74 pr75 pr65 pr66) (fun q94 _ wq94 => ?_)
          obtain ⟨pq94, oq94, hq94⟩ := q94
          obtain ⟨xq94, fq94_0, fq94_1, fq94_2, gq94, efq94_0, afq94_0, bfq94_0, efq94_1, afq94_1, bfq94_1, efq94_2, afq94_2, bfq94_2, uq94_0, uq94_1, uq94_2⟩ := wq94
          refine ⟨_, gq94, ?_⟩
          show gz gPP gGG gcn _ _ 57 [some (.ref m), some (.int (zi zq31)), some (.int (zi uu)), some (.int (zi jp)), none] [] hq94 _
          have sq94 := gSs.tr sh64 xq94 (by decide)
          have s95 := (xq94.2.2.2.2.2 m 3 (by rw [tm]; decide)).trans s78
          have s96 := (xq94.2.2.2.2.2 m 8 (by rw [tm]; decide)).trans s79
          have s97 := (xq94.2.2.2.2.2 m 39 (by rw [tm]; decide)).trans s80
          have s98 := (xq94.2.2.2.2.2 m 17 (by rw [tm]; decide)).trans s81
          have s99 := (xq94.2.2.2.2.2 m 41 (by rw [tm]; decide)).trans s82
          have s100 := (xq94.2.2.2.2.2 m 42 (by rw [tm]; decide)).trans s83
          have s101 := (xq94.2.2.2.2.2 m 43 (by rw [tm]; decide)).trans s84
          have s102 := (xq94.2.2.2.2.2 m 44 (by rw [tm]; decide)).trans s85
          have s103 := (xq94.2.2.2.2.2 m 18 (by rw [tm]; decide)).trans s86
          have s104 := (xq94.2.2.2.2.2 m 19 (by rw [tm]; decide)).trans s87
          have s105 := (xq94.2.2.2.2.2 m 21 (by rw [tm]; decide)).trans s88
          have s106 := (xq94.2.2.2.2.2 m 22 (by rw [tm]; decide)).trans s89
          have s107 := (xq94.2.2.2.2.2 m 20 (by rw [tm]; decide)).trans s90
          have pr108 := gPic.fr xq94.2 (by decide) pr65
          have pr109 := gSb.fr xq94.2 (by decide) pr66
          have pr110 := gEl.fr xq94.2 (by decide) (fun _ => rfl) pr67
          have pr111 := gEl.fr xq94.2 (by decide) (fun _ => rfl) pr68
          have pr112 := gEl.fr xq94.2 (by decide) (fun _ => rfl) pr69
          have pr113 := gEl.fr xq94.2 (by decide) (fun _ => rfl) pr70
          have pr114 := gEl.fr xq94.2 (by decide) (fun _ => rfl) pr71
          have pr115 := gEl.fr xq94.2 (by decide) (fun _ => rfl) pr72
          have pr116 := gEl.fr xq94.2 (by decide) (fun _ => rfl) pr73
          have pr117 := gEl.fr xq94.2 (by decide) (fun _ => rfl) pr74
          have pr118 := gEl.fr xq94.2 (by decide) (fun _ => rfl) pr75
          have pr119 := gEl.fr xq94.2 (by decide) (fun _ => rfl) pr76
          have pr120 := gEl.fr xq94.2 (by decide) (fun _ => rfl) pr77
          refine gz_s 1 (pc' := 58) (L' := [some (.ref m), some (.int (zi zq31)), some (.int (zi uu)), some (.int (zi jp)), none]) (S' := [.ref m]) rfl ?_
          refine gs_gtk rfl (by decide) rfl sq94.1 tm rfl rfl efq94_2 ?_
          refine gz_s 2 (pc' := 63) (L' := [some (.ref m), some (.int (zi zq31)), some (.int (zi uu)), some (.int (zi fq94_2)), none]) (S' := [.ref m]) rfl ?_
          refine gs_gtk rfl (by decide) rfl sq94.1 tm rfl rfl efq94_2 ?_
          by_cases hc121 : (fq94_2 : Int) = 0
          · refine gy_ifT (pc' := 94) rfl (by decide) (by decide) (by omega) hc121 ?_
            refine gy_s 2 (pc' := 13) (L' := [some (.ref m), some (.int (zi zq31)), some (.int ((zi uu) + zi 1)), some (.int (zi fq94_2)), none]) (S' := []) (L2 := [some (.ref m), some (.int (zi zq31)), some (.int (zi (uu + 1))), some (.int (zi fq94_2)), none]) (S2 := []) rfl (by simp only [zi_add, zi_sub, zi_mul, zi_neg, zi_and1, zi_and7, zi_and15, zi_and31, zi_and255]) (by simp only [zi_add, zi_sub, zi_mul, zi_neg, zi_and1, zi_and7, zi_and15, zi_and31, zi_and255]) ?_
            exact gz_wk (ihlp61 hq94 (uu + 1) fq94_2 fq94_0 fq94_1 fq94_2 (by omega) sq94 (by omega) (by omega) (by omega) (by omega) (by omega) (by omega) (by omega) s95 s96 s97 s98 s99 s100 s101 s102 s103 s104 s105 s106 s107 efq94_0 efq94_1 efq94_2 pr108 pr109 pr110 pr111 pr112 pr113 pr114 pr115 pr116 pr117 pr118 pr119 pr120) (gLw.s (gLw.s (gLw.s (gLw.s (gLw.n gLw.z)))))
          · refine gy_ifF rfl (by decide) (by decide) (by omega) hc121 ?_
            refine gz_s 3 (pc' := 72) (L' := [some (.ref m), some (.int (zi zq31)), some (.int (zi uu)), some (.int (zi fq94_2)), none]) (S' := [.int (zi zq31), .int (zi uu), .ref m]) rfl ?_
            refine gz_call rfl (by decide) rfl (by decide) (by decide) (gcal_of rfl rfl rfl (Nat.le_of_ble_eq_true rfl) (gJ.recv (G := gGG) sq94.1 tm rfl rfl)) (mm_goOn _ sq94.1 m tm uu (by omega) zq31 (by omega) fq94_0 efq94_0 (by omega) fq94_1 efq94_1 (by omega) sz s95 (by omega) iv s96 (by omega) (by omega) (by omega)) (fun q122 _ wq122 => ?_)
            obtain ⟨pq122, oq122, hq122⟩ := q122
            obtain ⟨xq122, zq122, fq122_0, fq122_1, gq122, aq122, bq122, efq122_0, afq122_0, bfq122_0, efq122_1, afq122_1, bfq122_1, uq122_0, uq122_1, uq122_2, uq122_3⟩ := wq122
            refine ⟨_, gq122, ?_⟩
            show gz gPP gGG gcn _ _ 75 [some (.ref m), some (.int (zi zq31)), some (.int (zi uu)), some (.int (zi fq94_2)), none] [.int (zi zq122)] hq122 _
            have sq122 := gSs.tr sq94 xq122 (by decide)
            have s123 := (xq122.2.2.2.2.2 m 3 (by rw [tm]; decide)).trans s95
            have s124 := (xq122.2.2.2.2.2 m 8 (by rw [tm]; decide)).trans s96
            have s125 := (xq122.2.2.2.2.2 m 39 (by rw [tm]; decide)).trans s97
            have s126 := (xq122.2.2.2.2.2 m 17 (by rw [tm]; decide)).trans s98
            have s127 := (xq122.2.2.2.2.2 m 41 (by rw [tm]; decide)).trans s99
            have s128 := (xq122.2.2.2.2.2 m 42 (by rw [tm]; decide)).trans s100
            have s129 := (xq122.2.2.2.2.2 m 43 (by rw [tm]; decide)).trans s101
            have s130 := (xq122.2.2.2.2.2 m 44 (by rw [tm]; decide)).trans s102
            have s131 := (xq122.2.2.2.2.2 m 18 (by rw [tm]; decide)).trans s103
            have s132 := (xq122.2.2.2.2.2 m 19 (by rw [tm]; decide)).trans s104
            have s133 := (xq122.2.2.2.2.2 m 21 (by rw [tm]; decide)).trans s105
            have s134 := (xq122.2.2.2.2.2 m 22 (by rw [tm]; decide)).trans s106
            have s135 := (xq122.2.2.2.2.2 m 20 (by rw [tm]; decide)).trans s107
            have s136 := (xq122.2.2.2.2.2 m 46 (by rw [tm]; decide)).trans efq94_2
            have pr137 := gPic.fr xq122.2 (by decide) pr108
            have pr138 := gSb.fr xq122.2 (by decide) pr109
            have pr139 := gEl.fr xq122.2 (by decide) (fun _ => rfl) pr110
            have pr140 := gEl.fr xq122.2 (by decide) (fun _ => rfl) pr111
            have pr141 := gEl.fr xq122.2 (by decide) (fun _ => rfl) pr112
            have pr142 := gEl.fr xq122.2 (by decide) (fun _ => rfl) pr113
            have pr143 := gEl.fr xq122.2 (by decide) (fun _ => rfl) pr114
            have pr144 := gEl.fr xq122.2 (by decide) (fun _ => rfl) pr115
            have pr145 := gEl.fr xq122.2 (by decide) (fun _ => rfl) pr116
            have pr146 := gEl.fr xq122.2 (by decide) (fun _ => rfl) pr117
            have pr147 := gEl.fr xq122.2 (by decide) (fun _ => rfl) pr118
            have pr148 := gEl.fr xq122.2 (by decide) (fun _ => rfl) pr119
            have pr149 := gEl.fr xq122.2 (by decide) (fun _ => rfl) pr120
            refine gz_s 4 (pc' := 81) (L' := [some (.ref m), some (.int (zi zq31)), some (.int (zi uu)), some (.int (zi fq94_2)), some (.int (zi zq122))]) (S' := [.int (zi zq122), .int (zi uu), .ref m]) rfl ?_
            refine gz_call rfl (by decide) rfl (by decide) (by decide) (gcal_of rfl rfl rfl (Nat.le_of_ble_eq_true rfl) (gJ.recv (G := gGG) sq122.1 tm rfl rfl)) (mm_hurtUnits _ sq122.1 m tm uu (by omega) zq122 (by omega) sb s125 (by omega) w s131 (by omega) hh s132 (by omega) wd s133 (by omega) hg s134 (by omega) bs s135 (by omega) b0 (by omega) oc0 (by omega) orr0 (by omega) (by omega) (by omega) (by omega) (by omega) (by omega) (by omega) pr139 pr146 pr147 pr137 pr138) (fun q150 _ wq150 => ?_)
            obtain ⟨pq150, oq150, hq150⟩ := q150
            obtain ⟨xq150, gq150⟩ := wq150
            refine ⟨_, gq150, ?_⟩
            show gz gPP gGG gcn _ _ 84 [some (.ref m), some (.int (zi zq31)), some (.int (zi uu)), some (.int (zi fq94_2)), some (.int (zi zq122))] [] hq150 _
            have sq150 := gSs.tr sq122 xq150 (by decide)
            have s151 := (xq150.2.2.2.2.2 m 3 (by rw [tm]; decide)).trans s123
            have s152 := (xq150.2.2.2.2.2 m 8 (by rw [tm]; decide)).trans s124
            have s153 := (xq150.2.2.2.2.2 m 39 (by rw [tm]; decide)).trans s125
            have s154 := (xq150.2.2.2.2.2 m 17 (by rw [tm]; decide)).trans s126
            have s155 := (xq150.2.2.2.2.2 m 41 (by rw [tm]; decide)).trans s127
            have s156 := (xq150.2.2.2.2.2 m 42 (by rw [tm]; decide)).trans s128
            have s157 := (xq150.2.2.2.2.2 m 43 (by rw [tm]; decide)).trans s129
            have s158 := (xq150.2.2.2.2.2 m 44 (by rw [tm]; decide)).trans s130
            have s159 := (xq150.2.2.2.2.2 m 18 (by rw [tm]; decide)).trans s131
            have s160 := (xq150.2.2.2.2.2 m 19 (by rw [tm]; decide)).trans s132
            have s161 := (xq150.2.2.2.2.2 m 21 (by rw [tm]; decide)).trans s133
            have s162 := (xq150.2.2.2.2.2 m 22 (by rw [tm]; decide)).trans s134
            have s163 := (xq150.2.2.2.2.2 m 20 (by rw [tm]; decide)).trans s135
            have s164 := (xq150.2.2.2.2.2 m 46 (by rw [tm]; decide)).trans s136
            have s165 := (xq150.2.2.2.2.2 m 47 (by rw [tm]; decide)).trans efq122_0
            have s166 := (xq150.2.2.2.2.2 m 48 (by rw [tm]; decide)).trans efq122_1
            have pr167 := gPic.fr xq150.2 (by decide) pr137
            have pr168 := gSb.fr xq150.2 (by decide) pr138
            have pr169 := gEl.fr xq150.2 (by decide) (fun _ => rfl) pr139
            have pr170 := gEl.fr xq150.2 (by decide) (fun _ => rfl) pr140
            have pr171 := gEl.fr xq150.2 (by decide) (fun _ => rfl) pr141
            have pr172 := gEl.fr xq150.2 (by decide) (fun _ => rfl) pr142
            have pr173 := gEl.fr xq150.2 (by decide) (fun _ => rfl) pr143
            have pr174 := gEl.fr xq150.2 (by decide) (fun _ => rfl) pr144
            have pr175 := gEl.fr xq150.2 (by decide) (fun _ => rfl) pr145
            have pr176 := gEl.fr xq150.2 (by decide) (fun _ => rfl) pr146
            have pr177 := gEl.fr xq150.2 (by decide) (fun _ => rfl) pr147
            have pr178 := gEl.fr xq150.2 (by decide) (fun _ => rfl) pr148
            have pr179 := gEl.fr xq150.2 (by decide) (fun _ => rfl) pr149
            refine gz_s 1 (pc' := 85) (L' := [some (.ref m), some (.int (zi zq31)), some (.int (zi uu)), some (.int (zi fq94_2)), some (.int (zi zq122))]) (S' := [.ref m]) rfl ?_
            refine gz_call rfl (by decide) rfl (by decide) (by decide) (gcal_of rfl rfl rfl (Nat.le_of_ble_eq_true rfl) (gJ.recv (G := gGG) sq150.1 tm rfl rfl)) (mm_begin _ sq150.1 m tm ) (fun q180 _ wq180 => ?_)
            obtain ⟨pq180, oq180, hq180⟩ := q180
            obtain ⟨xq180, gq180⟩ := wq180
            refine ⟨_, gq180, ?_⟩
            show gz gPP gGG gcn _ _ 88 [some (.ref m), some (.int (zi zq31)), some (.int (zi uu)), some (.int (zi fq94_2)), some (.int (zi zq122))] [] hq180 _
            have sq180 := gSs.tr sq150 xq180 (by decide)
            have s181 := (xq180.2.2.2.2.2 m 3 (by rw [tm]; decide)).trans s151
            have s182 := (xq180.2.2.2.2.2 m 8 (by rw [tm]; decide)).trans s152
            have s183 := (xq180.2.2.2.2.2 m 39 (by rw [tm]; decide)).trans s153
            have s184 := (xq180.2.2.2.2.2 m 17 (by rw [tm]; decide)).trans s154
            have s185 := (xq180.2.2.2.2.2 m 41 (by rw [tm]; decide)).trans s155
            have s186 := (xq180.2.2.2.2.2 m 42 (by rw [tm]; decide)).trans s156
            have s187 := (xq180.2.2.2.2.2 m 43 (by rw [tm]; decide)).trans s157
            have s188 := (xq180.2.2.2.2.2 m 44 (by rw [tm]; decide)).trans s158
            have s189 := (xq180.2.2.2.2.2 m 18 (by rw [tm]; decide)).trans s159
            have s190 := (xq180.2.2.2.2.2 m 19 (by rw [tm]; decide)).trans s160
            have s191 := (xq180.2.2.2.2.2 m 21 (by rw [tm]; decide)).trans s161
            have s192 := (xq180.2.2.2.2.2 m 22 (by rw [tm]; decide)).trans s162
            have s193 := (xq180.2.2.2.2.2 m 20 (by rw [tm]; decide)).trans s163
            have s194 := (xq180.2.2.2.2.2 m 46 (by rw [tm]; decide)).trans s164
            have s195 := (xq180.2.2.2.2.2 m 47 (by rw [tm]; decide)).trans s165
            have s196 := (xq180.2.2.2.2.2 m 48 (by rw [tm]; decide)).trans s166
            have pr197 := gPic.fr xq180.2 (by decide) pr167
            have pr198 := gSb.fr xq180.2 (by decide) pr168
            have pr199 := gEl.fr xq180.2 (by decide) (fun _ => rfl) pr169
            have pr200 := gEl.fr xq180.2 (by decide) (fun _ => rfl) pr170
            have pr201 := gEl.fr xq180.2 (by decide) (fun _ => rfl) pr171
            have pr202 := gEl.fr xq180.2 (by decide) (fun _ => rfl) pr172
            have pr203 := gEl.fr xq180.2 (by decide) (fun _ => rfl) pr173
            have pr204 := gEl.fr xq180.2 (by decide) (fun _ => rfl) pr174
            have pr205 := gEl.fr xq180.2 (by decide) (fun _ => rfl) pr175
            have pr206 := gEl.fr xq180.2 (by decide) (fun _ => rfl) pr176
            have pr207 := gEl.fr xq180.2 (by decide) (fun _ => rfl) pr177
            have pr208 := gEl.fr xq180.2 (by decide) (fun _ => rfl) pr178
            have pr209 := gEl.fr xq180.2 (by decide) (fun _ => rfl) pr179
            refine gz_s 3 (pc' := 13) (L' := [some (.ref m), some (.int (zi zq31)), some (.int (zi zq122)), some (.int (zi fq94_2)), some (.int (zi zq122))]) (S' := []) rfl ?_
            exact gz_wk (ihlp61 hq180 zq122 fq94_2 fq122_0 fq122_1 fq94_2 (by omega) sq180 (by omega) (by omega) (by omega) (by omega) (by omega) (by omega) (by omega) s181 s182 s183 s184 s185 s186 s187 s188 s189 s190 s191 s192 s193 s195 s196 s194 pr197 pr198 pr199 pr200 pr201 pr202 pr203 pr204 pr205 pr206 pr207 pr208 pr209) (gLw.s (gLw.s (gLw.s (gLw.s (gLw.n gLw.z)))))
        · refine gy_ifF rfl (by decide) (by decide) (by omega) hc93 ?_
          refine gz_s 1 (pc' := 31) (L' := [some (.ref m), some (.int (zi zq31)), some (.int (zi uu)), some (.int (zi jp)), none]) (S' := [.int (zi uu)]) rfl ?_
          by_cases hc210 : (uu : Int) ≤ 0
          · refine gy_ifT (pc' := 52) rfl (by decide) (by decide) (by omega) hc210 ?_
            refine gz_s 2 (pc' := 54) (L' := [some (.ref m), some (.int (zi zq31)), some (.int (zi uu)), some (.int (zi jp)), none]) (S' := [.int (zi uu), .ref m]) rfl ?_
            refine gz_call rfl (by decide) rfl (by decide) (by decide) (gcal_of rfl rfl rfl (Nat.le_of_ble_eq_true rfl) (gJ.recv (G := gGG) sh64.1 tm rfl rfl)) (mm_readUnit _ sh64.1 m tm uu (by omega) av s91 (by omega) kv s92 (by omega) sz s78 (by omega) 0 eh64 (by omega) sb s80 (by omega) by1 s81 (by omega) fr s82 (by omega) tt s83 (by omega) ab s84 (by omega) lw s85 (by omega) w s86 (by omega) hh s87 (by omega) wd s88 (by omega) hg s89 (by omega) bs s90 (by omega) b0 (by omega) oc0 (by omega) orr0 (by omega) (by omega) (by omega) (by omega) (by omega) (by omega) (by omega) (by omega) (by omega) pr67 pr74 pr75 pr65 pr66) (fun q211 _ wq211 => ?_)
            obtain ⟨pq211, oq211, hq211⟩ := q211
            obtain ⟨xq211, fq211_0, fq211_1, fq211_2, gq211, efq211_0, afq211_0, bfq211_0, efq211_1, afq211_1, bfq211_1, efq211_2, afq211_2, bfq211_2, uq211_0, uq211_1, uq211_2⟩ := wq211
            refine ⟨_, gq211, ?_⟩
            show gz gPP gGG gcn _ _ 57 [some (.ref m), some (.int (zi zq31)), some (.int (zi uu)), some (.int (zi jp)), none] [] hq211 _
            have sq211 := gSs.tr sh64 xq211 (by decide)
            have s212 := (xq211.2.2.2.2.2 m 3 (by rw [tm]; decide)).trans s78
            have s213 := (xq211.2.2.2.2.2 m 8 (by rw [tm]; decide)).trans s79
            have s214 := (xq211.2.2.2.2.2 m 39 (by rw [tm]; decide)).trans s80
            have s215 := (xq211.2.2.2.2.2 m 17 (by rw [tm]; decide)).trans s81
            have s216 := (xq211.2.2.2.2.2 m 41 (by rw [tm]; decide)).trans s82
            have s217 := (xq211.2.2.2.2.2 m 42 (by rw [tm]; decide)).trans s83
            have s218 := (xq211.2.2.2.2.2 m 43 (by rw [tm]; decide)).trans s84
            have s219 := (xq211.2.2.2.2.2 m 44 (by rw [tm]; decide)).trans s85
            have s220 := (xq211.2.2.2.2.2 m 18 (by rw [tm]; decide)).trans s86
            have s221 := (xq211.2.2.2.2.2 m 19 (by rw [tm]; decide)).trans s87
            have s222 := (xq211.2.2.2.2.2 m 21 (by rw [tm]; decide)).trans s88
            have s223 := (xq211.2.2.2.2.2 m 22 (by rw [tm]; decide)).trans s89
            have s224 := (xq211.2.2.2.2.2 m 20 (by rw [tm]; decide)).trans s90
            have pr225 := gPic.fr xq211.2 (by decide) pr65
            have pr226 := gSb.fr xq211.2 (by decide) pr66
            have pr227 := gEl.fr xq211.2 (by decide) (fun _ => rfl) pr67
            have pr228 := gEl.fr xq211.2 (by decide) (fun _ => rfl) pr68
            have pr229 := gEl.fr xq211.2 (by decide) (fun _ => rfl) pr69
            have pr230 := gEl.fr xq211.2 (by decide) (fun _ => rfl) pr70
            have pr231 := gEl.fr xq211.2 (by decide) (fun _ => rfl) pr71
            have pr232 := gEl.fr xq211.2 (by decide) (fun _ => rfl) pr72
            have pr233 := gEl.fr xq211.2 (by decide) (fun _ => rfl) pr73
            have pr234 := gEl.fr xq211.2 (by decide) (fun _ => rfl) pr74
            have pr235 := gEl.fr xq211.2 (by decide) (fun _ => rfl) pr75
            have pr236 := gEl.fr xq211.2 (by decide) (fun _ => rfl) pr76
            have pr237 := gEl.fr xq211.2 (by decide) (fun _ => rfl) pr77
            refine gz_s 1 (pc' := 58) (L' := [some (.ref m), some (.int (zi zq31)), some (.int (zi uu)), some (.int (zi jp)), none]) (S' := [.ref m]) rfl ?_
            refine gs_gtk rfl (by decide) rfl sq211.1 tm rfl rfl efq211_2 ?_
            refine gz_s 2 (pc' := 63) (L' := [some (.ref m), some (.int (zi zq31)), some (.int (zi uu)), some (.int (zi fq211_2)), none]) (S' := [.ref m]) rfl ?_
            refine gs_gtk rfl (by decide) rfl sq211.1 tm rfl rfl efq211_2 ?_
            by_cases hc238 : (fq211_2 : Int) = 0
            · refine gy_ifT (pc' := 94) rfl (by decide) (by decide) (by omega) hc238 ?_
              refine gy_s 2 (pc' := 13) (L' := [some (.ref m), some (.int (zi zq31)), some (.int ((zi uu) + zi 1)), some (.int (zi fq211_2)), none]) (S' := []) (L2 := [some (.ref m), some (.int (zi zq31)), some (.int (zi (uu + 1))), some (.int (zi fq211_2)), none]) (S2 := []) rfl (by simp only [zi_add, zi_sub, zi_mul, zi_neg, zi_and1, zi_and7, zi_and15, zi_and31, zi_and255]) (by simp only [zi_add, zi_sub, zi_mul, zi_neg, zi_and1, zi_and7, zi_and15, zi_and31, zi_and255]) ?_
              exact gz_wk (ihlp61 hq211 (uu + 1) fq211_2 fq211_0 fq211_1 fq211_2 (by omega) sq211 (by omega) (by omega) (by omega) (by omega) (by omega) (by omega) (by omega) s212 s213 s214 s215 s216 s217 s218 s219 s220 s221 s222 s223 s224 efq211_0 efq211_1 efq211_2 pr225 pr226 pr227 pr228 pr229 pr230 pr231 pr232 pr233 pr234 pr235 pr236 pr237) (gLw.s (gLw.s (gLw.s (gLw.s (gLw.n gLw.z)))))
            · refine gy_ifF rfl (by decide) (by decide) (by omega) hc238 ?_
              refine gz_s 3 (pc' := 72) (L' := [some (.ref m), some (.int (zi zq31)), some (.int (zi uu)), some (.int (zi fq211_2)), none]) (S' := [.int (zi zq31), .int (zi uu), .ref m]) rfl ?_
              refine gz_call rfl (by decide) rfl (by decide) (by decide) (gcal_of rfl rfl rfl (Nat.le_of_ble_eq_true rfl) (gJ.recv (G := gGG) sq211.1 tm rfl rfl)) (mm_goOn _ sq211.1 m tm uu (by omega) zq31 (by omega) fq211_0 efq211_0 (by omega) fq211_1 efq211_1 (by omega) sz s212 (by omega) iv s213 (by omega) (by omega) (by omega)) (fun q239 _ wq239 => ?_)
              obtain ⟨pq239, oq239, hq239⟩ := q239
              obtain ⟨xq239, zq239, fq239_0, fq239_1, gq239, aq239, bq239, efq239_0, afq239_0, bfq239_0, efq239_1, afq239_1, bfq239_1, uq239_0, uq239_1, uq239_2, uq239_3⟩ := wq239
              refine ⟨_, gq239, ?_⟩
              show gz gPP gGG gcn _ _ 75 [some (.ref m), some (.int (zi zq31)), some (.int (zi uu)), some (.int (zi fq211_2)), none] [.int (zi zq239)] hq239 _
              have sq239 := gSs.tr sq211 xq239 (by decide)
              have s240 := (xq239.2.2.2.2.2 m 3 (by rw [tm]; decide)).trans s212
              have s241 := (xq239.2.2.2.2.2 m 8 (by rw [tm]; decide)).trans s213
              have s242 := (xq239.2.2.2.2.2 m 39 (by rw [tm]; decide)).trans s214
              have s243 := (xq239.2.2.2.2.2 m 17 (by rw [tm]; decide)).trans s215
              have s244 := (xq239.2.2.2.2.2 m 41 (by rw [tm]; decide)).trans s216
              have s245 := (xq239.2.2.2.2.2 m 42 (by rw [tm]; decide)).trans s217
              have s246 := (xq239.2.2.2.2.2 m 43 (by rw [tm]; decide)).trans s218
              have s247 := (xq239.2.2.2.2.2 m 44 (by rw [tm]; decide)).trans s219
              have s248 := (xq239.2.2.2.2.2 m 18 (by rw [tm]; decide)).trans s220
              have s249 := (xq239.2.2.2.2.2 m 19 (by rw [tm]; decide)).trans s221
              have s250 := (xq239.2.2.2.2.2 m 21 (by rw [tm]; decide)).trans s222
              have s251 := (xq239.2.2.2.2.2 m 22 (by rw [tm]; decide)).trans s223
              have s252 := (xq239.2.2.2.2.2 m 20 (by rw [tm]; decide)).trans s224
              have s253 := (xq239.2.2.2.2.2 m 46 (by rw [tm]; decide)).trans efq211_2
              have pr254 := gPic.fr xq239.2 (by decide) pr225
              have pr255 := gSb.fr xq239.2 (by decide) pr226
              have pr256 := gEl.fr xq239.2 (by decide) (fun _ => rfl) pr227
              have pr257 := gEl.fr xq239.2 (by decide) (fun _ => rfl) pr228
              have pr258 := gEl.fr xq239.2 (by decide) (fun _ => rfl) pr229
              have pr259 := gEl.fr xq239.2 (by decide) (fun _ => rfl) pr230
              have pr260 := gEl.fr xq239.2 (by decide) (fun _ => rfl) pr231
              have pr261 := gEl.fr xq239.2 (by decide) (fun _ => rfl) pr232
              have pr262 := gEl.fr xq239.2 (by decide) (fun _ => rfl) pr233
              have pr263 := gEl.fr xq239.2 (by decide) (fun _ => rfl) pr234
              have pr264 := gEl.fr xq239.2 (by decide) (fun _ => rfl) pr235
              have pr265 := gEl.fr xq239.2 (by decide) (fun _ => rfl) pr236
              have pr266 := gEl.fr xq239.2 (by decide) (fun _ => rfl) pr237
              refine gz_s 4 (pc' := 81) (L' := [some (.ref m), some (.int (zi zq31)), some (.int (zi uu)), some (.int (zi fq211_2)), some (.int (zi zq239))]) (S' := [.int (zi zq239), .int (zi uu), .ref m]) rfl ?_
              refine gz_call rfl (by decide) rfl (by decide) (by decide) (gcal_of rfl rfl rfl (Nat.le_of_ble_eq_true rfl) (gJ.recv (G := gGG) sq239.1 tm rfl rfl)) (mm_hurtUnits _ sq239.1 m tm uu (by omega) zq239 (by omega) sb s242 (by omega) w s248 (by omega) hh s249 (by omega) wd s250 (by omega) hg s251 (by omega) bs s252 (by omega) b0 (by omega) oc0 (by omega) orr0 (by omega) (by omega) (by omega) (by omega) (by omega) (by omega) (by omega) pr256 pr263 pr264 pr254 pr255) (fun q267 _ wq267 => ?_)
              obtain ⟨pq267, oq267, hq267⟩ := q267
              obtain ⟨xq267, gq267⟩ := wq267
              refine ⟨_, gq267, ?_⟩
              show gz gPP gGG gcn _ _ 84 [some (.ref m), some (.int (zi zq31)), some (.int (zi uu)), some (.int (zi fq211_2)), some (.int (zi zq239))] [] hq267 _
              have sq267 := gSs.tr sq239 xq267 (by decide)
              have s268 := (xq267.2.2.2.2.2 m 3 (by rw [tm]; decide)).trans s240
              have s269 := (xq267.2.2.2.2.2 m 8 (by rw [tm]; decide)).trans s241
              have s270 := (xq267.2.2.2.2.2 m 39 (by rw [tm]; decide)).trans s242
              have s271 := (xq267.2.2.2.2.2 m 17 (by rw [tm]; decide)).trans s243
              have s272 := (xq267.2.2.2.2.2 m 41 (by rw [tm]; decide)).trans s244
              have s273 := (xq267.2.2.2.2.2 m 42 (by rw [tm]; decide)).trans s245
              have s274 := (xq267.2.2.2.2.2 m 43 (by rw [tm]; decide)).trans s246
              have s275 := (xq267.2.2.2.2.2 m 44 (by rw [tm]; decide)).trans s247
              have s276 := (xq267.2.2.2.2.2 m 18 (by rw [tm]; decide)).trans s248
              have s277 := (xq267.2.2.2.2.2 m 19 (by rw [tm]; decide)).trans s249
              have s278 := (xq267.2.2.2.2.2 m 21 (by rw [tm]; decide)).trans s250
              have s279 := (xq267.2.2.2.2.2 m 22 (by rw [tm]; decide)).trans s251
              have s280 := (xq267.2.2.2.2.2 m 20 (by rw [tm]; decide)).trans s252
              have s281 := (xq267.2.2.2.2.2 m 46 (by rw [tm]; decide)).trans s253
              have s282 := (xq267.2.2.2.2.2 m 47 (by rw [tm]; decide)).trans efq239_0
              have s283 := (xq267.2.2.2.2.2 m 48 (by rw [tm]; decide)).trans efq239_1
              have pr284 := gPic.fr xq267.2 (by decide) pr254
              have pr285 := gSb.fr xq267.2 (by decide) pr255
              have pr286 := gEl.fr xq267.2 (by decide) (fun _ => rfl) pr256
              have pr287 := gEl.fr xq267.2 (by decide) (fun _ => rfl) pr257
              have pr288 := gEl.fr xq267.2 (by decide) (fun _ => rfl) pr258
              have pr289 := gEl.fr xq267.2 (by decide) (fun _ => rfl) pr259
              have pr290 := gEl.fr xq267.2 (by decide) (fun _ => rfl) pr260
              have pr291 := gEl.fr xq267.2 (by decide) (fun _ => rfl) pr261
              have pr292 := gEl.fr xq267.2 (by decide) (fun _ => rfl) pr262
              have pr293 := gEl.fr xq267.2 (by decide) (fun _ => rfl) pr263
              have pr294 := gEl.fr xq267.2 (by decide) (fun _ => rfl) pr264
              have pr295 := gEl.fr xq267.2 (by decide) (fun _ => rfl) pr265
              have pr296 := gEl.fr xq267.2 (by decide) (fun _ => rfl) pr266
              refine gz_s 1 (pc' := 85) (L' := [some (.ref m), some (.int (zi zq31)), some (.int (zi uu)), some (.int (zi fq211_2)), some (.int (zi zq239))]) (S' := [.ref m]) rfl ?_
              refine gz_call rfl (by decide) rfl (by decide) (by decide) (gcal_of rfl rfl rfl (Nat.le_of_ble_eq_true rfl) (gJ.recv (G := gGG) sq267.1 tm rfl rfl)) (mm_begin _ sq267.1 m tm ) (fun q297 _ wq297 => ?_)
              obtain ⟨pq297, oq297, hq297⟩ := q297
              obtain ⟨xq297, gq297⟩ := wq297
              refine ⟨_, gq297, ?_⟩
              show gz gPP gGG gcn _ _ 88 [some (.ref m), some (.int (zi zq31)), some (.int (zi uu)), some (.int (zi fq211_2)), some (.int (zi zq239))] [] hq297 _
              have sq297 := gSs.tr sq267 xq297 (by decide)
              have s298 := (xq297.2.2.2.2.2 m 3 (by rw [tm]; decide)).trans s268
              have s299 := (xq297.2.2.2.2.2 m 8 (by rw [tm]; decide)).trans s269
              have s300 := (xq297.2.2.2.2.2 m 39 (by rw [tm]; decide)).trans s270
              have s301 := (xq297.2.2.2.2.2 m 17 (by rw [tm]; decide)).trans s271
              have s302 := (xq297.2.2.2.2.2 m 41 (by rw [tm]; decide)).trans s272
              have s303 := (xq297.2.2.2.2.2 m 42 (by rw [tm]; decide)).trans s273
              have s304 := (xq297.2.2.2.2.2 m 43 (by rw [tm]; decide)).trans s274
              have s305 := (xq297.2.2.2.2.2 m 44 (by rw [tm]; decide)).trans s275
              have s306 := (xq297.2.2.2.2.2 m 18 (by rw [tm]; decide)).trans s276
              have s307 := (xq297.2.2.2.2.2 m 19 (by rw [tm]; decide)).trans s277
              have s308 := (xq297.2.2.2.2.2 m 21 (by rw [tm]; decide)).trans s278
              have s309 := (xq297.2.2.2.2.2 m 22 (by rw [tm]; decide)).trans s279
              have s310 := (xq297.2.2.2.2.2 m 20 (by rw [tm]; decide)).trans s280
              have s311 := (xq297.2.2.2.2.2 m 46 (by rw [tm]; decide)).trans s281
              have s312 := (xq297.2.2.2.2.2 m 47 (by rw [tm]; decide)).trans s282
              have s313 := (xq297.2.2.2.2.2 m 48 (by rw [tm]; decide)).trans s283
              have pr314 := gPic.fr xq297.2 (by decide) pr284
              have pr315 := gSb.fr xq297.2 (by decide) pr285
              have pr316 := gEl.fr xq297.2 (by decide) (fun _ => rfl) pr286
              have pr317 := gEl.fr xq297.2 (by decide) (fun _ => rfl) pr287
              have pr318 := gEl.fr xq297.2 (by decide) (fun _ => rfl) pr288
              have pr319 := gEl.fr xq297.2 (by decide) (fun _ => rfl) pr289
              have pr320 := gEl.fr xq297.2 (by decide) (fun _ => rfl) pr290
              have pr321 := gEl.fr xq297.2 (by decide) (fun _ => rfl) pr291
              have pr322 := gEl.fr xq297.2 (by decide) (fun _ => rfl) pr292
              have pr323 := gEl.fr xq297.2 (by decide) (fun _ => rfl) pr293
              have pr324 := gEl.fr xq297.2 (by decide) (fun _ => rfl) pr294
              have pr325 := gEl.fr xq297.2 (by decide) (fun _ => rfl) pr295
              have pr326 := gEl.fr xq297.2 (by decide) (fun _ => rfl) pr296
              refine gz_s 3 (pc' := 13) (L' := [some (.ref m), some (.int (zi zq31)), some (.int (zi zq239)), some (.int (zi fq211_2)), some (.int (zi zq239))]) (S' := []) rfl ?_
              exact gz_wk (ihlp61 hq297 zq239 fq211_2 fq239_0 fq239_1 fq211_2 (by omega) sq297 (by omega) (by omega) (by omega) (by omega) (by omega) (by omega) (by omega) s298 s299 s300 s301 s302 s303 s304 s305 s306 s307 s308 s309 s310 s312 s313 s311 pr314 pr315 pr316 pr317 pr318 pr319 pr320 pr321 pr322 pr323 pr324 pr325 pr326) (gLw.s (gLw.s (gLw.s (gLw.s (gLw.n gLw.z)))))
          · refine gy_ifF rfl (by decide) (by decide) (by omega) hc210 ?_
            refine gz_s 2 (pc' := 36) (L' := [some (.ref m), some (.int (zi zq31)), some (.int (zi uu)), some (.int (zi jp)), none]) (S' := [.ref m, .int (zi uu)]) rfl ?_
            refine gs_gtk rfl (by decide) rfl sh64.1 tm rfl rfl s79 ?_
            refine gy_rem rfl (by decide) (by omega) (by omega) ?_
            have hd327 := zm_f (x := uu) (y := iv) (by omega) (by omega)
            by_cases hc328 : ¬ (uu % iv : Int) = 0
            · refine gy_ifT (pc' := 52) rfl (by decide) (by decide) (by omega) hc328 ?_
              refine gz_s 2 (pc' := 54) (L' := [some (.ref m), some (.int (zi zq31)), some (.int (zi uu)), some (.int (zi jp)), none]) (S' := [.int (zi uu), .ref m]) rfl ?_
              refine gz_call rfl (by decide) rfl (by decide) (by decide) (gcal_of rfl rfl rfl (Nat.le_of_ble_eq_true rfl) (gJ.recv (G := gGG) sh64.1 tm rfl rfl)) (mm_readUnit _ sh64.1 m tm uu (by omega) av s91 (by omega) kv s92 (by omega) sz s78 (by omega) 0 eh64 (by omega) sb s80 (by omega) by1 s81 (by omega) fr s82 (by omega) tt s83 (by omega) ab s84 (by omega) lw s85 (by omega) w s86 (by omega) hh s87 (by omega) wd s88 (by omega) hg s89 (by omega) bs s90 (by omega) b0 (by omega) oc0 (by omega) orr0 (by omega) (by omega) (by omega) (by omega) (by omega) (by omega) (by omega) (by omega) (by omega) pr67 pr74 pr75 pr65 pr66) (fun q329 _ wq329 => ?_)
              obtain ⟨pq329, oq329, hq329⟩ := q329
              obtain ⟨xq329, fq329_0, fq329_1, fq329_2, gq329, efq329_0, afq329_0, bfq329_0, efq329_1, afq329_1, bfq329_1, efq329_2, afq329_2, bfq329_2, uq329_0, uq329_1, uq329_2⟩ := wq329
              refine ⟨_, gq329, ?_⟩
              show gz gPP gGG gcn _ _ 57 [some (.ref m), some (.int (zi zq31)), some (.int (zi uu)), some (.int (zi jp)), none] [] hq329 _
              have sq329 := gSs.tr sh64 xq329 (by decide)
              have s330 := (xq329.2.2.2.2.2 m 3 (by rw [tm]; decide)).trans s78
              have s331 := (xq329.2.2.2.2.2 m 8 (by rw [tm]; decide)).trans s79
              have s332 := (xq329.2.2.2.2.2 m 39 (by rw [tm]; decide)).trans s80
              have s333 := (xq329.2.2.2.2.2 m 17 (by rw [tm]; decide)).trans s81
              have s334 := (xq329.2.2.2.2.2 m 41 (by rw [tm]; decide)).trans s82
              have s335 := (xq329.2.2.2.2.2 m 42 (by rw [tm]; decide)).trans s83
              have s336 := (xq329.2.2.2.2.2 m 43 (by rw [tm]; decide)).trans s84
              have s337 := (xq329.2.2.2.2.2 m 44 (by rw [tm]; decide)).trans s85
              have s338 := (xq329.2.2.2.2.2 m 18 (by rw [tm]; decide)).trans s86
              have s339 := (xq329.2.2.2.2.2 m 19 (by rw [tm]; decide)).trans s87
              have s340 := (xq329.2.2.2.2.2 m 21 (by rw [tm]; decide)).trans s88
              have s341 := (xq329.2.2.2.2.2 m 22 (by rw [tm]; decide)).trans s89
              have s342 := (xq329.2.2.2.2.2 m 20 (by rw [tm]; decide)).trans s90
              have pr343 := gPic.fr xq329.2 (by decide) pr65
              have pr344 := gSb.fr xq329.2 (by decide) pr66
              have pr345 := gEl.fr xq329.2 (by decide) (fun _ => rfl) pr67
              have pr346 := gEl.fr xq329.2 (by decide) (fun _ => rfl) pr68
              have pr347 := gEl.fr xq329.2 (by decide) (fun _ => rfl) pr69
              have pr348 := gEl.fr xq329.2 (by decide) (fun _ => rfl) pr70
              have pr349 := gEl.fr xq329.2 (by decide) (fun _ => rfl) pr71
              have pr350 := gEl.fr xq329.2 (by decide) (fun _ => rfl) pr72
              have pr351 := gEl.fr xq329.2 (by decide) (fun _ => rfl) pr73
              have pr352 := gEl.fr xq329.2 (by decide) (fun _ => rfl) pr74
              have pr353 := gEl.fr xq329.2 (by decide) (fun _ => rfl) pr75
              have pr354 := gEl.fr xq329.2 (by decide) (fun _ => rfl) pr76
              have pr355 := gEl.fr xq329.2 (by decide) (fun _ => rfl) pr77
              refine gz_s 1 (pc' := 58) (L' := [some (.ref m), some (.int (zi zq31)), some (.int (zi uu)), some (.int (zi jp)), none]) (S' := [.ref m]) rfl ?_
              refine gs_gtk rfl (by decide) rfl sq329.1 tm rfl rfl efq329_2 ?_
              refine gz_s 2 (pc' := 63) (L' := [some (.ref m), some (.int (zi zq31)), some (.int (zi uu)), some (.int (zi fq329_2)), none]) (S' := [.ref m]) rfl ?_
              refine gs_gtk rfl (by decide) rfl sq329.1 tm rfl rfl efq329_2 ?_
              by_cases hc356 : (fq329_2 : Int) = 0
              · refine gy_ifT (pc' := 94) rfl (by decide) (by decide) (by omega) hc356 ?_
                refine gy_s 2 (pc' := 13) (L' := [some (.ref m), some (.int (zi zq31)), some (.int ((zi uu) + zi 1)), some (.int (zi fq329_2)), none]) (S' := []) (L2 := [some (.ref m), some (.int (zi zq31)), some (.int (zi (uu + 1))), some (.int (zi fq329_2)), none]) (S2 := []) rfl (by simp only [zi_add, zi_sub, zi_mul, zi_neg, zi_and1, zi_and7, zi_and15, zi_and31, zi_and255]) (by simp only [zi_add, zi_sub, zi_mul, zi_neg, zi_and1, zi_and7, zi_and15, zi_and31, zi_and255]) ?_
                exact gz_wk (ihlp61 hq329 (uu + 1) fq329_2 fq329_0 fq329_1 fq329_2 (by omega) sq329 (by omega) (by omega) (by omega) (by omega) (by omega) (by omega) (by omega) s330 s331 s332 s333 s334 s335 s336 s337 s338 s339 s340 s341 s342 efq329_0 efq329_1 efq329_2 pr343 pr344 pr345 pr346 pr347 pr348 pr349 pr350 pr351 pr352 pr353 pr354 pr355) (gLw.s (gLw.s (gLw.s (gLw.s (gLw.n gLw.z)))))
              · refine gy_ifF rfl (by decide) (by decide) (by omega) hc356 ?_
                refine gz_s 3 (pc' := 72) (L' := [some (.ref m), some (.int (zi zq31)), some (.int (zi uu)), some (.int (zi fq329_2)), none]) (S' := [.int (zi zq31), .int (zi uu), .ref m]) rfl ?_
                refine gz_call rfl (by decide) rfl (by decide) (by decide) (gcal_of rfl rfl rfl (Nat.le_of_ble_eq_true rfl) (gJ.recv (G := gGG) sq329.1 tm rfl rfl)) (mm_goOn _ sq329.1 m tm uu (by omega) zq31 (by omega) fq329_0 efq329_0 (by omega) fq329_1 efq329_1 (by omega) sz s330 (by omega) iv s331 (by omega) (by omega) (by omega)) (fun q357 _ wq357 => ?_)
                obtain ⟨pq357, oq357, hq357⟩ := q357
                obtain ⟨xq357, zq357, fq357_0, fq357_1, gq357, aq357, bq357, efq357_0, afq357_0, bfq357_0, efq357_1, afq357_1, bfq357_1, uq357_0, uq357_1, uq357_2, uq357_3⟩ := wq357
                refine ⟨_, gq357, ?_⟩
                show gz gPP gGG gcn _ _ 75 [some (.ref m), some (.int (zi zq31)), some (.int (zi uu)), some (.int (zi fq329_2)), none] [.int (zi zq357)] hq357 _
                have sq357 := gSs.tr sq329 xq357 (by decide)
                have s358 := (xq357.2.2.2.2.2 m 3 (by rw [tm]; decide)).trans s330
                have s359 := (xq357.2.2.2.2.2 m 8 (by rw [tm]; decide)).trans s331
                have s360 := (xq357.2.2.2.2.2 m 39 (by rw [tm]; decide)).trans s332
                have s361 := (xq357.2.2.2.2.2 m 17 (by rw [tm]; decide)).trans s333
                have s362 := (xq357.2.2.2.2.2 m 41 (by rw [tm]; decide)).trans s334
                have s363 := (xq357.2.2.2.2.2 m 42 (by rw [tm]; decide)).trans s335
                have s364 := (xq357.2.2.2.2.2 m 43 (by rw [tm]; decide)).trans s336
                have s365 := (xq357.2.2.2.2.2 m 44 (by rw [tm]; decide)).trans s337
                have s366 := (xq357.2.2.2.2.2 m 18 (by rw [tm]; decide)).trans s338
                have s367 := (xq357.2.2.2.2.2 m 19 (by rw [tm]; decide)).trans s339
                have s368 := (xq357.2.2.2.2.2 m 21 (by rw [tm]; decide)).trans s340
                have s369 := (xq357.2.2.2.2.2 m 22 (by rw [tm]; decide)).trans s341
                have s370 := (xq357.2.2.2.2.2 m 20 (by rw [tm]; decide)).trans s342
                have s371 := (xq357.2.2.2.2.2 m 46 (by rw [tm]; decide)).trans efq329_2
                have pr372 := gPic.fr xq357.2 (by decide) pr343
                have pr373 := gSb.fr xq357.2 (by decide) pr344
                have pr374 := gEl.fr xq357.2 (by decide) (fun _ => rfl) pr345
                have pr375 := gEl.fr xq357.2 (by decide) (fun _ => rfl) pr346
                have pr376 := gEl.fr xq357.2 (by decide) (fun _ => rfl) pr347
                have pr377 := gEl.fr xq357.2 (by decide) (fun _ => rfl) pr348
                have pr378 := gEl.fr xq357.2 (by decide) (fun _ => rfl) pr349
                have pr379 := gEl.fr xq357.2 (by decide) (fun _ => rfl) pr350
                have pr380 := gEl.fr xq357.2 (by decide) (fun _ => rfl) pr351
                have pr381 := gEl.fr xq357.2 (by decide) (fun _ => rfl) pr352
                have pr382 := gEl.fr xq357.2 (by decide) (fun _ => rfl) pr353
                have pr383 := gEl.fr xq357.2 (by decide) (fun _ => rfl) pr354
                have pr384 := gEl.fr xq357.2 (by decide) (fun _ => rfl) pr355
                refine gz_s 4 (pc' := 81) (L' := [some (.ref m), some (.int (zi zq31)), some (.int (zi uu)), some (.int (zi fq329_2)), some (.int (zi zq357))]) (S' := [.int (zi zq357), .int (zi uu), .ref m]) rfl ?_
                refine gz_call rfl (by decide) rfl (by decide) (by decide) (gcal_of rfl rfl rfl (Nat.le_of_ble_eq_true rfl) (gJ.recv (G := gGG) sq357.1 tm rfl rfl)) (mm_hurtUnits _ sq357.1 m tm uu (by omega) zq357 (by omega) sb s360 (by omega) w s366 (by omega) hh s367 (by omega) wd s368 (by omega) hg s369 (by omega) bs s370 (by omega) b0 (by omega) oc0 (by omega) orr0 (by omega) (by omega) (by omega) (by omega) (by omega) (by omega) (by omega) pr374 pr381 pr382 pr372 pr373) (fun q385 _ wq385 => ?_)
                obtain ⟨pq385, oq385, hq385⟩ := q385
                obtain ⟨xq385, gq385⟩ := wq385
                refine ⟨_, gq385, ?_⟩
                show gz gPP gGG gcn _ _ 84 [some (.ref m), some (.int (zi zq31)), some (.int (zi uu)), some (.int (zi fq329_2)), some (.int (zi zq357))] [] hq385 _
                have sq385 := gSs.tr sq357 xq385 (by decide)
                have s386 := (xq385.2.2.2.2.2 m 3 (by rw [tm]; decide)).trans s358
                have s387 := (xq385.2.2.2.2.2 m 8 (by rw [tm]; decide)).trans s359
                have s388 := (xq385.2.2.2.2.2 m 39 (by rw [tm]; decide)).trans s360
                have s389 := (xq385.2.2.2.2.2 m 17 (by rw [tm]; decide)).trans s361
                have s390 := (xq385.2.2.2.2.2 m 41 (by rw [tm]; decide)).trans s362
                have s391 := (xq385.2.2.2.2.2 m 42 (by rw [tm]; decide)).trans s363
                have s392 := (xq385.2.2.2.2.2 m 43 (by rw [tm]; decide)).trans s364
                have s393 := (xq385.2.2.2.2.2 m 44 (by rw [tm]; decide)).trans s365
                have s394 := (xq385.2.2.2.2.2 m 18 (by rw [tm]; decide)).trans s366
                have s395 := (xq385.2.2.2.2.2 m 19 (by rw [tm]; decide)).trans s367
                have s396 := (xq385.2.2.2.2.2 m 21 (by rw [tm]; decide)).trans s368
                have s397 := (xq385.2.2.2.2.2 m 22 (by rw [tm]; decide)).trans s369
                have s398 := (xq385.2.2.2.2.2 m 20 (by rw [tm]; decide)).trans s370
                have s399 := (xq385.2.2.2.2.2 m 46 (by rw [tm]; decide)).trans s371
                have s400 := (xq385.2.2.2.2.2 m 47 (by rw [tm]; decide)).trans efq357_0
                have s401 := (xq385.2.2.2.2.2 m 48 (by rw [tm]; decide)).trans efq357_1
                have pr402 := gPic.fr xq385.2 (by decide) pr372
                have pr403 := gSb.fr xq385.2 (by decide) pr373
                have pr404 := gEl.fr xq385.2 (by decide) (fun _ => rfl) pr374
                have pr405 := gEl.fr xq385.2 (by decide) (fun _ => rfl) pr375
                have pr406 := gEl.fr xq385.2 (by decide) (fun _ => rfl) pr376
                have pr407 := gEl.fr xq385.2 (by decide) (fun _ => rfl) pr377
                have pr408 := gEl.fr xq385.2 (by decide) (fun _ => rfl) pr378
                have pr409 := gEl.fr xq385.2 (by decide) (fun _ => rfl) pr379
                have pr410 := gEl.fr xq385.2 (by decide) (fun _ => rfl) pr380
                have pr411 := gEl.fr xq385.2 (by decide) (fun _ => rfl) pr381
                have pr412 := gEl.fr xq385.2 (by decide) (fun _ => rfl) pr382
                have pr413 := gEl.fr xq385.2 (by decide) (fun _ => rfl) pr383
                have pr414 := gEl.fr xq385.2 (by decide) (fun _ => rfl) pr384
                refine gz_s 1 (pc' := 85) (L' := [some (.ref m), some (.int (zi zq31)), some (.int (zi uu)), some (.int (zi fq329_2)), some (.int (zi zq357))]) (S' := [.ref m]) rfl ?_
                refine gz_call rfl (by decide) rfl (by decide) (by decide) (gcal_of rfl rfl rfl (Nat.le_of_ble_eq_true rfl) (gJ.recv (G := gGG) sq385.1 tm rfl rfl)) (mm_begin _ sq385.1 m tm ) (fun q415 _ wq415 => ?_)
                obtain ⟨pq415, oq415, hq415⟩ := q415
                obtain ⟨xq415, gq415⟩ := wq415
                refine ⟨_, gq415, ?_⟩
                show gz gPP gGG gcn _ _ 88 [some (.ref m), some (.int (zi zq31)), some (.int (zi uu)), some (.int (zi fq329_2)), some (.int (zi zq357))] [] hq415 _
                have sq415 := gSs.tr sq385 xq415 (by decide)
                have s416 := (xq415.2.2.2.2.2 m 3 (by rw [tm]; decide)).trans s386
                have s417 := (xq415.2.2.2.2.2 m 8 (by rw [tm]; decide)).trans s387
                have s418 := (xq415.2.2.2.2.2 m 39 (by rw [tm]; decide)).trans s388
                have s419 := (xq415.2.2.2.2.2 m 17 (by rw [tm]; decide)).trans s389
                have s420 := (xq415.2.2.2.2.2 m 41 (by rw [tm]; decide)).trans s390
                have s421 := (xq415.2.2.2.2.2 m 42 (by rw [tm]; decide)).trans s391
                have s422 := (xq415.2.2.2.2.2 m 43 (by rw [tm]; decide)).trans s392
                have s423 := (xq415.2.2.2.2.2 m 44 (by rw [tm]; decide)).trans s393
                have s424 := (xq415.2.2.2.2.2 m 18 (by rw [tm]; decide)).trans s394
                have s425 := (xq415.2.2.2.2.2 m 19 (by rw [tm]; decide)).trans s395
                have s426 := (xq415.2.2.2.2.2 m 21 (by rw [tm]; decide)).trans s396
                have s427 := (xq415.2.2.2.2.2 m 22 (by rw [tm]; decide)).trans s397
                have s428 := (xq415.2.2.2.2.2 m 20 (by rw [tm]; decide)).trans s398
                have s429 := (xq415.2.2.2.2.2 m 46 (by rw [tm]; decide)).trans s399
                have s430 := (xq415.2.2.2.2.2 m 47 (by rw [tm]; decide)).trans s400
                have s431 := (xq415.2.2.2.2.2 m 48 (by rw [tm]; decide)).trans s401
                have pr432 := gPic.fr xq415.2 (by decide) pr402
                have pr433 := gSb.fr xq415.2 (by decide) pr403
                have pr434 := gEl.fr xq415.2 (by decide) (fun _ => rfl) pr404
                have pr435 := gEl.fr xq415.2 (by decide) (fun _ => rfl) pr405
                have pr436 := gEl.fr xq415.2 (by decide) (fun _ => rfl) pr406
                have pr437 := gEl.fr xq415.2 (by decide) (fun _ => rfl) pr407
                have pr438 := gEl.fr xq415.2 (by decide) (fun _ => rfl) pr408
                have pr439 := gEl.fr xq415.2 (by decide) (fun _ => rfl) pr409
                have pr440 := gEl.fr xq415.2 (by decide) (fun _ => rfl) pr410
                have pr441 := gEl.fr xq415.2 (by decide) (fun _ => rfl) pr411
                have pr442 := gEl.fr xq415.2 (by decide) (fun _ => rfl) pr412
                have pr443 := gEl.fr xq415.2 (by decide) (fun _ => rfl) pr413
                have pr444 := gEl.fr xq415.2 (by decide) (fun _ => rfl) pr414
                refine gz_s 3 (pc' := 13) (L' := [some (.ref m), some (.int (zi zq31)), some (.int (zi zq357)), some (.int (zi fq329_2)), some (.int (zi zq357))]) (S' := []) rfl ?_
                exact gz_wk (ihlp61 hq415 zq357 fq329_2 fq357_0 fq357_1 fq329_2 (by omega) sq415 (by omega) (by omega) (by omega) (by omega) (by omega) (by omega) (by omega) s416 s417 s418 s419 s420 s421 s422 s423 s424 s425 s426 s427 s428 s430 s431 s429 pr432 pr433 pr434 pr435 pr436 pr437 pr438 pr439 pr440 pr441 pr442 pr443 pr444) (gLw.s (gLw.s (gLw.s (gLw.s (gLw.n gLw.z)))))
            · refine gy_ifF rfl (by decide) (by decide) (by omega) hc328 ?_
              refine gz_s 1 (pc' := 44) (L' := [some (.ref m), some (.int (zi zq31)), some (.int (zi uu)), some (.int (zi jp)), none]) (S' := [.int (zi jp)]) rfl ?_
              by_cases hc445 : ¬ (jp : Int) = 0
              · refine gy_ifT (pc' := 52) rfl (by decide) (by decide) (by omega) hc445 ?_
                refine gz_s 2 (pc' := 54) (L' := [some (.ref m), some (.int (zi zq31)), some (.int (zi uu)), some (.int (zi jp)), none]) (S' := [.int (zi uu), .ref m]) rfl ?_
                refine gz_call rfl (by decide) rfl (by decide) (by decide) (gcal_of rfl rfl rfl (Nat.le_of_ble_eq_true rfl) (gJ.recv (G := gGG) sh64.1 tm rfl rfl)) (mm_readUnit _ sh64.1 m tm uu (by omega) av s91 (by omega) kv s92 (by omega) sz s78 (by omega) 0 eh64 (by omega) sb s80 (by omega) by1 s81 (by omega) fr s82 (by omega) tt s83 (by omega) ab s84 (by omega) lw s85 (by omega) w s86 (by omega) hh s87 (by omega) wd s88 (by omega) hg s89 (by omega) bs s90 (by omega) b0 (by omega) oc0 (by omega) orr0 (by omega) (by omega) (by omega) (by omega) (by omega) (by omega) (by omega) (by omega) (by omega) pr67 pr74 pr75 pr65 pr66) (fun q446 _ wq446 => ?_)
                obtain ⟨pq446, oq446, hq446⟩ := q446
                obtain ⟨xq446, fq446_0, fq446_1, fq446_2, gq446, efq446_0, afq446_0, bfq446_0, efq446_1, afq446_1, bfq446_1, efq446_2, afq446_2, bfq446_2, uq446_0, uq446_1, uq446_2⟩ := wq446
                refine ⟨_, gq446, ?_⟩
                show gz gPP gGG gcn _ _ 57 [some (.ref m), some (.int (zi zq31)), some (.int (zi uu)), some (.int (zi jp)), none] [] hq446 _
                have sq446 := gSs.tr sh64 xq446 (by decide)
                have s447 := (xq446.2.2.2.2.2 m 3 (by rw [tm]; decide)).trans s78
                have s448 := (xq446.2.2.2.2.2 m 8 (by rw [tm]; decide)).trans s79
                have s449 := (xq446.2.2.2.2.2 m 39 (by rw [tm]; decide)).trans s80
                have s450 := (xq446.2.2.2.2.2 m 17 (by rw [tm]; decide)).trans s81
                have s451 := (xq446.2.2.2.2.2 m 41 (by rw [tm]; decide)).trans s82
                have s452 := (xq446.2.2.2.2.2 m 42 (by rw [tm]; decide)).trans s83
                have s453 := (xq446.2.2.2.2.2 m 43 (by rw [tm]; decide)).trans s84
                have s454 := (xq446.2.2.2.2.2 m 44 (by rw [tm]; decide)).trans s85
                have s455 := (xq446.2.2.2.2.2 m 18 (by rw [tm]; decide)).trans s86
                have s456 := (xq446.2.2.2.2.2 m 19 (by rw [tm]; decide)).trans s87
                have s457 := (xq446.2.2.2.2.2 m 21 (by rw [tm]; decide)).trans s88
                have s458 := (xq446.2.2.2.2.2 m 22 (by rw [tm]; decide)).trans s89
                have s459 := (xq446.2.2.2.2.2 m 20 (by rw [tm]; decide)).trans s90
                have pr460 := gPic.fr xq446.2 (by decide) pr65
                have pr461 := gSb.fr xq446.2 (by decide) pr66
                have pr462 := gEl.fr xq446.2 (by decide) (fun _ => rfl) pr67
                have pr463 := gEl.fr xq446.2 (by decide) (fun _ => rfl) pr68
                have pr464 := gEl.fr xq446.2 (by decide) (fun _ => rfl) pr69
                have pr465 := gEl.fr xq446.2 (by decide) (fun _ => rfl) pr70
                have pr466 := gEl.fr xq446.2 (by decide) (fun _ => rfl) pr71
                have pr467 := gEl.fr xq446.2 (by decide) (fun _ => rfl) pr72
                have pr468 := gEl.fr xq446.2 (by decide) (fun _ => rfl) pr73
                have pr469 := gEl.fr xq446.2 (by decide) (fun _ => rfl) pr74
                have pr470 := gEl.fr xq446.2 (by decide) (fun _ => rfl) pr75
                have pr471 := gEl.fr xq446.2 (by decide) (fun _ => rfl) pr76
                have pr472 := gEl.fr xq446.2 (by decide) (fun _ => rfl) pr77
                refine gz_s 1 (pc' := 58) (L' := [some (.ref m), some (.int (zi zq31)), some (.int (zi uu)), some (.int (zi jp)), none]) (S' := [.ref m]) rfl ?_
                refine gs_gtk rfl (by decide) rfl sq446.1 tm rfl rfl efq446_2 ?_
                refine gz_s 2 (pc' := 63) (L' := [some (.ref m), some (.int (zi zq31)), some (.int (zi uu)), some (.int (zi fq446_2)), none]) (S' := [.ref m]) rfl ?_
                refine gs_gtk rfl (by decide) rfl sq446.1 tm rfl rfl efq446_2 ?_
                by_cases hc473 : (fq446_2 : Int) = 0
                · refine gy_ifT (pc' := 94) rfl (by decide) (by decide) (by omega) hc473 ?_
                  refine gy_s 2 (pc' := 13) (L' := [some (.ref m), some (.int (zi zq31)), some (.int ((zi uu) + zi 1)), some (.int (zi fq446_2)), none]) (S' := []) (L2 := [some (.ref m), some (.int (zi zq31)), some (.int (zi (uu + 1))), some (.int (zi fq446_2)), none]) (S2 := []) rfl (by simp only [zi_add, zi_sub, zi_mul, zi_neg, zi_and1, zi_and7, zi_and15, zi_and31, zi_and255]) (by simp only [zi_add, zi_sub, zi_mul, zi_neg, zi_and1, zi_and7, zi_and15, zi_and31, zi_and255]) ?_
                  exact gz_wk (ihlp61 hq446 (uu + 1) fq446_2 fq446_0 fq446_1 fq446_2 (by omega) sq446 (by omega) (by omega) (by omega) (by omega) (by omega) (by omega) (by omega) s447 s448 s449 s450 s451 s452 s453 s454 s455 s456 s457 s458 s459 efq446_0 efq446_1 efq446_2 pr460 pr461 pr462 pr463 pr464 pr465 pr466 pr467 pr468 pr469 pr470 pr471 pr472) (gLw.s (gLw.s (gLw.s (gLw.s (gLw.n gLw.z)))))
                · refine gy_ifF rfl (by decide) (by decide) (by omega) hc473 ?_
                  refine gz_s 3 (pc' := 72) (L' := [some (.ref m), some (.int (zi zq31)), some (.int (zi uu)), some (.int (zi fq446_2)), none]) (S' := [.int (zi zq31), .int (zi uu), .ref m]) rfl ?_
                  refine gz_call rfl (by decide) rfl (by decide) (by decide) (gcal_of rfl rfl rfl (Nat.le_of_ble_eq_true rfl) (gJ.recv (G := gGG) sq446.1 tm rfl rfl)) (mm_goOn _ sq446.1 m tm uu (by omega) zq31 (by omega) fq446_0 efq446_0 (by omega) fq446_1 efq446_1 (by omega) sz s447 (by omega) iv s448 (by omega) (by omega) (by omega)) (fun q474 _ wq474 => ?_)
                  obtain ⟨pq474, oq474, hq474⟩ := q474
                  obtain ⟨xq474, zq474, fq474_0, fq474_1, gq474, aq474, bq474, efq474_0, afq474_0, bfq474_0, efq474_1, afq474_1, bfq474_1, uq474_0, uq474_1, uq474_2, uq474_3⟩ := wq474
                  refine ⟨_, gq474, ?_⟩
                  show gz gPP gGG gcn _ _ 75 [some (.ref m), some (.int (zi zq31)), some (.int (zi uu)), some (.int (zi fq446_2)), none] [.int (zi zq474)] hq474 _
                  have sq474 := gSs.tr sq446 xq474 (by decide)
                  have s475 := (xq474.2.2.2.2.2 m 3 (by rw [tm]; decide)).trans s447
                  have s476 := (xq474.2.2.2.2.2 m 8 (by rw [tm]; decide)).trans s448
                  have s477 := (xq474.2.2.2.2.2 m 39 (by rw [tm]; decide)).trans s449
                  have s478 := (xq474.2.2.2.2.2 m 17 (by rw [tm]; decide)).trans s450
                  have s479 := (xq474.2.2.2.2.2 m 41 (by rw [tm]; decide)).trans s451
                  have s480 := (xq474.2.2.2.2.2 m 42 (by rw [tm]; decide)).trans s452
                  have s481 := (xq474.2.2.2.2.2 m 43 (by rw [tm]; decide)).trans s453
                  have s482 := (xq474.2.2.2.2.2 m 44 (by rw [tm]; decide)).trans s454
                  have s483 := (xq474.2.2.2.2.2 m 18 (by rw [tm]; decide)).trans s455
                  have s484 := (xq474.2.2.2.2.2 m 19 (by rw [tm]; decide)).trans s456
                  have s485 := (xq474.2.2.2.2.2 m 21 (by rw [tm]; decide)).trans s457
                  have s486 := (xq474.2.2.2.2.2 m 22 (by rw [tm]; decide)).trans s458
                  have s487 := (xq474.2.2.2.2.2 m 20 (by rw [tm]; decide)).trans s459
                  have s488 := (xq474.2.2.2.2.2 m 46 (by rw [tm]; decide)).trans efq446_2
                  have pr489 := gPic.fr xq474.2 (by decide) pr460
                  have pr490 := gSb.fr xq474.2 (by decide) pr461
                  have pr491 := gEl.fr xq474.2 (by decide) (fun _ => rfl) pr462
                  have pr492 := gEl.fr xq474.2 (by decide) (fun _ => rfl) pr463
                  have pr493 := gEl.fr xq474.2 (by decide) (fun _ => rfl) pr464
                  have pr494 := gEl.fr xq474.2 (by decide) (fun _ => rfl) pr465
                  have pr495 := gEl.fr xq474.2 (by decide) (fun _ => rfl) pr466
                  have pr496 := gEl.fr xq474.2 (by decide) (fun _ => rfl) pr467
                  have pr497 := gEl.fr xq474.2 (by decide) (fun _ => rfl) pr468
                  have pr498 := gEl.fr xq474.2 (by decide) (fun _ => rfl) pr469
                  have pr499 := gEl.fr xq474.2 (by decide) (fun _ => rfl) pr470
                  have pr500 := gEl.fr xq474.2 (by decide) (fun _ => rfl) pr471
                  have pr501 := gEl.fr xq474.2 (by decide) (fun _ => rfl) pr472
                  refine gz_s 4 (pc' := 81) (L' := [some (.ref m), some (.int (zi zq31)), some (.int (zi uu)), some (.int (zi fq446_2)), some (.int (zi zq474))]) (S' := [.int (zi zq474), .int (zi uu), .ref m]) rfl ?_
                  refine gz_call rfl (by decide) rfl (by decide) (by decide) (gcal_of rfl rfl rfl (Nat.le_of_ble_eq_true rfl) (gJ.recv (G := gGG) sq474.1 tm rfl rfl)) (mm_hurtUnits _ sq474.1 m tm uu (by omega) zq474 (by omega) sb s477 (by omega) w s483 (by omega) hh s484 (by omega) wd s485 (by omega) hg s486 (by omega) bs s487 (by omega) b0 (by omega) oc0 (by omega) orr0 (by omega) (by omega) (by omega) (by omega) (by omega) (by omega) (by omega) pr491 pr498 pr499 pr489 pr490) (fun q502 _ wq502 => ?_)
                  obtain ⟨pq502, oq502, hq502⟩ := q502
                  obtain ⟨xq502, gq502⟩ := wq502
                  refine ⟨_, gq502, ?_⟩
                  show gz gPP gGG gcn _ _ 84 [some (.ref m), some (.int (zi zq31)), some (.int (zi uu)), some (.int (zi fq446_2)), some (.int (zi zq474))] [] hq502 _
                  have sq502 := gSs.tr sq474 xq502 (by decide)
                  have s503 := (xq502.2.2.2.2.2 m 3 (by rw [tm]; decide)).trans s475
                  have s504 := (xq502.2.2.2.2.2 m 8 (by rw [tm]; decide)).trans s476
                  have s505 := (xq502.2.2.2.2.2 m 39 (by rw [tm]; decide)).trans s477
                  have s506 := (xq502.2.2.2.2.2 m 17 (by rw [tm]; decide)).trans s478
                  have s507 := (xq502.2.2.2.2.2 m 41 (by rw [tm]; decide)).trans s479
                  have s508 := (xq502.2.2.2.2.2 m 42 (by rw [tm]; decide)).trans s480
                  have s509 := (xq502.2.2.2.2.2 m 43 (by rw [tm]; decide)).trans s481
                  have s510 := (xq502.2.2.2.2.2 m 44 (by rw [tm]; decide)).trans s482
                  have s511 := (xq502.2.2.2.2.2 m 18 (by rw [tm]; decide)).trans s483
                  have s512 := (xq502.2.2.2.2.2 m 19 (by rw [tm]; decide)).trans s484
                  have s513 := (xq502.2.2.2.2.2 m 21 (by rw [tm]; decide)).trans s485
                  have s514 := (xq502.2.2.2.2.2 m 22 (by rw [tm]; decide)).trans s486
                  have s515 := (xq502.2.2.2.2.2 m 20 (by rw [tm]; decide)).trans s487
                  have s516 := (xq502.2.2.2.2.2 m 46 (by rw [tm]; decide)).trans s488
                  have s517 := (xq502.2.2.2.2.2 m 47 (by rw [tm]; decide)).trans efq474_0
                  have s518 := (xq502.2.2.2.2.2 m 48 (by rw [tm]; decide)).trans efq474_1
                  have pr519 := gPic.fr xq502.2 (by decide) pr489
                  have pr520 := gSb.fr xq502.2 (by decide) pr490
                  have pr521 := gEl.fr xq502.2 (by decide) (fun _ => rfl) pr491
                  have pr522 := gEl.fr xq502.2 (by decide) (fun _ => rfl) pr492
                  have pr523 := gEl.fr xq502.2 (by decide) (fun _ => rfl) pr493
                  have pr524 := gEl.fr xq502.2 (by decide) (fun _ => rfl) pr494
                  have pr525 := gEl.fr xq502.2 (by decide) (fun _ => rfl) pr495
                  have pr526 := gEl.fr xq502.2 (by decide) (fun _ => rfl) pr496
                  have pr527 := gEl.fr xq502.2 (by decide) (fun _ => rfl) pr497
                  have pr528 := gEl.fr xq502.2 (by decide) (fun _ => rfl) pr498
                  have pr529 := gEl.fr xq502.2 (by decide) (fun _ => rfl) pr499
                  have pr530 := gEl.fr xq502.2 (by decide) (fun _ => rfl) pr500
                  have pr531 := gEl.fr xq502.2 (by decide) (fun _ => rfl) pr501
                  refine gz_s 1 (pc' := 85) (L' := [some (.ref m), some (.int (zi zq31)), some (.int (zi uu)), some (.int (zi fq446_2)), some (.int (zi zq474))]) (S' := [.ref m]) rfl ?_
                  refine gz_call rfl (by decide) rfl (by decide) (by decide) (gcal_of rfl rfl rfl (Nat.le_of_ble_eq_true rfl) (gJ.recv (G := gGG) sq502.1 tm rfl rfl)) (mm_begin _ sq502.1 m tm ) (fun q532 _ wq532 => ?_)
                  obtain ⟨pq532, oq532, hq532⟩ := q532
                  obtain ⟨xq532, gq532⟩ := wq532
                  refine ⟨_, gq532, ?_⟩
                  show gz gPP gGG gcn _ _ 88 [some (.ref m), some (.int (zi zq31)), some (.int (zi uu)), some (.int (zi fq446_2)), some (.int (zi zq474))] [] hq532 _
                  have sq532 := gSs.tr sq502 xq532 (by decide)
                  have s533 := (xq532.2.2.2.2.2 m 3 (by rw [tm]; decide)).trans s503
                  have s534 := (xq532.2.2.2.2.2 m 8 (by rw [tm]; decide)).trans s504
                  have s535 := (xq532.2.2.2.2.2 m 39 (by rw [tm]; decide)).trans s505
                  have s536 := (xq532.2.2.2.2.2 m 17 (by rw [tm]; decide)).trans s506
                  have s537 := (xq532.2.2.2.2.2 m 41 (by rw [tm]; decide)).trans s507
                  have s538 := (xq532.2.2.2.2.2 m 42 (by rw [tm]; decide)).trans s508
                  have s539 := (xq532.2.2.2.2.2 m 43 (by rw [tm]; decide)).trans s509
                  have s540 := (xq532.2.2.2.2.2 m 44 (by rw [tm]; decide)).trans s510
                  have s541 := (xq532.2.2.2.2.2 m 18 (by rw [tm]; decide)).trans s511
                  have s542 := (xq532.2.2.2.2.2 m 19 (by rw [tm]; decide)).trans s512
                  have s543 := (xq532.2.2.2.2.2 m 21 (by rw [tm]; decide)).trans s513
                  have s544 := (xq532.2.2.2.2.2 m 22 (by rw [tm]; decide)).trans s514
                  have s545 := (xq532.2.2.2.2.2 m 20 (by rw [tm]; decide)).trans s515
                  have s546 := (xq532.2.2.2.2.2 m 46 (by rw [tm]; decide)).trans s516
                  have s547 := (xq532.2.2.2.2.2 m 47 (by rw [tm]; decide)).trans s517
                  have s548 := (xq532.2.2.2.2.2 m 48 (by rw [tm]; decide)).trans s518
                  have pr549 := gPic.fr xq532.2 (by decide) pr519
                  have pr550 := gSb.fr xq532.2 (by decide) pr520
                  have pr551 := gEl.fr xq532.2 (by decide) (fun _ => rfl) pr521
                  have pr552 := gEl.fr xq532.2 (by decide) (fun _ => rfl) pr522
                  have pr553 := gEl.fr xq532.2 (by decide) (fun _ => rfl) pr523
                  have pr554 := gEl.fr xq532.2 (by decide) (fun _ => rfl) pr524
                  have pr555 := gEl.fr xq532.2 (by decide) (fun _ => rfl) pr525
                  have pr556 := gEl.fr xq532.2 (by decide) (fun _ => rfl) pr526
                  have pr557 := gEl.fr xq532.2 (by decide) (fun _ => rfl) pr527
                  have pr558 := gEl.fr xq532.2 (by decide) (fun _ => rfl) pr528
                  have pr559 := gEl.fr xq532.2 (by decide) (fun _ => rfl) pr529
                  have pr560 := gEl.fr xq532.2 (by decide) (fun _ => rfl) pr530
                  have pr561 := gEl.fr xq532.2 (by decide) (fun _ => rfl) pr531
                  refine gz_s 3 (pc' := 13) (L' := [some (.ref m), some (.int (zi zq31)), some (.int (zi zq474)), some (.int (zi fq446_2)), some (.int (zi zq474))]) (S' := []) rfl ?_
                  exact gz_wk (ihlp61 hq532 zq474 fq446_2 fq474_0 fq474_1 fq446_2 (by omega) sq532 (by omega) (by omega) (by omega) (by omega) (by omega) (by omega) (by omega) s533 s534 s535 s536 s537 s538 s539 s540 s541 s542 s543 s544 s545 s547 s548 s546 pr549 pr550 pr551 pr552 pr553 pr554 pr555 pr556 pr557 pr558 pr559 pr560 pr561) (gLw.s (gLw.s (gLw.s (gLw.s (gLw.n gLw.z)))))
              · refine gy_ifF rfl (by decide) (by decide) (by omega) hc445 ?_
                have hmi := zmd (x := uu) (y := iv) (by omega) (by omega) (by omega)
                refine gz_s 2 (pc' := 49) (L' := [some (.ref m), some (.int (zi zq31)), some (.int (zi uu)), some (.int (zi jp)), none]) (S' := [.int (zi uu), .ref m]) rfl ?_
                refine gz_call rfl (by decide) rfl (by decide) (by decide) (gcal_of rfl rfl rfl (Nat.le_of_ble_eq_true rfl) (gJ.recv (G := gGG) sh64.1 tm rfl rfl)) (mm_passMark _ sh64.1 m tm uu (by omega) av s91 (by omega) kv s92 (by omega) sz s78 (by omega) 0 eh64 (by omega) iv s79 (by omega) (by omega) (by omega)) (fun q562 _ wq562 => ?_)
                obtain ⟨pq562, oq562, hq562⟩ := q562
                obtain ⟨xq562, fq562_0, fq562_1, fq562_2, gq562, efq562_0, afq562_0, bfq562_0, efq562_1, afq562_1, bfq562_1, efq562_2, afq562_2, bfq562_2, uq562_0, uq562_1, uq562_2⟩ := wq562
                refine ⟨_, gq562, ?_⟩
                show gz gPP gGG gcn _ _ 52 [some (.ref m), some (.int (zi zq31)), some (.int (zi uu)), some (.int (zi jp)), none] [] hq562 _
                have sq562 := gSs.tr sh64 xq562 (by decide)
                have s563 := (xq562.2.2.2.2.2 m 3 (by rw [tm]; decide)).trans s78
                have s564 := (xq562.2.2.2.2.2 m 8 (by rw [tm]; decide)).trans s79
                have s565 := (xq562.2.2.2.2.2 m 39 (by rw [tm]; decide)).trans s80
                have s566 := (xq562.2.2.2.2.2 m 17 (by rw [tm]; decide)).trans s81
                have s567 := (xq562.2.2.2.2.2 m 41 (by rw [tm]; decide)).trans s82
                have s568 := (xq562.2.2.2.2.2 m 42 (by rw [tm]; decide)).trans s83
                have s569 := (xq562.2.2.2.2.2 m 43 (by rw [tm]; decide)).trans s84
                have s570 := (xq562.2.2.2.2.2 m 44 (by rw [tm]; decide)).trans s85
                have s571 := (xq562.2.2.2.2.2 m 18 (by rw [tm]; decide)).trans s86
                have s572 := (xq562.2.2.2.2.2 m 19 (by rw [tm]; decide)).trans s87
                have s573 := (xq562.2.2.2.2.2 m 21 (by rw [tm]; decide)).trans s88
                have s574 := (xq562.2.2.2.2.2 m 22 (by rw [tm]; decide)).trans s89
                have s575 := (xq562.2.2.2.2.2 m 20 (by rw [tm]; decide)).trans s90
                have pr576 := gPic.fr xq562.2 (by decide) pr65
                have pr577 := gSb.fr xq562.2 (by decide) pr66
                have pr578 := gEl.fr xq562.2 (by decide) (fun _ => rfl) pr67
                have pr579 := gEl.fr xq562.2 (by decide) (fun _ => rfl) pr68
                have pr580 := gEl.fr xq562.2 (by decide) (fun _ => rfl) pr69
                have pr581 := gEl.fr xq562.2 (by decide) (fun _ => rfl) pr70
                have pr582 := gEl.fr xq562.2 (by decide) (fun _ => rfl) pr71
                have pr583 := gEl.fr xq562.2 (by decide) (fun _ => rfl) pr72
                have pr584 := gEl.fr xq562.2 (by decide) (fun _ => rfl) pr73
                have pr585 := gEl.fr xq562.2 (by decide) (fun _ => rfl) pr74
                have pr586 := gEl.fr xq562.2 (by decide) (fun _ => rfl) pr75
                have pr587 := gEl.fr xq562.2 (by decide) (fun _ => rfl) pr76
                have pr588 := gEl.fr xq562.2 (by decide) (fun _ => rfl) pr77
                refine gz_s 2 (pc' := 54) (L' := [some (.ref m), some (.int (zi zq31)), some (.int (zi uu)), some (.int (zi jp)), none]) (S' := [.int (zi uu), .ref m]) rfl ?_
                refine gz_call rfl (by decide) rfl (by decide) (by decide) (gcal_of rfl rfl rfl (Nat.le_of_ble_eq_true rfl) (gJ.recv (G := gGG) sq562.1 tm rfl rfl)) (mm_readUnit _ sq562.1 m tm uu (by omega) fq562_0 efq562_0 (by omega) fq562_1 efq562_1 (by omega) sz s563 (by omega) fq562_2 efq562_2 (by omega) sb s565 (by omega) by1 s566 (by omega) fr s567 (by omega) tt s568 (by omega) ab s569 (by omega) lw s570 (by omega) w s571 (by omega) hh s572 (by omega) wd s573 (by omega) hg s574 (by omega) bs s575 (by omega) b0 (by omega) oc0 (by omega) orr0 (by omega) (by omega) (by omega) (by omega) (by omega) (by omega) (by omega) (by omega) (by omega) pr578 pr585 pr586 pr576 pr577) (fun q589 _ wq589 => ?_)
                obtain ⟨pq589, oq589, hq589⟩ := q589
                obtain ⟨xq589, fq589_0, fq589_1, fq589_2, gq589, efq589_0, afq589_0, bfq589_0, efq589_1, afq589_1, bfq589_1, efq589_2, afq589_2, bfq589_2, uq589_0, uq589_1, uq589_2⟩ := wq589
                refine ⟨_, gq589, ?_⟩
                show gz gPP gGG gcn _ _ 57 [some (.ref m), some (.int (zi zq31)), some (.int (zi uu)), some (.int (zi jp)), none] [] hq589 _
                have sq589 := gSs.tr sq562 xq589 (by decide)
                have s590 := (xq589.2.2.2.2.2 m 3 (by rw [tm]; decide)).trans s563
                have s591 := (xq589.2.2.2.2.2 m 8 (by rw [tm]; decide)).trans s564
                have s592 := (xq589.2.2.2.2.2 m 39 (by rw [tm]; decide)).trans s565
                have s593 := (xq589.2.2.2.2.2 m 17 (by rw [tm]; decide)).trans s566
                have s594 := (xq589.2.2.2.2.2 m 41 (by rw [tm]; decide)).trans s567
                have s595 := (xq589.2.2.2.2.2 m 42 (by rw [tm]; decide)).trans s568
                have s596 := (xq589.2.2.2.2.2 m 43 (by rw [tm]; decide)).trans s569
                have s597 := (xq589.2.2.2.2.2 m 44 (by rw [tm]; decide)).trans s570
                have s598 := (xq589.2.2.2.2.2 m 18 (by rw [tm]; decide)).trans s571
                have s599 := (xq589.2.2.2.2.2 m 19 (by rw [tm]; decide)).trans s572
                have s600 := (xq589.2.2.2.2.2 m 21 (by rw [tm]; decide)).trans s573
                have s601 := (xq589.2.2.2.2.2 m 22 (by rw [tm]; decide)).trans s574
                have s602 := (xq589.2.2.2.2.2 m 20 (by rw [tm]; decide)).trans s575
                have pr603 := gPic.fr xq589.2 (by decide) pr576
                have pr604 := gSb.fr xq589.2 (by decide) pr577
                have pr605 := gEl.fr xq589.2 (by decide) (fun _ => rfl) pr578
                have pr606 := gEl.fr xq589.2 (by decide) (fun _ => rfl) pr579
                have pr607 := gEl.fr xq589.2 (by decide) (fun _ => rfl) pr580
                have pr608 := gEl.fr xq589.2 (by decide) (fun _ => rfl) pr581
                have pr609 := gEl.fr xq589.2 (by decide) (fun _ => rfl) pr582
                have pr610 := gEl.fr xq589.2 (by decide) (fun _ => rfl) pr583
                have pr611 := gEl.fr xq589.2 (by decide) (fun _ => rfl) pr584
                have pr612 := gEl.fr xq589.2 (by decide) (fun _ => rfl) pr585
                have pr613 := gEl.fr xq589.2 (by decide) (fun _ => rfl) pr586
                have pr614 := gEl.fr xq589.2 (by decide) (fun _ => rfl) pr587
                have pr615 := gEl.fr xq589.2 (by decide) (fun _ => rfl) pr588
                refine gz_s 1 (pc' := 58) (L' := [some (.ref m), some (.int (zi zq31)), some (.int (zi uu)), some (.int (zi jp)), none]) (S' := [.ref m]) rfl ?_
                refine gs_gtk rfl (by decide) rfl sq589.1 tm rfl rfl efq589_2 ?_
                refine gz_s 2 (pc' := 63) (L' := [some (.ref m), some (.int (zi zq31)), some (.int (zi uu)), some (.int (zi fq589_2)), none]) (S' := [.ref m]) rfl ?_
                refine gs_gtk rfl (by decide) rfl sq589.1 tm rfl rfl efq589_2 ?_
                by_cases hc616 : (fq589_2 : Int) = 0
                · refine gy_ifT (pc' := 94) rfl (by decide) (by decide) (by omega) hc616 ?_
                  refine gy_s 2 (pc' := 13) (L' := [some (.ref m), some (.int (zi zq31)), some (.int ((zi uu) + zi 1)), some (.int (zi fq589_2)), none]) (S' := []) (L2 := [some (.ref m), some (.int (zi zq31)), some (.int (zi (uu + 1))), some (.int (zi fq589_2)), none]) (S2 := []) rfl (by simp only [zi_add, zi_sub, zi_mul, zi_neg, zi_and1, zi_and7, zi_and15, zi_and31, zi_and255]) (by simp only [zi_add, zi_sub, zi_mul, zi_neg, zi_and1, zi_and7, zi_and15, zi_and31, zi_and255]) ?_
                  exact gz_wk (ihlp61 hq589 (uu + 1) fq589_2 fq589_0 fq589_1 fq589_2 (by omega) sq589 (by omega) (by omega) (by omega) (by omega) (by omega) (by omega) (by omega) s590 s591 s592 s593 s594 s595 s596 s597 s598 s599 s600 s601 s602 efq589_0 efq589_1 efq589_2 pr603 pr604 pr605 pr606 pr607 pr608 pr609 pr610 pr611 pr612 pr613 pr614 pr615) (gLw.s (gLw.s (gLw.s (gLw.s (gLw.n gLw.z)))))
                · refine gy_ifF rfl (by decide) (by decide) (by omega) hc616 ?_
                  refine gz_s 3 (pc' := 72) (L' := [some (.ref m), some (.int (zi zq31)), some (.int (zi uu)), some (.int (zi fq589_2)), none]) (S' := [.int (zi zq31), .int (zi uu), .ref m]) rfl ?_
                  refine gz_call rfl (by decide) rfl (by decide) (by decide) (gcal_of rfl rfl rfl (Nat.le_of_ble_eq_true rfl) (gJ.recv (G := gGG) sq589.1 tm rfl rfl)) (mm_goOn _ sq589.1 m tm uu (by omega) zq31 (by omega) fq589_0 efq589_0 (by omega) fq589_1 efq589_1 (by omega) sz s590 (by omega) iv s591 (by omega) (by omega) (by omega)) (fun q617 _ wq617 => ?_)
                  obtain ⟨pq617, oq617, hq617⟩ := q617
                  obtain ⟨xq617, zq617, fq617_0, fq617_1, gq617, aq617, bq617, efq617_0, afq617_0, bfq617_0, efq617_1, afq617_1, bfq617_1, uq617_0, uq617_1, uq617_2, uq617_3⟩ := wq617
                  refine ⟨_, gq617, ?_⟩
                  show gz gPP gGG gcn _ _ 75 [some (.ref m), some (.int (zi zq31)), some (.int (zi uu)), some (.int (zi fq589_2)), none] [.int (zi zq617)] hq617 _
                  have sq617 := gSs.tr sq589 xq617 (by decide)
                  have s618 := (xq617.2.2.2.2.2 m 3 (by rw [tm]; decide)).trans s590
                  have s619 := (xq617.2.2.2.2.2 m 8 (by rw [tm]; decide)).trans s591
                  have s620 := (xq617.2.2.2.2.2 m 39 (by rw [tm]; decide)).trans s592
                  have s621 := (xq617.2.2.2.2.2 m 17 (by rw [tm]; decide)).trans s593
                  have s622 := (xq617.2.2.2.2.2 m 41 (by rw [tm]; decide)).trans s594
                  have s623 := (xq617.2.2.2.2.2 m 42 (by rw [tm]; decide)).trans s595
                  have s624 := (xq617.2.2.2.2.2 m 43 (by rw [tm]; decide)).trans s596
                  have s625 := (xq617.2.2.2.2.2 m 44 (by rw [tm]; decide)).trans s597
                  have s626 := (xq617.2.2.2.2.2 m 18 (by rw [tm]; decide)).trans s598
                  have s627 := (xq617.2.2.2.2.2 m 19 (by rw [tm]; decide)).trans s599
                  have s628 := (xq617.2.2.2.2.2 m 21 (by rw [tm]; decide)).trans s600
                  have s629 := (xq617.2.2.2.2.2 m 22 (by rw [tm]; decide)).trans s601
                  have s630 := (xq617.2.2.2.2.2 m 20 (by rw [tm]; decide)).trans s602
                  have s631 := (xq617.2.2.2.2.2 m 46 (by rw [tm]; decide)).trans efq589_2
                  have pr632 := gPic.fr xq617.2 (by decide) pr603
                  have pr633 := gSb.fr xq617.2 (by decide) pr604
                  have pr634 := gEl.fr xq617.2 (by decide) (fun _ => rfl) pr605
                  have pr635 := gEl.fr xq617.2 (by decide) (fun _ => rfl) pr606
                  have pr636 := gEl.fr xq617.2 (by decide) (fun _ => rfl) pr607
                  have pr637 := gEl.fr xq617.2 (by decide) (fun _ => rfl) pr608
                  have pr638 := gEl.fr xq617.2 (by decide) (fun _ => rfl) pr609
                  have pr639 := gEl.fr xq617.2 (by decide) (fun _ => rfl) pr610
                  have pr640 := gEl.fr xq617.2 (by decide) (fun _ => rfl) pr611
                  have pr641 := gEl.fr xq617.2 (by decide) (fun _ => rfl) pr612
                  have pr642 := gEl.fr xq617.2 (by decide) (fun _ => rfl) pr613
                  have pr643 := gEl.fr xq617.2 (by decide) (fun _ => rfl) pr614
                  have pr644 := gEl.fr xq617.2 (by decide) (fun _ => rfl) pr615
                  refine gz_s 4 (pc' := 81) (L' := [some (.ref m), some (.int (zi zq31)), some (.int (zi uu)), some (.int (zi fq589_2)), some (.int (zi zq617))]) (S' := [.int (zi zq617), .int (zi uu), .ref m]) rfl ?_
                  refine gz_call rfl (by decide) rfl (by decide) (by decide) (gcal_of rfl rfl rfl (Nat.le_of_ble_eq_true rfl) (gJ.recv (G := gGG) sq617.1 tm rfl rfl)) (mm_hurtUnits _ sq617.1 m tm uu (by omega) zq617 (by omega) sb s620 (by omega) w s626 (by omega) hh s627 (by omega) wd s628 (by omega) hg s629 (by omega) bs s630 (by omega) b0 (by omega) oc0 (by omega) orr0 (by omega) (by omega) (by omega) (by omega) (by omega) (by omega) (by omega) pr634 pr641 pr642 pr632 pr633) (fun q645 _ wq645 => ?_)
                  obtain ⟨pq645, oq645, hq645⟩ := q645
                  obtain ⟨xq645, gq645⟩ := wq645
                  refine ⟨_, gq645, ?_⟩
                  show gz gPP gGG gcn _ _ 84 [some (.ref m), some (.int (zi zq31)), some (.int (zi uu)), some (.int (zi fq589_2)), some (.int (zi zq617))] [] hq645 _
                  have sq645 := gSs.tr sq617 xq645 (by decide)
                  have s646 := (xq645.2.2.2.2.2 m 3 (by rw [tm]; decide)).trans s618
                  have s647 := (xq645.2.2.2.2.2 m 8 (by rw [tm]; decide)).trans s619
                  have s648 := (xq645.2.2.2.2.2 m 39 (by rw [tm]; decide)).trans s620
                  have s649 := (xq645.2.2.2.2.2 m 17 (by rw [tm]; decide)).trans s621
                  have s650 := (xq645.2.2.2.2.2 m 41 (by rw [tm]; decide)).trans s622
                  have s651 := (xq645.2.2.2.2.2 m 42 (by rw [tm]; decide)).trans s623
                  have s652 := (xq645.2.2.2.2.2 m 43 (by rw [tm]; decide)).trans s624
                  have s653 := (xq645.2.2.2.2.2 m 44 (by rw [tm]; decide)).trans s625
                  have s654 := (xq645.2.2.2.2.2 m 18 (by rw [tm]; decide)).trans s626
                  have s655 := (xq645.2.2.2.2.2 m 19 (by rw [tm]; decide)).trans s627
                  have s656 := (xq645.2.2.2.2.2 m 21 (by rw [tm]; decide)).trans s628
                  have s657 := (xq645.2.2.2.2.2 m 22 (by rw [tm]; decide)).trans s629
                  have s658 := (xq645.2.2.2.2.2 m 20 (by rw [tm]; decide)).trans s630
                  have s659 := (xq645.2.2.2.2.2 m 46 (by rw [tm]; decide)).trans s631
                  have s660 := (xq645.2.2.2.2.2 m 47 (by rw [tm]; decide)).trans efq617_0
                  have s661 := (xq645.2.2.2.2.2 m 48 (by rw [tm]; decide)).trans efq617_1
                  have pr662 := gPic.fr xq645.2 (by decide) pr632
                  have pr663 := gSb.fr xq645.2 (by decide) pr633
                  have pr664 := gEl.fr xq645.2 (by decide) (fun _ => rfl) pr634
                  have pr665 := gEl.fr xq645.2 (by decide) (fun _ => rfl) pr635
                  have pr666 := gEl.fr xq645.2 (by decide) (fun _ => rfl) pr636
                  have pr667 := gEl.fr xq645.2 (by decide) (fun _ => rfl) pr637
                  have pr668 := gEl.fr xq645.2 (by decide) (fun _ => rfl) pr638
                  have pr669 := gEl.fr xq645.2 (by decide) (fun _ => rfl) pr639
                  have pr670 := gEl.fr xq645.2 (by decide) (fun _ => rfl) pr640
                  have pr671 := gEl.fr xq645.2 (by decide) (fun _ => rfl) pr641
                  have pr672 := gEl.fr xq645.2 (by decide) (fun _ => rfl) pr642
                  have pr673 := gEl.fr xq645.2 (by decide) (fun _ => rfl) pr643
                  have pr674 := gEl.fr xq645.2 (by decide) (fun _ => rfl) pr644
                  refine gz_s 1 (pc' := 85) (L' := [some (.ref m), some (.int (zi zq31)), some (.int (zi uu)), some (.int (zi fq589_2)), some (.int (zi zq617))]) (S' := [.ref m]) rfl ?_
                  refine gz_call rfl (by decide) rfl (by decide) (by decide) (gcal_of rfl rfl rfl (Nat.le_of_ble_eq_true rfl) (gJ.recv (G := gGG) sq645.1 tm rfl rfl)) (mm_begin _ sq645.1 m tm ) (fun q675 _ wq675 => ?_)
                  obtain ⟨pq675, oq675, hq675⟩ := q675
                  obtain ⟨xq675, gq675⟩ := wq675
                  refine ⟨_, gq675, ?_⟩
                  show gz gPP gGG gcn _ _ 88 [some (.ref m), some (.int (zi zq31)), some (.int (zi uu)), some (.int (zi fq589_2)), some (.int (zi zq617))] [] hq675 _
                  have sq675 := gSs.tr sq645 xq675 (by decide)
                  have s676 := (xq675.2.2.2.2.2 m 3 (by rw [tm]; decide)).trans s646
                  have s677 := (xq675.2.2.2.2.2 m 8 (by rw [tm]; decide)).trans s647
                  have s678 := (xq675.2.2.2.2.2 m 39 (by rw [tm]; decide)).trans s648
                  have s679 := (xq675.2.2.2.2.2 m 17 (by rw [tm]; decide)).trans s649
                  have s680 := (xq675.2.2.2.2.2 m 41 (by rw [tm]; decide)).trans s650
                  have s681 := (xq675.2.2.2.2.2 m 42 (by rw [tm]; decide)).trans s651
                  have s682 := (xq675.2.2.2.2.2 m 43 (by rw [tm]; decide)).trans s652
                  have s683 := (xq675.2.2.2.2.2 m 44 (by rw [tm]; decide)).trans s653
                  have s684 := (xq675.2.2.2.2.2 m 18 (by rw [tm]; decide)).trans s654
                  have s685 := (xq675.2.2.2.2.2 m 19 (by rw [tm]; decide)).trans s655
                  have s686 := (xq675.2.2.2.2.2 m 21 (by rw [tm]; decide)).trans s656
                  have s687 := (xq675.2.2.2.2.2 m 22 (by rw [tm]; decide)).trans s657
                  have s688 := (xq675.2.2.2.2.2 m 20 (by rw [tm]; decide)).trans s658
                  have s689 := (xq675.2.2.2.2.2 m 46 (by rw [tm]; decide)).trans s659
                  have s690 := (xq675.2.2.2.2.2 m 47 (by rw [tm]; decide)).trans s660
                  have s691 := (xq675.2.2.2.2.2 m 48 (by rw [tm]; decide)).trans s661
                  have pr692 := gPic.fr xq675.2 (by decide) pr662
                  have pr693 := gSb.fr xq675.2 (by decide) pr663
                  have pr694 := gEl.fr xq675.2 (by decide) (fun _ => rfl) pr664
                  have pr695 := gEl.fr xq675.2 (by decide) (fun _ => rfl) pr665
                  have pr696 := gEl.fr xq675.2 (by decide) (fun _ => rfl) pr666
                  have pr697 := gEl.fr xq675.2 (by decide) (fun _ => rfl) pr667
                  have pr698 := gEl.fr xq675.2 (by decide) (fun _ => rfl) pr668
                  have pr699 := gEl.fr xq675.2 (by decide) (fun _ => rfl) pr669
                  have pr700 := gEl.fr xq675.2 (by decide) (fun _ => rfl) pr670
                  have pr701 := gEl.fr xq675.2 (by decide) (fun _ => rfl) pr671
                  have pr702 := gEl.fr xq675.2 (by decide) (fun _ => rfl) pr672
                  have pr703 := gEl.fr xq675.2 (by decide) (fun _ => rfl) pr673
                  have pr704 := gEl.fr xq675.2 (by decide) (fun _ => rfl) pr674
                  refine gz_s 3 (pc' := 13) (L' := [some (.ref m), some (.int (zi zq31)), some (.int (zi zq617)), some (.int (zi fq589_2)), some (.int (zi zq617))]) (S' := []) rfl ?_
                  exact gz_wk (ihlp61 hq675 zq617 fq589_2 fq617_0 fq617_1 fq589_2 (by omega) sq675 (by omega) (by omega) (by omega) (by omega) (by omega) (by omega) (by omega) s676 s677 s678 s679 s680 s681 s682 s683 s684 s685 s686 s687 s688 s690 s691 s689 pr692 pr693 pr694 pr695 pr696 pr697 pr698 pr699 pr700 pr701 pr702 pr703 pr704) (gLw.s (gLw.s (gLw.s (gLw.s (gLw.n gLw.z)))))
  exact gz_wk (lp61 _ hq31 0 0 a0 k0 u0 (Nat.lt_succ_self _) sq31 (by omega) (by omega) (by omega) (by omega) (by omega) (by omega) (by omega) s34 s36 s37 s38 s39 s40 s41 s42 s43 s44 s45 s46 s47 s32 s33 s35 pr48 pr49 pr50 pr51 pr52 pr53 pr54 pr55 pr56 pr57 pr58 pr59 pr60) (gLw.s (gLw.s (gLw.s (gLw.s (gLw.n gLw.z)))))
