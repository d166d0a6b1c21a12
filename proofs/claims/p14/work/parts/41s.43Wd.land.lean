/-! ===== methods of the landed text (by program) ===== -/
set_option maxRecDepth 20000 in
set_option maxHeartbeats 4000000 in
theorem cw_lastNew (d : Nat) {ty : Nat → Nat} {h : gH} (hJ : gJ rT 1027 ty h) (x : Nat) (tx : ty x = 71) (p : Int) (rp : 0 ≤ p ∧ p ≤ 960) (fr : Int) (efr : h.2.2.2.2 x 7 = .int (zi fr)) (rfr : 0 ≤ fr ∧ fr ≤ 63) (tt : Int) (ett : h.2.2.2.2 x 8 = .int (zi tt)) (rtt : 0 ≤ tt ∧ tt ≤ 63) (lw : Int) (elw : h.2.2.2.2 x 10 = .int (zi lw)) (rlw : 0 ≤ lw ∧ lw ≤ 3) (bs : Int) (ebs : h.2.2.2.2 x 5 = .int (zi bs)) (rbs : 0 ≤ bs ∧ bs ≤ 16) (cf : Nat → Int) (pp0 : fr ≤ tt) (pp1 : p + 64 ≤ 64 * bs) (uq : gUq ty) (hyf73 : gRn (64 * bs).toNat ty 73 cf h) : gz gPP gGG gcn (d + 1) gt118 0 (gent [.ref x, .int (zi p)] 4) [] h (fun q _ => gSs rT 1027 ty [] h q.2.2 ∧ ∃ z : Int, gfin gt118 q.1 q.2.1 = some (some (.int (zi z))) ∧ (-1) ≤ z ∧ z ≤ 63 ∧ (z = eeLn lw cf (p + fr).toNat fr (tt - fr + 1).toNat)) := by
  have hS : gSs rT 1027 ty [] h h := gSs.rf hJ
  refine gz_s 3 (pc' := 3) (L' := [some (.ref x), some (.int (zi p)), some (.int (zi (-1))), none]) (S' := [.ref x]) rfl ?_
  refine gs_gtk rfl (by decide) rfl hS.1 tx rfl rfl efr ?_
  refine gz_s 1 (pc' := 7) (L' := [some (.ref x), some (.int (zi p)), some (.int (zi (-1))), some (.int (zi fr))]) (S' := []) rfl ?_
  have lp1 : ∀ (fu : Nat) (h2 : gH) (ls : Int) (k : Int), (65 - k).toNat < fu → gSs rT 1027 ty [] h h2 → ((-1) ≤ ls ∧ ls ≤ 63) → (0 ≤ k ∧ k ≤ 64) → (fr ≤ k) → (k ≤ tt + 1) → (ls < k) → (ls = eeLn lw cf (p + fr).toNat fr (k - fr).toNat) → h2.2.2.2.2 x 7 = .int (zi fr) → h2.2.2.2.2 x 8 = .int (zi tt) → h2.2.2.2.2 x 10 = .int (zi lw) → h2.2.2.2.2 x 5 = .int (zi bs) → gRn (64 * bs).toNat ty 73 cf h2 → gz gPP gGG gcn (d + 1) gt118 7 [some (.ref x), some (.int (zi p)), some (.int (zi ls)), some (.int (zi k))] [] h2 (fun q _ => gSs rT 1027 ty [] h q.2.2 ∧ ∃ z : Int, gfin gt118 q.1 q.2.1 = some (some (.int (zi z))) ∧ (-1) ≤ z ∧ z ≤ 63 ∧ (z = eeLn lw cf (p + fr).toNat fr (tt - fr + 1).toNat)) := by
    intro fu
    induction fu with
    | zero => intro h2 ls k hm; exact absurd hm (Nat.not_lt_zero _)
    | succ fu ihlp1 =>
      intro h2 ls k lp1m sh2 lp1f0 lp1f1 lp1f2 lp1f3 lp1f4 lp1f5 lp1k0 lp1k1 lp1k2 lp1k3 lp1k4
      refine gz_s 2 (pc' := 9) (L' := [some (.ref x), some (.int (zi p)), some (.int (zi ls)), some (.int (zi k))]) (S' := [.ref x, .int (zi k)]) rfl ?_
      refine gs_gtk rfl (by decide) rfl sh2.1 tx rfl rfl lp1k1 ?_
      by_cases hc3 : (tt : Int) < k
      · refine gy_icT (pc' := 43) rfl (by decide) (by decide) (by omega) (by omega) hc3 ?_
        have hend : eeLn lw cf (p + fr).toNat fr (k - fr).toNat = eeLn lw cf (p + fr).toNat fr (tt - fr + 1).toNat := by rw [show (k - fr).toNat = (tt - fr + 1).toNat by omega]
        refine gz_s 1 (pc' := 44) (L' := [some (.ref x), some (.int (zi p)), some (.int (zi ls)), some (.int (zi k))]) (S' := [.int (zi ls)]) rfl ?_
        exact gz_end (I := .ireturn) (len := 1) rfl (Or.inl rfl) ⟨sh2, ls, rfl, (by omega), (by omega), (by omega)⟩
      · refine gy_icF rfl (by decide) (by decide) (by omega) (by omega) hc3 ?_
        refine gz_s 1 (pc' := 16) (L' := [some (.ref x), some (.int (zi p)), some (.int (zi ls)), some (.int (zi k))]) (S' := [.ref x]) rfl ?_
        refine gs_gtr rfl (by decide) rfl sh2.1 tx rfl rfl rfl (fun c4 ec4 tc4 => ?_)
        refine gy_s 3 (pc' := 22) (L' := [some (.ref x), some (.int (zi p)), some (.int (zi ls)), some (.int (zi k))]) (S' := [.int ((zi p) + (zi k)), .ref c4]) (L2 := [some (.ref x), some (.int (zi p)), some (.int (zi ls)), some (.int (zi k))]) (S2 := [.int (zi (p + k)), .ref c4]) rfl (by simp only [zi_add, zi_sub, zi_mul, zi_neg, zi_and1, zi_and7, zi_and15, zi_and31, zi_and255]) (by simp only [zi_add, zi_sub, zi_mul, zi_neg, zi_and1, zi_and7, zi_and15, zi_and31, zi_and255]) ?_
        have hl5 : 1024 ≤ h2.2.2.2.1 c4 ∧ h2.2.2.2.1 c4 ≤ 1024 := gJ.rowl (G := gGG) sh2.1 tc4 rfl
        refine gs_ald rfl (by decide) sh2.1 tc4 rfl rfl rfl (by decide) (fun _ => rfl) (by omega) (by omega) (fun z6 ez6 az6 bz6 => ?_)
        have hf7 := gRn.at (i := p + k) (z := z6) lp1k4 tc4 ez6 (by omega) (by omega) (by omega)
        have hbj : (p + fr).toNat + (k - fr).toNat = (p + k).toNat := by omega
        have hcf : cf ((p + fr).toNat + (k - fr).toNat) = z6 := by rw [hbj]; exact hf7
        have hkj : (k + 1 - fr).toNat = (k - fr).toNat + 1 := by omega
        refine gz_call rfl (by decide) rfl (by decide) (by decide) (gcal_of rfl rfl rfl (Nat.le_of_ble_eq_true rfl) rfl) (cl_Math_abs _ sh2.1 z6 ⟨by omega, by omega⟩ ) (fun q8 _ wq8 => ?_)
        obtain ⟨pq8, oq8, hq8⟩ := q8
        obtain ⟨xq8, zq8, gq8, aq8, bq8, uq8_0, uq8_1⟩ := wq8
        refine ⟨_, gq8, ?_⟩
        show gz gPP gGG gcn _ _ 26 [some (.ref x), some (.int (zi p)), some (.int (zi ls)), some (.int (zi k))] [.int (zi zq8)] hq8 _
        have sq8 : gSs rT 1027 ty [] h hq8 := gSs.tr sh2 xq8 (by decide)
        have s9 := (xq8.2.2.2.2.2 x 7 (by rw [tx]; decide)).trans lp1k0
        have s10 := (xq8.2.2.2.2.2 x 8 (by rw [tx]; decide)).trans lp1k1
        have s11 := (xq8.2.2.2.2.2 x 10 (by rw [tx]; decide)).trans lp1k2
        have s12 := (xq8.2.2.2.2.2 x 5 (by rw [tx]; decide)).trans lp1k3
        have s13 := (xq8.2.2.2.2.2 x 2 (by rw [tx]; decide)).trans ec4
        have pr14 := gRn.fr xq8.2 (by decide) lp1k4
        have hA : zq8 = eeA z6 := eeA_of (by omega) (by omega)
        refine gz_s 1 (pc' := 27) (L' := [some (.ref x), some (.int (zi p)), some (.int (zi ls)), some (.int (zi k))]) (S' := [.ref x, .int (zi zq8)]) rfl ?_
        refine gs_gtk rfl (by decide) rfl sq8.1 tx rfl rfl s11 ?_
        refine gy_shr rfl (by decide) (by omega) (by omega) ?_
        have hx15 := zsh_b (a := zq8) (n := lw) (by omega)
        refine gz_s 1 (pc' := 32) (L' := [some (.ref x), some (.int (zi p)), some (.int (zi ls)), some (.int (zi k))]) (S' := [.int (zi 1), .int (zi (zq8 / 2 ^ (lw).toNat))]) rfl ?_
        by_cases hc16 : ¬ (zq8 / 2 ^ (lw).toNat : Int) = 1
        · refine gy_icT (pc' := 37) rfl (by decide) (by decide) (by omega) (by omega) hc16 ?_
          have hs : eeLn lw cf (p + fr).toNat fr ((k + 1) - fr).toNat = eeLn lw cf (p + fr).toNat fr (k - fr).toNat := by rw [hkj]; exact eeLn_n hcf (by rw [← hA]; omega)
          refine gy_s 2 (pc' := 7) (L' := [some (.ref x), some (.int (zi p)), some (.int (zi ls)), some (.int ((zi k) + zi 1))]) (S' := []) (L2 := [some (.ref x), some (.int (zi p)), some (.int (zi ls)), some (.int (zi (k + 1)))]) (S2 := []) rfl (by simp only [zi_add, zi_sub, zi_mul, zi_neg, zi_and1, zi_and7, zi_and15, zi_and31, zi_and255]) (by simp only [zi_add, zi_sub, zi_mul, zi_neg, zi_and1, zi_and7, zi_and15, zi_and31, zi_and255]) ?_
          exact gz_wk (ihlp1 hq8 ls (k + 1) (by omega) sq8 (by omega) (by omega) (by omega) (by omega) (by omega) (by omega) s9 s10 s11 s12 pr14) (gLw.s (gLw.s (gLw.s (gLw.s gLw.z))))
        · refine gy_icF rfl (by decide) (by decide) (by omega) (by omega) hc16 ?_
          refine gz_s 2 (pc' := 37) (L' := [some (.ref x), some (.int (zi p)), some (.int (zi k)), some (.int (zi k))]) (S' := []) rfl ?_
          have hs : eeLn lw cf (p + fr).toNat fr ((k + 1) - fr).toNat = fr + (k - fr).toNat := by rw [hkj]; exact eeLn_y hcf (by rw [← hA]; omega)
          refine gy_s 2 (pc' := 7) (L' := [some (.ref x), some (.int (zi p)), some (.int (zi k)), some (.int ((zi k) + zi 1))]) (S' := []) (L2 := [some (.ref x), some (.int (zi p)), some (.int (zi k)), some (.int (zi (k + 1)))]) (S2 := []) rfl (by simp only [zi_add, zi_sub, zi_mul, zi_neg, zi_and1, zi_and7, zi_and15, zi_and31, zi_and255]) (by simp only [zi_add, zi_sub, zi_mul, zi_neg, zi_and1, zi_and7, zi_and15, zi_and31, zi_and255]) ?_
          exact gz_wk (ihlp1 hq8 k (k + 1) (by omega) sq8 (by omega) (by omega) (by omega) (by omega) (by omega) (by omega) s9 s10 s11 s12 pr14) (gLw.s (gLw.s (gLw.s (gLw.s gLw.z))))
  have hl0 : eeLn lw cf (p + fr).toNat fr (fr - fr).toNat = -1 := by rw [show (fr - fr).toNat = 0 by omega]; rfl
  exact gz_wk (lp1 _ h (-1) fr (Nat.lt_succ_self _) hS (by omega) (by omega) (by omega) (by omega) (by omega) (by omega) efr ett elw ebs hyf73) (gLw.s (gLw.s (gLw.s (gLw.s gLw.z))))
set_option maxRecDepth 20000 in
set_option maxHeartbeats 4000000 in
theorem cn_putWaiting (d : Nat) {ty : Nat → Nat} {h : gH} (hJ : gJ rT 1027 ty h) (x : Nat) (tx : ty x = 71) (cg : Int) (ecg : h.2.2.2.2 x 11 = .int (zi cg)) (rcg : 1 ≤ cg ∧ cg ≤ 1) (wc : Int) (ewc : h.2.2.2.2 x 14 = .int (zi wc)) (rwc : 0 ≤ wc ∧ wc ≤ 64) (uq : gUq ty) : gz gPP gGG gcn (d + 0) gt119 0 (gent [.ref x] 2) [] h (fun q _ => gSs rT 1027 ty [71014] h q.2.2 ∧ ∃ w1 : Int, gfin gt119 q.1 q.2.1 = some none ∧ q.2.2.2.2.2.2 x 14 = .int (zi w1) ∧ 0 ≤ w1 ∧ w1 ≤ 64 ∧ (w1 = 0)) := by
  have hS : gSs rT 1027 ty [71014] h h := gSs.rf hJ
  refine gz_s 1 (pc' := 1) (L' := [some (.ref x), none]) (S' := [.ref x]) rfl ?_
  refine gs_gtk rfl (by decide) rfl hS.1 tx rfl rfl ewc ?_
  refine gy_s 4 (pc' := 8) (L' := [some (.ref x), some (.int ((zi wc) - (zi 1)))]) (S' := [.int ((zi wc) - (zi 1))]) (L2 := [some (.ref x), some (.int (zi (wc - 1)))]) (S2 := [.int (zi (wc - 1))]) rfl (by simp only [zi_add, zi_sub, zi_mul, zi_neg, zi_and1, zi_and7, zi_and15, zi_and31, zi_and255]) (by simp only [zi_add, zi_sub, zi_mul, zi_neg, zi_and1, zi_and7, zi_and15, zi_and31, zi_and255]) ?_
  by_cases hc1 : (wc - 1 : Int) < 0
  · refine gy_ifT (pc' := 41) rfl (by decide) (by decide) (by omega) hc1 ?_
    refine gz_s 2 (pc' := 43) (L' := [some (.ref x), some (.int (zi (wc - 1)))]) (S' := [.int (zi 0), .ref x]) rfl ?_
    refine gs_put rfl (by decide) rfl hS tx rfl rfl rfl rfl (Or.inl rfl) (by decide) (by omega) (by omega) (fun h2 sh2 eh2 fh2 => ?_)
    have s3 := (fh2 x 11 (fun q => absurd q.2 (by decide))).trans ecg
    exact gz_end (I := .return_) (len := 1) rfl (Or.inl rfl) ⟨sh2, 0, rfl, eh2, (by omega), (by omega), (by omega)⟩
  · refine gy_ifF rfl (by decide) (by decide) (by omega) hc1 ?_
    refine gz_s 1 (pc' := 12) (L' := [some (.ref x), some (.int (zi (wc - 1)))]) (S' := [.ref x]) rfl ?_
    refine gs_gtk rfl (by decide) rfl hS.1 tx rfl rfl ecg ?_
    refine gy_ifT (pc' := 41) rfl (by decide) (by decide) ⟨by omega, by omega⟩ (by first | (simp [zc]; done) | (simp only [zc]; omega)) ?_
    refine gz_s 2 (pc' := 43) (L' := [some (.ref x), some (.int (zi (wc - 1)))]) (S' := [.int (zi 0), .ref x]) rfl ?_
    refine gs_put rfl (by decide) rfl hS tx rfl rfl rfl rfl (Or.inl rfl) (by decide) (by omega) (by omega) (fun h4 sh4 eh4 fh4 => ?_)
    have s5 := (fh4 x 11 (fun q => absurd q.2 (by decide))).trans ecg
    exact gz_end (I := .return_) (len := 1) rfl (Or.inl rfl) ⟨sh4, 0, rfl, eh4, (by omega), (by omega), (by omega)⟩
set_option maxRecDepth 20000 in
set_option maxHeartbeats 4000000 in
theorem cw_putWaiting (d : Nat) {ty : Nat → Nat} {h : gH} (hJ : gJ rT 1027 ty h) (x : Nat) (tx : ty x = 71) (sk : Nat) (esk : h.2.2.2.2 x 0 = .ref sk) (tsk : ty sk = 56) (bt : Nat) (ebt : h.2.2.2.2 sk 0 = .ref bt) (tbt : ty bt = 114) (c0 : Int) (ec0 : h.2.2.2.2 sk 1 = .int (zi c0)) (rc0 : 0 ≤ c0 ∧ c0 ≤ 499999) (u0 : Int) (eu0 : h.2.2.2.2 sk 2 = .int (zi u0)) (ru0 : 0 ≤ u0 ∧ u0 ≤ 127) (h0 : Int) (eh0 : h.2.2.2.2 sk 3 = .int (zi h0)) (rh0 : 0 ≤ h0 ∧ h0 ≤ 7) (cg : Int) (ecg : h.2.2.2.2 x 11 = .int (zi cg)) (rcg : 0 ≤ cg ∧ cg ≤ 0) (wc : Int) (ewc : h.2.2.2.2 x 14 = .int (zi wc)) (rwc : 0 ≤ wc ∧ wc ≤ 64) (sg : gWt) (wq : Int) (pp0 : c0 = sg.1) (pp1 : u0 = sg.2.1) (pp2 : h0 = sg.2.2.1) (pp3 : 4 * c0 + h0 + wc ≤ 1999990) (pp4 : c0 ≤ (h.2.2.2.1 bt : Int)) (uq : gUq ty) (hysw : gSW ty bt sg h) (hyok : eeOk sg) (hywq : gJv ty x wq (Int.toNat wc) h) : gz gPP gGG gcn (d + 4) gt119 0 (gent [.ref x] 2) [] h (fun q _ => ∃ ty9 : Nat → Nat, gSg [114] [] [56000, 56001, 56002, 56003, 71014, 114999] ty h ty9 q.2.2 ∧ ∃ bt2 : Nat, True ∧ ∃ c1 u1 h1 w1 : Int, q.2.2.2.2.2.2 sk 0 = .ref bt2 ∧ ty9 bt2 = 114 ∧ gfin gt119 q.1 q.2.1 = some none ∧ q.2.2.2.2.2.2 sk 1 = .int (zi c1) ∧ 0 ≤ c1 ∧ c1 ≤ 500000 ∧ q.2.2.2.2.2.2 sk 2 = .int (zi u1) ∧ 0 ≤ u1 ∧ u1 ≤ 127 ∧ q.2.2.2.2.2.2 sk 3 = .int (zi h1) ∧ 0 ≤ h1 ∧ h1 ≤ 7 ∧ q.2.2.2.2.2.2 x 14 = .int (zi w1) ∧ 0 ≤ w1 ∧ w1 ≤ 64 ∧ (c1 = (eeN wq (Int.toNat wc) sg).1) ∧ (u1 = (eeN wq (Int.toNat wc) sg).2.1) ∧ (h1 = (eeN wq (Int.toNat wc) sg).2.2.1) ∧ (4 * c1 + h1 ≤ 4 * c0 + h0 + wc) ∧ (c0 ≤ c1) ∧ (1024 * ((q.2.2.1 : Int) - h.1) ≤ (q.2.2.2.2.2.1 bt2 : Int) - h.2.2.2.1 bt) ∧ (((q.2.2.2.1 : Int) - h.2.1) ≤ 2 * ((q.2.2.2.2.2.1 bt2 : Int) - h.2.2.2.1 bt)) ∧ ((h.2.2.2.1 bt : Int) ≤ (q.2.2.2.2.2.1 bt2 : Int)) ∧ (w1 = 0) ∧ (c1 ≤ (q.2.2.2.2.2.1 bt2 : Int)) ∧ (gSW ty9 bt2 (eeN wq (Int.toNat wc) sg) q.2.2) ∧ (eeOk (eeN wq (Int.toNat wc) sg)) ∧ (gJv ty9 x wq 0 q.2.2)) := by
  have hS : gSs rT 1027 ty [56000, 56001, 56002, 56003, 71014, 114999] h h := gSs.rf hJ
  have G0 : gSg [114] [] [56000, 56001, 56002, 56003, 71014, 114999] ty h ty h := gSg.rf hJ (fun x hx => by cases hx)
  refine gz_s 1 (pc' := 1) (L' := [some (.ref x), none]) (S' := [.ref x]) rfl ?_
  refine gs_gtk rfl (by decide) rfl hS.1 tx rfl rfl ewc ?_
  refine gy_s 3 (pc' := 7) (L' := [some (.ref x), some (.int ((zi wc) - (zi 1)))]) (S' := []) (L2 := [some (.ref x), some (.int (zi (wc - 1)))]) (S2 := []) rfl (by simp only [zi_add, zi_sub, zi_mul, zi_neg, zi_and1, zi_and7, zi_and15, zi_and31, zi_and255]) (by simp only [zi_add, zi_sub, zi_mul, zi_neg, zi_and1, zi_and7, zi_and15, zi_and31, zi_and255]) ?_
  have hk2 : eeK wq wc.toNat sg (wc - 1 - (wc - 1)).toNat = sg := by rw [(by omega : (wc - 1 - (wc - 1)).toNat = 0)]; rfl
  have hk2_1 : (eeK wq wc.toNat sg (wc - 1 - (wc - 1)).toNat).1 = (sg).1 := by rw [hk2]
  have hk2_21 : (eeK wq wc.toNat sg (wc - 1 - (wc - 1)).toNat).2.1 = (sg).2.1 := by rw [hk2]
  have hk2_221 : (eeK wq wc.toNat sg (wc - 1 - (wc - 1)).toNat).2.2.1 = (sg).2.2.1 := by rw [hk2]
  have hsw3 : gSW ty bt (eeK wq wc.toNat sg (wc - 1 - (wc - 1)).toNat) h := by rw [hk2]; exact hysw
  have hok4 : eeOk (eeK wq wc.toNat sg (wc - 1 - (wc - 1)).toNat) := by rw [hk2]; exact hyok
  have hoc5 := hok4.cur
  have lp1 : ∀ (fu : Nat) (ty7 : Nat → Nat) (h6 : gH) (bv : Nat) (i : Int) (cv : Int) (uv : Int) (hv : Int), (i + 1).toNat < fu → gSg [114] [] [56000, 56001, 56002, 56003, 71014, 114999] ty h ty7 h6 → gUq ty7 → ty7 x = 71 → ty7 sk = 56 → h6.2.2.2.2 sk 0 = .ref bv → ty7 bv = 114 → ((-1) ≤ i ∧ i ≤ 63) → (0 ≤ cv ∧ cv ≤ 499999) → (0 ≤ uv ∧ uv ≤ 127) → (0 ≤ hv ∧ hv ≤ 7) → (i ≤ wc - 1) → (cv = (eeK wq wc.toNat sg (wc - 1 - i).toNat).1) → (uv = (eeK wq wc.toNat sg (wc - 1 - i).toNat).2.1) → (hv = (eeK wq wc.toNat sg (wc - 1 - i).toNat).2.2.1) → (4 * cv + hv ≤ 4 * c0 + h0 + (wc - 1 - i)) → (c0 ≤ cv) → (1024 * ((h6.1 : Int) - h.1) ≤ (h6.2.2.2.1 bv : Int) - h.2.2.2.1 bt) → (((h6.2.1 : Int) - h.2.1) ≤ 2 * ((h6.2.2.2.1 bv : Int) - h.2.2.2.1 bt)) → ((h.2.2.2.1 bt : Int) ≤ (h6.2.2.2.1 bv : Int)) → (cv ≤ (h6.2.2.2.1 bv : Int)) → h6.2.2.2.2 x 0 = .ref sk → h6.2.2.2.2 x 11 = .int (zi cg) → h6.2.2.2.2 x 14 = .int (zi wc) → h6.2.2.2.2 sk 1 = .int (zi cv) → h6.2.2.2.2 sk 2 = .int (zi uv) → h6.2.2.2.2 sk 3 = .int (zi hv) → gJv ty7 x wq (Int.toNat wc) h6 → gSW ty7 bv (eeK wq wc.toNat sg (wc - 1 - i).toNat) h6 → eeOk (eeK wq wc.toNat sg (wc - 1 - i).toNat) → gz gPP gGG gcn (d + 4) gt119 7 [some (.ref x), some (.int (zi i))] [] h6 (fun q _ => ∃ ty9 : Nat → Nat, gSg [114] [] [56000, 56001, 56002, 56003, 71014, 114999] ty h ty9 q.2.2 ∧ ∃ bt2 : Nat, True ∧ ∃ c1 u1 h1 w1 : Int, q.2.2.2.2.2.2 sk 0 = .ref bt2 ∧ ty9 bt2 = 114 ∧ gfin gt119 q.1 q.2.1 = some none ∧ q.2.2.2.2.2.2 sk 1 = .int (zi c1) ∧ 0 ≤ c1 ∧ c1 ≤ 500000 ∧ q.2.2.2.2.2.2 sk 2 = .int (zi u1) ∧ 0 ≤ u1 ∧ u1 ≤ 127 ∧ q.2.2.2.2.2.2 sk 3 = .int (zi h1) ∧ 0 ≤ h1 ∧ h1 ≤ 7 ∧ q.2.2.2.2.2.2 x 14 = .int (zi w1) ∧ 0 ≤ w1 ∧ w1 ≤ 64 ∧ (c1 = (eeN wq (Int.toNat wc) sg).1) ∧ (u1 = (eeN wq (Int.toNat wc) sg).2.1) ∧ (h1 = (eeN wq (Int.toNat wc) sg).2.2.1) ∧ (4 * c1 + h1 ≤ 4 * c0 + h0 + wc) ∧ (c0 ≤ c1) ∧ (1024 * ((q.2.2.1 : Int) - h.1) ≤ (q.2.2.2.2.2.1 bt2 : Int) - h.2.2.2.1 bt) ∧ (((q.2.2.2.1 : Int) - h.2.1) ≤ 2 * ((q.2.2.2.2.2.1 bt2 : Int) - h.2.2.2.1 bt)) ∧ ((h.2.2.2.1 bt : Int) ≤ (q.2.2.2.2.2.1 bt2 : Int)) ∧ (w1 = 0) ∧ (c1 ≤ (q.2.2.2.2.2.1 bt2 : Int)) ∧ (gSW ty9 bt2 (eeN wq (Int.toNat wc) sg) q.2.2) ∧ (eeOk (eeN wq (Int.toNat wc) sg)) ∧ (gJv ty9 x wq 0 q.2.2)) := by
    intro fu
    induction fu with
    | zero => intro ty7 h6 bv i cv uv hv hm; exact absurd hm (Nat.not_lt_zero _)
    | succ fu ihlp1 =>
      intro ty7 h6 bv i cv uv hv lp1m lp1G lp1u lp1c0 lp1c1 lp1r0 lp1r1 lp1f0 lp1f1 lp1f2 lp1f3 lp1f4 lp1f5 lp1f6 lp1f7 lp1f8 lp1f9 lp1f10 lp1f11 lp1f12 lp1f13 lp1k0 lp1k1 lp1k2 lp1k3 lp1k4 lp1k5 lp1k6 lp1k7 lp1k8
      have sh6 : gSs rT 1027 ty7 [56000, 56001, 56002, 56003, 71014, 114999] h6 h6 := gSs.rf lp1G.1
      refine gz_s 1 (pc' := 8) (L' := [some (.ref x), some (.int (zi i))]) (S' := [.int (zi i)]) rfl ?_
      by_cases hc8 : (i : Int) < 0
      · refine gy_ifT (pc' := 41) rfl (by decide) (by decide) (by omega) hc8 ?_
        have hk9 : eeN wq (Int.toNat wc) sg = eeK wq wc.toNat sg (wc - 1 - i).toNat := by unfold eeN; rw [(by omega : (wc - 1 - i).toNat = wc.toNat)]
        have hk9_1 : (eeN wq (Int.toNat wc) sg).1 = (eeK wq wc.toNat sg (wc - 1 - i).toNat).1 := by rw [hk9]
        have hk9_21 : (eeN wq (Int.toNat wc) sg).2.1 = (eeK wq wc.toNat sg (wc - 1 - i).toNat).2.1 := by rw [hk9]
        have hk9_221 : (eeN wq (Int.toNat wc) sg).2.2.1 = (eeK wq wc.toNat sg (wc - 1 - i).toNat).2.2.1 := by rw [hk9]
        have hsw10 : gSW ty7 bv (eeN wq (Int.toNat wc) sg) h6 := by rw [hk9]; exact lp1k7
        have hok11 : eeOk (eeN wq (Int.toNat wc) sg) := by rw [hk9]; exact lp1k8
        have hoc12 := hok11.cur
        refine gz_s 2 (pc' := 43) (L' := [some (.ref x), some (.int (zi i))]) (S' := [.int (zi 0), .ref x]) rfl ?_
        refine gs_put rfl (by decide) rfl sh6 lp1c0 rfl rfl rfl rfl (Or.inl rfl) (by decide) (by omega) (by omega) (fun h13 sh13 eh13 fh13 => ?_)
        have pr14 := gJv.pk fh13 (sh13.2.2.2.2.1.trans sh6.2.2.2.2.1.symm) lp1c0 (by decide) lp1k6
        have pr15 := gSW.pt fh13 lp1c0 (by decide) hsw10
        have s16 := (fh13 x 0 (fun q => absurd q.2 (by decide))).trans lp1k0
        have s17 := (fh13 x 11 (fun q => absurd q.2 (by decide))).trans lp1k1
        have s18 := (fh13 sk 1 (fun q => absurd q.2 (by decide))).trans lp1k3
        have s19 := (fh13 sk 2 (fun q => absurd q.2 (by decide))).trans lp1k4
        have s20 := (fh13 sk 3 (fun q => absurd q.2 (by decide))).trans lp1k5
        have s21 := (fh13 sk 0 (fun q => absurd q.2 (by decide))).trans lp1r0
        have k22 := sh13.2.1
        have k22b := sh13.2.2.1
        have hl23 : h13.2.2.2.1 bv = h6.2.2.2.1 bv := congrFun sh13.2.2.2.2.1 bv
        have hl24 : 1024 ≤ h13.2.2.2.1 bv ∧ h13.2.2.2.1 bv ≤ 1000000 := gJ.rowl (G := gGG) sh13.1 lp1r1 rfl
        have G25 : gSg [114] [] [56000, 56001, 56002, 56003, 71014, 114999] ty h ty7 h13 := gSg.ss lp1G sh13 (by decide)
        exact gz_end (I := .return_) (len := 1) rfl (Or.inl rfl) ⟨ty7, G25, bv, trivial, cv, uv, hv, 0, s21, lp1r1, rfl, s18, (by omega), (by omega), s19, (by omega), (by omega), s20, (by omega), (by omega), eh13, (by omega), (by omega), (by omega), (by omega), (by omega), (by omega), (by omega), (by dsimp only; omega), (by dsimp only; omega), (by dsimp only; omega), (by omega), (by dsimp only; omega), pr15, hok11, (gJv.low pr14)⟩
      · refine gy_ifF rfl (by decide) (by decide) (by omega) hc8 ?_
        refine gz_s 1 (pc' := 12) (L' := [some (.ref x), some (.int (zi i))]) (S' := [.ref x]) rfl ?_
        refine gs_gtk rfl (by decide) rfl sh6.1 lp1c0 rfl rfl lp1k1 ?_
        refine gy_ifF rfl (by decide) (by decide) ⟨by omega, by omega⟩ (by first | (simp [zc]; done) | (simp only [zc]; omega)) ?_
        refine gz_s 1 (pc' := 19) (L' := [some (.ref x), some (.int (zi i))]) (S' := [.ref x]) rfl ?_
        refine gs_gtk rfl (by decide) rfl sh6.1 lp1c0 rfl rfl lp1k0 ?_
        refine gz_s 1 (pc' := 23) (L' := [some (.ref x), some (.int (zi i))]) (S' := [.ref x, .ref sk]) rfl ?_
        refine gs_getl rfl (by decide) rfl sh6.1 lp1c0 rfl rfl rfl (fun z26 ez26 az26 bz26 => ?_)
        have hbt := gJv.bit (i := i) lp1k6 ez26 (by omega) (by omega)
        refine gz_s 1 (pc' := 27) (L' := [some (.ref x), some (.int (zi i))]) (S' := [.int (zi i), .long (zl z26), .ref sk]) rfl ?_
        refine gy_lshr rfl (by decide) (by omega) (by omega) (fun z27 az27 bz27 cz27 => ?_)
        refine gz_s 1 (pc' := 29) (L' := [some (.ref x), some (.int (zi i))]) (S' := [.long (zl 1), .long (zl z27), .ref sk]) rfl ?_
        refine gy_land1 rfl (by decide) ?_
        refine gy_l2i rfl (by decide) ?_
        refine gz_s 1 (pc' := 32) (L' := [some (.ref x), some (.int (zi i))]) (S' := [.int (zi 1), .int (zi (z27 % 2)), .ref sk]) rfl ?_
        have hl28 : h6.2.2.2.1 bv = h6.2.2.2.1 bv := congrFun sh6.2.2.2.2.1 bv
        refine gz_call rfl (by decide) rfl (by decide) (by decide) (gcal_of rfl rfl rfl (Nat.le_of_ble_eq_true rfl) (gJ.recv (G := gGG) sh6.1 lp1c1 rfl rfl)) (cw_putBits _ sh6.1 sk lp1c1 (z27 % 2) ⟨by omega, by omega⟩ 1 ⟨by omega, by omega⟩ bv lp1r0 lp1r1 cv lp1k3 ⟨by omega, by omega⟩ uv lp1k4 ⟨by omega, by omega⟩ hv lp1k5 ⟨by omega, by omega⟩ (eeK wq wc.toNat sg (wc - 1 - i).toNat) (by omega) (by omega) (by omega) (by omega) (by omega) lp1u lp1k7 lp1k8) (fun q29 _ wq29 => ?_)
        obtain ⟨pq29, oq29, hq29⟩ := q29
        obtain ⟨tyq29, xq29, cq29_0, ttq29, fq29_0, fq29_1, fq29_2, ecq29_0, tcq29_0, gq29, efq29_0, afq29_0, bfq29_0, efq29_1, afq29_1, bfq29_1, efq29_2, afq29_2, bfq29_2, uq29_0, uq29_1, uq29_2, uq29_3, uq29_4, uq29_5, uq29_6, uq29_7, uq29_8, yq29_0, yq29_1⟩ := wq29
        dsimp only at uq29_5 uq29_6 uq29_7 uq29_8
        refine ⟨_, gq29, ?_⟩
        show gz gPP gGG gcn _ _ 35 [some (.ref x), some (.int (zi i))] [] hq29 _
        have G30 : gSg [114] [] [56000, 56001, 56002, 56003, 71014, 114999] ty h tyq29 hq29 := gSg.tr (gSg.ss lp1G sh6 (by decide)) xq29 (by decide) (by decide) (fun x hx => by cases hx)
        have t31 : tyq29 x = 71 := gSg.typ xq29 sh6.1 lp1c0 rfl
        have t32 : tyq29 sk = 56 := gSg.typ xq29 sh6.1 lp1c1 rfl
        have t33 : tyq29 bv = 114 := gSg.typ xq29 sh6.1 lp1r1 rfl
        have hl34 : hq29.2.2.2.1 bv = h6.2.2.2.1 bv := gSg.len xq29 sh6.1 lp1r1 rfl
        have s35 := gSg.at xq29 sh6.1 lp1c0 rfl (by decide) lp1k0
        have s36 := gSg.at xq29 sh6.1 lp1c0 rfl (by decide) lp1k1
        have s37 := gSg.at xq29 sh6.1 lp1c0 rfl (by decide) lp1k2
        have s38 := gSg.at xq29 sh6.1 lp1c0 rfl (by decide) ez26
        have pr39 := gJv.gr xq29 sh6.1 (by decide) lp1k6
        have uq40 := gSg.uq xq29 lp1u (by decide)
        have sS41 : gSs rT 1027 tyq29 [56000, 56001, 56002, 56003, 71014, 114999] hq29 hq29 := gSs.rf xq29.1
        have hk42 : eeK wq wc.toNat sg (wc - 1 - (i + (-1))).toNat = eeN (z27 % 2) (Int.toNat 1) (eeK wq wc.toNat sg (wc - 1 - i).toNat) := by rw [(by omega : (wc - 1 - (i + (-1))).toNat = (wc - 1 - i).toNat + 1)]; show eeb _ (wq / 2 ^ (wc.toNat - 1 - (wc - 1 - i).toNat) % 2) = _; rw [(by omega : wc.toNat - 1 - (wc - 1 - i).toNat = (i).toNat)]; exact (eeN_1 (by rw [← hbt, ← az27]; omega)).symm
        have hk42_1 : (eeK wq wc.toNat sg (wc - 1 - (i + (-1))).toNat).1 = (eeN (z27 % 2) (Int.toNat 1) (eeK wq wc.toNat sg (wc - 1 - i).toNat)).1 := by rw [hk42]
        have hk42_21 : (eeK wq wc.toNat sg (wc - 1 - (i + (-1))).toNat).2.1 = (eeN (z27 % 2) (Int.toNat 1) (eeK wq wc.toNat sg (wc - 1 - i).toNat)).2.1 := by rw [hk42]
        have hk42_221 : (eeK wq wc.toNat sg (wc - 1 - (i + (-1))).toNat).2.2.1 = (eeN (z27 % 2) (Int.toNat 1) (eeK wq wc.toNat sg (wc - 1 - i).toNat)).2.2.1 := by rw [hk42]
        have hsw43 : gSW tyq29 cq29_0 (eeK wq wc.toNat sg (wc - 1 - (i + (-1))).toNat) hq29 := by rw [hk42]; exact yq29_0
        have hok44 : eeOk (eeK wq wc.toNat sg (wc - 1 - (i + (-1))).toNat) := by rw [hk42]; exact yq29_1
        have hoc45 := hok44.cur
        refine gy_s 2 (pc' := 7) (L' := [some (.ref x), some (.int ((zi i) + zi (-1)))]) (S' := []) (L2 := [some (.ref x), some (.int (zi (i + (-1))))]) (S2 := []) rfl (by simp only [zi_add, zi_sub, zi_mul, zi_neg, zi_and1, zi_and7, zi_and15, zi_and31, zi_and255]) (by simp only [zi_add, zi_sub, zi_mul, zi_neg, zi_and1, zi_and7, zi_and15, zi_and31, zi_and255]) ?_
        have hl46 : 1024 ≤ hq29.2.2.2.1 bv ∧ hq29.2.2.2.1 bv ≤ 1000000 := gJ.rowl (G := gGG) sS41.1 t33 rfl
        have hl47 : 1024 ≤ hq29.2.2.2.1 cq29_0 ∧ hq29.2.2.2.1 cq29_0 ≤ 1000000 := gJ.rowl (G := gGG) sS41.1 tcq29_0 rfl
        have G48 : gSg [114] [] [56000, 56001, 56002, 56003, 71014, 114999] ty h tyq29 hq29 := gSg.ss G30 sS41 (by decide)
        exact gz_wk (ihlp1 tyq29 hq29 cq29_0 (i + (-1)) fq29_0 fq29_1 fq29_2 (gms lp1m (by omega) (by omega)) G48 uq40 t31 t32 ecq29_0 tcq29_0 ⟨by omega, by omega⟩ ⟨by omega, by omega⟩ ⟨by omega, by omega⟩ ⟨by omega, by omega⟩ (by omega) (by omega) (by omega) (by omega) (by omega) (by omega) (by omega) (by omega) (by omega) (by omega) s35 s36 s37 efq29_0 efq29_1 efq29_2 pr39 hsw43 hok44) (gLw.s (gLw.s gLw.z))
  have hl49 : 1024 ≤ h.2.2.2.1 bt ∧ h.2.2.2.1 bt ≤ 1000000 := gJ.rowl (G := gGG) hS.1 tbt rfl
  have G50 : gSg [114] [] [56000, 56001, 56002, 56003, 71014, 114999] ty h ty h := gSg.ss G0 hS (by decide)
  exact gz_wk (lp1 _ ty h bt (wc - 1) c0 u0 h0 (Nat.lt_succ_self _) G50 uq tx tsk ebt tbt ⟨by omega, by omega⟩ ⟨by omega, by omega⟩ ⟨by omega, by omega⟩ ⟨by omega, by omega⟩ (by omega) (by omega) (by omega) (by omega) (by omega) (by omega) (by omega) (by omega) (by omega) (by omega) esk ecg ewc ec0 eu0 eh0 hywq hsw3 hok4) (gLw.s (gLw.s gLw.z))
set_option maxRecDepth 20000 in
set_option maxHeartbeats 4000000 in
theorem cn_refineOthers (d : Nat) {ty : Nat → Nat} {h : gH} (hJ : gJ rT 1027 ty h) (x : Nat) (tx : ty x = 71) (p : Int) (rp : 0 ≤ p ∧ p ≤ 960) (cg : Int) (ecg : h.2.2.2.2 x 11 = .int (zi cg)) (rcg : 1 ≤ cg ∧ cg ≤ 1) (fr : Int) (efr : h.2.2.2.2 x 7 = .int (zi fr)) (rfr : 0 ≤ fr ∧ fr ≤ 63) (tt : Int) (ett : h.2.2.2.2 x 8 = .int (zi tt)) (rtt : 0 ≤ tt ∧ tt ≤ 63) (lw : Int) (elw : h.2.2.2.2 x 10 = .int (zi lw)) (rlw : 0 ≤ lw ∧ lw ≤ 3) (bs : Int) (ebs : h.2.2.2.2 x 5 = .int (zi bs)) (rbs : 0 ≤ bs ∧ bs ≤ 16) (w cf : Nat → Int) (pp0 : p + 64 ≤ 64 * bs) (pp1 : fr ≤ tt) (uq : gUq ty) (hyf80 : gRn 257 ty 80 w h) (hywb : ewB w 50000) (hyf73 : gRn (64 * bs).toNat ty 73 cf h) : gz gPP gGG gcn (d + 2) gt117 0 (gent [.ref x, .int (zi p)] 7) [] h (fun q _ => gSs rT 1027 ty [71013, 71014, 80999] h q.2.2 ∧ gfin gt117 q.1 q.2.1 = some none ∧ (gRn 257 ty 80 (eeRz ecS ecP lw cf p fr tt w) q.2.2)) := by
  have hS : gSs rT 1027 ty [71013, 71014, 80999] h h := gSs.rf hJ
  refine gz_s 2 (pc' := 2) (L' := [some (.ref x), some (.int (zi p)), none, none, none, none, none]) (S' := [.int (zi p), .ref x]) rfl ?_
  refine gz_call rfl (by decide) rfl (by decide) (by decide) (gcal_of rfl rfl rfl (Nat.le_of_ble_eq_true rfl) (gJ.recv (G := gGG) hS.1 tx rfl rfl)) (cw_lastNew _ hS.1 x tx p ⟨by omega, by omega⟩ fr efr ⟨by omega, by omega⟩ tt ett ⟨by omega, by omega⟩ lw elw ⟨by omega, by omega⟩ bs ebs ⟨by omega, by omega⟩ cf (by omega) (by omega) uq hyf73) (fun q1 _ wq1 => ?_)
  obtain ⟨pq1, oq1, hq1⟩ := q1
  obtain ⟨xq1, zq1, gq1, aq1, bq1, uq1_0⟩ := wq1
  refine ⟨_, gq1, ?_⟩
  show gz gPP gGG gcn _ _ 5 [some (.ref x), some (.int (zi p)), none, none, none, none, none] [.int (zi zq1)] hq1 _
  have sq1 : gSs rT 1027 ty [71013, 71014, 80999] h hq1 := gSs.tr hS xq1 (by decide)
  have s2 := (xq1.2.2.2.2.2 x 11 (by rw [tx]; decide)).trans ecg
  have s3 := (xq1.2.2.2.2.2 x 7 (by rw [tx]; decide)).trans efr
  have s4 := (xq1.2.2.2.2.2 x 8 (by rw [tx]; decide)).trans ett
  have s5 := (xq1.2.2.2.2.2 x 10 (by rw [tx]; decide)).trans elw
  have s6 := (xq1.2.2.2.2.2 x 5 (by rw [tx]; decide)).trans ebs
  have pr7 := gRn.fr xq1.2 (by decide) hyf80
  have pr8 := gRn.fr xq1.2 (by decide) hyf73
  have hlk9 : zq1 = eeLk lw cf p fr tt := uq1_0
  refine gz_s 5 (pc' := 10) (L' := [some (.ref x), some (.int (zi p)), some (.int (zi zq1)), some (.int (zi 0)), none, none, none]) (S' := [.int (zi 0), .ref x]) rfl ?_
  refine gs_put rfl (by decide) rfl sq1 tx rfl rfl rfl rfl (Or.inl rfl) (by decide) (by omega) (by omega) (fun h9 sh9 eh9 fh9 => ?_)
  have pr10 := gRn.pt fh9 tx (by decide) pr7
  have pr11 := gRn.pt fh9 tx (by decide) pr8
  have s12 := (fh9 x 11 (fun q => absurd q.2 (by decide))).trans s2
  have s13 := (fh9 x 7 (fun q => absurd q.2 (by decide))).trans s3
  have s14 := (fh9 x 8 (fun q => absurd q.2 (by decide))).trans s4
  have s15 := (fh9 x 10 (fun q => absurd q.2 (by decide))).trans s5
  have s16 := (fh9 x 5 (fun q => absurd q.2 (by decide))).trans s6
  refine gz_s 1 (pc' := 14) (L' := [some (.ref x), some (.int (zi p)), some (.int (zi zq1)), some (.int (zi 0)), none, none, none]) (S' := [.ref x]) rfl ?_
  refine gs_gtk rfl (by decide) rfl sh9.1 tx rfl rfl s13 ?_
  refine gz_s 1 (pc' := 19) (L' := [some (.ref x), some (.int (zi p)), some (.int (zi zq1)), some (.int (zi 0)), some (.int (zi fr)), none, none]) (S' := []) rfl ?_
  have hk18 : (eeRk ecS ecP lw cf p fr tt w fr).2.2.2 = w := by rw [eeRk_0]
  have hrw19 : gRn 257 ty 80 ((eeRk ecS ecP lw cf p fr tt w fr).2.2.2) h9 := by rw [hk18]; exact pr10
  have lp17 : ∀ (fu : Nat) (h20 : gH) (rn : Int) (k : Int) (wv : Int), (65 - k).toNat < fu → gSs rT 1027 ty [71013, 71014, 80999] h h20 → (0 ≤ rn ∧ rn ≤ 64) → (0 ≤ k ∧ k ≤ 64) → (0 ≤ wv ∧ wv ≤ 64) → (rn = (eeRk ecS ecP lw cf p fr tt w k).1) → (wv = (((eeRk ecS ecP lw cf p fr tt w k).2.2.1 : Nat) : Int)) → (fr ≤ k) → (k ≤ tt + 1) → (rn + wv ≤ k - fr) → h20.2.2.2.2 x 11 = .int (zi cg) → h20.2.2.2.2 x 7 = .int (zi fr) → h20.2.2.2.2 x 8 = .int (zi tt) → h20.2.2.2.2 x 10 = .int (zi lw) → h20.2.2.2.2 x 5 = .int (zi bs) → h20.2.2.2.2 x 14 = .int (zi wv) → gRn (64 * bs).toNat ty 73 cf h20 → gRn 257 ty 80 ((eeRk ecS ecP lw cf p fr tt w k).2.2.2) h20 → gz gPP gGG gcn (d + 2) gt117 19 [some (.ref x), some (.int (zi p)), some (.int (zi zq1)), some (.int (zi rn)), some (.int (zi k)), none, none] [] h20 (fun q _ => gSs rT 1027 ty [71013, 71014, 80999] h q.2.2 ∧ gfin gt117 q.1 q.2.1 = some none ∧ (gRn 257 ty 80 (eeRz ecS ecP lw cf p fr tt w) q.2.2)) := by
    intro fu
    induction fu with
    | zero => intro h20 rn k wv hm; exact absurd hm (Nat.not_lt_zero _)
    | succ fu ihlp17 =>
      intro h20 rn k wv lp17m sh20 lp17f0 lp17f1 lp17f2 lp17f3 lp17f4 lp17f5 lp17f6 lp17f7 lp17k0 lp17k1 lp17k2 lp17k3 lp17k4 lp17k5 lp17k6 lp17k7
      refine gz_s 2 (pc' := 22) (L' := [some (.ref x), some (.int (zi p)), some (.int (zi zq1)), some (.int (zi rn)), some (.int (zi k)), none, none]) (S' := [.ref x, .int (zi k)]) rfl ?_
      refine gs_gtk rfl (by decide) rfl sh20.1 tx rfl rfl lp17k2 ?_
      by_cases hc21 : (tt : Int) < k
      · refine gy_icT (pc' := 167) rfl (by decide) (by decide) (by omega) (by omega) hc21 ?_
        refine gz_s 1 (pc' := 168) (L' := [some (.ref x), some (.int (zi p)), some (.int (zi zq1)), some (.int (zi rn)), some (.int (zi k)), none, none]) (S' := [.int (zi rn)]) rfl ?_
        by_cases hc22 : (0 : Int) < rn
        · refine gy_ifT (pc' := 178) rfl (by decide) (by decide) (by omega) hc22 ?_
          have hwb23 : ewB ((eeRk ecS ecP lw cf p fr tt w k).2.2.2) 90000 := (ewB.Rk (lw := lw) (cf := cf) (p := p) (tt := tt) hywb (by omega : fr ≤ k)).mono (by omega)
          refine gz_s 3 (pc' := 181) (L' := [some (.ref x), some (.int (zi p)), some (.int (zi zq1)), some (.int (zi rn)), some (.int (zi k)), none, none]) (S' := [.int (zi 0), .int (zi 1), .ref x]) rfl ?_
          refine gz_call rfl (by decide) rfl (by decide) (by decide) (gcal_of rfl rfl rfl (Nat.le_of_ble_eq_true rfl) (gJ.recv (G := gGG) sh20.1 tx rfl rfl)) (cn_putSymbol1 _ sh20.1 x tx 1 ⟨by omega, by omega⟩ 0 ⟨by omega, by omega⟩ cg lp17k0 ⟨by omega, by omega⟩ ((eeRk ecS ecP lw cf p fr tt w k).2.2.2) uq lp17k7 hwb23) (fun q24 _ wq24 => ?_)
          obtain ⟨pq24, oq24, hq24⟩ := q24
          obtain ⟨xq24, gq24, yq24_0⟩ := wq24
          refine ⟨_, gq24, ?_⟩
          show gz gPP gGG gcn _ _ 184 [some (.ref x), some (.int (zi p)), some (.int (zi zq1)), some (.int (zi rn)), some (.int (zi k)), none, none] [] hq24 _
          have sq24 : gSs rT 1027 ty [71013, 71014, 80999] h hq24 := gSs.tr sh20 xq24 (by decide)
          have s25 := (xq24.2.2.2.2.2 x 11 (by rw [tx]; decide)).trans lp17k0
          have s26 := (xq24.2.2.2.2.2 x 7 (by rw [tx]; decide)).trans lp17k1
          have s27 := (xq24.2.2.2.2.2 x 8 (by rw [tx]; decide)).trans lp17k2
          have s28 := (xq24.2.2.2.2.2 x 10 (by rw [tx]; decide)).trans lp17k3
          have s29 := (xq24.2.2.2.2.2 x 5 (by rw [tx]; decide)).trans lp17k4
          have s30 := (xq24.2.2.2.2.2 x 14 (by rw [tx]; decide)).trans lp17k5
          have pr31 := gRn.fr xq24.2 (by decide) lp17k6
          refine gz_s 1 (pc' := 185) (L' := [some (.ref x), some (.int (zi p)), some (.int (zi zq1)), some (.int (zi rn)), some (.int (zi k)), none, none]) (S' := [.ref x]) rfl ?_
          refine gz_call rfl (by decide) rfl (by decide) (by decide) (gcal_of rfl rfl rfl (Nat.le_of_ble_eq_true rfl) (gJ.recv (G := gGG) sq24.1 tx rfl rfl)) (cn_putWaiting _ sq24.1 x tx cg s25 ⟨by omega, by omega⟩ wv s30 ⟨by omega, by omega⟩ uq) (fun q32 _ wq32 => ?_)
          obtain ⟨pq32, oq32, hq32⟩ := q32
          obtain ⟨xq32, fq32_0, gq32, efq32_0, afq32_0, bfq32_0, uq32_0⟩ := wq32
          refine ⟨_, gq32, ?_⟩
          show gz gPP gGG gcn _ _ 188 [some (.ref x), some (.int (zi p)), some (.int (zi zq1)), some (.int (zi rn)), some (.int (zi k)), none, none] [] hq32 _
          have sq32 : gSs rT 1027 ty [71013, 71014, 80999] h hq32 := gSs.tr sq24 xq32 (by decide)
          have s33 := (xq32.2.2.2.2.2 x 11 (by rw [tx]; decide)).trans s25
          have s34 := (xq32.2.2.2.2.2 x 7 (by rw [tx]; decide)).trans s26
          have s35 := (xq32.2.2.2.2.2 x 8 (by rw [tx]; decide)).trans s27
          have s36 := (xq32.2.2.2.2.2 x 10 (by rw [tx]; decide)).trans s28
          have s37 := (xq32.2.2.2.2.2 x 5 (by rw [tx]; decide)).trans s29
          have pr38 := gRn.fr xq32.2 (by decide) pr31
          have pr39 := gRn.fr xq32.2 (by decide) yq24_0
          have hre := eeRk_e (sy := ecS) (pl := ecP) (lw := lw) (p := p) (fr := fr) (tt := tt) (k := k) (cf := cf) (t := w) (by omega) (by omega) (by omega)
          have hk40 : eeRz ecS ecP lw cf p fr tt w = ecS 0 ((eeRk ecS ecP lw cf p fr tt w k).2.2.2) := (hre.1 (by omega)).trans rfl
          have hrw41 : gRn 257 ty 80 (eeRz ecS ecP lw cf p fr tt w) hq32 := by rw [hk40]; exact pr39
          exact gz_end (I := .return_) (len := 1) rfl (Or.inl rfl) ⟨sq32, rfl, hrw41⟩
        · refine gy_ifF rfl (by decide) (by decide) (by omega) hc22 ?_
          refine gz_s 1 (pc' := 172) (L' := [some (.ref x), some (.int (zi p)), some (.int (zi zq1)), some (.int (zi rn)), some (.int (zi k)), none, none]) (S' := [.ref x]) rfl ?_
          refine gs_gtk rfl (by decide) rfl sh20.1 tx rfl rfl lp17k5 ?_
          by_cases hc42 : (wv : Int) ≤ 0
          · refine gy_ifT (pc' := 188) rfl (by decide) (by decide) (by omega) hc42 ?_
            have hre := eeRk_e (sy := ecS) (pl := ecP) (lw := lw) (p := p) (fr := fr) (tt := tt) (k := k) (cf := cf) (t := w) (by omega) (by omega) (by omega)
            have hk43 : eeRz ecS ecP lw cf p fr tt w = (eeRk ecS ecP lw cf p fr tt w k).2.2.2 := hre.2 (by omega)
            have hrw44 : gRn 257 ty 80 (eeRz ecS ecP lw cf p fr tt w) h20 := by rw [hk43]; exact lp17k7
            exact gz_end (I := .return_) (len := 1) rfl (Or.inl rfl) ⟨sh20, rfl, hrw44⟩
          · refine gy_ifF rfl (by decide) (by decide) (by omega) hc42 ?_
            have hwb45 : ewB ((eeRk ecS ecP lw cf p fr tt w k).2.2.2) 90000 := (ewB.Rk (lw := lw) (cf := cf) (p := p) (tt := tt) hywb (by omega : fr ≤ k)).mono (by omega)
            refine gz_s 3 (pc' := 181) (L' := [some (.ref x), some (.int (zi p)), some (.int (zi zq1)), some (.int (zi rn)), some (.int (zi k)), none, none]) (S' := [.int (zi 0), .int (zi 1), .ref x]) rfl ?_
            refine gz_call rfl (by decide) rfl (by decide) (by decide) (gcal_of rfl rfl rfl (Nat.le_of_ble_eq_true rfl) (gJ.recv (G := gGG) sh20.1 tx rfl rfl)) (cn_putSymbol1 _ sh20.1 x tx 1 ⟨by omega, by omega⟩ 0 ⟨by omega, by omega⟩ cg lp17k0 ⟨by omega, by omega⟩ ((eeRk ecS ecP lw cf p fr tt w k).2.2.2) uq lp17k7 hwb45) (fun q46 _ wq46 => ?_)
            obtain ⟨pq46, oq46, hq46⟩ := q46
            obtain ⟨xq46, gq46, yq46_0⟩ := wq46
            refine ⟨_, gq46, ?_⟩
            show gz gPP gGG gcn _ _ 184 [some (.ref x), some (.int (zi p)), some (.int (zi zq1)), some (.int (zi rn)), some (.int (zi k)), none, none] [] hq46 _
            have sq46 : gSs rT 1027 ty [71013, 71014, 80999] h hq46 := gSs.tr sh20 xq46 (by decide)
            have s47 := (xq46.2.2.2.2.2 x 11 (by rw [tx]; decide)).trans lp17k0
            have s48 := (xq46.2.2.2.2.2 x 7 (by rw [tx]; decide)).trans lp17k1
            have s49 := (xq46.2.2.2.2.2 x 8 (by rw [tx]; decide)).trans lp17k2
            have s50 := (xq46.2.2.2.2.2 x 10 (by rw [tx]; decide)).trans lp17k3
            have s51 := (xq46.2.2.2.2.2 x 5 (by rw [tx]; decide)).trans lp17k4
            have s52 := (xq46.2.2.2.2.2 x 14 (by rw [tx]; decide)).trans lp17k5
            have pr53 := gRn.fr xq46.2 (by decide) lp17k6
            refine gz_s 1 (pc' := 185) (L' := [some (.ref x), some (.int (zi p)), some (.int (zi zq1)), some (.int (zi rn)), some (.int (zi k)), none, none]) (S' := [.ref x]) rfl ?_
            refine gz_call rfl (by decide) rfl (by decide) (by decide) (gcal_of rfl rfl rfl (Nat.le_of_ble_eq_true rfl) (gJ.recv (G := gGG) sq46.1 tx rfl rfl)) (cn_putWaiting _ sq46.1 x tx cg s47 ⟨by omega, by omega⟩ wv s52 ⟨by omega, by omega⟩ uq) (fun q54 _ wq54 => ?_)
            obtain ⟨pq54, oq54, hq54⟩ := q54
            obtain ⟨xq54, fq54_0, gq54, efq54_0, afq54_0, bfq54_0, uq54_0⟩ := wq54
            refine ⟨_, gq54, ?_⟩
            show gz gPP gGG gcn _ _ 188 [some (.ref x), some (.int (zi p)), some (.int (zi zq1)), some (.int (zi rn)), some (.int (zi k)), none, none] [] hq54 _
            have sq54 : gSs rT 1027 ty [71013, 71014, 80999] h hq54 := gSs.tr sq46 xq54 (by decide)
            have s55 := (xq54.2.2.2.2.2 x 11 (by rw [tx]; decide)).trans s47
            have s56 := (xq54.2.2.2.2.2 x 7 (by rw [tx]; decide)).trans s48
            have s57 := (xq54.2.2.2.2.2 x 8 (by rw [tx]; decide)).trans s49
            have s58 := (xq54.2.2.2.2.2 x 10 (by rw [tx]; decide)).trans s50
            have s59 := (xq54.2.2.2.2.2 x 5 (by rw [tx]; decide)).trans s51
            have pr60 := gRn.fr xq54.2 (by decide) pr53
            have pr61 := gRn.fr xq54.2 (by decide) yq46_0
            have hre := eeRk_e (sy := ecS) (pl := ecP) (lw := lw) (p := p) (fr := fr) (tt := tt) (k := k) (cf := cf) (t := w) (by omega) (by omega) (by omega)
            have hk62 : eeRz ecS ecP lw cf p fr tt w = ecS 0 ((eeRk ecS ecP lw cf p fr tt w k).2.2.2) := (hre.1 (by omega)).trans rfl
            have hrw63 : gRn 257 ty 80 (eeRz ecS ecP lw cf p fr tt w) hq54 := by rw [hk62]; exact pr61
            exact gz_end (I := .return_) (len := 1) rfl (Or.inl rfl) ⟨sq54, rfl, hrw63⟩
      · refine gy_icF rfl (by decide) (by decide) (by omega) (by omega) hc21 ?_
        refine gz_s 1 (pc' := 29) (L' := [some (.ref x), some (.int (zi p)), some (.int (zi zq1)), some (.int (zi rn)), some (.int (zi k)), none, none]) (S' := [.ref x]) rfl ?_
        refine gs_gtr rfl (by decide) rfl sh20.1 tx rfl rfl rfl (fun c64 ec64 tc64 => ?_)
        refine gy_s 3 (pc' := 36) (L' := [some (.ref x), some (.int (zi p)), some (.int (zi zq1)), some (.int (zi rn)), some (.int (zi k)), none, none]) (S' := [.int ((zi p) + (zi k)), .ref c64]) (L2 := [some (.ref x), some (.int (zi p)), some (.int (zi zq1)), some (.int (zi rn)), some (.int (zi k)), none, none]) (S2 := [.int (zi (p + k)), .ref c64]) rfl (by simp only [zi_add, zi_sub, zi_mul, zi_neg, zi_and1, zi_and7, zi_and15, zi_and31, zi_and255]) (by simp only [zi_add, zi_sub, zi_mul, zi_neg, zi_and1, zi_and7, zi_and15, zi_and31, zi_and255]) ?_
        have hl65 : 1024 ≤ h20.2.2.2.1 c64 ∧ h20.2.2.2.1 c64 ≤ 1024 := gJ.rowl (G := gGG) sh20.1 tc64 rfl
        refine gs_ald rfl (by decide) sh20.1 tc64 rfl rfl rfl (by decide) (fun _ => rfl) (by omega) (by omega) (fun z66 ez66 az66 bz66 => ?_)
        have hf67 := gRn.at (i := p + k) (z := z66) lp17k6 tc64 ez66 (by omega) (by omega) (by omega)
        have hcf : cf (p + k).toNat = z66 := hf67
        refine gz_s 2 (pc' := 41) (L' := [some (.ref x), some (.int (zi p)), some (.int (zi zq1)), some (.int (zi rn)), some (.int (zi k)), some (.int (zi z66)), none]) (S' := [.int (zi z66)]) rfl ?_
        refine gz_call rfl (by decide) rfl (by decide) (by decide) (gcal_of rfl rfl rfl (Nat.le_of_ble_eq_true rfl) rfl) (cl_Math_abs _ sh20.1 z66 ⟨by omega, by omega⟩ ) (fun q68 _ wq68 => ?_)
        obtain ⟨pq68, oq68, hq68⟩ := q68
        obtain ⟨xq68, zq68, gq68, aq68, bq68, uq68_0, uq68_1⟩ := wq68
        refine ⟨_, gq68, ?_⟩
        show gz gPP gGG gcn _ _ 44 [some (.ref x), some (.int (zi p)), some (.int (zi zq1)), some (.int (zi rn)), some (.int (zi k)), some (.int (zi z66)), none] [.int (zi zq68)] hq68 _
        have sq68 : gSs rT 1027 ty [71013, 71014, 80999] h hq68 := gSs.tr sh20 xq68 (by decide)
        have s69 := (xq68.2.2.2.2.2 x 11 (by rw [tx]; decide)).trans lp17k0
        have s70 := (xq68.2.2.2.2.2 x 7 (by rw [tx]; decide)).trans lp17k1
        have s71 := (xq68.2.2.2.2.2 x 8 (by rw [tx]; decide)).trans lp17k2
        have s72 := (xq68.2.2.2.2.2 x 10 (by rw [tx]; decide)).trans lp17k3
        have s73 := (xq68.2.2.2.2.2 x 5 (by rw [tx]; decide)).trans lp17k4
        have s74 := (xq68.2.2.2.2.2 x 14 (by rw [tx]; decide)).trans lp17k5
        have s75 := (xq68.2.2.2.2.2 x 2 (by rw [tx]; decide)).trans ec64
        have pr76 := gRn.fr xq68.2 (by decide) lp17k6
        have pr77 := gRn.fr xq68.2 (by decide) lp17k7
        have hA : zq68 = eeA z66 := eeA_of (by omega) (by omega)
        refine gz_s 1 (pc' := 45) (L' := [some (.ref x), some (.int (zi p)), some (.int (zi zq1)), some (.int (zi rn)), some (.int (zi k)), some (.int (zi z66)), none]) (S' := [.ref x, .int (zi zq68)]) rfl ?_
        refine gs_gtk rfl (by decide) rfl sq68.1 tx rfl rfl s72 ?_
        refine gy_shr rfl (by decide) (by omega) (by omega) ?_
        have hx78 := zsh_b (a := zq68) (n := lw) (by omega)
        refine gz_s 2 (pc' := 53) (L' := [some (.ref x), some (.int (zi p)), some (.int (zi zq1)), some (.int (zi rn)), some (.int (zi k)), some (.int (zi z66)), some (.int (zi (zq68 / 2 ^ (lw).toNat)))]) (S' := [.int (zi (zq68 / 2 ^ (lw).toNat))]) rfl ?_
        by_cases hc79 : ¬ (zq68 / 2 ^ (lw).toNat : Int) = 0
        · refine gy_ifT (pc' := 62) rfl (by decide) (by decide) (by omega) hc79 ?_
          have hk81 : (eeWk ecS ecP (eeRk ecS ecP lw cf p fr tt w k) rn rn).2.2.2 = (eeRk ecS ecP lw cf p fr tt w k).2.2.2 := by rw [eeWk_0]
          have hrw82 : gRn 257 ty 80 ((eeWk ecS ecP (eeRk ecS ecP lw cf p fr tt w k) rn rn).2.2.2) hq68 := by rw [hk81]; exact pr77
          have lp80 : ∀ (fu : Nat) (h83 : gH) (rn2 : Int) (wv2 : Int), (rn2).toNat < fu → gSs rT 1027 ty [71013, 71014, 80999] h h83 → (0 ≤ rn2 ∧ rn2 ≤ 64) → (0 ≤ wv2 ∧ wv2 ≤ 64) → (rn2 ≤ rn) → ((rn - rn2) % 16 = 0) → (rn2 = rn ∨ k ≤ eeLk lw cf p fr tt) → (rn2 = (eeWk ecS ecP (eeRk ecS ecP lw cf p fr tt w k) rn rn2).1) → (wv2 = (((eeWk ecS ecP (eeRk ecS ecP lw cf p fr tt w k) rn rn2).2.2.1 : Nat) : Int)) → (wv2 ≤ wv) → h83.2.2.2.2 x 11 = .int (zi cg) → h83.2.2.2.2 x 7 = .int (zi fr) → h83.2.2.2.2 x 8 = .int (zi tt) → h83.2.2.2.2 x 10 = .int (zi lw) → h83.2.2.2.2 x 5 = .int (zi bs) → h83.2.2.2.2 x 2 = .ref c64 → h83.2.2.2.2 x 14 = .int (zi wv2) → gRn (64 * bs).toNat ty 73 cf h83 → gRn 257 ty 80 ((eeWk ecS ecP (eeRk ecS ecP lw cf p fr tt w k) rn rn2).2.2.2) h83 → gz gPP gGG gcn (d + 2) gt117 62 [some (.ref x), some (.int (zi p)), some (.int (zi zq1)), some (.int (zi rn2)), some (.int (zi k)), some (.int (zi z66)), some (.int (zi (zq68 / 2 ^ (lw).toNat)))] [] h83 (fun q _ => gSs rT 1027 ty [71013, 71014, 80999] h q.2.2 ∧ gfin gt117 q.1 q.2.1 = some none ∧ (gRn 257 ty 80 (eeRz ecS ecP lw cf p fr tt w) q.2.2)) := by
            intro fu
            induction fu with
            | zero => intro h83 rn2 wv2 hm; exact absurd hm (Nat.not_lt_zero _)
            | succ fu ihlp80 =>
              intro h83 rn2 wv2 lp80m sh83 lp80f0 lp80f1 lp80f2 lp80f3 lp80f4 lp80f5 lp80f6 lp80f7 lp80k0 lp80k1 lp80k2 lp80k3 lp80k4 lp80k5 lp80k6 lp80k7 lp80k8
              refine gz_s 2 (pc' := 65) (L' := [some (.ref x), some (.int (zi p)), some (.int (zi zq1)), some (.int (zi rn2)), some (.int (zi k)), some (.int (zi z66)), some (.int (zi (zq68 / 2 ^ (lw).toNat)))]) (S' := [.int (zi 15), .int (zi rn2)]) rfl ?_
              by_cases hc84 : (rn2 : Int) ≤ 15
              · refine gy_icT (pc' := 92) rfl (by decide) (by decide) (by omega) (by omega) hc84 ?_
                refine gz_s 2 (pc' := 95) (L' := [some (.ref x), some (.int (zi p)), some (.int (zi zq1)), some (.int (zi rn2)), some (.int (zi k)), some (.int (zi z66)), some (.int (zi (zq68 / 2 ^ (lw).toNat)))]) (S' := [.int (zi 1), .int (zi (zq68 / 2 ^ (lw).toNat))]) rfl ?_
                by_cases hc85 : (zq68 / 2 ^ (lw).toNat : Int) ≤ 1
                · refine gy_icT (pc' := 129) rfl (by decide) (by decide) (by omega) (by omega) hc85 ?_
                  have hk9 : k ≤ eeLk lw cf p fr tt := eeLk_1 (by omega) (by omega) (by omega) (by omega) hcf (by rw [← hA]; omega)
                  have hwb86 : ewB ((eeWk ecS ecP (eeRk ecS ecP lw cf p fr tt w k) rn rn2).2.2.2) 90000 := ((ewB.Rk (lw := lw) (cf := cf) (p := p) (tt := tt) hywb (by omega : fr ≤ k)).Wk (by omega : rn2 ≤ rn)).mono (by omega)
                  refine gy_s 7 (pc' := 137) (L' := [some (.ref x), some (.int (zi p)), some (.int (zi zq1)), some (.int (zi rn2)), some (.int (zi k)), some (.int (zi z66)), some (.int (zi (zq68 / 2 ^ (lw).toNat)))]) (S' := [.int (((zi 16) * (zi rn2)) + (zi 1)), .int (zi 1), .ref x]) (L2 := [some (.ref x), some (.int (zi p)), some (.int (zi zq1)), some (.int (zi rn2)), some (.int (zi k)), some (.int (zi z66)), some (.int (zi (zq68 / 2 ^ (lw).toNat)))]) (S2 := [.int (zi ((16 * rn2) + 1)), .int (zi 1), .ref x]) rfl (by simp only [zi_add, zi_sub, zi_mul, zi_neg, zi_and1, zi_and7, zi_and15, zi_and31, zi_and255]) (by simp only [zi_add, zi_sub, zi_mul, zi_neg, zi_and1, zi_and7, zi_and15, zi_and31, zi_and255]) ?_
                  refine gz_call rfl (by decide) rfl (by decide) (by decide) (gcal_of rfl rfl rfl (Nat.le_of_ble_eq_true rfl) (gJ.recv (G := gGG) sh83.1 tx rfl rfl)) (cn_putSymbol1 _ sh83.1 x tx 1 ⟨by omega, by omega⟩ ((16 * rn2) + 1) ⟨by omega, by omega⟩ cg lp80k0 ⟨by omega, by omega⟩ ((eeWk ecS ecP (eeRk ecS ecP lw cf p fr tt w k) rn rn2).2.2.2) uq lp80k8 hwb86) (fun q87 _ wq87 => ?_)
                  obtain ⟨pq87, oq87, hq87⟩ := q87
                  obtain ⟨xq87, gq87, yq87_0⟩ := wq87
                  refine ⟨_, gq87, ?_⟩
                  show gz gPP gGG gcn _ _ 140 [some (.ref x), some (.int (zi p)), some (.int (zi zq1)), some (.int (zi rn2)), some (.int (zi k)), some (.int (zi z66)), some (.int (zi (zq68 / 2 ^ (lw).toNat)))] [] hq87 _
                  have sq87 : gSs rT 1027 ty [71013, 71014, 80999] h hq87 := gSs.tr sh83 xq87 (by decide)
                  have s88 := (xq87.2.2.2.2.2 x 11 (by rw [tx]; decide)).trans lp80k0
                  have s89 := (xq87.2.2.2.2.2 x 7 (by rw [tx]; decide)).trans lp80k1
                  have s90 := (xq87.2.2.2.2.2 x 8 (by rw [tx]; decide)).trans lp80k2
                  have s91 := (xq87.2.2.2.2.2 x 10 (by rw [tx]; decide)).trans lp80k3
                  have s92 := (xq87.2.2.2.2.2 x 5 (by rw [tx]; decide)).trans lp80k4
                  have s93 := (xq87.2.2.2.2.2 x 2 (by rw [tx]; decide)).trans lp80k5
                  have s94 := (xq87.2.2.2.2.2 x 14 (by rw [tx]; decide)).trans lp80k6
                  have pr95 := gRn.fr xq87.2 (by decide) lp80k7
                  refine gz_s 2 (pc' := 143) (L' := [some (.ref x), some (.int (zi p)), some (.int (zi zq1)), some (.int (zi rn2)), some (.int (zi k)), some (.int (zi z66)), some (.int (zi (zq68 / 2 ^ (lw).toNat)))]) (S' := [.int (zi z66), .ref x]) rfl ?_
                  by_cases hc96 : (0 : Int) ≤ z66
                  · refine gy_ifT (pc' := 150) rfl (by decide) (by decide) (by omega) hc96 ?_
                    refine gz_s 2 (pc' := 152) (L' := [some (.ref x), some (.int (zi p)), some (.int (zi zq1)), some (.int (zi rn2)), some (.int (zi k)), some (.int (zi z66)), some (.int (zi (zq68 / 2 ^ (lw).toNat)))]) (S' := [.int (zi 1), .int (zi 1), .ref x]) rfl ?_
                    refine gz_call rfl (by decide) rfl (by decide) (by decide) (gcal_of rfl rfl rfl (Nat.le_of_ble_eq_true rfl) (gJ.recv (G := gGG) sq87.1 tx rfl rfl)) (cn_putPlain _ sq87.1 x tx 1 ⟨by omega, by omega⟩ 1 ⟨by omega, by omega⟩ cg s88 ⟨by omega, by omega⟩ uq) (fun q97 _ wq97 => ?_)
                    obtain ⟨pq97, oq97, hq97⟩ := q97
                    obtain ⟨xq97, gq97⟩ := wq97
                    refine ⟨_, gq97, ?_⟩
                    show gz gPP gGG gcn _ _ 155 [some (.ref x), some (.int (zi p)), some (.int (zi zq1)), some (.int (zi rn2)), some (.int (zi k)), some (.int (zi z66)), some (.int (zi (zq68 / 2 ^ (lw).toNat)))] [] hq97 _
                    have sq97 : gSs rT 1027 ty [71013, 71014, 80999] h hq97 := gSs.tr sq87 xq97 (by decide)
                    have s98 := (xq97.2.2.2.2.2 x 11 (by rw [tx]; decide)).trans s88
                    have s99 := (xq97.2.2.2.2.2 x 7 (by rw [tx]; decide)).trans s89
                    have s100 := (xq97.2.2.2.2.2 x 8 (by rw [tx]; decide)).trans s90
                    have s101 := (xq97.2.2.2.2.2 x 10 (by rw [tx]; decide)).trans s91
                    have s102 := (xq97.2.2.2.2.2 x 5 (by rw [tx]; decide)).trans s92
                    have s103 := (xq97.2.2.2.2.2 x 2 (by rw [tx]; decide)).trans s93
                    have s104 := (xq97.2.2.2.2.2 x 14 (by rw [tx]; decide)).trans s94
                    have pr105 := gRn.fr xq97.2 (by decide) pr95
                    have pr106 := gRn.fr xq97.2 (by decide) yq87_0
                    refine gz_s 1 (pc' := 156) (L' := [some (.ref x), some (.int (zi p)), some (.int (zi zq1)), some (.int (zi rn2)), some (.int (zi k)), some (.int (zi z66)), some (.int (zi (zq68 / 2 ^ (lw).toNat)))]) (S' := [.ref x]) rfl ?_
                    refine gz_call rfl (by decide) rfl (by decide) (by decide) (gcal_of rfl rfl rfl (Nat.le_of_ble_eq_true rfl) (gJ.recv (G := gGG) sq97.1 tx rfl rfl)) (cn_putWaiting _ sq97.1 x tx cg s98 ⟨by omega, by omega⟩ wv2 s104 ⟨by omega, by omega⟩ uq) (fun q107 _ wq107 => ?_)
                    obtain ⟨pq107, oq107, hq107⟩ := q107
                    obtain ⟨xq107, fq107_0, gq107, efq107_0, afq107_0, bfq107_0, uq107_0⟩ := wq107
                    refine ⟨_, gq107, ?_⟩
                    show gz gPP gGG gcn _ _ 159 [some (.ref x), some (.int (zi p)), some (.int (zi zq1)), some (.int (zi rn2)), some (.int (zi k)), some (.int (zi z66)), some (.int (zi (zq68 / 2 ^ (lw).toNat)))] [] hq107 _
                    have sq107 : gSs rT 1027 ty [71013, 71014, 80999] h hq107 := gSs.tr sq97 xq107 (by decide)
                    have s108 := (xq107.2.2.2.2.2 x 11 (by rw [tx]; decide)).trans s98
                    have s109 := (xq107.2.2.2.2.2 x 7 (by rw [tx]; decide)).trans s99
                    have s110 := (xq107.2.2.2.2.2 x 8 (by rw [tx]; decide)).trans s100
                    have s111 := (xq107.2.2.2.2.2 x 10 (by rw [tx]; decide)).trans s101
                    have s112 := (xq107.2.2.2.2.2 x 5 (by rw [tx]; decide)).trans s102
                    have s113 := (xq107.2.2.2.2.2 x 2 (by rw [tx]; decide)).trans s103
                    have pr114 := gRn.fr xq107.2 (by decide) pr105
                    have pr115 := gRn.fr xq107.2 (by decide) pr106
                    refine gz_s 2 (pc' := 161) (L' := [some (.ref x), some (.int (zi p)), some (.int (zi zq1)), some (.int (zi 0)), some (.int (zi k)), some (.int (zi z66)), some (.int (zi (zq68 / 2 ^ (lw).toNat)))]) (S' := []) rfl ?_
                    have hR : eeRk ecS ecP lw cf p fr tt w (k + 1) = (0, (eeWk ecS ecP (eeRk ecS ecP lw cf p fr tt w k) rn rn2).2.1, 0, ecS ((16 * rn2) + 1) ((eeWk ecS ecP (eeRk ecS ecP lw cf p fr tt w k) rn rn2).2.2.2)) := (eeRk_1 (a := zq68 / 2 ^ (lw).toNat) (s := (16 * rn2) + 1) (V := 1) (by omega) (by omega) (by omega) hcf (by rw [hA]) (by omega) (by omega) ⟨by omega, by omega⟩ (by omega) (by omega) (by omega) (by omega)).trans rfl
                    have hR_1 : (eeRk ecS ecP lw cf p fr tt w (k + 1)).1 = 0 := by rw [hR]
                    have hR_21 : (eeRk ecS ecP lw cf p fr tt w (k + 1)).2.1 = (eeWk ecS ecP (eeRk ecS ecP lw cf p fr tt w k) rn rn2).2.1 := by rw [hR]
                    have hR_221 : (eeRk ecS ecP lw cf p fr tt w (k + 1)).2.2.1 = 0 := by rw [hR]
                    have hk116 : (eeRk ecS ecP lw cf p fr tt w (k + 1)).2.2.2 = ecS ((16 * rn2) + 1) ((eeWk ecS ecP (eeRk ecS ecP lw cf p fr tt w k) rn rn2).2.2.2) := by rw [hR]
                    have hrw117 : gRn 257 ty 80 ((eeRk ecS ecP lw cf p fr tt w (k + 1)).2.2.2) hq107 := by rw [hk116]; exact pr115
                    refine gy_s 2 (pc' := 19) (L' := [some (.ref x), some (.int (zi p)), some (.int (zi zq1)), some (.int (zi 0)), some (.int ((zi k) + zi 1)), some (.int (zi z66)), some (.int (zi (zq68 / 2 ^ (lw).toNat)))]) (S' := []) (L2 := [some (.ref x), some (.int (zi p)), some (.int (zi zq1)), some (.int (zi 0)), some (.int (zi (k + 1))), some (.int (zi z66)), some (.int (zi (zq68 / 2 ^ (lw).toNat)))]) (S2 := []) rfl (by simp only [zi_add, zi_sub, zi_mul, zi_neg, zi_and1, zi_and7, zi_and15, zi_and31, zi_and255]) (by simp only [zi_add, zi_sub, zi_mul, zi_neg, zi_and1, zi_and7, zi_and15, zi_and31, zi_and255]) ?_
                    exact gz_wk (ihlp17 hq107 0 (k + 1) fq107_0 (by omega) sq107 (by omega) (by omega) (by omega) (by omega) (by omega) (by omega) (by omega) (by omega) s108 s109 s110 s111 s112 efq107_0 pr114 hrw117) (gLw.s (gLw.s (gLw.s (gLw.s (gLw.s (gLw.n (gLw.n gLw.z)))))))
                  · refine gy_ifF rfl (by decide) (by decide) (by omega) hc96 ?_
                    refine gz_s 3 (pc' := 152) (L' := [some (.ref x), some (.int (zi p)), some (.int (zi zq1)), some (.int (zi rn2)), some (.int (zi k)), some (.int (zi z66)), some (.int (zi (zq68 / 2 ^ (lw).toNat)))]) (S' := [.int (zi 1), .int (zi 0), .ref x]) rfl ?_
                    refine gz_call rfl (by decide) rfl (by decide) (by decide) (gcal_of rfl rfl rfl (Nat.le_of_ble_eq_true rfl) (gJ.recv (G := gGG) sq87.1 tx rfl rfl)) (cn_putPlain _ sq87.1 x tx 0 ⟨by omega, by omega⟩ 1 ⟨by omega, by omega⟩ cg s88 ⟨by omega, by omega⟩ uq) (fun q118 _ wq118 => ?_)
                    obtain ⟨pq118, oq118, hq118⟩ := q118
                    obtain ⟨xq118, gq118⟩ := wq118
                    refine ⟨_, gq118, ?_⟩
                    show gz gPP gGG gcn _ _ 155 [some (.ref x), some (.int (zi p)), some (.int (zi zq1)), some (.int (zi rn2)), some (.int (zi k)), some (.int (zi z66)), some (.int (zi (zq68 / 2 ^ (lw).toNat)))] [] hq118 _
                    have sq118 : gSs rT 1027 ty [71013, 71014, 80999] h hq118 := gSs.tr sq87 xq118 (by decide)
                    have s119 := (xq118.2.2.2.2.2 x 11 (by rw [tx]; decide)).trans s88
                    have s120 := (xq118.2.2.2.2.2 x 7 (by rw [tx]; decide)).trans s89
                    have s121 := (xq118.2.2.2.2.2 x 8 (by rw [tx]; decide)).trans s90
                    have s122 := (xq118.2.2.2.2.2 x 10 (by rw [tx]; decide)).trans s91
                    have s123 := (xq118.2.2.2.2.2 x 5 (by rw [tx]; decide)).trans s92
                    have s124 := (xq118.2.2.2.2.2 x 2 (by rw [tx]; decide)).trans s93
                    have s125 := (xq118.2.2.2.2.2 x 14 (by rw [tx]; decide)).trans s94
                    have pr126 := gRn.fr xq118.2 (by decide) pr95
                    have pr127 := gRn.fr xq118.2 (by decide) yq87_0
                    refine gz_s 1 (pc' := 156) (L' := [some (.ref x), some (.int (zi p)), some (.int (zi zq1)), some (.int (zi rn2)), some (.int (zi k)), some (.int (zi z66)), some (.int (zi (zq68 / 2 ^ (lw).toNat)))]) (S' := [.ref x]) rfl ?_
                    refine gz_call rfl (by decide) rfl (by decide) (by decide) (gcal_of rfl rfl rfl (Nat.le_of_ble_eq_true rfl) (gJ.recv (G := gGG) sq118.1 tx rfl rfl)) (cn_putWaiting _ sq118.1 x tx cg s119 ⟨by omega, by omega⟩ wv2 s125 ⟨by omega, by omega⟩ uq) (fun q128 _ wq128 => ?_)
                    obtain ⟨pq128, oq128, hq128⟩ := q128
                    obtain ⟨xq128, fq128_0, gq128, efq128_0, afq128_0, bfq128_0, uq128_0⟩ := wq128
                    refine ⟨_, gq128, ?_⟩
                    show gz gPP gGG gcn _ _ 159 [some (.ref x), some (.int (zi p)), some (.int (zi zq1)), some (.int (zi rn2)), some (.int (zi k)), some (.int (zi z66)), some (.int (zi (zq68 / 2 ^ (lw).toNat)))] [] hq128 _
                    have sq128 : gSs rT 1027 ty [71013, 71014, 80999] h hq128 := gSs.tr sq118 xq128 (by decide)
                    have s129 := (xq128.2.2.2.2.2 x 11 (by rw [tx]; decide)).trans s119
                    have s130 := (xq128.2.2.2.2.2 x 7 (by rw [tx]; decide)).trans s120
                    have s131 := (xq128.2.2.2.2.2 x 8 (by rw [tx]; decide)).trans s121
                    have s132 := (xq128.2.2.2.2.2 x 10 (by rw [tx]; decide)).trans s122
                    have s133 := (xq128.2.2.2.2.2 x 5 (by rw [tx]; decide)).trans s123
                    have s134 := (xq128.2.2.2.2.2 x 2 (by rw [tx]; decide)).trans s124
                    have pr135 := gRn.fr xq128.2 (by decide) pr126
                    have pr136 := gRn.fr xq128.2 (by decide) pr127
                    refine gz_s 2 (pc' := 161) (L' := [some (.ref x), some (.int (zi p)), some (.int (zi zq1)), some (.int (zi 0)), some (.int (zi k)), some (.int (zi z66)), some (.int (zi (zq68 / 2 ^ (lw).toNat)))]) (S' := []) rfl ?_
                    have hR : eeRk ecS ecP lw cf p fr tt w (k + 1) = (0, (eeWk ecS ecP (eeRk ecS ecP lw cf p fr tt w k) rn rn2).2.1, 0, ecS ((16 * rn2) + 1) ((eeWk ecS ecP (eeRk ecS ecP lw cf p fr tt w k) rn rn2).2.2.2)) := (eeRk_1 (a := zq68 / 2 ^ (lw).toNat) (s := (16 * rn2) + 1) (V := 0) (by omega) (by omega) (by omega) hcf (by rw [hA]) (by omega) (by omega) ⟨by omega, by omega⟩ (by omega) (by omega) (by omega) (by omega)).trans rfl
                    have hR_1 : (eeRk ecS ecP lw cf p fr tt w (k + 1)).1 = 0 := by rw [hR]
                    have hR_21 : (eeRk ecS ecP lw cf p fr tt w (k + 1)).2.1 = (eeWk ecS ecP (eeRk ecS ecP lw cf p fr tt w k) rn rn2).2.1 := by rw [hR]
                    have hR_221 : (eeRk ecS ecP lw cf p fr tt w (k + 1)).2.2.1 = 0 := by rw [hR]
                    have hk137 : (eeRk ecS ecP lw cf p fr tt w (k + 1)).2.2.2 = ecS ((16 * rn2) + 1) ((eeWk ecS ecP (eeRk ecS ecP lw cf p fr tt w k) rn rn2).2.2.2) := by rw [hR]
                    have hrw138 : gRn 257 ty 80 ((eeRk ecS ecP lw cf p fr tt w (k + 1)).2.2.2) hq128 := by rw [hk137]; exact pr136
                    refine gy_s 2 (pc' := 19) (L' := [some (.ref x), some (.int (zi p)), some (.int (zi zq1)), some (.int (zi 0)), some (.int ((zi k) + zi 1)), some (.int (zi z66)), some (.int (zi (zq68 / 2 ^ (lw).toNat)))]) (S' := []) (L2 := [some (.ref x), some (.int (zi p)), some (.int (zi zq1)), some (.int (zi 0)), some (.int (zi (k + 1))), some (.int (zi z66)), some (.int (zi (zq68 / 2 ^ (lw).toNat)))]) (S2 := []) rfl (by simp only [zi_add, zi_sub, zi_mul, zi_neg, zi_and1, zi_and7, zi_and15, zi_and31, zi_and255]) (by simp only [zi_add, zi_sub, zi_mul, zi_neg, zi_and1, zi_and7, zi_and15, zi_and31, zi_and255]) ?_
                    exact gz_wk (ihlp17 hq128 0 (k + 1) fq128_0 (by omega) sq128 (by omega) (by omega) (by omega) (by omega) (by omega) (by omega) (by omega) (by omega) s129 s130 s131 s132 s133 efq128_0 pr135 hrw138) (gLw.s (gLw.s (gLw.s (gLw.s (gLw.s (gLw.n (gLw.n gLw.z)))))))
                · refine gy_icF rfl (by decide) (by decide) (by omega) (by omega) hc85 ?_
                  refine gz_s 1 (pc' := 99) (L' := [some (.ref x), some (.int (zi p)), some (.int (zi zq1)), some (.int (zi rn2)), some (.int (zi k)), some (.int (zi z66)), some (.int (zi (zq68 / 2 ^ (lw).toNat)))]) (S' := [.ref x]) rfl ?_
                  refine gz_1 rfl (by decide) rfl rfl (pc' := 102) (S' := [.long (zl 2), .ref x]) (h' := h83) rfl ?_
                  refine gz_s 1 (pc' := 103) (L' := [some (.ref x), some (.int (zi p)), some (.int (zi zq1)), some (.int (zi rn2)), some (.int (zi k)), some (.int (zi z66)), some (.int (zi (zq68 / 2 ^ (lw).toNat)))]) (S' := [.ref x, .long (zl 2), .ref x]) rfl ?_
                  refine gs_getl rfl (by decide) rfl sh83.1 tx rfl rfl rfl (fun z139 ez139 az139 bz139 => ?_)
                  refine gy_s 1 (pc' := 107) (L' := [some (.ref x), some (.int (zi p)), some (.int (zi zq1)), some (.int (zi rn2)), some (.int (zi k)), some (.int (zi z66)), some (.int (zi (zq68 / 2 ^ (lw).toNat)))]) (S' := [.long ((zl 2) * (zl z139)), .ref x]) (L2 := [some (.ref x), some (.int (zi p)), some (.int (zi zq1)), some (.int (zi rn2)), some (.int (zi k)), some (.int (zi z66)), some (.int (zi (zq68 / 2 ^ (lw).toNat)))]) (S2 := [.long (zl (2 * z139)), .ref x]) rfl (by simp only [zi_add, zi_sub, zi_mul, zi_neg, zi_and1, zi_and7, zi_and15, zi_and31, zi_and255, zl_add, zl_sub, zl_mul, zl_neg]) (by simp only [zi_add, zi_sub, zi_mul, zi_neg, zi_and1, zi_and7, zi_and15, zi_and31, zi_and255, zl_add, zl_sub, zl_mul, zl_neg]) ?_
                  refine gy_lany (fun z140 ez140 az140 bz140 => ?_)
                  refine gy_s 3 (pc' := 111) (L' := [some (.ref x), some (.int (zi p)), some (.int (zi zq1)), some (.int (zi rn2)), some (.int (zi k)), some (.int (zi z66)), some (.int (zi (zq68 / 2 ^ (lw).toNat)))]) (S' := [.int ((zi (zq68 / 2 ^ (lw).toNat)) &&& (zi 1)), .long (zl z140), .ref x]) (L2 := [some (.ref x), some (.int (zi p)), some (.int (zi zq1)), some (.int (zi rn2)), some (.int (zi k)), some (.int (zi z66)), some (.int (zi (zq68 / 2 ^ (lw).toNat)))]) (S2 := [.int (zi ((zq68 / 2 ^ (lw).toNat) % 2)), .long (zl z140), .ref x]) rfl (by simp only [zi_add, zi_sub, zi_mul, zi_neg, zi_and1, zi_and7, zi_and15, zi_and31, zi_and255, zl_add, zl_sub, zl_mul, zl_neg]) (by simp only [zi_add, zi_sub, zi_mul, zi_neg, zi_and1, zi_and7, zi_and15, zi_and31, zi_and255, zl_add, zl_sub, zl_mul, zl_neg]) ?_
                  refine gy_i2l rfl (by decide) ⟨by omega, by omega⟩ ?_
                  refine gy_s 1 (pc' := 113) (L' := [some (.ref x), some (.int (zi p)), some (.int (zi zq1)), some (.int (zi rn2)), some (.int (zi k)), some (.int (zi z66)), some (.int (zi (zq68 / 2 ^ (lw).toNat)))]) (S' := [.long ((zl z140) + (zl ((zq68 / 2 ^ (lw).toNat) % 2))), .ref x]) (L2 := [some (.ref x), some (.int (zi p)), some (.int (zi zq1)), some (.int (zi rn2)), some (.int (zi k)), some (.int (zi z66)), some (.int (zi (zq68 / 2 ^ (lw).toNat)))]) (S2 := [.long (zl (z140 + ((zq68 / 2 ^ (lw).toNat) % 2))), .ref x]) rfl (by simp only [zi_add, zi_sub, zi_mul, zi_neg, zi_and1, zi_and7, zi_and15, zi_and31, zi_and255, zl_add, zl_sub, zl_mul, zl_neg]) (by simp only [zi_add, zi_sub, zi_mul, zi_neg, zi_and1, zi_and7, zi_and15, zi_and31, zi_and255, zl_add, zl_sub, zl_mul, zl_neg]) ?_
                  refine gy_lany (fun z141 ez141 az141 bz141 => ?_)
                  refine gs_putl rfl (by decide) rfl sh83 tx rfl rfl rfl rfl (Or.inl rfl) (by decide) (by omega) (by omega) (fun h142 sh142 eh142 fh142 => ?_)
                  have pr143 := gRn.pt fh142 tx (by decide) lp80k7
                  have pr144 := gRn.pt fh142 tx (by decide) lp80k8
                  have s145 := (fh142 x 11 (fun q => absurd q.2 (by decide))).trans lp80k0
                  have s146 := (fh142 x 7 (fun q => absurd q.2 (by decide))).trans lp80k1
                  have s147 := (fh142 x 8 (fun q => absurd q.2 (by decide))).trans lp80k2
                  have s148 := (fh142 x 10 (fun q => absurd q.2 (by decide))).trans lp80k3
                  have s149 := (fh142 x 5 (fun q => absurd q.2 (by decide))).trans lp80k4
                  have s150 := (fh142 x 2 (fun q => absurd q.2 (by decide))).trans lp80k5
                  have s151 := (fh142 x 14 (fun q => absurd q.2 (by decide))).trans lp80k6
                  refine gz_s 2 (pc' := 118) (L' := [some (.ref x), some (.int (zi p)), some (.int (zi zq1)), some (.int (zi rn2)), some (.int (zi k)), some (.int (zi z66)), some (.int (zi (zq68 / 2 ^ (lw).toNat)))]) (S' := [.ref x, .ref x]) rfl ?_
                  refine gs_gtk rfl (by decide) rfl sh142.1 tx rfl rfl s151 ?_
                  refine gy_s 2 (pc' := 123) (L' := [some (.ref x), some (.int (zi p)), some (.int (zi zq1)), some (.int (zi rn2)), some (.int (zi k)), some (.int (zi z66)), some (.int (zi (zq68 / 2 ^ (lw).toNat)))]) (S' := [.int ((zi wv2) + (zi 1)), .ref x]) (L2 := [some (.ref x), some (.int (zi p)), some (.int (zi zq1)), some (.int (zi rn2)), some (.int (zi k)), some (.int (zi z66)), some (.int (zi (zq68 / 2 ^ (lw).toNat)))]) (S2 := [.int (zi (wv2 + 1)), .ref x]) rfl (by simp only [zi_add, zi_sub, zi_mul, zi_neg, zi_and1, zi_and7, zi_and15, zi_and31, zi_and255]) (by simp only [zi_add, zi_sub, zi_mul, zi_neg, zi_and1, zi_and7, zi_and15, zi_and31, zi_and255]) ?_
                  refine gs_put rfl (by decide) rfl sh142 tx rfl rfl rfl rfl (Or.inl rfl) (by decide) (by omega) (by omega) (fun h152 sh152 eh152 fh152 => ?_)
                  have pr153 := gRn.pt fh152 tx (by decide) pr143
                  have pr154 := gRn.pt fh152 tx (by decide) pr144
                  have s155 := (fh152 x 11 (fun q => absurd q.2 (by decide))).trans s145
                  have s156 := (fh152 x 7 (fun q => absurd q.2 (by decide))).trans s146
                  have s157 := (fh152 x 8 (fun q => absurd q.2 (by decide))).trans s147
                  have s158 := (fh152 x 10 (fun q => absurd q.2 (by decide))).trans s148
                  have s159 := (fh152 x 5 (fun q => absurd q.2 (by decide))).trans s149
                  have s160 := (fh152 x 2 (fun q => absurd q.2 (by decide))).trans s150
                  have s161 := (fh152 x 13 (fun q => absurd q.2 (by decide))).trans eh142
                  refine gz_s 1 (pc' := 161) (L' := [some (.ref x), some (.int (zi p)), some (.int (zi zq1)), some (.int (zi rn2)), some (.int (zi k)), some (.int (zi z66)), some (.int (zi (zq68 / 2 ^ (lw).toNat)))]) (S' := []) rfl ?_
                  have hR : eeRk ecS ecP lw cf p fr tt w (k + 1) = ((eeWk ecS ecP (eeRk ecS ecP lw cf p fr tt w k) rn rn2).1, 2 * (eeWk ecS ecP (eeRk ecS ecP lw cf p fr tt w k) rn rn2).2.1 + (zq68 / 2 ^ (lw).toNat) % 2, (eeWk ecS ecP (eeRk ecS ecP lw cf p fr tt w k) rn rn2).2.2.1 + 1, (eeWk ecS ecP (eeRk ecS ecP lw cf p fr tt w k) rn rn2).2.2.2) := eeRk_m (a := zq68 / 2 ^ (lw).toNat) (by omega) (by omega) (by omega) hcf (by rw [hA]) (by omega) (by omega) ⟨by omega, by omega⟩ (by omega)
                  have hR_1 : (eeRk ecS ecP lw cf p fr tt w (k + 1)).1 = (eeWk ecS ecP (eeRk ecS ecP lw cf p fr tt w k) rn rn2).1 := by rw [hR]
                  have hR_21 : (eeRk ecS ecP lw cf p fr tt w (k + 1)).2.1 = 2 * (eeWk ecS ecP (eeRk ecS ecP lw cf p fr tt w k) rn rn2).2.1 + (zq68 / 2 ^ (lw).toNat) % 2 := by rw [hR]
                  have hR_221 : (eeRk ecS ecP lw cf p fr tt w (k + 1)).2.2.1 = (eeWk ecS ecP (eeRk ecS ecP lw cf p fr tt w k) rn rn2).2.2.1 + 1 := by rw [hR]
                  have hk162 : (eeRk ecS ecP lw cf p fr tt w (k + 1)).2.2.2 = (eeWk ecS ecP (eeRk ecS ecP lw cf p fr tt w k) rn rn2).2.2.2 := by rw [hR]
                  have hrw163 : gRn 257 ty 80 ((eeRk ecS ecP lw cf p fr tt w (k + 1)).2.2.2) h152 := by rw [hk162]; exact pr154
                  refine gy_s 2 (pc' := 19) (L' := [some (.ref x), some (.int (zi p)), some (.int (zi zq1)), some (.int (zi rn2)), some (.int ((zi k) + zi 1)), some (.int (zi z66)), some (.int (zi (zq68 / 2 ^ (lw).toNat)))]) (S' := []) (L2 := [some (.ref x), some (.int (zi p)), some (.int (zi zq1)), some (.int (zi rn2)), some (.int (zi (k + 1))), some (.int (zi z66)), some (.int (zi (zq68 / 2 ^ (lw).toNat)))]) (S2 := []) rfl (by simp only [zi_add, zi_sub, zi_mul, zi_neg, zi_and1, zi_and7, zi_and15, zi_and31, zi_and255]) (by simp only [zi_add, zi_sub, zi_mul, zi_neg, zi_and1, zi_and7, zi_and15, zi_and31, zi_and255]) ?_
                  exact gz_wk (ihlp17 h152 rn2 (k + 1) (wv2 + 1) (by omega) sh152 (by omega) (by omega) (by omega) (by omega) (by omega) (by omega) (by omega) (by omega) s155 s156 s157 s158 s159 eh152 pr153 hrw163) (gLw.s (gLw.s (gLw.s (gLw.s (gLw.s (gLw.n (gLw.n gLw.z)))))))
              · refine gy_icF rfl (by decide) (by decide) (by omega) (by omega) hc84 ?_
                refine gz_s 2 (pc' := 71) (L' := [some (.ref x), some (.int (zi p)), some (.int (zi zq1)), some (.int (zi rn2)), some (.int (zi k)), some (.int (zi z66)), some (.int (zi (zq68 / 2 ^ (lw).toNat)))]) (S' := [.int (zi zq1), .int (zi k)]) rfl ?_
                by_cases hc164 : (zq1 : Int) < k
                · refine gy_icT (pc' := 92) rfl (by decide) (by decide) (by omega) (by omega) hc164 ?_
                  refine gz_s 2 (pc' := 95) (L' := [some (.ref x), some (.int (zi p)), some (.int (zi zq1)), some (.int (zi rn2)), some (.int (zi k)), some (.int (zi z66)), some (.int (zi (zq68 / 2 ^ (lw).toNat)))]) (S' := [.int (zi 1), .int (zi (zq68 / 2 ^ (lw).toNat))]) rfl ?_
                  by_cases hc165 : (zq68 / 2 ^ (lw).toNat : Int) ≤ 1
                  · refine gy_icT (pc' := 129) rfl (by decide) (by decide) (by omega) (by omega) hc165 ?_
                    have hk9 : k ≤ eeLk lw cf p fr tt := eeLk_1 (by omega) (by omega) (by omega) (by omega) hcf (by rw [← hA]; omega)
                    have hwb166 : ewB ((eeWk ecS ecP (eeRk ecS ecP lw cf p fr tt w k) rn rn2).2.2.2) 90000 := ((ewB.Rk (lw := lw) (cf := cf) (p := p) (tt := tt) hywb (by omega : fr ≤ k)).Wk (by omega : rn2 ≤ rn)).mono (by omega)
                    refine gy_s 7 (pc' := 137) (L' := [some (.ref x), some (.int (zi p)), some (.int (zi zq1)), some (.int (zi rn2)), some (.int (zi k)), some (.int (zi z66)), some (.int (zi (zq68 / 2 ^ (lw).toNat)))]) (S' := [.int (((zi 16) * (zi rn2)) + (zi 1)), .int (zi 1), .ref x]) (L2 := [some (.ref x), some (.int (zi p)), some (.int (zi zq1)), some (.int (zi rn2)), some (.int (zi k)), some (.int (zi z66)), some (.int (zi (zq68 / 2 ^ (lw).toNat)))]) (S2 := [.int (zi ((16 * rn2) + 1)), .int (zi 1), .ref x]) rfl (by simp only [zi_add, zi_sub, zi_mul, zi_neg, zi_and1, zi_and7, zi_and15, zi_and31, zi_and255]) (by simp only [zi_add, zi_sub, zi_mul, zi_neg, zi_and1, zi_and7, zi_and15, zi_and31, zi_and255]) ?_
                    refine gz_call rfl (by decide) rfl (by decide) (by decide) (gcal_of rfl rfl rfl (Nat.le_of_ble_eq_true rfl) (gJ.recv (G := gGG) sh83.1 tx rfl rfl)) (cn_putSymbol1 _ sh83.1 x tx 1 ⟨by omega, by omega⟩ ((16 * rn2) + 1) ⟨by omega, by omega⟩ cg lp80k0 ⟨by omega, by omega⟩ ((eeWk ecS ecP (eeRk ecS ecP lw cf p fr tt w k) rn rn2).2.2.2) uq lp80k8 hwb166) (fun q167 _ wq167 => ?_)
                    obtain ⟨pq167, oq167, hq167⟩ := q167
                    obtain ⟨xq167, gq167, yq167_0⟩ := wq167
                    refine ⟨_, gq167, ?_⟩
                    show gz gPP gGG gcn _ _ 140 [some (.ref x), some (.int (zi p)), some (.int (zi zq1)), some (.int (zi rn2)), some (.int (zi k)), some (.int (zi z66)), some (.int (zi (zq68 / 2 ^ (lw).toNat)))] [] hq167 _
                    have sq167 : gSs rT 1027 ty [71013, 71014, 80999] h hq167 := gSs.tr sh83 xq167 (by decide)
                    have s168 := (xq167.2.2.2.2.2 x 11 (by rw [tx]; decide)).trans lp80k0
                    have s169 := (xq167.2.2.2.2.2 x 7 (by rw [tx]; decide)).trans lp80k1
                    have s170 := (xq167.2.2.2.2.2 x 8 (by rw [tx]; decide)).trans lp80k2
                    have s171 := (xq167.2.2.2.2.2 x 10 (by rw [tx]; decide)).trans lp80k3
                    have s172 := (xq167.2.2.2.2.2 x 5 (by rw [tx]; decide)).trans lp80k4
                    have s173 := (xq167.2.2.2.2.2 x 2 (by rw [tx]; decide)).trans lp80k5
                    have s174 := (xq167.2.2.2.2.2 x 14 (by rw [tx]; decide)).trans lp80k6
                    have pr175 := gRn.fr xq167.2 (by decide) lp80k7
                    refine gz_s 2 (pc' := 143) (L' := [some (.ref x), some (.int (zi p)), some (.int (zi zq1)), some (.int (zi rn2)), some (.int (zi k)), some (.int (zi z66)), some (.int (zi (zq68 / 2 ^ (lw).toNat)))]) (S' := [.int (zi z66), .ref x]) rfl ?_
                    by_cases hc176 : (0 : Int) ≤ z66
                    · refine gy_ifT (pc' := 150) rfl (by decide) (by decide) (by omega) hc176 ?_
                      refine gz_s 2 (pc' := 152) (L' := [some (.ref x), some (.int (zi p)), some (.int (zi zq1)), some (.int (zi rn2)), some (.int (zi k)), some (.int (zi z66)), some (.int (zi (zq68 / 2 ^ (lw).toNat)))]) (S' := [.int (zi 1), .int (zi 1), .ref x]) rfl ?_
                      refine gz_call rfl (by decide) rfl (by decide) (by decide) (gcal_of rfl rfl rfl (Nat.le_of_ble_eq_true rfl) (gJ.recv (G := gGG) sq167.1 tx rfl rfl)) (cn_putPlain _ sq167.1 x tx 1 ⟨by omega, by omega⟩ 1 ⟨by omega, by omega⟩ cg s168 ⟨by omega, by omega⟩ uq) (fun q177 _ wq177 => ?_)
                      obtain ⟨pq177, oq177, hq177⟩ := q177
                      obtain ⟨xq177, gq177⟩ := wq177
                      refine ⟨_, gq177, ?_⟩
                      show gz gPP gGG gcn _ _ 155 [some (.ref x), some (.int (zi p)), some (.int (zi zq1)), some (.int (zi rn2)), some (.int (zi k)), some (.int (zi z66)), some (.int (zi (zq68 / 2 ^ (lw).toNat)))] [] hq177 _
                      have sq177 : gSs rT 1027 ty [71013, 71014, 80999] h hq177 := gSs.tr sq167 xq177 (by decide)
                      have s178 := (xq177.2.2.2.2.2 x 11 (by rw [tx]; decide)).trans s168
                      have s179 := (xq177.2.2.2.2.2 x 7 (by rw [tx]; decide)).trans s169
                      have s180 := (xq177.2.2.2.2.2 x 8 (by rw [tx]; decide)).trans s170
                      have s181 := (xq177.2.2.2.2.2 x 10 (by rw [tx]; decide)).trans s171
                      have s182 := (xq177.2.2.2.2.2 x 5 (by rw [tx]; decide)).trans s172
                      have s183 := (xq177.2.2.2.2.2 x 2 (by rw [tx]; decide)).trans s173
                      have s184 := (xq177.2.2.2.2.2 x 14 (by rw [tx]; decide)).trans s174
                      have pr185 := gRn.fr xq177.2 (by decide) pr175
                      have pr186 := gRn.fr xq177.2 (by decide) yq167_0
                      refine gz_s 1 (pc' := 156) (L' := [some (.ref x), some (.int (zi p)), some (.int (zi zq1)), some (.int (zi rn2)), some (.int (zi k)), some (.int (zi z66)), some (.int (zi (zq68 / 2 ^ (lw).toNat)))]) (S' := [.ref x]) rfl ?_
                      refine gz_call rfl (by decide) rfl (by decide) (by decide) (gcal_of rfl rfl rfl (Nat.le_of_ble_eq_true rfl) (gJ.recv (G := gGG) sq177.1 tx rfl rfl)) (cn_putWaiting _ sq177.1 x tx cg s178 ⟨by omega, by omega⟩ wv2 s184 ⟨by omega, by omega⟩ uq) (fun q187 _ wq187 => ?_)
                      obtain ⟨pq187, oq187, hq187⟩ := q187
                      obtain ⟨xq187, fq187_0, gq187, efq187_0, afq187_0, bfq187_0, uq187_0⟩ := wq187
                      refine ⟨_, gq187, ?_⟩
                      show gz gPP gGG gcn _ _ 159 [some (.ref x), some (.int (zi p)), some (.int (zi zq1)), some (.int (zi rn2)), some (.int (zi k)), some (.int (zi z66)), some (.int (zi (zq68 / 2 ^ (lw).toNat)))] [] hq187 _
                      have sq187 : gSs rT 1027 ty [71013, 71014, 80999] h hq187 := gSs.tr sq177 xq187 (by decide)
                      have s188 := (xq187.2.2.2.2.2 x 11 (by rw [tx]; decide)).trans s178
                      have s189 := (xq187.2.2.2.2.2 x 7 (by rw [tx]; decide)).trans s179
                      have s190 := (xq187.2.2.2.2.2 x 8 (by rw [tx]; decide)).trans s180
                      have s191 := (xq187.2.2.2.2.2 x 10 (by rw [tx]; decide)).trans s181
                      have s192 := (xq187.2.2.2.2.2 x 5 (by rw [tx]; decide)).trans s182
                      have s193 := (xq187.2.2.2.2.2 x 2 (by rw [tx]; decide)).trans s183
                      have pr194 := gRn.fr xq187.2 (by decide) pr185
                      have pr195 := gRn.fr xq187.2 (by decide) pr186
                      refine gz_s 2 (pc' := 161) (L' := [some (.ref x), some (.int (zi p)), some (.int (zi zq1)), some (.int (zi 0)), some (.int (zi k)), some (.int (zi z66)), some (.int (zi (zq68 / 2 ^ (lw).toNat)))]) (S' := []) rfl ?_
                      have hR : eeRk ecS ecP lw cf p fr tt w (k + 1) = (0, (eeWk ecS ecP (eeRk ecS ecP lw cf p fr tt w k) rn rn2).2.1, 0, ecS ((16 * rn2) + 1) ((eeWk ecS ecP (eeRk ecS ecP lw cf p fr tt w k) rn rn2).2.2.2)) := (eeRk_1 (a := zq68 / 2 ^ (lw).toNat) (s := (16 * rn2) + 1) (V := 1) (by omega) (by omega) (by omega) hcf (by rw [hA]) (by omega) (by omega) ⟨by omega, by omega⟩ (by omega) (by omega) (by omega) (by omega)).trans rfl
                      have hR_1 : (eeRk ecS ecP lw cf p fr tt w (k + 1)).1 = 0 := by rw [hR]
                      have hR_21 : (eeRk ecS ecP lw cf p fr tt w (k + 1)).2.1 = (eeWk ecS ecP (eeRk ecS ecP lw cf p fr tt w k) rn rn2).2.1 := by rw [hR]
                      have hR_221 : (eeRk ecS ecP lw cf p fr tt w (k + 1)).2.2.1 = 0 := by rw [hR]
                      have hk196 : (eeRk ecS ecP lw cf p fr tt w (k + 1)).2.2.2 = ecS ((16 * rn2) + 1) ((eeWk ecS ecP (eeRk ecS ecP lw cf p fr tt w k) rn rn2).2.2.2) := by rw [hR]
                      have hrw197 : gRn 257 ty 80 ((eeRk ecS ecP lw cf p fr tt w (k + 1)).2.2.2) hq187 := by rw [hk196]; exact pr195
                      refine gy_s 2 (pc' := 19) (L' := [some (.ref x), some (.int (zi p)), some (.int (zi zq1)), some (.int (zi 0)), some (.int ((zi k) + zi 1)), some (.int (zi z66)), some (.int (zi (zq68 / 2 ^ (lw).toNat)))]) (S' := []) (L2 := [some (.ref x), some (.int (zi p)), some (.int (zi zq1)), some (.int (zi 0)), some (.int (zi (k + 1))), some (.int (zi z66)), some (.int (zi (zq68 / 2 ^ (lw).toNat)))]) (S2 := []) rfl (by simp only [zi_add, zi_sub, zi_mul, zi_neg, zi_and1, zi_and7, zi_and15, zi_and31, zi_and255]) (by simp only [zi_add, zi_sub, zi_mul, zi_neg, zi_and1, zi_and7, zi_and15, zi_and31, zi_and255]) ?_
                      exact gz_wk (ihlp17 hq187 0 (k + 1) fq187_0 (by omega) sq187 (by omega) (by omega) (by omega) (by omega) (by omega) (by omega) (by omega) (by omega) s188 s189 s190 s191 s192 efq187_0 pr194 hrw197) (gLw.s (gLw.s (gLw.s (gLw.s (gLw.s (gLw.n (gLw.n gLw.z)))))))
                    · refine gy_ifF rfl (by decide) (by decide) (by omega) hc176 ?_
                      refine gz_s 3 (pc' := 152) (L' := [some (.ref x), some (.int (zi p)), some (.int (zi zq1)), some (.int (zi rn2)), some (.int (zi k)), some (.int (zi z66)), some (.int (zi (zq68 / 2 ^ (lw).toNat)))]) (S' := [.int (zi 1), .int (zi 0), .ref x]) rfl ?_
                      refine gz_call rfl (by decide) rfl (by decide) (by decide) (gcal_of rfl rfl rfl (Nat.le_of_ble_eq_true rfl) (gJ.recv (G := gGG) sq167.1 tx rfl rfl)) (cn_putPlain _ sq167.1 x tx 0 ⟨by omega, by omega⟩ 1 ⟨by omega, by omega⟩ cg s168 ⟨by omega, by omega⟩ uq) (fun q198 _ wq198 => ?_)
                      obtain ⟨pq198, oq198, hq198⟩ := q198
                      obtain ⟨xq198, gq198⟩ := wq198
                      refine ⟨_, gq198, ?_⟩
                      show gz gPP gGG gcn _ _ 155 [some (.ref x), some (.int (zi p)), some (.int (zi zq1)), some (.int (zi rn2)), some (.int (zi k)), some (.int (zi z66)), some (.int (zi (zq68 / 2 ^ (lw).toNat)))] [] hq198 _
                      have sq198 : gSs rT 1027 ty [71013, 71014, 80999] h hq198 := gSs.tr sq167 xq198 (by decide)
                      have s199 := (xq198.2.2.2.2.2 x 11 (by rw [tx]; decide)).trans s168
                      have s200 := (xq198.2.2.2.2.2 x 7 (by rw [tx]; decide)).trans s169
                      have s201 := (xq198.2.2.2.2.2 x 8 (by rw [tx]; decide)).trans s170
                      have s202 := (xq198.2.2.2.2.2 x 10 (by rw [tx]; decide)).trans s171
                      have s203 := (xq198.2.2.2.2.2 x 5 (by rw [tx]; decide)).trans s172
                      have s204 := (xq198.2.2.2.2.2 x 2 (by rw [tx]; decide)).trans s173
                      have s205 := (xq198.2.2.2.2.2 x 14 (by rw [tx]; decide)).trans s174
                      have pr206 := gRn.fr xq198.2 (by decide) pr175
                      have pr207 := gRn.fr xq198.2 (by decide) yq167_0
                      refine gz_s 1 (pc' := 156) (L' := [some (.ref x), some (.int (zi p)), some (.int (zi zq1)), some (.int (zi rn2)), some (.int (zi k)), some (.int (zi z66)), some (.int (zi (zq68 / 2 ^ (lw).toNat)))]) (S' := [.ref x]) rfl ?_
                      refine gz_call rfl (by decide) rfl (by decide) (by decide) (gcal_of rfl rfl rfl (Nat.le_of_ble_eq_true rfl) (gJ.recv (G := gGG) sq198.1 tx rfl rfl)) (cn_putWaiting _ sq198.1 x tx cg s199 ⟨by omega, by omega⟩ wv2 s205 ⟨by omega, by omega⟩ uq) (fun q208 _ wq208 => ?_)
                      obtain ⟨pq208, oq208, hq208⟩ := q208
                      obtain ⟨xq208, fq208_0, gq208, efq208_0, afq208_0, bfq208_0, uq208_0⟩ := wq208
                      refine ⟨_, gq208, ?_⟩
                      show gz gPP gGG gcn _ _ 159 [some (.ref x), some (.int (zi p)), some (.int (zi zq1)), some (.int (zi rn2)), some (.int (zi k)), some (.int (zi z66)), some (.int (zi (zq68 / 2 ^ (lw).toNat)))] [] hq208 _
                      have sq208 : gSs rT 1027 ty [71013, 71014, 80999] h hq208 := gSs.tr sq198 xq208 (by decide)
                      have s209 := (xq208.2.2.2.2.2 x 11 (by rw [tx]; decide)).trans s199
                      have s210 := (xq208.2.2.2.2.2 x 7 (by rw [tx]; decide)).trans s200
                      have s211 := (xq208.2.2.2.2.2 x 8 (by rw [tx]; decide)).trans s201
                      have s212 := (xq208.2.2.2.2.2 x 10 (by rw [tx]; decide)).trans s202
                      have s213 := (xq208.2.2.2.2.2 x 5 (by rw [tx]; decide)).trans s203
                      have s214 := (xq208.2.2.2.2.2 x 2 (by rw [tx]; decide)).trans s204
                      have pr215 := gRn.fr xq208.2 (by decide) pr206
                      have pr216 := gRn.fr xq208.2 (by decide) pr207
                      refine gz_s 2 (pc' := 161) (L' := [some (.ref x), some (.int (zi p)), some (.int (zi zq1)), some (.int (zi 0)), some (.int (zi k)), some (.int (zi z66)), some (.int (zi (zq68 / 2 ^ (lw).toNat)))]) (S' := []) rfl ?_
                      have hR : eeRk ecS ecP lw cf p fr tt w (k + 1) = (0, (eeWk ecS ecP (eeRk ecS ecP lw cf p fr tt w k) rn rn2).2.1, 0, ecS ((16 * rn2) + 1) ((eeWk ecS ecP (eeRk ecS ecP lw cf p fr tt w k) rn rn2).2.2.2)) := (eeRk_1 (a := zq68 / 2 ^ (lw).toNat) (s := (16 * rn2) + 1) (V := 0) (by omega) (by omega) (by omega) hcf (by rw [hA]) (by omega) (by omega) ⟨by omega, by omega⟩ (by omega) (by omega) (by omega) (by omega)).trans rfl
                      have hR_1 : (eeRk ecS ecP lw cf p fr tt w (k + 1)).1 = 0 := by rw [hR]
                      have hR_21 : (eeRk ecS ecP lw cf p fr tt w (k + 1)).2.1 = (eeWk ecS ecP (eeRk ecS ecP lw cf p fr tt w k) rn rn2).2.1 := by rw [hR]
                      have hR_221 : (eeRk ecS ecP lw cf p fr tt w (k + 1)).2.2.1 = 0 := by rw [hR]
                      have hk217 : (eeRk ecS ecP lw cf p fr tt w (k + 1)).2.2.2 = ecS ((16 * rn2) + 1) ((eeWk ecS ecP (eeRk ecS ecP lw cf p fr tt w k) rn rn2).2.2.2) := by rw [hR]
                      have hrw218 : gRn 257 ty 80 ((eeRk ecS ecP lw cf p fr tt w (k + 1)).2.2.2) hq208 := by rw [hk217]; exact pr216
                      refine gy_s 2 (pc' := 19) (L' := [some (.ref x), some (.int (zi p)), some (.int (zi zq1)), some (.int (zi 0)), some (.int ((zi k) + zi 1)), some (.int (zi z66)), some (.int (zi (zq68 / 2 ^ (lw).toNat)))]) (S' := []) (L2 := [some (.ref x), some (.int (zi p)), some (.int (zi zq1)), some (.int (zi 0)), some (.int (zi (k + 1))), some (.int (zi z66)), some (.int (zi (zq68 / 2 ^ (lw).toNat)))]) (S2 := []) rfl (by simp only [zi_add, zi_sub, zi_mul, zi_neg, zi_and1, zi_and7, zi_and15, zi_and31, zi_and255]) (by simp only [zi_add, zi_sub, zi_mul, zi_neg, zi_and1, zi_and7, zi_and15, zi_and31, zi_and255]) ?_
                      exact gz_wk (ihlp17 hq208 0 (k + 1) fq208_0 (by omega) sq208 (by omega) (by omega) (by omega) (by omega) (by omega) (by omega) (by omega) (by omega) s209 s210 s211 s212 s213 efq208_0 pr215 hrw218) (gLw.s (gLw.s (gLw.s (gLw.s (gLw.s (gLw.n (gLw.n gLw.z)))))))
                  · refine gy_icF rfl (by decide) (by decide) (by omega) (by omega) hc165 ?_
                    refine gz_s 1 (pc' := 99) (L' := [some (.ref x), some (.int (zi p)), some (.int (zi zq1)), some (.int (zi rn2)), some (.int (zi k)), some (.int (zi z66)), some (.int (zi (zq68 / 2 ^ (lw).toNat)))]) (S' := [.ref x]) rfl ?_
                    refine gz_1 rfl (by decide) rfl rfl (pc' := 102) (S' := [.long (zl 2), .ref x]) (h' := h83) rfl ?_
                    refine gz_s 1 (pc' := 103) (L' := [some (.ref x), some (.int (zi p)), some (.int (zi zq1)), some (.int (zi rn2)), some (.int (zi k)), some (.int (zi z66)), some (.int (zi (zq68 / 2 ^ (lw).toNat)))]) (S' := [.ref x, .long (zl 2), .ref x]) rfl ?_
                    refine gs_getl rfl (by decide) rfl sh83.1 tx rfl rfl rfl (fun z219 ez219 az219 bz219 => ?_)
                    refine gy_s 1 (pc' := 107) (L' := [some (.ref x), some (.int (zi p)), some (.int (zi zq1)), some (.int (zi rn2)), some (.int (zi k)), some (.int (zi z66)), some (.int (zi (zq68 / 2 ^ (lw).toNat)))]) (S' := [.long ((zl 2) * (zl z219)), .ref x]) (L2 := [some (.ref x), some (.int (zi p)), some (.int (zi zq1)), some (.int (zi rn2)), some (.int (zi k)), some (.int (zi z66)), some (.int (zi (zq68 / 2 ^ (lw).toNat)))]) (S2 := [.long (zl (2 * z219)), .ref x]) rfl (by simp only [zi_add, zi_sub, zi_mul, zi_neg, zi_and1, zi_and7, zi_and15, zi_and31, zi_and255, zl_add, zl_sub, zl_mul, zl_neg]) (by simp only [zi_add, zi_sub, zi_mul, zi_neg, zi_and1, zi_and7, zi_and15, zi_and31, zi_and255, zl_add, zl_sub, zl_mul, zl_neg]) ?_
                    refine gy_lany (fun z220 ez220 az220 bz220 => ?_)
                    refine gy_s 3 (pc' := 111) (L' := [some (.ref x), some (.int (zi p)), some (.int (zi zq1)), some (.int (zi rn2)), some (.int (zi k)), some (.int (zi z66)), some (.int (zi (zq68 / 2 ^ (lw).toNat)))]) (S' := [.int ((zi (zq68 / 2 ^ (lw).toNat)) &&& (zi 1)), .long (zl z220), .ref x]) (L2 := [some (.ref x), some (.int (zi p)), some (.int (zi zq1)), some (.int (zi rn2)), some (.int (zi k)), some (.int (zi z66)), some (.int (zi (zq68 / 2 ^ (lw).toNat)))]) (S2 := [.int (zi ((zq68 / 2 ^ (lw).toNat) % 2)), .long (zl z220), .ref x]) rfl (by simp only [zi_add, zi_sub, zi_mul, zi_neg, zi_and1, zi_and7, zi_and15, zi_and31, zi_and255, zl_add, zl_sub, zl_mul, zl_neg]) (by simp only [zi_add, zi_sub, zi_mul, zi_neg, zi_and1, zi_and7, zi_and15, zi_and31, zi_and255, zl_add, zl_sub, zl_mul, zl_neg]) ?_
                    refine gy_i2l rfl (by decide) ⟨by omega, by omega⟩ ?_
                    refine gy_s 1 (pc' := 113) (L' := [some (.ref x), some (.int (zi p)), some (.int (zi zq1)), some (.int (zi rn2)), some (.int (zi k)), some (.int (zi z66)), some (.int (zi (zq68 / 2 ^ (lw).toNat)))]) (S' := [.long ((zl z220) + (zl ((zq68 / 2 ^ (lw).toNat) % 2))), .ref x]) (L2 := [some (.ref x), some (.int (zi p)), some (.int (zi zq1)), some (.int (zi rn2)), some (.int (zi k)), some (.int (zi z66)), some (.int (zi (zq68 / 2 ^ (lw).toNat)))]) (S2 := [.long (zl (z220 + ((zq68 / 2 ^ (lw).toNat) % 2))), .ref x]) rfl (by simp only [zi_add, zi_sub, zi_mul, zi_neg, zi_and1, zi_and7, zi_and15, zi_and31, zi_and255, zl_add, zl_sub, zl_mul, zl_neg]) (by simp only [zi_add, zi_sub, zi_mul, zi_neg, zi_and1, zi_and7, zi_and15, zi_and31, zi_and255, zl_add, zl_sub, zl_mul, zl_neg]) ?_
                    refine gy_lany (fun z221 ez221 az221 bz221 => ?_)
                    refine gs_putl rfl (by decide) rfl sh83 tx rfl rfl rfl rfl (Or.inl rfl) (by decide) (by omega) (by omega) (fun h222 sh222 eh222 fh222 => ?_)
                    have pr223 := gRn.pt fh222 tx (by decide) lp80k7
                    have pr224 := gRn.pt fh222 tx (by decide) lp80k8
                    have s225 := (fh222 x 11 (fun q => absurd q.2 (by decide))).trans lp80k0
                    have s226 := (fh222 x 7 (fun q => absurd q.2 (by decide))).trans lp80k1
                    have s227 := (fh222 x 8 (fun q => absurd q.2 (by decide))).trans lp80k2
                    have s228 := (fh222 x 10 (fun q => absurd q.2 (by decide))).trans lp80k3
                    have s229 := (fh222 x 5 (fun q => absurd q.2 (by decide))).trans lp80k4
                    have s230 := (fh222 x 2 (fun q => absurd q.2 (by decide))).trans lp80k5
                    have s231 := (fh222 x 14 (fun q => absurd q.2 (by decide))).trans lp80k6
                    refine gz_s 2 (pc' := 118) (L' := [some (.ref x), some (.int (zi p)), some (.int (zi zq1)), some (.int (zi rn2)), some (.int (zi k)), some (.int (zi z66)), some (.int (zi (zq68 / 2 ^ (lw).toNat)))]) (S' := [.ref x, .ref x]) rfl ?_
                    refine gs_gtk rfl (by decide) rfl sh222.1 tx rfl rfl s231 ?_
                    refine gy_s 2 (pc' := 123) (L' := [some (.ref x), some (.int (zi p)), some (.int (zi zq1)), some (.int (zi rn2)), some (.int (zi k)), some (.int (zi z66)), some (.int (zi (zq68 / 2 ^ (lw).toNat)))]) (S' := [.int ((zi wv2) + (zi 1)), .ref x]) (L2 := [some (.ref x), some (.int (zi p)), some (.int (zi zq1)), some (.int (zi rn2)), some (.int (zi k)), some (.int (zi z66)), some (.int (zi (zq68 / 2 ^ (lw).toNat)))]) (S2 := [.int (zi (wv2 + 1)), .ref x]) rfl (by simp only [zi_add, zi_sub, zi_mul, zi_neg, zi_and1, zi_and7, zi_and15, zi_and31, zi_and255]) (by simp only [zi_add, zi_sub, zi_mul, zi_neg, zi_and1, zi_and7, zi_and15, zi_and31, zi_and255]) ?_
                    refine gs_put rfl (by decide) rfl sh222 tx rfl rfl rfl rfl (Or.inl rfl) (by decide) (by omega) (by omega) (fun h232 sh232 eh232 fh232 => ?_)
                    have pr233 := gRn.pt fh232 tx (by decide) pr223
                    have pr234 := gRn.pt fh232 tx (by decide) pr224
                    have s235 := (fh232 x 11 (fun q => absurd q.2 (by decide))).trans s225
                    have s236 := (fh232 x 7 (fun q => absurd q.2 (by decide))).trans s226
                    have s237 := (fh232 x 8 (fun q => absurd q.2 (by decide))).trans s227
                    have s238 := (fh232 x 10 (fun q => absurd q.2 (by decide))).trans s228
                    have s239 := (fh232 x 5 (fun q => absurd q.2 (by decide))).trans s229
                    have s240 := (fh232 x 2 (fun q => absurd q.2 (by decide))).trans s230
                    have s241 := (fh232 x 13 (fun q => absurd q.2 (by decide))).trans eh222
                    refine gz_s 1 (pc' := 161) (L' := [some (.ref x), some (.int (zi p)), some (.int (zi zq1)), some (.int (zi rn2)), some (.int (zi k)), some (.int (zi z66)), some (.int (zi (zq68 / 2 ^ (lw).toNat)))]) (S' := []) rfl ?_
                    have hR : eeRk ecS ecP lw cf p fr tt w (k + 1) = ((eeWk ecS ecP (eeRk ecS ecP lw cf p fr tt w k) rn rn2).1, 2 * (eeWk ecS ecP (eeRk ecS ecP lw cf p fr tt w k) rn rn2).2.1 + (zq68 / 2 ^ (lw).toNat) % 2, (eeWk ecS ecP (eeRk ecS ecP lw cf p fr tt w k) rn rn2).2.2.1 + 1, (eeWk ecS ecP (eeRk ecS ecP lw cf p fr tt w k) rn rn2).2.2.2) := eeRk_m (a := zq68 / 2 ^ (lw).toNat) (by omega) (by omega) (by omega) hcf (by rw [hA]) (by omega) (by omega) ⟨by omega, by omega⟩ (by omega)
                    have hR_1 : (eeRk ecS ecP lw cf p fr tt w (k + 1)).1 = (eeWk ecS ecP (eeRk ecS ecP lw cf p fr tt w k) rn rn2).1 := by rw [hR]
                    have hR_21 : (eeRk ecS ecP lw cf p fr tt w (k + 1)).2.1 = 2 * (eeWk ecS ecP (eeRk ecS ecP lw cf p fr tt w k) rn rn2).2.1 + (zq68 / 2 ^ (lw).toNat) % 2 := by rw [hR]
                    have hR_221 : (eeRk ecS ecP lw cf p fr tt w (k + 1)).2.2.1 = (eeWk ecS ecP (eeRk ecS ecP lw cf p fr tt w k) rn rn2).2.2.1 + 1 := by rw [hR]
                    have hk242 : (eeRk ecS ecP lw cf p fr tt w (k + 1)).2.2.2 = (eeWk ecS ecP (eeRk ecS ecP lw cf p fr tt w k) rn rn2).2.2.2 := by rw [hR]
                    have hrw243 : gRn 257 ty 80 ((eeRk ecS ecP lw cf p fr tt w (k + 1)).2.2.2) h232 := by rw [hk242]; exact pr234
                    refine gy_s 2 (pc' := 19) (L' := [some (.ref x), some (.int (zi p)), some (.int (zi zq1)), some (.int (zi rn2)), some (.int ((zi k) + zi 1)), some (.int (zi z66)), some (.int (zi (zq68 / 2 ^ (lw).toNat)))]) (S' := []) (L2 := [some (.ref x), some (.int (zi p)), some (.int (zi zq1)), some (.int (zi rn2)), some (.int (zi (k + 1))), some (.int (zi z66)), some (.int (zi (zq68 / 2 ^ (lw).toNat)))]) (S2 := []) rfl (by simp only [zi_add, zi_sub, zi_mul, zi_neg, zi_and1, zi_and7, zi_and15, zi_and31, zi_and255]) (by simp only [zi_add, zi_sub, zi_mul, zi_neg, zi_and1, zi_and7, zi_and15, zi_and31, zi_and255]) ?_
                    exact gz_wk (ihlp17 h232 rn2 (k + 1) (wv2 + 1) (by omega) sh232 (by omega) (by omega) (by omega) (by omega) (by omega) (by omega) (by omega) (by omega) s235 s236 s237 s238 s239 eh232 pr233 hrw243) (gLw.s (gLw.s (gLw.s (gLw.s (gLw.s (gLw.n (gLw.n gLw.z)))))))
                · refine gy_icF rfl (by decide) (by decide) (by omega) (by omega) hc164 ?_
                  have hwb244 : ewB ((eeWk ecS ecP (eeRk ecS ecP lw cf p fr tt w k) rn rn2).2.2.2) 90000 := ((ewB.Rk (lw := lw) (cf := cf) (p := p) (tt := tt) hywb (by omega : fr ≤ k)).Wk (by omega : rn2 ≤ rn)).mono (by omega)
                  refine gz_s 3 (pc' := 79) (L' := [some (.ref x), some (.int (zi p)), some (.int (zi zq1)), some (.int (zi rn2)), some (.int (zi k)), some (.int (zi z66)), some (.int (zi (zq68 / 2 ^ (lw).toNat)))]) (S' := [.int (zi 240), .int (zi 1), .ref x]) rfl ?_
                  refine gz_call rfl (by decide) rfl (by decide) (by decide) (gcal_of rfl rfl rfl (Nat.le_of_ble_eq_true rfl) (gJ.recv (G := gGG) sh83.1 tx rfl rfl)) (cn_putSymbol1 _ sh83.1 x tx 1 ⟨by omega, by omega⟩ 240 ⟨by omega, by omega⟩ cg lp80k0 ⟨by omega, by omega⟩ ((eeWk ecS ecP (eeRk ecS ecP lw cf p fr tt w k) rn rn2).2.2.2) uq lp80k8 hwb244) (fun q245 _ wq245 => ?_)
                  obtain ⟨pq245, oq245, hq245⟩ := q245
                  obtain ⟨xq245, gq245, yq245_0⟩ := wq245
                  refine ⟨_, gq245, ?_⟩
                  show gz gPP gGG gcn _ _ 82 [some (.ref x), some (.int (zi p)), some (.int (zi zq1)), some (.int (zi rn2)), some (.int (zi k)), some (.int (zi z66)), some (.int (zi (zq68 / 2 ^ (lw).toNat)))] [] hq245 _
                  have sq245 : gSs rT 1027 ty [71013, 71014, 80999] h hq245 := gSs.tr sh83 xq245 (by decide)
                  have s246 := (xq245.2.2.2.2.2 x 11 (by rw [tx]; decide)).trans lp80k0
                  have s247 := (xq245.2.2.2.2.2 x 7 (by rw [tx]; decide)).trans lp80k1
                  have s248 := (xq245.2.2.2.2.2 x 8 (by rw [tx]; decide)).trans lp80k2
                  have s249 := (xq245.2.2.2.2.2 x 10 (by rw [tx]; decide)).trans lp80k3
                  have s250 := (xq245.2.2.2.2.2 x 5 (by rw [tx]; decide)).trans lp80k4
                  have s251 := (xq245.2.2.2.2.2 x 2 (by rw [tx]; decide)).trans lp80k5
                  have s252 := (xq245.2.2.2.2.2 x 14 (by rw [tx]; decide)).trans lp80k6
                  have pr253 := gRn.fr xq245.2 (by decide) lp80k7
                  refine gz_s 1 (pc' := 83) (L' := [some (.ref x), some (.int (zi p)), some (.int (zi zq1)), some (.int (zi rn2)), some (.int (zi k)), some (.int (zi z66)), some (.int (zi (zq68 / 2 ^ (lw).toNat)))]) (S' := [.ref x]) rfl ?_
                  refine gz_call rfl (by decide) rfl (by decide) (by decide) (gcal_of rfl rfl rfl (Nat.le_of_ble_eq_true rfl) (gJ.recv (G := gGG) sq245.1 tx rfl rfl)) (cn_putWaiting _ sq245.1 x tx cg s246 ⟨by omega, by omega⟩ wv2 s252 ⟨by omega, by omega⟩ uq) (fun q254 _ wq254 => ?_)
                  obtain ⟨pq254, oq254, hq254⟩ := q254
                  obtain ⟨xq254, fq254_0, gq254, efq254_0, afq254_0, bfq254_0, uq254_0⟩ := wq254
                  refine ⟨_, gq254, ?_⟩
                  show gz gPP gGG gcn _ _ 86 [some (.ref x), some (.int (zi p)), some (.int (zi zq1)), some (.int (zi rn2)), some (.int (zi k)), some (.int (zi z66)), some (.int (zi (zq68 / 2 ^ (lw).toNat)))] [] hq254 _
                  have sq254 : gSs rT 1027 ty [71013, 71014, 80999] h hq254 := gSs.tr sq245 xq254 (by decide)
                  have s255 := (xq254.2.2.2.2.2 x 11 (by rw [tx]; decide)).trans s246
                  have s256 := (xq254.2.2.2.2.2 x 7 (by rw [tx]; decide)).trans s247
                  have s257 := (xq254.2.2.2.2.2 x 8 (by rw [tx]; decide)).trans s248
                  have s258 := (xq254.2.2.2.2.2 x 10 (by rw [tx]; decide)).trans s249
                  have s259 := (xq254.2.2.2.2.2 x 5 (by rw [tx]; decide)).trans s250
                  have s260 := (xq254.2.2.2.2.2 x 2 (by rw [tx]; decide)).trans s251
                  have pr261 := gRn.fr xq254.2 (by decide) pr253
                  have pr262 := gRn.fr xq254.2 (by decide) yq245_0
                  have hR : eeWk ecS ecP (eeRk ecS ecP lw cf p fr tt w k) rn (rn2 + (-16)) = ((eeWk ecS ecP (eeRk ecS ecP lw cf p fr tt w k) rn rn2).1 - 16, (eeWk ecS ecP (eeRk ecS ecP lw cf p fr tt w k) rn rn2).2.1, 0, ecS 240 ((eeWk ecS ecP (eeRk ecS ecP lw cf p fr tt w k) rn rn2).2.2.2)) := (eeWk_s (by omega) (by omega) (by omega)).trans rfl
                  have hR_1 : (eeWk ecS ecP (eeRk ecS ecP lw cf p fr tt w k) rn (rn2 + (-16))).1 = (eeWk ecS ecP (eeRk ecS ecP lw cf p fr tt w k) rn rn2).1 - 16 := by rw [hR]
                  have hR_21 : (eeWk ecS ecP (eeRk ecS ecP lw cf p fr tt w k) rn (rn2 + (-16))).2.1 = (eeWk ecS ecP (eeRk ecS ecP lw cf p fr tt w k) rn rn2).2.1 := by rw [hR]
                  have hR_221 : (eeWk ecS ecP (eeRk ecS ecP lw cf p fr tt w k) rn (rn2 + (-16))).2.2.1 = 0 := by rw [hR]
                  have hk263 : (eeWk ecS ecP (eeRk ecS ecP lw cf p fr tt w k) rn (rn2 + (-16))).2.2.2 = ecS 240 ((eeWk ecS ecP (eeRk ecS ecP lw cf p fr tt w k) rn rn2).2.2.2) := by rw [hR]
                  have hrw264 : gRn 257 ty 80 ((eeWk ecS ecP (eeRk ecS ecP lw cf p fr tt w k) rn (rn2 + (-16))).2.2.2) hq254 := by rw [hk263]; exact pr262
                  refine gy_s 2 (pc' := 62) (L' := [some (.ref x), some (.int (zi p)), some (.int (zi zq1)), some (.int ((zi rn2) + zi (-16))), some (.int (zi k)), some (.int (zi z66)), some (.int (zi (zq68 / 2 ^ (lw).toNat)))]) (S' := []) (L2 := [some (.ref x), some (.int (zi p)), some (.int (zi zq1)), some (.int (zi (rn2 + (-16)))), some (.int (zi k)), some (.int (zi z66)), some (.int (zi (zq68 / 2 ^ (lw).toNat)))]) (S2 := []) rfl (by simp only [zi_add, zi_sub, zi_mul, zi_neg, zi_and1, zi_and7, zi_and15, zi_and31, zi_and255]) (by simp only [zi_add, zi_sub, zi_mul, zi_neg, zi_and1, zi_and7, zi_and15, zi_and31, zi_and255]) ?_
                  exact gz_wk (ihlp80 hq254 (rn2 + (-16)) fq254_0 (by omega) sq254 (by omega) (by omega) (by omega) (by omega) (by omega) (by omega) (by omega) (by omega) s255 s256 s257 s258 s259 s260 efq254_0 pr261 hrw264) (gLw.s (gLw.s (gLw.s (gLw.s (gLw.s (gLw.s (gLw.s gLw.z)))))))
          have hw00 : (eeWk ecS ecP (eeRk ecS ecP lw cf p fr tt w k) rn rn).1 = (eeRk ecS ecP lw cf p fr tt w k).1 := by rw [eeWk_0]
          have hw01 : (eeWk ecS ecP (eeRk ecS ecP lw cf p fr tt w k) rn rn).2.2.1 = (eeRk ecS ecP lw cf p fr tt w k).2.2.1 := by rw [eeWk_0]
          exact gz_wk (lp80 _ hq68 rn wv (Nat.lt_succ_self _) sq68 (by omega) (by omega) (by omega) (by omega) (by omega) (by omega) (by omega) (by omega) s69 s70 s71 s72 s73 s75 s74 pr76 hrw82) (gLw.s (gLw.s (gLw.s (gLw.s (gLw.s (gLw.s (gLw.s gLw.z)))))))
        · refine gy_ifF rfl (by decide) (by decide) (by omega) hc79 ?_
          refine gy_s 2 (pc' := 161) (L' := [some (.ref x), some (.int (zi p)), some (.int (zi zq1)), some (.int ((zi rn) + zi 1)), some (.int (zi k)), some (.int (zi z66)), some (.int (zi (zq68 / 2 ^ (lw).toNat)))]) (S' := []) (L2 := [some (.ref x), some (.int (zi p)), some (.int (zi zq1)), some (.int (zi (rn + 1))), some (.int (zi k)), some (.int (zi z66)), some (.int (zi (zq68 / 2 ^ (lw).toNat)))]) (S2 := []) rfl (by simp only [zi_add, zi_sub, zi_mul, zi_neg, zi_and1, zi_and7, zi_and15, zi_and31, zi_and255]) (by simp only [zi_add, zi_sub, zi_mul, zi_neg, zi_and1, zi_and7, zi_and15, zi_and31, zi_and255]) ?_
          have hR : eeRk ecS ecP lw cf p fr tt w (k + 1) = (rn + 1, (eeRk ecS ecP lw cf p fr tt w k).2.1, (eeRk ecS ecP lw cf p fr tt w k).2.2.1, (eeRk ecS ecP lw cf p fr tt w k).2.2.2) := by rw [eeRk_z (by omega) (by omega) (by omega) hcf (by rw [← hA]; omega)]; rw [show (eeRk ecS ecP lw cf p fr tt w k).1 = rn by omega]
          have hR_1 : (eeRk ecS ecP lw cf p fr tt w (k + 1)).1 = rn + 1 := by rw [hR]
          have hR_21 : (eeRk ecS ecP lw cf p fr tt w (k + 1)).2.1 = (eeRk ecS ecP lw cf p fr tt w k).2.1 := by rw [hR]
          have hR_221 : (eeRk ecS ecP lw cf p fr tt w (k + 1)).2.2.1 = (eeRk ecS ecP lw cf p fr tt w k).2.2.1 := by rw [hR]
          have hk265 : (eeRk ecS ecP lw cf p fr tt w (k + 1)).2.2.2 = (eeRk ecS ecP lw cf p fr tt w k).2.2.2 := by rw [hR]
          have hrw266 : gRn 257 ty 80 ((eeRk ecS ecP lw cf p fr tt w (k + 1)).2.2.2) hq68 := by rw [hk265]; exact pr77
          refine gy_s 2 (pc' := 19) (L' := [some (.ref x), some (.int (zi p)), some (.int (zi zq1)), some (.int (zi (rn + 1))), some (.int ((zi k) + zi 1)), some (.int (zi z66)), some (.int (zi (zq68 / 2 ^ (lw).toNat)))]) (S' := []) (L2 := [some (.ref x), some (.int (zi p)), some (.int (zi zq1)), some (.int (zi (rn + 1))), some (.int (zi (k + 1))), some (.int (zi z66)), some (.int (zi (zq68 / 2 ^ (lw).toNat)))]) (S2 := []) rfl (by simp only [zi_add, zi_sub, zi_mul, zi_neg, zi_and1, zi_and7, zi_and15, zi_and31, zi_and255]) (by simp only [zi_add, zi_sub, zi_mul, zi_neg, zi_and1, zi_and7, zi_and15, zi_and31, zi_and255]) ?_
          exact gz_wk (ihlp17 hq68 (rn + 1) (k + 1) wv (by omega) sq68 (by omega) (by omega) (by omega) (by omega) (by omega) (by omega) (by omega) (by omega) s69 s70 s71 s72 s73 s74 pr76 hrw266) (gLw.s (gLw.s (gLw.s (gLw.s (gLw.s (gLw.n (gLw.n gLw.z)))))))
  have hk00 : (eeRk ecS ecP lw cf p fr tt w fr).1 = 0 := by rw [eeRk_0]
  have hk01 : (eeRk ecS ecP lw cf p fr tt w fr).2.2.1 = 0 := by rw [eeRk_0]
  exact gz_wk (lp17 _ h9 0 fr 0 (Nat.lt_succ_self _) sh9 (by omega) (by omega) (by omega) (by omega) (by omega) (by omega) (by omega) (by omega) s12 s13 s14 s15 s16 eh9 pr11 hrw19) (gLw.s (gLw.s (gLw.s (gLw.s (gLw.s (gLw.n (gLw.n gLw.z)))))))
