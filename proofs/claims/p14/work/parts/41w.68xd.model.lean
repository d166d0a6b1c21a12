/-! ===== the encoder of the reference (by program) ===== -/
set_option maxRecDepth 20000 in
set_option maxHeartbeats 4000000 in
theorem mn_putWaiting (d : Nat) {ty : Nat → Nat} {h : gH} (hJ : gJ rT 1027 ty h) (m : Nat) (tm : ty m = 1) (ic : Int) (eic : h.2.2.2.2 m 67 = .int (zi ic)) (ric : 0 ≤ ic ∧ ic ≤ 0) (wc : Int) (ewc : h.2.2.2.2 m 75 = .int (zi wc)) (rwc : 0 ≤ wc ∧ wc ≤ 64) (uq : gUq ty) : gz gPP gGG gcn (d + 1) gt200 0 (gent [.ref m] 2) [] h (fun q _ => gSs rT 1027 ty [1075] h q.2.2 ∧ ∃ n1 : Int, gfin gt200 q.1 q.2.1 = some none ∧ q.2.2.2.2.2.2 m 75 = .int (zi n1) ∧ 0 ≤ n1 ∧ n1 ≤ 64 ∧ (n1 = 0)) := by
  have hS : gSs rT 1027 ty [1075] h h := gSs.rf hJ
  refine gz_s 2 (pc' := 2) (L' := [some (.ref m), some (.int (zi 0))]) (S' := []) rfl ?_
  have lp1 : ∀ (fu : Nat) (h2 : gH) (k : Int), (65 - k).toNat < fu → gSs rT 1027 ty [1075] h h2 → (0 ≤ k ∧ k ≤ 64) → (k ≤ wc) → h2.2.2.2.2 m 67 = .int (zi ic) → h2.2.2.2.2 m 75 = .int (zi wc) → gz gPP gGG gcn (d + 1) gt200 2 [some (.ref m), some (.int (zi k))] [] h2 (fun q _ => gSs rT 1027 ty [1075] h q.2.2 ∧ ∃ n1 : Int, gfin gt200 q.1 q.2.1 = some none ∧ q.2.2.2.2.2.2 m 75 = .int (zi n1) ∧ 0 ≤ n1 ∧ n1 ≤ 64 ∧ (n1 = 0)) := by
    intro fu
    induction fu with
    | zero => intro h2 k hm; exact absurd hm (Nat.not_lt_zero _)
    | succ fu ihlp1 =>
      intro h2 k lp1m sh2 lp1f0 lp1f1 lp1k0 lp1k1
      refine gz_s 2 (pc' := 4) (L' := [some (.ref m), some (.int (zi k))]) (S' := [.ref m, .int (zi k)]) rfl ?_
      refine gs_gtk rfl (by decide) rfl sh2.1 tm rfl rfl lp1k1 ?_
      by_cases hc3 : (wc : Int) ≤ k
      · refine gy_icT (pc' := 26) rfl (by decide) (by decide) (by omega) (by omega) hc3 ?_
        refine gz_s 2 (pc' := 28) (L' := [some (.ref m), some (.int (zi k))]) (S' := [.int (zi 0), .ref m]) rfl ?_
        refine gs_put rfl (by decide) rfl sh2 tm rfl rfl rfl rfl (Or.inl rfl) (by decide) (by omega) (by omega) (fun h4 sh4 eh4 fh4 => ?_)
        have s5 := (fh4 m 67 (fun q => absurd q.2 (by decide))).trans lp1k0
        exact gz_end (I := .return_) (len := 1) rfl (Or.inl rfl) ⟨sh4, 0, rfl, eh4, (by omega), (by omega), (by omega)⟩
      · refine gy_icF rfl (by decide) (by decide) (by omega) (by omega) hc3 ?_
        refine gz_s 2 (pc' := 12) (L' := [some (.ref m), some (.int (zi k))]) (S' := [.ref m, .ref m]) rfl ?_
        refine gs_gtr rfl (by decide) rfl sh2.1 tm rfl rfl rfl (fun c6 ec6 tc6 => ?_)
        refine gz_s 1 (pc' := 16) (L' := [some (.ref m), some (.int (zi k))]) (S' := [.int (zi k), .ref c6, .ref m]) rfl ?_
        have hl7 : 64 ≤ h2.2.2.2.1 c6 ∧ h2.2.2.2.1 c6 ≤ 64 := gJ.rowl (G := gGG) sh2.1 tc6 rfl
        refine gs_ald rfl (by decide) sh2.1 tc6 rfl rfl rfl (by decide) (fun _ => rfl) (by omega) (by omega) (fun z8 ez8 az8 bz8 => ?_)
        refine gz_call rfl (by decide) rfl (by decide) (by decide) (gcal_of rfl rfl rfl (Nat.le_of_ble_eq_true rfl) (gJ.recv (G := gGG) sh2.1 tm rfl rfl)) (mn_putBit _ sh2.1 m tm z8 (by omega) ic lp1k0 (by omega) uq) (fun q9 _ wq9 => ?_)
        obtain ⟨pq9, oq9, hq9⟩ := q9
        obtain ⟨xq9, gq9⟩ := wq9
        refine ⟨_, gq9, ?_⟩
        show gz gPP gGG gcn _ _ 20 [some (.ref m), some (.int (zi k))] [] hq9 _
        have sq9 := gSs.tr sh2 xq9 (by decide)
        have s10 := (xq9.2.2.2.2.2 m 67 (by rw [tm]; decide)).trans lp1k0
        have s11 := (xq9.2.2.2.2.2 m 75 (by rw [tm]; decide)).trans lp1k1
        have s12 := (xq9.2.2.2.2.2 m 76 (by rw [tm]; decide)).trans ec6
        refine gy_s 2 (pc' := 2) (L' := [some (.ref m), some (.int ((zi k) + zi 1))]) (S' := []) (L2 := [some (.ref m), some (.int (zi (k + 1)))]) (S2 := []) rfl (by simp only [zi_add, zi_sub, zi_mul, zi_neg, zi_and1, zi_and7, zi_and15, zi_and31, zi_and255]) (by simp only [zi_add, zi_sub, zi_mul, zi_neg, zi_and1, zi_and7, zi_and15, zi_and31, zi_and255]) ?_
        exact gz_wk (ihlp1 hq9 (k + 1) (by omega) sq9 (by omega) (by omega) s10 s11) (gLw.s (gLw.s gLw.z))
  exact gz_wk (lp1 _ h 0 (Nat.lt_succ_self _) hS (by omega) (by omega) eic ewc) (gLw.s (gLw.s gLw.z))
set_option maxRecDepth 20000 in
set_option maxHeartbeats 4000000 in
theorem mw_putWaiting (d : Nat) {ty : Nat → Nat} {h : gH} (hJ : gJ rT 1027 ty h) (m : Nat) (tm : ty m = 1) (w0 : Int) (ew0 : h.2.2.2.2 m 59 = .int (zi w0)) (rw0 : 0 ≤ w0 ∧ w0 ≤ 60000) (u0 : Int) (eu0 : h.2.2.2.2 m 61 = .int (zi u0)) (ru0 : 0 ≤ u0 ∧ u0 ≤ 127) (b0 : Int) (eb0 : h.2.2.2.2 m 62 = .int (zi b0)) (rb0 : 0 ≤ b0 ∧ b0 ≤ 7) (ic : Int) (eic : h.2.2.2.2 m 67 = .int (zi ic)) (ric : 1 ≤ ic ∧ ic ≤ 1) (wc : Int) (ewc : h.2.2.2.2 m 75 = .int (zi wc)) (rwc : 0 ≤ wc ∧ wc ≤ 64) (sg : gWt) (wq : Int) (pp0 : w0 = sg.1) (pp1 : u0 = sg.2.1) (pp2 : b0 = sg.2.2.1) (pp3 : 4 * w0 + b0 + wc ≤ 239900) (uq : gUq ty) (hyso : gSO ty sg h) (hyok : eeOk sg) (hywa : gWa ty wq wc.toNat h) : gz gPP gGG gcn (d + 2) gt200 0 (gent [.ref m] 2) [] h (fun q _ => gSs rT 1027 ty [1059, 1061, 1062, 1075, 32999] h q.2.2 ∧ ∃ w1 u1 b1 n1 : Int, gfin gt200 q.1 q.2.1 = some none ∧ q.2.2.2.2.2.2 m 59 = .int (zi w1) ∧ 0 ≤ w1 ∧ w1 ≤ 60000 ∧ q.2.2.2.2.2.2 m 61 = .int (zi u1) ∧ 0 ≤ u1 ∧ u1 ≤ 127 ∧ q.2.2.2.2.2.2 m 62 = .int (zi b1) ∧ 0 ≤ b1 ∧ b1 ≤ 7 ∧ q.2.2.2.2.2.2 m 75 = .int (zi n1) ∧ 0 ≤ n1 ∧ n1 ≤ 64 ∧ (w1 = (eeN wq wc.toNat sg).1) ∧ (u1 = (eeN wq wc.toNat sg).2.1) ∧ (b1 = (eeN wq wc.toNat sg).2.2.1) ∧ (4 * w1 + b1 ≤ 4 * w0 + b0 + wc) ∧ (w0 ≤ w1) ∧ (n1 = 0) ∧ (gSO ty (eeN wq wc.toNat sg) q.2.2) ∧ (eeOk (eeN wq wc.toNat sg)) ∧ (gWa ty wq 0 q.2.2)) := by
  have hS : gSs rT 1027 ty [1059, 1061, 1062, 1075, 32999] h h := gSs.rf hJ
  have hwa0 := hywa
  obtain ⟨hwn, wf, rwf, hwf⟩ := hwa0
  refine gz_s 2 (pc' := 2) (L' := [some (.ref m), some (.int (zi 0))]) (S' := []) rfl ?_
  have hk2 : eeK wq wc.toNat sg (0 : Int).toNat = sg := rfl
  have hk2_1 : (eeK wq wc.toNat sg (0 : Int).toNat).1 = (sg).1 := by rw [hk2]
  have hk2_21 : (eeK wq wc.toNat sg (0 : Int).toNat).2.1 = (sg).2.1 := by rw [hk2]
  have hk2_221 : (eeK wq wc.toNat sg (0 : Int).toNat).2.2.1 = (sg).2.2.1 := by rw [hk2]
  have hso3 : gSO ty (eeK wq wc.toNat sg (0 : Int).toNat) h := by rw [hk2]; exact hyso
  have hok4 : eeOk (eeK wq wc.toNat sg (0 : Int).toNat) := by rw [hk2]; exact hyok
  have hok4c := hok4.cur
  have lp1 : ∀ (fu : Nat) (h5 : gH) (k : Int) (wv : Int) (uv : Int) (bv : Int), (65 - k).toNat < fu → gSs rT 1027 ty [1059, 1061, 1062, 1075, 32999] h h5 → (0 ≤ k ∧ k ≤ 64) → (0 ≤ wv ∧ wv ≤ 60000) → (0 ≤ uv ∧ uv ≤ 127) → (0 ≤ bv ∧ bv ≤ 7) → (k ≤ wc) → (wv = (eeK wq wc.toNat sg (k).toNat).1) → (uv = (eeK wq wc.toNat sg (k).toNat).2.1) → (bv = (eeK wq wc.toNat sg (k).toNat).2.2.1) → (4 * wv + bv ≤ 4 * w0 + b0 + k) → (w0 ≤ wv) → h5.2.2.2.2 m 67 = .int (zi ic) → h5.2.2.2.2 m 75 = .int (zi wc) → h5.2.2.2.2 m 59 = .int (zi wv) → h5.2.2.2.2 m 61 = .int (zi uv) → h5.2.2.2.2 m 62 = .int (zi bv) → gWa ty wq wc.toNat h5 → gRn 64 ty 42 wf h5 → gSO ty (eeK wq wc.toNat sg (k).toNat) h5 → eeOk (eeK wq wc.toNat sg (k).toNat) → gz gPP gGG gcn (d + 2) gt200 2 [some (.ref m), some (.int (zi k))] [] h5 (fun q _ => gSs rT 1027 ty [1059, 1061, 1062, 1075, 32999] h q.2.2 ∧ ∃ w1 u1 b1 n1 : Int, gfin gt200 q.1 q.2.1 = some none ∧ q.2.2.2.2.2.2 m 59 = .int (zi w1) ∧ 0 ≤ w1 ∧ w1 ≤ 60000 ∧ q.2.2.2.2.2.2 m 61 = .int (zi u1) ∧ 0 ≤ u1 ∧ u1 ≤ 127 ∧ q.2.2.2.2.2.2 m 62 = .int (zi b1) ∧ 0 ≤ b1 ∧ b1 ≤ 7 ∧ q.2.2.2.2.2.2 m 75 = .int (zi n1) ∧ 0 ≤ n1 ∧ n1 ≤ 64 ∧ (w1 = (eeN wq wc.toNat sg).1) ∧ (u1 = (eeN wq wc.toNat sg).2.1) ∧ (b1 = (eeN wq wc.toNat sg).2.2.1) ∧ (4 * w1 + b1 ≤ 4 * w0 + b0 + wc) ∧ (w0 ≤ w1) ∧ (n1 = 0) ∧ (gSO ty (eeN wq wc.toNat sg) q.2.2) ∧ (eeOk (eeN wq wc.toNat sg)) ∧ (gWa ty wq 0 q.2.2)) := by
    intro fu
    induction fu with
    | zero => intro h5 k wv uv bv hm; exact absurd hm (Nat.not_lt_zero _)
    | succ fu ihlp1 =>
      intro h5 k wv uv bv lp1m sh5 lp1f0 lp1f1 lp1f2 lp1f3 lp1f4 lp1f5 lp1f6 lp1f7 lp1f8 lp1f9 lp1k0 lp1k1 lp1k2 lp1k3 lp1k4 lp1k5 lp1k6 lp1k7 lp1k8
      refine gz_s 2 (pc' := 4) (L' := [some (.ref m), some (.int (zi k))]) (S' := [.ref m, .int (zi k)]) rfl ?_
      refine gs_gtk rfl (by decide) rfl sh5.1 tm rfl rfl lp1k1 ?_
      by_cases hc6 : (wc : Int) ≤ k
      · refine gy_icT (pc' := 26) rfl (by decide) (by decide) (by omega) (by omega) hc6 ?_
        have hk7 : eeN wq wc.toNat sg = eeK wq wc.toNat sg (k).toNat := by rw [(by omega : (k).toNat = wc.toNat)]; rfl
        have hk7_1 : (eeN wq wc.toNat sg).1 = (eeK wq wc.toNat sg (k).toNat).1 := by rw [hk7]
        have hk7_21 : (eeN wq wc.toNat sg).2.1 = (eeK wq wc.toNat sg (k).toNat).2.1 := by rw [hk7]
        have hk7_221 : (eeN wq wc.toNat sg).2.2.1 = (eeK wq wc.toNat sg (k).toNat).2.2.1 := by rw [hk7]
        have hso8 : gSO ty (eeN wq wc.toNat sg) h5 := by rw [hk7]; exact lp1k7
        have hok9 : eeOk (eeN wq wc.toNat sg) := by rw [hk7]; exact lp1k8
        have hok9c := hok9.cur
        refine gz_s 2 (pc' := 28) (L' := [some (.ref m), some (.int (zi k))]) (S' := [.int (zi 0), .ref m]) rfl ?_
        refine gs_put rfl (by decide) rfl sh5 tm rfl rfl rfl rfl (Or.inl rfl) (by decide) (by omega) (by omega) (fun h10 sh10 eh10 fh10 => ?_)
        have pr11 := gWa.pt fh10 tm (by decide) lp1k5
        have pr12 := gRn.pt fh10 tm (by decide) lp1k6
        have pr13 := gSO.pt fh10 tm (by decide) hso8
        have s14 := (fh10 m 67 (fun q => absurd q.2 (by decide))).trans lp1k0
        have s15 := (fh10 m 59 (fun q => absurd q.2 (by decide))).trans lp1k2
        have s16 := (fh10 m 61 (fun q => absurd q.2 (by decide))).trans lp1k3
        have s17 := (fh10 m 62 (fun q => absurd q.2 (by decide))).trans lp1k4
        exact gz_end (I := .return_) (len := 1) rfl (Or.inl rfl) ⟨sh10, wv, uv, bv, 0, rfl, s15, (by omega), (by omega), s16, (by omega), (by omega), s17, (by omega), (by omega), eh10, (by omega), (by omega), (by omega), (by omega), (by omega), (by omega), (by omega), (by omega), pr13, hok9, (gWa.low pr11)⟩
      · refine gy_icF rfl (by decide) (by decide) (by omega) (by omega) hc6 ?_
        refine gz_s 2 (pc' := 12) (L' := [some (.ref m), some (.int (zi k))]) (S' := [.ref m, .ref m]) rfl ?_
        refine gs_gtr rfl (by decide) rfl sh5.1 tm rfl rfl rfl (fun c18 ec18 tc18 => ?_)
        refine gz_s 1 (pc' := 16) (L' := [some (.ref m), some (.int (zi k))]) (S' := [.int (zi k), .ref c18, .ref m]) rfl ?_
        have hl19 : 64 ≤ h5.2.2.2.1 c18 ∧ h5.2.2.2.1 c18 ≤ 64 := gJ.rowl (G := gGG) sh5.1 tc18 rfl
        refine gs_ald rfl (by decide) sh5.1 tc18 rfl rfl rfl (by decide) (fun _ => rfl) (by omega) (by omega) (fun z20 ez20 az20 bz20 => ?_)
        have hf21 := gRn.at (i := k) (z := z20) lp1k6 tc18 ez20 (by omega) (by omega) (by omega)
        have hbt : z20 = wq / 2 ^ (wc.toNat - 1 - (k).toNat) % 2 := by rw [← hf21]; exact hwf (k).toNat (by omega)
        refine gz_call rfl (by decide) rfl (by decide) (by decide) (gcal_of rfl rfl rfl (Nat.le_of_ble_eq_true rfl) (gJ.recv (G := gGG) sh5.1 tm rfl rfl)) (mw_putBit _ sh5.1 m tm z20 (by omega) wv lp1k2 (by omega) uv lp1k3 (by omega) bv lp1k4 (by omega) ic lp1k0 (by omega) (eeK wq wc.toNat sg (k).toNat) (by omega) (by omega) (by omega) (by omega) uq lp1k7 lp1k8) (fun q22 _ wq22 => ?_)
        obtain ⟨pq22, oq22, hq22⟩ := q22
        obtain ⟨xq22, fq22_0, fq22_1, fq22_2, gq22, efq22_0, afq22_0, bfq22_0, efq22_1, afq22_1, bfq22_1, efq22_2, afq22_2, bfq22_2, uq22_0, uq22_1, uq22_2, uq22_3, uq22_4, yq22_0, yq22_1⟩ := wq22
        refine ⟨_, gq22, ?_⟩
        show gz gPP gGG gcn _ _ 20 [some (.ref m), some (.int (zi k))] [] hq22 _
        have sq22 := gSs.tr sh5 xq22 (by decide)
        have s23 := (xq22.2.2.2.2.2 m 67 (by rw [tm]; decide)).trans lp1k0
        have s24 := (xq22.2.2.2.2.2 m 75 (by rw [tm]; decide)).trans lp1k1
        have s25 := (xq22.2.2.2.2.2 m 76 (by rw [tm]; decide)).trans ec18
        have pr26 := gWa.fr xq22.2 (by decide) lp1k5
        have pr27 := gRn.fr xq22.2 (by decide) lp1k6
        have hk28 : eeK wq wc.toNat sg (k + 1).toNat = eeb (eeK wq wc.toNat sg (k).toNat) z20 := by rw [(by omega : (k + 1).toNat = (k).toNat + 1)]; show eeb _ (wq / 2 ^ (wc.toNat - 1 - (k).toNat) % 2) = _; rw [← hbt]
        have hk28_1 : (eeK wq wc.toNat sg (k + 1).toNat).1 = (eeb (eeK wq wc.toNat sg (k).toNat) z20).1 := by rw [hk28]
        have hk28_21 : (eeK wq wc.toNat sg (k + 1).toNat).2.1 = (eeb (eeK wq wc.toNat sg (k).toNat) z20).2.1 := by rw [hk28]
        have hk28_221 : (eeK wq wc.toNat sg (k + 1).toNat).2.2.1 = (eeb (eeK wq wc.toNat sg (k).toNat) z20).2.2.1 := by rw [hk28]
        have hso29 : gSO ty (eeK wq wc.toNat sg (k + 1).toNat) hq22 := by rw [hk28]; exact yq22_0
        have hok30 : eeOk (eeK wq wc.toNat sg (k + 1).toNat) := by rw [hk28]; exact yq22_1
        have hok30c := hok30.cur
        refine gy_s 2 (pc' := 2) (L' := [some (.ref m), some (.int ((zi k) + zi 1))]) (S' := []) (L2 := [some (.ref m), some (.int (zi (k + 1)))]) (S2 := []) rfl (by simp only [zi_add, zi_sub, zi_mul, zi_neg, zi_and1, zi_and7, zi_and15, zi_and31, zi_and255]) (by simp only [zi_add, zi_sub, zi_mul, zi_neg, zi_and1, zi_and7, zi_and15, zi_and31, zi_and255]) ?_
        exact gz_wk (ihlp1 hq22 (k + 1) fq22_0 fq22_1 fq22_2 (by omega) sq22 (by omega) (by omega) (by omega) (by omega) (by omega) (by omega) (by omega) (by omega) (by omega) (by omega) s23 s24 efq22_0 efq22_1 efq22_2 pr26 pr27 hso29 hok30) (gLw.s (gLw.s gLw.z))
  exact gz_wk (lp1 _ h 0 w0 u0 b0 (Nat.lt_succ_self _) hS (by omega) (by omega) (by omega) (by omega) (by omega) (by omega) (by omega) (by omega) (by omega) (by omega) eic ewc ew0 eu0 eb0 hywa rwf hso3 hok4) (gLw.s (gLw.s gLw.z))
set_option maxRecDepth 20000 in
set_option maxHeartbeats 4000000 in
theorem mn_putMore (d : Nat) {ty : Nat → Nat} {h : gH} (hJ : gJ rT 1027 ty h) (m : Nat) (tm : ty m = 1) (p : Int) (rp : 0 ≤ p ∧ p ≤ 960) (a : Int) (ra : 1 ≤ a ∧ a ≤ 63) (b : Int) (rb : 0 ≤ b ∧ b ≤ 63) (bt : Int) (rbt : 0 ≤ bt ∧ bt ≤ 3) (ic : Int) (eic : h.2.2.2.2 m 67 = .int (zi ic)) (ric : 0 ≤ ic ∧ ic ≤ 0) (mb : Int) (emb : h.2.2.2.2 m 64 = .int (zi mb)) (rmb : 0 ≤ mb ∧ mb ≤ 16) (w0 w1 cf : Nat → Int) (pp0 : p + 64 ≤ 64 * mb) (pp1 : a ≤ b) (uq : gUq ty) (hyf36 : gRn 514 ty 36 (eeJ w0 w1) h) (hywb : ewB w1 3000) (hyf33 : gRn (64 * mb).toNat ty 33 cf h) : gz gPP gGG gcn (d + 3) gt199 0 (gent [.ref m, .int (zi p), .int (zi a), .int (zi b), .int (zi bt)] 10) [] h (fun q _ => gSs rT 1027 ty [1075, 36999, 42999] h q.2.2 ∧ gfin gt199 q.1 q.2.1 = some none ∧ (gRn 514 ty 36 (eeJ w0 (eeRz ecS ecP bt cf p a b w1)) q.2.2)) := by
  have hS : gSs rT 1027 ty [1075, 36999, 42999] h h := gSs.rf hJ
  refine gy_s 6 (pc' := 8) (L' := [some (.ref m), some (.int (zi p)), some (.int (zi a)), some (.int (zi b)), some (.int (zi bt)), some (.int ((zi a) - (zi 1))), some (.int (zi a)), none, none, none]) (S' := []) (L2 := [some (.ref m), some (.int (zi p)), some (.int (zi a)), some (.int (zi b)), some (.int (zi bt)), some (.int (zi (a - 1))), some (.int (zi a)), none, none, none]) (S2 := []) rfl (by simp only [zi_add, zi_sub, zi_mul, zi_neg, zi_and1, zi_and7, zi_and15, zi_and31, zi_and255]) (by simp only [zi_add, zi_sub, zi_mul, zi_neg, zi_and1, zi_and7, zi_and15, zi_and31, zi_and255]) ?_
  have lp1 : ∀ (fu : Nat) (h2 : gH) (ln : Int) (k : Int), (65 - k).toNat < fu → gSs rT 1027 ty [1075, 36999, 42999] h h2 → (0 ≤ ln ∧ ln ≤ 63) → (1 ≤ k ∧ k ≤ 64) → (ln < k) → (a ≤ k) → (k ≤ b + 1) → ((eeLn bt cf (p + a).toNat a (k - a).toNat = -1 → ln = a - 1)) → ((¬ eeLn bt cf (p + a).toNat a (k - a).toNat = -1 → ln = eeLn bt cf (p + a).toNat a (k - a).toNat)) → h2.2.2.2.2 m 67 = .int (zi ic) → h2.2.2.2.2 m 64 = .int (zi mb) → gRn 514 ty 36 (eeJ w0 w1) h2 → ewB w1 3000 → gRn (64 * mb).toNat ty 33 cf h2 → gz gPP gGG gcn (d + 3) gt199 8 [some (.ref m), some (.int (zi p)), some (.int (zi a)), some (.int (zi b)), some (.int (zi bt)), some (.int (zi ln)), some (.int (zi k)), none, none, none] [] h2 (fun q _ => gSs rT 1027 ty [1075, 36999, 42999] h q.2.2 ∧ gfin gt199 q.1 q.2.1 = some none ∧ (gRn 514 ty 36 (eeJ w0 (eeRz ecS ecP bt cf p a b w1)) q.2.2)) := by
    intro fu
    induction fu with
    | zero => intro h2 ln k hm; exact absurd hm (Nat.not_lt_zero _)
    | succ fu ihlp1 =>
      intro h2 ln k lp1m sh2 lp1f0 lp1f1 lp1f2 lp1f3 lp1f4 lp1f5 lp1f6 lp1k0 lp1k1 lp1k2 lp1k3 lp1k4
      refine gz_s 2 (pc' := 11) (L' := [some (.ref m), some (.int (zi p)), some (.int (zi a)), some (.int (zi b)), some (.int (zi bt)), some (.int (zi ln)), some (.int (zi k)), none, none, none]) (S' := [.int (zi b), .int (zi k)]) rfl ?_
      by_cases hc3 : (b : Int) < k
      · refine gy_icT (pc' := 53) rfl (by decide) (by decide) (by omega) (by omega) hc3 ?_
        have hlE : eeLn bt cf (p + a).toNat a (k - a).toNat = eeLk bt cf p a b := by unfold eeLk; rw [show (k - a).toNat = (b - a + 1).toNat by omega]
        have hlb : -1 ≤ eeLk bt cf p a b ∧ eeLk bt cf p a b ≤ b := by
          have h9 := eeLn_b (lw := bt) (cf := cf) (b := (p + a).toNat) (k0 := a) (by omega) (b - a + 1).toNat
          unfold eeLk
          omega
        have hll : (eeLk bt cf p a b = -1 → ln = a - 1) ∧ (¬ eeLk bt cf p a b = -1 → ln = eeLk bt cf p a b) := by rw [← hlE]; exact ⟨by omega, by omega⟩
        have hlq : ∀ j9 : Int, a ≤ j9 → (j9 ≤ ln ↔ j9 ≤ eeLk bt cf p a b) := fun j9 h9 => by omega
        refine gz_s 4 (pc' := 58) (L' := [some (.ref m), some (.int (zi p)), some (.int (zi a)), some (.int (zi b)), some (.int (zi bt)), some (.int (zi ln)), some (.int (zi 0)), none, none, none]) (S' := [.int (zi 0), .ref m]) rfl ?_
        refine gs_put rfl (by decide) rfl sh2 tm rfl rfl rfl rfl (Or.inl rfl) (by decide) (by omega) (by omega) (fun h4 sh4 eh4 fh4 => ?_)
        have pr5 := gRn.pt fh4 tm (by decide) lp1k2
        have pr6 := gRn.pt fh4 tm (by decide) lp1k4
        have s7 := (fh4 m 67 (fun q => absurd q.2 (by decide))).trans lp1k0
        have s8 := (fh4 m 64 (fun q => absurd q.2 (by decide))).trans lp1k1
        refine gz_s 2 (pc' := 64) (L' := [some (.ref m), some (.int (zi p)), some (.int (zi a)), some (.int (zi b)), some (.int (zi bt)), some (.int (zi ln)), some (.int (zi 0)), some (.int (zi a)), none, none]) (S' := []) rfl ?_
        have hk10 : (eeRk ecS ecP bt cf p a b w1 a).2.2.2 = w1 := by rw [eeRk_0]
        have hrw11 : gRn 514 ty 36 (eeJ w0 ((eeRk ecS ecP bt cf p a b w1 a).2.2.2)) h4 := by rw [hk10]; exact pr5
        have lp9 : ∀ (fu : Nat) (h12 : gH) (zr : Int) (k2 : Int) (wt : Int), (65 - k2).toNat < fu → gSs rT 1027 ty [1075, 36999, 42999] h h12 → (0 ≤ zr ∧ zr ≤ 63) → (1 ≤ k2 ∧ k2 ≤ 64) → (0 ≤ wt ∧ wt ≤ 64) → (zr = (eeRk ecS ecP bt cf p a b w1 k2).1) → (wt = (((eeRk ecS ecP bt cf p a b w1 k2).2.2.1 : Nat) : Int)) → (a ≤ k2) → (k2 ≤ b + 1) → (zr + wt ≤ k2 - a) → h12.2.2.2.2 m 67 = .int (zi ic) → h12.2.2.2.2 m 64 = .int (zi mb) → h12.2.2.2.2 m 75 = .int (zi wt) → gRn (64 * mb).toNat ty 33 cf h12 → gRn 514 ty 36 (eeJ w0 ((eeRk ecS ecP bt cf p a b w1 k2).2.2.2)) h12 → gz gPP gGG gcn (d + 3) gt199 64 [some (.ref m), some (.int (zi p)), some (.int (zi a)), some (.int (zi b)), some (.int (zi bt)), some (.int (zi ln)), some (.int (zi zr)), some (.int (zi k2)), none, none] [] h12 (fun q _ => gSs rT 1027 ty [1075, 36999, 42999] h q.2.2 ∧ gfin gt199 q.1 q.2.1 = some none ∧ (gRn 514 ty 36 (eeJ w0 (eeRz ecS ecP bt cf p a b w1)) q.2.2)) := by
          intro fu
          induction fu with
          | zero => intro h12 zr k2 wt hm; exact absurd hm (Nat.not_lt_zero _)
          | succ fu ihlp9 =>
            intro h12 zr k2 wt lp9m sh12 lp9f0 lp9f1 lp9f2 lp9f3 lp9f4 lp9f5 lp9f6 lp9f7 lp9k0 lp9k1 lp9k2 lp9k3 lp9k4
            refine gz_s 2 (pc' := 67) (L' := [some (.ref m), some (.int (zi p)), some (.int (zi a)), some (.int (zi b)), some (.int (zi bt)), some (.int (zi ln)), some (.int (zi zr)), some (.int (zi k2)), none, none]) (S' := [.int (zi b), .int (zi k2)]) rfl ?_
            by_cases hc13 : (b : Int) < k2
            · refine gy_icT (pc' := 220) rfl (by decide) (by decide) (by omega) (by omega) hc13 ?_
              refine gz_s 1 (pc' := 222) (L' := [some (.ref m), some (.int (zi p)), some (.int (zi a)), some (.int (zi b)), some (.int (zi bt)), some (.int (zi ln)), some (.int (zi zr)), some (.int (zi k2)), none, none]) (S' := [.int (zi zr)]) rfl ?_
              by_cases hc14 : (0 : Int) < zr
              · refine gy_ifT (pc' := 232) rfl (by decide) (by decide) (by omega) hc14 ?_
                have hwb15 : ewB ((eeRk ecS ecP bt cf p a b w1 k2).2.2.2) 4000 := (ewB.Rk (lw := bt) (cf := cf) (p := p) (tt := b) hywb (by omega : a ≤ k2)).mono (by omega)
                refine gz_s 3 (pc' := 235) (L' := [some (.ref m), some (.int (zi p)), some (.int (zi a)), some (.int (zi b)), some (.int (zi bt)), some (.int (zi ln)), some (.int (zi zr)), some (.int (zi k2)), none, none]) (S' := [.int (zi 0), .int (zi 1), .ref m]) rfl ?_
                refine gz_call rfl (by decide) rfl (by decide) (by decide) (gcal_of rfl rfl rfl (Nat.le_of_ble_eq_true rfl) (gJ.recv (G := gGG) sh12.1 tm rfl rfl)) (mn_putSymbol1 _ sh12.1 m tm 1 (by omega) 0 (by omega) ic lp9k0 (by omega) w0 ((eeRk ecS ecP bt cf p a b w1 k2).2.2.2) uq lp9k4 hwb15) (fun q16 _ wq16 => ?_)
                obtain ⟨pq16, oq16, hq16⟩ := q16
                obtain ⟨xq16, gq16, yq16_0⟩ := wq16
                refine ⟨_, gq16, ?_⟩
                show gz gPP gGG gcn _ _ 238 [some (.ref m), some (.int (zi p)), some (.int (zi a)), some (.int (zi b)), some (.int (zi bt)), some (.int (zi ln)), some (.int (zi zr)), some (.int (zi k2)), none, none] [] hq16 _
                have sq16 := gSs.tr sh12 xq16 (by decide)
                have s17 := (xq16.2.2.2.2.2 m 67 (by rw [tm]; decide)).trans lp9k0
                have s18 := (xq16.2.2.2.2.2 m 64 (by rw [tm]; decide)).trans lp9k1
                have s19 := (xq16.2.2.2.2.2 m 75 (by rw [tm]; decide)).trans lp9k2
                have pr20 := gRn.fr xq16.2 (by decide) lp9k3
                refine gz_s 1 (pc' := 239) (L' := [some (.ref m), some (.int (zi p)), some (.int (zi a)), some (.int (zi b)), some (.int (zi bt)), some (.int (zi ln)), some (.int (zi zr)), some (.int (zi k2)), none, none]) (S' := [.ref m]) rfl ?_
                refine gz_call rfl (by decide) rfl (by decide) (by decide) (gcal_of rfl rfl rfl (Nat.le_of_ble_eq_true rfl) (gJ.recv (G := gGG) sq16.1 tm rfl rfl)) (mn_putWaiting _ sq16.1 m tm ic s17 (by omega) wt s19 (by omega) uq) (fun q21 _ wq21 => ?_)
                obtain ⟨pq21, oq21, hq21⟩ := q21
                obtain ⟨xq21, fq21_0, gq21, efq21_0, afq21_0, bfq21_0, uq21_0⟩ := wq21
                refine ⟨_, gq21, ?_⟩
                show gz gPP gGG gcn _ _ 242 [some (.ref m), some (.int (zi p)), some (.int (zi a)), some (.int (zi b)), some (.int (zi bt)), some (.int (zi ln)), some (.int (zi zr)), some (.int (zi k2)), none, none] [] hq21 _
                have sq21 := gSs.tr sq16 xq21 (by decide)
                have s22 := (xq21.2.2.2.2.2 m 67 (by rw [tm]; decide)).trans s17
                have s23 := (xq21.2.2.2.2.2 m 64 (by rw [tm]; decide)).trans s18
                have pr24 := gRn.fr xq21.2 (by decide) pr20
                have pr25 := gRn.fr xq21.2 (by decide) yq16_0
                have hre := eeRk_e (sy := ecS) (pl := ecP) (lw := bt) (p := p) (fr := a) (tt := b) (k := k2) (cf := cf) (t := w1) (by omega) (by omega) (by omega)
                have hk26 : eeRz ecS ecP bt cf p a b w1 = ecS 0 ((eeRk ecS ecP bt cf p a b w1 k2).2.2.2) := (hre.1 (by omega)).trans rfl
                have hrw27 : gRn 514 ty 36 (eeJ w0 (eeRz ecS ecP bt cf p a b w1)) hq21 := by rw [hk26]; exact pr25
                exact gz_end (I := .return_) (len := 1) rfl (Or.inl rfl) ⟨sq21, rfl, hrw27⟩
              · refine gy_ifF rfl (by decide) (by decide) (by omega) hc14 ?_
                refine gz_s 1 (pc' := 226) (L' := [some (.ref m), some (.int (zi p)), some (.int (zi a)), some (.int (zi b)), some (.int (zi bt)), some (.int (zi ln)), some (.int (zi zr)), some (.int (zi k2)), none, none]) (S' := [.ref m]) rfl ?_
                refine gs_gtk rfl (by decide) rfl sh12.1 tm rfl rfl lp9k2 ?_
                by_cases hc28 : (wt : Int) ≤ 0
                · refine gy_ifT (pc' := 238) rfl (by decide) (by decide) (by omega) hc28 ?_
                  refine gz_s 1 (pc' := 239) (L' := [some (.ref m), some (.int (zi p)), some (.int (zi a)), some (.int (zi b)), some (.int (zi bt)), some (.int (zi ln)), some (.int (zi zr)), some (.int (zi k2)), none, none]) (S' := [.ref m]) rfl ?_
                  refine gz_call rfl (by decide) rfl (by decide) (by decide) (gcal_of rfl rfl rfl (Nat.le_of_ble_eq_true rfl) (gJ.recv (G := gGG) sh12.1 tm rfl rfl)) (mn_putWaiting _ sh12.1 m tm ic lp9k0 (by omega) wt lp9k2 (by omega) uq) (fun q29 _ wq29 => ?_)
                  obtain ⟨pq29, oq29, hq29⟩ := q29
                  obtain ⟨xq29, fq29_0, gq29, efq29_0, afq29_0, bfq29_0, uq29_0⟩ := wq29
                  refine ⟨_, gq29, ?_⟩
                  show gz gPP gGG gcn _ _ 242 [some (.ref m), some (.int (zi p)), some (.int (zi a)), some (.int (zi b)), some (.int (zi bt)), some (.int (zi ln)), some (.int (zi zr)), some (.int (zi k2)), none, none] [] hq29 _
                  have sq29 := gSs.tr sh12 xq29 (by decide)
                  have s30 := (xq29.2.2.2.2.2 m 67 (by rw [tm]; decide)).trans lp9k0
                  have s31 := (xq29.2.2.2.2.2 m 64 (by rw [tm]; decide)).trans lp9k1
                  have pr32 := gRn.fr xq29.2 (by decide) lp9k3
                  have pr33 := gRn.fr xq29.2 (by decide) lp9k4
                  have hre := eeRk_e (sy := ecS) (pl := ecP) (lw := bt) (p := p) (fr := a) (tt := b) (k := k2) (cf := cf) (t := w1) (by omega) (by omega) (by omega)
                  have hk34 : eeRz ecS ecP bt cf p a b w1 = (eeRk ecS ecP bt cf p a b w1 k2).2.2.2 := hre.2 (by omega)
                  have hrw35 : gRn 514 ty 36 (eeJ w0 (eeRz ecS ecP bt cf p a b w1)) hq29 := by rw [hk34]; exact pr33
                  exact gz_end (I := .return_) (len := 1) rfl (Or.inl rfl) ⟨sq29, rfl, hrw35⟩
                · refine gy_ifF rfl (by decide) (by decide) (by omega) hc28 ?_
                  have hwb36 : ewB ((eeRk ecS ecP bt cf p a b w1 k2).2.2.2) 4000 := (ewB.Rk (lw := bt) (cf := cf) (p := p) (tt := b) hywb (by omega : a ≤ k2)).mono (by omega)
                  refine gz_s 3 (pc' := 235) (L' := [some (.ref m), some (.int (zi p)), some (.int (zi a)), some (.int (zi b)), some (.int (zi bt)), some (.int (zi ln)), some (.int (zi zr)), some (.int (zi k2)), none, none]) (S' := [.int (zi 0), .int (zi 1), .ref m]) rfl ?_
                  refine gz_call rfl (by decide) rfl (by decide) (by decide) (gcal_of rfl rfl rfl (Nat.le_of_ble_eq_true rfl) (gJ.recv (G := gGG) sh12.1 tm rfl rfl)) (mn_putSymbol1 _ sh12.1 m tm 1 (by omega) 0 (by omega) ic lp9k0 (by omega) w0 ((eeRk ecS ecP bt cf p a b w1 k2).2.2.2) uq lp9k4 hwb36) (fun q37 _ wq37 => ?_)
                  obtain ⟨pq37, oq37, hq37⟩ := q37
                  obtain ⟨xq37, gq37, yq37_0⟩ := wq37
                  refine ⟨_, gq37, ?_⟩
                  show gz gPP gGG gcn _ _ 238 [some (.ref m), some (.int (zi p)), some (.int (zi a)), some (.int (zi b)), some (.int (zi bt)), some (.int (zi ln)), some (.int (zi zr)), some (.int (zi k2)), none, none] [] hq37 _
                  have sq37 := gSs.tr sh12 xq37 (by decide)
                  have s38 := (xq37.2.2.2.2.2 m 67 (by rw [tm]; decide)).trans lp9k0
                  have s39 := (xq37.2.2.2.2.2 m 64 (by rw [tm]; decide)).trans lp9k1
                  have s40 := (xq37.2.2.2.2.2 m 75 (by rw [tm]; decide)).trans lp9k2
                  have pr41 := gRn.fr xq37.2 (by decide) lp9k3
                  refine gz_s 1 (pc' := 239) (L' := [some (.ref m), some (.int (zi p)), some (.int (zi a)), some (.int (zi b)), some (.int (zi bt)), some (.int (zi ln)), some (.int (zi zr)), some (.int (zi k2)), none, none]) (S' := [.ref m]) rfl ?_
                  refine gz_call rfl (by decide) rfl (by decide) (by decide) (gcal_of rfl rfl rfl (Nat.le_of_ble_eq_true rfl) (gJ.recv (G := gGG) sq37.1 tm rfl rfl)) (mn_putWaiting _ sq37.1 m tm ic s38 (by omega) wt s40 (by omega) uq) (fun q42 _ wq42 => ?_)
                  obtain ⟨pq42, oq42, hq42⟩ := q42
                  obtain ⟨xq42, fq42_0, gq42, efq42_0, afq42_0, bfq42_0, uq42_0⟩ := wq42
                  refine ⟨_, gq42, ?_⟩
                  show gz gPP gGG gcn _ _ 242 [some (.ref m), some (.int (zi p)), some (.int (zi a)), some (.int (zi b)), some (.int (zi bt)), some (.int (zi ln)), some (.int (zi zr)), some (.int (zi k2)), none, none] [] hq42 _
                  have sq42 := gSs.tr sq37 xq42 (by decide)
                  have s43 := (xq42.2.2.2.2.2 m 67 (by rw [tm]; decide)).trans s38
                  have s44 := (xq42.2.2.2.2.2 m 64 (by rw [tm]; decide)).trans s39
                  have pr45 := gRn.fr xq42.2 (by decide) pr41
                  have pr46 := gRn.fr xq42.2 (by decide) yq37_0
                  have hre := eeRk_e (sy := ecS) (pl := ecP) (lw := bt) (p := p) (fr := a) (tt := b) (k := k2) (cf := cf) (t := w1) (by omega) (by omega) (by omega)
                  have hk47 : eeRz ecS ecP bt cf p a b w1 = ecS 0 ((eeRk ecS ecP bt cf p a b w1 k2).2.2.2) := (hre.1 (by omega)).trans rfl
                  have hrw48 : gRn 514 ty 36 (eeJ w0 (eeRz ecS ecP bt cf p a b w1)) hq42 := by rw [hk47]; exact pr46
                  exact gz_end (I := .return_) (len := 1) rfl (Or.inl rfl) ⟨sq42, rfl, hrw48⟩
            · refine gy_icF rfl (by decide) (by decide) (by omega) (by omega) hc13 ?_
              refine gy_s 5 (pc' := 77) (L' := [some (.ref m), some (.int (zi p)), some (.int (zi a)), some (.int (zi b)), some (.int (zi bt)), some (.int (zi ln)), some (.int (zi zr)), some (.int (zi k2)), none, none]) (S' := [.int (zi bt), .int ((zi p) + (zi k2)), .ref m]) (L2 := [some (.ref m), some (.int (zi p)), some (.int (zi a)), some (.int (zi b)), some (.int (zi bt)), some (.int (zi ln)), some (.int (zi zr)), some (.int (zi k2)), none, none]) (S2 := [.int (zi bt), .int (zi (p + k2)), .ref m]) rfl (by simp only [zi_add, zi_sub, zi_mul, zi_neg, zi_and1, zi_and7, zi_and15, zi_and31, zi_and255]) (by simp only [zi_add, zi_sub, zi_mul, zi_neg, zi_and1, zi_and7, zi_and15, zi_and31, zi_and255]) ?_
              refine gz_call rfl (by decide) rfl (by decide) (by decide) (gcal_of rfl rfl rfl (Nat.le_of_ble_eq_true rfl) (gJ.recv (G := gGG) sh12.1 tm rfl rfl)) (mw_shifted _ sh12.1 m tm (p + k2) (by omega) bt (by omega) mb lp9k1 (by omega) cf (by omega) uq lp9k3) (fun q49 _ wq49 => ?_)
              obtain ⟨pq49, oq49, hq49⟩ := q49
              obtain ⟨xq49, zq49, gq49, aq49, bq49, uq49_0⟩ := wq49
              refine ⟨_, gq49, ?_⟩
              show gz gPP gGG gcn _ _ 80 [some (.ref m), some (.int (zi p)), some (.int (zi a)), some (.int (zi b)), some (.int (zi bt)), some (.int (zi ln)), some (.int (zi zr)), some (.int (zi k2)), none, none] [.int (zi zq49)] hq49 _
              have sq49 := gSs.tr sh12 xq49 (by decide)
              have s50 := (xq49.2.2.2.2.2 m 67 (by rw [tm]; decide)).trans lp9k0
              have s51 := (xq49.2.2.2.2.2 m 64 (by rw [tm]; decide)).trans lp9k1
              have s52 := (xq49.2.2.2.2.2 m 75 (by rw [tm]; decide)).trans lp9k2
              have pr53 := gRn.fr xq49.2 (by decide) lp9k3
              have pr54 := gRn.fr xq49.2 (by decide) lp9k4
              obtain ⟨hA, hAn, hAp⟩ := e_shA uq49_0
              have hzA : eeA zq49 = if zq49 < 0 then -zq49 else zq49 := rfl
              have hlk2 := hlq k2 (by omega)
              refine gz_s 2 (pc' := 84) (L' := [some (.ref m), some (.int (zi p)), some (.int (zi a)), some (.int (zi b)), some (.int (zi bt)), some (.int (zi ln)), some (.int (zi zr)), some (.int (zi k2)), some (.int (zi zq49)), none]) (S' := [.int (zi zq49)]) rfl ?_
              have jn55 : ∀ (jn55v0 : Int), ((0 ≤ jn55v0) ∧ (jn55v0 ≤ 2048) ∧ (0 ≤ zq49 → jn55v0 = zq49) ∧ (zq49 < 0 → jn55v0 = -zq49)) → gz gPP gGG gcn (d + 3) gt199 95 [some (.ref m), some (.int (zi p)), some (.int (zi a)), some (.int (zi b)), some (.int (zi bt)), some (.int (zi ln)), some (.int (zi zr)), some (.int (zi k2)), some (.int (zi zq49)), none] [.int (zi jn55v0)] hq49 (fun q _ => gSs rT 1027 ty [1075, 36999, 42999] h q.2.2 ∧ gfin gt199 q.1 q.2.1 = some none ∧ (gRn 514 ty 36 (eeJ w0 (eeRz ecS ecP bt cf p a b w1)) q.2.2)) := by
                intro jn55v0 jn55d
                have hn9 : jn55v0 = eeA (cf (p + k2).toNat) / 2 ^ (bt).toNat := by rw [← hA, hzA]; split <;> omega
                refine gz_s 1 (pc' := 97) (L' := [some (.ref m), some (.int (zi p)), some (.int (zi a)), some (.int (zi b)), some (.int (zi bt)), some (.int (zi ln)), some (.int (zi zr)), some (.int (zi k2)), some (.int (zi zq49)), some (.int (zi jn55v0))]) (S' := []) rfl ?_
                have hk57 : (eeWk ecS ecP (eeRk ecS ecP bt cf p a b w1 k2) zr zr).2.2.2 = (eeRk ecS ecP bt cf p a b w1 k2).2.2.2 := by rw [eeWk_0]
                have hrw58 : gRn 514 ty 36 (eeJ w0 ((eeWk ecS ecP (eeRk ecS ecP bt cf p a b w1 k2) zr zr).2.2.2)) hq49 := by rw [hk57]; exact pr54
                have lp56 : ∀ (fu : Nat) (h59 : gH) (z2 : Int) (wt2 : Int), (z2 + 1).toNat < fu → gSs rT 1027 ty [1075, 36999, 42999] h h59 → (0 ≤ z2 ∧ z2 ≤ 63) → (0 ≤ wt2 ∧ wt2 ≤ 64) → (z2 ≤ zr) → ((zr - z2) % 16 = 0) → (z2 = zr ∨ k2 ≤ eeLk bt cf p a b) → (z2 = zr ∨ 0 < jn55v0) → (z2 = (eeWk ecS ecP (eeRk ecS ecP bt cf p a b w1 k2) zr z2).1) → (wt2 = (((eeWk ecS ecP (eeRk ecS ecP bt cf p a b w1 k2) zr z2).2.2.1 : Nat) : Int)) → (wt2 ≤ wt) → h59.2.2.2.2 m 67 = .int (zi ic) → h59.2.2.2.2 m 64 = .int (zi mb) → h59.2.2.2.2 m 75 = .int (zi wt2) → gRn (64 * mb).toNat ty 33 cf h59 → gRn 514 ty 36 (eeJ w0 ((eeWk ecS ecP (eeRk ecS ecP bt cf p a b w1 k2) zr z2).2.2.2)) h59 → gz gPP gGG gcn (d + 3) gt199 97 [some (.ref m), some (.int (zi p)), some (.int (zi a)), some (.int (zi b)), some (.int (zi bt)), some (.int (zi ln)), some (.int (zi z2)), some (.int (zi k2)), some (.int (zi zq49)), some (.int (zi jn55v0))] [] h59 (fun q _ => gSs rT 1027 ty [1075, 36999, 42999] h q.2.2 ∧ gfin gt199 q.1 q.2.1 = some none ∧ (gRn 514 ty 36 (eeJ w0 (eeRz ecS ecP bt cf p a b w1)) q.2.2)) := by
                  intro fu
                  induction fu with
                  | zero => intro h59 z2 wt2 hm; exact absurd hm (Nat.not_lt_zero _)
                  | succ fu ihlp56 =>
                    intro h59 z2 wt2 lp56m sh59 lp56f0 lp56f1 lp56f2 lp56f3 lp56f4 lp56f5 lp56f6 lp56f7 lp56f8 lp56k0 lp56k1 lp56k2 lp56k3 lp56k4
                    refine gz_s 1 (pc' := 99) (L' := [some (.ref m), some (.int (zi p)), some (.int (zi a)), some (.int (zi b)), some (.int (zi bt)), some (.int (zi ln)), some (.int (zi z2)), some (.int (zi k2)), some (.int (zi zq49)), some (.int (zi jn55v0))]) (S' := [.int (zi jn55v0)]) rfl ?_
                    by_cases hc60 : (jn55v0 : Int) ≤ 0
                    · refine gy_ifT (pc' := 138) rfl (by decide) (by decide) (by omega) hc60 ?_
                      refine gz_s 1 (pc' := 140) (L' := [some (.ref m), some (.int (zi p)), some (.int (zi a)), some (.int (zi b)), some (.int (zi bt)), some (.int (zi ln)), some (.int (zi z2)), some (.int (zi k2)), some (.int (zi zq49)), some (.int (zi jn55v0))]) (S' := [.int (zi jn55v0)]) rfl ?_
                      refine gy_ifF rfl (by decide) (by decide) (by omega) (by first | (simp [zc]; done) | (simp only [zc]; omega)) ?_
                      refine gy_s 2 (pc' := 214) (L' := [some (.ref m), some (.int (zi p)), some (.int (zi a)), some (.int (zi b)), some (.int (zi bt)), some (.int (zi ln)), some (.int ((zi z2) + zi 1)), some (.int (zi k2)), some (.int (zi zq49)), some (.int (zi jn55v0))]) (S' := []) (L2 := [some (.ref m), some (.int (zi p)), some (.int (zi a)), some (.int (zi b)), some (.int (zi bt)), some (.int (zi ln)), some (.int (zi (z2 + 1))), some (.int (zi k2)), some (.int (zi zq49)), some (.int (zi jn55v0))]) (S2 := []) rfl (by simp only [zi_add, zi_sub, zi_mul, zi_neg, zi_and1, zi_and7, zi_and15, zi_and31, zi_and255]) (by simp only [zi_add, zi_sub, zi_mul, zi_neg, zi_and1, zi_and7, zi_and15, zi_and31, zi_and255]) ?_
                      have hw0 : eeWk ecS ecP (eeRk ecS ecP bt cf p a b w1 k2) zr z2 = eeRk ecS ecP bt cf p a b w1 k2 := by rw [show z2 = zr by omega]; exact eeWk_0
                      have hk61 : (eeRk ecS ecP bt cf p a b w1 k2).2.2.2 = (eeWk ecS ecP (eeRk ecS ecP bt cf p a b w1 k2) zr z2).2.2.2 := by rw [hw0]
                      have hrw62 : gRn 514 ty 36 (eeJ w0 ((eeRk ecS ecP bt cf p a b w1 k2).2.2.2)) h59 := by rw [hk61]; exact lp56k4
                      have hw9 : (eeWk ecS ecP (eeRk ecS ecP bt cf p a b w1 k2) zr z2).2.2.1 = (eeRk ecS ecP bt cf p a b w1 k2).2.2.1 := by rw [hw0]
                      have hR : eeRk ecS ecP bt cf p a b w1 (k2 + 1) = (z2 + 1, (eeRk ecS ecP bt cf p a b w1 k2).2.1, (eeRk ecS ecP bt cf p a b w1 k2).2.2.1, (eeRk ecS ecP bt cf p a b w1 k2).2.2.2) := by rw [eeRk_z (by omega) (by omega) (by omega) rfl (by rw [← hn9]; omega)]; rw [show (eeRk ecS ecP bt cf p a b w1 k2).1 = z2 by omega]
                      have hR_1 : (eeRk ecS ecP bt cf p a b w1 (k2 + 1)).1 = z2 + 1 := by rw [hR]
                      have hR_21 : (eeRk ecS ecP bt cf p a b w1 (k2 + 1)).2.1 = (eeRk ecS ecP bt cf p a b w1 k2).2.1 := by rw [hR]
                      have hR_221 : (eeRk ecS ecP bt cf p a b w1 (k2 + 1)).2.2.1 = (eeRk ecS ecP bt cf p a b w1 k2).2.2.1 := by rw [hR]
                      have hk63 : (eeRk ecS ecP bt cf p a b w1 (k2 + 1)).2.2.2 = (eeRk ecS ecP bt cf p a b w1 k2).2.2.2 := by rw [hR]
                      have hrw64 : gRn 514 ty 36 (eeJ w0 ((eeRk ecS ecP bt cf p a b w1 (k2 + 1)).2.2.2)) h59 := by rw [hk63]; exact hrw62
                      refine gy_s 2 (pc' := 64) (L' := [some (.ref m), some (.int (zi p)), some (.int (zi a)), some (.int (zi b)), some (.int (zi bt)), some (.int (zi ln)), some (.int (zi (z2 + 1))), some (.int ((zi k2) + zi 1)), some (.int (zi zq49)), some (.int (zi jn55v0))]) (S' := []) (L2 := [some (.ref m), some (.int (zi p)), some (.int (zi a)), some (.int (zi b)), some (.int (zi bt)), some (.int (zi ln)), some (.int (zi (z2 + 1))), some (.int (zi (k2 + 1))), some (.int (zi zq49)), some (.int (zi jn55v0))]) (S2 := []) rfl (by simp only [zi_add, zi_sub, zi_mul, zi_neg, zi_and1, zi_and7, zi_and15, zi_and31, zi_and255]) (by simp only [zi_add, zi_sub, zi_mul, zi_neg, zi_and1, zi_and7, zi_and15, zi_and31, zi_and255]) ?_
                      exact gz_wk (ihlp9 h59 (z2 + 1) (k2 + 1) wt2 (by omega) sh59 (by omega) (by omega) (by omega) (by omega) (by omega) (by omega) (by omega) (by omega) lp56k0 lp56k1 lp56k2 lp56k3 hrw64) (gLw.s (gLw.s (gLw.s (gLw.s (gLw.s (gLw.s (gLw.s (gLw.s (gLw.n (gLw.n gLw.z))))))))))
                    · refine gy_ifF rfl (by decide) (by decide) (by omega) hc60 ?_
                      refine gz_s 2 (pc' := 106) (L' := [some (.ref m), some (.int (zi p)), some (.int (zi a)), some (.int (zi b)), some (.int (zi bt)), some (.int (zi ln)), some (.int (zi z2)), some (.int (zi k2)), some (.int (zi zq49)), some (.int (zi jn55v0))]) (S' := [.int (zi 15), .int (zi z2)]) rfl ?_
                      by_cases hc65 : (z2 : Int) ≤ 15
                      · refine gy_icT (pc' := 138) rfl (by decide) (by decide) (by omega) (by omega) hc65 ?_
                        refine gz_s 1 (pc' := 140) (L' := [some (.ref m), some (.int (zi p)), some (.int (zi a)), some (.int (zi b)), some (.int (zi bt)), some (.int (zi ln)), some (.int (zi z2)), some (.int (zi k2)), some (.int (zi zq49)), some (.int (zi jn55v0))]) (S' := [.int (zi jn55v0)]) rfl ?_
                        refine gy_ifT (pc' := 149) rfl (by decide) (by decide) (by omega) (by first | (simp [zc]; done) | (simp only [zc]; omega)) ?_
                        refine gz_s 2 (pc' := 152) (L' := [some (.ref m), some (.int (zi p)), some (.int (zi a)), some (.int (zi b)), some (.int (zi bt)), some (.int (zi ln)), some (.int (zi z2)), some (.int (zi k2)), some (.int (zi zq49)), some (.int (zi jn55v0))]) (S' := [.int (zi 1), .int (zi jn55v0)]) rfl ?_
                        by_cases hc66 : (jn55v0 : Int) ≤ 1
                        · refine gy_icT (pc' := 181) rfl (by decide) (by decide) (by omega) (by omega) hc66 ?_
                          have hk9 : k2 ≤ eeLk bt cf p a b := eeLk_1 (by omega) (by omega) (by omega) (by omega) rfl (by rw [← hn9]; omega)
                          have hwb67 : ewB ((eeWk ecS ecP (eeRk ecS ecP bt cf p a b w1 k2) zr z2).2.2.2) 4000 := ((ewB.Rk (lw := bt) (cf := cf) (p := p) (tt := b) hywb (by omega : a ≤ k2)).Wk (by omega : z2 ≤ zr)).mono (by omega)
                          refine gy_s 7 (pc' := 190) (L' := [some (.ref m), some (.int (zi p)), some (.int (zi a)), some (.int (zi b)), some (.int (zi bt)), some (.int (zi ln)), some (.int (zi z2)), some (.int (zi k2)), some (.int (zi zq49)), some (.int (zi jn55v0))]) (S' := [.int (((zi 16) * (zi z2)) + (zi 1)), .int (zi 1), .ref m]) (L2 := [some (.ref m), some (.int (zi p)), some (.int (zi a)), some (.int (zi b)), some (.int (zi bt)), some (.int (zi ln)), some (.int (zi z2)), some (.int (zi k2)), some (.int (zi zq49)), some (.int (zi jn55v0))]) (S2 := [.int (zi ((16 * z2) + 1)), .int (zi 1), .ref m]) rfl (by simp only [zi_add, zi_sub, zi_mul, zi_neg, zi_and1, zi_and7, zi_and15, zi_and31, zi_and255]) (by simp only [zi_add, zi_sub, zi_mul, zi_neg, zi_and1, zi_and7, zi_and15, zi_and31, zi_and255]) ?_
                          refine gz_call rfl (by decide) rfl (by decide) (by decide) (gcal_of rfl rfl rfl (Nat.le_of_ble_eq_true rfl) (gJ.recv (G := gGG) sh59.1 tm rfl rfl)) (mn_putSymbol1 _ sh59.1 m tm 1 (by omega) ((16 * z2) + 1) (by omega) ic lp56k0 (by omega) w0 ((eeWk ecS ecP (eeRk ecS ecP bt cf p a b w1 k2) zr z2).2.2.2) uq lp56k4 hwb67) (fun q68 _ wq68 => ?_)
                          obtain ⟨pq68, oq68, hq68⟩ := q68
                          obtain ⟨xq68, gq68, yq68_0⟩ := wq68
                          refine ⟨_, gq68, ?_⟩
                          show gz gPP gGG gcn _ _ 193 [some (.ref m), some (.int (zi p)), some (.int (zi a)), some (.int (zi b)), some (.int (zi bt)), some (.int (zi ln)), some (.int (zi z2)), some (.int (zi k2)), some (.int (zi zq49)), some (.int (zi jn55v0))] [] hq68 _
                          have sq68 := gSs.tr sh59 xq68 (by decide)
                          have s69 := (xq68.2.2.2.2.2 m 67 (by rw [tm]; decide)).trans lp56k0
                          have s70 := (xq68.2.2.2.2.2 m 64 (by rw [tm]; decide)).trans lp56k1
                          have s71 := (xq68.2.2.2.2.2 m 75 (by rw [tm]; decide)).trans lp56k2
                          have pr72 := gRn.fr xq68.2 (by decide) lp56k3
                          refine gz_s 2 (pc' := 196) (L' := [some (.ref m), some (.int (zi p)), some (.int (zi a)), some (.int (zi b)), some (.int (zi bt)), some (.int (zi ln)), some (.int (zi z2)), some (.int (zi k2)), some (.int (zi zq49)), some (.int (zi jn55v0))]) (S' := [.int (zi zq49), .ref m]) rfl ?_
                          by_cases hc73 : (zq49 : Int) ≤ 0
                          · refine gy_ifT (pc' := 203) rfl (by decide) (by decide) (by omega) hc73 ?_
                            refine gz_s 1 (pc' := 204) (L' := [some (.ref m), some (.int (zi p)), some (.int (zi a)), some (.int (zi b)), some (.int (zi bt)), some (.int (zi ln)), some (.int (zi z2)), some (.int (zi k2)), some (.int (zi zq49)), some (.int (zi jn55v0))]) (S' := [.int (zi 0), .ref m]) rfl ?_
                            refine gz_call rfl (by decide) rfl (by decide) (by decide) (gcal_of rfl rfl rfl (Nat.le_of_ble_eq_true rfl) (gJ.recv (G := gGG) sq68.1 tm rfl rfl)) (mn_putBit _ sq68.1 m tm 0 (by omega) ic s69 (by omega) uq) (fun q74 _ wq74 => ?_)
                            obtain ⟨pq74, oq74, hq74⟩ := q74
                            obtain ⟨xq74, gq74⟩ := wq74
                            refine ⟨_, gq74, ?_⟩
                            show gz gPP gGG gcn _ _ 207 [some (.ref m), some (.int (zi p)), some (.int (zi a)), some (.int (zi b)), some (.int (zi bt)), some (.int (zi ln)), some (.int (zi z2)), some (.int (zi k2)), some (.int (zi zq49)), some (.int (zi jn55v0))] [] hq74 _
                            have sq74 := gSs.tr sq68 xq74 (by decide)
                            have s75 := (xq74.2.2.2.2.2 m 67 (by rw [tm]; decide)).trans s69
                            have s76 := (xq74.2.2.2.2.2 m 64 (by rw [tm]; decide)).trans s70
                            have s77 := (xq74.2.2.2.2.2 m 75 (by rw [tm]; decide)).trans s71
                            have pr78 := gRn.fr xq74.2 (by decide) pr72
                            have pr79 := gRn.fr xq74.2 (by decide) yq68_0
                            refine gz_s 1 (pc' := 208) (L' := [some (.ref m), some (.int (zi p)), some (.int (zi a)), some (.int (zi b)), some (.int (zi bt)), some (.int (zi ln)), some (.int (zi z2)), some (.int (zi k2)), some (.int (zi zq49)), some (.int (zi jn55v0))]) (S' := [.ref m]) rfl ?_
                            refine gz_call rfl (by decide) rfl (by decide) (by decide) (gcal_of rfl rfl rfl (Nat.le_of_ble_eq_true rfl) (gJ.recv (G := gGG) sq74.1 tm rfl rfl)) (mn_putWaiting _ sq74.1 m tm ic s75 (by omega) wt2 s77 (by omega) uq) (fun q80 _ wq80 => ?_)
                            obtain ⟨pq80, oq80, hq80⟩ := q80
                            obtain ⟨xq80, fq80_0, gq80, efq80_0, afq80_0, bfq80_0, uq80_0⟩ := wq80
                            refine ⟨_, gq80, ?_⟩
                            show gz gPP gGG gcn _ _ 211 [some (.ref m), some (.int (zi p)), some (.int (zi a)), some (.int (zi b)), some (.int (zi bt)), some (.int (zi ln)), some (.int (zi z2)), some (.int (zi k2)), some (.int (zi zq49)), some (.int (zi jn55v0))] [] hq80 _
                            have sq80 := gSs.tr sq74 xq80 (by decide)
                            have s81 := (xq80.2.2.2.2.2 m 67 (by rw [tm]; decide)).trans s75
                            have s82 := (xq80.2.2.2.2.2 m 64 (by rw [tm]; decide)).trans s76
                            have pr83 := gRn.fr xq80.2 (by decide) pr78
                            have pr84 := gRn.fr xq80.2 (by decide) pr79
                            refine gz_s 2 (pc' := 214) (L' := [some (.ref m), some (.int (zi p)), some (.int (zi a)), some (.int (zi b)), some (.int (zi bt)), some (.int (zi ln)), some (.int (zi 0)), some (.int (zi k2)), some (.int (zi zq49)), some (.int (zi jn55v0))]) (S' := []) rfl ?_
                            have hR : eeRk ecS ecP bt cf p a b w1 (k2 + 1) = (0, (eeWk ecS ecP (eeRk ecS ecP bt cf p a b w1 k2) zr z2).2.1, 0, ecS ((16 * z2) + 1) ((eeWk ecS ecP (eeRk ecS ecP bt cf p a b w1 k2) zr z2).2.2.2)) := (eeRk_1 (a := jn55v0) (s := (16 * z2) + 1) (V := 0) (by omega) (by omega) (by omega) rfl hn9 (by omega) (by omega) ⟨by omega, by omega⟩ (by omega) (by omega) (by omega) (by split <;> omega)).trans rfl
                            have hR_1 : (eeRk ecS ecP bt cf p a b w1 (k2 + 1)).1 = 0 := by rw [hR]
                            have hR_21 : (eeRk ecS ecP bt cf p a b w1 (k2 + 1)).2.1 = (eeWk ecS ecP (eeRk ecS ecP bt cf p a b w1 k2) zr z2).2.1 := by rw [hR]
                            have hR_221 : (eeRk ecS ecP bt cf p a b w1 (k2 + 1)).2.2.1 = 0 := by rw [hR]
                            have hk85 : (eeRk ecS ecP bt cf p a b w1 (k2 + 1)).2.2.2 = ecS ((16 * z2) + 1) ((eeWk ecS ecP (eeRk ecS ecP bt cf p a b w1 k2) zr z2).2.2.2) := by rw [hR]
                            have hrw86 : gRn 514 ty 36 (eeJ w0 ((eeRk ecS ecP bt cf p a b w1 (k2 + 1)).2.2.2)) hq80 := by rw [hk85]; exact pr84
                            refine gy_s 2 (pc' := 64) (L' := [some (.ref m), some (.int (zi p)), some (.int (zi a)), some (.int (zi b)), some (.int (zi bt)), some (.int (zi ln)), some (.int (zi 0)), some (.int ((zi k2) + zi 1)), some (.int (zi zq49)), some (.int (zi jn55v0))]) (S' := []) (L2 := [some (.ref m), some (.int (zi p)), some (.int (zi a)), some (.int (zi b)), some (.int (zi bt)), some (.int (zi ln)), some (.int (zi 0)), some (.int (zi (k2 + 1))), some (.int (zi zq49)), some (.int (zi jn55v0))]) (S2 := []) rfl (by simp only [zi_add, zi_sub, zi_mul, zi_neg, zi_and1, zi_and7, zi_and15, zi_and31, zi_and255]) (by simp only [zi_add, zi_sub, zi_mul, zi_neg, zi_and1, zi_and7, zi_and15, zi_and31, zi_and255]) ?_
                            exact gz_wk (ihlp9 hq80 0 (k2 + 1) fq80_0 (by omega) sq80 (by omega) (by omega) (by omega) (by omega) (by omega) (by omega) (by omega) (by omega) s81 s82 efq80_0 pr83 hrw86) (gLw.s (gLw.s (gLw.s (gLw.s (gLw.s (gLw.s (gLw.s (gLw.s (gLw.n (gLw.n gLw.z))))))))))
                          · refine gy_ifF rfl (by decide) (by decide) (by omega) hc73 ?_
                            refine gz_s 2 (pc' := 204) (L' := [some (.ref m), some (.int (zi p)), some (.int (zi a)), some (.int (zi b)), some (.int (zi bt)), some (.int (zi ln)), some (.int (zi z2)), some (.int (zi k2)), some (.int (zi zq49)), some (.int (zi jn55v0))]) (S' := [.int (zi 1), .ref m]) rfl ?_
                            refine gz_call rfl (by decide) rfl (by decide) (by decide) (gcal_of rfl rfl rfl (Nat.le_of_ble_eq_true rfl) (gJ.recv (G := gGG) sq68.1 tm rfl rfl)) (mn_putBit _ sq68.1 m tm 1 (by omega) ic s69 (by omega) uq) (fun q87 _ wq87 => ?_)
                            obtain ⟨pq87, oq87, hq87⟩ := q87
                            obtain ⟨xq87, gq87⟩ := wq87
                            refine ⟨_, gq87, ?_⟩
                            show gz gPP gGG gcn _ _ 207 [some (.ref m), some (.int (zi p)), some (.int (zi a)), some (.int (zi b)), some (.int (zi bt)), some (.int (zi ln)), some (.int (zi z2)), some (.int (zi k2)), some (.int (zi zq49)), some (.int (zi jn55v0))] [] hq87 _
                            have sq87 := gSs.tr sq68 xq87 (by decide)
                            have s88 := (xq87.2.2.2.2.2 m 67 (by rw [tm]; decide)).trans s69
                            have s89 := (xq87.2.2.2.2.2 m 64 (by rw [tm]; decide)).trans s70
                            have s90 := (xq87.2.2.2.2.2 m 75 (by rw [tm]; decide)).trans s71
                            have pr91 := gRn.fr xq87.2 (by decide) pr72
                            have pr92 := gRn.fr xq87.2 (by decide) yq68_0
                            refine gz_s 1 (pc' := 208) (L' := [some (.ref m), some (.int (zi p)), some (.int (zi a)), some (.int (zi b)), some (.int (zi bt)), some (.int (zi ln)), some (.int (zi z2)), some (.int (zi k2)), some (.int (zi zq49)), some (.int (zi jn55v0))]) (S' := [.ref m]) rfl ?_
                            refine gz_call rfl (by decide) rfl (by decide) (by decide) (gcal_of rfl rfl rfl (Nat.le_of_ble_eq_true rfl) (gJ.recv (G := gGG) sq87.1 tm rfl rfl)) (mn_putWaiting _ sq87.1 m tm ic s88 (by omega) wt2 s90 (by omega) uq) (fun q93 _ wq93 => ?_)
                            obtain ⟨pq93, oq93, hq93⟩ := q93
                            obtain ⟨xq93, fq93_0, gq93, efq93_0, afq93_0, bfq93_0, uq93_0⟩ := wq93
                            refine ⟨_, gq93, ?_⟩
                            show gz gPP gGG gcn _ _ 211 [some (.ref m), some (.int (zi p)), some (.int (zi a)), some (.int (zi b)), some (.int (zi bt)), some (.int (zi ln)), some (.int (zi z2)), some (.int (zi k2)), some (.int (zi zq49)), some (.int (zi jn55v0))] [] hq93 _
                            have sq93 := gSs.tr sq87 xq93 (by decide)
                            have s94 := (xq93.2.2.2.2.2 m 67 (by rw [tm]; decide)).trans s88
                            have s95 := (xq93.2.2.2.2.2 m 64 (by rw [tm]; decide)).trans s89
                            have pr96 := gRn.fr xq93.2 (by decide) pr91
                            have pr97 := gRn.fr xq93.2 (by decide) pr92
                            refine gz_s 2 (pc' := 214) (L' := [some (.ref m), some (.int (zi p)), some (.int (zi a)), some (.int (zi b)), some (.int (zi bt)), some (.int (zi ln)), some (.int (zi 0)), some (.int (zi k2)), some (.int (zi zq49)), some (.int (zi jn55v0))]) (S' := []) rfl ?_
                            have hR : eeRk ecS ecP bt cf p a b w1 (k2 + 1) = (0, (eeWk ecS ecP (eeRk ecS ecP bt cf p a b w1 k2) zr z2).2.1, 0, ecS ((16 * z2) + 1) ((eeWk ecS ecP (eeRk ecS ecP bt cf p a b w1 k2) zr z2).2.2.2)) := (eeRk_1 (a := jn55v0) (s := (16 * z2) + 1) (V := 1) (by omega) (by omega) (by omega) rfl hn9 (by omega) (by omega) ⟨by omega, by omega⟩ (by omega) (by omega) (by omega) (by split <;> omega)).trans rfl
                            have hR_1 : (eeRk ecS ecP bt cf p a b w1 (k2 + 1)).1 = 0 := by rw [hR]
                            have hR_21 : (eeRk ecS ecP bt cf p a b w1 (k2 + 1)).2.1 = (eeWk ecS ecP (eeRk ecS ecP bt cf p a b w1 k2) zr z2).2.1 := by rw [hR]
                            have hR_221 : (eeRk ecS ecP bt cf p a b w1 (k2 + 1)).2.2.1 = 0 := by rw [hR]
                            have hk98 : (eeRk ecS ecP bt cf p a b w1 (k2 + 1)).2.2.2 = ecS ((16 * z2) + 1) ((eeWk ecS ecP (eeRk ecS ecP bt cf p a b w1 k2) zr z2).2.2.2) := by rw [hR]
                            have hrw99 : gRn 514 ty 36 (eeJ w0 ((eeRk ecS ecP bt cf p a b w1 (k2 + 1)).2.2.2)) hq93 := by rw [hk98]; exact pr97
                            refine gy_s 2 (pc' := 64) (L' := [some (.ref m), some (.int (zi p)), some (.int (zi a)), some (.int (zi b)), some (.int (zi bt)), some (.int (zi ln)), some (.int (zi 0)), some (.int ((zi k2) + zi 1)), some (.int (zi zq49)), some (.int (zi jn55v0))]) (S' := []) (L2 := [some (.ref m), some (.int (zi p)), some (.int (zi a)), some (.int (zi b)), some (.int (zi bt)), some (.int (zi ln)), some (.int (zi 0)), some (.int (zi (k2 + 1))), some (.int (zi zq49)), some (.int (zi jn55v0))]) (S2 := []) rfl (by simp only [zi_add, zi_sub, zi_mul, zi_neg, zi_and1, zi_and7, zi_and15, zi_and31, zi_and255]) (by simp only [zi_add, zi_sub, zi_mul, zi_neg, zi_and1, zi_and7, zi_and15, zi_and31, zi_and255]) ?_
                            exact gz_wk (ihlp9 hq93 0 (k2 + 1) fq93_0 (by omega) sq93 (by omega) (by omega) (by omega) (by omega) (by omega) (by omega) (by omega) (by omega) s94 s95 efq93_0 pr96 hrw99) (gLw.s (gLw.s (gLw.s (gLw.s (gLw.s (gLw.s (gLw.s (gLw.s (gLw.n (gLw.n gLw.z))))))))))
                        · refine gy_icF rfl (by decide) (by decide) (by omega) (by omega) hc66 ?_
                          refine gz_s 1 (pc' := 156) (L' := [some (.ref m), some (.int (zi p)), some (.int (zi a)), some (.int (zi b)), some (.int (zi bt)), some (.int (zi ln)), some (.int (zi z2)), some (.int (zi k2)), some (.int (zi zq49)), some (.int (zi jn55v0))]) (S' := [.ref m]) rfl ?_
                          refine gs_gtr rfl (by decide) rfl sh59.1 tm rfl rfl rfl (fun c100 ec100 tc100 => ?_)
                          refine gz_s 1 (pc' := 160) (L' := [some (.ref m), some (.int (zi p)), some (.int (zi a)), some (.int (zi b)), some (.int (zi bt)), some (.int (zi ln)), some (.int (zi z2)), some (.int (zi k2)), some (.int (zi zq49)), some (.int (zi jn55v0))]) (S' := [.ref m, .ref c100]) rfl ?_
                          refine gs_gtk rfl (by decide) rfl sh59.1 tm rfl rfl lp56k2 ?_
                          refine gy_s 3 (pc' := 167) (L' := [some (.ref m), some (.int (zi p)), some (.int (zi a)), some (.int (zi b)), some (.int (zi bt)), some (.int (zi ln)), some (.int (zi z2)), some (.int (zi k2)), some (.int (zi zq49)), some (.int (zi jn55v0))]) (S' := [.int ((zi jn55v0) &&& (zi 1)), .int (zi wt2), .ref c100]) (L2 := [some (.ref m), some (.int (zi p)), some (.int (zi a)), some (.int (zi b)), some (.int (zi bt)), some (.int (zi ln)), some (.int (zi z2)), some (.int (zi k2)), some (.int (zi zq49)), some (.int (zi jn55v0))]) (S2 := [.int (zi (jn55v0 % 2)), .int (zi wt2), .ref c100]) rfl (by simp only [zi_add, zi_sub, zi_mul, zi_neg, zi_and1, zi_and7, zi_and15, zi_and31, zi_and255]) (by simp only [zi_add, zi_sub, zi_mul, zi_neg, zi_and1, zi_and7, zi_and15, zi_and31, zi_and255]) ?_
                          have hl101 : 64 ≤ h59.2.2.2.1 c100 ∧ h59.2.2.2.1 c100 ≤ 64 := gJ.rowl (G := gGG) sh59.1 tc100 rfl
                          refine gs_ast rfl (by decide) sh59 tc100 rfl rfl rfl (by decide) (fun _ => rfl) (by omega) (by omega) (fun _ => (by decide : (42999 : Nat) ∈ ([1075, 36999, 42999] : List Nat))) (by omega) (by omega) (fun h102 sh102 eh102 fh102 => ?_)
                          have pr103 := gRn.pt fh102 tc100 (by decide) lp56k3
                          have pr104 := gRn.pt fh102 tc100 (by decide) lp56k4
                          have s105 := (fh102 m 67 (fun q => absurd (((tm).symm.trans (congrArg ty q.1)).trans tc100) (by decide))).trans lp56k0
                          have s106 := (fh102 m 64 (fun q => absurd (((tm).symm.trans (congrArg ty q.1)).trans tc100) (by decide))).trans lp56k1
                          have s107 := (fh102 m 75 (fun q => absurd (((tm).symm.trans (congrArg ty q.1)).trans tc100) (by decide))).trans lp56k2
                          have s108 := (fh102 m 76 (fun q => absurd (((tm).symm.trans (congrArg ty q.1)).trans tc100) (by decide))).trans ec100
                          have pr109 := gEl.set (i := wt2) (z := jn55v0 % 2) uq tc100 (by decide) eh102 (by omega) (by omega)
                          refine gz_s 2 (pc' := 170) (L' := [some (.ref m), some (.int (zi p)), some (.int (zi a)), some (.int (zi b)), some (.int (zi bt)), some (.int (zi ln)), some (.int (zi z2)), some (.int (zi k2)), some (.int (zi zq49)), some (.int (zi jn55v0))]) (S' := [.ref m, .ref m]) rfl ?_
                          refine gs_gtk rfl (by decide) rfl sh102.1 tm rfl rfl s107 ?_
                          refine gy_s 2 (pc' := 175) (L' := [some (.ref m), some (.int (zi p)), some (.int (zi a)), some (.int (zi b)), some (.int (zi bt)), some (.int (zi ln)), some (.int (zi z2)), some (.int (zi k2)), some (.int (zi zq49)), some (.int (zi jn55v0))]) (S' := [.int ((zi wt2) + (zi 1)), .ref m]) (L2 := [some (.ref m), some (.int (zi p)), some (.int (zi a)), some (.int (zi b)), some (.int (zi bt)), some (.int (zi ln)), some (.int (zi z2)), some (.int (zi k2)), some (.int (zi zq49)), some (.int (zi jn55v0))]) (S2 := [.int (zi (wt2 + 1)), .ref m]) rfl (by simp only [zi_add, zi_sub, zi_mul, zi_neg, zi_and1, zi_and7, zi_and15, zi_and31, zi_and255]) (by simp only [zi_add, zi_sub, zi_mul, zi_neg, zi_and1, zi_and7, zi_and15, zi_and31, zi_and255]) ?_
                          refine gs_put rfl (by decide) rfl sh102 tm rfl rfl rfl rfl (Or.inl rfl) (by decide) (by omega) (by omega) (fun h110 sh110 eh110 fh110 => ?_)
                          have pr111 := gRn.pt fh110 tm (by decide) pr103
                          have pr112 := gRn.pt fh110 tm (by decide) pr104
                          have pr113 := gEl.pt fh110 tm (by decide) pr109
                          have s114 := (fh110 m 67 (fun q => absurd q.2 (by decide))).trans s105
                          have s115 := (fh110 m 64 (fun q => absurd q.2 (by decide))).trans s106
                          have s116 := (fh110 m 76 (fun q => absurd q.2 (by decide))).trans s108
                          refine gz_s 1 (pc' := 214) (L' := [some (.ref m), some (.int (zi p)), some (.int (zi a)), some (.int (zi b)), some (.int (zi bt)), some (.int (zi ln)), some (.int (zi z2)), some (.int (zi k2)), some (.int (zi zq49)), some (.int (zi jn55v0))]) (S' := []) rfl ?_
                          have hR : eeRk ecS ecP bt cf p a b w1 (k2 + 1) = ((eeWk ecS ecP (eeRk ecS ecP bt cf p a b w1 k2) zr z2).1, 2 * (eeWk ecS ecP (eeRk ecS ecP bt cf p a b w1 k2) zr z2).2.1 + jn55v0 % 2, (eeWk ecS ecP (eeRk ecS ecP bt cf p a b w1 k2) zr z2).2.2.1 + 1, (eeWk ecS ecP (eeRk ecS ecP bt cf p a b w1 k2) zr z2).2.2.2) := eeRk_m (a := jn55v0) (by omega) (by omega) (by omega) rfl hn9 (by omega) (by omega) ⟨by omega, by omega⟩ (by omega)
                          have hR_1 : (eeRk ecS ecP bt cf p a b w1 (k2 + 1)).1 = (eeWk ecS ecP (eeRk ecS ecP bt cf p a b w1 k2) zr z2).1 := by rw [hR]
                          have hR_21 : (eeRk ecS ecP bt cf p a b w1 (k2 + 1)).2.1 = 2 * (eeWk ecS ecP (eeRk ecS ecP bt cf p a b w1 k2) zr z2).2.1 + jn55v0 % 2 := by rw [hR]
                          have hR_221 : (eeRk ecS ecP bt cf p a b w1 (k2 + 1)).2.2.1 = (eeWk ecS ecP (eeRk ecS ecP bt cf p a b w1 k2) zr z2).2.2.1 + 1 := by rw [hR]
                          have hk117 : (eeRk ecS ecP bt cf p a b w1 (k2 + 1)).2.2.2 = (eeWk ecS ecP (eeRk ecS ecP bt cf p a b w1 k2) zr z2).2.2.2 := by rw [hR]
                          have hrw118 : gRn 514 ty 36 (eeJ w0 ((eeRk ecS ecP bt cf p a b w1 (k2 + 1)).2.2.2)) h110 := by rw [hk117]; exact pr112
                          refine gy_s 2 (pc' := 64) (L' := [some (.ref m), some (.int (zi p)), some (.int (zi a)), some (.int (zi b)), some (.int (zi bt)), some (.int (zi ln)), some (.int (zi z2)), some (.int ((zi k2) + zi 1)), some (.int (zi zq49)), some (.int (zi jn55v0))]) (S' := []) (L2 := [some (.ref m), some (.int (zi p)), some (.int (zi a)), some (.int (zi b)), some (.int (zi bt)), some (.int (zi ln)), some (.int (zi z2)), some (.int (zi (k2 + 1))), some (.int (zi zq49)), some (.int (zi jn55v0))]) (S2 := []) rfl (by simp only [zi_add, zi_sub, zi_mul, zi_neg, zi_and1, zi_and7, zi_and15, zi_and31, zi_and255]) (by simp only [zi_add, zi_sub, zi_mul, zi_neg, zi_and1, zi_and7, zi_and15, zi_and31, zi_and255]) ?_
                          exact gz_wk (ihlp9 h110 z2 (k2 + 1) (wt2 + 1) (by omega) sh110 (by omega) (by omega) (by omega) (by omega) (by omega) (by omega) (by omega) (by omega) s114 s115 eh110 pr111 hrw118) (gLw.s (gLw.s (gLw.s (gLw.s (gLw.s (gLw.s (gLw.s (gLw.s (gLw.n (gLw.n gLw.z))))))))))
                      · refine gy_icF rfl (by decide) (by decide) (by omega) (by omega) hc65 ?_
                        refine gz_s 2 (pc' := 113) (L' := [some (.ref m), some (.int (zi p)), some (.int (zi a)), some (.int (zi b)), some (.int (zi bt)), some (.int (zi ln)), some (.int (zi z2)), some (.int (zi k2)), some (.int (zi zq49)), some (.int (zi jn55v0))]) (S' := [.int (zi ln), .int (zi k2)]) rfl ?_
                        by_cases hc119 : (ln : Int) < k2
                        · refine gy_icT (pc' := 138) rfl (by decide) (by decide) (by omega) (by omega) hc119 ?_
                          refine gz_s 1 (pc' := 140) (L' := [some (.ref m), some (.int (zi p)), some (.int (zi a)), some (.int (zi b)), some (.int (zi bt)), some (.int (zi ln)), some (.int (zi z2)), some (.int (zi k2)), some (.int (zi zq49)), some (.int (zi jn55v0))]) (S' := [.int (zi jn55v0)]) rfl ?_
                          refine gy_ifT (pc' := 149) rfl (by decide) (by decide) (by omega) (by first | (simp [zc]; done) | (simp only [zc]; omega)) ?_
                          refine gz_s 2 (pc' := 152) (L' := [some (.ref m), some (.int (zi p)), some (.int (zi a)), some (.int (zi b)), some (.int (zi bt)), some (.int (zi ln)), some (.int (zi z2)), some (.int (zi k2)), some (.int (zi zq49)), some (.int (zi jn55v0))]) (S' := [.int (zi 1), .int (zi jn55v0)]) rfl ?_
                          by_cases hc120 : (jn55v0 : Int) ≤ 1
                          · refine gy_icT (pc' := 181) rfl (by decide) (by decide) (by omega) (by omega) hc120 ?_
                            have hk9 : k2 ≤ eeLk bt cf p a b := eeLk_1 (by omega) (by omega) (by omega) (by omega) rfl (by rw [← hn9]; omega)
                            have hwb121 : ewB ((eeWk ecS ecP (eeRk ecS ecP bt cf p a b w1 k2) zr z2).2.2.2) 4000 := ((ewB.Rk (lw := bt) (cf := cf) (p := p) (tt := b) hywb (by omega : a ≤ k2)).Wk (by omega : z2 ≤ zr)).mono (by omega)
                            refine gy_s 7 (pc' := 190) (L' := [some (.ref m), some (.int (zi p)), some (.int (zi a)), some (.int (zi b)), some (.int (zi bt)), some (.int (zi ln)), some (.int (zi z2)), some (.int (zi k2)), some (.int (zi zq49)), some (.int (zi jn55v0))]) (S' := [.int (((zi 16) * (zi z2)) + (zi 1)), .int (zi 1), .ref m]) (L2 := [some (.ref m), some (.int (zi p)), some (.int (zi a)), some (.int (zi b)), some (.int (zi bt)), some (.int (zi ln)), some (.int (zi z2)), some (.int (zi k2)), some (.int (zi zq49)), some (.int (zi jn55v0))]) (S2 := [.int (zi ((16 * z2) + 1)), .int (zi 1), .ref m]) rfl (by simp only [zi_add, zi_sub, zi_mul, zi_neg, zi_and1, zi_and7, zi_and15, zi_and31, zi_and255]) (by simp only [zi_add, zi_sub, zi_mul, zi_neg, zi_and1, zi_and7, zi_and15, zi_and31, zi_and255]) ?_
                            refine gz_call rfl (by decide) rfl (by decide) (by decide) (gcal_of rfl rfl rfl (Nat.le_of_ble_eq_true rfl) (gJ.recv (G := gGG) sh59.1 tm rfl rfl)) (mn_putSymbol1 _ sh59.1 m tm 1 (by omega) ((16 * z2) + 1) (by omega) ic lp56k0 (by omega) w0 ((eeWk ecS ecP (eeRk ecS ecP bt cf p a b w1 k2) zr z2).2.2.2) uq lp56k4 hwb121) (fun q122 _ wq122 => ?_)
                            obtain ⟨pq122, oq122, hq122⟩ := q122
                            obtain ⟨xq122, gq122, yq122_0⟩ := wq122
                            refine ⟨_, gq122, ?_⟩
                            show gz gPP gGG gcn _ _ 193 [some (.ref m), some (.int (zi p)), some (.int (zi a)), some (.int (zi b)), some (.int (zi bt)), some (.int (zi ln)), some (.int (zi z2)), some (.int (zi k2)), some (.int (zi zq49)), some (.int (zi jn55v0))] [] hq122 _
                            have sq122 := gSs.tr sh59 xq122 (by decide)
                            have s123 := (xq122.2.2.2.2.2 m 67 (by rw [tm]; decide)).trans lp56k0
                            have s124 := (xq122.2.2.2.2.2 m 64 (by rw [tm]; decide)).trans lp56k1
                            have s125 := (xq122.2.2.2.2.2 m 75 (by rw [tm]; decide)).trans lp56k2
                            have pr126 := gRn.fr xq122.2 (by decide) lp56k3
                            refine gz_s 2 (pc' := 196) (L' := [some (.ref m), some (.int (zi p)), some (.int (zi a)), some (.int (zi b)), some (.int (zi bt)), some (.int (zi ln)), some (.int (zi z2)), some (.int (zi k2)), some (.int (zi zq49)), some (.int (zi jn55v0))]) (S' := [.int (zi zq49), .ref m]) rfl ?_
                            by_cases hc127 : (zq49 : Int) ≤ 0
                            · refine gy_ifT (pc' := 203) rfl (by decide) (by decide) (by omega) hc127 ?_
                              refine gz_s 1 (pc' := 204) (L' := [some (.ref m), some (.int (zi p)), some (.int (zi a)), some (.int (zi b)), some (.int (zi bt)), some (.int (zi ln)), some (.int (zi z2)), some (.int (zi k2)), some (.int (zi zq49)), some (.int (zi jn55v0))]) (S' := [.int (zi 0), .ref m]) rfl ?_
                              refine gz_call rfl (by decide) rfl (by decide) (by decide) (gcal_of rfl rfl rfl (Nat.le_of_ble_eq_true rfl) (gJ.recv (G := gGG) sq122.1 tm rfl rfl)) (mn_putBit _ sq122.1 m tm 0 (by omega) ic s123 (by omega) uq) (fun q128 _ wq128 => ?_)
                              obtain ⟨pq128, oq128, hq128⟩ := q128
                              obtain ⟨xq128, gq128⟩ := wq128
                              refine ⟨_, gq128, ?_⟩
                              show gz gPP gGG gcn _ _ 207 [some (.ref m), some (.int (zi p)), some (.int (zi a)), some (.int (zi b)), some (.int (zi bt)), some (.int (zi ln)), some (.int (zi z2)), some (.int (zi k2)), some (.int (zi zq49)), some (.int (zi jn55v0))] [] hq128 _
                              have sq128 := gSs.tr sq122 xq128 (by decide)
                              have s129 := (xq128.2.2.2.2.2 m 67 (by rw [tm]; decide)).trans s123
                              have s130 := (xq128.2.2.2.2.2 m 64 (by rw [tm]; decide)).trans s124
                              have s131 := (xq128.2.2.2.2.2 m 75 (by rw [tm]; decide)).trans s125
                              have pr132 := gRn.fr xq128.2 (by decide) pr126
                              have pr133 := gRn.fr xq128.2 (by decide) yq122_0
                              refine gz_s 1 (pc' := 208) (L' := [some (.ref m), some (.int (zi p)), some (.int (zi a)), some (.int (zi b)), some (.int (zi bt)), some (.int (zi ln)), some (.int (zi z2)), some (.int (zi k2)), some (.int (zi zq49)), some (.int (zi jn55v0))]) (S' := [.ref m]) rfl ?_
                              refine gz_call rfl (by decide) rfl (by decide) (by decide) (gcal_of rfl rfl rfl (Nat.le_of_ble_eq_true rfl) (gJ.recv (G := gGG) sq128.1 tm rfl rfl)) (mn_putWaiting _ sq128.1 m tm ic s129 (by omega) wt2 s131 (by omega) uq) (fun q134 _ wq134 => ?_)
                              obtain ⟨pq134, oq134, hq134⟩ := q134
                              obtain ⟨xq134, fq134_0, gq134, efq134_0, afq134_0, bfq134_0, uq134_0⟩ := wq134
                              refine ⟨_, gq134, ?_⟩
                              show gz gPP gGG gcn _ _ 211 [some (.ref m), some (.int (zi p)), some (.int (zi a)), some (.int (zi b)), some (.int (zi bt)), some (.int (zi ln)), some (.int (zi z2)), some (.int (zi k2)), some (.int (zi zq49)), some (.int (zi jn55v0))] [] hq134 _
                              have sq134 := gSs.tr sq128 xq134 (by decide)
                              have s135 := (xq134.2.2.2.2.2 m 67 (by rw [tm]; decide)).trans s129
                              have s136 := (xq134.2.2.2.2.2 m 64 (by rw [tm]; decide)).trans s130
                              have pr137 := gRn.fr xq134.2 (by decide) pr132
                              have pr138 := gRn.fr xq134.2 (by decide) pr133
                              refine gz_s 2 (pc' := 214) (L' := [some (.ref m), some (.int (zi p)), some (.int (zi a)), some (.int (zi b)), some (.int (zi bt)), some (.int (zi ln)), some (.int (zi 0)), some (.int (zi k2)), some (.int (zi zq49)), some (.int (zi jn55v0))]) (S' := []) rfl ?_
                              have hR : eeRk ecS ecP bt cf p a b w1 (k2 + 1) = (0, (eeWk ecS ecP (eeRk ecS ecP bt cf p a b w1 k2) zr z2).2.1, 0, ecS ((16 * z2) + 1) ((eeWk ecS ecP (eeRk ecS ecP bt cf p a b w1 k2) zr z2).2.2.2)) := (eeRk_1 (a := jn55v0) (s := (16 * z2) + 1) (V := 0) (by omega) (by omega) (by omega) rfl hn9 (by omega) (by omega) ⟨by omega, by omega⟩ (by omega) (by omega) (by omega) (by split <;> omega)).trans rfl
                              have hR_1 : (eeRk ecS ecP bt cf p a b w1 (k2 + 1)).1 = 0 := by rw [hR]
                              have hR_21 : (eeRk ecS ecP bt cf p a b w1 (k2 + 1)).2.1 = (eeWk ecS ecP (eeRk ecS ecP bt cf p a b w1 k2) zr z2).2.1 := by rw [hR]
                              have hR_221 : (eeRk ecS ecP bt cf p a b w1 (k2 + 1)).2.2.1 = 0 := by rw [hR]
                              have hk139 : (eeRk ecS ecP bt cf p a b w1 (k2 + 1)).2.2.2 = ecS ((16 * z2) + 1) ((eeWk ecS ecP (eeRk ecS ecP bt cf p a b w1 k2) zr z2).2.2.2) := by rw [hR]
                              have hrw140 : gRn 514 ty 36 (eeJ w0 ((eeRk ecS ecP bt cf p a b w1 (k2 + 1)).2.2.2)) hq134 := by rw [hk139]; exact pr138
                              refine gy_s 2 (pc' := 64) (L' := [some (.ref m), some (.int (zi p)), some (.int (zi a)), some (.int (zi b)), some (.int (zi bt)), some (.int (zi ln)), some (.int (zi 0)), some (.int ((zi k2) + zi 1)), some (.int (zi zq49)), some (.int (zi jn55v0))]) (S' := []) (L2 := [some (.ref m), some (.int (zi p)), some (.int (zi a)), some (.int (zi b)), some (.int (zi bt)), some (.int (zi ln)), some (.int (zi 0)), some (.int (zi (k2 + 1))), some (.int (zi zq49)), some (.int (zi jn55v0))]) (S2 := []) rfl (by simp only [zi_add, zi_sub, zi_mul, zi_neg, zi_and1, zi_and7, zi_and15, zi_and31, zi_and255]) (by simp only [zi_add, zi_sub, zi_mul, zi_neg, zi_and1, zi_and7, zi_and15, zi_and31, zi_and255]) ?_
                              exact gz_wk (ihlp9 hq134 0 (k2 + 1) fq134_0 (by omega) sq134 (by omega) (by omega) (by omega) (by omega) (by omega) (by omega) (by omega) (by omega) s135 s136 efq134_0 pr137 hrw140) (gLw.s (gLw.s (gLw.s (gLw.s (gLw.s (gLw.s (gLw.s (gLw.s (gLw.n (gLw.n gLw.z))))))))))
                            · refine gy_ifF rfl (by decide) (by decide) (by omega) hc127 ?_
                              refine gz_s 2 (pc' := 204) (L' := [some (.ref m), some (.int (zi p)), some (.int (zi a)), some (.int (zi b)), some (.int (zi bt)), some (.int (zi ln)), some (.int (zi z2)), some (.int (zi k2)), some (.int (zi zq49)), some (.int (zi jn55v0))]) (S' := [.int (zi 1), .ref m]) rfl ?_
                              refine gz_call rfl (by decide) rfl (by decide) (by decide) (gcal_of rfl rfl rfl (Nat.le_of_ble_eq_true rfl) (gJ.recv (G := gGG) sq122.1 tm rfl rfl)) (mn_putBit _ sq122.1 m tm 1 (by omega) ic s123 (by omega) uq) (fun q141 _ wq141 => ?_)
                              obtain ⟨pq141, oq141, hq141⟩ := q141
                              obtain ⟨xq141, gq141⟩ := wq141
                              refine ⟨_, gq141, ?_⟩
                              show gz gPP gGG gcn _ _ 207 [some (.ref m), some (.int (zi p)), some (.int (zi a)), some (.int (zi b)), some (.int (zi bt)), some (.int (zi ln)), some (.int (zi z2)), some (.int (zi k2)), some (.int (zi zq49)), some (.int (zi jn55v0))] [] hq141 _
                              have sq141 := gSs.tr sq122 xq141 (by decide)
                              have s142 := (xq141.2.2.2.2.2 m 67 (by rw [tm]; decide)).trans s123
                              have s143 := (xq141.2.2.2.2.2 m 64 (by rw [tm]; decide)).trans s124
                              have s144 := (xq141.2.2.2.2.2 m 75 (by rw [tm]; decide)).trans s125
                              have pr145 := gRn.fr xq141.2 (by decide) pr126
                              have pr146 := gRn.fr xq141.2 (by decide) yq122_0
                              refine gz_s 1 (pc' := 208) (L' := [some (.ref m), some (.int (zi p)), some (.int (zi a)), some (.int (zi b)), some (.int (zi bt)), some (.int (zi ln)), some (.int (zi z2)), some (.int (zi k2)), some (.int (zi zq49)), some (.int (zi jn55v0))]) (S' := [.ref m]) rfl ?_
                              refine gz_call rfl (by decide) rfl (by decide) (by decide) (gcal_of rfl rfl rfl (Nat.le_of_ble_eq_true rfl) (gJ.recv (G := gGG) sq141.1 tm rfl rfl)) (mn_putWaiting _ sq141.1 m tm ic s142 (by omega) wt2 s144 (by omega) uq) (fun q147 _ wq147 => ?_)
                              obtain ⟨pq147, oq147, hq147⟩ := q147
                              obtain ⟨xq147, fq147_0, gq147, efq147_0, afq147_0, bfq147_0, uq147_0⟩ := wq147
                              refine ⟨_, gq147, ?_⟩
                              show gz gPP gGG gcn _ _ 211 [some (.ref m), some (.int (zi p)), some (.int (zi a)), some (.int (zi b)), some (.int (zi bt)), some (.int (zi ln)), some (.int (zi z2)), some (.int (zi k2)), some (.int (zi zq49)), some (.int (zi jn55v0))] [] hq147 _
                              have sq147 := gSs.tr sq141 xq147 (by decide)
                              have s148 := (xq147.2.2.2.2.2 m 67 (by rw [tm]; decide)).trans s142
                              have s149 := (xq147.2.2.2.2.2 m 64 (by rw [tm]; decide)).trans s143
                              have pr150 := gRn.fr xq147.2 (by decide) pr145
                              have pr151 := gRn.fr xq147.2 (by decide) pr146
                              refine gz_s 2 (pc' := 214) (L' := [some (.ref m), some (.int (zi p)), some (.int (zi a)), some (.int (zi b)), some (.int (zi bt)), some (.int (zi ln)), some (.int (zi 0)), some (.int (zi k2)), some (.int (zi zq49)), some (.int (zi jn55v0))]) (S' := []) rfl ?_
                              have hR : eeRk ecS ecP bt cf p a b w1 (k2 + 1) = (0, (eeWk ecS ecP (eeRk ecS ecP bt cf p a b w1 k2) zr z2).2.1, 0, ecS ((16 * z2) + 1) ((eeWk ecS ecP (eeRk ecS ecP bt cf p a b w1 k2) zr z2).2.2.2)) := (eeRk_1 (a := jn55v0) (s := (16 * z2) + 1) (V := 1) (by omega) (by omega) (by omega) rfl hn9 (by omega) (by omega) ⟨by omega, by omega⟩ (by omega) (by omega) (by omega) (by split <;> omega)).trans rfl
                              have hR_1 : (eeRk ecS ecP bt cf p a b w1 (k2 + 1)).1 = 0 := by rw [hR]
                              have hR_21 : (eeRk ecS ecP bt cf p a b w1 (k2 + 1)).2.1 = (eeWk ecS ecP (eeRk ecS ecP bt cf p a b w1 k2) zr z2).2.1 := by rw [hR]
                              have hR_221 : (eeRk ecS ecP bt cf p a b w1 (k2 + 1)).2.2.1 = 0 := by rw [hR]
                              have hk152 : (eeRk ecS ecP bt cf p a b w1 (k2 + 1)).2.2.2 = ecS ((16 * z2) + 1) ((eeWk ecS ecP (eeRk ecS ecP bt cf p a b w1 k2) zr z2).2.2.2) := by rw [hR]
                              have hrw153 : gRn 514 ty 36 (eeJ w0 ((eeRk ecS ecP bt cf p a b w1 (k2 + 1)).2.2.2)) hq147 := by rw [hk152]; exact pr151
                              refine gy_s 2 (pc' := 64) (L' := [some (.ref m), some (.int (zi p)), some (.int (zi a)), some (.int (zi b)), some (.int (zi bt)), some (.int (zi ln)), some (.int (zi 0)), some (.int ((zi k2) + zi 1)), some (.int (zi zq49)), some (.int (zi jn55v0))]) (S' := []) (L2 := [some (.ref m), some (.int (zi p)), some (.int (zi a)), some (.int (zi b)), some (.int (zi bt)), some (.int (zi ln)), some (.int (zi 0)), some (.int (zi (k2 + 1))), some (.int (zi zq49)), some (.int (zi jn55v0))]) (S2 := []) rfl (by simp only [zi_add, zi_sub, zi_mul, zi_neg, zi_and1, zi_and7, zi_and15, zi_and31, zi_and255]) (by simp only [zi_add, zi_sub, zi_mul, zi_neg, zi_and1, zi_and7, zi_and15, zi_and31, zi_and255]) ?_
                              exact gz_wk (ihlp9 hq147 0 (k2 + 1) fq147_0 (by omega) sq147 (by omega) (by omega) (by omega) (by omega) (by omega) (by omega) (by omega) (by omega) s148 s149 efq147_0 pr150 hrw153) (gLw.s (gLw.s (gLw.s (gLw.s (gLw.s (gLw.s (gLw.s (gLw.s (gLw.n (gLw.n gLw.z))))))))))
                          · refine gy_icF rfl (by decide) (by decide) (by omega) (by omega) hc120 ?_
                            refine gz_s 1 (pc' := 156) (L' := [some (.ref m), some (.int (zi p)), some (.int (zi a)), some (.int (zi b)), some (.int (zi bt)), some (.int (zi ln)), some (.int (zi z2)), some (.int (zi k2)), some (.int (zi zq49)), some (.int (zi jn55v0))]) (S' := [.ref m]) rfl ?_
                            refine gs_gtr rfl (by decide) rfl sh59.1 tm rfl rfl rfl (fun c154 ec154 tc154 => ?_)
                            refine gz_s 1 (pc' := 160) (L' := [some (.ref m), some (.int (zi p)), some (.int (zi a)), some (.int (zi b)), some (.int (zi bt)), some (.int (zi ln)), some (.int (zi z2)), some (.int (zi k2)), some (.int (zi zq49)), some (.int (zi jn55v0))]) (S' := [.ref m, .ref c154]) rfl ?_
                            refine gs_gtk rfl (by decide) rfl sh59.1 tm rfl rfl lp56k2 ?_
                            refine gy_s 3 (pc' := 167) (L' := [some (.ref m), some (.int (zi p)), some (.int (zi a)), some (.int (zi b)), some (.int (zi bt)), some (.int (zi ln)), some (.int (zi z2)), some (.int (zi k2)), some (.int (zi zq49)), some (.int (zi jn55v0))]) (S' := [.int ((zi jn55v0) &&& (zi 1)), .int (zi wt2), .ref c154]) (L2 := [some (.ref m), some (.int (zi p)), some (.int (zi a)), some (.int (zi b)), some (.int (zi bt)), some (.int (zi ln)), some (.int (zi z2)), some (.int (zi k2)), some (.int (zi zq49)), some (.int (zi jn55v0))]) (S2 := [.int (zi (jn55v0 % 2)), .int (zi wt2), .ref c154]) rfl (by simp only [zi_add, zi_sub, zi_mul, zi_neg, zi_and1, zi_and7, zi_and15, zi_and31, zi_and255]) (by simp only [zi_add, zi_sub, zi_mul, zi_neg, zi_and1, zi_and7, zi_and15, zi_and31, zi_and255]) ?_
                            have hl155 : 64 ≤ h59.2.2.2.1 c154 ∧ h59.2.2.2.1 c154 ≤ 64 := gJ.rowl (G := gGG) sh59.1 tc154 rfl
                            refine gs_ast rfl (by decide) sh59 tc154 rfl rfl rfl (by decide) (fun _ => rfl) (by omega) (by omega) (fun _ => (by decide : (42999 : Nat) ∈ ([1075, 36999, 42999] : List Nat))) (by omega) (by omega) (fun h156 sh156 eh156 fh156 => ?_)
                            have pr157 := gRn.pt fh156 tc154 (by decide) lp56k3
                            have pr158 := gRn.pt fh156 tc154 (by decide) lp56k4
                            have s159 := (fh156 m 67 (fun q => absurd (((tm).symm.trans (congrArg ty q.1)).trans tc154) (by decide))).trans lp56k0
                            have s160 := (fh156 m 64 (fun q => absurd (((tm).symm.trans (congrArg ty q.1)).trans tc154) (by decide))).trans lp56k1
                            have s161 := (fh156 m 75 (fun q => absurd (((tm).symm.trans (congrArg ty q.1)).trans tc154) (by decide))).trans lp56k2
                            have s162 := (fh156 m 76 (fun q => absurd (((tm).symm.trans (congrArg ty q.1)).trans tc154) (by decide))).trans ec154
                            have pr163 := gEl.set (i := wt2) (z := jn55v0 % 2) uq tc154 (by decide) eh156 (by omega) (by omega)
                            refine gz_s 2 (pc' := 170) (L' := [some (.ref m), some (.int (zi p)), some (.int (zi a)), some (.int (zi b)), some (.int (zi bt)), some (.int (zi ln)), some (.int (zi z2)), some (.int (zi k2)), some (.int (zi zq49)), some (.int (zi jn55v0))]) (S' := [.ref m, .ref m]) rfl ?_
                            refine gs_gtk rfl (by decide) rfl sh156.1 tm rfl rfl s161 ?_
                            refine gy_s 2 (pc' := 175) (L' := [some (.ref m), some (.int (zi p)), some (.int (zi a)), some (.int (zi b)), some (.int (zi bt)), some (.int (zi ln)), some (.int (zi z2)), some (.int (zi k2)), some (.int (zi zq49)), some (.int (zi jn55v0))]) (S' := [.int ((zi wt2) + (zi 1)), .ref m]) (L2 := [some (.ref m), some (.int (zi p)), some (.int (zi a)), some (.int (zi b)), some (.int (zi bt)), some (.int (zi ln)), some (.int (zi z2)), some (.int (zi k2)), some (.int (zi zq49)), some (.int (zi jn55v0))]) (S2 := [.int (zi (wt2 + 1)), .ref m]) rfl (by simp only [zi_add, zi_sub, zi_mul, zi_neg, zi_and1, zi_and7, zi_and15, zi_and31, zi_and255]) (by simp only [zi_add, zi_sub, zi_mul, zi_neg, zi_and1, zi_and7, zi_and15, zi_and31, zi_and255]) ?_
                            refine gs_put rfl (by decide) rfl sh156 tm rfl rfl rfl rfl (Or.inl rfl) (by decide) (by omega) (by omega) (fun h164 sh164 eh164 fh164 => ?_)
                            have pr165 := gRn.pt fh164 tm (by decide) pr157
                            have pr166 := gRn.pt fh164 tm (by decide) pr158
                            have pr167 := gEl.pt fh164 tm (by decide) pr163
                            have s168 := (fh164 m 67 (fun q => absurd q.2 (by decide))).trans s159
                            have s169 := (fh164 m 64 (fun q => absurd q.2 (by decide))).trans s160
                            have s170 := (fh164 m 76 (fun q => absurd q.2 (by decide))).trans s162
                            refine gz_s 1 (pc' := 214) (L' := [some (.ref m), some (.int (zi p)), some (.int (zi a)), some (.int (zi b)), some (.int (zi bt)), some (.int (zi ln)), some (.int (zi z2)), some (.int (zi k2)), some (.int (zi zq49)), some (.int (zi jn55v0))]) (S' := []) rfl ?_
                            have hR : eeRk ecS ecP bt cf p a b w1 (k2 + 1) = ((eeWk ecS ecP (eeRk ecS ecP bt cf p a b w1 k2) zr z2).1, 2 * (eeWk ecS ecP (eeRk ecS ecP bt cf p a b w1 k2) zr z2).2.1 + jn55v0 % 2, (eeWk ecS ecP (eeRk ecS ecP bt cf p a b w1 k2) zr z2).2.2.1 + 1, (eeWk ecS ecP (eeRk ecS ecP bt cf p a b w1 k2) zr z2).2.2.2) := eeRk_m (a := jn55v0) (by omega) (by omega) (by omega) rfl hn9 (by omega) (by omega) ⟨by omega, by omega⟩ (by omega)
                            have hR_1 : (eeRk ecS ecP bt cf p a b w1 (k2 + 1)).1 = (eeWk ecS ecP (eeRk ecS ecP bt cf p a b w1 k2) zr z2).1 := by rw [hR]
                            have hR_21 : (eeRk ecS ecP bt cf p a b w1 (k2 + 1)).2.1 = 2 * (eeWk ecS ecP (eeRk ecS ecP bt cf p a b w1 k2) zr z2).2.1 + jn55v0 % 2 := by rw [hR]
                            have hR_221 : (eeRk ecS ecP bt cf p a b w1 (k2 + 1)).2.2.1 = (eeWk ecS ecP (eeRk ecS ecP bt cf p a b w1 k2) zr z2).2.2.1 + 1 := by rw [hR]
                            have hk171 : (eeRk ecS ecP bt cf p a b w1 (k2 + 1)).2.2.2 = (eeWk ecS ecP (eeRk ecS ecP bt cf p a b w1 k2) zr z2).2.2.2 := by rw [hR]
                            have hrw172 : gRn 514 ty 36 (eeJ w0 ((eeRk ecS ecP bt cf p a b w1 (k2 + 1)).2.2.2)) h164 := by rw [hk171]; exact pr166
                            refine gy_s 2 (pc' := 64) (L' := [some (.ref m), some (.int (zi p)), some (.int (zi a)), some (.int (zi b)), some (.int (zi bt)), some (.int (zi ln)), some (.int (zi z2)), some (.int ((zi k2) + zi 1)), some (.int (zi zq49)), some (.int (zi jn55v0))]) (S' := []) (L2 := [some (.ref m), some (.int (zi p)), some (.int (zi a)), some (.int (zi b)), some (.int (zi bt)), some (.int (zi ln)), some (.int (zi z2)), some (.int (zi (k2 + 1))), some (.int (zi zq49)), some (.int (zi jn55v0))]) (S2 := []) rfl (by simp only [zi_add, zi_sub, zi_mul, zi_neg, zi_and1, zi_and7, zi_and15, zi_and31, zi_and255]) (by simp only [zi_add, zi_sub, zi_mul, zi_neg, zi_and1, zi_and7, zi_and15, zi_and31, zi_and255]) ?_
                            exact gz_wk (ihlp9 h164 z2 (k2 + 1) (wt2 + 1) (by omega) sh164 (by omega) (by omega) (by omega) (by omega) (by omega) (by omega) (by omega) (by omega) s168 s169 eh164 pr165 hrw172) (gLw.s (gLw.s (gLw.s (gLw.s (gLw.s (gLw.s (gLw.s (gLw.s (gLw.n (gLw.n gLw.z))))))))))
                        · refine gy_icF rfl (by decide) (by decide) (by omega) (by omega) hc119 ?_
                          have hwb173 : ewB ((eeWk ecS ecP (eeRk ecS ecP bt cf p a b w1 k2) zr z2).2.2.2) 4000 := ((ewB.Rk (lw := bt) (cf := cf) (p := p) (tt := b) hywb (by omega : a ≤ k2)).Wk (by omega : z2 ≤ zr)).mono (by omega)
                          refine gz_s 3 (pc' := 121) (L' := [some (.ref m), some (.int (zi p)), some (.int (zi a)), some (.int (zi b)), some (.int (zi bt)), some (.int (zi ln)), some (.int (zi z2)), some (.int (zi k2)), some (.int (zi zq49)), some (.int (zi jn55v0))]) (S' := [.int (zi 240), .int (zi 1), .ref m]) rfl ?_
                          refine gz_call rfl (by decide) rfl (by decide) (by decide) (gcal_of rfl rfl rfl (Nat.le_of_ble_eq_true rfl) (gJ.recv (G := gGG) sh59.1 tm rfl rfl)) (mn_putSymbol1 _ sh59.1 m tm 1 (by omega) 240 (by omega) ic lp56k0 (by omega) w0 ((eeWk ecS ecP (eeRk ecS ecP bt cf p a b w1 k2) zr z2).2.2.2) uq lp56k4 hwb173) (fun q174 _ wq174 => ?_)
                          obtain ⟨pq174, oq174, hq174⟩ := q174
                          obtain ⟨xq174, gq174, yq174_0⟩ := wq174
                          refine ⟨_, gq174, ?_⟩
                          show gz gPP gGG gcn _ _ 124 [some (.ref m), some (.int (zi p)), some (.int (zi a)), some (.int (zi b)), some (.int (zi bt)), some (.int (zi ln)), some (.int (zi z2)), some (.int (zi k2)), some (.int (zi zq49)), some (.int (zi jn55v0))] [] hq174 _
                          have sq174 := gSs.tr sh59 xq174 (by decide)
                          have s175 := (xq174.2.2.2.2.2 m 67 (by rw [tm]; decide)).trans lp56k0
                          have s176 := (xq174.2.2.2.2.2 m 64 (by rw [tm]; decide)).trans lp56k1
                          have s177 := (xq174.2.2.2.2.2 m 75 (by rw [tm]; decide)).trans lp56k2
                          have pr178 := gRn.fr xq174.2 (by decide) lp56k3
                          refine gz_s 1 (pc' := 125) (L' := [some (.ref m), some (.int (zi p)), some (.int (zi a)), some (.int (zi b)), some (.int (zi bt)), some (.int (zi ln)), some (.int (zi z2)), some (.int (zi k2)), some (.int (zi zq49)), some (.int (zi jn55v0))]) (S' := [.ref m]) rfl ?_
                          refine gz_call rfl (by decide) rfl (by decide) (by decide) (gcal_of rfl rfl rfl (Nat.le_of_ble_eq_true rfl) (gJ.recv (G := gGG) sq174.1 tm rfl rfl)) (mn_putWaiting _ sq174.1 m tm ic s175 (by omega) wt2 s177 (by omega) uq) (fun q179 _ wq179 => ?_)
                          obtain ⟨pq179, oq179, hq179⟩ := q179
                          obtain ⟨xq179, fq179_0, gq179, efq179_0, afq179_0, bfq179_0, uq179_0⟩ := wq179
                          refine ⟨_, gq179, ?_⟩
                          show gz gPP gGG gcn _ _ 128 [some (.ref m), some (.int (zi p)), some (.int (zi a)), some (.int (zi b)), some (.int (zi bt)), some (.int (zi ln)), some (.int (zi z2)), some (.int (zi k2)), some (.int (zi zq49)), some (.int (zi jn55v0))] [] hq179 _
                          have sq179 := gSs.tr sq174 xq179 (by decide)
                          have s180 := (xq179.2.2.2.2.2 m 67 (by rw [tm]; decide)).trans s175
                          have s181 := (xq179.2.2.2.2.2 m 64 (by rw [tm]; decide)).trans s176
                          have pr182 := gRn.fr xq179.2 (by decide) pr178
                          have pr183 := gRn.fr xq179.2 (by decide) yq174_0
                          refine gy_s 4 (pc' := 135) (L' := [some (.ref m), some (.int (zi p)), some (.int (zi a)), some (.int (zi b)), some (.int (zi bt)), some (.int (zi ln)), some (.int ((zi z2) - (zi 16))), some (.int (zi k2)), some (.int (zi zq49)), some (.int (zi jn55v0))]) (S' := []) (L2 := [some (.ref m), some (.int (zi p)), some (.int (zi a)), some (.int (zi b)), some (.int (zi bt)), some (.int (zi ln)), some (.int (zi (z2 - 16))), some (.int (zi k2)), some (.int (zi zq49)), some (.int (zi jn55v0))]) (S2 := []) rfl (by simp only [zi_add, zi_sub, zi_mul, zi_neg, zi_and1, zi_and7, zi_and15, zi_and31, zi_and255]) (by simp only [zi_add, zi_sub, zi_mul, zi_neg, zi_and1, zi_and7, zi_and15, zi_and31, zi_and255]) ?_
                          have hR : eeWk ecS ecP (eeRk ecS ecP bt cf p a b w1 k2) zr (z2 - 16) = ((eeWk ecS ecP (eeRk ecS ecP bt cf p a b w1 k2) zr z2).1 - 16, (eeWk ecS ecP (eeRk ecS ecP bt cf p a b w1 k2) zr z2).2.1, 0, ecS 240 ((eeWk ecS ecP (eeRk ecS ecP bt cf p a b w1 k2) zr z2).2.2.2)) := (eeWk_t (by omega) (by omega) (by omega)).trans rfl
                          have hR_1 : (eeWk ecS ecP (eeRk ecS ecP bt cf p a b w1 k2) zr (z2 - 16)).1 = (eeWk ecS ecP (eeRk ecS ecP bt cf p a b w1 k2) zr z2).1 - 16 := by rw [hR]
                          have hR_21 : (eeWk ecS ecP (eeRk ecS ecP bt cf p a b w1 k2) zr (z2 - 16)).2.1 = (eeWk ecS ecP (eeRk ecS ecP bt cf p a b w1 k2) zr z2).2.1 := by rw [hR]
                          have hR_221 : (eeWk ecS ecP (eeRk ecS ecP bt cf p a b w1 k2) zr (z2 - 16)).2.2.1 = 0 := by rw [hR]
                          have hk184 : (eeWk ecS ecP (eeRk ecS ecP bt cf p a b w1 k2) zr (z2 - 16)).2.2.2 = ecS 240 ((eeWk ecS ecP (eeRk ecS ecP bt cf p a b w1 k2) zr z2).2.2.2) := by rw [hR]
                          have hrw185 : gRn 514 ty 36 (eeJ w0 ((eeWk ecS ecP (eeRk ecS ecP bt cf p a b w1 k2) zr (z2 - 16)).2.2.2)) hq179 := by rw [hk184]; exact pr183
                          refine gz_s 1 (pc' := 97) (L' := [some (.ref m), some (.int (zi p)), some (.int (zi a)), some (.int (zi b)), some (.int (zi bt)), some (.int (zi ln)), some (.int (zi (z2 - 16))), some (.int (zi k2)), some (.int (zi zq49)), some (.int (zi jn55v0))]) (S' := []) rfl ?_
                          exact gz_wk (ihlp56 hq179 (z2 - 16) fq179_0 (by omega) sq179 (by omega) (by omega) (by omega) (by omega) (by omega) (by omega) (by omega) (by omega) (by omega) s180 s181 efq179_0 pr182 hrw185) (gLw.s (gLw.s (gLw.s (gLw.s (gLw.s (gLw.s (gLw.s (gLw.s (gLw.s (gLw.s gLw.z))))))))))
                have hw00 : (eeWk ecS ecP (eeRk ecS ecP bt cf p a b w1 k2) zr zr).1 = (eeRk ecS ecP bt cf p a b w1 k2).1 := by rw [eeWk_0]
                have hw01 : (eeWk ecS ecP (eeRk ecS ecP bt cf p a b w1 k2) zr zr).2.2.1 = (eeRk ecS ecP bt cf p a b w1 k2).2.2.1 := by rw [eeWk_0]
                exact gz_wk (lp56 _ hq49 zr wt (Nat.lt_succ_self _) sq49 (by omega) (by omega) (by omega) (by omega) (by omega) (by omega) (by omega) (by omega) (by omega) s50 s51 s52 pr53 hrw58) (gLw.s (gLw.s (gLw.s (gLw.s (gLw.s (gLw.s (gLw.s (gLw.s (gLw.s (gLw.s gLw.z))))))))))
              by_cases hc186 : (0 : Int) ≤ zq49
              · refine gy_ifT (pc' := 93) rfl (by decide) (by decide) (by omega) hc186 ?_
                refine gz_s 1 (pc' := 95) (L' := [some (.ref m), some (.int (zi p)), some (.int (zi a)), some (.int (zi b)), some (.int (zi bt)), some (.int (zi ln)), some (.int (zi zr)), some (.int (zi k2)), some (.int (zi zq49)), none]) (S' := [.int (zi zq49)]) rfl ?_
                exact jn55 zq49 (by omega)
              · refine gy_ifF rfl (by decide) (by decide) (by omega) hc186 ?_
                refine gy_s 3 (pc' := 95) (L' := [some (.ref m), some (.int (zi p)), some (.int (zi a)), some (.int (zi b)), some (.int (zi bt)), some (.int (zi ln)), some (.int (zi zr)), some (.int (zi k2)), some (.int (zi zq49)), none]) (S' := [.int (-(zi zq49))]) (L2 := [some (.ref m), some (.int (zi p)), some (.int (zi a)), some (.int (zi b)), some (.int (zi bt)), some (.int (zi ln)), some (.int (zi zr)), some (.int (zi k2)), some (.int (zi zq49)), none]) (S2 := [.int (zi (-zq49))]) rfl (by simp only [zi_add, zi_sub, zi_mul, zi_neg, zi_and1, zi_and7, zi_and15, zi_and31, zi_and255]) (by simp only [zi_add, zi_sub, zi_mul, zi_neg, zi_and1, zi_and7, zi_and15, zi_and31, zi_and255]) ?_
                exact jn55 (-zq49) (by omega)
        have hk00 : (eeRk ecS ecP bt cf p a b w1 a).1 = 0 := by rw [eeRk_0]
        have hk01 : (eeRk ecS ecP bt cf p a b w1 a).2.2.1 = 0 := by rw [eeRk_0]
        exact gz_wk (lp9 _ h4 0 a 0 (Nat.lt_succ_self _) sh4 (by omega) (by omega) (by omega) (by omega) (by omega) (by omega) (by omega) (by omega) s7 s8 eh4 pr6 hrw11) (gLw.s (gLw.s (gLw.s (gLw.s (gLw.s (gLw.s (gLw.s (gLw.s (gLw.n (gLw.n gLw.z))))))))))
      · refine gy_icF rfl (by decide) (by decide) (by omega) (by omega) hc3 ?_
        refine gy_s 5 (pc' := 21) (L' := [some (.ref m), some (.int (zi p)), some (.int (zi a)), some (.int (zi b)), some (.int (zi bt)), some (.int (zi ln)), some (.int (zi k)), none, none, none]) (S' := [.int (zi bt), .int ((zi p) + (zi k)), .ref m]) (L2 := [some (.ref m), some (.int (zi p)), some (.int (zi a)), some (.int (zi b)), some (.int (zi bt)), some (.int (zi ln)), some (.int (zi k)), none, none, none]) (S2 := [.int (zi bt), .int (zi (p + k)), .ref m]) rfl (by simp only [zi_add, zi_sub, zi_mul, zi_neg, zi_and1, zi_and7, zi_and15, zi_and31, zi_and255]) (by simp only [zi_add, zi_sub, zi_mul, zi_neg, zi_and1, zi_and7, zi_and15, zi_and31, zi_and255]) ?_
        refine gz_call rfl (by decide) rfl (by decide) (by decide) (gcal_of rfl rfl rfl (Nat.le_of_ble_eq_true rfl) (gJ.recv (G := gGG) sh2.1 tm rfl rfl)) (mw_shifted _ sh2.1 m tm (p + k) (by omega) bt (by omega) mb lp1k1 (by omega) cf (by omega) uq lp1k4) (fun q187 _ wq187 => ?_)
        obtain ⟨pq187, oq187, hq187⟩ := q187
        obtain ⟨xq187, zq187, gq187, aq187, bq187, uq187_0⟩ := wq187
        refine ⟨_, gq187, ?_⟩
        show gz gPP gGG gcn _ _ 24 [some (.ref m), some (.int (zi p)), some (.int (zi a)), some (.int (zi b)), some (.int (zi bt)), some (.int (zi ln)), some (.int (zi k)), none, none, none] [.int (zi zq187)] hq187 _
        have sq187 := gSs.tr sh2 xq187 (by decide)
        have s188 := (xq187.2.2.2.2.2 m 67 (by rw [tm]; decide)).trans lp1k0
        have s189 := (xq187.2.2.2.2.2 m 64 (by rw [tm]; decide)).trans lp1k1
        have pr190 := gRn.fr xq187.2 (by decide) lp1k2
        have pr191 := gRn.fr xq187.2 (by decide) lp1k4
        have hbj : (p + a).toNat + (k - a).toNat = (p + k).toNat := by omega
        have hcf : cf ((p + a).toNat + (k - a).toNat) = cf (p + k).toNat := by rw [hbj]
        have hkj : (k + 1 - a).toNat = (k - a).toNat + 1 := by omega
        obtain ⟨hA, hAn, hAp⟩ := e_shA uq187_0
        have hzA : eeA zq187 = if zq187 < 0 then -zq187 else zq187 := rfl
        have hkf : (a : Int) + ((k - a).toNat : Nat) = k := by omega
        refine gz_s 3 (pc' := 29) (L' := [some (.ref m), some (.int (zi p)), some (.int (zi a)), some (.int (zi b)), some (.int (zi bt)), some (.int (zi ln)), some (.int (zi k)), some (.int (zi zq187)), none, none]) (S' := [.int (zi 1), .int (zi zq187)]) rfl ?_
        have jn192 : ∀ (jn192v0 : Int), (((zq187 = 1 ∨ zq187 = -1) → jn192v0 = k) ∧ (¬ (zq187 = 1 ∨ zq187 = -1) → jn192v0 = ln)) → gz gPP gGG gcn (d + 3) gt199 45 [some (.ref m), some (.int (zi p)), some (.int (zi a)), some (.int (zi b)), some (.int (zi bt)), some (.int (zi ln)), some (.int (zi k)), some (.int (zi zq187)), none, none] [.int (zi jn192v0)] hq187 (fun q _ => gSs rT 1027 ty [1075, 36999, 42999] h q.2.2 ∧ gfin gt199 q.1 q.2.1 = some none ∧ (gRn 514 ty 36 (eeJ w0 (eeRz ecS ecP bt cf p a b w1)) q.2.2)) := by
          intro jn192v0 jn192d
          refine gz_s 1 (pc' := 47) (L' := [some (.ref m), some (.int (zi p)), some (.int (zi a)), some (.int (zi b)), some (.int (zi bt)), some (.int (zi jn192v0)), some (.int (zi k)), some (.int (zi zq187)), none, none]) (S' := []) rfl ?_
          have hs : eeLn bt cf (p + a).toNat a ((k + 1) - a).toNat = if eeA zq187 = 1 then k else eeLn bt cf (p + a).toNat a (k - a).toNat := by
            rw [hkj]
            by_cases c9 : eeA zq187 = 1
            · rw [if_pos c9, eeLn_y hcf (by rw [← hA]; exact c9)]; exact hkf
            · rw [if_neg c9, eeLn_n hcf (by rw [← hA]; exact c9)]
          have hlk := (eeLn_b (lw := bt) (cf := cf) (b := (p + a).toNat) (k0 := a) (by omega) (k - a).toNat)
          refine gy_s 2 (pc' := 8) (L' := [some (.ref m), some (.int (zi p)), some (.int (zi a)), some (.int (zi b)), some (.int (zi bt)), some (.int (zi jn192v0)), some (.int ((zi k) + zi 1)), some (.int (zi zq187)), none, none]) (S' := []) (L2 := [some (.ref m), some (.int (zi p)), some (.int (zi a)), some (.int (zi b)), some (.int (zi bt)), some (.int (zi jn192v0)), some (.int (zi (k + 1))), some (.int (zi zq187)), none, none]) (S2 := []) rfl (by simp only [zi_add, zi_sub, zi_mul, zi_neg, zi_and1, zi_and7, zi_and15, zi_and31, zi_and255]) (by simp only [zi_add, zi_sub, zi_mul, zi_neg, zi_and1, zi_and7, zi_and15, zi_and31, zi_and255]) ?_
          exact gz_wk (ihlp1 hq187 jn192v0 (k + 1) (by omega) sq187 (by omega) (by omega) (by omega) (by omega) (by omega) (by omega) (by omega) s188 s189 pr190 lp1k3 pr191) (gLw.s (gLw.s (gLw.s (gLw.s (gLw.s (gLw.s (gLw.s (gLw.n (gLw.n (gLw.n gLw.z))))))))))
        by_cases hc193 : (zq187 : Int) = 1
        · refine gy_icT (pc' := 38) rfl (by decide) (by decide) (by omega) (by omega) hc193 ?_
          refine gz_s 2 (pc' := 45) (L' := [some (.ref m), some (.int (zi p)), some (.int (zi a)), some (.int (zi b)), some (.int (zi bt)), some (.int (zi ln)), some (.int (zi k)), some (.int (zi zq187)), none, none]) (S' := [.int (zi k)]) rfl ?_
          exact jn192 k (by omega)
        · refine gy_icF rfl (by decide) (by decide) (by omega) (by omega) hc193 ?_
          refine gz_s 2 (pc' := 35) (L' := [some (.ref m), some (.int (zi p)), some (.int (zi a)), some (.int (zi b)), some (.int (zi bt)), some (.int (zi ln)), some (.int (zi k)), some (.int (zi zq187)), none, none]) (S' := [.int (zi (-1)), .int (zi zq187)]) rfl ?_
          by_cases hc194 : ¬ (zq187 : Int) = (-1)
          · refine gy_icT (pc' := 43) rfl (by decide) (by decide) (by omega) (by omega) hc194 ?_
            refine gz_s 1 (pc' := 45) (L' := [some (.ref m), some (.int (zi p)), some (.int (zi a)), some (.int (zi b)), some (.int (zi bt)), some (.int (zi ln)), some (.int (zi k)), some (.int (zi zq187)), none, none]) (S' := [.int (zi ln)]) rfl ?_
            exact jn192 ln (by omega)
          · refine gy_icF rfl (by decide) (by decide) (by omega) (by omega) hc194 ?_
            refine gz_s 2 (pc' := 45) (L' := [some (.ref m), some (.int (zi p)), some (.int (zi a)), some (.int (zi b)), some (.int (zi bt)), some (.int (zi ln)), some (.int (zi k)), some (.int (zi zq187)), none, none]) (S' := [.int (zi k)]) rfl ?_
            exact jn192 k (by omega)
  have hl0 : eeLn bt cf (p + a).toNat a (a - a).toNat = -1 := by rw [show (a - a).toNat = 0 by omega]; rfl
  exact gz_wk (lp1 _ h (a - 1) a (Nat.lt_succ_self _) hS (by omega) (by omega) (by omega) (by omega) (by omega) (by omega) (by omega) eic emb hyf36 hywb hyf33) (gLw.s (gLw.s (gLw.s (gLw.s (gLw.s (gLw.s (gLw.s (gLw.n (gLw.n (gLw.n gLw.z))))))))))
