/-! ===== the model: methods (by program) ===== -/
set_option maxRecDepth 20000 in
set_option maxHeartbeats 4000000 in
theorem mm_putCodes (d : Nat) {ty : Nat → Nat} {h : gH} (hJ : gJ rT 1027 ty h) (m : Nat) (tm : ty m = 1) (wh : Int) (rwh : 0 ≤ wh ∧ wh ≤ 1) (w0 : Int) (ew0 : h.2.2.2.2 m 59 = .int (zi w0)) (rw0 : 0 ≤ w0 ∧ w0 ≤ 59000) (uq : gUq ty) : gz gPP gGG gcn (d + 2) gt203 0 (gent [.ref m, .int (zi wh)] 6) [] h (fun q _ => gSs rT 1027 ty [1059, 32999] h q.2.2 ∧ ∃ w1 : Int, gfin gt203 q.1 q.2.1 = some none ∧ q.2.2.2.2.2.2 m 59 = .int (zi w1) ∧ 0 ≤ w1 ∧ w1 ≤ 60000 ∧ (w0 ≤ w1) ∧ (w1 ≤ w0 + 277)) := by
  have hS : gSs rT 1027 ty [1059, 32999] h h := gSs.rf hJ
  obtain ⟨c1, ec1, tc1⟩ := gJ.ref (k := 69) (G := gGG) hS.1 tm rfl rfl rfl
  have hrow := gRow.mk (h := h) uq tc1 (by decide) (fun _ => rfl)
  generalize hsf : (fun i => if i < 514 then gvI (h.2.2.2.2 c1 i) else 0) = sf at hrow
  refine gz_s 4 (pc' := 4) (L' := [some (.ref m), some (.int (zi wh)), some (.int (zi 0)), some (.int (zi 0)), none, none]) (S' := []) rfl ?_
  have lp2 : ∀ (fu : Nat) (h3 : gH) (n : Int) (k : Int), (257 - k).toNat < fu → gSs rT 1027 ty [1059, 32999] h h3 → (0 ≤ n ∧ n ≤ 256) → (0 ≤ k ∧ k ≤ 256) → (n ≤ k) → h3.2.2.2.2 m 59 = .int (zi w0) → h3.2.2.2.2 m 69 = .ref c1 → gRow ty 37 sf h3 → gz gPP gGG gcn (d + 2) gt203 4 [some (.ref m), some (.int (zi wh)), some (.int (zi n)), some (.int (zi k)), none, none] [] h3 (fun q _ => gSs rT 1027 ty [1059, 32999] h q.2.2 ∧ ∃ w1 : Int, gfin gt203 q.1 q.2.1 = some none ∧ q.2.2.2.2.2.2 m 59 = .int (zi w1) ∧ 0 ≤ w1 ∧ w1 ≤ 60000 ∧ (w0 ≤ w1) ∧ (w1 ≤ w0 + 277)) := by
    intro fu
    induction fu with
    | zero => intro h3 n k hm; exact absurd hm (Nat.not_lt_zero _)
    | succ fu ihlp2 =>
      intro h3 n k lp2m sh3 lp2f0 lp2f1 lp2f2 lp2k0 lp2k1 lp2k2
      refine gz_s 2 (pc' := 8) (L' := [some (.ref m), some (.int (zi wh)), some (.int (zi n)), some (.int (zi k)), none, none]) (S' := [.int (zi 256), .int (zi k)]) rfl ?_
      by_cases hc4 : (256 : Int) ≤ k
      · refine gy_icT (pc' := 40) rfl (by decide) (by decide) (by omega) (by omega) hc4 ?_
        refine gz_s 2 (pc' := 44) (L' := [some (.ref m), some (.int (zi wh)), some (.int (zi n)), some (.int (zi k)), none, none]) (S' := [.int (zi 196), .ref m]) rfl ?_
        refine gz_call rfl (by decide) rfl (by decide) (by decide) (gcal_of rfl rfl rfl (Nat.le_of_ble_eq_true rfl) (gJ.recv (G := gGG) sh3.1 tm rfl rfl)) (mm_putMarker _ sh3.1 m tm 196 (by omega) w0 lp2k0 (by omega)) (fun q5 _ wq5 => ?_)
        obtain ⟨pq5, oq5, hq5⟩ := q5
        obtain ⟨xq5, fq5_0, gq5, efq5_0, afq5_0, bfq5_0, uq5_0⟩ := wq5
        refine ⟨_, gq5, ?_⟩
        show gz gPP gGG gcn _ _ 47 [some (.ref m), some (.int (zi wh)), some (.int (zi n)), some (.int (zi k)), none, none] [] hq5 _
        have sq5 := gSs.tr sh3 xq5 (by decide)
        have s6 := (xq5.2.2.2.2.2 m 69 (by rw [tm]; decide)).trans lp2k1
        have pr7 := gRow.fr xq5.2 (by decide) lp2k2
        refine gy_s 4 (pc' := 52) (L' := [some (.ref m), some (.int (zi wh)), some (.int (zi n)), some (.int (zi k)), none, none]) (S' := [.int ((zi 19) + (zi n)), .ref m]) (L2 := [some (.ref m), some (.int (zi wh)), some (.int (zi n)), some (.int (zi k)), none, none]) (S2 := [.int (zi (19 + n)), .ref m]) rfl (by simp only [zi_add, zi_sub, zi_mul, zi_neg, zi_and1, zi_and7, zi_and15, zi_and31, zi_and255]) (by simp only [zi_add, zi_sub, zi_mul, zi_neg, zi_and1, zi_and7, zi_and15, zi_and31, zi_and255]) ?_
        refine gz_call rfl (by decide) rfl (by decide) (by decide) (gcal_of rfl rfl rfl (Nat.le_of_ble_eq_true rfl) (gJ.recv (G := gGG) sq5.1 tm rfl rfl)) (mm_putTwo _ sq5.1 m tm (19 + n) (by omega) fq5_0 efq5_0 (by omega)) (fun q8 _ wq8 => ?_)
        obtain ⟨pq8, oq8, hq8⟩ := q8
        obtain ⟨xq8, fq8_0, gq8, efq8_0, afq8_0, bfq8_0, uq8_0⟩ := wq8
        refine ⟨_, gq8, ?_⟩
        show gz gPP gGG gcn _ _ 55 [some (.ref m), some (.int (zi wh)), some (.int (zi n)), some (.int (zi k)), none, none] [] hq8 _
        have sq8 := gSs.tr sq5 xq8 (by decide)
        have s9 := (xq8.2.2.2.2.2 m 69 (by rw [tm]; decide)).trans s6
        have pr10 := gRow.fr xq8.2 (by decide) pr7
        refine gy_s 4 (pc' := 60) (L' := [some (.ref m), some (.int (zi wh)), some (.int (zi n)), some (.int (zi k)), none, none]) (S' := [.int ((zi 16) * (zi wh)), .ref m]) (L2 := [some (.ref m), some (.int (zi wh)), some (.int (zi n)), some (.int (zi k)), none, none]) (S2 := [.int (zi (16 * wh)), .ref m]) rfl (by simp only [zi_add, zi_sub, zi_mul, zi_neg, zi_and1, zi_and7, zi_and15, zi_and31, zi_and255]) (by simp only [zi_add, zi_sub, zi_mul, zi_neg, zi_and1, zi_and7, zi_and15, zi_and31, zi_and255]) ?_
        refine gz_call rfl (by decide) rfl (by decide) (by decide) (gcal_of rfl rfl rfl (Nat.le_of_ble_eq_true rfl) (gJ.recv (G := gGG) sq8.1 tm rfl rfl)) (mm_putByte _ sq8.1 m tm (16 * wh) (by omega) fq8_0 efq8_0 (by omega)) (fun q11 _ wq11 => ?_)
        obtain ⟨pq11, oq11, hq11⟩ := q11
        obtain ⟨xq11, fq11_0, gq11, efq11_0, afq11_0, bfq11_0, uq11_0⟩ := wq11
        refine ⟨_, gq11, ?_⟩
        show gz gPP gGG gcn _ _ 63 [some (.ref m), some (.int (zi wh)), some (.int (zi n)), some (.int (zi k)), none, none] [] hq11 _
        have sq11 := gSs.tr sq8 xq11 (by decide)
        have s12 := (xq11.2.2.2.2.2 m 69 (by rw [tm]; decide)).trans s9
        have pr13 := gRow.fr xq11.2 (by decide) pr10
        refine gz_s 2 (pc' := 65) (L' := [some (.ref m), some (.int (zi wh)), some (.int (zi n)), some (.int (zi 1)), none, none]) (S' := []) rfl ?_
        have lp14 : ∀ (fu : Nat) (h15 : gH) (b1 : Int) (wa : Int), (18 - b1).toNat < fu → gSs rT 1027 ty [1059, 32999] h h15 → (1 ≤ b1 ∧ b1 ≤ 17) → (0 ≤ wa ∧ wa ≤ 60000) → (wa = w0 + 4 + b1) → h15.2.2.2.2 m 69 = .ref c1 → h15.2.2.2.2 m 59 = .int (zi wa) → gRow ty 37 sf h15 → gz gPP gGG gcn (d + 2) gt203 65 [some (.ref m), some (.int (zi wh)), some (.int (zi n)), some (.int (zi b1)), none, none] [] h15 (fun q _ => gSs rT 1027 ty [1059, 32999] h q.2.2 ∧ ∃ w1 : Int, gfin gt203 q.1 q.2.1 = some none ∧ q.2.2.2.2.2.2 m 59 = .int (zi w1) ∧ 0 ≤ w1 ∧ w1 ≤ 60000 ∧ (w0 ≤ w1) ∧ (w1 ≤ w0 + 277)) := by
          intro fu
          induction fu with
          | zero => intro h15 b1 wa hm; exact absurd hm (Nat.not_lt_zero _)
          | succ fu ihlp14 =>
            intro h15 b1 wa lp14m sh15 lp14f0 lp14f1 lp14f2 lp14k0 lp14k1 lp14k2
            refine gz_s 2 (pc' := 68) (L' := [some (.ref m), some (.int (zi wh)), some (.int (zi n)), some (.int (zi b1)), none, none]) (S' := [.int (zi 16), .int (zi b1)]) rfl ?_
            by_cases hc16 : (16 : Int) < b1
            · refine gy_icT (pc' := 131) rfl (by decide) (by decide) (by omega) (by omega) hc16 ?_
              refine gz_s 2 (pc' := 133) (L' := [some (.ref m), some (.int (zi wh)), some (.int (zi n)), some (.int (zi 1)), none, none]) (S' := []) rfl ?_
              have lp17 : ∀ (fu : Nat) (h18 : gH) (bt : Int) (wv : Int), (18 - bt).toNat < fu → gSs rT 1027 ty [1059, 32999] h h18 → (1 ≤ bt ∧ bt ≤ 17) → (0 ≤ wv ∧ wv ≤ 60000) → (w0 ≤ wv) → (wv ≤ w0 + 21 + gF sf (257 * wh) bt 0) → h18.2.2.2.2 m 69 = .ref c1 → h18.2.2.2.2 m 59 = .int (zi wv) → gRow ty 37 sf h18 → gz gPP gGG gcn (d + 2) gt203 133 [some (.ref m), some (.int (zi wh)), some (.int (zi n)), some (.int (zi bt)), none, none] [] h18 (fun q _ => gSs rT 1027 ty [1059, 32999] h q.2.2 ∧ ∃ w1 : Int, gfin gt203 q.1 q.2.1 = some none ∧ q.2.2.2.2.2.2 m 59 = .int (zi w1) ∧ 0 ≤ w1 ∧ w1 ≤ 60000 ∧ (w0 ≤ w1) ∧ (w1 ≤ w0 + 277)) := by
                intro fu
                induction fu with
                | zero => intro h18 bt wv hm; exact absurd hm (Nat.not_lt_zero _)
                | succ fu ihlp17 =>
                  intro h18 bt wv lp17m sh18 lp17f0 lp17f1 lp17f2 lp17f3 lp17k0 lp17k1 lp17k2
                  have gf1 := gF_le (f := sf) (off := 257 * wh) (bits := bt) (s := 0)
                  refine gz_s 2 (pc' := 136) (L' := [some (.ref m), some (.int (zi wh)), some (.int (zi n)), some (.int (zi bt)), none, none]) (S' := [.int (zi 16), .int (zi bt)]) rfl ?_
                  by_cases hc19 : (16 : Int) < bt
                  · refine gy_icT (pc' := 185) rfl (by decide) (by decide) (by omega) (by omega) hc19 ?_
                    exact gz_end (I := .return_) (len := 1) rfl (Or.inl rfl) ⟨sh18, wv, rfl, lp17k1, (by omega), (by omega), (by omega), (by omega)⟩
                  · refine gy_icF rfl (by decide) (by decide) (by omega) (by omega) hc19 ?_
                    refine gz_s 2 (pc' := 142) (L' := [some (.ref m), some (.int (zi wh)), some (.int (zi n)), some (.int (zi bt)), some (.int (zi 0)), none]) (S' := []) rfl ?_
                    have lp20 : ∀ (fu : Nat) (h21 : gH) (s : Int) (wv2 : Int), (257 - s).toNat < fu → gSs rT 1027 ty [1059, 32999] h h21 → (0 ≤ s ∧ s ≤ 256) → (0 ≤ wv2 ∧ wv2 ≤ 60000) → (w0 ≤ wv2) → (wv2 ≤ w0 + 21 + gF sf (257 * wh) bt s) → h21.2.2.2.2 m 69 = .ref c1 → h21.2.2.2.2 m 59 = .int (zi wv2) → gRow ty 37 sf h21 → gz gPP gGG gcn (d + 2) gt203 142 [some (.ref m), some (.int (zi wh)), some (.int (zi n)), some (.int (zi bt)), some (.int (zi s)), none] [] h21 (fun q _ => gSs rT 1027 ty [1059, 32999] h q.2.2 ∧ ∃ w1 : Int, gfin gt203 q.1 q.2.1 = some none ∧ q.2.2.2.2.2.2 m 59 = .int (zi w1) ∧ 0 ≤ w1 ∧ w1 ≤ 60000 ∧ (w0 ≤ w1) ∧ (w1 ≤ w0 + 277)) := by
                      intro fu
                      induction fu with
                      | zero => intro h21 s wv2 hm; exact absurd hm (Nat.not_lt_zero _)
                      | succ fu ihlp20 =>
                        intro h21 s wv2 lp20m sh21 lp20f0 lp20f1 lp20f2 lp20f3 lp20k0 lp20k1 lp20k2
                        have gf2 := gF_le (f := sf) (off := 257 * wh) (bits := bt) (s := s)
                        have gf3 : s = 256 → gF sf (257 * wh) bt s = gF sf (257 * wh) (bt + 1) 0 := fun e => by rw [e]; exact gF_wrap
                        have gf4 := gF_le (f := sf) (off := 257 * wh) (bits := bt) (s := s + 1)
                        refine gz_s 2 (pc' := 147) (L' := [some (.ref m), some (.int (zi wh)), some (.int (zi n)), some (.int (zi bt)), some (.int (zi s)), none]) (S' := [.int (zi 256), .int (zi s)]) rfl ?_
                        by_cases hc22 : (256 : Int) ≤ s
                        · refine gy_icT (pc' := 179) rfl (by decide) (by decide) (by omega) (by omega) hc22 ?_
                          refine gy_s 2 (pc' := 133) (L' := [some (.ref m), some (.int (zi wh)), some (.int (zi n)), some (.int ((zi bt) + zi 1)), some (.int (zi s)), none]) (S' := []) (L2 := [some (.ref m), some (.int (zi wh)), some (.int (zi n)), some (.int (zi (bt + 1))), some (.int (zi s)), none]) (S2 := []) rfl (by simp only [zi_add, zi_sub, zi_mul, zi_neg, zi_and1, zi_and7, zi_and15, zi_and31, zi_and255]) (by simp only [zi_add, zi_sub, zi_mul, zi_neg, zi_and1, zi_and7, zi_and15, zi_and31, zi_and255]) ?_
                          exact gz_wk (ihlp17 h21 (bt + 1) wv2 (by omega) sh21 (by omega) (by omega) (by omega) (by omega) lp20k0 lp20k1 lp20k2) (gLw.s (gLw.s (gLw.s (gLw.s (gLw.n (gLw.n gLw.z))))))
                        · refine gy_icF rfl (by decide) (by decide) (by omega) (by omega) hc22 ?_
                          refine gz_s 1 (pc' := 151) (L' := [some (.ref m), some (.int (zi wh)), some (.int (zi n)), some (.int (zi bt)), some (.int (zi s)), none]) (S' := [.ref m]) rfl ?_
                          refine gs_gtk rfl (by decide) rfl sh21.1 tm rfl rfl lp20k0 ?_
                          refine gy_s 5 (pc' := 162) (L' := [some (.ref m), some (.int (zi wh)), some (.int (zi n)), some (.int (zi bt)), some (.int (zi s)), none]) (S' := [.int (((zi 257) * (zi wh)) + (zi s)), .ref c1]) (L2 := [some (.ref m), some (.int (zi wh)), some (.int (zi n)), some (.int (zi bt)), some (.int (zi s)), none]) (S2 := [.int (zi ((257 * wh) + s)), .ref c1]) rfl (by simp only [zi_add, zi_sub, zi_mul, zi_neg, zi_and1, zi_and7, zi_and15, zi_and31, zi_and255]) (by simp only [zi_add, zi_sub, zi_mul, zi_neg, zi_and1, zi_and7, zi_and15, zi_and31, zi_and255]) ?_
                          have hl23 : 514 ≤ h21.2.2.2.1 c1 ∧ h21.2.2.2.1 c1 ≤ 514 := gJ.rowl (G := gGG) sh21.1 tc1 rfl
                          refine gs_ald rfl (by decide) sh21.1 tc1 rfl rfl rfl (by decide) (fun _ => rfl) (by omega) (by omega) (fun z24 ez24 az24 bz24 => ?_)
                          have hf25 := gRow.at (i := (257 * wh) + s) (z := z24) lp20k2 tc1 ez24 (by omega) (by omega) (by omega)
                          have gf := gF_st (f := sf) (off := 257 * wh) (bits := bt) (s := s) (z := z24) (by omega) (by omega) (by omega) hf25
                          refine gz_s 1 (pc' := 164) (L' := [some (.ref m), some (.int (zi wh)), some (.int (zi n)), some (.int (zi bt)), some (.int (zi s)), none]) (S' := [.int (zi bt), .int (zi z24)]) rfl ?_
                          by_cases hc26 : ¬ (z24 : Int) = bt
                          · refine gy_icT (pc' := 173) rfl (by decide) (by decide) (by omega) (by omega) hc26 ?_
                            refine gy_s 2 (pc' := 142) (L' := [some (.ref m), some (.int (zi wh)), some (.int (zi n)), some (.int (zi bt)), some (.int ((zi s) + zi 1)), none]) (S' := []) (L2 := [some (.ref m), some (.int (zi wh)), some (.int (zi n)), some (.int (zi bt)), some (.int (zi (s + 1))), none]) (S2 := []) rfl (by simp only [zi_add, zi_sub, zi_mul, zi_neg, zi_and1, zi_and7, zi_and15, zi_and31, zi_and255]) (by simp only [zi_add, zi_sub, zi_mul, zi_neg, zi_and1, zi_and7, zi_and15, zi_and31, zi_and255]) ?_
                            exact gz_wk (ihlp20 h21 (s + 1) wv2 (by omega) sh21 (by omega) (by omega) (by omega) (by omega) lp20k0 lp20k1 lp20k2) (gLw.s (gLw.s (gLw.s (gLw.s (gLw.s (gLw.n gLw.z))))))
                          · refine gy_icF rfl (by decide) (by decide) (by omega) (by omega) hc26 ?_
                            refine gz_s 2 (pc' := 170) (L' := [some (.ref m), some (.int (zi wh)), some (.int (zi n)), some (.int (zi bt)), some (.int (zi s)), none]) (S' := [.int (zi s), .ref m]) rfl ?_
                            refine gz_call rfl (by decide) rfl (by decide) (by decide) (gcal_of rfl rfl rfl (Nat.le_of_ble_eq_true rfl) (gJ.recv (G := gGG) sh21.1 tm rfl rfl)) (mm_putByte _ sh21.1 m tm s (by omega) wv2 lp20k1 (by omega)) (fun q27 _ wq27 => ?_)
                            obtain ⟨pq27, oq27, hq27⟩ := q27
                            obtain ⟨xq27, fq27_0, gq27, efq27_0, afq27_0, bfq27_0, uq27_0⟩ := wq27
                            refine ⟨_, gq27, ?_⟩
                            show gz gPP gGG gcn _ _ 173 [some (.ref m), some (.int (zi wh)), some (.int (zi n)), some (.int (zi bt)), some (.int (zi s)), none] [] hq27 _
                            have sq27 := gSs.tr sh21 xq27 (by decide)
                            have s28 := (xq27.2.2.2.2.2 m 69 (by rw [tm]; decide)).trans lp20k0
                            have pr29 := gRow.fr xq27.2 (by decide) lp20k2
                            refine gy_s 2 (pc' := 142) (L' := [some (.ref m), some (.int (zi wh)), some (.int (zi n)), some (.int (zi bt)), some (.int ((zi s) + zi 1)), none]) (S' := []) (L2 := [some (.ref m), some (.int (zi wh)), some (.int (zi n)), some (.int (zi bt)), some (.int (zi (s + 1))), none]) (S2 := []) rfl (by simp only [zi_add, zi_sub, zi_mul, zi_neg, zi_and1, zi_and7, zi_and15, zi_and31, zi_and255]) (by simp only [zi_add, zi_sub, zi_mul, zi_neg, zi_and1, zi_and7, zi_and15, zi_and31, zi_and255]) ?_
                            exact gz_wk (ihlp20 hq27 (s + 1) fq27_0 (by omega) sq27 (by omega) (by omega) (by omega) (by omega) s28 efq27_0 pr29) (gLw.s (gLw.s (gLw.s (gLw.s (gLw.s (gLw.n gLw.z))))))
                    exact gz_wk (lp20 _ h18 0 wv (Nat.lt_succ_self _) sh18 (by omega) (by omega) (by omega) (by omega) lp17k0 lp17k1 lp17k2) (gLw.s (gLw.s (gLw.s (gLw.s (gLw.s (gLw.n gLw.z))))))
              have gf0 := gF_nn (f := sf) (off := 257 * wh) (bits := 1) (s := 0)
              exact gz_wk (lp17 _ h15 1 wa (Nat.lt_succ_self _) sh15 (by omega) (by omega) (by omega) (by omega) lp14k0 lp14k1 lp14k2) (gLw.s (gLw.s (gLw.s (gLw.s (gLw.n (gLw.n gLw.z))))))
            · refine gy_icF rfl (by decide) (by decide) (by omega) (by omega) hc16 ?_
              refine gz_s 4 (pc' := 77) (L' := [some (.ref m), some (.int (zi wh)), some (.int (zi n)), some (.int (zi b1)), some (.int (zi 0)), some (.int (zi 0))]) (S' := []) rfl ?_
              have lp30 : ∀ (fu : Nat) (h31 : gH) (mn : Int) (s1 : Int), (257 - s1).toNat < fu → gSs rT 1027 ty [1059, 32999] h h31 → (0 ≤ mn ∧ mn ≤ 256) → (0 ≤ s1 ∧ s1 ≤ 256) → (mn ≤ s1) → h31.2.2.2.2 m 69 = .ref c1 → h31.2.2.2.2 m 59 = .int (zi wa) → gRow ty 37 sf h31 → gz gPP gGG gcn (d + 2) gt203 77 [some (.ref m), some (.int (zi wh)), some (.int (zi n)), some (.int (zi b1)), some (.int (zi mn)), some (.int (zi s1))] [] h31 (fun q _ => gSs rT 1027 ty [1059, 32999] h q.2.2 ∧ ∃ w1 : Int, gfin gt203 q.1 q.2.1 = some none ∧ q.2.2.2.2.2.2 m 59 = .int (zi w1) ∧ 0 ≤ w1 ∧ w1 ≤ 60000 ∧ (w0 ≤ w1) ∧ (w1 ≤ w0 + 277)) := by
                intro fu
                induction fu with
                | zero => intro h31 mn s1 hm; exact absurd hm (Nat.not_lt_zero _)
                | succ fu ihlp30 =>
                  intro h31 mn s1 lp30m sh31 lp30f0 lp30f1 lp30f2 lp30k0 lp30k1 lp30k2
                  refine gz_s 2 (pc' := 82) (L' := [some (.ref m), some (.int (zi wh)), some (.int (zi n)), some (.int (zi b1)), some (.int (zi mn)), some (.int (zi s1))]) (S' := [.int (zi 256), .int (zi s1)]) rfl ?_
                  by_cases hc32 : (256 : Int) ≤ s1
                  · refine gy_icT (pc' := 119) rfl (by decide) (by decide) (by omega) (by omega) hc32 ?_
                    refine gz_s 2 (pc' := 122) (L' := [some (.ref m), some (.int (zi wh)), some (.int (zi n)), some (.int (zi b1)), some (.int (zi mn)), some (.int (zi s1))]) (S' := [.int (zi mn), .ref m]) rfl ?_
                    refine gz_call rfl (by decide) rfl (by decide) (by decide) (gcal_of rfl rfl rfl (Nat.le_of_ble_eq_true rfl) (gJ.recv (G := gGG) sh31.1 tm rfl rfl)) (mm_putByte _ sh31.1 m tm mn (by omega) wa lp30k1 (by omega)) (fun q33 _ wq33 => ?_)
                    obtain ⟨pq33, oq33, hq33⟩ := q33
                    obtain ⟨xq33, fq33_0, gq33, efq33_0, afq33_0, bfq33_0, uq33_0⟩ := wq33
                    refine ⟨_, gq33, ?_⟩
                    show gz gPP gGG gcn _ _ 125 [some (.ref m), some (.int (zi wh)), some (.int (zi n)), some (.int (zi b1)), some (.int (zi mn)), some (.int (zi s1))] [] hq33 _
                    have sq33 := gSs.tr sh31 xq33 (by decide)
                    have s34 := (xq33.2.2.2.2.2 m 69 (by rw [tm]; decide)).trans lp30k0
                    have pr35 := gRow.fr xq33.2 (by decide) lp30k2
                    refine gy_s 2 (pc' := 65) (L' := [some (.ref m), some (.int (zi wh)), some (.int (zi n)), some (.int ((zi b1) + zi 1)), some (.int (zi mn)), some (.int (zi s1))]) (S' := []) (L2 := [some (.ref m), some (.int (zi wh)), some (.int (zi n)), some (.int (zi (b1 + 1))), some (.int (zi mn)), some (.int (zi s1))]) (S2 := []) rfl (by simp only [zi_add, zi_sub, zi_mul, zi_neg, zi_and1, zi_and7, zi_and15, zi_and31, zi_and255]) (by simp only [zi_add, zi_sub, zi_mul, zi_neg, zi_and1, zi_and7, zi_and15, zi_and31, zi_and255]) ?_
                    exact gz_wk (ihlp14 hq33 (b1 + 1) fq33_0 (by omega) sq33 (by omega) (by omega) (by omega) s34 efq33_0 pr35) (gLw.s (gLw.s (gLw.s (gLw.s (gLw.n (gLw.n gLw.z))))))
                  · refine gy_icF rfl (by decide) (by decide) (by omega) (by omega) hc32 ?_
                    refine gz_s 1 (pc' := 86) (L' := [some (.ref m), some (.int (zi wh)), some (.int (zi n)), some (.int (zi b1)), some (.int (zi mn)), some (.int (zi s1))]) (S' := [.ref m]) rfl ?_
                    refine gs_gtk rfl (by decide) rfl sh31.1 tm rfl rfl lp30k0 ?_
                    refine gy_s 5 (pc' := 97) (L' := [some (.ref m), some (.int (zi wh)), some (.int (zi n)), some (.int (zi b1)), some (.int (zi mn)), some (.int (zi s1))]) (S' := [.int (((zi 257) * (zi wh)) + (zi s1)), .ref c1]) (L2 := [some (.ref m), some (.int (zi wh)), some (.int (zi n)), some (.int (zi b1)), some (.int (zi mn)), some (.int (zi s1))]) (S2 := [.int (zi ((257 * wh) + s1)), .ref c1]) rfl (by simp only [zi_add, zi_sub, zi_mul, zi_neg, zi_and1, zi_and7, zi_and15, zi_and31, zi_and255]) (by simp only [zi_add, zi_sub, zi_mul, zi_neg, zi_and1, zi_and7, zi_and15, zi_and31, zi_and255]) ?_
                    have hl36 : 514 ≤ h31.2.2.2.1 c1 ∧ h31.2.2.2.1 c1 ≤ 514 := gJ.rowl (G := gGG) sh31.1 tc1 rfl
                    refine gs_ald rfl (by decide) sh31.1 tc1 rfl rfl rfl (by decide) (fun _ => rfl) (by omega) (by omega) (fun z37 ez37 az37 bz37 => ?_)
                    have hf38 := gRow.at (i := (257 * wh) + s1) (z := z37) lp30k2 tc1 ez37 (by omega) (by omega) (by omega)
                    refine gz_s 1 (pc' := 99) (L' := [some (.ref m), some (.int (zi wh)), some (.int (zi n)), some (.int (zi b1)), some (.int (zi mn)), some (.int (zi s1))]) (S' := [.int (zi b1), .int (zi z37)]) rfl ?_
                    by_cases hc39 : ¬ (z37 : Int) = b1
                    · refine gy_icT (pc' := 109) rfl (by decide) (by decide) (by omega) (by omega) hc39 ?_
                      refine gy_s 4 (pc' := 77) (L' := [some (.ref m), some (.int (zi wh)), some (.int (zi n)), some (.int (zi b1)), some (.int (zi mn)), some (.int ((zi s1) + zi 1))]) (S' := []) (L2 := [some (.ref m), some (.int (zi wh)), some (.int (zi n)), some (.int (zi b1)), some (.int (zi mn)), some (.int (zi (s1 + 1)))]) (S2 := []) rfl (by simp only [zi_add, zi_sub, zi_mul, zi_neg, zi_and1, zi_and7, zi_and15, zi_and31, zi_and255]) (by simp only [zi_add, zi_sub, zi_mul, zi_neg, zi_and1, zi_and7, zi_and15, zi_and31, zi_and255]) ?_
                      exact gz_wk (ihlp30 h31 mn (s1 + 1) (by omega) sh31 (by omega) (by omega) (by omega) lp30k0 lp30k1 lp30k2) (gLw.s (gLw.s (gLw.s (gLw.s (gLw.s (gLw.s gLw.z))))))
                    · refine gy_icF rfl (by decide) (by decide) (by omega) (by omega) hc39 ?_
                      refine gy_s 7 (pc' := 77) (L' := [some (.ref m), some (.int (zi wh)), some (.int (zi n)), some (.int (zi b1)), some (.int ((zi mn) + (zi 1))), some (.int ((zi s1) + zi 1))]) (S' := []) (L2 := [some (.ref m), some (.int (zi wh)), some (.int (zi n)), some (.int (zi b1)), some (.int (zi (mn + 1))), some (.int (zi (s1 + 1)))]) (S2 := []) rfl (by simp only [zi_add, zi_sub, zi_mul, zi_neg, zi_and1, zi_and7, zi_and15, zi_and31, zi_and255]) (by simp only [zi_add, zi_sub, zi_mul, zi_neg, zi_and1, zi_and7, zi_and15, zi_and31, zi_and255]) ?_
                      exact gz_wk (ihlp30 h31 (mn + 1) (s1 + 1) (by omega) sh31 (by omega) (by omega) (by omega) lp30k0 lp30k1 lp30k2) (gLw.s (gLw.s (gLw.s (gLw.s (gLw.s (gLw.s gLw.z))))))
              exact gz_wk (lp30 _ h15 0 0 (Nat.lt_succ_self _) sh15 (by omega) (by omega) (by omega) lp14k0 lp14k1 lp14k2) (gLw.s (gLw.s (gLw.s (gLw.s (gLw.s (gLw.s gLw.z))))))
        exact gz_wk (lp14 _ hq11 1 fq11_0 (Nat.lt_succ_self _) sq11 (by omega) (by omega) (by omega) s12 efq11_0 pr13) (gLw.s (gLw.s (gLw.s (gLw.s (gLw.n (gLw.n gLw.z))))))
      · refine gy_icF rfl (by decide) (by decide) (by omega) (by omega) hc4 ?_
        refine gz_s 1 (pc' := 12) (L' := [some (.ref m), some (.int (zi wh)), some (.int (zi n)), some (.int (zi k)), none, none]) (S' := [.ref m]) rfl ?_
        refine gs_gtk rfl (by decide) rfl sh3.1 tm rfl rfl lp2k1 ?_
        refine gy_s 5 (pc' := 22) (L' := [some (.ref m), some (.int (zi wh)), some (.int (zi n)), some (.int (zi k)), none, none]) (S' := [.int (((zi 257) * (zi wh)) + (zi k)), .ref c1]) (L2 := [some (.ref m), some (.int (zi wh)), some (.int (zi n)), some (.int (zi k)), none, none]) (S2 := [.int (zi ((257 * wh) + k)), .ref c1]) rfl (by simp only [zi_add, zi_sub, zi_mul, zi_neg, zi_and1, zi_and7, zi_and15, zi_and31, zi_and255]) (by simp only [zi_add, zi_sub, zi_mul, zi_neg, zi_and1, zi_and7, zi_and15, zi_and31, zi_and255]) ?_
        have hl40 : 514 ≤ h3.2.2.2.1 c1 ∧ h3.2.2.2.1 c1 ≤ 514 := gJ.rowl (G := gGG) sh3.1 tc1 rfl
        refine gs_ald rfl (by decide) sh3.1 tc1 rfl rfl rfl (by decide) (fun _ => rfl) (by omega) (by omega) (fun z41 ez41 az41 bz41 => ?_)
        have hf42 := gRow.at (i := (257 * wh) + k) (z := z41) lp2k2 tc1 ez41 (by omega) (by omega) (by omega)
        by_cases hc43 : (z41 : Int) ≤ 0
        · refine gy_ifT (pc' := 32) rfl (by decide) (by decide) (by omega) hc43 ?_
          refine gy_s 4 (pc' := 4) (L' := [some (.ref m), some (.int (zi wh)), some (.int (zi n)), some (.int ((zi k) + zi 1)), none, none]) (S' := []) (L2 := [some (.ref m), some (.int (zi wh)), some (.int (zi n)), some (.int (zi (k + 1))), none, none]) (S2 := []) rfl (by simp only [zi_add, zi_sub, zi_mul, zi_neg, zi_and1, zi_and7, zi_and15, zi_and31, zi_and255]) (by simp only [zi_add, zi_sub, zi_mul, zi_neg, zi_and1, zi_and7, zi_and15, zi_and31, zi_and255]) ?_
          exact gz_wk (ihlp2 h3 n (k + 1) (by omega) sh3 (by omega) (by omega) (by omega) lp2k0 lp2k1 lp2k2) (gLw.s (gLw.s (gLw.s (gLw.s (gLw.n (gLw.n gLw.z))))))
        · refine gy_ifF rfl (by decide) (by decide) (by omega) hc43 ?_
          refine gy_s 7 (pc' := 4) (L' := [some (.ref m), some (.int (zi wh)), some (.int ((zi n) + (zi 1))), some (.int ((zi k) + zi 1)), none, none]) (S' := []) (L2 := [some (.ref m), some (.int (zi wh)), some (.int (zi (n + 1))), some (.int (zi (k + 1))), none, none]) (S2 := []) rfl (by simp only [zi_add, zi_sub, zi_mul, zi_neg, zi_and1, zi_and7, zi_and15, zi_and31, zi_and255]) (by simp only [zi_add, zi_sub, zi_mul, zi_neg, zi_and1, zi_and7, zi_and15, zi_and31, zi_and255]) ?_
          exact gz_wk (ihlp2 h3 (n + 1) (k + 1) (by omega) sh3 (by omega) (by omega) (by omega) lp2k0 lp2k1 lp2k2) (gLw.s (gLw.s (gLw.s (gLw.s (gLw.n (gLw.n gLw.z))))))
  exact gz_wk (lp2 _ h 0 0 (Nat.lt_succ_self _) hS (by omega) (by omega) (by omega) ew0 ec1 hrow) (gLw.s (gLw.s (gLw.s (gLw.s (gLw.n (gLw.n gLw.z))))))
