/-! ===== methods of the landed text (by program) ===== -/
set_option maxRecDepth 20000 in
set_option maxHeartbeats 4000000 in
theorem cl_DctFilter_upward (d : Nat) {ty : Nat → Nat} {h : gH} (hJ : gJ rT 1027 ty h) (a : Int) (ra : 0 ≤ a ∧ a ≤ 4096) (b : Int) (rb : 1 ≤ b ∧ b ≤ 4096) : gz gPP gGG gcn (d + 0) gt33 0 (gent [.int (zi a), .int (zi b)] 2) [] h (fun q _ => gSs rT 1027 ty [] h q.2.2 ∧ ∃ z : Int, gfin gt33 q.1 q.2.1 = some (some (.int (zi z))) ∧ 0 ≤ z ∧ z ≤ 8191 ∧ (z = zup a b)) := by
  have hS : gSs rT 1027 ty [] h h := gSs.rf hJ
  have hzu := zup_alt (a := a) (b := b) (by omega)
  refine gz_s 2 (pc' := 2) (L' := [some (.int (zi a)), some (.int (zi b))]) (S' := [.int (zi 1), .int (zi b)]) rfl ?_
  refine gy_icT (pc' := 9) rfl (by decide) (by decide) (by omega) (by omega) (by first | (simp [zc]; done) | (simp only [zc]; omega)) ?_
  refine gy_s 6 (pc' := 15) (L' := [some (.int (zi a)), some (.int (zi b))]) (S' := [.int (zi b), .int (((zi a) + (zi b)) - (zi 1))]) (L2 := [some (.int (zi a)), some (.int (zi b))]) (S2 := [.int (zi b), .int (zi ((a + b) - 1))]) rfl (by simp only [zi_add, zi_sub, zi_mul, zi_neg, zi_and1, zi_and7, zi_and15, zi_and31, zi_and255]) (by simp only [zi_add, zi_sub, zi_mul, zi_neg, zi_and1, zi_and7, zi_and15, zi_and31, zi_and255]) ?_
  refine gy_div rfl (by decide) (by omega) (by omega) ?_
  have hd1 := zd_f (x := (a + b) - 1) (y := b) (by omega) (by omega)
  exact gz_end (I := .ireturn) (len := 1) rfl (Or.inl rfl) ⟨hS, ((a + b) - 1) / b, rfl, (by omega), (by omega), (by omega)⟩
set_option maxRecDepth 20000 in
set_option maxHeartbeats 4000000 in
theorem cl_DctFilter_cosine (d : Nat) {ty : Nat → Nat} {h : gH} (hJ : gJ rT 1027 ty h) (u : Int) (ru : 0 ≤ u ∧ u ≤ 7) (x : Int) (rx : 0 ≤ x ∧ x ≤ 7) (hyst : gSta ty h) : gz gPP gGG gcn (d + 0) gt74 0 (gent [.int (zi u), .int (zi x)] 2) [] h (fun q _ => gSs rT 1027 ty [] h q.2.2 ∧ ∃ z : Int, gfin gt74 q.1 q.2.1 = some (some (.int (zi z))) ∧ (-4096) ≤ z ∧ z ≤ 4096) := by
  have hS : gSs rT 1027 ty [] h h := gSs.rf hJ
  refine gz_s 1 (pc' := 1) (L' := [some (.int (zi u)), some (.int (zi x))]) (S' := [.int (zi u)]) rfl ?_
  by_cases hc1 : ¬ (u : Int) = 0
  · refine gy_ifT (pc' := 10) rfl (by decide) (by decide) (by omega) hc1 ?_
    refine gz_1 rfl (by decide) rfl rfl (pc' := 13) (S' := [.ref 1]) (h' := h) rfl ?_
    have hx2 := zx_f (a := (2 * x) + 1) (b := u) (A := 15) (B := 7) (by omega) (by omega) (by omega) (by omega)
    refine gy_s 9 (pc' := 23) (L' := [some (.int (zi u)), some (.int (zi x))]) (S' := [.int (((((zi 2) * (zi x)) + (zi 1)) * (zi u)) &&& (zi 31)), .ref 1]) (L2 := [some (.int (zi u)), some (.int (zi x))]) (S2 := [.int (zi ((((2 * x) + 1) * u) % 32)), .ref 1]) rfl (by simp only [zi_add, zi_sub, zi_mul, zi_neg, zi_and1, zi_and7, zi_and15, zi_and31, zi_and255]) (by simp only [zi_add, zi_sub, zi_mul, zi_neg, zi_and1, zi_and7, zi_and15, zi_and31, zi_and255]) ?_
    refine gs_st1 rfl (by decide) rfl (gSta.fr hS.2 (by decide) hyst) (by omega) (by omega) (fun z3 az3 bz3 => ?_)
    exact gz_end (I := .ireturn) (len := 1) rfl (Or.inl rfl) ⟨hS, z3, rfl, (by omega), (by omega)⟩
  · refine gy_ifF rfl (by decide) (by decide) (by omega) hc1 ?_
    refine gz_s 2 (pc' := 24) (L' := [some (.int (zi u)), some (.int (zi x))]) (S' := [.int (zi 2896)]) rfl ?_
    exact gz_end (I := .ireturn) (len := 1) rfl (Or.inl rfl) ⟨hS, 2896, rfl, (by omega), (by omega)⟩
set_option maxRecDepth 20000 in
set_option maxHeartbeats 4000000 in
theorem cl_DctFilter_asByte (d : Nat) {ty : Nat → Nat} {h : gH} (hJ : gJ rT 1027 ty h) (v : Int) (rv : (-2147483648) ≤ v ∧ v ≤ 2147483647) : gz gPP gGG gcn (d + 1) gt78 0 (gent [.int (zi v)] 1) [] h (fun q _ => gSs rT 1027 ty [] h q.2.2 ∧ ∃ z : Int, gfin gt78 q.1 q.2.1 = some (some (.int (zi z))) ∧ 0 ≤ z ∧ z ≤ 255) := by
  have hS : gSs rT 1027 ty [] h h := gSs.rf hJ
  refine gz_s 3 (pc' := 5) (L' := [some (.int (zi v))]) (S' := [.int (zi v), .int (zi 255), .int (zi 0)]) rfl ?_
  refine gz_call rfl (by decide) rfl (by decide) (by decide) (gcal_of rfl rfl rfl (Nat.le_of_ble_eq_true rfl) rfl) (cl_Math_min _ hS.1 255 (by omega) v (by omega) ) (fun q1 _ wq1 => ?_)
  obtain ⟨pq1, oq1, hq1⟩ := q1
  obtain ⟨xq1, zq1, gq1, aq1, bq1, uq1_0, uq1_1, uq1_2⟩ := wq1
  refine ⟨_, gq1, ?_⟩
  show gz gPP gGG gcn _ _ 8 [some (.int (zi v))] [.int (zi zq1), .int (zi 0)] hq1 _
  have sq1 : gSs rT 1027 ty [] h hq1 := gSs.tr hS xq1 (by decide)
  refine gz_call rfl (by decide) rfl (by decide) (by decide) (gcal_of rfl rfl rfl (Nat.le_of_ble_eq_true rfl) rfl) (cl_Math_max _ sq1.1 0 (by omega) zq1 (by omega) ) (fun q2 _ wq2 => ?_)
  obtain ⟨pq2, oq2, hq2⟩ := q2
  obtain ⟨xq2, zq2, gq2, aq2, bq2, uq2_0, uq2_1, uq2_2⟩ := wq2
  refine ⟨_, gq2, ?_⟩
  show gz gPP gGG gcn _ _ 11 [some (.int (zi v))] [.int (zi zq2)] hq2 _
  have sq2 : gSs rT 1027 ty [] h hq2 := gSs.tr sq1 xq2 (by decide)
  exact gz_end (I := .ireturn) (len := 1) rfl (Or.inl rfl) ⟨sq2, zq2, rfl, (by omega), (by omega)⟩
set_option maxRecDepth 20000 in
set_option maxHeartbeats 4000000 in
theorem cl_Picture_forget (d : Nat) {ty : Nat → Nat} {h : gH} (hJ : gJ rT 1027 ty h) (x : Nat) (tx : ty x = 54) (uq : gUq ty) : gz gPP gGG gcn (d + 0) gt13 0 (gent [.ref x] 1) [] h (fun q _ => gSs rT 1027 ty [54005, 54006, 54007, 54008, 54009] h q.2.2 ∧ ∃ cn1 bl1 w1 hh1 : Int, gfin gt13 q.1 q.2.1 = some none ∧ q.2.2.2.2.2.2 x 7 = .int (zi cn1) ∧ 0 ≤ cn1 ∧ cn1 ≤ 3 ∧ q.2.2.2.2.2.2 x 8 = .int (zi bl1) ∧ 0 ≤ bl1 ∧ bl1 ≤ 192 ∧ q.2.2.2.2.2.2 x 5 = .int (zi w1) ∧ 0 ≤ w1 ∧ w1 ≤ 64 ∧ q.2.2.2.2.2.2 x 6 = .int (zi hh1) ∧ 0 ≤ hh1 ∧ hh1 ≤ 64 ∧ (cn1 = 0) ∧ (bl1 = 0) ∧ (w1 = 0) ∧ (hh1 = 0)) := by
  have hS : gSs rT 1027 ty [54005, 54006, 54007, 54008, 54009] h h := gSs.rf hJ
  refine gz_s 2 (pc' := 2) (L' := [some (.ref x)]) (S' := [.int (zi 0), .ref x]) rfl ?_
  refine gs_put rfl (by decide) rfl hS tx rfl rfl rfl rfl (Or.inl rfl) (by decide) (by omega) (by omega) (fun h1 sh1 eh1 fh1 => ?_)
  refine gz_s 2 (pc' := 7) (L' := [some (.ref x)]) (S' := [.int (zi 0), .ref x]) rfl ?_
  refine gs_put rfl (by decide) rfl sh1 tx rfl rfl rfl rfl (Or.inl rfl) (by decide) (by omega) (by omega) (fun h2 sh2 eh2 fh2 => ?_)
  have s3 := (fh2 x 5 (fun q => absurd q.2 (by decide))).trans eh1
  refine gz_s 2 (pc' := 12) (L' := [some (.ref x)]) (S' := [.int (zi 0), .ref x]) rfl ?_
  refine gs_put rfl (by decide) rfl sh2 tx rfl rfl rfl rfl (Or.inl rfl) (by decide) (by omega) (by omega) (fun h4 sh4 eh4 fh4 => ?_)
  have s5 := (fh4 x 5 (fun q => absurd q.2 (by decide))).trans s3
  have s6 := (fh4 x 6 (fun q => absurd q.2 (by decide))).trans eh2
  refine gz_s 2 (pc' := 17) (L' := [some (.ref x)]) (S' := [.int (zi 0), .ref x]) rfl ?_
  refine gs_put rfl (by decide) rfl sh4 tx rfl rfl rfl rfl (Or.inl rfl) (by decide) (by omega) (by omega) (fun h7 sh7 eh7 fh7 => ?_)
  have s8 := (fh7 x 5 (fun q => absurd q.2 (by decide))).trans s5
  have s9 := (fh7 x 6 (fun q => absurd q.2 (by decide))).trans s6
  have s10 := (fh7 x 7 (fun q => absurd q.2 (by decide))).trans eh4
  refine gz_s 2 (pc' := 22) (L' := [some (.ref x)]) (S' := [.int (zi 0), .ref x]) rfl ?_
  refine gs_put rfl (by decide) rfl sh7 tx rfl rfl rfl rfl (Or.inl rfl) (by decide) (by omega) (by omega) (fun h11 sh11 eh11 fh11 => ?_)
  have s12 := (fh11 x 5 (fun q => absurd q.2 (by decide))).trans s8
  have s13 := (fh11 x 6 (fun q => absurd q.2 (by decide))).trans s9
  have s14 := (fh11 x 7 (fun q => absurd q.2 (by decide))).trans s10
  have s15 := (fh11 x 8 (fun q => absurd q.2 (by decide))).trans eh7
  exact gz_end (I := .return_) (len := 1) rfl (Or.inl rfl) ⟨sh11, 0, 0, 0, 0, rfl, s14, (by omega), (by omega), s15, (by omega), (by omega), s12, (by omega), (by omega), s13, (by omega), (by omega), (by omega), (by omega), (by omega), (by omega)⟩
set_option maxRecDepth 20000 in
set_option maxHeartbeats 4000000 in
theorem cl_Picture_bandOf (d : Nat) {ty : Nat → Nat} {h : gH} (hJ : gJ rT 1027 ty h) (x : Nat) (tx : ty x = 54) (k : Int) (rk : (-2147483648) ≤ k ∧ k ≤ 2147483647) (bn : Nat) (ebn : h.2.2.2.2 x 0 = .ref bn) (tbn : ty bn = 57) (cn : Int) (ecn : h.2.2.2.2 x 7 = .int (zi cn)) (rcn : 1 ≤ cn ∧ cn ≤ 3) (uq : gUq ty) : gz gPP gGG gcn (d + 0) gt73 0 (gent [.ref x, .int (zi k)] 4) [] h (fun q _ => gSs rT 1027 ty [] h q.2.2 ∧ ∃ z : Int, gfin gt73 q.1 q.2.1 = some (some (.int (zi z))) ∧ 0 ≤ z ∧ z ≤ 2 ∧ (z < cn)) := by
  have hS : gSs rT 1027 ty [] h h := gSs.rf hJ
  refine gz_s 4 (pc' := 4) (L' := [some (.ref x), some (.int (zi k)), some (.int (zi 0)), some (.int (zi 1))]) (S' := []) rfl ?_
  have lp1 : ∀ (fu : Nat) (h2 : gH) (it : Int) (i : Int), (4 - i).toNat < fu → gSs rT 1027 ty [] h h2 → (0 ≤ it ∧ it ≤ 2) → (1 ≤ i ∧ i ≤ 3) → (it < cn) → h2.2.2.2.2 x 0 = .ref bn → h2.2.2.2.2 x 7 = .int (zi cn) → gz gPP gGG gcn (d + 0) gt73 4 [some (.ref x), some (.int (zi k)), some (.int (zi it)), some (.int (zi i))] [] h2 (fun q _ => gSs rT 1027 ty [] h q.2.2 ∧ ∃ z : Int, gfin gt73 q.1 q.2.1 = some (some (.int (zi z))) ∧ 0 ≤ z ∧ z ≤ 2 ∧ (z < cn)) := by
    intro fu
    induction fu with
    | zero => intro h2 it i hm; exact absurd hm (Nat.not_lt_zero _)
    | succ fu ihlp1 =>
      intro h2 it i lp1m sh2 lp1f0 lp1f1 lp1f2 lp1k0 lp1k1
      refine gz_s 2 (pc' := 6) (L' := [some (.ref x), some (.int (zi k)), some (.int (zi it)), some (.int (zi i))]) (S' := [.ref x, .int (zi i)]) rfl ?_
      refine gs_gtk rfl (by decide) rfl sh2.1 tx rfl rfl lp1k1 ?_
      by_cases hc3 : (cn : Int) ≤ i
      · refine gy_icT (pc' := 33) rfl (by decide) (by decide) (by omega) (by omega) hc3 ?_
        refine gz_s 1 (pc' := 34) (L' := [some (.ref x), some (.int (zi k)), some (.int (zi it)), some (.int (zi i))]) (S' := [.int (zi it)]) rfl ?_
        exact gz_end (I := .ireturn) (len := 1) rfl (Or.inl rfl) ⟨sh2, it, rfl, (by omega), (by omega), (by omega)⟩
      · refine gy_icF rfl (by decide) (by decide) (by omega) (by omega) hc3 ?_
        refine gz_s 2 (pc' := 14) (L' := [some (.ref x), some (.int (zi k)), some (.int (zi it)), some (.int (zi i))]) (S' := [.ref x, .int (zi k)]) rfl ?_
        refine gs_gtk rfl (by decide) rfl sh2.1 tx rfl rfl lp1k0 ?_
        refine gz_s 1 (pc' := 18) (L' := [some (.ref x), some (.int (zi k)), some (.int (zi it)), some (.int (zi i))]) (S' := [.int (zi i), .ref bn, .int (zi k)]) rfl ?_
        rcases (by omega : i = 1 ∨ i = 2) with he6 | he6
        · refine gs_aal (j := 1) (q2 := 83) rfl (by decide) sh2.1 tbn rfl rfl rfl (by decide) he6 rfl (by decide) (fun c7 ec7 tc7 => ?_)
          refine gs_get rfl (by decide) rfl sh2.1 tc7 rfl rfl rfl (fun z8 ez8 az8 bz8 => ?_)
          by_cases hc9 : (k : Int) < z8
          · refine gy_icT (pc' := 27) rfl (by decide) (by decide) (by omega) (by omega) hc9 ?_
            refine gy_s 2 (pc' := 4) (L' := [some (.ref x), some (.int (zi k)), some (.int (zi it)), some (.int ((zi i) + zi 1))]) (S' := []) (L2 := [some (.ref x), some (.int (zi k)), some (.int (zi it)), some (.int (zi (i + 1)))]) (S2 := []) rfl (by simp only [zi_add, zi_sub, zi_mul, zi_neg, zi_and1, zi_and7, zi_and15, zi_and31, zi_and255]) (by simp only [zi_add, zi_sub, zi_mul, zi_neg, zi_and1, zi_and7, zi_and15, zi_and31, zi_and255]) ?_
            exact gz_wk (ihlp1 h2 it (i + 1) (by omega) sh2 (by omega) (by omega) (by omega) lp1k0 lp1k1) (gLw.s (gLw.s (gLw.s (gLw.s gLw.z))))
          · refine gy_icF rfl (by decide) (by decide) (by omega) (by omega) hc9 ?_
            refine gy_s 4 (pc' := 4) (L' := [some (.ref x), some (.int (zi k)), some (.int (zi i)), some (.int ((zi i) + zi 1))]) (S' := []) (L2 := [some (.ref x), some (.int (zi k)), some (.int (zi i)), some (.int (zi (i + 1)))]) (S2 := []) rfl (by simp only [zi_add, zi_sub, zi_mul, zi_neg, zi_and1, zi_and7, zi_and15, zi_and31, zi_and255]) (by simp only [zi_add, zi_sub, zi_mul, zi_neg, zi_and1, zi_and7, zi_and15, zi_and31, zi_and255]) ?_
            exact gz_wk (ihlp1 h2 i (i + 1) (by omega) sh2 (by omega) (by omega) (by omega) lp1k0 lp1k1) (gLw.s (gLw.s (gLw.s (gLw.s gLw.z))))
        · refine gs_aal (j := 2) (q2 := 84) rfl (by decide) sh2.1 tbn rfl rfl rfl (by decide) he6 rfl (by decide) (fun c10 ec10 tc10 => ?_)
          refine gs_get rfl (by decide) rfl sh2.1 tc10 rfl rfl rfl (fun z11 ez11 az11 bz11 => ?_)
          by_cases hc12 : (k : Int) < z11
          · refine gy_icT (pc' := 27) rfl (by decide) (by decide) (by omega) (by omega) hc12 ?_
            refine gy_s 2 (pc' := 4) (L' := [some (.ref x), some (.int (zi k)), some (.int (zi it)), some (.int ((zi i) + zi 1))]) (S' := []) (L2 := [some (.ref x), some (.int (zi k)), some (.int (zi it)), some (.int (zi (i + 1)))]) (S2 := []) rfl (by simp only [zi_add, zi_sub, zi_mul, zi_neg, zi_and1, zi_and7, zi_and15, zi_and31, zi_and255]) (by simp only [zi_add, zi_sub, zi_mul, zi_neg, zi_and1, zi_and7, zi_and15, zi_and31, zi_and255]) ?_
            exact gz_wk (ihlp1 h2 it (i + 1) (by omega) sh2 (by omega) (by omega) (by omega) lp1k0 lp1k1) (gLw.s (gLw.s (gLw.s (gLw.s gLw.z))))
          · refine gy_icF rfl (by decide) (by decide) (by omega) (by omega) hc12 ?_
            refine gy_s 4 (pc' := 4) (L' := [some (.ref x), some (.int (zi k)), some (.int (zi i)), some (.int ((zi i) + zi 1))]) (S' := []) (L2 := [some (.ref x), some (.int (zi k)), some (.int (zi i)), some (.int (zi (i + 1)))]) (S2 := []) rfl (by simp only [zi_add, zi_sub, zi_mul, zi_neg, zi_and1, zi_and7, zi_and15, zi_and31, zi_and255]) (by simp only [zi_add, zi_sub, zi_mul, zi_neg, zi_and1, zi_and7, zi_and15, zi_and31, zi_and255]) ?_
            exact gz_wk (ihlp1 h2 i (i + 1) (by omega) sh2 (by omega) (by omega) (by omega) lp1k0 lp1k1) (gLw.s (gLw.s (gLw.s (gLw.s gLw.z))))
  exact gz_wk (lp1 _ h 0 1 (Nat.lt_succ_self _) hS (by omega) (by omega) (by omega) ebn ecn) (gLw.s (gLw.s (gLw.s (gLw.s gLw.z))))
set_option maxRecDepth 20000 in
set_option maxHeartbeats 4000000 in
theorem cl_Picture_exactAt (d : Nat) {ty : Nat → Nat} {h : gH} (hJ : gJ rT 1027 ty h) (x : Nat) (tx : ty x = 54) (bk : Int) (rbk : 0 ≤ bk ∧ bk ≤ 191) (x1 : Int) (rx1 : 0 ≤ x1 ∧ x1 ≤ 7) (y1 : Int) (ry1 : 0 ≤ y1 ∧ y1 ≤ 7) (bn : Nat) (ebn : h.2.2.2.2 x 0 = .ref bn) (tbn : ty bn = 57) (b0 : Nat) (eb0 : h.2.2.2.2 bn 0 = .ref b0) (tb0 : ty b0 = 82) (b1 : Nat) (eb1 : h.2.2.2.2 bn 1 = .ref b1) (tb1 : ty b1 = 83) (b2 : Nat) (eb2 : h.2.2.2.2 bn 2 = .ref b2) (tb2 : ty b2 = 84) (co : Nat) (eco : h.2.2.2.2 x 2 = .ref co) (tco : ty co = 112) (hyst : gSta ty h) (cn : Int) (ecn : h.2.2.2.2 x 7 = .int (zi cn)) (rcn : 1 ≤ cn ∧ cn ≤ 3) (tq0 : Int) (etq0 : h.2.2.2.2 b0 3 = .int (zi tq0)) (rtq0 : (-1) ≤ tq0 ∧ tq0 ≤ 255) (tq1 : Int) (etq1 : h.2.2.2.2 b1 3 = .int (zi tq1)) (rtq1 : (-1) ≤ tq1 ∧ tq1 ≤ 255) (tq2 : Int) (etq2 : h.2.2.2.2 b2 3 = .int (zi tq2)) (rtq2 : (-1) ≤ tq2 ∧ tq2 ≤ 255) (pp0 : 0 < cn → (0 ≤ tq0 ∧ tq0 ≤ 3)) (pp1 : 1 < cn → (0 ≤ tq1 ∧ tq1 ≤ 3)) (pp2 : 2 < cn → (0 ≤ tq2 ∧ tq2 ≤ 3)) (pp3 : bk * 64 + 64 ≤ (h.2.2.2.1 co : Int)) (uq : gUq ty) : gz gPP gGG gcn (d + 1) gt72 0 (gent [.ref x, .int (zi bk), .int (zi x1), .int (zi y1)] 10) [] h (fun q _ => gSs rT 1027 ty [] h q.2.2 ∧ ∃ z : Int, gfin gt72 q.1 q.2.1 = some (some (.long (zl z))) ∧ (-9223372036854775808) ≤ z ∧ z ≤ 9223372036854775807) := by
  have hS : gSs rT 1027 ty [] h h := gSs.rf hJ
  refine gz_s 1 (pc' := 1) (L' := [some (.ref x), some (.int (zi bk)), some (.int (zi x1)), some (.int (zi y1)), none, none, none, none, none, none]) (S' := [.ref x]) rfl ?_
  refine gs_gtk rfl (by decide) rfl hS.1 tx rfl rfl ebn ?_
  refine gz_s 2 (pc' := 6) (L' := [some (.ref x), some (.int (zi bk)), some (.int (zi x1)), some (.int (zi y1)), none, none, none, none, none, none]) (S' := [.int (zi bk), .ref x, .ref bn]) rfl ?_
  refine gz_call rfl (by decide) rfl (by decide) (by decide) (gcal_of rfl rfl rfl (Nat.le_of_ble_eq_true rfl) (gJ.recv (G := gGG) hS.1 tx rfl rfl)) (cl_Picture_bandOf _ hS.1 x tx bk (by omega) bn ebn tbn cn ecn (by omega) uq) (fun q1 _ wq1 => ?_)
  obtain ⟨pq1, oq1, hq1⟩ := q1
  obtain ⟨xq1, zq1, gq1, aq1, bq1, uq1_0⟩ := wq1
  refine ⟨_, gq1, ?_⟩
  show gz gPP gGG gcn _ _ 9 [some (.ref x), some (.int (zi bk)), some (.int (zi x1)), some (.int (zi y1)), none, none, none, none, none, none] [.int (zi zq1), .ref bn] hq1 _
  have sq1 : gSs rT 1027 ty [] h hq1 := gSs.tr hS xq1 (by decide)
  have s2 := (xq1.2.2.2.2.2 x 0 (by rw [tx]; decide)).trans ebn
  have s3 := (xq1.2.2.2.2.2 bn 0 (by rw [tbn]; decide)).trans eb0
  have s4 := (xq1.2.2.2.2.2 bn 1 (by rw [tbn]; decide)).trans eb1
  have s5 := (xq1.2.2.2.2.2 bn 2 (by rw [tbn]; decide)).trans eb2
  have s6 := (xq1.2.2.2.2.2 x 2 (by rw [tx]; decide)).trans eco
  have s7 := (xq1.2.2.2.2.2 x 7 (by rw [tx]; decide)).trans ecn
  have s8 := (xq1.2.2.2.2.2 b0 3 (by rw [tb0]; decide)).trans etq0
  have s9 := (xq1.2.2.2.2.2 b1 3 (by rw [tb1]; decide)).trans etq1
  have s10 := (xq1.2.2.2.2.2 b2 3 (by rw [tb2]; decide)).trans etq2
  rcases (by omega : zq1 = 0 ∨ zq1 = 1 ∨ zq1 = 2) with he13 | he13 | he13
  · refine gs_aak (j := 0) rfl (by decide) sq1.1 tbn rfl rfl rfl (by decide) he13 (by decide) s3 ?_
    refine gs_gtk rfl (by decide) rfl sq1.1 tb0 rfl rfl s8 ?_
    refine gy_s 7 (pc' := 24) (L' := [some (.ref x), some (.int (zi bk)), some (.int (zi x1)), some (.int (zi y1)), some (.int ((zi tq0) * (zi 64))), some (.long (zl 0)), none, some (.int (zi 0)), none, none]) (S' := []) (L2 := [some (.ref x), some (.int (zi bk)), some (.int (zi x1)), some (.int (zi y1)), some (.int (zi (tq0 * 64))), some (.long (zl 0)), none, some (.int (zi 0)), none, none]) (S2 := []) rfl (by simp only [zi_add, zi_sub, zi_mul, zi_neg, zi_and1, zi_and7, zi_and15, zi_and31, zi_and255, zl_add, zl_sub, zl_mul, zl_neg]) (by simp only [zi_add, zi_sub, zi_mul, zi_neg, zi_and1, zi_and7, zi_and15, zi_and31, zi_and255, zl_add, zl_sub, zl_mul, zl_neg]) ?_
    have lp14 : ∀ (fu : Nat) (h15 : gH) (sm : Int) (i : Int), (65 - i).toNat < fu → gSs rT 1027 ty [] h h15 → ((-9223372036854775808) ≤ sm ∧ sm ≤ 9223372036854775807) → (0 ≤ i ∧ i ≤ 64) → h15.2.2.2.2 x 0 = .ref bn → h15.2.2.2.2 bn 0 = .ref b0 → h15.2.2.2.2 bn 1 = .ref b1 → h15.2.2.2.2 bn 2 = .ref b2 → h15.2.2.2.2 x 2 = .ref co → h15.2.2.2.2 x 7 = .int (zi cn) → h15.2.2.2.2 b0 3 = .int (zi tq0) → h15.2.2.2.2 b1 3 = .int (zi tq1) → h15.2.2.2.2 b2 3 = .int (zi tq2) → gz gPP gGG gcn (d + 1) gt72 24 [some (.ref x), some (.int (zi bk)), some (.int (zi x1)), some (.int (zi y1)), some (.int (zi (tq0 * 64))), some (.long (zl sm)), none, some (.int (zi i)), none, none] [] h15 (fun q _ => gSs rT 1027 ty [] h q.2.2 ∧ ∃ z : Int, gfin gt72 q.1 q.2.1 = some (some (.long (zl z))) ∧ (-9223372036854775808) ≤ z ∧ z ≤ 9223372036854775807) := by
      intro fu
      induction fu with
      | zero => intro h15 sm i hm; exact absurd hm (Nat.not_lt_zero _)
      | succ fu ihlp14 =>
        intro h15 sm i lp14m sh15 lp14f0 lp14f1 lp14k0 lp14k1 lp14k2 lp14k3 lp14k4 lp14k5 lp14k6 lp14k7 lp14k8
        refine gz_s 2 (pc' := 28) (L' := [some (.ref x), some (.int (zi bk)), some (.int (zi x1)), some (.int (zi y1)), some (.int (zi (tq0 * 64))), some (.long (zl sm)), none, some (.int (zi i)), none, none]) (S' := [.int (zi 64), .int (zi i)]) rfl ?_
        by_cases hc16 : (64 : Int) ≤ i
        · refine gy_icT (pc' := 100) rfl (by decide) (by decide) (by omega) (by omega) hc16 ?_
          refine gz_s 1 (pc' := 102) (L' := [some (.ref x), some (.int (zi bk)), some (.int (zi x1)), some (.int (zi y1)), some (.int (zi (tq0 * 64))), some (.long (zl sm)), none, some (.int (zi i)), none, none]) (S' := [.long (zl sm)]) rfl ?_
          exact gz_end (I := .lreturn) (len := 1) rfl (Or.inl rfl) ⟨sh15, sm, rfl, (by omega), (by omega)⟩
        · refine gy_icF rfl (by decide) (by decide) (by omega) (by omega) hc16 ?_
          refine gz_1 rfl (by decide) rfl rfl (pc' := 34) (S' := [.ref 0]) (h' := h15) rfl ?_
          refine gz_s 1 (pc' := 36) (L' := [some (.ref x), some (.int (zi bk)), some (.int (zi x1)), some (.int (zi y1)), some (.int (zi (tq0 * 64))), some (.long (zl sm)), none, some (.int (zi i)), none, none]) (S' := [.int (zi i), .ref 0]) rfl ?_
          refine gs_st0 rfl (by decide) rfl (gSta.fr sh15.2 (by decide) hyst) (by omega) (by omega) (fun z17 az17 bz17 => ?_)
          refine gy_s 3 (pc' := 41) (L' := [some (.ref x), some (.int (zi bk)), some (.int (zi x1)), some (.int (zi y1)), some (.int (zi (tq0 * 64))), some (.long (zl sm)), none, some (.int (zi i)), none, none]) (S' := [.int (zi x1), .int ((zi z17) &&& (zi 7))]) (L2 := [some (.ref x), some (.int (zi bk)), some (.int (zi x1)), some (.int (zi y1)), some (.int (zi (tq0 * 64))), some (.long (zl sm)), none, some (.int (zi i)), none, none]) (S2 := [.int (zi x1), .int (zi (z17 % 8))]) rfl (by simp only [zi_add, zi_sub, zi_mul, zi_neg, zi_and1, zi_and7, zi_and15, zi_and31, zi_and255, zl_add, zl_sub, zl_mul, zl_neg]) (by simp only [zi_add, zi_sub, zi_mul, zi_neg, zi_and1, zi_and7, zi_and15, zi_and31, zi_and255, zl_add, zl_sub, zl_mul, zl_neg]) ?_
          refine gz_call rfl (by decide) rfl (by decide) (by decide) (gcal_of rfl rfl rfl (Nat.le_of_ble_eq_true rfl) rfl) (cl_DctFilter_cosine _ sh15.1 (z17 % 8) (by omega) x1 (by omega) (gSta.fr sh15.2 (by decide) hyst)) (fun q18 _ wq18 => ?_)
          obtain ⟨pq18, oq18, hq18⟩ := q18
          obtain ⟨xq18, zq18, gq18, aq18, bq18⟩ := wq18
          refine ⟨_, gq18, ?_⟩
          show gz gPP gGG gcn _ _ 44 [some (.ref x), some (.int (zi bk)), some (.int (zi x1)), some (.int (zi y1)), some (.int (zi (tq0 * 64))), some (.long (zl sm)), none, some (.int (zi i)), none, none] [.int (zi zq18)] hq18 _
          have sq18 : gSs rT 1027 ty [] h hq18 := gSs.tr sh15 xq18 (by decide)
          have s19 := (xq18.2.2.2.2.2 x 0 (by rw [tx]; decide)).trans lp14k0
          have s20 := (xq18.2.2.2.2.2 bn 0 (by rw [tbn]; decide)).trans lp14k1
          have s21 := (xq18.2.2.2.2.2 bn 1 (by rw [tbn]; decide)).trans lp14k2
          have s22 := (xq18.2.2.2.2.2 bn 2 (by rw [tbn]; decide)).trans lp14k3
          have s23 := (xq18.2.2.2.2.2 x 2 (by rw [tx]; decide)).trans lp14k4
          have s24 := (xq18.2.2.2.2.2 x 7 (by rw [tx]; decide)).trans lp14k5
          have s25 := (xq18.2.2.2.2.2 b0 3 (by rw [tb0]; decide)).trans lp14k6
          have s26 := (xq18.2.2.2.2.2 b1 3 (by rw [tb1]; decide)).trans lp14k7
          have s27 := (xq18.2.2.2.2.2 b2 3 (by rw [tb2]; decide)).trans lp14k8
          refine gy_i2l rfl (by decide) (by omega) ?_
          refine gz_1 rfl (by decide) rfl rfl (pc' := 48) (S' := [.ref 0, .long (zl zq18)]) (h' := hq18) rfl ?_
          refine gz_s 1 (pc' := 50) (L' := [some (.ref x), some (.int (zi bk)), some (.int (zi x1)), some (.int (zi y1)), some (.int (zi (tq0 * 64))), some (.long (zl sm)), none, some (.int (zi i)), none, none]) (S' := [.int (zi i), .ref 0, .long (zl zq18)]) rfl ?_
          refine gs_st0 rfl (by decide) rfl (gSta.fr sq18.2 (by decide) hyst) (by omega) (by omega) (fun z28 az28 bz28 => ?_)
          refine gz_s 1 (pc' := 52) (L' := [some (.ref x), some (.int (zi bk)), some (.int (zi x1)), some (.int (zi y1)), some (.int (zi (tq0 * 64))), some (.long (zl sm)), none, some (.int (zi i)), none, none]) (S' := [.int (zi 3), .int (zi z28), .long (zl zq18)]) rfl ?_
          refine gy_shc (n := 3) (v := 8) rfl (by decide) (by omega) (by decide) (by decide) rfl ?_
          refine gz_s 1 (pc' := 54) (L' := [some (.ref x), some (.int (zi bk)), some (.int (zi x1)), some (.int (zi y1)), some (.int (zi (tq0 * 64))), some (.long (zl sm)), none, some (.int (zi i)), none, none]) (S' := [.int (zi y1), .int (zi (z28 / 8)), .long (zl zq18)]) rfl ?_
          refine gz_call rfl (by decide) rfl (by decide) (by decide) (gcal_of rfl rfl rfl (Nat.le_of_ble_eq_true rfl) rfl) (cl_DctFilter_cosine _ sq18.1 (z28 / 8) (by omega) y1 (by omega) (gSta.fr sq18.2 (by decide) hyst)) (fun q29 _ wq29 => ?_)
          obtain ⟨pq29, oq29, hq29⟩ := q29
          obtain ⟨xq29, zq29, gq29, aq29, bq29⟩ := wq29
          refine ⟨_, gq29, ?_⟩
          show gz gPP gGG gcn _ _ 57 [some (.ref x), some (.int (zi bk)), some (.int (zi x1)), some (.int (zi y1)), some (.int (zi (tq0 * 64))), some (.long (zl sm)), none, some (.int (zi i)), none, none] [.int (zi zq29), .long (zl zq18)] hq29 _
          have sq29 : gSs rT 1027 ty [] h hq29 := gSs.tr sq18 xq29 (by decide)
          have s30 := (xq29.2.2.2.2.2 x 0 (by rw [tx]; decide)).trans s19
          have s31 := (xq29.2.2.2.2.2 bn 0 (by rw [tbn]; decide)).trans s20
          have s32 := (xq29.2.2.2.2.2 bn 1 (by rw [tbn]; decide)).trans s21
          have s33 := (xq29.2.2.2.2.2 bn 2 (by rw [tbn]; decide)).trans s22
          have s34 := (xq29.2.2.2.2.2 x 2 (by rw [tx]; decide)).trans s23
          have s35 := (xq29.2.2.2.2.2 x 7 (by rw [tx]; decide)).trans s24
          have s36 := (xq29.2.2.2.2.2 b0 3 (by rw [tb0]; decide)).trans s25
          have s37 := (xq29.2.2.2.2.2 b1 3 (by rw [tb1]; decide)).trans s26
          have s38 := (xq29.2.2.2.2.2 b2 3 (by rw [tb2]; decide)).trans s27
          refine gy_i2l rfl (by decide) (by omega) ?_
          have hx39 := zx_s (a := zq18) (b := zq29) (A := 4096) (B := 4096) (by omega) (by omega) (by omega) (by omega)
          refine gy_s 1 (pc' := 59) (L' := [some (.ref x), some (.int (zi bk)), some (.int (zi x1)), some (.int (zi y1)), some (.int (zi (tq0 * 64))), some (.long (zl sm)), none, some (.int (zi i)), none, none]) (S' := [.long ((zl zq18) * (zl zq29))]) (L2 := [some (.ref x), some (.int (zi bk)), some (.int (zi x1)), some (.int (zi y1)), some (.int (zi (tq0 * 64))), some (.long (zl sm)), none, some (.int (zi i)), none, none]) (S2 := [.long (zl (zq18 * zq29))]) rfl (by simp only [zi_add, zi_sub, zi_mul, zi_neg, zi_and1, zi_and7, zi_and15, zi_and31, zi_and255, zl_add, zl_sub, zl_mul, zl_neg]) (by simp only [zi_add, zi_sub, zi_mul, zi_neg, zi_and1, zi_and7, zi_and15, zi_and31, zi_and255, zl_add, zl_sub, zl_mul, zl_neg]) ?_
          refine gy_lany (fun z40 ez40 az40 bz40 => ?_)
          refine gz_s 4 (pc' := 66) (L' := [some (.ref x), some (.int (zi bk)), some (.int (zi x1)), some (.int (zi y1)), some (.int (zi (tq0 * 64))), some (.long (zl sm)), none, some (.int (zi i)), some (.long (zl z40)), none]) (S' := [.ref x, .long (zl z40), .long (zl sm)]) rfl ?_
          refine gs_gtk rfl (by decide) rfl sq29.1 tx rfl rfl s34 ?_
          refine gy_s 5 (pc' := 76) (L' := [some (.ref x), some (.int (zi bk)), some (.int (zi x1)), some (.int (zi y1)), some (.int (zi (tq0 * 64))), some (.long (zl sm)), none, some (.int (zi i)), some (.long (zl z40)), none]) (S' := [.int (((zi bk) * (zi 64)) + (zi i)), .ref co, .long (zl z40), .long (zl sm)]) (L2 := [some (.ref x), some (.int (zi bk)), some (.int (zi x1)), some (.int (zi y1)), some (.int (zi (tq0 * 64))), some (.long (zl sm)), none, some (.int (zi i)), some (.long (zl z40)), none]) (S2 := [.int (zi ((bk * 64) + i)), .ref co, .long (zl z40), .long (zl sm)]) rfl (by simp only [zi_add, zi_sub, zi_mul, zi_neg, zi_and1, zi_and7, zi_and15, zi_and31, zi_and255, zl_add, zl_sub, zl_mul, zl_neg]) (by simp only [zi_add, zi_sub, zi_mul, zi_neg, zi_and1, zi_and7, zi_and15, zi_and31, zi_and255, zl_add, zl_sub, zl_mul, zl_neg]) ?_
          have hl41 : 0 ≤ hq29.2.2.2.1 co ∧ hq29.2.2.2.1 co ≤ 12288 := gJ.rowl (G := gGG) sq29.1 tco rfl
          have hl42 : hq29.2.2.2.1 co = h.2.2.2.1 co := congrFun sq29.2.2.2.2.1 co
          refine gs_ald rfl (by decide) sq29.1 tco rfl rfl rfl (by decide) (fun _ => rfl) (by omega) (by omega) (fun z43 ez43 az43 bz43 => ?_)
          refine gy_i2l rfl (by decide) (by omega) ?_
          refine gy_s 1 (pc' := 79) (L' := [some (.ref x), some (.int (zi bk)), some (.int (zi x1)), some (.int (zi y1)), some (.int (zi (tq0 * 64))), some (.long (zl sm)), none, some (.int (zi i)), some (.long (zl z40)), none]) (S' := [.long ((zl z40) * (zl z43)), .long (zl sm)]) (L2 := [some (.ref x), some (.int (zi bk)), some (.int (zi x1)), some (.int (zi y1)), some (.int (zi (tq0 * 64))), some (.long (zl sm)), none, some (.int (zi i)), some (.long (zl z40)), none]) (S2 := [.long (zl (z40 * z43)), .long (zl sm)]) rfl (by simp only [zi_add, zi_sub, zi_mul, zi_neg, zi_and1, zi_and7, zi_and15, zi_and31, zi_and255, zl_add, zl_sub, zl_mul, zl_neg]) (by simp only [zi_add, zi_sub, zi_mul, zi_neg, zi_and1, zi_and7, zi_and15, zi_and31, zi_and255, zl_add, zl_sub, zl_mul, zl_neg]) ?_
          refine gy_lany (fun z44 ez44 az44 bz44 => ?_)
          refine gz_s 1 (pc' := 80) (L' := [some (.ref x), some (.int (zi bk)), some (.int (zi x1)), some (.int (zi y1)), some (.int (zi (tq0 * 64))), some (.long (zl sm)), none, some (.int (zi i)), some (.long (zl z40)), none]) (S' := [.ref x, .long (zl z44), .long (zl sm)]) rfl ?_
          refine gs_gtr rfl (by decide) rfl sq29.1 tx rfl rfl rfl (fun c45 ec45 tc45 => ?_)
          refine gy_s 3 (pc' := 88) (L' := [some (.ref x), some (.int (zi bk)), some (.int (zi x1)), some (.int (zi y1)), some (.int (zi (tq0 * 64))), some (.long (zl sm)), none, some (.int (zi i)), some (.long (zl z40)), none]) (S' := [.int ((zi (tq0 * 64)) + (zi i)), .ref c45, .long (zl z44), .long (zl sm)]) (L2 := [some (.ref x), some (.int (zi bk)), some (.int (zi x1)), some (.int (zi y1)), some (.int (zi (tq0 * 64))), some (.long (zl sm)), none, some (.int (zi i)), some (.long (zl z40)), none]) (S2 := [.int (zi ((tq0 * 64) + i)), .ref c45, .long (zl z44), .long (zl sm)]) rfl (by simp only [zi_add, zi_sub, zi_mul, zi_neg, zi_and1, zi_and7, zi_and15, zi_and31, zi_and255, zl_add, zl_sub, zl_mul, zl_neg]) (by simp only [zi_add, zi_sub, zi_mul, zi_neg, zi_and1, zi_and7, zi_and15, zi_and31, zi_and255, zl_add, zl_sub, zl_mul, zl_neg]) ?_
          have hl46 : 256 ≤ hq29.2.2.2.1 c45 ∧ hq29.2.2.2.1 c45 ≤ 256 := gJ.rowl (G := gGG) sq29.1 tc45 rfl
          refine gs_ald rfl (by decide) sq29.1 tc45 rfl rfl rfl (by decide) (fun _ => rfl) (by omega) (by omega) (fun z47 ez47 az47 bz47 => ?_)
          refine gy_i2l rfl (by decide) (by omega) ?_
          refine gy_s 1 (pc' := 91) (L' := [some (.ref x), some (.int (zi bk)), some (.int (zi x1)), some (.int (zi y1)), some (.int (zi (tq0 * 64))), some (.long (zl sm)), none, some (.int (zi i)), some (.long (zl z40)), none]) (S' := [.long ((zl z44) * (zl z47)), .long (zl sm)]) (L2 := [some (.ref x), some (.int (zi bk)), some (.int (zi x1)), some (.int (zi y1)), some (.int (zi (tq0 * 64))), some (.long (zl sm)), none, some (.int (zi i)), some (.long (zl z40)), none]) (S2 := [.long (zl (z44 * z47)), .long (zl sm)]) rfl (by simp only [zi_add, zi_sub, zi_mul, zi_neg, zi_and1, zi_and7, zi_and15, zi_and31, zi_and255, zl_add, zl_sub, zl_mul, zl_neg]) (by simp only [zi_add, zi_sub, zi_mul, zi_neg, zi_and1, zi_and7, zi_and15, zi_and31, zi_and255, zl_add, zl_sub, zl_mul, zl_neg]) ?_
          refine gy_lany (fun z48 ez48 az48 bz48 => ?_)
          refine gy_s 1 (pc' := 92) (L' := [some (.ref x), some (.int (zi bk)), some (.int (zi x1)), some (.int (zi y1)), some (.int (zi (tq0 * 64))), some (.long (zl sm)), none, some (.int (zi i)), some (.long (zl z40)), none]) (S' := [.long ((zl sm) + (zl z48))]) (L2 := [some (.ref x), some (.int (zi bk)), some (.int (zi x1)), some (.int (zi y1)), some (.int (zi (tq0 * 64))), some (.long (zl sm)), none, some (.int (zi i)), some (.long (zl z40)), none]) (S2 := [.long (zl (sm + z48))]) rfl (by simp only [zi_add, zi_sub, zi_mul, zi_neg, zi_and1, zi_and7, zi_and15, zi_and31, zi_and255, zl_add, zl_sub, zl_mul, zl_neg]) (by simp only [zi_add, zi_sub, zi_mul, zi_neg, zi_and1, zi_and7, zi_and15, zi_and31, zi_and255, zl_add, zl_sub, zl_mul, zl_neg]) ?_
          refine gy_lany (fun z49 ez49 az49 bz49 => ?_)
          refine gy_s 3 (pc' := 24) (L' := [some (.ref x), some (.int (zi bk)), some (.int (zi x1)), some (.int (zi y1)), some (.int (zi (tq0 * 64))), some (.long (zl z49)), none, some (.int ((zi i) + zi 1)), some (.long (zl z40)), none]) (S' := []) (L2 := [some (.ref x), some (.int (zi bk)), some (.int (zi x1)), some (.int (zi y1)), some (.int (zi (tq0 * 64))), some (.long (zl z49)), none, some (.int (zi (i + 1))), some (.long (zl z40)), none]) (S2 := []) rfl (by simp only [zi_add, zi_sub, zi_mul, zi_neg, zi_and1, zi_and7, zi_and15, zi_and31, zi_and255, zl_add, zl_sub, zl_mul, zl_neg]) (by simp only [zi_add, zi_sub, zi_mul, zi_neg, zi_and1, zi_and7, zi_and15, zi_and31, zi_and255, zl_add, zl_sub, zl_mul, zl_neg]) ?_
          exact gz_wk (ihlp14 hq29 z49 (i + 1) (by omega) sq29 (by omega) (by omega) s30 s31 s32 s33 s34 s35 s36 s37 s38) (gLw.s (gLw.s (gLw.s (gLw.s (gLw.s (gLw.s (gLw.n (gLw.s (gLw.n (gLw.n gLw.z))))))))))
    exact gz_wk (lp14 _ hq1 0 0 (Nat.lt_succ_self _) sq1 (by omega) (by omega) s2 s3 s4 s5 s6 s7 s8 s9 s10) (gLw.s (gLw.s (gLw.s (gLw.s (gLw.s (gLw.s (gLw.n (gLw.s (gLw.n (gLw.n gLw.z))))))))))
  · refine gs_aak (j := 1) rfl (by decide) sq1.1 tbn rfl rfl rfl (by decide) he13 (by decide) s4 ?_
    refine gs_gtk rfl (by decide) rfl sq1.1 tb1 rfl rfl s9 ?_
    refine gy_s 7 (pc' := 24) (L' := [some (.ref x), some (.int (zi bk)), some (.int (zi x1)), some (.int (zi y1)), some (.int ((zi tq1) * (zi 64))), some (.long (zl 0)), none, some (.int (zi 0)), none, none]) (S' := []) (L2 := [some (.ref x), some (.int (zi bk)), some (.int (zi x1)), some (.int (zi y1)), some (.int (zi (tq1 * 64))), some (.long (zl 0)), none, some (.int (zi 0)), none, none]) (S2 := []) rfl (by simp only [zi_add, zi_sub, zi_mul, zi_neg, zi_and1, zi_and7, zi_and15, zi_and31, zi_and255, zl_add, zl_sub, zl_mul, zl_neg]) (by simp only [zi_add, zi_sub, zi_mul, zi_neg, zi_and1, zi_and7, zi_and15, zi_and31, zi_and255, zl_add, zl_sub, zl_mul, zl_neg]) ?_
    have lp50 : ∀ (fu : Nat) (h51 : gH) (sm : Int) (i : Int), (65 - i).toNat < fu → gSs rT 1027 ty [] h h51 → ((-9223372036854775808) ≤ sm ∧ sm ≤ 9223372036854775807) → (0 ≤ i ∧ i ≤ 64) → h51.2.2.2.2 x 0 = .ref bn → h51.2.2.2.2 bn 0 = .ref b0 → h51.2.2.2.2 bn 1 = .ref b1 → h51.2.2.2.2 bn 2 = .ref b2 → h51.2.2.2.2 x 2 = .ref co → h51.2.2.2.2 x 7 = .int (zi cn) → h51.2.2.2.2 b0 3 = .int (zi tq0) → h51.2.2.2.2 b1 3 = .int (zi tq1) → h51.2.2.2.2 b2 3 = .int (zi tq2) → gz gPP gGG gcn (d + 1) gt72 24 [some (.ref x), some (.int (zi bk)), some (.int (zi x1)), some (.int (zi y1)), some (.int (zi (tq1 * 64))), some (.long (zl sm)), none, some (.int (zi i)), none, none] [] h51 (fun q _ => gSs rT 1027 ty [] h q.2.2 ∧ ∃ z : Int, gfin gt72 q.1 q.2.1 = some (some (.long (zl z))) ∧ (-9223372036854775808) ≤ z ∧ z ≤ 9223372036854775807) := by
      intro fu
      induction fu with
      | zero => intro h51 sm i hm; exact absurd hm (Nat.not_lt_zero _)
      | succ fu ihlp50 =>
        intro h51 sm i lp50m sh51 lp50f0 lp50f1 lp50k0 lp50k1 lp50k2 lp50k3 lp50k4 lp50k5 lp50k6 lp50k7 lp50k8
        refine gz_s 2 (pc' := 28) (L' := [some (.ref x), some (.int (zi bk)), some (.int (zi x1)), some (.int (zi y1)), some (.int (zi (tq1 * 64))), some (.long (zl sm)), none, some (.int (zi i)), none, none]) (S' := [.int (zi 64), .int (zi i)]) rfl ?_
        by_cases hc52 : (64 : Int) ≤ i
        · refine gy_icT (pc' := 100) rfl (by decide) (by decide) (by omega) (by omega) hc52 ?_
          refine gz_s 1 (pc' := 102) (L' := [some (.ref x), some (.int (zi bk)), some (.int (zi x1)), some (.int (zi y1)), some (.int (zi (tq1 * 64))), some (.long (zl sm)), none, some (.int (zi i)), none, none]) (S' := [.long (zl sm)]) rfl ?_
          exact gz_end (I := .lreturn) (len := 1) rfl (Or.inl rfl) ⟨sh51, sm, rfl, (by omega), (by omega)⟩
        · refine gy_icF rfl (by decide) (by decide) (by omega) (by omega) hc52 ?_
          refine gz_1 rfl (by decide) rfl rfl (pc' := 34) (S' := [.ref 0]) (h' := h51) rfl ?_
          refine gz_s 1 (pc' := 36) (L' := [some (.ref x), some (.int (zi bk)), some (.int (zi x1)), some (.int (zi y1)), some (.int (zi (tq1 * 64))), some (.long (zl sm)), none, some (.int (zi i)), none, none]) (S' := [.int (zi i), .ref 0]) rfl ?_
          refine gs_st0 rfl (by decide) rfl (gSta.fr sh51.2 (by decide) hyst) (by omega) (by omega) (fun z53 az53 bz53 => ?_)
          refine gy_s 3 (pc' := 41) (L' := [some (.ref x), some (.int (zi bk)), some (.int (zi x1)), some (.int (zi y1)), some (.int (zi (tq1 * 64))), some (.long (zl sm)), none, some (.int (zi i)), none, none]) (S' := [.int (zi x1), .int ((zi z53) &&& (zi 7))]) (L2 := [some (.ref x), some (.int (zi bk)), some (.int (zi x1)), some (.int (zi y1)), some (.int (zi (tq1 * 64))), some (.long (zl sm)), none, some (.int (zi i)), none, none]) (S2 := [.int (zi x1), .int (zi (z53 % 8))]) rfl (by simp only [zi_add, zi_sub, zi_mul, zi_neg, zi_and1, zi_and7, zi_and15, zi_and31, zi_and255, zl_add, zl_sub, zl_mul, zl_neg]) (by simp only [zi_add, zi_sub, zi_mul, zi_neg, zi_and1, zi_and7, zi_and15, zi_and31, zi_and255, zl_add, zl_sub, zl_mul, zl_neg]) ?_
          refine gz_call rfl (by decide) rfl (by decide) (by decide) (gcal_of rfl rfl rfl (Nat.le_of_ble_eq_true rfl) rfl) (cl_DctFilter_cosine _ sh51.1 (z53 % 8) (by omega) x1 (by omega) (gSta.fr sh51.2 (by decide) hyst)) (fun q54 _ wq54 => ?_)
          obtain ⟨pq54, oq54, hq54⟩ := q54
          obtain ⟨xq54, zq54, gq54, aq54, bq54⟩ := wq54
          refine ⟨_, gq54, ?_⟩
          show gz gPP gGG gcn _ _ 44 [some (.ref x), some (.int (zi bk)), some (.int (zi x1)), some (.int (zi y1)), some (.int (zi (tq1 * 64))), some (.long (zl sm)), none, some (.int (zi i)), none, none] [.int (zi zq54)] hq54 _
          have sq54 : gSs rT 1027 ty [] h hq54 := gSs.tr sh51 xq54 (by decide)
          have s55 := (xq54.2.2.2.2.2 x 0 (by rw [tx]; decide)).trans lp50k0
          have s56 := (xq54.2.2.2.2.2 bn 0 (by rw [tbn]; decide)).trans lp50k1
          have s57 := (xq54.2.2.2.2.2 bn 1 (by rw [tbn]; decide)).trans lp50k2
          have s58 := (xq54.2.2.2.2.2 bn 2 (by rw [tbn]; decide)).trans lp50k3
          have s59 := (xq54.2.2.2.2.2 x 2 (by rw [tx]; decide)).trans lp50k4
          have s60 := (xq54.2.2.2.2.2 x 7 (by rw [tx]; decide)).trans lp50k5
          have s61 := (xq54.2.2.2.2.2 b0 3 (by rw [tb0]; decide)).trans lp50k6
          have s62 := (xq54.2.2.2.2.2 b1 3 (by rw [tb1]; decide)).trans lp50k7
          have s63 := (xq54.2.2.2.2.2 b2 3 (by rw [tb2]; decide)).trans lp50k8
          refine gy_i2l rfl (by decide) (by omega) ?_
          refine gz_1 rfl (by decide) rfl rfl (pc' := 48) (S' := [.ref 0, .long (zl zq54)]) (h' := hq54) rfl ?_
          refine gz_s 1 (pc' := 50) (L' := [some (.ref x), some (.int (zi bk)), some (.int (zi x1)), some (.int (zi y1)), some (.int (zi (tq1 * 64))), some (.long (zl sm)), none, some (.int (zi i)), none, none]) (S' := [.int (zi i), .ref 0, .long (zl zq54)]) rfl ?_
          refine gs_st0 rfl (by decide) rfl (gSta.fr sq54.2 (by decide) hyst) (by omega) (by omega) (fun z64 az64 bz64 => ?_)
          refine gz_s 1 (pc' := 52) (L' := [some (.ref x), some (.int (zi bk)), some (.int (zi x1)), some (.int (zi y1)), some (.int (zi (tq1 * 64))), some (.long (zl sm)), none, some (.int (zi i)), none, none]) (S' := [.int (zi 3), .int (zi z64), .long (zl zq54)]) rfl ?_
          refine gy_shc (n := 3) (v := 8) rfl (by decide) (by omega) (by decide) (by decide) rfl ?_
          refine gz_s 1 (pc' := 54) (L' := [some (.ref x), some (.int (zi bk)), some (.int (zi x1)), some (.int (zi y1)), some (.int (zi (tq1 * 64))), some (.long (zl sm)), none, some (.int (zi i)), none, none]) (S' := [.int (zi y1), .int (zi (z64 / 8)), .long (zl zq54)]) rfl ?_
          refine gz_call rfl (by decide) rfl (by decide) (by decide) (gcal_of rfl rfl rfl (Nat.le_of_ble_eq_true rfl) rfl) (cl_DctFilter_cosine _ sq54.1 (z64 / 8) (by omega) y1 (by omega) (gSta.fr sq54.2 (by decide) hyst)) (fun q65 _ wq65 => ?_)
          obtain ⟨pq65, oq65, hq65⟩ := q65
          obtain ⟨xq65, zq65, gq65, aq65, bq65⟩ := wq65
          refine ⟨_, gq65, ?_⟩
          show gz gPP gGG gcn _ _ 57 [some (.ref x), some (.int (zi bk)), some (.int (zi x1)), some (.int (zi y1)), some (.int (zi (tq1 * 64))), some (.long (zl sm)), none, some (.int (zi i)), none, none] [.int (zi zq65), .long (zl zq54)] hq65 _
          have sq65 : gSs rT 1027 ty [] h hq65 := gSs.tr sq54 xq65 (by decide)
          have s66 := (xq65.2.2.2.2.2 x 0 (by rw [tx]; decide)).trans s55
          have s67 := (xq65.2.2.2.2.2 bn 0 (by rw [tbn]; decide)).trans s56
          have s68 := (xq65.2.2.2.2.2 bn 1 (by rw [tbn]; decide)).trans s57
          have s69 := (xq65.2.2.2.2.2 bn 2 (by rw [tbn]; decide)).trans s58
          have s70 := (xq65.2.2.2.2.2 x 2 (by rw [tx]; decide)).trans s59
          have s71 := (xq65.2.2.2.2.2 x 7 (by rw [tx]; decide)).trans s60
          have s72 := (xq65.2.2.2.2.2 b0 3 (by rw [tb0]; decide)).trans s61
          have s73 := (xq65.2.2.2.2.2 b1 3 (by rw [tb1]; decide)).trans s62
          have s74 := (xq65.2.2.2.2.2 b2 3 (by rw [tb2]; decide)).trans s63
          refine gy_i2l rfl (by decide) (by omega) ?_
          have hx75 := zx_s (a := zq54) (b := zq65) (A := 4096) (B := 4096) (by omega) (by omega) (by omega) (by omega)
          refine gy_s 1 (pc' := 59) (L' := [some (.ref x), some (.int (zi bk)), some (.int (zi x1)), some (.int (zi y1)), some (.int (zi (tq1 * 64))), some (.long (zl sm)), none, some (.int (zi i)), none, none]) (S' := [.long ((zl zq54) * (zl zq65))]) (L2 := [some (.ref x), some (.int (zi bk)), some (.int (zi x1)), some (.int (zi y1)), some (.int (zi (tq1 * 64))), some (.long (zl sm)), none, some (.int (zi i)), none, none]) (S2 := [.long (zl (zq54 * zq65))]) rfl (by simp only [zi_add, zi_sub, zi_mul, zi_neg, zi_and1, zi_and7, zi_and15, zi_and31, zi_and255, zl_add, zl_sub, zl_mul, zl_neg]) (by simp only [zi_add, zi_sub, zi_mul, zi_neg, zi_and1, zi_and7, zi_and15, zi_and31, zi_and255, zl_add, zl_sub, zl_mul, zl_neg]) ?_
          refine gy_lany (fun z76 ez76 az76 bz76 => ?_)
          refine gz_s 4 (pc' := 66) (L' := [some (.ref x), some (.int (zi bk)), some (.int (zi x1)), some (.int (zi y1)), some (.int (zi (tq1 * 64))), some (.long (zl sm)), none, some (.int (zi i)), some (.long (zl z76)), none]) (S' := [.ref x, .long (zl z76), .long (zl sm)]) rfl ?_
          refine gs_gtk rfl (by decide) rfl sq65.1 tx rfl rfl s70 ?_
          refine gy_s 5 (pc' := 76) (L' := [some (.ref x), some (.int (zi bk)), some (.int (zi x1)), some (.int (zi y1)), some (.int (zi (tq1 * 64))), some (.long (zl sm)), none, some (.int (zi i)), some (.long (zl z76)), none]) (S' := [.int (((zi bk) * (zi 64)) + (zi i)), .ref co, .long (zl z76), .long (zl sm)]) (L2 := [some (.ref x), some (.int (zi bk)), some (.int (zi x1)), some (.int (zi y1)), some (.int (zi (tq1 * 64))), some (.long (zl sm)), none, some (.int (zi i)), some (.long (zl z76)), none]) (S2 := [.int (zi ((bk * 64) + i)), .ref co, .long (zl z76), .long (zl sm)]) rfl (by simp only [zi_add, zi_sub, zi_mul, zi_neg, zi_and1, zi_and7, zi_and15, zi_and31, zi_and255, zl_add, zl_sub, zl_mul, zl_neg]) (by simp only [zi_add, zi_sub, zi_mul, zi_neg, zi_and1, zi_and7, zi_and15, zi_and31, zi_and255, zl_add, zl_sub, zl_mul, zl_neg]) ?_
          have hl77 : 0 ≤ hq65.2.2.2.1 co ∧ hq65.2.2.2.1 co ≤ 12288 := gJ.rowl (G := gGG) sq65.1 tco rfl
          have hl78 : hq65.2.2.2.1 co = h.2.2.2.1 co := congrFun sq65.2.2.2.2.1 co
          refine gs_ald rfl (by decide) sq65.1 tco rfl rfl rfl (by decide) (fun _ => rfl) (by omega) (by omega) (fun z79 ez79 az79 bz79 => ?_)
          refine gy_i2l rfl (by decide) (by omega) ?_
          refine gy_s 1 (pc' := 79) (L' := [some (.ref x), some (.int (zi bk)), some (.int (zi x1)), some (.int (zi y1)), some (.int (zi (tq1 * 64))), some (.long (zl sm)), none, some (.int (zi i)), some (.long (zl z76)), none]) (S' := [.long ((zl z76) * (zl z79)), .long (zl sm)]) (L2 := [some (.ref x), some (.int (zi bk)), some (.int (zi x1)), some (.int (zi y1)), some (.int (zi (tq1 * 64))), some (.long (zl sm)), none, some (.int (zi i)), some (.long (zl z76)), none]) (S2 := [.long (zl (z76 * z79)), .long (zl sm)]) rfl (by simp only [zi_add, zi_sub, zi_mul, zi_neg, zi_and1, zi_and7, zi_and15, zi_and31, zi_and255, zl_add, zl_sub, zl_mul, zl_neg]) (by simp only [zi_add, zi_sub, zi_mul, zi_neg, zi_and1, zi_and7, zi_and15, zi_and31, zi_and255, zl_add, zl_sub, zl_mul, zl_neg]) ?_
          refine gy_lany (fun z80 ez80 az80 bz80 => ?_)
          refine gz_s 1 (pc' := 80) (L' := [some (.ref x), some (.int (zi bk)), some (.int (zi x1)), some (.int (zi y1)), some (.int (zi (tq1 * 64))), some (.long (zl sm)), none, some (.int (zi i)), some (.long (zl z76)), none]) (S' := [.ref x, .long (zl z80), .long (zl sm)]) rfl ?_
          refine gs_gtr rfl (by decide) rfl sq65.1 tx rfl rfl rfl (fun c81 ec81 tc81 => ?_)
          refine gy_s 3 (pc' := 88) (L' := [some (.ref x), some (.int (zi bk)), some (.int (zi x1)), some (.int (zi y1)), some (.int (zi (tq1 * 64))), some (.long (zl sm)), none, some (.int (zi i)), some (.long (zl z76)), none]) (S' := [.int ((zi (tq1 * 64)) + (zi i)), .ref c81, .long (zl z80), .long (zl sm)]) (L2 := [some (.ref x), some (.int (zi bk)), some (.int (zi x1)), some (.int (zi y1)), some (.int (zi (tq1 * 64))), some (.long (zl sm)), none, some (.int (zi i)), some (.long (zl z76)), none]) (S2 := [.int (zi ((tq1 * 64) + i)), .ref c81, .long (zl z80), .long (zl sm)]) rfl (by simp only [zi_add, zi_sub, zi_mul, zi_neg, zi_and1, zi_and7, zi_and15, zi_and31, zi_and255, zl_add, zl_sub, zl_mul, zl_neg]) (by simp only [zi_add, zi_sub, zi_mul, zi_neg, zi_and1, zi_and7, zi_and15, zi_and31, zi_and255, zl_add, zl_sub, zl_mul, zl_neg]) ?_
          have hl82 : 256 ≤ hq65.2.2.2.1 c81 ∧ hq65.2.2.2.1 c81 ≤ 256 := gJ.rowl (G := gGG) sq65.1 tc81 rfl
          refine gs_ald rfl (by decide) sq65.1 tc81 rfl rfl rfl (by decide) (fun _ => rfl) (by omega) (by omega) (fun z83 ez83 az83 bz83 => ?_)
          refine gy_i2l rfl (by decide) (by omega) ?_
          refine gy_s 1 (pc' := 91) (L' := [some (.ref x), some (.int (zi bk)), some (.int (zi x1)), some (.int (zi y1)), some (.int (zi (tq1 * 64))), some (.long (zl sm)), none, some (.int (zi i)), some (.long (zl z76)), none]) (S' := [.long ((zl z80) * (zl z83)), .long (zl sm)]) (L2 := [some (.ref x), some (.int (zi bk)), some (.int (zi x1)), some (.int (zi y1)), some (.int (zi (tq1 * 64))), some (.long (zl sm)), none, some (.int (zi i)), some (.long (zl z76)), none]) (S2 := [.long (zl (z80 * z83)), .long (zl sm)]) rfl (by simp only [zi_add, zi_sub, zi_mul, zi_neg, zi_and1, zi_and7, zi_and15, zi_and31, zi_and255, zl_add, zl_sub, zl_mul, zl_neg]) (by simp only [zi_add, zi_sub, zi_mul, zi_neg, zi_and1, zi_and7, zi_and15, zi_and31, zi_and255, zl_add, zl_sub, zl_mul, zl_neg]) ?_
          refine gy_lany (fun z84 ez84 az84 bz84 => ?_)
          refine gy_s 1 (pc' := 92) (L' := [some (.ref x), some (.int (zi bk)), some (.int (zi x1)), some (.int (zi y1)), some (.int (zi (tq1 * 64))), some (.long (zl sm)), none, some (.int (zi i)), some (.long (zl z76)), none]) (S' := [.long ((zl sm) + (zl z84))]) (L2 := [some (.ref x), some (.int (zi bk)), some (.int (zi x1)), some (.int (zi y1)), some (.int (zi (tq1 * 64))), some (.long (zl sm)), none, some (.int (zi i)), some (.long (zl z76)), none]) (S2 := [.long (zl (sm + z84))]) rfl (by simp only [zi_add, zi_sub, zi_mul, zi_neg, zi_and1, zi_and7, zi_and15, zi_and31, zi_and255, zl_add, zl_sub, zl_mul, zl_neg]) (by simp only [zi_add, zi_sub, zi_mul, zi_neg, zi_and1, zi_and7, zi_and15, zi_and31, zi_and255, zl_add, zl_sub, zl_mul, zl_neg]) ?_
          refine gy_lany (fun z85 ez85 az85 bz85 => ?_)
          refine gy_s 3 (pc' := 24) (L' := [some (.ref x), some (.int (zi bk)), some (.int (zi x1)), some (.int (zi y1)), some (.int (zi (tq1 * 64))), some (.long (zl z85)), none, some (.int ((zi i) + zi 1)), some (.long (zl z76)), none]) (S' := []) (L2 := [some (.ref x), some (.int (zi bk)), some (.int (zi x1)), some (.int (zi y1)), some (.int (zi (tq1 * 64))), some (.long (zl z85)), none, some (.int (zi (i + 1))), some (.long (zl z76)), none]) (S2 := []) rfl (by simp only [zi_add, zi_sub, zi_mul, zi_neg, zi_and1, zi_and7, zi_and15, zi_and31, zi_and255, zl_add, zl_sub, zl_mul, zl_neg]) (by simp only [zi_add, zi_sub, zi_mul, zi_neg, zi_and1, zi_and7, zi_and15, zi_and31, zi_and255, zl_add, zl_sub, zl_mul, zl_neg]) ?_
          exact gz_wk (ihlp50 hq65 z85 (i + 1) (by omega) sq65 (by omega) (by omega) s66 s67 s68 s69 s70 s71 s72 s73 s74) (gLw.s (gLw.s (gLw.s (gLw.s (gLw.s (gLw.s (gLw.n (gLw.s (gLw.n (gLw.n gLw.z))))))))))
    exact gz_wk (lp50 _ hq1 0 0 (Nat.lt_succ_self _) sq1 (by omega) (by omega) s2 s3 s4 s5 s6 s7 s8 s9 s10) (gLw.s (gLw.s (gLw.s (gLw.s (gLw.s (gLw.s (gLw.n (gLw.s (gLw.n (gLw.n gLw.z))))))))))
  · refine gs_aak (j := 2) rfl (by decide) sq1.1 tbn rfl rfl rfl (by decide) he13 (by decide) s5 ?_
    refine gs_gtk rfl (by decide) rfl sq1.1 tb2 rfl rfl s10 ?_
    refine gy_s 7 (pc' := 24) (L' := [some (.ref x), some (.int (zi bk)), some (.int (zi x1)), some (.int (zi y1)), some (.int ((zi tq2) * (zi 64))), some (.long (zl 0)), none, some (.int (zi 0)), none, none]) (S' := []) (L2 := [some (.ref x), some (.int (zi bk)), some (.int (zi x1)), some (.int (zi y1)), some (.int (zi (tq2 * 64))), some (.long (zl 0)), none, some (.int (zi 0)), none, none]) (S2 := []) rfl (by simp only [zi_add, zi_sub, zi_mul, zi_neg, zi_and1, zi_and7, zi_and15, zi_and31, zi_and255, zl_add, zl_sub, zl_mul, zl_neg]) (by simp only [zi_add, zi_sub, zi_mul, zi_neg, zi_and1, zi_and7, zi_and15, zi_and31, zi_and255, zl_add, zl_sub, zl_mul, zl_neg]) ?_
    have lp86 : ∀ (fu : Nat) (h87 : gH) (sm : Int) (i : Int), (65 - i).toNat < fu → gSs rT 1027 ty [] h h87 → ((-9223372036854775808) ≤ sm ∧ sm ≤ 9223372036854775807) → (0 ≤ i ∧ i ≤ 64) → h87.2.2.2.2 x 0 = .ref bn → h87.2.2.2.2 bn 0 = .ref b0 → h87.2.2.2.2 bn 1 = .ref b1 → h87.2.2.2.2 bn 2 = .ref b2 → h87.2.2.2.2 x 2 = .ref co → h87.2.2.2.2 x 7 = .int (zi cn) → h87.2.2.2.2 b0 3 = .int (zi tq0) → h87.2.2.2.2 b1 3 = .int (zi tq1) → h87.2.2.2.2 b2 3 = .int (zi tq2) → gz gPP gGG gcn (d + 1) gt72 24 [some (.ref x), some (.int (zi bk)), some (.int (zi x1)), some (.int (zi y1)), some (.int (zi (tq2 * 64))), some (.long (zl sm)), none, some (.int (zi i)), none, none] [] h87 (fun q _ => gSs rT 1027 ty [] h q.2.2 ∧ ∃ z : Int, gfin gt72 q.1 q.2.1 = some (some (.long (zl z))) ∧ (-9223372036854775808) ≤ z ∧ z ≤ 9223372036854775807) := by
      intro fu
      induction fu with
      | zero => intro h87 sm i hm; exact absurd hm (Nat.not_lt_zero _)
      | succ fu ihlp86 =>
        intro h87 sm i lp86m sh87 lp86f0 lp86f1 lp86k0 lp86k1 lp86k2 lp86k3 lp86k4 lp86k5 lp86k6 lp86k7 lp86k8
        refine gz_s 2 (pc' := 28) (L' := [some (.ref x), some (.int (zi bk)), some (.int (zi x1)), some (.int (zi y1)), some (.int (zi (tq2 * 64))), some (.long (zl sm)), none, some (.int (zi i)), none, none]) (S' := [.int (zi 64), .int (zi i)]) rfl ?_
        by_cases hc88 : (64 : Int) ≤ i
        · refine gy_icT (pc' := 100) rfl (by decide) (by decide) (by omega) (by omega) hc88 ?_
          refine gz_s 1 (pc' := 102) (L' := [some (.ref x), some (.int (zi bk)), some (.int (zi x1)), some (.int (zi y1)), some (.int (zi (tq2 * 64))), some (.long (zl sm)), none, some (.int (zi i)), none, none]) (S' := [.long (zl sm)]) rfl ?_
          exact gz_end (I := .lreturn) (len := 1) rfl (Or.inl rfl) ⟨sh87, sm, rfl, (by omega), (by omega)⟩
        · refine gy_icF rfl (by decide) (by decide) (by omega) (by omega) hc88 ?_
          refine gz_1 rfl (by decide) rfl rfl (pc' := 34) (S' := [.ref 0]) (h' := h87) rfl ?_
          refine gz_s 1 (pc' := 36) (L' := [some (.ref x), some (.int (zi bk)), some (.int (zi x1)), some (.int (zi y1)), some (.int (zi (tq2 * 64))), some (.long (zl sm)), none, some (.int (zi i)), none, none]) (S' := [.int (zi i), .ref 0]) rfl ?_
          refine gs_st0 rfl (by decide) rfl (gSta.fr sh87.2 (by decide) hyst) (by omega) (by omega) (fun z89 az89 bz89 => ?_)
          refine gy_s 3 (pc' := 41) (L' := [some (.ref x), some (.int (zi bk)), some (.int (zi x1)), some (.int (zi y1)), some (.int (zi (tq2 * 64))), some (.long (zl sm)), none, some (.int (zi i)), none, none]) (S' := [.int (zi x1), .int ((zi z89) &&& (zi 7))]) (L2 := [some (.ref x), some (.int (zi bk)), some (.int (zi x1)), some (.int (zi y1)), some (.int (zi (tq2 * 64))), some (.long (zl sm)), none, some (.int (zi i)), none, none]) (S2 := [.int (zi x1), .int (zi (z89 % 8))]) rfl (by simp only [zi_add, zi_sub, zi_mul, zi_neg, zi_and1, zi_and7, zi_and15, zi_and31, zi_and255, zl_add, zl_sub, zl_mul, zl_neg]) (by simp only [zi_add, zi_sub, zi_mul, zi_neg, zi_and1, zi_and7, zi_and15, zi_and31, zi_and255, zl_add, zl_sub, zl_mul, zl_neg]) ?_
          refine gz_call rfl (by decide) rfl (by decide) (by decide) (gcal_of rfl rfl rfl (Nat.le_of_ble_eq_true rfl) rfl) (cl_DctFilter_cosine _ sh87.1 (z89 % 8) (by omega) x1 (by omega) (gSta.fr sh87.2 (by decide) hyst)) (fun q90 _ wq90 => ?_)
          obtain ⟨pq90, oq90, hq90⟩ := q90
          obtain ⟨xq90, zq90, gq90, aq90, bq90⟩ := wq90
          refine ⟨_, gq90, ?_⟩
          show gz gPP gGG gcn _ _ 44 [some (.ref x), some (.int (zi bk)), some (.int (zi x1)), some (.int (zi y1)), some (.int (zi (tq2 * 64))), some (.long (zl sm)), none, some (.int (zi i)), none, none] [.int (zi zq90)] hq90 _
          have sq90 : gSs rT 1027 ty [] h hq90 := gSs.tr sh87 xq90 (by decide)
          have s91 := (xq90.2.2.2.2.2 x 0 (by rw [tx]; decide)).trans lp86k0
          have s92 := (xq90.2.2.2.2.2 bn 0 (by rw [tbn]; decide)).trans lp86k1
          have s93 := (xq90.2.2.2.2.2 bn 1 (by rw [tbn]; decide)).trans lp86k2
          have s94 := (xq90.2.2.2.2.2 bn 2 (by rw [tbn]; decide)).trans lp86k3
          have s95 := (xq90.2.2.2.2.2 x 2 (by rw [tx]; decide)).trans lp86k4
          have s96 := (xq90.2.2.2.2.2 x 7 (by rw [tx]; decide)).trans lp86k5
          have s97 := (xq90.2.2.2.2.2 b0 3 (by rw [tb0]; decide)).trans lp86k6
          have s98 := (xq90.2.2.2.2.2 b1 3 (by rw [tb1]; decide)).trans lp86k7
          have s99 := (xq90.2.2.2.2.2 b2 3 (by rw [tb2]; decide)).trans lp86k8
          refine gy_i2l rfl (by decide) (by omega) ?_
          refine gz_1 rfl (by decide) rfl rfl (pc' := 48) (S' := [.ref 0, .long (zl zq90)]) (h' := hq90) rfl ?_
          refine gz_s 1 (pc' := 50) (L' := [some (.ref x), some (.int (zi bk)), some (.int (zi x1)), some (.int (zi y1)), some (.int (zi (tq2 * 64))), some (.long (zl sm)), none, some (.int (zi i)), none, none]) (S' := [.int (zi i), .ref 0, .long (zl zq90)]) rfl ?_
          refine gs_st0 rfl (by decide) rfl (gSta.fr sq90.2 (by decide) hyst) (by omega) (by omega) (fun z100 az100 bz100 => ?_)
          refine gz_s 1 (pc' := 52) (L' := [some (.ref x), some (.int (zi bk)), some (.int (zi x1)), some (.int (zi y1)), some (.int (zi (tq2 * 64))), some (.long (zl sm)), none, some (.int (zi i)), none, none]) (S' := [.int (zi 3), .int (zi z100), .long (zl zq90)]) rfl ?_
          refine gy_shc (n := 3) (v := 8) rfl (by decide) (by omega) (by decide) (by decide) rfl ?_
          refine gz_s 1 (pc' := 54) (L' := [some (.ref x), some (.int (zi bk)), some (.int (zi x1)), some (.int (zi y1)), some (.int (zi (tq2 * 64))), some (.long (zl sm)), none, some (.int (zi i)), none, none]) (S' := [.int (zi y1), .int (zi (z100 / 8)), .long (zl zq90)]) rfl ?_
          refine gz_call rfl (by decide) rfl (by decide) (by decide) (gcal_of rfl rfl rfl (Nat.le_of_ble_eq_true rfl) rfl) (cl_DctFilter_cosine _ sq90.1 (z100 / 8) (by omega) y1 (by omega) (gSta.fr sq90.2 (by decide) hyst)) (fun q101 _ wq101 => ?_)
          obtain ⟨pq101, oq101, hq101⟩ := q101
          obtain ⟨xq101, zq101, gq101, aq101, bq101⟩ := wq101
          refine ⟨_, gq101, ?_⟩
          show gz gPP gGG gcn _ _ 57 [some (.ref x), some (.int (zi bk)), some (.int (zi x1)), some (.int (zi y1)), some (.int (zi (tq2 * 64))), some (.long (zl sm)), none, some (.int (zi i)), none, none] [.int (zi zq101), .long (zl zq90)] hq101 _
          have sq101 : gSs rT 1027 ty [] h hq101 := gSs.tr sq90 xq101 (by decide)
          have s102 := (xq101.2.2.2.2.2 x 0 (by rw [tx]; decide)).trans s91
          have s103 := (xq101.2.2.2.2.2 bn 0 (by rw [tbn]; decide)).trans s92
          have s104 := (xq101.2.2.2.2.2 bn 1 (by rw [tbn]; decide)).trans s93
          have s105 := (xq101.2.2.2.2.2 bn 2 (by rw [tbn]; decide)).trans s94
          have s106 := (xq101.2.2.2.2.2 x 2 (by rw [tx]; decide)).trans s95
          have s107 := (xq101.2.2.2.2.2 x 7 (by rw [tx]; decide)).trans s96
          have s108 := (xq101.2.2.2.2.2 b0 3 (by rw [tb0]; decide)).trans s97
          have s109 := (xq101.2.2.2.2.2 b1 3 (by rw [tb1]; decide)).trans s98
          have s110 := (xq101.2.2.2.2.2 b2 3 (by rw [tb2]; decide)).trans s99
          refine gy_i2l rfl (by decide) (by omega) ?_
          have hx111 := zx_s (a := zq90) (b := zq101) (A := 4096) (B := 4096) (by omega) (by omega) (by omega) (by omega)
          refine gy_s 1 (pc' := 59) (L' := [some (.ref x), some (.int (zi bk)), some (.int (zi x1)), some (.int (zi y1)), some (.int (zi (tq2 * 64))), some (.long (zl sm)), none, some (.int (zi i)), none, none]) (S' := [.long ((zl zq90) * (zl zq101))]) (L2 := [some (.ref x), some (.int (zi bk)), some (.int (zi x1)), some (.int (zi y1)), some (.int (zi (tq2 * 64))), some (.long (zl sm)), none, some (.int (zi i)), none, none]) (S2 := [.long (zl (zq90 * zq101))]) rfl (by simp only [zi_add, zi_sub, zi_mul, zi_neg, zi_and1, zi_and7, zi_and15, zi_and31, zi_and255, zl_add, zl_sub, zl_mul, zl_neg]) (by simp only [zi_add, zi_sub, zi_mul, zi_neg, zi_and1, zi_and7, zi_and15, zi_and31, zi_and255, zl_add, zl_sub, zl_mul, zl_neg]) ?_
          refine gy_lany (fun z112 ez112 az112 bz112 => ?_)
          refine gz_s 4 (pc' := 66) (L' := [some (.ref x), some (.int (zi bk)), some (.int (zi x1)), some (.int (zi y1)), some (.int (zi (tq2 * 64))), some (.long (zl sm)), none, some (.int (zi i)), some (.long (zl z112)), none]) (S' := [.ref x, .long (zl z112), .long (zl sm)]) rfl ?_
          refine gs_gtk rfl (by decide) rfl sq101.1 tx rfl rfl s106 ?_
          refine gy_s 5 (pc' := 76) (L' := [some (.ref x), some (.int (zi bk)), some (.int (zi x1)), some (.int (zi y1)), some (.int (zi (tq2 * 64))), some (.long (zl sm)), none, some (.int (zi i)), some (.long (zl z112)), none]) (S' := [.int (((zi bk) * (zi 64)) + (zi i)), .ref co, .long (zl z112), .long (zl sm)]) (L2 := [some (.ref x), some (.int (zi bk)), some (.int (zi x1)), some (.int (zi y1)), some (.int (zi (tq2 * 64))), some (.long (zl sm)), none, some (.int (zi i)), some (.long (zl z112)), none]) (S2 := [.int (zi ((bk * 64) + i)), .ref co, .long (zl z112), .long (zl sm)]) rfl (by simp only [zi_add, zi_sub, zi_mul, zi_neg, zi_and1, zi_and7, zi_and15, zi_and31, zi_and255, zl_add, zl_sub, zl_mul, zl_neg]) (by simp only [zi_add, zi_sub, zi_mul, zi_neg, zi_and1, zi_and7, zi_and15, zi_and31, zi_and255, zl_add, zl_sub, zl_mul, zl_neg]) ?_
          have hl113 : 0 ≤ hq101.2.2.2.1 co ∧ hq101.2.2.2.1 co ≤ 12288 := gJ.rowl (G := gGG) sq101.1 tco rfl
          have hl114 : hq101.2.2.2.1 co = h.2.2.2.1 co := congrFun sq101.2.2.2.2.1 co
          refine gs_ald rfl (by decide) sq101.1 tco rfl rfl rfl (by decide) (fun _ => rfl) (by omega) (by omega) (fun z115 ez115 az115 bz115 => ?_)
          refine gy_i2l rfl (by decide) (by omega) ?_
          refine gy_s 1 (pc' := 79) (L' := [some (.ref x), some (.int (zi bk)), some (.int (zi x1)), some (.int (zi y1)), some (.int (zi (tq2 * 64))), some (.long (zl sm)), none, some (.int (zi i)), some (.long (zl z112)), none]) (S' := [.long ((zl z112) * (zl z115)), .long (zl sm)]) (L2 := [some (.ref x), some (.int (zi bk)), some (.int (zi x1)), some (.int (zi y1)), some (.int (zi (tq2 * 64))), some (.long (zl sm)), none, some (.int (zi i)), some (.long (zl z112)), none]) (S2 := [.long (zl (z112 * z115)), .long (zl sm)]) rfl (by simp only [zi_add, zi_sub, zi_mul, zi_neg, zi_and1, zi_and7, zi_and15, zi_and31, zi_and255, zl_add, zl_sub, zl_mul, zl_neg]) (by simp only [zi_add, zi_sub, zi_mul, zi_neg, zi_and1, zi_and7, zi_and15, zi_and31, zi_and255, zl_add, zl_sub, zl_mul, zl_neg]) ?_
          refine gy_lany (fun z116 ez116 az116 bz116 => ?_)
          refine gz_s 1 (pc' := 80) (L' := [some (.ref x), some (.int (zi bk)), some (.int (zi x1)), some (.int (zi y1)), some (.int (zi (tq2 * 64))), some (.long (zl sm)), none, some (.int (zi i)), some (.long (zl z112)), none]) (S' := [.ref x, .long (zl z116), .long (zl sm)]) rfl ?_
          refine gs_gtr rfl (by decide) rfl sq101.1 tx rfl rfl rfl (fun c117 ec117 tc117 => ?_)
          refine gy_s 3 (pc' := 88) (L' := [some (.ref x), some (.int (zi bk)), some (.int (zi x1)), some (.int (zi y1)), some (.int (zi (tq2 * 64))), some (.long (zl sm)), none, some (.int (zi i)), some (.long (zl z112)), none]) (S' := [.int ((zi (tq2 * 64)) + (zi i)), .ref c117, .long (zl z116), .long (zl sm)]) (L2 := [some (.ref x), some (.int (zi bk)), some (.int (zi x1)), some (.int (zi y1)), some (.int (zi (tq2 * 64))), some (.long (zl sm)), none, some (.int (zi i)), some (.long (zl z112)), none]) (S2 := [.int (zi ((tq2 * 64) + i)), .ref c117, .long (zl z116), .long (zl sm)]) rfl (by simp only [zi_add, zi_sub, zi_mul, zi_neg, zi_and1, zi_and7, zi_and15, zi_and31, zi_and255, zl_add, zl_sub, zl_mul, zl_neg]) (by simp only [zi_add, zi_sub, zi_mul, zi_neg, zi_and1, zi_and7, zi_and15, zi_and31, zi_and255, zl_add, zl_sub, zl_mul, zl_neg]) ?_
          have hl118 : 256 ≤ hq101.2.2.2.1 c117 ∧ hq101.2.2.2.1 c117 ≤ 256 := gJ.rowl (G := gGG) sq101.1 tc117 rfl
          refine gs_ald rfl (by decide) sq101.1 tc117 rfl rfl rfl (by decide) (fun _ => rfl) (by omega) (by omega) (fun z119 ez119 az119 bz119 => ?_)
          refine gy_i2l rfl (by decide) (by omega) ?_
          refine gy_s 1 (pc' := 91) (L' := [some (.ref x), some (.int (zi bk)), some (.int (zi x1)), some (.int (zi y1)), some (.int (zi (tq2 * 64))), some (.long (zl sm)), none, some (.int (zi i)), some (.long (zl z112)), none]) (S' := [.long ((zl z116) * (zl z119)), .long (zl sm)]) (L2 := [some (.ref x), some (.int (zi bk)), some (.int (zi x1)), some (.int (zi y1)), some (.int (zi (tq2 * 64))), some (.long (zl sm)), none, some (.int (zi i)), some (.long (zl z112)), none]) (S2 := [.long (zl (z116 * z119)), .long (zl sm)]) rfl (by simp only [zi_add, zi_sub, zi_mul, zi_neg, zi_and1, zi_and7, zi_and15, zi_and31, zi_and255, zl_add, zl_sub, zl_mul, zl_neg]) (by simp only [zi_add, zi_sub, zi_mul, zi_neg, zi_and1, zi_and7, zi_and15, zi_and31, zi_and255, zl_add, zl_sub, zl_mul, zl_neg]) ?_
          refine gy_lany (fun z120 ez120 az120 bz120 => ?_)
          refine gy_s 1 (pc' := 92) (L' := [some (.ref x), some (.int (zi bk)), some (.int (zi x1)), some (.int (zi y1)), some (.int (zi (tq2 * 64))), some (.long (zl sm)), none, some (.int (zi i)), some (.long (zl z112)), none]) (S' := [.long ((zl sm) + (zl z120))]) (L2 := [some (.ref x), some (.int (zi bk)), some (.int (zi x1)), some (.int (zi y1)), some (.int (zi (tq2 * 64))), some (.long (zl sm)), none, some (.int (zi i)), some (.long (zl z112)), none]) (S2 := [.long (zl (sm + z120))]) rfl (by simp only [zi_add, zi_sub, zi_mul, zi_neg, zi_and1, zi_and7, zi_and15, zi_and31, zi_and255, zl_add, zl_sub, zl_mul, zl_neg]) (by simp only [zi_add, zi_sub, zi_mul, zi_neg, zi_and1, zi_and7, zi_and15, zi_and31, zi_and255, zl_add, zl_sub, zl_mul, zl_neg]) ?_
          refine gy_lany (fun z121 ez121 az121 bz121 => ?_)
          refine gy_s 3 (pc' := 24) (L' := [some (.ref x), some (.int (zi bk)), some (.int (zi x1)), some (.int (zi y1)), some (.int (zi (tq2 * 64))), some (.long (zl z121)), none, some (.int ((zi i) + zi 1)), some (.long (zl z112)), none]) (S' := []) (L2 := [some (.ref x), some (.int (zi bk)), some (.int (zi x1)), some (.int (zi y1)), some (.int (zi (tq2 * 64))), some (.long (zl z121)), none, some (.int (zi (i + 1))), some (.long (zl z112)), none]) (S2 := []) rfl (by simp only [zi_add, zi_sub, zi_mul, zi_neg, zi_and1, zi_and7, zi_and15, zi_and31, zi_and255, zl_add, zl_sub, zl_mul, zl_neg]) (by simp only [zi_add, zi_sub, zi_mul, zi_neg, zi_and1, zi_and7, zi_and15, zi_and31, zi_and255, zl_add, zl_sub, zl_mul, zl_neg]) ?_
          exact gz_wk (ihlp86 hq101 z121 (i + 1) (by omega) sq101 (by omega) (by omega) s102 s103 s104 s105 s106 s107 s108 s109 s110) (gLw.s (gLw.s (gLw.s (gLw.s (gLw.s (gLw.s (gLw.n (gLw.s (gLw.n (gLw.n gLw.z))))))))))
    exact gz_wk (lp86 _ hq1 0 0 (Nat.lt_succ_self _) sq1 (by omega) (by omega) s2 s3 s4 s5 s6 s7 s8 s9 s10) (gLw.s (gLw.s (gLw.s (gLw.s (gLw.s (gLw.s (gLw.n (gLw.s (gLw.n (gLw.n gLw.z))))))))))
set_option maxRecDepth 20000 in
set_option maxHeartbeats 4000000 in
theorem cl_Picture_sampleAt (d : Nat) {ty : Nat → Nat} {h : gH} (hJ : gJ rT 1027 ty h) (x : Nat) (tx : ty x = 54) (n : Int) (rn : 0 ≤ n ∧ n ≤ 2) (x1 : Int) (rx1 : 0 ≤ x1 ∧ x1 ≤ 63) (y1 : Int) (ry1 : 0 ≤ y1 ∧ y1 ≤ 63) (bn : Nat) (ebn : h.2.2.2.2 x 0 = .ref bn) (tbn : ty bn = 57) (b0 : Nat) (eb0 : h.2.2.2.2 bn 0 = .ref b0) (tb0 : ty b0 = 82) (b1 : Nat) (eb1 : h.2.2.2.2 bn 1 = .ref b1) (tb1 : ty b1 = 83) (b2 : Nat) (eb2 : h.2.2.2.2 bn 2 = .ref b2) (tb2 : ty b2 = 84) (co : Nat) (eco : h.2.2.2.2 x 2 = .ref co) (tco : ty co = 112) (hyst : gSta ty h) (cn : Int) (ecn : h.2.2.2.2 x 7 = .int (zi cn)) (rcn : 0 ≤ cn ∧ cn ≤ 3) (uc : Int) (euc : h.2.2.2.2 x 12 = .int (zi uc)) (ruc : 0 ≤ uc ∧ uc ≤ 8) (ur : Int) (eur : h.2.2.2.2 x 13 = .int (zi ur)) (rur : 0 ≤ ur ∧ ur ≤ 8) (bl : Int) (ebl : h.2.2.2.2 x 8 = .int (zi bl)) (rbl : 0 ≤ bl ∧ bl ≤ 192) (w : Int) (ew : h.2.2.2.2 x 5 = .int (zi w)) (rw : 0 ≤ w ∧ w ≤ 64) (hh : Int) (ehh : h.2.2.2.2 x 6 = .int (zi hh)) (rhh : 0 ≤ hh ∧ hh ≤ 64) (gh : Int) (egh : h.2.2.2.2 x 10 = .int (zi gh)) (rgh : 1 ≤ gh ∧ gh ≤ 2) (gv : Int) (egv : h.2.2.2.2 x 11 = .int (zi gv)) (rgv : 1 ≤ gv ∧ gv ≤ 2) (hb0 : Int) (ehb0 : h.2.2.2.2 b0 1 = .int (zi hb0)) (rhb0 : (-1) ≤ hb0 ∧ hb0 ≤ 15) (vb0 : Int) (evb0 : h.2.2.2.2 b0 2 = .int (zi vb0)) (rvb0 : 0 ≤ vb0 ∧ vb0 ≤ 15) (C0 : Int) (eC0 : h.2.2.2.2 b0 4 = .int (zi C0)) (rC0 : 0 ≤ C0 ∧ C0 ≤ 16) (R0 : Int) (eR0 : h.2.2.2.2 b0 5 = .int (zi R0)) (rR0 : 0 ≤ R0 ∧ R0 ≤ 16) (oc0 : Int) (eoc0 : h.2.2.2.2 b0 6 = .int (zi oc0)) (roc0 : 0 ≤ oc0 ∧ oc0 ≤ 16) (or0 : Int) (eor0 : h.2.2.2.2 b0 7 = .int (zi or0)) (ror0 : 0 ≤ or0 ∧ or0 ≤ 16) (f0 : Int) (ef0 : h.2.2.2.2 b0 8 = .int (zi f0)) (rf0 : 0 ≤ f0 ∧ f0 ≤ 192) (hb1 : Int) (ehb1 : h.2.2.2.2 b1 1 = .int (zi hb1)) (rhb1 : (-1) ≤ hb1 ∧ hb1 ≤ 15) (vb1 : Int) (evb1 : h.2.2.2.2 b1 2 = .int (zi vb1)) (rvb1 : 0 ≤ vb1 ∧ vb1 ≤ 15) (C1 : Int) (eC1 : h.2.2.2.2 b1 4 = .int (zi C1)) (rC1 : 0 ≤ C1 ∧ C1 ≤ 16) (R1 : Int) (eR1 : h.2.2.2.2 b1 5 = .int (zi R1)) (rR1 : 0 ≤ R1 ∧ R1 ≤ 16) (oc1 : Int) (eoc1 : h.2.2.2.2 b1 6 = .int (zi oc1)) (roc1 : 0 ≤ oc1 ∧ oc1 ≤ 16) (or1 : Int) (eor1 : h.2.2.2.2 b1 7 = .int (zi or1)) (ror1 : 0 ≤ or1 ∧ or1 ≤ 16) (f1 : Int) (ef1 : h.2.2.2.2 b1 8 = .int (zi f1)) (rf1 : 0 ≤ f1 ∧ f1 ≤ 192) (hb2 : Int) (ehb2 : h.2.2.2.2 b2 1 = .int (zi hb2)) (rhb2 : (-1) ≤ hb2 ∧ hb2 ≤ 15) (vb2 : Int) (evb2 : h.2.2.2.2 b2 2 = .int (zi vb2)) (rvb2 : 0 ≤ vb2 ∧ vb2 ≤ 15) (C2 : Int) (eC2 : h.2.2.2.2 b2 4 = .int (zi C2)) (rC2 : 0 ≤ C2 ∧ C2 ≤ 16) (R2 : Int) (eR2 : h.2.2.2.2 b2 5 = .int (zi R2)) (rR2 : 0 ≤ R2 ∧ R2 ≤ 16) (oc2 : Int) (eoc2 : h.2.2.2.2 b2 6 = .int (zi oc2)) (roc2 : 0 ≤ oc2 ∧ oc2 ≤ 16) (or2 : Int) (eor2 : h.2.2.2.2 b2 7 = .int (zi or2)) (ror2 : 0 ≤ or2 ∧ or2 ≤ 16) (f2 : Int) (ef2 : h.2.2.2.2 b2 8 = .int (zi f2)) (rf2 : 0 ≤ f2 ∧ f2 ≤ 192) (tq0 : Int) (etq0 : h.2.2.2.2 b0 3 = .int (zi tq0)) (rtq0 : (-1) ≤ tq0 ∧ tq0 ≤ 255) (tq1 : Int) (etq1 : h.2.2.2.2 b1 3 = .int (zi tq1)) (rtq1 : (-1) ≤ tq1 ∧ tq1 ≤ 255) (tq2 : Int) (etq2 : h.2.2.2.2 b2 3 = .int (zi tq2)) (rtq2 : (-1) ≤ tq2 ∧ tq2 ≤ 255) (pp0 : n < cn) (pp1 : x1 < w) (pp2 : y1 < hh) (pp3 : bl * 64 ≤ (h.2.2.2.1 co : Int)) (uq : gUq ty) (hypq0 : 0 < cn → gPq uc ur hb0 vb0 C0 R0 oc0 or0 f0 bl) (hypq1 : 1 < cn → gPq uc ur hb1 vb1 C1 R1 oc1 or1 f1 bl) (hypq2 : 2 < cn → gPq uc ur hb2 vb2 C2 R2 oc2 or2 f2 bl) (hypx0 : 0 < cn → (hb0 ≤ gh ∧ vb0 ≤ gv ∧ 0 ≤ tq0 ∧ tq0 ≤ 3)) (hypx1 : 1 < cn → (hb1 ≤ gh ∧ vb1 ≤ gv ∧ 0 ≤ tq1 ∧ tq1 ≤ 3)) (hypx2 : 2 < cn → (hb2 ≤ gh ∧ vb2 ≤ gv ∧ 0 ≤ tq2 ∧ tq2 ≤ 3)) (hypu : 0 < cn → (uc = zup w (8 * gh) ∧ ur = zup hh (8 * gv) ∧ 1 ≤ w ∧ 1 ≤ hh)) : gz gPP gGG gcn (d + 2) gt71 0 (gent [.ref x, .int (zi n), .int (zi x1), .int (zi y1)] 10) [] h (fun q _ => gSs rT 1027 ty [] h q.2.2 ∧ ∃ z : Int, gfin gt71 q.1 q.2.1 = some (some (.int (zi z))) ∧ (-2147483648) ≤ z ∧ z ≤ 2147483647) := by
  have hS : gSs rT 1027 ty [] h h := gSs.rf hJ
  refine gz_s 1 (pc' := 1) (L' := [some (.ref x), some (.int (zi n)), some (.int (zi x1)), some (.int (zi y1)), none, none, none, none, none, none]) (S' := [.ref x]) rfl ?_
  refine gs_gtk rfl (by decide) rfl hS.1 tx rfl rfl ebn ?_
  refine gz_s 1 (pc' := 5) (L' := [some (.ref x), some (.int (zi n)), some (.int (zi x1)), some (.int (zi y1)), none, none, none, none, none, none]) (S' := [.int (zi n), .ref bn]) rfl ?_
  rcases (by omega : n = 0 ∨ n = 1 ∨ n = 2) with he3 | he3 | he3
  · refine gs_aak (j := 0) rfl (by decide) hS.1 tbn rfl rfl rfl (by decide) he3 (by decide) eb0 ?_
    refine gz_s 1 (pc' := 8) (L' := [some (.ref x), some (.int (zi n)), some (.int (zi x1)), some (.int (zi y1)), some (.ref b0), none, none, none, none, none]) (S' := []) rfl ?_
    have hq4 := hypq0 (by omega)
    obtain ⟨k0_0, k0_1, k0_2, k0_3, k0_4, k0_5, k0_6, k0_7, k0_8, k0_9, k0_10, k0_11, k0_12, k0_13, k0_14, k0_15, k0_16, k0_17, k0_18⟩ := hq4
    have kx0 := hypx0 (by omega)
    have ku := hypu (by omega)
    refine gz_s 2 (pc' := 11) (L' := [some (.ref x), some (.int (zi n)), some (.int (zi x1)), some (.int (zi y1)), some (.ref b0), none, none, none, none, none]) (S' := [.ref b0, .int (zi x1)]) rfl ?_
    refine gs_gtk rfl (by decide) rfl hS.1 tb0 rfl rfl ehb0 ?_
    have hx5 := zx_f (a := x1) (b := hb0) (A := 63) (B := 2) (by omega) (by omega) (by omega) (by omega)
    refine gy_s 2 (pc' := 16) (L' := [some (.ref x), some (.int (zi n)), some (.int (zi x1)), some (.int (zi y1)), some (.ref b0), none, none, none, none, none]) (S' := [.ref x, .int ((zi x1) * (zi hb0))]) (L2 := [some (.ref x), some (.int (zi n)), some (.int (zi x1)), some (.int (zi y1)), some (.ref b0), none, none, none, none, none]) (S2 := [.ref x, .int (zi (x1 * hb0))]) rfl (by simp only [zi_add, zi_sub, zi_mul, zi_neg, zi_and1, zi_and7, zi_and15, zi_and31, zi_and255]) (by simp only [zi_add, zi_sub, zi_mul, zi_neg, zi_and1, zi_and7, zi_and15, zi_and31, zi_and255]) ?_
    refine gs_gtk rfl (by decide) rfl hS.1 tx rfl rfl egh ?_
    refine gy_div rfl (by decide) (by omega) (by omega) ?_
    have hd6 := zd_f (x := x1 * hb0) (y := gh) (by omega) (by omega)
    refine gz_s 3 (pc' := 25) (L' := [some (.ref x), some (.int (zi n)), some (.int (zi x1)), some (.int (zi y1)), some (.ref b0), some (.int (zi ((x1 * hb0) / gh))), none, none, none, none]) (S' := [.ref b0, .int (zi y1)]) rfl ?_
    refine gs_gtk rfl (by decide) rfl hS.1 tb0 rfl rfl evb0 ?_
    have hx7 := zx_f (a := y1) (b := vb0) (A := 63) (B := 2) (by omega) (by omega) (by omega) (by omega)
    refine gy_s 2 (pc' := 30) (L' := [some (.ref x), some (.int (zi n)), some (.int (zi x1)), some (.int (zi y1)), some (.ref b0), some (.int (zi ((x1 * hb0) / gh))), none, none, none, none]) (S' := [.ref x, .int ((zi y1) * (zi vb0))]) (L2 := [some (.ref x), some (.int (zi n)), some (.int (zi x1)), some (.int (zi y1)), some (.ref b0), some (.int (zi ((x1 * hb0) / gh))), none, none, none, none]) (S2 := [.ref x, .int (zi (y1 * vb0))]) rfl (by simp only [zi_add, zi_sub, zi_mul, zi_neg, zi_and1, zi_and7, zi_and15, zi_and31, zi_and255]) (by simp only [zi_add, zi_sub, zi_mul, zi_neg, zi_and1, zi_and7, zi_and15, zi_and31, zi_and255]) ?_
    refine gs_gtk rfl (by decide) rfl hS.1 tx rfl rfl egv ?_
    refine gy_div rfl (by decide) (by omega) (by omega) ?_
    have hd8 := zd_f (x := y1 * vb0) (y := gv) (by omega) (by omega)
    refine gz_s 1 (pc' := 36) (L' := [some (.ref x), some (.int (zi n)), some (.int (zi x1)), some (.int (zi y1)), some (.ref b0), some (.int (zi ((x1 * hb0) / gh))), some (.int (zi ((y1 * vb0) / gv))), none, none, none]) (S' := []) rfl ?_
    have y4 := zb4 (x := x1) (w := w) (wd := gh) (hb := hb0) (by omega) (by omega) (by omega) (by omega) (by omega)
    have y5 := zb4 (x := y1) (w := hh) (wd := gv) (hb := vb0) (by omega) (by omega) (by omega) (by omega) (by omega)
    rw [← ku.1] at y4
    rw [← ku.2.1] at y5
    have y6 := zb5b (C := C0) (R := R0) (f := f0) (i := x1 * hb0 / gh / 8) (j := y1 * vb0 / gv / 8) (bl := bl) (by omega) (by omega) (by omega) (by omega) (by omega) (by omega)
    refine gz_s 1 (pc' := 38) (L' := [some (.ref x), some (.int (zi n)), some (.int (zi x1)), some (.int (zi y1)), some (.ref b0), some (.int (zi ((x1 * hb0) / gh))), some (.int (zi ((y1 * vb0) / gv))), none, none, none]) (S' := [.ref b0]) rfl ?_
    refine gs_gtk rfl (by decide) rfl hS.1 tb0 rfl rfl ef0 ?_
    refine gz_s 2 (pc' := 44) (L' := [some (.ref x), some (.int (zi n)), some (.int (zi x1)), some (.int (zi y1)), some (.ref b0), some (.int (zi ((x1 * hb0) / gh))), some (.int (zi ((y1 * vb0) / gv))), none, none, none]) (S' := [.int (zi 3), .int (zi ((y1 * vb0) / gv)), .int (zi f0)]) rfl ?_
    refine gy_shc (n := 3) (v := 8) rfl (by decide) (by omega) (by decide) (by decide) rfl ?_
    refine gz_s 1 (pc' := 47) (L' := [some (.ref x), some (.int (zi n)), some (.int (zi x1)), some (.int (zi y1)), some (.ref b0), some (.int (zi ((x1 * hb0) / gh))), some (.int (zi ((y1 * vb0) / gv))), none, none, none]) (S' := [.ref b0, .int (zi (((y1 * vb0) / gv) / 8)), .int (zi f0)]) rfl ?_
    refine gs_gtk rfl (by decide) rfl hS.1 tb0 rfl rfl eC0 ?_
    have hx9 := zx_f (a := ((y1 * vb0) / gv) / 8) (b := C0) (A := 15) (B := 8) (by omega) (by omega) (by omega) (by omega)
    refine gy_s 4 (pc' := 55) (L' := [some (.ref x), some (.int (zi n)), some (.int (zi x1)), some (.int (zi y1)), some (.ref b0), some (.int (zi ((x1 * hb0) / gh))), some (.int (zi ((y1 * vb0) / gv))), none, none, none]) (S' := [.int (zi 3), .int (zi ((x1 * hb0) / gh)), .int ((zi f0) + ((zi (((y1 * vb0) / gv) / 8)) * (zi C0)))]) (L2 := [some (.ref x), some (.int (zi n)), some (.int (zi x1)), some (.int (zi y1)), some (.ref b0), some (.int (zi ((x1 * hb0) / gh))), some (.int (zi ((y1 * vb0) / gv))), none, none, none]) (S2 := [.int (zi 3), .int (zi ((x1 * hb0) / gh)), .int (zi (f0 + ((((y1 * vb0) / gv) / 8) * C0)))]) rfl (by simp only [zi_add, zi_sub, zi_mul, zi_neg, zi_and1, zi_and7, zi_and15, zi_and31, zi_and255]) (by simp only [zi_add, zi_sub, zi_mul, zi_neg, zi_and1, zi_and7, zi_and15, zi_and31, zi_and255]) ?_
    refine gy_shc (n := 3) (v := 8) rfl (by decide) (by omega) (by decide) (by decide) rfl ?_
    refine gy_s 10 (pc' := 72) (L' := [some (.ref x), some (.int (zi n)), some (.int (zi x1)), some (.int (zi y1)), some (.ref b0), some (.int (zi ((x1 * hb0) / gh))), some (.int (zi ((y1 * vb0) / gv))), some (.int ((zi (f0 + ((((y1 * vb0) / gv) / 8) * C0))) + (zi (((x1 * hb0) / gh) / 8)))), none, none]) (S' := [.int ((zi ((y1 * vb0) / gv)) &&& (zi 7)), .int ((zi ((x1 * hb0) / gh)) &&& (zi 7)), .int ((zi (f0 + ((((y1 * vb0) / gv) / 8) * C0))) + (zi (((x1 * hb0) / gh) / 8))), .ref x]) (L2 := [some (.ref x), some (.int (zi n)), some (.int (zi x1)), some (.int (zi y1)), some (.ref b0), some (.int (zi ((x1 * hb0) / gh))), some (.int (zi ((y1 * vb0) / gv))), some (.int (zi ((f0 + ((((y1 * vb0) / gv) / 8) * C0)) + (((x1 * hb0) / gh) / 8)))), none, none]) (S2 := [.int (zi (((y1 * vb0) / gv) % 8)), .int (zi (((x1 * hb0) / gh) % 8)), .int (zi ((f0 + ((((y1 * vb0) / gv) / 8) * C0)) + (((x1 * hb0) / gh) / 8))), .ref x]) rfl (by simp only [zi_add, zi_sub, zi_mul, zi_neg, zi_and1, zi_and7, zi_and15, zi_and31, zi_and255]) (by simp only [zi_add, zi_sub, zi_mul, zi_neg, zi_and1, zi_and7, zi_and15, zi_and31, zi_and255]) ?_
    have hl10 : h.2.2.2.1 co = h.2.2.2.1 co := congrFun hS.2.2.2.2.1 co
    refine gz_call rfl (by decide) rfl (by decide) (by decide) (gcal_of rfl rfl rfl (Nat.le_of_ble_eq_true rfl) (gJ.recv (G := gGG) hS.1 tx rfl rfl)) (cl_Picture_exactAt _ hS.1 x tx ((f0 + ((((y1 * vb0) / gv) / 8) * C0)) + (((x1 * hb0) / gh) / 8)) (by omega) (((x1 * hb0) / gh) % 8) (by omega) (((y1 * vb0) / gv) % 8) (by omega) bn ebn tbn b0 eb0 tb0 b1 eb1 tb1 b2 eb2 tb2 co eco tco (gSta.fr hS.2 (by decide) hyst) cn ecn (by omega) tq0 etq0 (by omega) tq1 etq1 (by omega) tq2 etq2 (by omega) (by omega) (by omega) (by omega) (by omega) uq) (fun q11 _ wq11 => ?_)
    obtain ⟨pq11, oq11, hq11⟩ := q11
    obtain ⟨xq11, zq11, gq11, aq11, bq11⟩ := wq11
    refine ⟨_, gq11, ?_⟩
    show gz gPP gGG gcn _ _ 75 [some (.ref x), some (.int (zi n)), some (.int (zi x1)), some (.int (zi y1)), some (.ref b0), some (.int (zi ((x1 * hb0) / gh))), some (.int (zi ((y1 * vb0) / gv))), some (.int (zi ((f0 + ((((y1 * vb0) / gv) / 8) * C0)) + (((x1 * hb0) / gh) / 8)))), none, none] [.long (zl zq11)] hq11 _
    have sq11 : gSs rT 1027 ty [] h hq11 := gSs.tr hS xq11 (by decide)
    have s12 := (xq11.2.2.2.2.2 x 0 (by rw [tx]; decide)).trans ebn
    have s13 := (xq11.2.2.2.2.2 bn 0 (by rw [tbn]; decide)).trans eb0
    have s14 := (xq11.2.2.2.2.2 bn 1 (by rw [tbn]; decide)).trans eb1
    have s15 := (xq11.2.2.2.2.2 bn 2 (by rw [tbn]; decide)).trans eb2
    have s16 := (xq11.2.2.2.2.2 x 2 (by rw [tx]; decide)).trans eco
    have s17 := (xq11.2.2.2.2.2 x 7 (by rw [tx]; decide)).trans ecn
    have s18 := (xq11.2.2.2.2.2 x 12 (by rw [tx]; decide)).trans euc
    have s19 := (xq11.2.2.2.2.2 x 13 (by rw [tx]; decide)).trans eur
    have s20 := (xq11.2.2.2.2.2 x 8 (by rw [tx]; decide)).trans ebl
    have s21 := (xq11.2.2.2.2.2 x 5 (by rw [tx]; decide)).trans ew
    have s22 := (xq11.2.2.2.2.2 x 6 (by rw [tx]; decide)).trans ehh
    have s23 := (xq11.2.2.2.2.2 x 10 (by rw [tx]; decide)).trans egh
    have s24 := (xq11.2.2.2.2.2 x 11 (by rw [tx]; decide)).trans egv
    have s25 := (xq11.2.2.2.2.2 b0 1 (by rw [tb0]; decide)).trans ehb0
    have s26 := (xq11.2.2.2.2.2 b0 2 (by rw [tb0]; decide)).trans evb0
    have s27 := (xq11.2.2.2.2.2 b0 4 (by rw [tb0]; decide)).trans eC0
    have s28 := (xq11.2.2.2.2.2 b0 5 (by rw [tb0]; decide)).trans eR0
    have s29 := (xq11.2.2.2.2.2 b0 6 (by rw [tb0]; decide)).trans eoc0
    have s30 := (xq11.2.2.2.2.2 b0 7 (by rw [tb0]; decide)).trans eor0
    have s31 := (xq11.2.2.2.2.2 b0 8 (by rw [tb0]; decide)).trans ef0
    have s32 := (xq11.2.2.2.2.2 b1 1 (by rw [tb1]; decide)).trans ehb1
    have s33 := (xq11.2.2.2.2.2 b1 2 (by rw [tb1]; decide)).trans evb1
    have s34 := (xq11.2.2.2.2.2 b1 4 (by rw [tb1]; decide)).trans eC1
    have s35 := (xq11.2.2.2.2.2 b1 5 (by rw [tb1]; decide)).trans eR1
    have s36 := (xq11.2.2.2.2.2 b1 6 (by rw [tb1]; decide)).trans eoc1
    have s37 := (xq11.2.2.2.2.2 b1 7 (by rw [tb1]; decide)).trans eor1
    have s38 := (xq11.2.2.2.2.2 b1 8 (by rw [tb1]; decide)).trans ef1
    have s39 := (xq11.2.2.2.2.2 b2 1 (by rw [tb2]; decide)).trans ehb2
    have s40 := (xq11.2.2.2.2.2 b2 2 (by rw [tb2]; decide)).trans evb2
    have s41 := (xq11.2.2.2.2.2 b2 4 (by rw [tb2]; decide)).trans eC2
    have s42 := (xq11.2.2.2.2.2 b2 5 (by rw [tb2]; decide)).trans eR2
    have s43 := (xq11.2.2.2.2.2 b2 6 (by rw [tb2]; decide)).trans eoc2
    have s44 := (xq11.2.2.2.2.2 b2 7 (by rw [tb2]; decide)).trans eor2
    have s45 := (xq11.2.2.2.2.2 b2 8 (by rw [tb2]; decide)).trans ef2
    have s46 := (xq11.2.2.2.2.2 b0 3 (by rw [tb0]; decide)).trans etq0
    have s47 := (xq11.2.2.2.2.2 b1 3 (by rw [tb1]; decide)).trans etq1
    have s48 := (xq11.2.2.2.2.2 b2 3 (by rw [tb2]; decide)).trans etq2
    refine gz_1 rfl (by decide) rfl rfl (pc' := 78) (S' := [.long (zl 33554432), .long (zl zq11)]) (h' := hq11) rfl ?_
    refine gy_s 1 (pc' := 79) (L' := [some (.ref x), some (.int (zi n)), some (.int (zi x1)), some (.int (zi y1)), some (.ref b0), some (.int (zi ((x1 * hb0) / gh))), some (.int (zi ((y1 * vb0) / gv))), some (.int (zi ((f0 + ((((y1 * vb0) / gv) / 8) * C0)) + (((x1 * hb0) / gh) / 8)))), none, none]) (S' := [.long ((zl zq11) + (zl 33554432))]) (L2 := [some (.ref x), some (.int (zi n)), some (.int (zi x1)), some (.int (zi y1)), some (.ref b0), some (.int (zi ((x1 * hb0) / gh))), some (.int (zi ((y1 * vb0) / gv))), some (.int (zi ((f0 + ((((y1 * vb0) / gv) / 8) * C0)) + (((x1 * hb0) / gh) / 8)))), none, none]) (S2 := [.long (zl (zq11 + 33554432))]) rfl (by simp only [zi_add, zi_sub, zi_mul, zi_neg, zi_and1, zi_and7, zi_and15, zi_and31, zi_and255, zl_add, zl_sub, zl_mul, zl_neg]) (by simp only [zi_add, zi_sub, zi_mul, zi_neg, zi_and1, zi_and7, zi_and15, zi_and31, zi_and255, zl_add, zl_sub, zl_mul, zl_neg]) ?_
    refine gy_lany (fun z49 ez49 az49 bz49 => ?_)
    refine gz_s 1 (pc' := 81) (L' := [some (.ref x), some (.int (zi n)), some (.int (zi x1)), some (.int (zi y1)), some (.ref b0), some (.int (zi ((x1 * hb0) / gh))), some (.int (zi ((y1 * vb0) / gv))), some (.int (zi ((f0 + ((((y1 * vb0) / gv) / 8) * C0)) + (((x1 * hb0) / gh) / 8)))), none, none]) (S' := [.int (zi 26), .long (zl z49)]) rfl ?_
    refine gy_lshr rfl (by decide) (by omega) (by omega) (fun z50 az50 bz50 cz50 => ?_)
    refine gz_s 2 (pc' := 85) (L' := [some (.ref x), some (.int (zi n)), some (.int (zi x1)), some (.int (zi y1)), some (.ref b0), some (.int (zi ((x1 * hb0) / gh))), some (.int (zi ((y1 * vb0) / gv))), some (.int (zi ((f0 + ((((y1 * vb0) / gv) / 8) * C0)) + (((x1 * hb0) / gh) / 8)))), some (.long (zl z50)), none]) (S' := [.long (zl 0)]) rfl ?_
    refine gz_1 rfl (by decide) rfl rfl (pc' := 88) (S' := [.long (zl 255), .long (zl 0)]) (h' := hq11) rfl ?_
    refine gz_s 1 (pc' := 90) (L' := [some (.ref x), some (.int (zi n)), some (.int (zi x1)), some (.int (zi y1)), some (.ref b0), some (.int (zi ((x1 * hb0) / gh))), some (.int (zi ((y1 * vb0) / gv))), some (.int (zi ((f0 + ((((y1 * vb0) / gv) / 8) * C0)) + (((x1 * hb0) / gh) / 8)))), some (.long (zl z50)), none]) (S' := [.long (zl z50), .long (zl 255), .long (zl 0)]) rfl ?_
    refine gz_1 rfl (by decide) rfl rfl (pc' := 93) (S' := [.long (zl 128), .long (zl z50), .long (zl 255), .long (zl 0)]) (h' := hq11) rfl ?_
    refine gy_s 1 (pc' := 94) (L' := [some (.ref x), some (.int (zi n)), some (.int (zi x1)), some (.int (zi y1)), some (.ref b0), some (.int (zi ((x1 * hb0) / gh))), some (.int (zi ((y1 * vb0) / gv))), some (.int (zi ((f0 + ((((y1 * vb0) / gv) / 8) * C0)) + (((x1 * hb0) / gh) / 8)))), some (.long (zl z50)), none]) (S' := [.long ((zl z50) + (zl 128)), .long (zl 255), .long (zl 0)]) (L2 := [some (.ref x), some (.int (zi n)), some (.int (zi x1)), some (.int (zi y1)), some (.ref b0), some (.int (zi ((x1 * hb0) / gh))), some (.int (zi ((y1 * vb0) / gv))), some (.int (zi ((f0 + ((((y1 * vb0) / gv) / 8) * C0)) + (((x1 * hb0) / gh) / 8)))), some (.long (zl z50)), none]) (S2 := [.long (zl (z50 + 128)), .long (zl 255), .long (zl 0)]) rfl (by simp only [zi_add, zi_sub, zi_mul, zi_neg, zi_and1, zi_and7, zi_and15, zi_and31, zi_and255, zl_add, zl_sub, zl_mul, zl_neg]) (by simp only [zi_add, zi_sub, zi_mul, zi_neg, zi_and1, zi_and7, zi_and15, zi_and31, zi_and255, zl_add, zl_sub, zl_mul, zl_neg]) ?_
    refine gy_lany (fun z51 ez51 az51 bz51 => ?_)
    refine gz_call rfl (by decide) rfl (by decide) (by decide) (gcal_of rfl rfl rfl (Nat.le_of_ble_eq_true rfl) rfl) (cl_Math_minL _ sq11.1 255 (by omega) z51 (by omega) ) (fun q52 _ wq52 => ?_)
    obtain ⟨pq52, oq52, hq52⟩ := q52
    obtain ⟨xq52, zq52, gq52, aq52, bq52, uq52_0, uq52_1, uq52_2⟩ := wq52
    refine ⟨_, gq52, ?_⟩
    show gz gPP gGG gcn _ _ 97 [some (.ref x), some (.int (zi n)), some (.int (zi x1)), some (.int (zi y1)), some (.ref b0), some (.int (zi ((x1 * hb0) / gh))), some (.int (zi ((y1 * vb0) / gv))), some (.int (zi ((f0 + ((((y1 * vb0) / gv) / 8) * C0)) + (((x1 * hb0) / gh) / 8)))), some (.long (zl z50)), none] [.long (zl zq52), .long (zl 0)] hq52 _
    have sq52 : gSs rT 1027 ty [] h hq52 := gSs.tr sq11 xq52 (by decide)
    have s53 := (xq52.2.2.2.2.2 x 0 (by rw [tx]; decide)).trans s12
    have s54 := (xq52.2.2.2.2.2 bn 0 (by rw [tbn]; decide)).trans s13
    have s55 := (xq52.2.2.2.2.2 bn 1 (by rw [tbn]; decide)).trans s14
    have s56 := (xq52.2.2.2.2.2 bn 2 (by rw [tbn]; decide)).trans s15
    have s57 := (xq52.2.2.2.2.2 x 2 (by rw [tx]; decide)).trans s16
    have s58 := (xq52.2.2.2.2.2 x 7 (by rw [tx]; decide)).trans s17
    have s59 := (xq52.2.2.2.2.2 x 12 (by rw [tx]; decide)).trans s18
    have s60 := (xq52.2.2.2.2.2 x 13 (by rw [tx]; decide)).trans s19
    have s61 := (xq52.2.2.2.2.2 x 8 (by rw [tx]; decide)).trans s20
    have s62 := (xq52.2.2.2.2.2 x 5 (by rw [tx]; decide)).trans s21
    have s63 := (xq52.2.2.2.2.2 x 6 (by rw [tx]; decide)).trans s22
    have s64 := (xq52.2.2.2.2.2 x 10 (by rw [tx]; decide)).trans s23
    have s65 := (xq52.2.2.2.2.2 x 11 (by rw [tx]; decide)).trans s24
    have s66 := (xq52.2.2.2.2.2 b0 1 (by rw [tb0]; decide)).trans s25
    have s67 := (xq52.2.2.2.2.2 b0 2 (by rw [tb0]; decide)).trans s26
    have s68 := (xq52.2.2.2.2.2 b0 4 (by rw [tb0]; decide)).trans s27
    have s69 := (xq52.2.2.2.2.2 b0 5 (by rw [tb0]; decide)).trans s28
    have s70 := (xq52.2.2.2.2.2 b0 6 (by rw [tb0]; decide)).trans s29
    have s71 := (xq52.2.2.2.2.2 b0 7 (by rw [tb0]; decide)).trans s30
    have s72 := (xq52.2.2.2.2.2 b0 8 (by rw [tb0]; decide)).trans s31
    have s73 := (xq52.2.2.2.2.2 b1 1 (by rw [tb1]; decide)).trans s32
    have s74 := (xq52.2.2.2.2.2 b1 2 (by rw [tb1]; decide)).trans s33
    have s75 := (xq52.2.2.2.2.2 b1 4 (by rw [tb1]; decide)).trans s34
    have s76 := (xq52.2.2.2.2.2 b1 5 (by rw [tb1]; decide)).trans s35
    have s77 := (xq52.2.2.2.2.2 b1 6 (by rw [tb1]; decide)).trans s36
    have s78 := (xq52.2.2.2.2.2 b1 7 (by rw [tb1]; decide)).trans s37
    have s79 := (xq52.2.2.2.2.2 b1 8 (by rw [tb1]; decide)).trans s38
    have s80 := (xq52.2.2.2.2.2 b2 1 (by rw [tb2]; decide)).trans s39
    have s81 := (xq52.2.2.2.2.2 b2 2 (by rw [tb2]; decide)).trans s40
    have s82 := (xq52.2.2.2.2.2 b2 4 (by rw [tb2]; decide)).trans s41
    have s83 := (xq52.2.2.2.2.2 b2 5 (by rw [tb2]; decide)).trans s42
    have s84 := (xq52.2.2.2.2.2 b2 6 (by rw [tb2]; decide)).trans s43
    have s85 := (xq52.2.2.2.2.2 b2 7 (by rw [tb2]; decide)).trans s44
    have s86 := (xq52.2.2.2.2.2 b2 8 (by rw [tb2]; decide)).trans s45
    have s87 := (xq52.2.2.2.2.2 b0 3 (by rw [tb0]; decide)).trans s46
    have s88 := (xq52.2.2.2.2.2 b1 3 (by rw [tb1]; decide)).trans s47
    have s89 := (xq52.2.2.2.2.2 b2 3 (by rw [tb2]; decide)).trans s48
    refine gz_call rfl (by decide) rfl (by decide) (by decide) (gcal_of rfl rfl rfl (Nat.le_of_ble_eq_true rfl) rfl) (cl_Math_maxL _ sq52.1 0 (by omega) zq52 (by omega) ) (fun q90 _ wq90 => ?_)
    obtain ⟨pq90, oq90, hq90⟩ := q90
    obtain ⟨xq90, zq90, gq90, aq90, bq90, uq90_0, uq90_1, uq90_2⟩ := wq90
    refine ⟨_, gq90, ?_⟩
    show gz gPP gGG gcn _ _ 100 [some (.ref x), some (.int (zi n)), some (.int (zi x1)), some (.int (zi y1)), some (.ref b0), some (.int (zi ((x1 * hb0) / gh))), some (.int (zi ((y1 * vb0) / gv))), some (.int (zi ((f0 + ((((y1 * vb0) / gv) / 8) * C0)) + (((x1 * hb0) / gh) / 8)))), some (.long (zl z50)), none] [.long (zl zq90)] hq90 _
    have sq90 : gSs rT 1027 ty [] h hq90 := gSs.tr sq52 xq90 (by decide)
    have s91 := (xq90.2.2.2.2.2 x 0 (by rw [tx]; decide)).trans s53
    have s92 := (xq90.2.2.2.2.2 bn 0 (by rw [tbn]; decide)).trans s54
    have s93 := (xq90.2.2.2.2.2 bn 1 (by rw [tbn]; decide)).trans s55
    have s94 := (xq90.2.2.2.2.2 bn 2 (by rw [tbn]; decide)).trans s56
    have s95 := (xq90.2.2.2.2.2 x 2 (by rw [tx]; decide)).trans s57
    have s96 := (xq90.2.2.2.2.2 x 7 (by rw [tx]; decide)).trans s58
    have s97 := (xq90.2.2.2.2.2 x 12 (by rw [tx]; decide)).trans s59
    have s98 := (xq90.2.2.2.2.2 x 13 (by rw [tx]; decide)).trans s60
    have s99 := (xq90.2.2.2.2.2 x 8 (by rw [tx]; decide)).trans s61
    have s100 := (xq90.2.2.2.2.2 x 5 (by rw [tx]; decide)).trans s62
    have s101 := (xq90.2.2.2.2.2 x 6 (by rw [tx]; decide)).trans s63
    have s102 := (xq90.2.2.2.2.2 x 10 (by rw [tx]; decide)).trans s64
    have s103 := (xq90.2.2.2.2.2 x 11 (by rw [tx]; decide)).trans s65
    have s104 := (xq90.2.2.2.2.2 b0 1 (by rw [tb0]; decide)).trans s66
    have s105 := (xq90.2.2.2.2.2 b0 2 (by rw [tb0]; decide)).trans s67
    have s106 := (xq90.2.2.2.2.2 b0 4 (by rw [tb0]; decide)).trans s68
    have s107 := (xq90.2.2.2.2.2 b0 5 (by rw [tb0]; decide)).trans s69
    have s108 := (xq90.2.2.2.2.2 b0 6 (by rw [tb0]; decide)).trans s70
    have s109 := (xq90.2.2.2.2.2 b0 7 (by rw [tb0]; decide)).trans s71
    have s110 := (xq90.2.2.2.2.2 b0 8 (by rw [tb0]; decide)).trans s72
    have s111 := (xq90.2.2.2.2.2 b1 1 (by rw [tb1]; decide)).trans s73
    have s112 := (xq90.2.2.2.2.2 b1 2 (by rw [tb1]; decide)).trans s74
    have s113 := (xq90.2.2.2.2.2 b1 4 (by rw [tb1]; decide)).trans s75
    have s114 := (xq90.2.2.2.2.2 b1 5 (by rw [tb1]; decide)).trans s76
    have s115 := (xq90.2.2.2.2.2 b1 6 (by rw [tb1]; decide)).trans s77
    have s116 := (xq90.2.2.2.2.2 b1 7 (by rw [tb1]; decide)).trans s78
    have s117 := (xq90.2.2.2.2.2 b1 8 (by rw [tb1]; decide)).trans s79
    have s118 := (xq90.2.2.2.2.2 b2 1 (by rw [tb2]; decide)).trans s80
    have s119 := (xq90.2.2.2.2.2 b2 2 (by rw [tb2]; decide)).trans s81
    have s120 := (xq90.2.2.2.2.2 b2 4 (by rw [tb2]; decide)).trans s82
    have s121 := (xq90.2.2.2.2.2 b2 5 (by rw [tb2]; decide)).trans s83
    have s122 := (xq90.2.2.2.2.2 b2 6 (by rw [tb2]; decide)).trans s84
    have s123 := (xq90.2.2.2.2.2 b2 7 (by rw [tb2]; decide)).trans s85
    have s124 := (xq90.2.2.2.2.2 b2 8 (by rw [tb2]; decide)).trans s86
    have s125 := (xq90.2.2.2.2.2 b0 3 (by rw [tb0]; decide)).trans s87
    have s126 := (xq90.2.2.2.2.2 b1 3 (by rw [tb1]; decide)).trans s88
    have s127 := (xq90.2.2.2.2.2 b2 3 (by rw [tb2]; decide)).trans s89
    refine gy_l2i rfl (by decide) ?_
    exact gz_end (I := .ireturn) (len := 1) rfl (Or.inl rfl) ⟨sq90, zq90, rfl, (by omega), (by omega)⟩
  · refine gs_aak (j := 1) rfl (by decide) hS.1 tbn rfl rfl rfl (by decide) he3 (by decide) eb1 ?_
    refine gz_s 1 (pc' := 8) (L' := [some (.ref x), some (.int (zi n)), some (.int (zi x1)), some (.int (zi y1)), some (.ref b1), none, none, none, none, none]) (S' := []) rfl ?_
    have hq128 := hypq1 (by omega)
    obtain ⟨k1_0, k1_1, k1_2, k1_3, k1_4, k1_5, k1_6, k1_7, k1_8, k1_9, k1_10, k1_11, k1_12, k1_13, k1_14, k1_15, k1_16, k1_17, k1_18⟩ := hq128
    have kx1 := hypx1 (by omega)
    have ku := hypu (by omega)
    refine gz_s 2 (pc' := 11) (L' := [some (.ref x), some (.int (zi n)), some (.int (zi x1)), some (.int (zi y1)), some (.ref b1), none, none, none, none, none]) (S' := [.ref b1, .int (zi x1)]) rfl ?_
    refine gs_gtk rfl (by decide) rfl hS.1 tb1 rfl rfl ehb1 ?_
    have hx129 := zx_f (a := x1) (b := hb1) (A := 63) (B := 2) (by omega) (by omega) (by omega) (by omega)
    refine gy_s 2 (pc' := 16) (L' := [some (.ref x), some (.int (zi n)), some (.int (zi x1)), some (.int (zi y1)), some (.ref b1), none, none, none, none, none]) (S' := [.ref x, .int ((zi x1) * (zi hb1))]) (L2 := [some (.ref x), some (.int (zi n)), some (.int (zi x1)), some (.int (zi y1)), some (.ref b1), none, none, none, none, none]) (S2 := [.ref x, .int (zi (x1 * hb1))]) rfl (by simp only [zi_add, zi_sub, zi_mul, zi_neg, zi_and1, zi_and7, zi_and15, zi_and31, zi_and255]) (by simp only [zi_add, zi_sub, zi_mul, zi_neg, zi_and1, zi_and7, zi_and15, zi_and31, zi_and255]) ?_
    refine gs_gtk rfl (by decide) rfl hS.1 tx rfl rfl egh ?_
    refine gy_div rfl (by decide) (by omega) (by omega) ?_
    have hd130 := zd_f (x := x1 * hb1) (y := gh) (by omega) (by omega)
    refine gz_s 3 (pc' := 25) (L' := [some (.ref x), some (.int (zi n)), some (.int (zi x1)), some (.int (zi y1)), some (.ref b1), some (.int (zi ((x1 * hb1) / gh))), none, none, none, none]) (S' := [.ref b1, .int (zi y1)]) rfl ?_
    refine gs_gtk rfl (by decide) rfl hS.1 tb1 rfl rfl evb1 ?_
    have hx131 := zx_f (a := y1) (b := vb1) (A := 63) (B := 2) (by omega) (by omega) (by omega) (by omega)
    refine gy_s 2 (pc' := 30) (L' := [some (.ref x), some (.int (zi n)), some (.int (zi x1)), some (.int (zi y1)), some (.ref b1), some (.int (zi ((x1 * hb1) / gh))), none, none, none, none]) (S' := [.ref x, .int ((zi y1) * (zi vb1))]) (L2 := [some (.ref x), some (.int (zi n)), some (.int (zi x1)), some (.int (zi y1)), some (.ref b1), some (.int (zi ((x1 * hb1) / gh))), none, none, none, none]) (S2 := [.ref x, .int (zi (y1 * vb1))]) rfl (by simp only [zi_add, zi_sub, zi_mul, zi_neg, zi_and1, zi_and7, zi_and15, zi_and31, zi_and255]) (by simp only [zi_add, zi_sub, zi_mul, zi_neg, zi_and1, zi_and7, zi_and15, zi_and31, zi_and255]) ?_
    refine gs_gtk rfl (by decide) rfl hS.1 tx rfl rfl egv ?_
    refine gy_div rfl (by decide) (by omega) (by omega) ?_
    have hd132 := zd_f (x := y1 * vb1) (y := gv) (by omega) (by omega)
    refine gz_s 1 (pc' := 36) (L' := [some (.ref x), some (.int (zi n)), some (.int (zi x1)), some (.int (zi y1)), some (.ref b1), some (.int (zi ((x1 * hb1) / gh))), some (.int (zi ((y1 * vb1) / gv))), none, none, none]) (S' := []) rfl ?_
    have y4 := zb4 (x := x1) (w := w) (wd := gh) (hb := hb1) (by omega) (by omega) (by omega) (by omega) (by omega)
    have y5 := zb4 (x := y1) (w := hh) (wd := gv) (hb := vb1) (by omega) (by omega) (by omega) (by omega) (by omega)
    rw [← ku.1] at y4
    rw [← ku.2.1] at y5
    have y6 := zb5b (C := C1) (R := R1) (f := f1) (i := x1 * hb1 / gh / 8) (j := y1 * vb1 / gv / 8) (bl := bl) (by omega) (by omega) (by omega) (by omega) (by omega) (by omega)
    refine gz_s 1 (pc' := 38) (L' := [some (.ref x), some (.int (zi n)), some (.int (zi x1)), some (.int (zi y1)), some (.ref b1), some (.int (zi ((x1 * hb1) / gh))), some (.int (zi ((y1 * vb1) / gv))), none, none, none]) (S' := [.ref b1]) rfl ?_
    refine gs_gtk rfl (by decide) rfl hS.1 tb1 rfl rfl ef1 ?_
    refine gz_s 2 (pc' := 44) (L' := [some (.ref x), some (.int (zi n)), some (.int (zi x1)), some (.int (zi y1)), some (.ref b1), some (.int (zi ((x1 * hb1) / gh))), some (.int (zi ((y1 * vb1) / gv))), none, none, none]) (S' := [.int (zi 3), .int (zi ((y1 * vb1) / gv)), .int (zi f1)]) rfl ?_
    refine gy_shc (n := 3) (v := 8) rfl (by decide) (by omega) (by decide) (by decide) rfl ?_
    refine gz_s 1 (pc' := 47) (L' := [some (.ref x), some (.int (zi n)), some (.int (zi x1)), some (.int (zi y1)), some (.ref b1), some (.int (zi ((x1 * hb1) / gh))), some (.int (zi ((y1 * vb1) / gv))), none, none, none]) (S' := [.ref b1, .int (zi (((y1 * vb1) / gv) / 8)), .int (zi f1)]) rfl ?_
    refine gs_gtk rfl (by decide) rfl hS.1 tb1 rfl rfl eC1 ?_
    have hx133 := zx_f (a := ((y1 * vb1) / gv) / 8) (b := C1) (A := 15) (B := 8) (by omega) (by omega) (by omega) (by omega)
    refine gy_s 4 (pc' := 55) (L' := [some (.ref x), some (.int (zi n)), some (.int (zi x1)), some (.int (zi y1)), some (.ref b1), some (.int (zi ((x1 * hb1) / gh))), some (.int (zi ((y1 * vb1) / gv))), none, none, none]) (S' := [.int (zi 3), .int (zi ((x1 * hb1) / gh)), .int ((zi f1) + ((zi (((y1 * vb1) / gv) / 8)) * (zi C1)))]) (L2 := [some (.ref x), some (.int (zi n)), some (.int (zi x1)), some (.int (zi y1)), some (.ref b1), some (.int (zi ((x1 * hb1) / gh))), some (.int (zi ((y1 * vb1) / gv))), none, none, none]) (S2 := [.int (zi 3), .int (zi ((x1 * hb1) / gh)), .int (zi (f1 + ((((y1 * vb1) / gv) / 8) * C1)))]) rfl (by simp only [zi_add, zi_sub, zi_mul, zi_neg, zi_and1, zi_and7, zi_and15, zi_and31, zi_and255]) (by simp only [zi_add, zi_sub, zi_mul, zi_neg, zi_and1, zi_and7, zi_and15, zi_and31, zi_and255]) ?_
    refine gy_shc (n := 3) (v := 8) rfl (by decide) (by omega) (by decide) (by decide) rfl ?_
    refine gy_s 10 (pc' := 72) (L' := [some (.ref x), some (.int (zi n)), some (.int (zi x1)), some (.int (zi y1)), some (.ref b1), some (.int (zi ((x1 * hb1) / gh))), some (.int (zi ((y1 * vb1) / gv))), some (.int ((zi (f1 + ((((y1 * vb1) / gv) / 8) * C1))) + (zi (((x1 * hb1) / gh) / 8)))), none, none]) (S' := [.int ((zi ((y1 * vb1) / gv)) &&& (zi 7)), .int ((zi ((x1 * hb1) / gh)) &&& (zi 7)), .int ((zi (f1 + ((((y1 * vb1) / gv) / 8) * C1))) + (zi (((x1 * hb1) / gh) / 8))), .ref x]) (L2 := [some (.ref x), some (.int (zi n)), some (.int (zi x1)), some (.int (zi y1)), some (.ref b1), some (.int (zi ((x1 * hb1) / gh))), some (.int (zi ((y1 * vb1) / gv))), some (.int (zi ((f1 + ((((y1 * vb1) / gv) / 8) * C1)) + (((x1 * hb1) / gh) / 8)))), none, none]) (S2 := [.int (zi (((y1 * vb1) / gv) % 8)), .int (zi (((x1 * hb1) / gh) % 8)), .int (zi ((f1 + ((((y1 * vb1) / gv) / 8) * C1)) + (((x1 * hb1) / gh) / 8))), .ref x]) rfl (by simp only [zi_add, zi_sub, zi_mul, zi_neg, zi_and1, zi_and7, zi_and15, zi_and31, zi_and255]) (by simp only [zi_add, zi_sub, zi_mul, zi_neg, zi_and1, zi_and7, zi_and15, zi_and31, zi_and255]) ?_
    have hl134 : h.2.2.2.1 co = h.2.2.2.1 co := congrFun hS.2.2.2.2.1 co
    refine gz_call rfl (by decide) rfl (by decide) (by decide) (gcal_of rfl rfl rfl (Nat.le_of_ble_eq_true rfl) (gJ.recv (G := gGG) hS.1 tx rfl rfl)) (cl_Picture_exactAt _ hS.1 x tx ((f1 + ((((y1 * vb1) / gv) / 8) * C1)) + (((x1 * hb1) / gh) / 8)) (by omega) (((x1 * hb1) / gh) % 8) (by omega) (((y1 * vb1) / gv) % 8) (by omega) bn ebn tbn b0 eb0 tb0 b1 eb1 tb1 b2 eb2 tb2 co eco tco (gSta.fr hS.2 (by decide) hyst) cn ecn (by omega) tq0 etq0 (by omega) tq1 etq1 (by omega) tq2 etq2 (by omega) (by omega) (by omega) (by omega) (by omega) uq) (fun q135 _ wq135 => ?_)
    obtain ⟨pq135, oq135, hq135⟩ := q135
    obtain ⟨xq135, zq135, gq135, aq135, bq135⟩ := wq135
    refine ⟨_, gq135, ?_⟩
    show gz gPP gGG gcn _ _ 75 [some (.ref x), some (.int (zi n)), some (.int (zi x1)), some (.int (zi y1)), some (.ref b1), some (.int (zi ((x1 * hb1) / gh))), some (.int (zi ((y1 * vb1) / gv))), some (.int (zi ((f1 + ((((y1 * vb1) / gv) / 8) * C1)) + (((x1 * hb1) / gh) / 8)))), none, none] [.long (zl zq135)] hq135 _
    have sq135 : gSs rT 1027 ty [] h hq135 := gSs.tr hS xq135 (by decide)
    have s136 := (xq135.2.2.2.2.2 x 0 (by rw [tx]; decide)).trans ebn
    have s137 := (xq135.2.2.2.2.2 bn 0 (by rw [tbn]; decide)).trans eb0
    have s138 := (xq135.2.2.2.2.2 bn 1 (by rw [tbn]; decide)).trans eb1
    have s139 := (xq135.2.2.2.2.2 bn 2 (by rw [tbn]; decide)).trans eb2
    have s140 := (xq135.2.2.2.2.2 x 2 (by rw [tx]; decide)).trans eco
    have s141 := (xq135.2.2.2.2.2 x 7 (by rw [tx]; decide)).trans ecn
    have s142 := (xq135.2.2.2.2.2 x 12 (by rw [tx]; decide)).trans euc
    have s143 := (xq135.2.2.2.2.2 x 13 (by rw [tx]; decide)).trans eur
    have s144 := (xq135.2.2.2.2.2 x 8 (by rw [tx]; decide)).trans ebl
    have s145 := (xq135.2.2.2.2.2 x 5 (by rw [tx]; decide)).trans ew
    have s146 := (xq135.2.2.2.2.2 x 6 (by rw [tx]; decide)).trans ehh
    have s147 := (xq135.2.2.2.2.2 x 10 (by rw [tx]; decide)).trans egh
    have s148 := (xq135.2.2.2.2.2 x 11 (by rw [tx]; decide)).trans egv
    have s149 := (xq135.2.2.2.2.2 b0 1 (by rw [tb0]; decide)).trans ehb0
    have s150 := (xq135.2.2.2.2.2 b0 2 (by rw [tb0]; decide)).trans evb0
    have s151 := (xq135.2.2.2.2.2 b0 4 (by rw [tb0]; decide)).trans eC0
    have s152 := (xq135.2.2.2.2.2 b0 5 (by rw [tb0]; decide)).trans eR0
    have s153 := (xq135.2.2.2.2.2 b0 6 (by rw [tb0]; decide)).trans eoc0
    have s154 := (xq135.2.2.2.2.2 b0 7 (by rw [tb0]; decide)).trans eor0
    have s155 := (xq135.2.2.2.2.2 b0 8 (by rw [tb0]; decide)).trans ef0
    have s156 := (xq135.2.2.2.2.2 b1 1 (by rw [tb1]; decide)).trans ehb1
    have s157 := (xq135.2.2.2.2.2 b1 2 (by rw [tb1]; decide)).trans evb1
    have s158 := (xq135.2.2.2.2.2 b1 4 (by rw [tb1]; decide)).trans eC1
    have s159 := (xq135.2.2.2.2.2 b1 5 (by rw [tb1]; decide)).trans eR1
    have s160 := (xq135.2.2.2.2.2 b1 6 (by rw [tb1]; decide)).trans eoc1
    have s161 := (xq135.2.2.2.2.2 b1 7 (by rw [tb1]; decide)).trans eor1
    have s162 := (xq135.2.2.2.2.2 b1 8 (by rw [tb1]; decide)).trans ef1
    have s163 := (xq135.2.2.2.2.2 b2 1 (by rw [tb2]; decide)).trans ehb2
    have s164 := (xq135.2.2.2.2.2 b2 2 (by rw [tb2]; decide)).trans evb2
    have s165 := (xq135.2.2.2.2.2 b2 4 (by rw [tb2]; decide)).trans eC2
    have s166 := (xq135.2.2.2.2.2 b2 5 (by rw [tb2]; decide)).trans eR2
    have s167 := (xq135.2.2.2.2.2 b2 6 (by rw [tb2]; decide)).trans eoc2
    have s168 := (xq135.2.2.2.2.2 b2 7 (by rw [tb2]; decide)).trans eor2
    have s169 := (xq135.2.2.2.2.2 b2 8 (by rw [tb2]; decide)).trans ef2
    have s170 := (xq135.2.2.2.2.2 b0 3 (by rw [tb0]; decide)).trans etq0
    have s171 := (xq135.2.2.2.2.2 b1 3 (by rw [tb1]; decide)).trans etq1
    have s172 := (xq135.2.2.2.2.2 b2 3 (by rw [tb2]; decide)).trans etq2
    refine gz_1 rfl (by decide) rfl rfl (pc' := 78) (S' := [.long (zl 33554432), .long (zl zq135)]) (h' := hq135) rfl ?_
    refine gy_s 1 (pc' := 79) (L' := [some (.ref x), some (.int (zi n)), some (.int (zi x1)), some (.int (zi y1)), some (.ref b1), some (.int (zi ((x1 * hb1) / gh))), some (.int (zi ((y1 * vb1) / gv))), some (.int (zi ((f1 + ((((y1 * vb1) / gv) / 8) * C1)) + (((x1 * hb1) / gh) / 8)))), none, none]) (S' := [.long ((zl zq135) + (zl 33554432))]) (L2 := [some (.ref x), some (.int (zi n)), some (.int (zi x1)), some (.int (zi y1)), some (.ref b1), some (.int (zi ((x1 * hb1) / gh))), some (.int (zi ((y1 * vb1) / gv))), some (.int (zi ((f1 + ((((y1 * vb1) / gv) / 8) * C1)) + (((x1 * hb1) / gh) / 8)))), none, none]) (S2 := [.long (zl (zq135 + 33554432))]) rfl (by simp only [zi_add, zi_sub, zi_mul, zi_neg, zi_and1, zi_and7, zi_and15, zi_and31, zi_and255, zl_add, zl_sub, zl_mul, zl_neg]) (by simp only [zi_add, zi_sub, zi_mul, zi_neg, zi_and1, zi_and7, zi_and15, zi_and31, zi_and255, zl_add, zl_sub, zl_mul, zl_neg]) ?_
    refine gy_lany (fun z173 ez173 az173 bz173 => ?_)
    refine gz_s 1 (pc' := 81) (L' := [some (.ref x), some (.int (zi n)), some (.int (zi x1)), some (.int (zi y1)), some (.ref b1), some (.int (zi ((x1 * hb1) / gh))), some (.int (zi ((y1 * vb1) / gv))), some (.int (zi ((f1 + ((((y1 * vb1) / gv) / 8) * C1)) + (((x1 * hb1) / gh) / 8)))), none, none]) (S' := [.int (zi 26), .long (zl z173)]) rfl ?_
    refine gy_lshr rfl (by decide) (by omega) (by omega) (fun z174 az174 bz174 cz174 => ?_)
    refine gz_s 2 (pc' := 85) (L' := [some (.ref x), some (.int (zi n)), some (.int (zi x1)), some (.int (zi y1)), some (.ref b1), some (.int (zi ((x1 * hb1) / gh))), some (.int (zi ((y1 * vb1) / gv))), some (.int (zi ((f1 + ((((y1 * vb1) / gv) / 8) * C1)) + (((x1 * hb1) / gh) / 8)))), some (.long (zl z174)), none]) (S' := [.long (zl 0)]) rfl ?_
    refine gz_1 rfl (by decide) rfl rfl (pc' := 88) (S' := [.long (zl 255), .long (zl 0)]) (h' := hq135) rfl ?_
    refine gz_s 1 (pc' := 90) (L' := [some (.ref x), some (.int (zi n)), some (.int (zi x1)), some (.int (zi y1)), some (.ref b1), some (.int (zi ((x1 * hb1) / gh))), some (.int (zi ((y1 * vb1) / gv))), some (.int (zi ((f1 + ((((y1 * vb1) / gv) / 8) * C1)) + (((x1 * hb1) / gh) / 8)))), some (.long (zl z174)), none]) (S' := [.long (zl z174), .long (zl 255), .long (zl 0)]) rfl ?_
    refine gz_1 rfl (by decide) rfl rfl (pc' := 93) (S' := [.long (zl 128), .long (zl z174), .long (zl 255), .long (zl 0)]) (h' := hq135) rfl ?_
    refine gy_s 1 (pc' := 94) (L' := [some (.ref x), some (.int (zi n)), some (.int (zi x1)), some (.int (zi y1)), some (.ref b1), some (.int (zi ((x1 * hb1) / gh))), some (.int (zi ((y1 * vb1) / gv))), some (.int (zi ((f1 + ((((y1 * vb1) / gv) / 8) * C1)) + (((x1 * hb1) / gh) / 8)))), some (.long (zl z174)), none]) (S' := [.long ((zl z174) + (zl 128)), .long (zl 255), .long (zl 0)]) (L2 := [some (.ref x), some (.int (zi n)), some (.int (zi x1)), some (.int (zi y1)), some (.ref b1), some (.int (zi ((x1 * hb1) / gh))), some (.int (zi ((y1 * vb1) / gv))), some (.int (zi ((f1 + ((((y1 * vb1) / gv) / 8) * C1)) + (((x1 * hb1) / gh) / 8)))), some (.long (zl z174)), none]) (S2 := [.long (zl (z174 + 128)), .long (zl 255), .long (zl 0)]) rfl (by simp only [zi_add, zi_sub, zi_mul, zi_neg, zi_and1, zi_and7, zi_and15, zi_and31, zi_and255, zl_add, zl_sub, zl_mul, zl_neg]) (by simp only [zi_add, zi_sub, zi_mul, zi_neg, zi_and1, zi_and7, zi_and15, zi_and31, zi_and255, zl_add, zl_sub, zl_mul, zl_neg]) ?_
    refine gy_lany (fun z175 ez175 az175 bz175 => ?_)
    refine gz_call rfl (by decide) rfl (by decide) (by decide) (gcal_of rfl rfl rfl (Nat.le_of_ble_eq_true rfl) rfl) (cl_Math_minL _ sq135.1 255 (by omega) z175 (by omega) ) (fun q176 _ wq176 => ?_)
    obtain ⟨pq176, oq176, hq176⟩ := q176
    obtain ⟨xq176, zq176, gq176, aq176, bq176, uq176_0, uq176_1, uq176_2⟩ := wq176
    refine ⟨_, gq176, ?_⟩
    show gz gPP gGG gcn _ _ 97 [some (.ref x), some (.int (zi n)), some (.int (zi x1)), some (.int (zi y1)), some (.ref b1), some (.int (zi ((x1 * hb1) / gh))), some (.int (zi ((y1 * vb1) / gv))), some (.int (zi ((f1 + ((((y1 * vb1) / gv) / 8) * C1)) + (((x1 * hb1) / gh) / 8)))), some (.long (zl z174)), none] [.long (zl zq176), .long (zl 0)] hq176 _
    have sq176 : gSs rT 1027 ty [] h hq176 := gSs.tr sq135 xq176 (by decide)
    have s177 := (xq176.2.2.2.2.2 x 0 (by rw [tx]; decide)).trans s136
    have s178 := (xq176.2.2.2.2.2 bn 0 (by rw [tbn]; decide)).trans s137
    have s179 := (xq176.2.2.2.2.2 bn 1 (by rw [tbn]; decide)).trans s138
    have s180 := (xq176.2.2.2.2.2 bn 2 (by rw [tbn]; decide)).trans s139
    have s181 := (xq176.2.2.2.2.2 x 2 (by rw [tx]; decide)).trans s140
    have s182 := (xq176.2.2.2.2.2 x 7 (by rw [tx]; decide)).trans s141
    have s183 := (xq176.2.2.2.2.2 x 12 (by rw [tx]; decide)).trans s142
    have s184 := (xq176.2.2.2.2.2 x 13 (by rw [tx]; decide)).trans s143
    have s185 := (xq176.2.2.2.2.2 x 8 (by rw [tx]; decide)).trans s144
    have s186 := (xq176.2.2.2.2.2 x 5 (by rw [tx]; decide)).trans s145
    have s187 := (xq176.2.2.2.2.2 x 6 (by rw [tx]; decide)).trans s146
    have s188 := (xq176.2.2.2.2.2 x 10 (by rw [tx]; decide)).trans s147
    have s189 := (xq176.2.2.2.2.2 x 11 (by rw [tx]; decide)).trans s148
    have s190 := (xq176.2.2.2.2.2 b0 1 (by rw [tb0]; decide)).trans s149
    have s191 := (xq176.2.2.2.2.2 b0 2 (by rw [tb0]; decide)).trans s150
    have s192 := (xq176.2.2.2.2.2 b0 4 (by rw [tb0]; decide)).trans s151
    have s193 := (xq176.2.2.2.2.2 b0 5 (by rw [tb0]; decide)).trans s152
    have s194 := (xq176.2.2.2.2.2 b0 6 (by rw [tb0]; decide)).trans s153
    have s195 := (xq176.2.2.2.2.2 b0 7 (by rw [tb0]; decide)).trans s154
    have s196 := (xq176.2.2.2.2.2 b0 8 (by rw [tb0]; decide)).trans s155
    have s197 := (xq176.2.2.2.2.2 b1 1 (by rw [tb1]; decide)).trans s156
    have s198 := (xq176.2.2.2.2.2 b1 2 (by rw [tb1]; decide)).trans s157
    have s199 := (xq176.2.2.2.2.2 b1 4 (by rw [tb1]; decide)).trans s158
    have s200 := (xq176.2.2.2.2.2 b1 5 (by rw [tb1]; decide)).trans s159
    have s201 := (xq176.2.2.2.2.2 b1 6 (by rw [tb1]; decide)).trans s160
    have s202 := (xq176.2.2.2.2.2 b1 7 (by rw [tb1]; decide)).trans s161
    have s203 := (xq176.2.2.2.2.2 b1 8 (by rw [tb1]; decide)).trans s162
    have s204 := (xq176.2.2.2.2.2 b2 1 (by rw [tb2]; decide)).trans s163
    have s205 := (xq176.2.2.2.2.2 b2 2 (by rw [tb2]; decide)).trans s164
    have s206 := (xq176.2.2.2.2.2 b2 4 (by rw [tb2]; decide)).trans s165
    have s207 := (xq176.2.2.2.2.2 b2 5 (by rw [tb2]; decide)).trans s166
    have s208 := (xq176.2.2.2.2.2 b2 6 (by rw [tb2]; decide)).trans s167
    have s209 := (xq176.2.2.2.2.2 b2 7 (by rw [tb2]; decide)).trans s168
    have s210 := (xq176.2.2.2.2.2 b2 8 (by rw [tb2]; decide)).trans s169
    have s211 := (xq176.2.2.2.2.2 b0 3 (by rw [tb0]; decide)).trans s170
    have s212 := (xq176.2.2.2.2.2 b1 3 (by rw [tb1]; decide)).trans s171
    have s213 := (xq176.2.2.2.2.2 b2 3 (by rw [tb2]; decide)).trans s172
    refine gz_call rfl (by decide) rfl (by decide) (by decide) (gcal_of rfl rfl rfl (Nat.le_of_ble_eq_true rfl) rfl) (cl_Math_maxL _ sq176.1 0 (by omega) zq176 (by omega) ) (fun q214 _ wq214 => ?_)
    obtain ⟨pq214, oq214, hq214⟩ := q214
    obtain ⟨xq214, zq214, gq214, aq214, bq214, uq214_0, uq214_1, uq214_2⟩ := wq214
    refine ⟨_, gq214, ?_⟩
    show gz gPP gGG gcn _ _ 100 [some (.ref x), some (.int (zi n)), some (.int (zi x1)), some (.int (zi y1)), some (.ref b1), some (.int (zi ((x1 * hb1) / gh))), some (.int (zi ((y1 * vb1) / gv))), some (.int (zi ((f1 + ((((y1 * vb1) / gv) / 8) * C1)) + (((x1 * hb1) / gh) / 8)))), some (.long (zl z174)), none] [.long (zl zq214)] hq214 _
    have sq214 : gSs rT 1027 ty [] h hq214 := gSs.tr sq176 xq214 (by decide)
    have s215 := (xq214.2.2.2.2.2 x 0 (by rw [tx]; decide)).trans s177
    have s216 := (xq214.2.2.2.2.2 bn 0 (by rw [tbn]; decide)).trans s178
    have s217 := (xq214.2.2.2.2.2 bn 1 (by rw [tbn]; decide)).trans s179
    have s218 := (xq214.2.2.2.2.2 bn 2 (by rw [tbn]; decide)).trans s180
    have s219 := (xq214.2.2.2.2.2 x 2 (by rw [tx]; decide)).trans s181
    have s220 := (xq214.2.2.2.2.2 x 7 (by rw [tx]; decide)).trans s182
    have s221 := (xq214.2.2.2.2.2 x 12 (by rw [tx]; decide)).trans s183
    have s222 := (xq214.2.2.2.2.2 x 13 (by rw [tx]; decide)).trans s184
    have s223 := (xq214.2.2.2.2.2 x 8 (by rw [tx]; decide)).trans s185
    have s224 := (xq214.2.2.2.2.2 x 5 (by rw [tx]; decide)).trans s186
    have s225 := (xq214.2.2.2.2.2 x 6 (by rw [tx]; decide)).trans s187
    have s226 := (xq214.2.2.2.2.2 x 10 (by rw [tx]; decide)).trans s188
    have s227 := (xq214.2.2.2.2.2 x 11 (by rw [tx]; decide)).trans s189
    have s228 := (xq214.2.2.2.2.2 b0 1 (by rw [tb0]; decide)).trans s190
    have s229 := (xq214.2.2.2.2.2 b0 2 (by rw [tb0]; decide)).trans s191
    have s230 := (xq214.2.2.2.2.2 b0 4 (by rw [tb0]; decide)).trans s192
    have s231 := (xq214.2.2.2.2.2 b0 5 (by rw [tb0]; decide)).trans s193
    have s232 := (xq214.2.2.2.2.2 b0 6 (by rw [tb0]; decide)).trans s194
    have s233 := (xq214.2.2.2.2.2 b0 7 (by rw [tb0]; decide)).trans s195
    have s234 := (xq214.2.2.2.2.2 b0 8 (by rw [tb0]; decide)).trans s196
    have s235 := (xq214.2.2.2.2.2 b1 1 (by rw [tb1]; decide)).trans s197
    have s236 := (xq214.2.2.2.2.2 b1 2 (by rw [tb1]; decide)).trans s198
    have s237 := (xq214.2.2.2.2.2 b1 4 (by rw [tb1]; decide)).trans s199
    have s238 := (xq214.2.2.2.2.2 b1 5 (by rw [tb1]; decide)).trans s200
    have s239 := (xq214.2.2.2.2.2 b1 6 (by rw [tb1]; decide)).trans s201
    have s240 := (xq214.2.2.2.2.2 b1 7 (by rw [tb1]; decide)).trans s202
    have s241 := (xq214.2.2.2.2.2 b1 8 (by rw [tb1]; decide)).trans s203
    have s242 := (xq214.2.2.2.2.2 b2 1 (by rw [tb2]; decide)).trans s204
    have s243 := (xq214.2.2.2.2.2 b2 2 (by rw [tb2]; decide)).trans s205
    have s244 := (xq214.2.2.2.2.2 b2 4 (by rw [tb2]; decide)).trans s206
    have s245 := (xq214.2.2.2.2.2 b2 5 (by rw [tb2]; decide)).trans s207
    have s246 := (xq214.2.2.2.2.2 b2 6 (by rw [tb2]; decide)).trans s208
    have s247 := (xq214.2.2.2.2.2 b2 7 (by rw [tb2]; decide)).trans s209
    have s248 := (xq214.2.2.2.2.2 b2 8 (by rw [tb2]; decide)).trans s210
    have s249 := (xq214.2.2.2.2.2 b0 3 (by rw [tb0]; decide)).trans s211
    have s250 := (xq214.2.2.2.2.2 b1 3 (by rw [tb1]; decide)).trans s212
    have s251 := (xq214.2.2.2.2.2 b2 3 (by rw [tb2]; decide)).trans s213
    refine gy_l2i rfl (by decide) ?_
    exact gz_end (I := .ireturn) (len := 1) rfl (Or.inl rfl) ⟨sq214, zq214, rfl, (by omega), (by omega)⟩
  · refine gs_aak (j := 2) rfl (by decide) hS.1 tbn rfl rfl rfl (by decide) he3 (by decide) eb2 ?_
    refine gz_s 1 (pc' := 8) (L' := [some (.ref x), some (.int (zi n)), some (.int (zi x1)), some (.int (zi y1)), some (.ref b2), none, none, none, none, none]) (S' := []) rfl ?_
    have hq252 := hypq2 (by omega)
    obtain ⟨k2_0, k2_1, k2_2, k2_3, k2_4, k2_5, k2_6, k2_7, k2_8, k2_9, k2_10, k2_11, k2_12, k2_13, k2_14, k2_15, k2_16, k2_17, k2_18⟩ := hq252
    have kx2 := hypx2 (by omega)
    have ku := hypu (by omega)
    refine gz_s 2 (pc' := 11) (L' := [some (.ref x), some (.int (zi n)), some (.int (zi x1)), some (.int (zi y1)), some (.ref b2), none, none, none, none, none]) (S' := [.ref b2, .int (zi x1)]) rfl ?_
    refine gs_gtk rfl (by decide) rfl hS.1 tb2 rfl rfl ehb2 ?_
    have hx253 := zx_f (a := x1) (b := hb2) (A := 63) (B := 2) (by omega) (by omega) (by omega) (by omega)
    refine gy_s 2 (pc' := 16) (L' := [some (.ref x), some (.int (zi n)), some (.int (zi x1)), some (.int (zi y1)), some (.ref b2), none, none, none, none, none]) (S' := [.ref x, .int ((zi x1) * (zi hb2))]) (L2 := [some (.ref x), some (.int (zi n)), some (.int (zi x1)), some (.int (zi y1)), some (.ref b2), none, none, none, none, none]) (S2 := [.ref x, .int (zi (x1 * hb2))]) rfl (by simp only [zi_add, zi_sub, zi_mul, zi_neg, zi_and1, zi_and7, zi_and15, zi_and31, zi_and255]) (by simp only [zi_add, zi_sub, zi_mul, zi_neg, zi_and1, zi_and7, zi_and15, zi_and31, zi_and255]) ?_
    refine gs_gtk rfl (by decide) rfl hS.1 tx rfl rfl egh ?_
    refine gy_div rfl (by decide) (by omega) (by omega) ?_
    have hd254 := zd_f (x := x1 * hb2) (y := gh) (by omega) (by omega)
    refine gz_s 3 (pc' := 25) (L' := [some (.ref x), some (.int (zi n)), some (.int (zi x1)), some (.int (zi y1)), some (.ref b2), some (.int (zi ((x1 * hb2) / gh))), none, none, none, none]) (S' := [.ref b2, .int (zi y1)]) rfl ?_
    refine gs_gtk rfl (by decide) rfl hS.1 tb2 rfl rfl evb2 ?_
    have hx255 := zx_f (a := y1) (b := vb2) (A := 63) (B := 2) (by omega) (by omega) (by omega) (by omega)
    refine gy_s 2 (pc' := 30) (L' := [some (.ref x), some (.int (zi n)), some (.int (zi x1)), some (.int (zi y1)), some (.ref b2), some (.int (zi ((x1 * hb2) / gh))), none, none, none, none]) (S' := [.ref x, .int ((zi y1) * (zi vb2))]) (L2 := [some (.ref x), some (.int (zi n)), some (.int (zi x1)), some (.int (zi y1)), some (.ref b2), some (.int (zi ((x1 * hb2) / gh))), none, none, none, none]) (S2 := [.ref x, .int (zi (y1 * vb2))]) rfl (by simp only [zi_add, zi_sub, zi_mul, zi_neg, zi_and1, zi_and7, zi_and15, zi_and31, zi_and255]) (by simp only [zi_add, zi_sub, zi_mul, zi_neg, zi_and1, zi_and7, zi_and15, zi_and31, zi_and255]) ?_
    refine gs_gtk rfl (by decide) rfl hS.1 tx rfl rfl egv ?_
    refine gy_div rfl (by decide) (by omega) (by omega) ?_
    have hd256 := zd_f (x := y1 * vb2) (y := gv) (by omega) (by omega)
    refine gz_s 1 (pc' := 36) (L' := [some (.ref x), some (.int (zi n)), some (.int (zi x1)), some (.int (zi y1)), some (.ref b2), some (.int (zi ((x1 * hb2) / gh))), some (.int (zi ((y1 * vb2) / gv))), none, none, none]) (S' := []) rfl ?_
    have y4 := zb4 (x := x1) (w := w) (wd := gh) (hb := hb2) (by omega) (by omega) (by omega) (by omega) (by omega)
    have y5 := zb4 (x := y1) (w := hh) (wd := gv) (hb := vb2) (by omega) (by omega) (by omega) (by omega) (by omega)
    rw [← ku.1] at y4
    rw [← ku.2.1] at y5
    have y6 := zb5b (C := C2) (R := R2) (f := f2) (i := x1 * hb2 / gh / 8) (j := y1 * vb2 / gv / 8) (bl := bl) (by omega) (by omega) (by omega) (by omega) (by omega) (by omega)
    refine gz_s 1 (pc' := 38) (L' := [some (.ref x), some (.int (zi n)), some (.int (zi x1)), some (.int (zi y1)), some (.ref b2), some (.int (zi ((x1 * hb2) / gh))), some (.int (zi ((y1 * vb2) / gv))), none, none, none]) (S' := [.ref b2]) rfl ?_
    refine gs_gtk rfl (by decide) rfl hS.1 tb2 rfl rfl ef2 ?_
    refine gz_s 2 (pc' := 44) (L' := [some (.ref x), some (.int (zi n)), some (.int (zi x1)), some (.int (zi y1)), some (.ref b2), some (.int (zi ((x1 * hb2) / gh))), some (.int (zi ((y1 * vb2) / gv))), none, none, none]) (S' := [.int (zi 3), .int (zi ((y1 * vb2) / gv)), .int (zi f2)]) rfl ?_
    refine gy_shc (n := 3) (v := 8) rfl (by decide) (by omega) (by decide) (by decide) rfl ?_
    refine gz_s 1 (pc' := 47) (L' := [some (.ref x), some (.int (zi n)), some (.int (zi x1)), some (.int (zi y1)), some (.ref b2), some (.int (zi ((x1 * hb2) / gh))), some (.int (zi ((y1 * vb2) / gv))), none, none, none]) (S' := [.ref b2, .int (zi (((y1 * vb2) / gv) / 8)), .int (zi f2)]) rfl ?_
    refine gs_gtk rfl (by decide) rfl hS.1 tb2 rfl rfl eC2 ?_
    have hx257 := zx_f (a := ((y1 * vb2) / gv) / 8) (b := C2) (A := 15) (B := 8) (by omega) (by omega) (by omega) (by omega)
    refine gy_s 4 (pc' := 55) (L' := [some (.ref x), some (.int (zi n)), some (.int (zi x1)), some (.int (zi y1)), some (.ref b2), some (.int (zi ((x1 * hb2) / gh))), some (.int (zi ((y1 * vb2) / gv))), none, none, none]) (S' := [.int (zi 3), .int (zi ((x1 * hb2) / gh)), .int ((zi f2) + ((zi (((y1 * vb2) / gv) / 8)) * (zi C2)))]) (L2 := [some (.ref x), some (.int (zi n)), some (.int (zi x1)), some (.int (zi y1)), some (.ref b2), some (.int (zi ((x1 * hb2) / gh))), some (.int (zi ((y1 * vb2) / gv))), none, none, none]) (S2 := [.int (zi 3), .int (zi ((x1 * hb2) / gh)), .int (zi (f2 + ((((y1 * vb2) / gv) / 8) * C2)))]) rfl (by simp only [zi_add, zi_sub, zi_mul, zi_neg, zi_and1, zi_and7, zi_and15, zi_and31, zi_and255]) (by simp only [zi_add, zi_sub, zi_mul, zi_neg, zi_and1, zi_and7, zi_and15, zi_and31, zi_and255]) ?_
    refine gy_shc (n := 3) (v := 8) rfl (by decide) (by omega) (by decide) (by decide) rfl ?_
    refine gy_s 10 (pc' := 72) (L' := [some (.ref x), some (.int (zi n)), some (.int (zi x1)), some (.int (zi y1)), some (.ref b2), some (.int (zi ((x1 * hb2) / gh))), some (.int (zi ((y1 * vb2) / gv))), some (.int ((zi (f2 + ((((y1 * vb2) / gv) / 8) * C2))) + (zi (((x1 * hb2) / gh) / 8)))), none, none]) (S' := [.int ((zi ((y1 * vb2) / gv)) &&& (zi 7)), .int ((zi ((x1 * hb2) / gh)) &&& (zi 7)), .int ((zi (f2 + ((((y1 * vb2) / gv) / 8) * C2))) + (zi (((x1 * hb2) / gh) / 8))), .ref x]) (L2 := [some (.ref x), some (.int (zi n)), some (.int (zi x1)), some (.int (zi y1)), some (.ref b2), some (.int (zi ((x1 * hb2) / gh))), some (.int (zi ((y1 * vb2) / gv))), some (.int (zi ((f2 + ((((y1 * vb2) / gv) / 8) * C2)) + (((x1 * hb2) / gh) / 8)))), none, none]) (S2 := [.int (zi (((y1 * vb2) / gv) % 8)), .int (zi (((x1 * hb2) / gh) % 8)), .int (zi ((f2 + ((((y1 * vb2) / gv) / 8) * C2)) + (((x1 * hb2) / gh) / 8))), .ref x]) rfl (by simp only [zi_add, zi_sub, zi_mul, zi_neg, zi_and1, zi_and7, zi_and15, zi_and31, zi_and255]) (by simp only [zi_add, zi_sub, zi_mul, zi_neg, zi_and1, zi_and7, zi_and15, zi_and31, zi_and255]) ?_
    have hl258 : h.2.2.2.1 co = h.2.2.2.1 co := congrFun hS.2.2.2.2.1 co
    refine gz_call rfl (by decide) rfl (by decide) (by decide) (gcal_of rfl rfl rfl (Nat.le_of_ble_eq_true rfl) (gJ.recv (G := gGG) hS.1 tx rfl rfl)) (cl_Picture_exactAt _ hS.1 x tx ((f2 + ((((y1 * vb2) / gv) / 8) * C2)) + (((x1 * hb2) / gh) / 8)) (by omega) (((x1 * hb2) / gh) % 8) (by omega) (((y1 * vb2) / gv) % 8) (by omega) bn ebn tbn b0 eb0 tb0 b1 eb1 tb1 b2 eb2 tb2 co eco tco (gSta.fr hS.2 (by decide) hyst) cn ecn (by omega) tq0 etq0 (by omega) tq1 etq1 (by omega) tq2 etq2 (by omega) (by omega) (by omega) (by omega) (by omega) uq) (fun q259 _ wq259 => ?_)
    obtain ⟨pq259, oq259, hq259⟩ := q259
    obtain ⟨xq259, zq259, gq259, aq259, bq259⟩ := wq259
    refine ⟨_, gq259, ?_⟩
    show gz gPP gGG gcn _ _ 75 [some (.ref x), some (.int (zi n)), some (.int (zi x1)), some (.int (zi y1)), some (.ref b2), some (.int (zi ((x1 * hb2) / gh))), some (.int (zi ((y1 * vb2) / gv))), some (.int (zi ((f2 + ((((y1 * vb2) / gv) / 8) * C2)) + (((x1 * hb2) / gh) / 8)))), none, none] [.long (zl zq259)] hq259 _
    have sq259 : gSs rT 1027 ty [] h hq259 := gSs.tr hS xq259 (by decide)
    have s260 := (xq259.2.2.2.2.2 x 0 (by rw [tx]; decide)).trans ebn
    have s261 := (xq259.2.2.2.2.2 bn 0 (by rw [tbn]; decide)).trans eb0
    have s262 := (xq259.2.2.2.2.2 bn 1 (by rw [tbn]; decide)).trans eb1
    have s263 := (xq259.2.2.2.2.2 bn 2 (by rw [tbn]; decide)).trans eb2
    have s264 := (xq259.2.2.2.2.2 x 2 (by rw [tx]; decide)).trans eco
    have s265 := (xq259.2.2.2.2.2 x 7 (by rw [tx]; decide)).trans ecn
    have s266 := (xq259.2.2.2.2.2 x 12 (by rw [tx]; decide)).trans euc
    have s267 := (xq259.2.2.2.2.2 x 13 (by rw [tx]; decide)).trans eur
    have s268 := (xq259.2.2.2.2.2 x 8 (by rw [tx]; decide)).trans ebl
    have s269 := (xq259.2.2.2.2.2 x 5 (by rw [tx]; decide)).trans ew
    have s270 := (xq259.2.2.2.2.2 x 6 (by rw [tx]; decide)).trans ehh
    have s271 := (xq259.2.2.2.2.2 x 10 (by rw [tx]; decide)).trans egh
    have s272 := (xq259.2.2.2.2.2 x 11 (by rw [tx]; decide)).trans egv
    have s273 := (xq259.2.2.2.2.2 b0 1 (by rw [tb0]; decide)).trans ehb0
    have s274 := (xq259.2.2.2.2.2 b0 2 (by rw [tb0]; decide)).trans evb0
    have s275 := (xq259.2.2.2.2.2 b0 4 (by rw [tb0]; decide)).trans eC0
    have s276 := (xq259.2.2.2.2.2 b0 5 (by rw [tb0]; decide)).trans eR0
    have s277 := (xq259.2.2.2.2.2 b0 6 (by rw [tb0]; decide)).trans eoc0
    have s278 := (xq259.2.2.2.2.2 b0 7 (by rw [tb0]; decide)).trans eor0
    have s279 := (xq259.2.2.2.2.2 b0 8 (by rw [tb0]; decide)).trans ef0
    have s280 := (xq259.2.2.2.2.2 b1 1 (by rw [tb1]; decide)).trans ehb1
    have s281 := (xq259.2.2.2.2.2 b1 2 (by rw [tb1]; decide)).trans evb1
    have s282 := (xq259.2.2.2.2.2 b1 4 (by rw [tb1]; decide)).trans eC1
    have s283 := (xq259.2.2.2.2.2 b1 5 (by rw [tb1]; decide)).trans eR1
    have s284 := (xq259.2.2.2.2.2 b1 6 (by rw [tb1]; decide)).trans eoc1
    have s285 := (xq259.2.2.2.2.2 b1 7 (by rw [tb1]; decide)).trans eor1
    have s286 := (xq259.2.2.2.2.2 b1 8 (by rw [tb1]; decide)).trans ef1
    have s287 := (xq259.2.2.2.2.2 b2 1 (by rw [tb2]; decide)).trans ehb2
    have s288 := (xq259.2.2.2.2.2 b2 2 (by rw [tb2]; decide)).trans evb2
    have s289 := (xq259.2.2.2.2.2 b2 4 (by rw [tb2]; decide)).trans eC2
    have s290 := (xq259.2.2.2.2.2 b2 5 (by rw [tb2]; decide)).trans eR2
    have s291 := (xq259.2.2.2.2.2 b2 6 (by rw [tb2]; decide)).trans eoc2
    have s292 := (xq259.2.2.2.2.2 b2 7 (by rw [tb2]; decide)).trans eor2
    have s293 := (xq259.2.2.2.2.2 b2 8 (by rw [tb2]; decide)).trans ef2
    have s294 := (xq259.2.2.2.2.2 b0 3 (by rw [tb0]; decide)).trans etq0
    have s295 := (xq259.2.2.2.2.2 b1 3 (by rw [tb1]; decide)).trans etq1
    have s296 := (xq259.2.2.2.2.2 b2 3 (by rw [tb2]; decide)).trans etq2
    refine gz_1 rfl (by decide) rfl rfl (pc' := 78) (S' := [.long (zl 33554432), .long (zl zq259)]) (h' := hq259) rfl ?_
    refine gy_s 1 (pc' := 79) (L' := [some (.ref x), some (.int (zi n)), some (.int (zi x1)), some (.int (zi y1)), some (.ref b2), some (.int (zi ((x1 * hb2) / gh))), some (.int (zi ((y1 * vb2) / gv))), some (.int (zi ((f2 + ((((y1 * vb2) / gv) / 8) * C2)) + (((x1 * hb2) / gh) / 8)))), none, none]) (S' := [.long ((zl zq259) + (zl 33554432))]) (L2 := [some (.ref x), some (.int (zi n)), some (.int (zi x1)), some (.int (zi y1)), some (.ref b2), some (.int (zi ((x1 * hb2) / gh))), some (.int (zi ((y1 * vb2) / gv))), some (.int (zi ((f2 + ((((y1 * vb2) / gv) / 8) * C2)) + (((x1 * hb2) / gh) / 8)))), none, none]) (S2 := [.long (zl (zq259 + 33554432))]) rfl (by simp only [zi_add, zi_sub, zi_mul, zi_neg, zi_and1, zi_and7, zi_and15, zi_and31, zi_and255, zl_add, zl_sub, zl_mul, zl_neg]) (by simp only [zi_add, zi_sub, zi_mul, zi_neg, zi_and1, zi_and7, zi_and15, zi_and31, zi_and255, zl_add, zl_sub, zl_mul, zl_neg]) ?_
    refine gy_lany (fun z297 ez297 az297 bz297 => ?_)
    refine gz_s 1 (pc' := 81) (L' := [some (.ref x), some (.int (zi n)), some (.int (zi x1)), some (.int (zi y1)), some (.ref b2), some (.int (zi ((x1 * hb2) / gh))), some (.int (zi ((y1 * vb2) / gv))), some (.int (zi ((f2 + ((((y1 * vb2) / gv) / 8) * C2)) + (((x1 * hb2) / gh) / 8)))), none, none]) (S' := [.int (zi 26), .long (zl z297)]) rfl ?_
    refine gy_lshr rfl (by decide) (by omega) (by omega) (fun z298 az298 bz298 cz298 => ?_)
    refine gz_s 2 (pc' := 85) (L' := [some (.ref x), some (.int (zi n)), some (.int (zi x1)), some (.int (zi y1)), some (.ref b2), some (.int (zi ((x1 * hb2) / gh))), some (.int (zi ((y1 * vb2) / gv))), some (.int (zi ((f2 + ((((y1 * vb2) / gv) / 8) * C2)) + (((x1 * hb2) / gh) / 8)))), some (.long (zl z298)), none]) (S' := [.long (zl 0)]) rfl ?_
    refine gz_1 rfl (by decide) rfl rfl (pc' := 88) (S' := [.long (zl 255), .long (zl 0)]) (h' := hq259) rfl ?_
    refine gz_s 1 (pc' := 90) (L' := [some (.ref x), some (.int (zi n)), some (.int (zi x1)), some (.int (zi y1)), some (.ref b2), some (.int (zi ((x1 * hb2) / gh))), some (.int (zi ((y1 * vb2) / gv))), some (.int (zi ((f2 + ((((y1 * vb2) / gv) / 8) * C2)) + (((x1 * hb2) / gh) / 8)))), some (.long (zl z298)), none]) (S' := [.long (zl z298), .long (zl 255), .long (zl 0)]) rfl ?_
    refine gz_1 rfl (by decide) rfl rfl (pc' := 93) (S' := [.long (zl 128), .long (zl z298), .long (zl 255), .long (zl 0)]) (h' := hq259) rfl ?_
    refine gy_s 1 (pc' := 94) (L' := [some (.ref x), some (.int (zi n)), some (.int (zi x1)), some (.int (zi y1)), some (.ref b2), some (.int (zi ((x1 * hb2) / gh))), some (.int (zi ((y1 * vb2) / gv))), some (.int (zi ((f2 + ((((y1 * vb2) / gv) / 8) * C2)) + (((x1 * hb2) / gh) / 8)))), some (.long (zl z298)), none]) (S' := [.long ((zl z298) + (zl 128)), .long (zl 255), .long (zl 0)]) (L2 := [some (.ref x), some (.int (zi n)), some (.int (zi x1)), some (.int (zi y1)), some (.ref b2), some (.int (zi ((x1 * hb2) / gh))), some (.int (zi ((y1 * vb2) / gv))), some (.int (zi ((f2 + ((((y1 * vb2) / gv) / 8) * C2)) + (((x1 * hb2) / gh) / 8)))), some (.long (zl z298)), none]) (S2 := [.long (zl (z298 + 128)), .long (zl 255), .long (zl 0)]) rfl (by simp only [zi_add, zi_sub, zi_mul, zi_neg, zi_and1, zi_and7, zi_and15, zi_and31, zi_and255, zl_add, zl_sub, zl_mul, zl_neg]) (by simp only [zi_add, zi_sub, zi_mul, zi_neg, zi_and1, zi_and7, zi_and15, zi_and31, zi_and255, zl_add, zl_sub, zl_mul, zl_neg]) ?_
    refine gy_lany (fun z299 ez299 az299 bz299 => ?_)
    refine gz_call rfl (by decide) rfl (by decide) (by decide) (gcal_of rfl rfl rfl (Nat.le_of_ble_eq_true rfl) rfl) (cl_Math_minL _ sq259.1 255 (by omega) z299 (by omega) ) (fun q300 _ wq300 => ?_)
    obtain ⟨pq300, oq300, hq300⟩ := q300
    obtain ⟨xq300, zq300, gq300, aq300, bq300, uq300_0, uq300_1, uq300_2⟩ := wq300
    refine ⟨_, gq300, ?_⟩
    show gz gPP gGG gcn _ _ 97 [some (.ref x), some (.int (zi n)), some (.int (zi x1)), some (.int (zi y1)), some (.ref b2), some (.int (zi ((x1 * hb2) / gh))), some (.int (zi ((y1 * vb2) / gv))), some (.int (zi ((f2 + ((((y1 * vb2) / gv) / 8) * C2)) + (((x1 * hb2) / gh) / 8)))), some (.long (zl z298)), none] [.long (zl zq300), .long (zl 0)] hq300 _
    have sq300 : gSs rT 1027 ty [] h hq300 := gSs.tr sq259 xq300 (by decide)
    have s301 := (xq300.2.2.2.2.2 x 0 (by rw [tx]; decide)).trans s260
    have s302 := (xq300.2.2.2.2.2 bn 0 (by rw [tbn]; decide)).trans s261
    have s303 := (xq300.2.2.2.2.2 bn 1 (by rw [tbn]; decide)).trans s262
    have s304 := (xq300.2.2.2.2.2 bn 2 (by rw [tbn]; decide)).trans s263
    have s305 := (xq300.2.2.2.2.2 x 2 (by rw [tx]; decide)).trans s264
    have s306 := (xq300.2.2.2.2.2 x 7 (by rw [tx]; decide)).trans s265
    have s307 := (xq300.2.2.2.2.2 x 12 (by rw [tx]; decide)).trans s266
    have s308 := (xq300.2.2.2.2.2 x 13 (by rw [tx]; decide)).trans s267
    have s309 := (xq300.2.2.2.2.2 x 8 (by rw [tx]; decide)).trans s268
    have s310 := (xq300.2.2.2.2.2 x 5 (by rw [tx]; decide)).trans s269
    have s311 := (xq300.2.2.2.2.2 x 6 (by rw [tx]; decide)).trans s270
    have s312 := (xq300.2.2.2.2.2 x 10 (by rw [tx]; decide)).trans s271
    have s313 := (xq300.2.2.2.2.2 x 11 (by rw [tx]; decide)).trans s272
    have s314 := (xq300.2.2.2.2.2 b0 1 (by rw [tb0]; decide)).trans s273
    have s315 := (xq300.2.2.2.2.2 b0 2 (by rw [tb0]; decide)).trans s274
    have s316 := (xq300.2.2.2.2.2 b0 4 (by rw [tb0]; decide)).trans s275
    have s317 := (xq300.2.2.2.2.2 b0 5 (by rw [tb0]; decide)).trans s276
    have s318 := (xq300.2.2.2.2.2 b0 6 (by rw [tb0]; decide)).trans s277
    have s319 := (xq300.2.2.2.2.2 b0 7 (by rw [tb0]; decide)).trans s278
    have s320 := (xq300.2.2.2.2.2 b0 8 (by rw [tb0]; decide)).trans s279
    have s321 := (xq300.2.2.2.2.2 b1 1 (by rw [tb1]; decide)).trans s280
    have s322 := (xq300.2.2.2.2.2 b1 2 (by rw [tb1]; decide)).trans s281
    have s323 := (xq300.2.2.2.2.2 b1 4 (by rw [tb1]; decide)).trans s282
    have s324 := (xq300.2.2.2.2.2 b1 5 (by rw [tb1]; decide)).trans s283
    have s325 := (xq300.2.2.2.2.2 b1 6 (by rw [tb1]; decide)).trans s284
    have s326 := (xq300.2.2.2.2.2 b1 7 (by rw [tb1]; decide)).trans s285
    have s327 := (xq300.2.2.2.2.2 b1 8 (by rw [tb1]; decide)).trans s286
    have s328 := (xq300.2.2.2.2.2 b2 1 (by rw [tb2]; decide)).trans s287
    have s329 := (xq300.2.2.2.2.2 b2 2 (by rw [tb2]; decide)).trans s288
    have s330 := (xq300.2.2.2.2.2 b2 4 (by rw [tb2]; decide)).trans s289
    have s331 := (xq300.2.2.2.2.2 b2 5 (by rw [tb2]; decide)).trans s290
    have s332 := (xq300.2.2.2.2.2 b2 6 (by rw [tb2]; decide)).trans s291
    have s333 := (xq300.2.2.2.2.2 b2 7 (by rw [tb2]; decide)).trans s292
    have s334 := (xq300.2.2.2.2.2 b2 8 (by rw [tb2]; decide)).trans s293
    have s335 := (xq300.2.2.2.2.2 b0 3 (by rw [tb0]; decide)).trans s294
    have s336 := (xq300.2.2.2.2.2 b1 3 (by rw [tb1]; decide)).trans s295
    have s337 := (xq300.2.2.2.2.2 b2 3 (by rw [tb2]; decide)).trans s296
    refine gz_call rfl (by decide) rfl (by decide) (by decide) (gcal_of rfl rfl rfl (Nat.le_of_ble_eq_true rfl) rfl) (cl_Math_maxL _ sq300.1 0 (by omega) zq300 (by omega) ) (fun q338 _ wq338 => ?_)
    obtain ⟨pq338, oq338, hq338⟩ := q338
    obtain ⟨xq338, zq338, gq338, aq338, bq338, uq338_0, uq338_1, uq338_2⟩ := wq338
    refine ⟨_, gq338, ?_⟩
    show gz gPP gGG gcn _ _ 100 [some (.ref x), some (.int (zi n)), some (.int (zi x1)), some (.int (zi y1)), some (.ref b2), some (.int (zi ((x1 * hb2) / gh))), some (.int (zi ((y1 * vb2) / gv))), some (.int (zi ((f2 + ((((y1 * vb2) / gv) / 8) * C2)) + (((x1 * hb2) / gh) / 8)))), some (.long (zl z298)), none] [.long (zl zq338)] hq338 _
    have sq338 : gSs rT 1027 ty [] h hq338 := gSs.tr sq300 xq338 (by decide)
    have s339 := (xq338.2.2.2.2.2 x 0 (by rw [tx]; decide)).trans s301
    have s340 := (xq338.2.2.2.2.2 bn 0 (by rw [tbn]; decide)).trans s302
    have s341 := (xq338.2.2.2.2.2 bn 1 (by rw [tbn]; decide)).trans s303
    have s342 := (xq338.2.2.2.2.2 bn 2 (by rw [tbn]; decide)).trans s304
    have s343 := (xq338.2.2.2.2.2 x 2 (by rw [tx]; decide)).trans s305
    have s344 := (xq338.2.2.2.2.2 x 7 (by rw [tx]; decide)).trans s306
    have s345 := (xq338.2.2.2.2.2 x 12 (by rw [tx]; decide)).trans s307
    have s346 := (xq338.2.2.2.2.2 x 13 (by rw [tx]; decide)).trans s308
    have s347 := (xq338.2.2.2.2.2 x 8 (by rw [tx]; decide)).trans s309
    have s348 := (xq338.2.2.2.2.2 x 5 (by rw [tx]; decide)).trans s310
    have s349 := (xq338.2.2.2.2.2 x 6 (by rw [tx]; decide)).trans s311
    have s350 := (xq338.2.2.2.2.2 x 10 (by rw [tx]; decide)).trans s312
    have s351 := (xq338.2.2.2.2.2 x 11 (by rw [tx]; decide)).trans s313
    have s352 := (xq338.2.2.2.2.2 b0 1 (by rw [tb0]; decide)).trans s314
    have s353 := (xq338.2.2.2.2.2 b0 2 (by rw [tb0]; decide)).trans s315
    have s354 := (xq338.2.2.2.2.2 b0 4 (by rw [tb0]; decide)).trans s316
    have s355 := (xq338.2.2.2.2.2 b0 5 (by rw [tb0]; decide)).trans s317
    have s356 := (xq338.2.2.2.2.2 b0 6 (by rw [tb0]; decide)).trans s318
    have s357 := (xq338.2.2.2.2.2 b0 7 (by rw [tb0]; decide)).trans s319
    have s358 := (xq338.2.2.2.2.2 b0 8 (by rw [tb0]; decide)).trans s320
    have s359 := (xq338.2.2.2.2.2 b1 1 (by rw [tb1]; decide)).trans s321
    have s360 := (xq338.2.2.2.2.2 b1 2 (by rw [tb1]; decide)).trans s322
    have s361 := (xq338.2.2.2.2.2 b1 4 (by rw [tb1]; decide)).trans s323
    have s362 := (xq338.2.2.2.2.2 b1 5 (by rw [tb1]; decide)).trans s324
    have s363 := (xq338.2.2.2.2.2 b1 6 (by rw [tb1]; decide)).trans s325
    have s364 := (xq338.2.2.2.2.2 b1 7 (by rw [tb1]; decide)).trans s326
    have s365 := (xq338.2.2.2.2.2 b1 8 (by rw [tb1]; decide)).trans s327
    have s366 := (xq338.2.2.2.2.2 b2 1 (by rw [tb2]; decide)).trans s328
    have s367 := (xq338.2.2.2.2.2 b2 2 (by rw [tb2]; decide)).trans s329
    have s368 := (xq338.2.2.2.2.2 b2 4 (by rw [tb2]; decide)).trans s330
    have s369 := (xq338.2.2.2.2.2 b2 5 (by rw [tb2]; decide)).trans s331
    have s370 := (xq338.2.2.2.2.2 b2 6 (by rw [tb2]; decide)).trans s332
    have s371 := (xq338.2.2.2.2.2 b2 7 (by rw [tb2]; decide)).trans s333
    have s372 := (xq338.2.2.2.2.2 b2 8 (by rw [tb2]; decide)).trans s334
    have s373 := (xq338.2.2.2.2.2 b0 3 (by rw [tb0]; decide)).trans s335
    have s374 := (xq338.2.2.2.2.2 b1 3 (by rw [tb1]; decide)).trans s336
    have s375 := (xq338.2.2.2.2.2 b2 3 (by rw [tb2]; decide)).trans s337
    refine gy_l2i rfl (by decide) ?_
    exact gz_end (I := .ireturn) (len := 1) rfl (Or.inl rfl) ⟨sq338, zq338, rfl, (by omega), (by omega)⟩
set_option maxRecDepth 20000 in
set_option maxHeartbeats 4000000 in
theorem cl_Picture_countDamaged (d : Nat) {ty : Nat → Nat} {h : gH} (hJ : gJ rT 1027 ty h) (x : Nat) (tx : ty x = 54) (dm : Nat) (edm : h.2.2.2.2 x 3 = .ref dm) (tdm : ty dm = 113) (bl : Int) (ebl : h.2.2.2.2 x 8 = .int (zi bl)) (rbl : 0 ≤ bl ∧ bl ≤ 192) (pp0 : bl ≤ (h.2.2.2.1 dm : Int)) (uq : gUq ty) : gz gPP gGG gcn (d + 0) gt83 0 (gent [.ref x] 3) [] h (fun q _ => gSs rT 1027 ty [] h q.2.2 ∧ ∃ z : Int, gfin gt83 q.1 q.2.1 = some (some (.int (zi z))) ∧ 0 ≤ z ∧ z ≤ 192) := by
  have hS : gSs rT 1027 ty [] h h := gSs.rf hJ
  refine gz_s 4 (pc' := 4) (L' := [some (.ref x), some (.int (zi 0)), some (.int (zi 0))]) (S' := []) rfl ?_
  have lp1 : ∀ (fu : Nat) (h2 : gH) (n : Int) (i : Int), (193 - i).toNat < fu → gSs rT 1027 ty [] h h2 → (0 ≤ n ∧ n ≤ 192) → (0 ≤ i ∧ i ≤ 192) → (n ≤ i) → h2.2.2.2.2 x 3 = .ref dm → h2.2.2.2.2 x 8 = .int (zi bl) → gz gPP gGG gcn (d + 0) gt83 4 [some (.ref x), some (.int (zi n)), some (.int (zi i))] [] h2 (fun q _ => gSs rT 1027 ty [] h q.2.2 ∧ ∃ z : Int, gfin gt83 q.1 q.2.1 = some (some (.int (zi z))) ∧ 0 ≤ z ∧ z ≤ 192) := by
    intro fu
    induction fu with
    | zero => intro h2 n i hm; exact absurd hm (Nat.not_lt_zero _)
    | succ fu ihlp1 =>
      intro h2 n i lp1m sh2 lp1f0 lp1f1 lp1f2 lp1k0 lp1k1
      refine gz_s 2 (pc' := 6) (L' := [some (.ref x), some (.int (zi n)), some (.int (zi i))]) (S' := [.ref x, .int (zi i)]) rfl ?_
      refine gs_gtk rfl (by decide) rfl sh2.1 tx rfl rfl lp1k1 ?_
      by_cases hc3 : (bl : Int) ≤ i
      · refine gy_icT (pc' := 27) rfl (by decide) (by decide) (by omega) (by omega) hc3 ?_
        refine gz_s 1 (pc' := 28) (L' := [some (.ref x), some (.int (zi n)), some (.int (zi i))]) (S' := [.int (zi n)]) rfl ?_
        exact gz_end (I := .ireturn) (len := 1) rfl (Or.inl rfl) ⟨sh2, n, rfl, (by omega), (by omega)⟩
      · refine gy_icF rfl (by decide) (by decide) (by omega) (by omega) hc3 ?_
        refine gz_s 2 (pc' := 14) (L' := [some (.ref x), some (.int (zi n)), some (.int (zi i))]) (S' := [.ref x, .int (zi n)]) rfl ?_
        refine gs_gtk rfl (by decide) rfl sh2.1 tx rfl rfl lp1k0 ?_
        refine gz_s 1 (pc' := 18) (L' := [some (.ref x), some (.int (zi n)), some (.int (zi i))]) (S' := [.int (zi i), .ref dm, .int (zi n)]) rfl ?_
        have hl4 : 0 ≤ h2.2.2.2.1 dm ∧ h2.2.2.2.1 dm ≤ 192 := gJ.rowl (G := gGG) sh2.1 tdm rfl
        have hl5 : h2.2.2.2.1 dm = h.2.2.2.1 dm := congrFun sh2.2.2.2.2.1 dm
        refine gs_ald rfl (by decide) sh2.1 tdm rfl rfl rfl (by decide) (fun _ => rfl) (by omega) (by omega) (fun z6 ez6 az6 bz6 => ?_)
        refine gy_s 4 (pc' := 4) (L' := [some (.ref x), some (.int ((zi n) + (zi z6))), some (.int ((zi i) + zi 1))]) (S' := []) (L2 := [some (.ref x), some (.int (zi (n + z6))), some (.int (zi (i + 1)))]) (S2 := []) rfl (by simp only [zi_add, zi_sub, zi_mul, zi_neg, zi_and1, zi_and7, zi_and15, zi_and31, zi_and255]) (by simp only [zi_add, zi_sub, zi_mul, zi_neg, zi_and1, zi_and7, zi_and15, zi_and31, zi_and255]) ?_
        exact gz_wk (ihlp1 h2 (n + z6) (i + 1) (by omega) sh2 (by omega) (by omega) (by omega) lp1k0 lp1k1) (gLw.s (gLw.s (gLw.s gLw.z)))
  exact gz_wk (lp1 _ h 0 0 (Nat.lt_succ_self _) hS (by omega) (by omega) (by omega) edm ebl) (gLw.s (gLw.s (gLw.s gLw.z)))
set_option maxRecDepth 20000 in
set_option maxHeartbeats 4000000 in
theorem cl_Picture_toldOfAll (d : Nat) {ty : Nat → Nat} {h : gH} (hJ : gJ rT 1027 ty h) (x : Nat) (tx : ty x = 54) (wt : Int) (rwt : 0 ≤ wt ∧ wt ≤ 5) (dm : Nat) (edm : h.2.2.2.2 x 3 = .ref dm) (tdm : ty dm = 113) (bl : Int) (ebl : h.2.2.2.2 x 8 = .int (zi bl)) (rbl : 0 ≤ bl ∧ bl ≤ 192) (pp0 : bl ≤ (h.2.2.2.1 dm : Int)) (uq : gUq ty) : gz gPP gGG gcn (d + 1) gt82 0 (gent [.ref x, .int (zi wt)] 2) [] h (fun q _ => gSs rT 1027 ty [] h q.2.2 ∧ ∃ z : Int, gfin gt82 q.1 q.2.1 = some (some (.int (zi z))) ∧ (-2147483648) ≤ z ∧ z ≤ 2147483647) := by
  have hS : gSs rT 1027 ty [] h h := gSs.rf hJ
  refine gz_s 1 (pc' := 1) (L' := [some (.ref x), some (.int (zi wt))]) (S' := [.int (zi wt)]) rfl ?_
  rcases (by omega : wt = 0 ∨ wt = 1 ∨ wt = 2 ∨ wt = 3 ∨ wt = 4 ∨ (¬ wt = 0 ∧ ¬ wt = 1 ∧ ¬ wt = 2 ∧ ¬ wt = 3 ∧ ¬ wt = 4)) with he1 | he1 | he1 | he1 | he1 | he1
  · refine gy_tab (pc' := 36) (v := 0) (off := 35) rfl (by decide) (by decide) he1 (by decide) rfl (by decide) ?_
    refine gz_s 1 (pc' := 37) (L' := [some (.ref x), some (.int (zi wt))]) (S' := [.ref x]) rfl ?_
    refine gs_get rfl (by decide) rfl hS.1 tx rfl rfl rfl (fun z2 ez2 az2 bz2 => ?_)
    exact gz_end (I := .ireturn) (len := 1) rfl (Or.inl rfl) ⟨hS, z2, rfl, (by omega), (by omega)⟩
  · refine gy_tab (pc' := 41) (v := 1) (off := 40) rfl (by decide) (by decide) he1 (by decide) rfl (by decide) ?_
    refine gz_s 1 (pc' := 42) (L' := [some (.ref x), some (.int (zi wt))]) (S' := [.ref x]) rfl ?_
    refine gs_get rfl (by decide) rfl hS.1 tx rfl rfl rfl (fun z3 ez3 az3 bz3 => ?_)
    exact gz_end (I := .ireturn) (len := 1) rfl (Or.inl rfl) ⟨hS, z3, rfl, (by omega), (by omega)⟩
  · refine gy_tab (pc' := 46) (v := 2) (off := 45) rfl (by decide) (by decide) he1 (by decide) rfl (by decide) ?_
    refine gz_s 1 (pc' := 47) (L' := [some (.ref x), some (.int (zi wt))]) (S' := [.ref x]) rfl ?_
    refine gs_get rfl (by decide) rfl hS.1 tx rfl rfl rfl (fun z4 ez4 az4 bz4 => ?_)
    exact gz_end (I := .ireturn) (len := 1) rfl (Or.inl rfl) ⟨hS, z4, rfl, (by omega), (by omega)⟩
  · refine gy_tab (pc' := 51) (v := 3) (off := 50) rfl (by decide) (by decide) he1 (by decide) rfl (by decide) ?_
    refine gz_s 1 (pc' := 52) (L' := [some (.ref x), some (.int (zi wt))]) (S' := [.ref x]) rfl ?_
    refine gs_gtk rfl (by decide) rfl hS.1 tx rfl rfl ebl ?_
    exact gz_end (I := .ireturn) (len := 1) rfl (Or.inl rfl) ⟨hS, bl, rfl, (by omega), (by omega)⟩
  · refine gy_tab (pc' := 56) (v := 4) (off := 55) rfl (by decide) (by decide) he1 (by decide) rfl (by decide) ?_
    refine gz_s 1 (pc' := 57) (L' := [some (.ref x), some (.int (zi wt))]) (S' := [.ref x]) rfl ?_
    refine gs_get rfl (by decide) rfl hS.1 tx rfl rfl rfl (fun z5 ez5 az5 bz5 => ?_)
    exact gz_end (I := .ireturn) (len := 1) rfl (Or.inl rfl) ⟨hS, z5, rfl, (by omega), (by omega)⟩
  · refine gy_tabD (pc' := 61) rfl (by decide) (by omega) (by omega) (by decide) ?_
    refine gz_s 1 (pc' := 62) (L' := [some (.ref x), some (.int (zi wt))]) (S' := [.ref x]) rfl ?_
    have hl6 : h.2.2.2.1 dm = h.2.2.2.1 dm := congrFun hS.2.2.2.2.1 dm
    refine gz_call rfl (by decide) rfl (by decide) (by decide) (gcal_of rfl rfl rfl (Nat.le_of_ble_eq_true rfl) (gJ.recv (G := gGG) hS.1 tx rfl rfl)) (cl_Picture_countDamaged _ hS.1 x tx dm edm tdm bl ebl (by omega) (by omega) uq) (fun q7 _ wq7 => ?_)
    obtain ⟨pq7, oq7, hq7⟩ := q7
    obtain ⟨xq7, zq7, gq7, aq7, bq7⟩ := wq7
    refine ⟨_, gq7, ?_⟩
    show gz gPP gGG gcn _ _ 65 [some (.ref x), some (.int (zi wt))] [.int (zi zq7)] hq7 _
    have sq7 : gSs rT 1027 ty [] h hq7 := gSs.tr hS xq7 (by decide)
    have s8 := (xq7.2.2.2.2.2 x 3 (by rw [tx]; decide)).trans edm
    have s9 := (xq7.2.2.2.2.2 x 8 (by rw [tx]; decide)).trans ebl
    exact gz_end (I := .ireturn) (len := 1) rfl (Or.inl rfl) ⟨sq7, zq7, rfl, (by omega), (by omega)⟩
set_option maxRecDepth 20000 in
set_option maxHeartbeats 4000000 in
theorem cl_Picture_toldOfBlock (d : Nat) {ty : Nat → Nat} {h : gH} (hJ : gJ rT 1027 ty h) (x : Nat) (tx : ty x = 54) (bk : Int) (rbk : 0 ≤ bk ∧ bk ≤ 191) (wt : Int) (rwt : 0 ≤ wt ∧ wt ≤ 3) (bn : Nat) (ebn : h.2.2.2.2 x 0 = .ref bn) (tbn : ty bn = 57) (b0 : Nat) (eb0 : h.2.2.2.2 bn 0 = .ref b0) (tb0 : ty b0 = 82) (b1 : Nat) (eb1 : h.2.2.2.2 bn 1 = .ref b1) (tb1 : ty b1 = 83) (b2 : Nat) (eb2 : h.2.2.2.2 bn 2 = .ref b2) (tb2 : ty b2 = 84) (dm : Nat) (edm : h.2.2.2.2 x 3 = .ref dm) (tdm : ty dm = 113) (cn : Int) (ecn : h.2.2.2.2 x 7 = .int (zi cn)) (rcn : 1 ≤ cn ∧ cn ≤ 3) (bl : Int) (ebl : h.2.2.2.2 x 8 = .int (zi bl)) (rbl : 0 ≤ bl ∧ bl ≤ 192) (pp0 : bk < bl) (pp1 : bl ≤ (h.2.2.2.1 dm : Int)) (uq : gUq ty) : gz gPP gGG gcn (d + 1) gt84 0 (gent [.ref x, .int (zi bk), .int (zi wt)] 7) [] h (fun q _ => gSs rT 1027 ty [] h q.2.2 ∧ ∃ z : Int, gfin gt84 q.1 q.2.1 = some (some (.int (zi z))) ∧ (-2147483648) ≤ z ∧ z ≤ 2147483647) := by
  have hS : gSs rT 1027 ty [] h h := gSs.rf hJ
  refine gz_s 2 (pc' := 2) (L' := [some (.ref x), some (.int (zi bk)), some (.int (zi wt)), none, none, none, none]) (S' := [.int (zi bk), .ref x]) rfl ?_
  refine gz_call rfl (by decide) rfl (by decide) (by decide) (gcal_of rfl rfl rfl (Nat.le_of_ble_eq_true rfl) (gJ.recv (G := gGG) hS.1 tx rfl rfl)) (cl_Picture_bandOf _ hS.1 x tx bk (by omega) bn ebn tbn cn ecn (by omega) uq) (fun q1 _ wq1 => ?_)
  obtain ⟨pq1, oq1, hq1⟩ := q1
  obtain ⟨xq1, zq1, gq1, aq1, bq1, uq1_0⟩ := wq1
  refine ⟨_, gq1, ?_⟩
  show gz gPP gGG gcn _ _ 5 [some (.ref x), some (.int (zi bk)), some (.int (zi wt)), none, none, none, none] [.int (zi zq1)] hq1 _
  have sq1 : gSs rT 1027 ty [] h hq1 := gSs.tr hS xq1 (by decide)
  have s2 := (xq1.2.2.2.2.2 x 0 (by rw [tx]; decide)).trans ebn
  have s3 := (xq1.2.2.2.2.2 bn 0 (by rw [tbn]; decide)).trans eb0
  have s4 := (xq1.2.2.2.2.2 bn 1 (by rw [tbn]; decide)).trans eb1
  have s5 := (xq1.2.2.2.2.2 bn 2 (by rw [tbn]; decide)).trans eb2
  have s6 := (xq1.2.2.2.2.2 x 3 (by rw [tx]; decide)).trans edm
  have s7 := (xq1.2.2.2.2.2 x 7 (by rw [tx]; decide)).trans ecn
  have s8 := (xq1.2.2.2.2.2 x 8 (by rw [tx]; decide)).trans ebl
  refine gz_s 2 (pc' := 7) (L' := [some (.ref x), some (.int (zi bk)), some (.int (zi wt)), some (.int (zi zq1)), none, none, none]) (S' := [.ref x]) rfl ?_
  refine gs_gtk rfl (by decide) rfl sq1.1 tx rfl rfl s2 ?_
  refine gz_s 1 (pc' := 11) (L' := [some (.ref x), some (.int (zi bk)), some (.int (zi wt)), some (.int (zi zq1)), none, none, none]) (S' := [.int (zi zq1), .ref bn]) rfl ?_
  rcases (by omega : zq1 = 0 ∨ zq1 = 1 ∨ zq1 = 2) with he11 | he11 | he11
  · refine gs_aak (j := 0) rfl (by decide) sq1.1 tbn rfl rfl rfl (by decide) he11 (by decide) s3 ?_
    refine gz_s 3 (pc' := 17) (L' := [some (.ref x), some (.int (zi bk)), some (.int (zi wt)), some (.int (zi zq1)), some (.ref b0), none, none]) (S' := [.ref b0, .int (zi bk)]) rfl ?_
    refine gs_get rfl (by decide) rfl sq1.1 tb0 rfl rfl rfl (fun z12 ez12 az12 bz12 => ?_)
    refine gy_s 4 (pc' := 26) (L' := [some (.ref x), some (.int (zi bk)), some (.int (zi wt)), some (.int (zi zq1)), some (.ref b0), some (.int ((zi bk) - (zi z12))), none]) (S' := [.ref b0, .int (zi 1)]) (L2 := [some (.ref x), some (.int (zi bk)), some (.int (zi wt)), some (.int (zi zq1)), some (.ref b0), some (.int (zi (bk - z12))), none]) (S2 := [.ref b0, .int (zi 1)]) rfl (by simp only [zi_add, zi_sub, zi_mul, zi_neg, zi_and1, zi_and7, zi_and15, zi_and31, zi_and255]) (by simp only [zi_add, zi_sub, zi_mul, zi_neg, zi_and1, zi_and7, zi_and15, zi_and31, zi_and255]) ?_
    refine gs_get rfl (by decide) rfl sq1.1 tb0 rfl rfl rfl (fun z13 ez13 az13 bz13 => ?_)
    refine gz_call rfl (by decide) rfl (by decide) (by decide) (gcal_of rfl rfl rfl (Nat.le_of_ble_eq_true rfl) rfl) (cl_Math_max _ sq1.1 1 (by omega) z13 (by omega) ) (fun q14 _ wq14 => ?_)
    obtain ⟨pq14, oq14, hq14⟩ := q14
    obtain ⟨xq14, zq14, gq14, aq14, bq14, uq14_0, uq14_1, uq14_2⟩ := wq14
    refine ⟨_, gq14, ?_⟩
    show gz gPP gGG gcn _ _ 32 [some (.ref x), some (.int (zi bk)), some (.int (zi wt)), some (.int (zi zq1)), some (.ref b0), some (.int (zi (bk - z12))), none] [.int (zi zq14)] hq14 _
    have sq14 : gSs rT 1027 ty [] h hq14 := gSs.tr sq1 xq14 (by decide)
    have s15 := (xq14.2.2.2.2.2 x 0 (by rw [tx]; decide)).trans s2
    have s16 := (xq14.2.2.2.2.2 bn 0 (by rw [tbn]; decide)).trans s3
    have s17 := (xq14.2.2.2.2.2 bn 1 (by rw [tbn]; decide)).trans s4
    have s18 := (xq14.2.2.2.2.2 bn 2 (by rw [tbn]; decide)).trans s5
    have s19 := (xq14.2.2.2.2.2 x 3 (by rw [tx]; decide)).trans s6
    have s20 := (xq14.2.2.2.2.2 x 7 (by rw [tx]; decide)).trans s7
    have s21 := (xq14.2.2.2.2.2 x 8 (by rw [tx]; decide)).trans s8
    have s22 := (xq14.2.2.2.2.2 b0 8 (by rw [tb0]; decide)).trans ez12
    have s23 := (xq14.2.2.2.2.2 b0 4 (by rw [tb0]; decide)).trans ez13
    refine gz_s 2 (pc' := 35) (L' := [some (.ref x), some (.int (zi bk)), some (.int (zi wt)), some (.int (zi zq1)), some (.ref b0), some (.int (zi (bk - z12))), some (.int (zi zq14))]) (S' := [.int (zi wt)]) rfl ?_
    rcases (by omega : wt = 0 ∨ wt = 1 ∨ wt = 2 ∨ (¬ wt = 0 ∧ ¬ wt = 1 ∧ ¬ wt = 2)) with he24 | he24 | he24 | he24
    · refine gy_tab (pc' := 60) (v := 0) (off := 25) rfl (by decide) (by decide) he24 (by decide) rfl (by decide) ?_
      refine gz_s 1 (pc' := 61) (L' := [some (.ref x), some (.int (zi bk)), some (.int (zi wt)), some (.int (zi zq1)), some (.ref b0), some (.int (zi (bk - z12))), some (.int (zi zq14))]) (S' := [.int (zi zq1)]) rfl ?_
      exact gz_end (I := .ireturn) (len := 1) rfl (Or.inl rfl) ⟨sq14, zq1, rfl, (by omega), (by omega)⟩
    · refine gy_tab (pc' := 62) (v := 1) (off := 27) rfl (by decide) (by decide) he24 (by decide) rfl (by decide) ?_
      refine gz_s 2 (pc' := 66) (L' := [some (.ref x), some (.int (zi bk)), some (.int (zi wt)), some (.int (zi zq1)), some (.ref b0), some (.int (zi (bk - z12))), some (.int (zi zq14))]) (S' := [.int (zi zq14), .int (zi (bk - z12))]) rfl ?_
      refine gy_rmv rfl (by decide) (by omega) (by omega) (fun z25 az25 bz25 cz25 => ?_)
      exact gz_end (I := .ireturn) (len := 1) rfl (Or.inl rfl) ⟨sq14, z25, rfl, (by omega), (by omega)⟩
    · refine gy_tab (pc' := 68) (v := 2) (off := 33) rfl (by decide) (by decide) he24 (by decide) rfl (by decide) ?_
      refine gz_s 2 (pc' := 72) (L' := [some (.ref x), some (.int (zi bk)), some (.int (zi wt)), some (.int (zi zq1)), some (.ref b0), some (.int (zi (bk - z12))), some (.int (zi zq14))]) (S' := [.int (zi zq14), .int (zi (bk - z12))]) rfl ?_
      refine gy_dvv rfl (by decide) (by omega) (by omega) (fun z26 az26 bz26 cz26 => ?_)
      exact gz_end (I := .ireturn) (len := 1) rfl (Or.inl rfl) ⟨sq14, z26, rfl, (by omega), (by omega)⟩
    · refine gy_tabD (pc' := 74) rfl (by decide) (by omega) (by omega) (by decide) ?_
      refine gz_s 1 (pc' := 75) (L' := [some (.ref x), some (.int (zi bk)), some (.int (zi wt)), some (.int (zi zq1)), some (.ref b0), some (.int (zi (bk - z12))), some (.int (zi zq14))]) (S' := [.ref x]) rfl ?_
      refine gs_gtk rfl (by decide) rfl sq14.1 tx rfl rfl s19 ?_
      refine gz_s 1 (pc' := 79) (L' := [some (.ref x), some (.int (zi bk)), some (.int (zi wt)), some (.int (zi zq1)), some (.ref b0), some (.int (zi (bk - z12))), some (.int (zi zq14))]) (S' := [.int (zi bk), .ref dm]) rfl ?_
      have hl27 : 0 ≤ hq14.2.2.2.1 dm ∧ hq14.2.2.2.1 dm ≤ 192 := gJ.rowl (G := gGG) sq14.1 tdm rfl
      have hl28 : hq14.2.2.2.1 dm = h.2.2.2.1 dm := congrFun sq14.2.2.2.2.1 dm
      refine gs_ald rfl (by decide) sq14.1 tdm rfl rfl rfl (by decide) (fun _ => rfl) (by omega) (by omega) (fun z29 ez29 az29 bz29 => ?_)
      exact gz_end (I := .ireturn) (len := 1) rfl (Or.inl rfl) ⟨sq14, z29, rfl, (by omega), (by omega)⟩
  · refine gs_aak (j := 1) rfl (by decide) sq1.1 tbn rfl rfl rfl (by decide) he11 (by decide) s4 ?_
    refine gz_s 3 (pc' := 17) (L' := [some (.ref x), some (.int (zi bk)), some (.int (zi wt)), some (.int (zi zq1)), some (.ref b1), none, none]) (S' := [.ref b1, .int (zi bk)]) rfl ?_
    refine gs_get rfl (by decide) rfl sq1.1 tb1 rfl rfl rfl (fun z30 ez30 az30 bz30 => ?_)
    refine gy_s 4 (pc' := 26) (L' := [some (.ref x), some (.int (zi bk)), some (.int (zi wt)), some (.int (zi zq1)), some (.ref b1), some (.int ((zi bk) - (zi z30))), none]) (S' := [.ref b1, .int (zi 1)]) (L2 := [some (.ref x), some (.int (zi bk)), some (.int (zi wt)), some (.int (zi zq1)), some (.ref b1), some (.int (zi (bk - z30))), none]) (S2 := [.ref b1, .int (zi 1)]) rfl (by simp only [zi_add, zi_sub, zi_mul, zi_neg, zi_and1, zi_and7, zi_and15, zi_and31, zi_and255]) (by simp only [zi_add, zi_sub, zi_mul, zi_neg, zi_and1, zi_and7, zi_and15, zi_and31, zi_and255]) ?_
    refine gs_get rfl (by decide) rfl sq1.1 tb1 rfl rfl rfl (fun z31 ez31 az31 bz31 => ?_)
    refine gz_call rfl (by decide) rfl (by decide) (by decide) (gcal_of rfl rfl rfl (Nat.le_of_ble_eq_true rfl) rfl) (cl_Math_max _ sq1.1 1 (by omega) z31 (by omega) ) (fun q32 _ wq32 => ?_)
    obtain ⟨pq32, oq32, hq32⟩ := q32
    obtain ⟨xq32, zq32, gq32, aq32, bq32, uq32_0, uq32_1, uq32_2⟩ := wq32
    refine ⟨_, gq32, ?_⟩
    show gz gPP gGG gcn _ _ 32 [some (.ref x), some (.int (zi bk)), some (.int (zi wt)), some (.int (zi zq1)), some (.ref b1), some (.int (zi (bk - z30))), none] [.int (zi zq32)] hq32 _
    have sq32 : gSs rT 1027 ty [] h hq32 := gSs.tr sq1 xq32 (by decide)
    have s33 := (xq32.2.2.2.2.2 x 0 (by rw [tx]; decide)).trans s2
    have s34 := (xq32.2.2.2.2.2 bn 0 (by rw [tbn]; decide)).trans s3
    have s35 := (xq32.2.2.2.2.2 bn 1 (by rw [tbn]; decide)).trans s4
    have s36 := (xq32.2.2.2.2.2 bn 2 (by rw [tbn]; decide)).trans s5
    have s37 := (xq32.2.2.2.2.2 x 3 (by rw [tx]; decide)).trans s6
    have s38 := (xq32.2.2.2.2.2 x 7 (by rw [tx]; decide)).trans s7
    have s39 := (xq32.2.2.2.2.2 x 8 (by rw [tx]; decide)).trans s8
    have s40 := (xq32.2.2.2.2.2 b1 8 (by rw [tb1]; decide)).trans ez30
    have s41 := (xq32.2.2.2.2.2 b1 4 (by rw [tb1]; decide)).trans ez31
    refine gz_s 2 (pc' := 35) (L' := [some (.ref x), some (.int (zi bk)), some (.int (zi wt)), some (.int (zi zq1)), some (.ref b1), some (.int (zi (bk - z30))), some (.int (zi zq32))]) (S' := [.int (zi wt)]) rfl ?_
    rcases (by omega : wt = 0 ∨ wt = 1 ∨ wt = 2 ∨ (¬ wt = 0 ∧ ¬ wt = 1 ∧ ¬ wt = 2)) with he42 | he42 | he42 | he42
    · refine gy_tab (pc' := 60) (v := 0) (off := 25) rfl (by decide) (by decide) he42 (by decide) rfl (by decide) ?_
      refine gz_s 1 (pc' := 61) (L' := [some (.ref x), some (.int (zi bk)), some (.int (zi wt)), some (.int (zi zq1)), some (.ref b1), some (.int (zi (bk - z30))), some (.int (zi zq32))]) (S' := [.int (zi zq1)]) rfl ?_
      exact gz_end (I := .ireturn) (len := 1) rfl (Or.inl rfl) ⟨sq32, zq1, rfl, (by omega), (by omega)⟩
    · refine gy_tab (pc' := 62) (v := 1) (off := 27) rfl (by decide) (by decide) he42 (by decide) rfl (by decide) ?_
      refine gz_s 2 (pc' := 66) (L' := [some (.ref x), some (.int (zi bk)), some (.int (zi wt)), some (.int (zi zq1)), some (.ref b1), some (.int (zi (bk - z30))), some (.int (zi zq32))]) (S' := [.int (zi zq32), .int (zi (bk - z30))]) rfl ?_
      refine gy_rmv rfl (by decide) (by omega) (by omega) (fun z43 az43 bz43 cz43 => ?_)
      exact gz_end (I := .ireturn) (len := 1) rfl (Or.inl rfl) ⟨sq32, z43, rfl, (by omega), (by omega)⟩
    · refine gy_tab (pc' := 68) (v := 2) (off := 33) rfl (by decide) (by decide) he42 (by decide) rfl (by decide) ?_
      refine gz_s 2 (pc' := 72) (L' := [some (.ref x), some (.int (zi bk)), some (.int (zi wt)), some (.int (zi zq1)), some (.ref b1), some (.int (zi (bk - z30))), some (.int (zi zq32))]) (S' := [.int (zi zq32), .int (zi (bk - z30))]) rfl ?_
      refine gy_dvv rfl (by decide) (by omega) (by omega) (fun z44 az44 bz44 cz44 => ?_)
      exact gz_end (I := .ireturn) (len := 1) rfl (Or.inl rfl) ⟨sq32, z44, rfl, (by omega), (by omega)⟩
    · refine gy_tabD (pc' := 74) rfl (by decide) (by omega) (by omega) (by decide) ?_
      refine gz_s 1 (pc' := 75) (L' := [some (.ref x), some (.int (zi bk)), some (.int (zi wt)), some (.int (zi zq1)), some (.ref b1), some (.int (zi (bk - z30))), some (.int (zi zq32))]) (S' := [.ref x]) rfl ?_
      refine gs_gtk rfl (by decide) rfl sq32.1 tx rfl rfl s37 ?_
      refine gz_s 1 (pc' := 79) (L' := [some (.ref x), some (.int (zi bk)), some (.int (zi wt)), some (.int (zi zq1)), some (.ref b1), some (.int (zi (bk - z30))), some (.int (zi zq32))]) (S' := [.int (zi bk), .ref dm]) rfl ?_
      have hl45 : 0 ≤ hq32.2.2.2.1 dm ∧ hq32.2.2.2.1 dm ≤ 192 := gJ.rowl (G := gGG) sq32.1 tdm rfl
      have hl46 : hq32.2.2.2.1 dm = h.2.2.2.1 dm := congrFun sq32.2.2.2.2.1 dm
      refine gs_ald rfl (by decide) sq32.1 tdm rfl rfl rfl (by decide) (fun _ => rfl) (by omega) (by omega) (fun z47 ez47 az47 bz47 => ?_)
      exact gz_end (I := .ireturn) (len := 1) rfl (Or.inl rfl) ⟨sq32, z47, rfl, (by omega), (by omega)⟩
  · refine gs_aak (j := 2) rfl (by decide) sq1.1 tbn rfl rfl rfl (by decide) he11 (by decide) s5 ?_
    refine gz_s 3 (pc' := 17) (L' := [some (.ref x), some (.int (zi bk)), some (.int (zi wt)), some (.int (zi zq1)), some (.ref b2), none, none]) (S' := [.ref b2, .int (zi bk)]) rfl ?_
    refine gs_get rfl (by decide) rfl sq1.1 tb2 rfl rfl rfl (fun z48 ez48 az48 bz48 => ?_)
    refine gy_s 4 (pc' := 26) (L' := [some (.ref x), some (.int (zi bk)), some (.int (zi wt)), some (.int (zi zq1)), some (.ref b2), some (.int ((zi bk) - (zi z48))), none]) (S' := [.ref b2, .int (zi 1)]) (L2 := [some (.ref x), some (.int (zi bk)), some (.int (zi wt)), some (.int (zi zq1)), some (.ref b2), some (.int (zi (bk - z48))), none]) (S2 := [.ref b2, .int (zi 1)]) rfl (by simp only [zi_add, zi_sub, zi_mul, zi_neg, zi_and1, zi_and7, zi_and15, zi_and31, zi_and255]) (by simp only [zi_add, zi_sub, zi_mul, zi_neg, zi_and1, zi_and7, zi_and15, zi_and31, zi_and255]) ?_
    refine gs_get rfl (by decide) rfl sq1.1 tb2 rfl rfl rfl (fun z49 ez49 az49 bz49 => ?_)
    refine gz_call rfl (by decide) rfl (by decide) (by decide) (gcal_of rfl rfl rfl (Nat.le_of_ble_eq_true rfl) rfl) (cl_Math_max _ sq1.1 1 (by omega) z49 (by omega) ) (fun q50 _ wq50 => ?_)
    obtain ⟨pq50, oq50, hq50⟩ := q50
    obtain ⟨xq50, zq50, gq50, aq50, bq50, uq50_0, uq50_1, uq50_2⟩ := wq50
    refine ⟨_, gq50, ?_⟩
    show gz gPP gGG gcn _ _ 32 [some (.ref x), some (.int (zi bk)), some (.int (zi wt)), some (.int (zi zq1)), some (.ref b2), some (.int (zi (bk - z48))), none] [.int (zi zq50)] hq50 _
    have sq50 : gSs rT 1027 ty [] h hq50 := gSs.tr sq1 xq50 (by decide)
    have s51 := (xq50.2.2.2.2.2 x 0 (by rw [tx]; decide)).trans s2
    have s52 := (xq50.2.2.2.2.2 bn 0 (by rw [tbn]; decide)).trans s3
    have s53 := (xq50.2.2.2.2.2 bn 1 (by rw [tbn]; decide)).trans s4
    have s54 := (xq50.2.2.2.2.2 bn 2 (by rw [tbn]; decide)).trans s5
    have s55 := (xq50.2.2.2.2.2 x 3 (by rw [tx]; decide)).trans s6
    have s56 := (xq50.2.2.2.2.2 x 7 (by rw [tx]; decide)).trans s7
    have s57 := (xq50.2.2.2.2.2 x 8 (by rw [tx]; decide)).trans s8
    have s58 := (xq50.2.2.2.2.2 b2 8 (by rw [tb2]; decide)).trans ez48
    have s59 := (xq50.2.2.2.2.2 b2 4 (by rw [tb2]; decide)).trans ez49
    refine gz_s 2 (pc' := 35) (L' := [some (.ref x), some (.int (zi bk)), some (.int (zi wt)), some (.int (zi zq1)), some (.ref b2), some (.int (zi (bk - z48))), some (.int (zi zq50))]) (S' := [.int (zi wt)]) rfl ?_
    rcases (by omega : wt = 0 ∨ wt = 1 ∨ wt = 2 ∨ (¬ wt = 0 ∧ ¬ wt = 1 ∧ ¬ wt = 2)) with he60 | he60 | he60 | he60
    · refine gy_tab (pc' := 60) (v := 0) (off := 25) rfl (by decide) (by decide) he60 (by decide) rfl (by decide) ?_
      refine gz_s 1 (pc' := 61) (L' := [some (.ref x), some (.int (zi bk)), some (.int (zi wt)), some (.int (zi zq1)), some (.ref b2), some (.int (zi (bk - z48))), some (.int (zi zq50))]) (S' := [.int (zi zq1)]) rfl ?_
      exact gz_end (I := .ireturn) (len := 1) rfl (Or.inl rfl) ⟨sq50, zq1, rfl, (by omega), (by omega)⟩
    · refine gy_tab (pc' := 62) (v := 1) (off := 27) rfl (by decide) (by decide) he60 (by decide) rfl (by decide) ?_
      refine gz_s 2 (pc' := 66) (L' := [some (.ref x), some (.int (zi bk)), some (.int (zi wt)), some (.int (zi zq1)), some (.ref b2), some (.int (zi (bk - z48))), some (.int (zi zq50))]) (S' := [.int (zi zq50), .int (zi (bk - z48))]) rfl ?_
      refine gy_rmv rfl (by decide) (by omega) (by omega) (fun z61 az61 bz61 cz61 => ?_)
      exact gz_end (I := .ireturn) (len := 1) rfl (Or.inl rfl) ⟨sq50, z61, rfl, (by omega), (by omega)⟩
    · refine gy_tab (pc' := 68) (v := 2) (off := 33) rfl (by decide) (by decide) he60 (by decide) rfl (by decide) ?_
      refine gz_s 2 (pc' := 72) (L' := [some (.ref x), some (.int (zi bk)), some (.int (zi wt)), some (.int (zi zq1)), some (.ref b2), some (.int (zi (bk - z48))), some (.int (zi zq50))]) (S' := [.int (zi zq50), .int (zi (bk - z48))]) rfl ?_
      refine gy_dvv rfl (by decide) (by omega) (by omega) (fun z62 az62 bz62 cz62 => ?_)
      exact gz_end (I := .ireturn) (len := 1) rfl (Or.inl rfl) ⟨sq50, z62, rfl, (by omega), (by omega)⟩
    · refine gy_tabD (pc' := 74) rfl (by decide) (by omega) (by omega) (by decide) ?_
      refine gz_s 1 (pc' := 75) (L' := [some (.ref x), some (.int (zi bk)), some (.int (zi wt)), some (.int (zi zq1)), some (.ref b2), some (.int (zi (bk - z48))), some (.int (zi zq50))]) (S' := [.ref x]) rfl ?_
      refine gs_gtk rfl (by decide) rfl sq50.1 tx rfl rfl s55 ?_
      refine gz_s 1 (pc' := 79) (L' := [some (.ref x), some (.int (zi bk)), some (.int (zi wt)), some (.int (zi zq1)), some (.ref b2), some (.int (zi (bk - z48))), some (.int (zi zq50))]) (S' := [.int (zi bk), .ref dm]) rfl ?_
      have hl63 : 0 ≤ hq50.2.2.2.1 dm ∧ hq50.2.2.2.1 dm ≤ 192 := gJ.rowl (G := gGG) sq50.1 tdm rfl
      have hl64 : hq50.2.2.2.1 dm = h.2.2.2.1 dm := congrFun sq50.2.2.2.2.1 dm
      refine gs_ald rfl (by decide) sq50.1 tdm rfl rfl rfl (by decide) (fun _ => rfl) (by omega) (by omega) (fun z65 ez65 az65 bz65 => ?_)
      exact gz_end (I := .ireturn) (len := 1) rfl (Or.inl rfl) ⟨sq50, z65, rfl, (by omega), (by omega)⟩
set_option maxRecDepth 20000 in
set_option maxHeartbeats 4000000 in
theorem cl_placeBand0 (d : Nat) {ty : Nat → Nat} {h : gH} (hJ : gJ rT 1027 ty h) (x : Nat) (tx : ty x = 54) (bd : Nat) (tbd : ty bd = 82) (uc : Int) (euc : h.2.2.2.2 x 12 = .int (zi uc)) (ruc : 1 ≤ uc ∧ uc ≤ 8) (ur : Int) (eur : h.2.2.2.2 x 13 = .int (zi ur)) (rur : 1 ≤ ur ∧ ur ≤ 8) (bl : Int) (ebl : h.2.2.2.2 x 8 = .int (zi bl)) (rbl : 0 ≤ bl ∧ bl ≤ 128) (w : Int) (ew : h.2.2.2.2 x 5 = .int (zi w)) (rw : 1 ≤ w ∧ w ≤ 64) (hh : Int) (ehh : h.2.2.2.2 x 6 = .int (zi hh)) (rhh : 1 ≤ hh ∧ hh ≤ 64) (gh : Int) (egh : h.2.2.2.2 x 10 = .int (zi gh)) (rgh : 1 ≤ gh ∧ gh ≤ 2) (gv : Int) (egv : h.2.2.2.2 x 11 = .int (zi gv)) (rgv : 1 ≤ gv ∧ gv ≤ 2) (hb : Int) (ehb : h.2.2.2.2 bd 1 = .int (zi hb)) (rhb : 1 ≤ hb ∧ hb ≤ 2) (vb : Int) (evb : h.2.2.2.2 bd 2 = .int (zi vb)) (rvb : 1 ≤ vb ∧ vb ≤ 2) (pp0 : uc = zup w (8 * gh)) (pp1 : ur = zup hh (8 * gv)) (pp2 : hb ≤ gh) (pp3 : vb ≤ gv) (uq : gUq ty) : gz gPP gGG gcn (d + 1) gt34 0 (gent [.ref x, .ref bd] 2) [] h (fun q _ => gSs rT 1027 ty [54008, 82004, 82005, 82006, 82007, 82008] h q.2.2 ∧ ∃ C R oc or1 f bl1 : Int, gfin gt34 q.1 q.2.1 = some none ∧ q.2.2.2.2.2.2 bd 4 = .int (zi C) ∧ 0 ≤ C ∧ C ≤ 16 ∧ q.2.2.2.2.2.2 bd 5 = .int (zi R) ∧ 0 ≤ R ∧ R ≤ 16 ∧ q.2.2.2.2.2.2 bd 6 = .int (zi oc) ∧ 0 ≤ oc ∧ oc ≤ 16 ∧ q.2.2.2.2.2.2 bd 7 = .int (zi or1) ∧ 0 ≤ or1 ∧ or1 ≤ 16 ∧ q.2.2.2.2.2.2 bd 8 = .int (zi f) ∧ 0 ≤ f ∧ f ≤ 192 ∧ q.2.2.2.2.2.2 x 8 = .int (zi bl1) ∧ 0 ≤ bl1 ∧ bl1 ≤ 192 ∧ (C = uc * hb) ∧ (R = ur * vb) ∧ (1 ≤ oc) ∧ (oc ≤ C) ∧ (1 ≤ or1) ∧ (or1 ≤ R) ∧ (f = bl) ∧ (bl1 = bl + C * R) ∧ (C ≤ 8) ∧ (R ≤ 8) ∧ (C * R ≤ 64) ∧ (1 ≤ C * R)) := by
  have hS : gSs rT 1027 ty [54008, 82004, 82005, 82006, 82007, 82008] h h := gSs.rf hJ
  have zC := zupC (w := w) (wd := gh) (hb := hb) (by omega) (by omega) (by omega) (by omega)
  have zR := zupC (w := hh) (wd := gv) (hb := vb) (by omega) (by omega) (by omega) (by omega)
  have zE : uc * hb = zup w (8 * gh) * hb := by rw [pp0]
  have zF : ur * vb = zup hh (8 * gv) * vb := by rw [pp1]
  have zP := zb3 (a := uc * hb) (b := ur * vb) (by omega) (by omega)
  refine gz_s 2 (pc' := 2) (L' := [some (.ref x), some (.ref bd)]) (S' := [.ref x, .ref bd]) rfl ?_
  refine gs_gtk rfl (by decide) rfl hS.1 tx rfl rfl euc ?_
  refine gz_s 1 (pc' := 6) (L' := [some (.ref x), some (.ref bd)]) (S' := [.ref bd, .int (zi uc), .ref bd]) rfl ?_
  refine gs_gtk rfl (by decide) rfl hS.1 tbd rfl rfl ehb ?_
  have hx1 := zx_f (a := uc) (b := hb) (A := 8) (B := 2) (by omega) (by omega) (by omega) (by omega)
  refine gy_s 1 (pc' := 10) (L' := [some (.ref x), some (.ref bd)]) (S' := [.int ((zi uc) * (zi hb)), .ref bd]) (L2 := [some (.ref x), some (.ref bd)]) (S2 := [.int (zi (uc * hb)), .ref bd]) rfl (by simp only [zi_add, zi_sub, zi_mul, zi_neg, zi_and1, zi_and7, zi_and15, zi_and31, zi_and255]) (by simp only [zi_add, zi_sub, zi_mul, zi_neg, zi_and1, zi_and7, zi_and15, zi_and31, zi_and255]) ?_
  refine gs_put rfl (by decide) rfl hS tbd rfl rfl rfl rfl (Or.inl rfl) (by decide) (by omega) (by omega) (fun h2 sh2 eh2 fh2 => ?_)
  have s3 := (fh2 x 12 (fun q => absurd q.2 (by decide))).trans euc
  have s4 := (fh2 x 13 (fun q => absurd q.2 (by decide))).trans eur
  have s5 := (fh2 x 8 (fun q => absurd q.2 (by decide))).trans ebl
  have s6 := (fh2 x 5 (fun q => absurd q.2 (by decide))).trans ew
  have s7 := (fh2 x 6 (fun q => absurd q.2 (by decide))).trans ehh
  have s8 := (fh2 x 10 (fun q => absurd q.2 (by decide))).trans egh
  have s9 := (fh2 x 11 (fun q => absurd q.2 (by decide))).trans egv
  have s10 := (fh2 bd 1 (fun q => absurd q.2 (by decide))).trans ehb
  have s11 := (fh2 bd 2 (fun q => absurd q.2 (by decide))).trans evb
  refine gz_s 2 (pc' := 15) (L' := [some (.ref x), some (.ref bd)]) (S' := [.ref x, .ref bd]) rfl ?_
  refine gs_gtk rfl (by decide) rfl sh2.1 tx rfl rfl s4 ?_
  refine gz_s 1 (pc' := 19) (L' := [some (.ref x), some (.ref bd)]) (S' := [.ref bd, .int (zi ur), .ref bd]) rfl ?_
  refine gs_gtk rfl (by decide) rfl sh2.1 tbd rfl rfl s11 ?_
  have hx12 := zx_f (a := ur) (b := vb) (A := 8) (B := 2) (by omega) (by omega) (by omega) (by omega)
  refine gy_s 1 (pc' := 23) (L' := [some (.ref x), some (.ref bd)]) (S' := [.int ((zi ur) * (zi vb)), .ref bd]) (L2 := [some (.ref x), some (.ref bd)]) (S2 := [.int (zi (ur * vb)), .ref bd]) rfl (by simp only [zi_add, zi_sub, zi_mul, zi_neg, zi_and1, zi_and7, zi_and15, zi_and31, zi_and255]) (by simp only [zi_add, zi_sub, zi_mul, zi_neg, zi_and1, zi_and7, zi_and15, zi_and31, zi_and255]) ?_
  refine gs_put rfl (by decide) rfl sh2 tbd rfl rfl rfl rfl (Or.inl rfl) (by decide) (by omega) (by omega) (fun h13 sh13 eh13 fh13 => ?_)
  have s14 := (fh13 x 12 (fun q => absurd q.2 (by decide))).trans s3
  have s15 := (fh13 x 13 (fun q => absurd q.2 (by decide))).trans s4
  have s16 := (fh13 x 8 (fun q => absurd q.2 (by decide))).trans s5
  have s17 := (fh13 x 5 (fun q => absurd (((tx).symm.trans (congrArg ty q.1)).trans tbd) (by decide))).trans s6
  have s18 := (fh13 x 6 (fun q => absurd q.2 (by decide))).trans s7
  have s19 := (fh13 x 10 (fun q => absurd q.2 (by decide))).trans s8
  have s20 := (fh13 x 11 (fun q => absurd q.2 (by decide))).trans s9
  have s21 := (fh13 bd 1 (fun q => absurd q.2 (by decide))).trans s10
  have s22 := (fh13 bd 2 (fun q => absurd q.2 (by decide))).trans s11
  have s23 := (fh13 bd 4 (fun q => absurd q.2 (by decide))).trans eh2
  refine gz_s 2 (pc' := 28) (L' := [some (.ref x), some (.ref bd)]) (S' := [.ref x, .ref bd]) rfl ?_
  refine gs_gtk rfl (by decide) rfl sh13.1 tx rfl rfl s17 ?_
  refine gz_s 1 (pc' := 32) (L' := [some (.ref x), some (.ref bd)]) (S' := [.ref bd, .int (zi w), .ref bd]) rfl ?_
  refine gs_gtk rfl (by decide) rfl sh13.1 tbd rfl rfl s21 ?_
  have hx24 := zx_f (a := w) (b := hb) (A := 64) (B := 2) (by omega) (by omega) (by omega) (by omega)
  refine gy_s 2 (pc' := 37) (L' := [some (.ref x), some (.ref bd)]) (S' := [.ref x, .int ((zi w) * (zi hb)), .ref bd]) (L2 := [some (.ref x), some (.ref bd)]) (S2 := [.ref x, .int (zi (w * hb)), .ref bd]) rfl (by simp only [zi_add, zi_sub, zi_mul, zi_neg, zi_and1, zi_and7, zi_and15, zi_and31, zi_and255]) (by simp only [zi_add, zi_sub, zi_mul, zi_neg, zi_and1, zi_and7, zi_and15, zi_and31, zi_and255]) ?_
  refine gs_gtk rfl (by decide) rfl sh13.1 tx rfl rfl s19 ?_
  refine gz_call rfl (by decide) rfl (by decide) (by decide) (gcal_of rfl rfl rfl (Nat.le_of_ble_eq_true rfl) rfl) (cl_DctFilter_upward _ sh13.1 (w * hb) (by omega) gh (by omega) ) (fun q25 _ wq25 => ?_)
  obtain ⟨pq25, oq25, hq25⟩ := q25
  obtain ⟨xq25, zq25, gq25, aq25, bq25, uq25_0⟩ := wq25
  subst uq25_0
  refine ⟨_, gq25, ?_⟩
  show gz gPP gGG gcn _ _ 43 [some (.ref x), some (.ref bd)] [.int (zi (zup (w * hb) gh)), .ref bd] hq25 _
  have sq25 : gSs rT 1027 ty [54008, 82004, 82005, 82006, 82007, 82008] h hq25 := gSs.tr sh13 xq25 (by decide)
  have s26 := (xq25.2.2.2.2.2 x 12 (by rw [tx]; decide)).trans s14
  have s27 := (xq25.2.2.2.2.2 x 13 (by rw [tx]; decide)).trans s15
  have s28 := (xq25.2.2.2.2.2 x 8 (by rw [tx]; decide)).trans s16
  have s29 := (xq25.2.2.2.2.2 x 5 (by rw [tx]; decide)).trans s17
  have s30 := (xq25.2.2.2.2.2 x 6 (by rw [tx]; decide)).trans s18
  have s31 := (xq25.2.2.2.2.2 x 10 (by rw [tx]; decide)).trans s19
  have s32 := (xq25.2.2.2.2.2 x 11 (by rw [tx]; decide)).trans s20
  have s33 := (xq25.2.2.2.2.2 bd 1 (by rw [tbd]; decide)).trans s21
  have s34 := (xq25.2.2.2.2.2 bd 2 (by rw [tbd]; decide)).trans s22
  have s35 := (xq25.2.2.2.2.2 bd 4 (by rw [tbd]; decide)).trans s23
  have s36 := (xq25.2.2.2.2.2 bd 5 (by rw [tbd]; decide)).trans eh13
  refine gz_s 1 (pc' := 45) (L' := [some (.ref x), some (.ref bd)]) (S' := [.int (zi 8), .int (zi (zup (w * hb) gh)), .ref bd]) rfl ?_
  refine gz_call rfl (by decide) rfl (by decide) (by decide) (gcal_of rfl rfl rfl (Nat.le_of_ble_eq_true rfl) rfl) (cl_DctFilter_upward _ sq25.1 (zup (w * hb) gh) (by omega) 8 (by omega) ) (fun q37 _ wq37 => ?_)
  obtain ⟨pq37, oq37, hq37⟩ := q37
  obtain ⟨xq37, zq37, gq37, aq37, bq37, uq37_0⟩ := wq37
  subst uq37_0
  refine ⟨_, gq37, ?_⟩
  show gz gPP gGG gcn _ _ 48 [some (.ref x), some (.ref bd)] [.int (zi (zup (zup (w * hb) gh) 8)), .ref bd] hq37 _
  have sq37 : gSs rT 1027 ty [54008, 82004, 82005, 82006, 82007, 82008] h hq37 := gSs.tr sq25 xq37 (by decide)
  have s38 := (xq37.2.2.2.2.2 x 12 (by rw [tx]; decide)).trans s26
  have s39 := (xq37.2.2.2.2.2 x 13 (by rw [tx]; decide)).trans s27
  have s40 := (xq37.2.2.2.2.2 x 8 (by rw [tx]; decide)).trans s28
  have s41 := (xq37.2.2.2.2.2 x 5 (by rw [tx]; decide)).trans s29
  have s42 := (xq37.2.2.2.2.2 x 6 (by rw [tx]; decide)).trans s30
  have s43 := (xq37.2.2.2.2.2 x 10 (by rw [tx]; decide)).trans s31
  have s44 := (xq37.2.2.2.2.2 x 11 (by rw [tx]; decide)).trans s32
  have s45 := (xq37.2.2.2.2.2 bd 1 (by rw [tbd]; decide)).trans s33
  have s46 := (xq37.2.2.2.2.2 bd 2 (by rw [tbd]; decide)).trans s34
  have s47 := (xq37.2.2.2.2.2 bd 4 (by rw [tbd]; decide)).trans s35
  have s48 := (xq37.2.2.2.2.2 bd 5 (by rw [tbd]; decide)).trans s36
  refine gs_put rfl (by decide) rfl sq37 tbd rfl rfl rfl rfl (Or.inl rfl) (by decide) (by omega) (by omega) (fun h49 sh49 eh49 fh49 => ?_)
  have s50 := (fh49 x 12 (fun q => absurd q.2 (by decide))).trans s38
  have s51 := (fh49 x 13 (fun q => absurd q.2 (by decide))).trans s39
  have s52 := (fh49 x 8 (fun q => absurd q.2 (by decide))).trans s40
  have s53 := (fh49 x 5 (fun q => absurd q.2 (by decide))).trans s41
  have s54 := (fh49 x 6 (fun q => absurd (((tx).symm.trans (congrArg ty q.1)).trans tbd) (by decide))).trans s42
  have s55 := (fh49 x 10 (fun q => absurd q.2 (by decide))).trans s43
  have s56 := (fh49 x 11 (fun q => absurd q.2 (by decide))).trans s44
  have s57 := (fh49 bd 1 (fun q => absurd q.2 (by decide))).trans s45
  have s58 := (fh49 bd 2 (fun q => absurd q.2 (by decide))).trans s46
  have s59 := (fh49 bd 4 (fun q => absurd q.2 (by decide))).trans s47
  have s60 := (fh49 bd 5 (fun q => absurd q.2 (by decide))).trans s48
  refine gz_s 2 (pc' := 53) (L' := [some (.ref x), some (.ref bd)]) (S' := [.ref x, .ref bd]) rfl ?_
  refine gs_gtk rfl (by decide) rfl sh49.1 tx rfl rfl s54 ?_
  refine gz_s 1 (pc' := 57) (L' := [some (.ref x), some (.ref bd)]) (S' := [.ref bd, .int (zi hh), .ref bd]) rfl ?_
  refine gs_gtk rfl (by decide) rfl sh49.1 tbd rfl rfl s58 ?_
  have hx61 := zx_f (a := hh) (b := vb) (A := 64) (B := 2) (by omega) (by omega) (by omega) (by omega)
  refine gy_s 2 (pc' := 62) (L' := [some (.ref x), some (.ref bd)]) (S' := [.ref x, .int ((zi hh) * (zi vb)), .ref bd]) (L2 := [some (.ref x), some (.ref bd)]) (S2 := [.ref x, .int (zi (hh * vb)), .ref bd]) rfl (by simp only [zi_add, zi_sub, zi_mul, zi_neg, zi_and1, zi_and7, zi_and15, zi_and31, zi_and255]) (by simp only [zi_add, zi_sub, zi_mul, zi_neg, zi_and1, zi_and7, zi_and15, zi_and31, zi_and255]) ?_
  refine gs_gtk rfl (by decide) rfl sh49.1 tx rfl rfl s56 ?_
  refine gz_call rfl (by decide) rfl (by decide) (by decide) (gcal_of rfl rfl rfl (Nat.le_of_ble_eq_true rfl) rfl) (cl_DctFilter_upward _ sh49.1 (hh * vb) (by omega) gv (by omega) ) (fun q62 _ wq62 => ?_)
  obtain ⟨pq62, oq62, hq62⟩ := q62
  obtain ⟨xq62, zq62, gq62, aq62, bq62, uq62_0⟩ := wq62
  subst uq62_0
  refine ⟨_, gq62, ?_⟩
  show gz gPP gGG gcn _ _ 68 [some (.ref x), some (.ref bd)] [.int (zi (zup (hh * vb) gv)), .ref bd] hq62 _
  have sq62 : gSs rT 1027 ty [54008, 82004, 82005, 82006, 82007, 82008] h hq62 := gSs.tr sh49 xq62 (by decide)
  have s63 := (xq62.2.2.2.2.2 x 12 (by rw [tx]; decide)).trans s50
  have s64 := (xq62.2.2.2.2.2 x 13 (by rw [tx]; decide)).trans s51
  have s65 := (xq62.2.2.2.2.2 x 8 (by rw [tx]; decide)).trans s52
  have s66 := (xq62.2.2.2.2.2 x 5 (by rw [tx]; decide)).trans s53
  have s67 := (xq62.2.2.2.2.2 x 6 (by rw [tx]; decide)).trans s54
  have s68 := (xq62.2.2.2.2.2 x 10 (by rw [tx]; decide)).trans s55
  have s69 := (xq62.2.2.2.2.2 x 11 (by rw [tx]; decide)).trans s56
  have s70 := (xq62.2.2.2.2.2 bd 1 (by rw [tbd]; decide)).trans s57
  have s71 := (xq62.2.2.2.2.2 bd 2 (by rw [tbd]; decide)).trans s58
  have s72 := (xq62.2.2.2.2.2 bd 4 (by rw [tbd]; decide)).trans s59
  have s73 := (xq62.2.2.2.2.2 bd 5 (by rw [tbd]; decide)).trans s60
  have s74 := (xq62.2.2.2.2.2 bd 6 (by rw [tbd]; decide)).trans eh49
  refine gz_s 1 (pc' := 70) (L' := [some (.ref x), some (.ref bd)]) (S' := [.int (zi 8), .int (zi (zup (hh * vb) gv)), .ref bd]) rfl ?_
  refine gz_call rfl (by decide) rfl (by decide) (by decide) (gcal_of rfl rfl rfl (Nat.le_of_ble_eq_true rfl) rfl) (cl_DctFilter_upward _ sq62.1 (zup (hh * vb) gv) (by omega) 8 (by omega) ) (fun q75 _ wq75 => ?_)
  obtain ⟨pq75, oq75, hq75⟩ := q75
  obtain ⟨xq75, zq75, gq75, aq75, bq75, uq75_0⟩ := wq75
  subst uq75_0
  refine ⟨_, gq75, ?_⟩
  show gz gPP gGG gcn _ _ 73 [some (.ref x), some (.ref bd)] [.int (zi (zup (zup (hh * vb) gv) 8)), .ref bd] hq75 _
  have sq75 : gSs rT 1027 ty [54008, 82004, 82005, 82006, 82007, 82008] h hq75 := gSs.tr sq62 xq75 (by decide)
  have s76 := (xq75.2.2.2.2.2 x 12 (by rw [tx]; decide)).trans s63
  have s77 := (xq75.2.2.2.2.2 x 13 (by rw [tx]; decide)).trans s64
  have s78 := (xq75.2.2.2.2.2 x 8 (by rw [tx]; decide)).trans s65
  have s79 := (xq75.2.2.2.2.2 x 5 (by rw [tx]; decide)).trans s66
  have s80 := (xq75.2.2.2.2.2 x 6 (by rw [tx]; decide)).trans s67
  have s81 := (xq75.2.2.2.2.2 x 10 (by rw [tx]; decide)).trans s68
  have s82 := (xq75.2.2.2.2.2 x 11 (by rw [tx]; decide)).trans s69
  have s83 := (xq75.2.2.2.2.2 bd 1 (by rw [tbd]; decide)).trans s70
  have s84 := (xq75.2.2.2.2.2 bd 2 (by rw [tbd]; decide)).trans s71
  have s85 := (xq75.2.2.2.2.2 bd 4 (by rw [tbd]; decide)).trans s72
  have s86 := (xq75.2.2.2.2.2 bd 5 (by rw [tbd]; decide)).trans s73
  have s87 := (xq75.2.2.2.2.2 bd 6 (by rw [tbd]; decide)).trans s74
  refine gs_put rfl (by decide) rfl sq75 tbd rfl rfl rfl rfl (Or.inl rfl) (by decide) (by omega) (by omega) (fun h88 sh88 eh88 fh88 => ?_)
  have s89 := (fh88 x 12 (fun q => absurd q.2 (by decide))).trans s76
  have s90 := (fh88 x 13 (fun q => absurd q.2 (by decide))).trans s77
  have s91 := (fh88 x 8 (fun q => absurd q.2 (by decide))).trans s78
  have s92 := (fh88 x 5 (fun q => absurd q.2 (by decide))).trans s79
  have s93 := (fh88 x 6 (fun q => absurd q.2 (by decide))).trans s80
  have s94 := (fh88 x 10 (fun q => absurd q.2 (by decide))).trans s81
  have s95 := (fh88 x 11 (fun q => absurd q.2 (by decide))).trans s82
  have s96 := (fh88 bd 1 (fun q => absurd q.2 (by decide))).trans s83
  have s97 := (fh88 bd 2 (fun q => absurd q.2 (by decide))).trans s84
  have s98 := (fh88 bd 4 (fun q => absurd q.2 (by decide))).trans s85
  have s99 := (fh88 bd 5 (fun q => absurd q.2 (by decide))).trans s86
  have s100 := (fh88 bd 6 (fun q => absurd q.2 (by decide))).trans s87
  refine gz_s 2 (pc' := 78) (L' := [some (.ref x), some (.ref bd)]) (S' := [.ref x, .ref bd]) rfl ?_
  refine gs_gtk rfl (by decide) rfl sh88.1 tx rfl rfl s91 ?_
  refine gs_put rfl (by decide) rfl sh88 tbd rfl rfl rfl rfl (Or.inl rfl) (by decide) (by omega) (by omega) (fun h101 sh101 eh101 fh101 => ?_)
  have s102 := (fh101 x 12 (fun q => absurd q.2 (by decide))).trans s89
  have s103 := (fh101 x 13 (fun q => absurd q.2 (by decide))).trans s90
  have s104 := (fh101 x 8 (fun q => absurd (((tx).symm.trans (congrArg ty q.1)).trans tbd) (by decide))).trans s91
  have s105 := (fh101 x 5 (fun q => absurd q.2 (by decide))).trans s92
  have s106 := (fh101 x 6 (fun q => absurd q.2 (by decide))).trans s93
  have s107 := (fh101 x 10 (fun q => absurd q.2 (by decide))).trans s94
  have s108 := (fh101 x 11 (fun q => absurd q.2 (by decide))).trans s95
  have s109 := (fh101 bd 1 (fun q => absurd q.2 (by decide))).trans s96
  have s110 := (fh101 bd 2 (fun q => absurd q.2 (by decide))).trans s97
  have s111 := (fh101 bd 4 (fun q => absurd q.2 (by decide))).trans s98
  have s112 := (fh101 bd 5 (fun q => absurd q.2 (by decide))).trans s99
  have s113 := (fh101 bd 6 (fun q => absurd q.2 (by decide))).trans s100
  have s114 := (fh101 bd 7 (fun q => absurd q.2 (by decide))).trans eh88
  refine gz_s 2 (pc' := 86) (L' := [some (.ref x), some (.ref bd)]) (S' := [.ref x, .ref x]) rfl ?_
  refine gs_gtk rfl (by decide) rfl sh101.1 tx rfl rfl s104 ?_
  refine gz_s 1 (pc' := 90) (L' := [some (.ref x), some (.ref bd)]) (S' := [.ref bd, .int (zi bl), .ref x]) rfl ?_
  refine gs_gtk rfl (by decide) rfl sh101.1 tbd rfl rfl s111 ?_
  refine gz_s 1 (pc' := 94) (L' := [some (.ref x), some (.ref bd)]) (S' := [.ref bd, .int (zi (uc * hb)), .int (zi bl), .ref x]) rfl ?_
  refine gs_gtk rfl (by decide) rfl sh101.1 tbd rfl rfl s112 ?_
  have hx115 := zx_f (a := uc * hb) (b := ur * vb) (A := 16) (B := 16) (by omega) (by omega) (by omega) (by omega)
  refine gy_s 2 (pc' := 99) (L' := [some (.ref x), some (.ref bd)]) (S' := [.int ((zi bl) + ((zi (uc * hb)) * (zi (ur * vb)))), .ref x]) (L2 := [some (.ref x), some (.ref bd)]) (S2 := [.int (zi (bl + ((uc * hb) * (ur * vb)))), .ref x]) rfl (by simp only [zi_add, zi_sub, zi_mul, zi_neg, zi_and1, zi_and7, zi_and15, zi_and31, zi_and255]) (by simp only [zi_add, zi_sub, zi_mul, zi_neg, zi_and1, zi_and7, zi_and15, zi_and31, zi_and255]) ?_
  refine gs_put rfl (by decide) rfl sh101 tx rfl rfl rfl rfl (Or.inl rfl) (by decide) (by omega) (by omega) (fun h116 sh116 eh116 fh116 => ?_)
  have s117 := (fh116 x 12 (fun q => absurd q.2 (by decide))).trans s102
  have s118 := (fh116 x 13 (fun q => absurd q.2 (by decide))).trans s103
  have s119 := (fh116 x 5 (fun q => absurd q.2 (by decide))).trans s105
  have s120 := (fh116 x 6 (fun q => absurd q.2 (by decide))).trans s106
  have s121 := (fh116 x 10 (fun q => absurd q.2 (by decide))).trans s107
  have s122 := (fh116 x 11 (fun q => absurd q.2 (by decide))).trans s108
  have s123 := (fh116 bd 1 (fun q => absurd q.2 (by decide))).trans s109
  have s124 := (fh116 bd 2 (fun q => absurd q.2 (by decide))).trans s110
  have s125 := (fh116 bd 4 (fun q => absurd q.2 (by decide))).trans s111
  have s126 := (fh116 bd 5 (fun q => absurd q.2 (by decide))).trans s112
  have s127 := (fh116 bd 6 (fun q => absurd q.2 (by decide))).trans s113
  have s128 := (fh116 bd 7 (fun q => absurd q.2 (by decide))).trans s114
  have s129 := (fh116 bd 8 (fun q => absurd (((tbd).symm.trans (congrArg ty q.1)).trans tx) (by decide))).trans eh101
  exact gz_end (I := .return_) (len := 1) rfl (Or.inl rfl) ⟨sh116, uc * hb, ur * vb, zup (zup (w * hb) gh) 8, zup (zup (hh * vb) gv) 8, bl, bl + ((uc * hb) * (ur * vb)), rfl, s125, (by omega), (by omega), s126, (by omega), (by omega), s127, (by omega), (by omega), s128, (by omega), (by omega), s129, (by omega), (by omega), eh116, (by omega), (by omega), (by omega), (by omega), (by omega), (by omega), (by omega), (by omega), (by omega), (by omega), (by omega), (by omega), (by omega), (by omega)⟩
set_option maxRecDepth 20000 in
set_option maxHeartbeats 4000000 in
theorem cl_placeBand1 (d : Nat) {ty : Nat → Nat} {h : gH} (hJ : gJ rT 1027 ty h) (x : Nat) (tx : ty x = 54) (bd : Nat) (tbd : ty bd = 83) (uc : Int) (euc : h.2.2.2.2 x 12 = .int (zi uc)) (ruc : 1 ≤ uc ∧ uc ≤ 8) (ur : Int) (eur : h.2.2.2.2 x 13 = .int (zi ur)) (rur : 1 ≤ ur ∧ ur ≤ 8) (bl : Int) (ebl : h.2.2.2.2 x 8 = .int (zi bl)) (rbl : 0 ≤ bl ∧ bl ≤ 128) (w : Int) (ew : h.2.2.2.2 x 5 = .int (zi w)) (rw : 1 ≤ w ∧ w ≤ 64) (hh : Int) (ehh : h.2.2.2.2 x 6 = .int (zi hh)) (rhh : 1 ≤ hh ∧ hh ≤ 64) (gh : Int) (egh : h.2.2.2.2 x 10 = .int (zi gh)) (rgh : 1 ≤ gh ∧ gh ≤ 2) (gv : Int) (egv : h.2.2.2.2 x 11 = .int (zi gv)) (rgv : 1 ≤ gv ∧ gv ≤ 2) (hb : Int) (ehb : h.2.2.2.2 bd 1 = .int (zi hb)) (rhb : 1 ≤ hb ∧ hb ≤ 2) (vb : Int) (evb : h.2.2.2.2 bd 2 = .int (zi vb)) (rvb : 1 ≤ vb ∧ vb ≤ 2) (pp0 : uc = zup w (8 * gh)) (pp1 : ur = zup hh (8 * gv)) (pp2 : hb ≤ gh) (pp3 : vb ≤ gv) (uq : gUq ty) : gz gPP gGG gcn (d + 1) gt34 0 (gent [.ref x, .ref bd] 2) [] h (fun q _ => gSs rT 1027 ty [54008, 83004, 83005, 83006, 83007, 83008] h q.2.2 ∧ ∃ C R oc or1 f bl1 : Int, gfin gt34 q.1 q.2.1 = some none ∧ q.2.2.2.2.2.2 bd 4 = .int (zi C) ∧ 0 ≤ C ∧ C ≤ 16 ∧ q.2.2.2.2.2.2 bd 5 = .int (zi R) ∧ 0 ≤ R ∧ R ≤ 16 ∧ q.2.2.2.2.2.2 bd 6 = .int (zi oc) ∧ 0 ≤ oc ∧ oc ≤ 16 ∧ q.2.2.2.2.2.2 bd 7 = .int (zi or1) ∧ 0 ≤ or1 ∧ or1 ≤ 16 ∧ q.2.2.2.2.2.2 bd 8 = .int (zi f) ∧ 0 ≤ f ∧ f ≤ 192 ∧ q.2.2.2.2.2.2 x 8 = .int (zi bl1) ∧ 0 ≤ bl1 ∧ bl1 ≤ 192 ∧ (C = uc * hb) ∧ (R = ur * vb) ∧ (1 ≤ oc) ∧ (oc ≤ C) ∧ (1 ≤ or1) ∧ (or1 ≤ R) ∧ (f = bl) ∧ (bl1 = bl + C * R) ∧ (C ≤ 8) ∧ (R ≤ 8) ∧ (C * R ≤ 64) ∧ (1 ≤ C * R)) := by
  have hS : gSs rT 1027 ty [54008, 83004, 83005, 83006, 83007, 83008] h h := gSs.rf hJ
  have zC := zupC (w := w) (wd := gh) (hb := hb) (by omega) (by omega) (by omega) (by omega)
  have zR := zupC (w := hh) (wd := gv) (hb := vb) (by omega) (by omega) (by omega) (by omega)
  have zE : uc * hb = zup w (8 * gh) * hb := by rw [pp0]
  have zF : ur * vb = zup hh (8 * gv) * vb := by rw [pp1]
  have zP := zb3 (a := uc * hb) (b := ur * vb) (by omega) (by omega)
  refine gz_s 2 (pc' := 2) (L' := [some (.ref x), some (.ref bd)]) (S' := [.ref x, .ref bd]) rfl ?_
  refine gs_gtk rfl (by decide) rfl hS.1 tx rfl rfl euc ?_
  refine gz_s 1 (pc' := 6) (L' := [some (.ref x), some (.ref bd)]) (S' := [.ref bd, .int (zi uc), .ref bd]) rfl ?_
  refine gs_gtk rfl (by decide) rfl hS.1 tbd rfl rfl ehb ?_
  have hx1 := zx_f (a := uc) (b := hb) (A := 8) (B := 2) (by omega) (by omega) (by omega) (by omega)
  refine gy_s 1 (pc' := 10) (L' := [some (.ref x), some (.ref bd)]) (S' := [.int ((zi uc) * (zi hb)), .ref bd]) (L2 := [some (.ref x), some (.ref bd)]) (S2 := [.int (zi (uc * hb)), .ref bd]) rfl (by simp only [zi_add, zi_sub, zi_mul, zi_neg, zi_and1, zi_and7, zi_and15, zi_and31, zi_and255]) (by simp only [zi_add, zi_sub, zi_mul, zi_neg, zi_and1, zi_and7, zi_and15, zi_and31, zi_and255]) ?_
  refine gs_put rfl (by decide) rfl hS tbd rfl rfl rfl rfl (Or.inl rfl) (by decide) (by omega) (by omega) (fun h2 sh2 eh2 fh2 => ?_)
  have s3 := (fh2 x 12 (fun q => absurd q.2 (by decide))).trans euc
  have s4 := (fh2 x 13 (fun q => absurd q.2 (by decide))).trans eur
  have s5 := (fh2 x 8 (fun q => absurd q.2 (by decide))).trans ebl
  have s6 := (fh2 x 5 (fun q => absurd q.2 (by decide))).trans ew
  have s7 := (fh2 x 6 (fun q => absurd q.2 (by decide))).trans ehh
  have s8 := (fh2 x 10 (fun q => absurd q.2 (by decide))).trans egh
  have s9 := (fh2 x 11 (fun q => absurd q.2 (by decide))).trans egv
  have s10 := (fh2 bd 1 (fun q => absurd q.2 (by decide))).trans ehb
  have s11 := (fh2 bd 2 (fun q => absurd q.2 (by decide))).trans evb
  refine gz_s 2 (pc' := 15) (L' := [some (.ref x), some (.ref bd)]) (S' := [.ref x, .ref bd]) rfl ?_
  refine gs_gtk rfl (by decide) rfl sh2.1 tx rfl rfl s4 ?_
  refine gz_s 1 (pc' := 19) (L' := [some (.ref x), some (.ref bd)]) (S' := [.ref bd, .int (zi ur), .ref bd]) rfl ?_
  refine gs_gtk rfl (by decide) rfl sh2.1 tbd rfl rfl s11 ?_
  have hx12 := zx_f (a := ur) (b := vb) (A := 8) (B := 2) (by omega) (by omega) (by omega) (by omega)
  refine gy_s 1 (pc' := 23) (L' := [some (.ref x), some (.ref bd)]) (S' := [.int ((zi ur) * (zi vb)), .ref bd]) (L2 := [some (.ref x), some (.ref bd)]) (S2 := [.int (zi (ur * vb)), .ref bd]) rfl (by simp only [zi_add, zi_sub, zi_mul, zi_neg, zi_and1, zi_and7, zi_and15, zi_and31, zi_and255]) (by simp only [zi_add, zi_sub, zi_mul, zi_neg, zi_and1, zi_and7, zi_and15, zi_and31, zi_and255]) ?_
  refine gs_put rfl (by decide) rfl sh2 tbd rfl rfl rfl rfl (Or.inl rfl) (by decide) (by omega) (by omega) (fun h13 sh13 eh13 fh13 => ?_)
  have s14 := (fh13 x 12 (fun q => absurd q.2 (by decide))).trans s3
  have s15 := (fh13 x 13 (fun q => absurd q.2 (by decide))).trans s4
  have s16 := (fh13 x 8 (fun q => absurd q.2 (by decide))).trans s5
  have s17 := (fh13 x 5 (fun q => absurd (((tx).symm.trans (congrArg ty q.1)).trans tbd) (by decide))).trans s6
  have s18 := (fh13 x 6 (fun q => absurd q.2 (by decide))).trans s7
  have s19 := (fh13 x 10 (fun q => absurd q.2 (by decide))).trans s8
  have s20 := (fh13 x 11 (fun q => absurd q.2 (by decide))).trans s9
  have s21 := (fh13 bd 1 (fun q => absurd q.2 (by decide))).trans s10
  have s22 := (fh13 bd 2 (fun q => absurd q.2 (by decide))).trans s11
  have s23 := (fh13 bd 4 (fun q => absurd q.2 (by decide))).trans eh2
  refine gz_s 2 (pc' := 28) (L' := [some (.ref x), some (.ref bd)]) (S' := [.ref x, .ref bd]) rfl ?_
  refine gs_gtk rfl (by decide) rfl sh13.1 tx rfl rfl s17 ?_
  refine gz_s 1 (pc' := 32) (L' := [some (.ref x), some (.ref bd)]) (S' := [.ref bd, .int (zi w), .ref bd]) rfl ?_
  refine gs_gtk rfl (by decide) rfl sh13.1 tbd rfl rfl s21 ?_
  have hx24 := zx_f (a := w) (b := hb) (A := 64) (B := 2) (by omega) (by omega) (by omega) (by omega)
  refine gy_s 2 (pc' := 37) (L' := [some (.ref x), some (.ref bd)]) (S' := [.ref x, .int ((zi w) * (zi hb)), .ref bd]) (L2 := [some (.ref x), some (.ref bd)]) (S2 := [.ref x, .int (zi (w * hb)), .ref bd]) rfl (by simp only [zi_add, zi_sub, zi_mul, zi_neg, zi_and1, zi_and7, zi_and15, zi_and31, zi_and255]) (by simp only [zi_add, zi_sub, zi_mul, zi_neg, zi_and1, zi_and7, zi_and15, zi_and31, zi_and255]) ?_
  refine gs_gtk rfl (by decide) rfl sh13.1 tx rfl rfl s19 ?_
  refine gz_call rfl (by decide) rfl (by decide) (by decide) (gcal_of rfl rfl rfl (Nat.le_of_ble_eq_true rfl) rfl) (cl_DctFilter_upward _ sh13.1 (w * hb) (by omega) gh (by omega) ) (fun q25 _ wq25 => ?_)
  obtain ⟨pq25, oq25, hq25⟩ := q25
  obtain ⟨xq25, zq25, gq25, aq25, bq25, uq25_0⟩ := wq25
  subst uq25_0
  refine ⟨_, gq25, ?_⟩
  show gz gPP gGG gcn _ _ 43 [some (.ref x), some (.ref bd)] [.int (zi (zup (w * hb) gh)), .ref bd] hq25 _
  have sq25 : gSs rT 1027 ty [54008, 83004, 83005, 83006, 83007, 83008] h hq25 := gSs.tr sh13 xq25 (by decide)
  have s26 := (xq25.2.2.2.2.2 x 12 (by rw [tx]; decide)).trans s14
  have s27 := (xq25.2.2.2.2.2 x 13 (by rw [tx]; decide)).trans s15
  have s28 := (xq25.2.2.2.2.2 x 8 (by rw [tx]; decide)).trans s16
  have s29 := (xq25.2.2.2.2.2 x 5 (by rw [tx]; decide)).trans s17
  have s30 := (xq25.2.2.2.2.2 x 6 (by rw [tx]; decide)).trans s18
  have s31 := (xq25.2.2.2.2.2 x 10 (by rw [tx]; decide)).trans s19
  have s32 := (xq25.2.2.2.2.2 x 11 (by rw [tx]; decide)).trans s20
  have s33 := (xq25.2.2.2.2.2 bd 1 (by rw [tbd]; decide)).trans s21
  have s34 := (xq25.2.2.2.2.2 bd 2 (by rw [tbd]; decide)).trans s22
  have s35 := (xq25.2.2.2.2.2 bd 4 (by rw [tbd]; decide)).trans s23
  have s36 := (xq25.2.2.2.2.2 bd 5 (by rw [tbd]; decide)).trans eh13
  refine gz_s 1 (pc' := 45) (L' := [some (.ref x), some (.ref bd)]) (S' := [.int (zi 8), .int (zi (zup (w * hb) gh)), .ref bd]) rfl ?_
  refine gz_call rfl (by decide) rfl (by decide) (by decide) (gcal_of rfl rfl rfl (Nat.le_of_ble_eq_true rfl) rfl) (cl_DctFilter_upward _ sq25.1 (zup (w * hb) gh) (by omega) 8 (by omega) ) (fun q37 _ wq37 => ?_)
  obtain ⟨pq37, oq37, hq37⟩ := q37
  obtain ⟨xq37, zq37, gq37, aq37, bq37, uq37_0⟩ := wq37
  subst uq37_0
  refine ⟨_, gq37, ?_⟩
  show gz gPP gGG gcn _ _ 48 [some (.ref x), some (.ref bd)] [.int (zi (zup (zup (w * hb) gh) 8)), .ref bd] hq37 _
  have sq37 : gSs rT 1027 ty [54008, 83004, 83005, 83006, 83007, 83008] h hq37 := gSs.tr sq25 xq37 (by decide)
  have s38 := (xq37.2.2.2.2.2 x 12 (by rw [tx]; decide)).trans s26
  have s39 := (xq37.2.2.2.2.2 x 13 (by rw [tx]; decide)).trans s27
  have s40 := (xq37.2.2.2.2.2 x 8 (by rw [tx]; decide)).trans s28
  have s41 := (xq37.2.2.2.2.2 x 5 (by rw [tx]; decide)).trans s29
  have s42 := (xq37.2.2.2.2.2 x 6 (by rw [tx]; decide)).trans s30
  have s43 := (xq37.2.2.2.2.2 x 10 (by rw [tx]; decide)).trans s31
  have s44 := (xq37.2.2.2.2.2 x 11 (by rw [tx]; decide)).trans s32
  have s45 := (xq37.2.2.2.2.2 bd 1 (by rw [tbd]; decide)).trans s33
  have s46 := (xq37.2.2.2.2.2 bd 2 (by rw [tbd]; decide)).trans s34
  have s47 := (xq37.2.2.2.2.2 bd 4 (by rw [tbd]; decide)).trans s35
  have s48 := (xq37.2.2.2.2.2 bd 5 (by rw [tbd]; decide)).trans s36
  refine gs_put rfl (by decide) rfl sq37 tbd rfl rfl rfl rfl (Or.inl rfl) (by decide) (by omega) (by omega) (fun h49 sh49 eh49 fh49 => ?_)
  have s50 := (fh49 x 12 (fun q => absurd q.2 (by decide))).trans s38
  have s51 := (fh49 x 13 (fun q => absurd q.2 (by decide))).trans s39
  have s52 := (fh49 x 8 (fun q => absurd q.2 (by decide))).trans s40
  have s53 := (fh49 x 5 (fun q => absurd q.2 (by decide))).trans s41
  have s54 := (fh49 x 6 (fun q => absurd (((tx).symm.trans (congrArg ty q.1)).trans tbd) (by decide))).trans s42
  have s55 := (fh49 x 10 (fun q => absurd q.2 (by decide))).trans s43
  have s56 := (fh49 x 11 (fun q => absurd q.2 (by decide))).trans s44
  have s57 := (fh49 bd 1 (fun q => absurd q.2 (by decide))).trans s45
  have s58 := (fh49 bd 2 (fun q => absurd q.2 (by decide))).trans s46
  have s59 := (fh49 bd 4 (fun q => absurd q.2 (by decide))).trans s47
  have s60 := (fh49 bd 5 (fun q => absurd q.2 (by decide))).trans s48
  refine gz_s 2 (pc' := 53) (L' := [some (.ref x), some (.ref bd)]) (S' := [.ref x, .ref bd]) rfl ?_
  refine gs_gtk rfl (by decide) rfl sh49.1 tx rfl rfl s54 ?_
  refine gz_s 1 (pc' := 57) (L' := [some (.ref x), some (.ref bd)]) (S' := [.ref bd, .int (zi hh), .ref bd]) rfl ?_
  refine gs_gtk rfl (by decide) rfl sh49.1 tbd rfl rfl s58 ?_
  have hx61 := zx_f (a := hh) (b := vb) (A := 64) (B := 2) (by omega) (by omega) (by omega) (by omega)
  refine gy_s 2 (pc' := 62) (L' := [some (.ref x), some (.ref bd)]) (S' := [.ref x, .int ((zi hh) * (zi vb)), .ref bd]) (L2 := [some (.ref x), some (.ref bd)]) (S2 := [.ref x, .int (zi (hh * vb)), .ref bd]) rfl (by simp only [zi_add, zi_sub, zi_mul, zi_neg, zi_and1, zi_and7, zi_and15, zi_and31, zi_and255]) (by simp only [zi_add, zi_sub, zi_mul, zi_neg, zi_and1, zi_and7, zi_and15, zi_and31, zi_and255]) ?_
  refine gs_gtk rfl (by decide) rfl sh49.1 tx rfl rfl s56 ?_
  refine gz_call rfl (by decide) rfl (by decide) (by decide) (gcal_of rfl rfl rfl (Nat.le_of_ble_eq_true rfl) rfl) (cl_DctFilter_upward _ sh49.1 (hh * vb) (by omega) gv (by omega) ) (fun q62 _ wq62 => ?_)
  obtain ⟨pq62, oq62, hq62⟩ := q62
  obtain ⟨xq62, zq62, gq62, aq62, bq62, uq62_0⟩ := wq62
  subst uq62_0
  refine ⟨_, gq62, ?_⟩
  show gz gPP gGG gcn _ _ 68 [some (.ref x), some (.ref bd)] [.int (zi (zup (hh * vb) gv)), .ref bd] hq62 _
  have sq62 : gSs rT 1027 ty [54008, 83004, 83005, 83006, 83007, 83008] h hq62 := gSs.tr sh49 xq62 (by decide)
  have s63 := (xq62.2.2.2.2.2 x 12 (by rw [tx]; decide)).trans s50
  have s64 := (xq62.2.2.2.2.2 x 13 (by rw [tx]; decide)).trans s51
  have s65 := (xq62.2.2.2.2.2 x 8 (by rw [tx]; decide)).trans s52
  have s66 := (xq62.2.2.2.2.2 x 5 (by rw [tx]; decide)).trans s53
  have s67 := (xq62.2.2.2.2.2 x 6 (by rw [tx]; decide)).trans s54
  have s68 := (xq62.2.2.2.2.2 x 10 (by rw [tx]; decide)).trans s55
  have s69 := (xq62.2.2.2.2.2 x 11 (by rw [tx]; decide)).trans s56
  have s70 := (xq62.2.2.2.2.2 bd 1 (by rw [tbd]; decide)).trans s57
  have s71 := (xq62.2.2.2.2.2 bd 2 (by rw [tbd]; decide)).trans s58
  have s72 := (xq62.2.2.2.2.2 bd 4 (by rw [tbd]; decide)).trans s59
  have s73 := (xq62.2.2.2.2.2 bd 5 (by rw [tbd]; decide)).trans s60
  have s74 := (xq62.2.2.2.2.2 bd 6 (by rw [tbd]; decide)).trans eh49
  refine gz_s 1 (pc' := 70) (L' := [some (.ref x), some (.ref bd)]) (S' := [.int (zi 8), .int (zi (zup (hh * vb) gv)), .ref bd]) rfl ?_
  refine gz_call rfl (by decide) rfl (by decide) (by decide) (gcal_of rfl rfl rfl (Nat.le_of_ble_eq_true rfl) rfl) (cl_DctFilter_upward _ sq62.1 (zup (hh * vb) gv) (by omega) 8 (by omega) ) (fun q75 _ wq75 => ?_)
  obtain ⟨pq75, oq75, hq75⟩ := q75
  obtain ⟨xq75, zq75, gq75, aq75, bq75, uq75_0⟩ := wq75
  subst uq75_0
  refine ⟨_, gq75, ?_⟩
  show gz gPP gGG gcn _ _ 73 [some (.ref x), some (.ref bd)] [.int (zi (zup (zup (hh * vb) gv) 8)), .ref bd] hq75 _
  have sq75 : gSs rT 1027 ty [54008, 83004, 83005, 83006, 83007, 83008] h hq75 := gSs.tr sq62 xq75 (by decide)
  have s76 := (xq75.2.2.2.2.2 x 12 (by rw [tx]; decide)).trans s63
  have s77 := (xq75.2.2.2.2.2 x 13 (by rw [tx]; decide)).trans s64
  have s78 := (xq75.2.2.2.2.2 x 8 (by rw [tx]; decide)).trans s65
  have s79 := (xq75.2.2.2.2.2 x 5 (by rw [tx]; decide)).trans s66
  have s80 := (xq75.2.2.2.2.2 x 6 (by rw [tx]; decide)).trans s67
  have s81 := (xq75.2.2.2.2.2 x 10 (by rw [tx]; decide)).trans s68
  have s82 := (xq75.2.2.2.2.2 x 11 (by rw [tx]; decide)).trans s69
  have s83 := (xq75.2.2.2.2.2 bd 1 (by rw [tbd]; decide)).trans s70
  have s84 := (xq75.2.2.2.2.2 bd 2 (by rw [tbd]; decide)).trans s71
  have s85 := (xq75.2.2.2.2.2 bd 4 (by rw [tbd]; decide)).trans s72
  have s86 := (xq75.2.2.2.2.2 bd 5 (by rw [tbd]; decide)).trans s73
  have s87 := (xq75.2.2.2.2.2 bd 6 (by rw [tbd]; decide)).trans s74
  refine gs_put rfl (by decide) rfl sq75 tbd rfl rfl rfl rfl (Or.inl rfl) (by decide) (by omega) (by omega) (fun h88 sh88 eh88 fh88 => ?_)
  have s89 := (fh88 x 12 (fun q => absurd q.2 (by decide))).trans s76
  have s90 := (fh88 x 13 (fun q => absurd q.2 (by decide))).trans s77
  have s91 := (fh88 x 8 (fun q => absurd q.2 (by decide))).trans s78
  have s92 := (fh88 x 5 (fun q => absurd q.2 (by decide))).trans s79
  have s93 := (fh88 x 6 (fun q => absurd q.2 (by decide))).trans s80
  have s94 := (fh88 x 10 (fun q => absurd q.2 (by decide))).trans s81
  have s95 := (fh88 x 11 (fun q => absurd q.2 (by decide))).trans s82
  have s96 := (fh88 bd 1 (fun q => absurd q.2 (by decide))).trans s83
  have s97 := (fh88 bd 2 (fun q => absurd q.2 (by decide))).trans s84
  have s98 := (fh88 bd 4 (fun q => absurd q.2 (by decide))).trans s85
  have s99 := (fh88 bd 5 (fun q => absurd q.2 (by decide))).trans s86
  have s100 := (fh88 bd 6 (fun q => absurd q.2 (by decide))).trans s87
  refine gz_s 2 (pc' := 78) (L' := [some (.ref x), some (.ref bd)]) (S' := [.ref x, .ref bd]) rfl ?_
  refine gs_gtk rfl (by decide) rfl sh88.1 tx rfl rfl s91 ?_
  refine gs_put rfl (by decide) rfl sh88 tbd rfl rfl rfl rfl (Or.inl rfl) (by decide) (by omega) (by omega) (fun h101 sh101 eh101 fh101 => ?_)
  have s102 := (fh101 x 12 (fun q => absurd q.2 (by decide))).trans s89
  have s103 := (fh101 x 13 (fun q => absurd q.2 (by decide))).trans s90
  have s104 := (fh101 x 8 (fun q => absurd (((tx).symm.trans (congrArg ty q.1)).trans tbd) (by decide))).trans s91
  have s105 := (fh101 x 5 (fun q => absurd q.2 (by decide))).trans s92
  have s106 := (fh101 x 6 (fun q => absurd q.2 (by decide))).trans s93
  have s107 := (fh101 x 10 (fun q => absurd q.2 (by decide))).trans s94
  have s108 := (fh101 x 11 (fun q => absurd q.2 (by decide))).trans s95
  have s109 := (fh101 bd 1 (fun q => absurd q.2 (by decide))).trans s96
  have s110 := (fh101 bd 2 (fun q => absurd q.2 (by decide))).trans s97
  have s111 := (fh101 bd 4 (fun q => absurd q.2 (by decide))).trans s98
  have s112 := (fh101 bd 5 (fun q => absurd q.2 (by decide))).trans s99
  have s113 := (fh101 bd 6 (fun q => absurd q.2 (by decide))).trans s100
  have s114 := (fh101 bd 7 (fun q => absurd q.2 (by decide))).trans eh88
  refine gz_s 2 (pc' := 86) (L' := [some (.ref x), some (.ref bd)]) (S' := [.ref x, .ref x]) rfl ?_
  refine gs_gtk rfl (by decide) rfl sh101.1 tx rfl rfl s104 ?_
  refine gz_s 1 (pc' := 90) (L' := [some (.ref x), some (.ref bd)]) (S' := [.ref bd, .int (zi bl), .ref x]) rfl ?_
  refine gs_gtk rfl (by decide) rfl sh101.1 tbd rfl rfl s111 ?_
  refine gz_s 1 (pc' := 94) (L' := [some (.ref x), some (.ref bd)]) (S' := [.ref bd, .int (zi (uc * hb)), .int (zi bl), .ref x]) rfl ?_
  refine gs_gtk rfl (by decide) rfl sh101.1 tbd rfl rfl s112 ?_
  have hx115 := zx_f (a := uc * hb) (b := ur * vb) (A := 16) (B := 16) (by omega) (by omega) (by omega) (by omega)
  refine gy_s 2 (pc' := 99) (L' := [some (.ref x), some (.ref bd)]) (S' := [.int ((zi bl) + ((zi (uc * hb)) * (zi (ur * vb)))), .ref x]) (L2 := [some (.ref x), some (.ref bd)]) (S2 := [.int (zi (bl + ((uc * hb) * (ur * vb)))), .ref x]) rfl (by simp only [zi_add, zi_sub, zi_mul, zi_neg, zi_and1, zi_and7, zi_and15, zi_and31, zi_and255]) (by simp only [zi_add, zi_sub, zi_mul, zi_neg, zi_and1, zi_and7, zi_and15, zi_and31, zi_and255]) ?_
  refine gs_put rfl (by decide) rfl sh101 tx rfl rfl rfl rfl (Or.inl rfl) (by decide) (by omega) (by omega) (fun h116 sh116 eh116 fh116 => ?_)
  have s117 := (fh116 x 12 (fun q => absurd q.2 (by decide))).trans s102
  have s118 := (fh116 x 13 (fun q => absurd q.2 (by decide))).trans s103
  have s119 := (fh116 x 5 (fun q => absurd q.2 (by decide))).trans s105
  have s120 := (fh116 x 6 (fun q => absurd q.2 (by decide))).trans s106
  have s121 := (fh116 x 10 (fun q => absurd q.2 (by decide))).trans s107
  have s122 := (fh116 x 11 (fun q => absurd q.2 (by decide))).trans s108
  have s123 := (fh116 bd 1 (fun q => absurd q.2 (by decide))).trans s109
  have s124 := (fh116 bd 2 (fun q => absurd q.2 (by decide))).trans s110
  have s125 := (fh116 bd 4 (fun q => absurd q.2 (by decide))).trans s111
  have s126 := (fh116 bd 5 (fun q => absurd q.2 (by decide))).trans s112
  have s127 := (fh116 bd 6 (fun q => absurd q.2 (by decide))).trans s113
  have s128 := (fh116 bd 7 (fun q => absurd q.2 (by decide))).trans s114
  have s129 := (fh116 bd 8 (fun q => absurd (((tbd).symm.trans (congrArg ty q.1)).trans tx) (by decide))).trans eh101
  exact gz_end (I := .return_) (len := 1) rfl (Or.inl rfl) ⟨sh116, uc * hb, ur * vb, zup (zup (w * hb) gh) 8, zup (zup (hh * vb) gv) 8, bl, bl + ((uc * hb) * (ur * vb)), rfl, s125, (by omega), (by omega), s126, (by omega), (by omega), s127, (by omega), (by omega), s128, (by omega), (by omega), s129, (by omega), (by omega), eh116, (by omega), (by omega), (by omega), (by omega), (by omega), (by omega), (by omega), (by omega), (by omega), (by omega), (by omega), (by omega), (by omega), (by omega)⟩
set_option maxRecDepth 20000 in
set_option maxHeartbeats 4000000 in
theorem cl_placeBand2 (d : Nat) {ty : Nat → Nat} {h : gH} (hJ : gJ rT 1027 ty h) (x : Nat) (tx : ty x = 54) (bd : Nat) (tbd : ty bd = 84) (uc : Int) (euc : h.2.2.2.2 x 12 = .int (zi uc)) (ruc : 1 ≤ uc ∧ uc ≤ 8) (ur : Int) (eur : h.2.2.2.2 x 13 = .int (zi ur)) (rur : 1 ≤ ur ∧ ur ≤ 8) (bl : Int) (ebl : h.2.2.2.2 x 8 = .int (zi bl)) (rbl : 0 ≤ bl ∧ bl ≤ 128) (w : Int) (ew : h.2.2.2.2 x 5 = .int (zi w)) (rw : 1 ≤ w ∧ w ≤ 64) (hh : Int) (ehh : h.2.2.2.2 x 6 = .int (zi hh)) (rhh : 1 ≤ hh ∧ hh ≤ 64) (gh : Int) (egh : h.2.2.2.2 x 10 = .int (zi gh)) (rgh : 1 ≤ gh ∧ gh ≤ 2) (gv : Int) (egv : h.2.2.2.2 x 11 = .int (zi gv)) (rgv : 1 ≤ gv ∧ gv ≤ 2) (hb : Int) (ehb : h.2.2.2.2 bd 1 = .int (zi hb)) (rhb : 1 ≤ hb ∧ hb ≤ 2) (vb : Int) (evb : h.2.2.2.2 bd 2 = .int (zi vb)) (rvb : 1 ≤ vb ∧ vb ≤ 2) (pp0 : uc = zup w (8 * gh)) (pp1 : ur = zup hh (8 * gv)) (pp2 : hb ≤ gh) (pp3 : vb ≤ gv) (uq : gUq ty) : gz gPP gGG gcn (d + 1) gt34 0 (gent [.ref x, .ref bd] 2) [] h (fun q _ => gSs rT 1027 ty [54008, 84004, 84005, 84006, 84007, 84008] h q.2.2 ∧ ∃ C R oc or1 f bl1 : Int, gfin gt34 q.1 q.2.1 = some none ∧ q.2.2.2.2.2.2 bd 4 = .int (zi C) ∧ 0 ≤ C ∧ C ≤ 16 ∧ q.2.2.2.2.2.2 bd 5 = .int (zi R) ∧ 0 ≤ R ∧ R ≤ 16 ∧ q.2.2.2.2.2.2 bd 6 = .int (zi oc) ∧ 0 ≤ oc ∧ oc ≤ 16 ∧ q.2.2.2.2.2.2 bd 7 = .int (zi or1) ∧ 0 ≤ or1 ∧ or1 ≤ 16 ∧ q.2.2.2.2.2.2 bd 8 = .int (zi f) ∧ 0 ≤ f ∧ f ≤ 192 ∧ q.2.2.2.2.2.2 x 8 = .int (zi bl1) ∧ 0 ≤ bl1 ∧ bl1 ≤ 192 ∧ (C = uc * hb) ∧ (R = ur * vb) ∧ (1 ≤ oc) ∧ (oc ≤ C) ∧ (1 ≤ or1) ∧ (or1 ≤ R) ∧ (f = bl) ∧ (bl1 = bl + C * R) ∧ (C ≤ 8) ∧ (R ≤ 8) ∧ (C * R ≤ 64) ∧ (1 ≤ C * R)) := by
  have hS : gSs rT 1027 ty [54008, 84004, 84005, 84006, 84007, 84008] h h := gSs.rf hJ
  have zC := zupC (w := w) (wd := gh) (hb := hb) (by omega) (by omega) (by omega) (by omega)
  have zR := zupC (w := hh) (wd := gv) (hb := vb) (by omega) (by omega) (by omega) (by omega)
  have zE : uc * hb = zup w (8 * gh) * hb := by rw [pp0]
  have zF : ur * vb = zup hh (8 * gv) * vb := by rw [pp1]
  have zP := zb3 (a := uc * hb) (b := ur * vb) (by omega) (by omega)
  refine gz_s 2 (pc' := 2) (L' := [some (.ref x), some (.ref bd)]) (S' := [.ref x, .ref bd]) rfl ?_
  refine gs_gtk rfl (by decide) rfl hS.1 tx rfl rfl euc ?_
  refine gz_s 1 (pc' := 6) (L' := [some (.ref x), some (.ref bd)]) (S' := [.ref bd, .int (zi uc), .ref bd]) rfl ?_
  refine gs_gtk rfl (by decide) rfl hS.1 tbd rfl rfl ehb ?_
  have hx1 := zx_f (a := uc) (b := hb) (A := 8) (B := 2) (by omega) (by omega) (by omega) (by omega)
  refine gy_s 1 (pc' := 10) (L' := [some (.ref x), some (.ref bd)]) (S' := [.int ((zi uc) * (zi hb)), .ref bd]) (L2 := [some (.ref x), some (.ref bd)]) (S2 := [.int (zi (uc * hb)), .ref bd]) rfl (by simp only [zi_add, zi_sub, zi_mul, zi_neg, zi_and1, zi_and7, zi_and15, zi_and31, zi_and255]) (by simp only [zi_add, zi_sub, zi_mul, zi_neg, zi_and1, zi_and7, zi_and15, zi_and31, zi_and255]) ?_
  refine gs_put rfl (by decide) rfl hS tbd rfl rfl rfl rfl (Or.inl rfl) (by decide) (by omega) (by omega) (fun h2 sh2 eh2 fh2 => ?_)
  have s3 := (fh2 x 12 (fun q => absurd q.2 (by decide))).trans euc
  have s4 := (fh2 x 13 (fun q => absurd q.2 (by decide))).trans eur
  have s5 := (fh2 x 8 (fun q => absurd q.2 (by decide))).trans ebl
  have s6 := (fh2 x 5 (fun q => absurd q.2 (by decide))).trans ew
  have s7 := (fh2 x 6 (fun q => absurd q.2 (by decide))).trans ehh
  have s8 := (fh2 x 10 (fun q => absurd q.2 (by decide))).trans egh
  have s9 := (fh2 x 11 (fun q => absurd q.2 (by decide))).trans egv
  have s10 := (fh2 bd 1 (fun q => absurd q.2 (by decide))).trans ehb
  have s11 := (fh2 bd 2 (fun q => absurd q.2 (by decide))).trans evb
  refine gz_s 2 (pc' := 15) (L' := [some (.ref x), some (.ref bd)]) (S' := [.ref x, .ref bd]) rfl ?_
  refine gs_gtk rfl (by decide) rfl sh2.1 tx rfl rfl s4 ?_
  refine gz_s 1 (pc' := 19) (L' := [some (.ref x), some (.ref bd)]) (S' := [.ref bd, .int (zi ur), .ref bd]) rfl ?_
  refine gs_gtk rfl (by decide) rfl sh2.1 tbd rfl rfl s11 ?_
  have hx12 := zx_f (a := ur) (b := vb) (A := 8) (B := 2) (by omega) (by omega) (by omega) (by omega)
  refine gy_s 1 (pc' := 23) (L' := [some (.ref x), some (.ref bd)]) (S' := [.int ((zi ur) * (zi vb)), .ref bd]) (L2 := [some (.ref x), some (.ref bd)]) (S2 := [.int (zi (ur * vb)), .ref bd]) rfl (by simp only [zi_add, zi_sub, zi_mul, zi_neg, zi_and1, zi_and7, zi_and15, zi_and31, zi_and255]) (by simp only [zi_add, zi_sub, zi_mul, zi_neg, zi_and1, zi_and7, zi_and15, zi_and31, zi_and255]) ?_
  refine gs_put rfl (by decide) rfl sh2 tbd rfl rfl rfl rfl (Or.inl rfl) (by decide) (by omega) (by omega) (fun h13 sh13 eh13 fh13 => ?_)
  have s14 := (fh13 x 12 (fun q => absurd q.2 (by decide))).trans s3
  have s15 := (fh13 x 13 (fun q => absurd q.2 (by decide))).trans s4
  have s16 := (fh13 x 8 (fun q => absurd q.2 (by decide))).trans s5
  have s17 := (fh13 x 5 (fun q => absurd (((tx).symm.trans (congrArg ty q.1)).trans tbd) (by decide))).trans s6
  have s18 := (fh13 x 6 (fun q => absurd q.2 (by decide))).trans s7
  have s19 := (fh13 x 10 (fun q => absurd q.2 (by decide))).trans s8
  have s20 := (fh13 x 11 (fun q => absurd q.2 (by decide))).trans s9
  have s21 := (fh13 bd 1 (fun q => absurd q.2 (by decide))).trans s10
  have s22 := (fh13 bd 2 (fun q => absurd q.2 (by decide))).trans s11
  have s23 := (fh13 bd 4 (fun q => absurd q.2 (by decide))).trans eh2
  refine gz_s 2 (pc' := 28) (L' := [some (.ref x), some (.ref bd)]) (S' := [.ref x, .ref bd]) rfl ?_
  refine gs_gtk rfl (by decide) rfl sh13.1 tx rfl rfl s17 ?_
  refine gz_s 1 (pc' := 32) (L' := [some (.ref x), some (.ref bd)]) (S' := [.ref bd, .int (zi w), .ref bd]) rfl ?_
  refine gs_gtk rfl (by decide) rfl sh13.1 tbd rfl rfl s21 ?_
  have hx24 := zx_f (a := w) (b := hb) (A := 64) (B := 2) (by omega) (by omega) (by omega) (by omega)
  refine gy_s 2 (pc' := 37) (L' := [some (.ref x), some (.ref bd)]) (S' := [.ref x, .int ((zi w) * (zi hb)), .ref bd]) (L2 := [some (.ref x), some (.ref bd)]) (S2 := [.ref x, .int (zi (w * hb)), .ref bd]) rfl (by simp only [zi_add, zi_sub, zi_mul, zi_neg, zi_and1, zi_and7, zi_and15, zi_and31, zi_and255]) (by simp only [zi_add, zi_sub, zi_mul, zi_neg, zi_and1, zi_and7, zi_and15, zi_and31, zi_and255]) ?_
  refine gs_gtk rfl (by decide) rfl sh13.1 tx rfl rfl s19 ?_
  refine gz_call rfl (by decide) rfl (by decide) (by decide) (gcal_of rfl rfl rfl (Nat.le_of_ble_eq_true rfl) rfl) (cl_DctFilter_upward _ sh13.1 (w * hb) (by omega) gh (by omega) ) (fun q25 _ wq25 => ?_)
  obtain ⟨pq25, oq25, hq25⟩ := q25
  obtain ⟨xq25, zq25, gq25, aq25, bq25, uq25_0⟩ := wq25
  subst uq25_0
  refine ⟨_, gq25, ?_⟩
  show gz gPP gGG gcn _ _ 43 [some (.ref x), some (.ref bd)] [.int (zi (zup (w * hb) gh)), .ref bd] hq25 _
  have sq25 : gSs rT 1027 ty [54008, 84004, 84005, 84006, 84007, 84008] h hq25 := gSs.tr sh13 xq25 (by decide)
  have s26 := (xq25.2.2.2.2.2 x 12 (by rw [tx]; decide)).trans s14
  have s27 := (xq25.2.2.2.2.2 x 13 (by rw [tx]; decide)).trans s15
  have s28 := (xq25.2.2.2.2.2 x 8 (by rw [tx]; decide)).trans s16
  have s29 := (xq25.2.2.2.2.2 x 5 (by rw [tx]; decide)).trans s17
  have s30 := (xq25.2.2.2.2.2 x 6 (by rw [tx]; decide)).trans s18
  have s31 := (xq25.2.2.2.2.2 x 10 (by rw [tx]; decide)).trans s19
  have s32 := (xq25.2.2.2.2.2 x 11 (by rw [tx]; decide)).trans s20
  have s33 := (xq25.2.2.2.2.2 bd 1 (by rw [tbd]; decide)).trans s21
  have s34 := (xq25.2.2.2.2.2 bd 2 (by rw [tbd]; decide)).trans s22
  have s35 := (xq25.2.2.2.2.2 bd 4 (by rw [tbd]; decide)).trans s23
  have s36 := (xq25.2.2.2.2.2 bd 5 (by rw [tbd]; decide)).trans eh13
  refine gz_s 1 (pc' := 45) (L' := [some (.ref x), some (.ref bd)]) (S' := [.int (zi 8), .int (zi (zup (w * hb) gh)), .ref bd]) rfl ?_
  refine gz_call rfl (by decide) rfl (by decide) (by decide) (gcal_of rfl rfl rfl (Nat.le_of_ble_eq_true rfl) rfl) (cl_DctFilter_upward _ sq25.1 (zup (w * hb) gh) (by omega) 8 (by omega) ) (fun q37 _ wq37 => ?_)
  obtain ⟨pq37, oq37, hq37⟩ := q37
  obtain ⟨xq37, zq37, gq37, aq37, bq37, uq37_0⟩ := wq37
  subst uq37_0
  refine ⟨_, gq37, ?_⟩
  show gz gPP gGG gcn _ _ 48 [some (.ref x), some (.ref bd)] [.int (zi (zup (zup (w * hb) gh) 8)), .ref bd] hq37 _
  have sq37 : gSs rT 1027 ty [54008, 84004, 84005, 84006, 84007, 84008] h hq37 := gSs.tr sq25 xq37 (by decide)
  have s38 := (xq37.2.2.2.2.2 x 12 (by rw [tx]; decide)).trans s26
  have s39 := (xq37.2.2.2.2.2 x 13 (by rw [tx]; decide)).trans s27
  have s40 := (xq37.2.2.2.2.2 x 8 (by rw [tx]; decide)).trans s28
  have s41 := (xq37.2.2.2.2.2 x 5 (by rw [tx]; decide)).trans s29
  have s42 := (xq37.2.2.2.2.2 x 6 (by rw [tx]; decide)).trans s30
  have s43 := (xq37.2.2.2.2.2 x 10 (by rw [tx]; decide)).trans s31
  have s44 := (xq37.2.2.2.2.2 x 11 (by rw [tx]; decide)).trans s32
  have s45 := (xq37.2.2.2.2.2 bd 1 (by rw [tbd]; decide)).trans s33
  have s46 := (xq37.2.2.2.2.2 bd 2 (by rw [tbd]; decide)).trans s34
  have s47 := (xq37.2.2.2.2.2 bd 4 (by rw [tbd]; decide)).trans s35
  have s48 := (xq37.2.2.2.2.2 bd 5 (by rw [tbd]; decide)).trans s36
  refine gs_put rfl (by decide) rfl sq37 tbd rfl rfl rfl rfl (Or.inl rfl) (by decide) (by omega) (by omega) (fun h49 sh49 eh49 fh49 => ?_)
  have s50 := (fh49 x 12 (fun q => absurd q.2 (by decide))).trans s38
  have s51 := (fh49 x 13 (fun q => absurd q.2 (by decide))).trans s39
  have s52 := (fh49 x 8 (fun q => absurd q.2 (by decide))).trans s40
  have s53 := (fh49 x 5 (fun q => absurd q.2 (by decide))).trans s41
  have s54 := (fh49 x 6 (fun q => absurd (((tx).symm.trans (congrArg ty q.1)).trans tbd) (by decide))).trans s42
  have s55 := (fh49 x 10 (fun q => absurd q.2 (by decide))).trans s43
  have s56 := (fh49 x 11 (fun q => absurd q.2 (by decide))).trans s44
  have s57 := (fh49 bd 1 (fun q => absurd q.2 (by decide))).trans s45
  have s58 := (fh49 bd 2 (fun q => absurd q.2 (by decide))).trans s46
  have s59 := (fh49 bd 4 (fun q => absurd q.2 (by decide))).trans s47
  have s60 := (fh49 bd 5 (fun q => absurd q.2 (by decide))).trans s48
  refine gz_s 2 (pc' := 53) (L' := [some (.ref x), some (.ref bd)]) (S' := [.ref x, .ref bd]) rfl ?_
  refine gs_gtk rfl (by decide) rfl sh49.1 tx rfl rfl s54 ?_
  refine gz_s 1 (pc' := 57) (L' := [some (.ref x), some (.ref bd)]) (S' := [.ref bd, .int (zi hh), .ref bd]) rfl ?_
  refine gs_gtk rfl (by decide) rfl sh49.1 tbd rfl rfl s58 ?_
  have hx61 := zx_f (a := hh) (b := vb) (A := 64) (B := 2) (by omega) (by omega) (by omega) (by omega)
  refine gy_s 2 (pc' := 62) (L' := [some (.ref x), some (.ref bd)]) (S' := [.ref x, .int ((zi hh) * (zi vb)), .ref bd]) (L2 := [some (.ref x), some (.ref bd)]) (S2 := [.ref x, .int (zi (hh * vb)), .ref bd]) rfl (by simp only [zi_add, zi_sub, zi_mul, zi_neg, zi_and1, zi_and7, zi_and15, zi_and31, zi_and255]) (by simp only [zi_add, zi_sub, zi_mul, zi_neg, zi_and1, zi_and7, zi_and15, zi_and31, zi_and255]) ?_
  refine gs_gtk rfl (by decide) rfl sh49.1 tx rfl rfl s56 ?_
  refine gz_call rfl (by decide) rfl (by decide) (by decide) (gcal_of rfl rfl rfl (Nat.le_of_ble_eq_true rfl) rfl) (cl_DctFilter_upward _ sh49.1 (hh * vb) (by omega) gv (by omega) ) (fun q62 _ wq62 => ?_)
  obtain ⟨pq62, oq62, hq62⟩ := q62
  obtain ⟨xq62, zq62, gq62, aq62, bq62, uq62_0⟩ := wq62
  subst uq62_0
  refine ⟨_, gq62, ?_⟩
  show gz gPP gGG gcn _ _ 68 [some (.ref x), some (.ref bd)] [.int (zi (zup (hh * vb) gv)), .ref bd] hq62 _
  have sq62 : gSs rT 1027 ty [54008, 84004, 84005, 84006, 84007, 84008] h hq62 := gSs.tr sh49 xq62 (by decide)
  have s63 := (xq62.2.2.2.2.2 x 12 (by rw [tx]; decide)).trans s50
  have s64 := (xq62.2.2.2.2.2 x 13 (by rw [tx]; decide)).trans s51
  have s65 := (xq62.2.2.2.2.2 x 8 (by rw [tx]; decide)).trans s52
  have s66 := (xq62.2.2.2.2.2 x 5 (by rw [tx]; decide)).trans s53
  have s67 := (xq62.2.2.2.2.2 x 6 (by rw [tx]; decide)).trans s54
  have s68 := (xq62.2.2.2.2.2 x 10 (by rw [tx]; decide)).trans s55
  have s69 := (xq62.2.2.2.2.2 x 11 (by rw [tx]; decide)).trans s56
  have s70 := (xq62.2.2.2.2.2 bd 1 (by rw [tbd]; decide)).trans s57
  have s71 := (xq62.2.2.2.2.2 bd 2 (by rw [tbd]; decide)).trans s58
  have s72 := (xq62.2.2.2.2.2 bd 4 (by rw [tbd]; decide)).trans s59
  have s73 := (xq62.2.2.2.2.2 bd 5 (by rw [tbd]; decide)).trans s60
  have s74 := (xq62.2.2.2.2.2 bd 6 (by rw [tbd]; decide)).trans eh49
  refine gz_s 1 (pc' := 70) (L' := [some (.ref x), some (.ref bd)]) (S' := [.int (zi 8), .int (zi (zup (hh * vb) gv)), .ref bd]) rfl ?_
  refine gz_call rfl (by decide) rfl (by decide) (by decide) (gcal_of rfl rfl rfl (Nat.le_of_ble_eq_true rfl) rfl) (cl_DctFilter_upward _ sq62.1 (zup (hh * vb) gv) (by omega) 8 (by omega) ) (fun q75 _ wq75 => ?_)
  obtain ⟨pq75, oq75, hq75⟩ := q75
  obtain ⟨xq75, zq75, gq75, aq75, bq75, uq75_0⟩ := wq75
  subst uq75_0
  refine ⟨_, gq75, ?_⟩
  show gz gPP gGG gcn _ _ 73 [some (.ref x), some (.ref bd)] [.int (zi (zup (zup (hh * vb) gv) 8)), .ref bd] hq75 _
  have sq75 : gSs rT 1027 ty [54008, 84004, 84005, 84006, 84007, 84008] h hq75 := gSs.tr sq62 xq75 (by decide)
  have s76 := (xq75.2.2.2.2.2 x 12 (by rw [tx]; decide)).trans s63
  have s77 := (xq75.2.2.2.2.2 x 13 (by rw [tx]; decide)).trans s64
  have s78 := (xq75.2.2.2.2.2 x 8 (by rw [tx]; decide)).trans s65
  have s79 := (xq75.2.2.2.2.2 x 5 (by rw [tx]; decide)).trans s66
  have s80 := (xq75.2.2.2.2.2 x 6 (by rw [tx]; decide)).trans s67
  have s81 := (xq75.2.2.2.2.2 x 10 (by rw [tx]; decide)).trans s68
  have s82 := (xq75.2.2.2.2.2 x 11 (by rw [tx]; decide)).trans s69
  have s83 := (xq75.2.2.2.2.2 bd 1 (by rw [tbd]; decide)).trans s70
  have s84 := (xq75.2.2.2.2.2 bd 2 (by rw [tbd]; decide)).trans s71
  have s85 := (xq75.2.2.2.2.2 bd 4 (by rw [tbd]; decide)).trans s72
  have s86 := (xq75.2.2.2.2.2 bd 5 (by rw [tbd]; decide)).trans s73
  have s87 := (xq75.2.2.2.2.2 bd 6 (by rw [tbd]; decide)).trans s74
  refine gs_put rfl (by decide) rfl sq75 tbd rfl rfl rfl rfl (Or.inl rfl) (by decide) (by omega) (by omega) (fun h88 sh88 eh88 fh88 => ?_)
  have s89 := (fh88 x 12 (fun q => absurd q.2 (by decide))).trans s76
  have s90 := (fh88 x 13 (fun q => absurd q.2 (by decide))).trans s77
  have s91 := (fh88 x 8 (fun q => absurd q.2 (by decide))).trans s78
  have s92 := (fh88 x 5 (fun q => absurd q.2 (by decide))).trans s79
  have s93 := (fh88 x 6 (fun q => absurd q.2 (by decide))).trans s80
  have s94 := (fh88 x 10 (fun q => absurd q.2 (by decide))).trans s81
  have s95 := (fh88 x 11 (fun q => absurd q.2 (by decide))).trans s82
  have s96 := (fh88 bd 1 (fun q => absurd q.2 (by decide))).trans s83
  have s97 := (fh88 bd 2 (fun q => absurd q.2 (by decide))).trans s84
  have s98 := (fh88 bd 4 (fun q => absurd q.2 (by decide))).trans s85
  have s99 := (fh88 bd 5 (fun q => absurd q.2 (by decide))).trans s86
  have s100 := (fh88 bd 6 (fun q => absurd q.2 (by decide))).trans s87
  refine gz_s 2 (pc' := 78) (L' := [some (.ref x), some (.ref bd)]) (S' := [.ref x, .ref bd]) rfl ?_
  refine gs_gtk rfl (by decide) rfl sh88.1 tx rfl rfl s91 ?_
  refine gs_put rfl (by decide) rfl sh88 tbd rfl rfl rfl rfl (Or.inl rfl) (by decide) (by omega) (by omega) (fun h101 sh101 eh101 fh101 => ?_)
  have s102 := (fh101 x 12 (fun q => absurd q.2 (by decide))).trans s89
  have s103 := (fh101 x 13 (fun q => absurd q.2 (by decide))).trans s90
  have s104 := (fh101 x 8 (fun q => absurd (((tx).symm.trans (congrArg ty q.1)).trans tbd) (by decide))).trans s91
  have s105 := (fh101 x 5 (fun q => absurd q.2 (by decide))).trans s92
  have s106 := (fh101 x 6 (fun q => absurd q.2 (by decide))).trans s93
  have s107 := (fh101 x 10 (fun q => absurd q.2 (by decide))).trans s94
  have s108 := (fh101 x 11 (fun q => absurd q.2 (by decide))).trans s95
  have s109 := (fh101 bd 1 (fun q => absurd q.2 (by decide))).trans s96
  have s110 := (fh101 bd 2 (fun q => absurd q.2 (by decide))).trans s97
  have s111 := (fh101 bd 4 (fun q => absurd q.2 (by decide))).trans s98
  have s112 := (fh101 bd 5 (fun q => absurd q.2 (by decide))).trans s99
  have s113 := (fh101 bd 6 (fun q => absurd q.2 (by decide))).trans s100
  have s114 := (fh101 bd 7 (fun q => absurd q.2 (by decide))).trans eh88
  refine gz_s 2 (pc' := 86) (L' := [some (.ref x), some (.ref bd)]) (S' := [.ref x, .ref x]) rfl ?_
  refine gs_gtk rfl (by decide) rfl sh101.1 tx rfl rfl s104 ?_
  refine gz_s 1 (pc' := 90) (L' := [some (.ref x), some (.ref bd)]) (S' := [.ref bd, .int (zi bl), .ref x]) rfl ?_
  refine gs_gtk rfl (by decide) rfl sh101.1 tbd rfl rfl s111 ?_
  refine gz_s 1 (pc' := 94) (L' := [some (.ref x), some (.ref bd)]) (S' := [.ref bd, .int (zi (uc * hb)), .int (zi bl), .ref x]) rfl ?_
  refine gs_gtk rfl (by decide) rfl sh101.1 tbd rfl rfl s112 ?_
  have hx115 := zx_f (a := uc * hb) (b := ur * vb) (A := 16) (B := 16) (by omega) (by omega) (by omega) (by omega)
  refine gy_s 2 (pc' := 99) (L' := [some (.ref x), some (.ref bd)]) (S' := [.int ((zi bl) + ((zi (uc * hb)) * (zi (ur * vb)))), .ref x]) (L2 := [some (.ref x), some (.ref bd)]) (S2 := [.int (zi (bl + ((uc * hb) * (ur * vb)))), .ref x]) rfl (by simp only [zi_add, zi_sub, zi_mul, zi_neg, zi_and1, zi_and7, zi_and15, zi_and31, zi_and255]) (by simp only [zi_add, zi_sub, zi_mul, zi_neg, zi_and1, zi_and7, zi_and15, zi_and31, zi_and255]) ?_
  refine gs_put rfl (by decide) rfl sh101 tx rfl rfl rfl rfl (Or.inl rfl) (by decide) (by omega) (by omega) (fun h116 sh116 eh116 fh116 => ?_)
  have s117 := (fh116 x 12 (fun q => absurd q.2 (by decide))).trans s102
  have s118 := (fh116 x 13 (fun q => absurd q.2 (by decide))).trans s103
  have s119 := (fh116 x 5 (fun q => absurd q.2 (by decide))).trans s105
  have s120 := (fh116 x 6 (fun q => absurd q.2 (by decide))).trans s106
  have s121 := (fh116 x 10 (fun q => absurd q.2 (by decide))).trans s107
  have s122 := (fh116 x 11 (fun q => absurd q.2 (by decide))).trans s108
  have s123 := (fh116 bd 1 (fun q => absurd q.2 (by decide))).trans s109
  have s124 := (fh116 bd 2 (fun q => absurd q.2 (by decide))).trans s110
  have s125 := (fh116 bd 4 (fun q => absurd q.2 (by decide))).trans s111
  have s126 := (fh116 bd 5 (fun q => absurd q.2 (by decide))).trans s112
  have s127 := (fh116 bd 6 (fun q => absurd q.2 (by decide))).trans s113
  have s128 := (fh116 bd 7 (fun q => absurd q.2 (by decide))).trans s114
  have s129 := (fh116 bd 8 (fun q => absurd (((tbd).symm.trans (congrArg ty q.1)).trans tx) (by decide))).trans eh101
  exact gz_end (I := .return_) (len := 1) rfl (Or.inl rfl) ⟨sh116, uc * hb, ur * vb, zup (zup (w * hb) gh) 8, zup (zup (hh * vb) gv) 8, bl, bl + ((uc * hb) * (ur * vb)), rfl, s125, (by omega), (by omega), s126, (by omega), (by omega), s127, (by omega), (by omega), s128, (by omega), (by omega), s129, (by omega), (by omega), eh116, (by omega), (by omega), (by omega), (by omega), (by omega), (by omega), (by omega), (by omega), (by omega), (by omega), (by omega), (by omega), (by omega), (by omega)⟩
