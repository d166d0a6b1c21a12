/-! ===== methods of the landed text (by program) ===== -/
set_option maxRecDepth 20000 in
set_option maxHeartbeats 4000000 in
theorem cl_Writer_makeTable (d : Nat) {ty : Nat → Nat} {h : gH} (hJ : gJ rT 1027 ty h) (x : Nat) (tx : ty x = 71) (nb : Nat) (tnb : ty nb = 53) (q : Int) (rq : 1 ≤ q ∧ q ≤ 100) (uq : gUq ty) : gz gPP gGG gcn (d + 1) gt92 0 (gent [.ref x, .ref nb, .int (zi q)] 6) [] h (fun q _ => gSs rT 1027 ty [72999] h q.2.2 ∧ gfin gt92 q.1 q.2.1 = some none) := by
  have hS : gSs rT 1027 ty [72999] h h := gSs.rf hJ
  refine gz_s 2 (pc' := 2) (L' := [some (.ref x), some (.ref nb), some (.int (zi q)), none, none, none]) (S' := [.int (zi q), .int (zi 1)]) rfl ?_
  refine gz_call rfl (by decide) rfl (by decide) (by decide) (gcal_of rfl rfl rfl (Nat.le_of_ble_eq_true rfl) rfl) (cl_Math_max _ hS.1 1 ⟨by omega, by omega⟩ q ⟨by omega, by omega⟩ ) (fun q1 _ wq1 => ?_)
  obtain ⟨pq1, oq1, hq1⟩ := q1
  obtain ⟨xq1, zq1, gq1, aq1, bq1, uq1_0, uq1_1, uq1_2⟩ := wq1
  refine ⟨_, gq1, ?_⟩
  show gz gPP gGG gcn _ _ 5 [some (.ref x), some (.ref nb), some (.int (zi q)), none, none, none] [.int (zi zq1)] hq1 _
  have sq1 : gSs rT 1027 ty [72999] h hq1 := gSs.tr hS xq1 (by decide)
  refine gz_s 3 (pc' := 9) (L' := [some (.ref x), some (.ref nb), some (.int (zi q)), some (.int (zi zq1)), none, none]) (S' := [.int (zi 50), .int (zi zq1)]) rfl ?_
  have jn2 : ∀ (jn2v0 : Int), ((0 ≤ jn2v0) ∧ (jn2v0 ≤ 5000)) → gz gPP gGG gcn (d + 1) gt92 27 [some (.ref x), some (.ref nb), some (.int (zi q)), some (.int (zi zq1)), none, none] [.int (zi jn2v0)] hq1 (fun q _ => gSs rT 1027 ty [72999] h q.2.2 ∧ gfin gt92 q.1 q.2.1 = some none) := by
    intro jn2v0 jn2d
    refine gz_s 3 (pc' := 32) (L' := [some (.ref x), some (.ref nb), some (.int (zi q)), some (.int (zi zq1)), some (.int (zi jn2v0)), some (.int (zi 0))]) (S' := []) rfl ?_
    have lp3 : ∀ (fu : Nat) (h4 : gH) (i : Int), (65 - i).toNat < fu → gSs rT 1027 ty [72999] h h4 → (0 ≤ i ∧ i ≤ 64) → gz gPP gGG gcn (d + 1) gt92 32 [some (.ref x), some (.ref nb), some (.int (zi q)), some (.int (zi zq1)), some (.int (zi jn2v0)), some (.int (zi i))] [] h4 (fun q _ => gSs rT 1027 ty [72999] h q.2.2 ∧ gfin gt92 q.1 q.2.1 = some none) := by
      intro fu
      induction fu with
      | zero => intro h4 i hm; exact absurd hm (Nat.not_lt_zero _)
      | succ fu ihlp3 =>
        intro h4 i lp3m sh4 lp3f0 
        refine gz_s 2 (pc' := 36) (L' := [some (.ref x), some (.ref nb), some (.int (zi q)), some (.int (zi zq1)), some (.int (zi jn2v0)), some (.int (zi i))]) (S' := [.int (zi 64), .int (zi i)]) rfl ?_
        by_cases hc5 : (64 : Int) ≤ i
        · refine gy_icT (pc' := 75) rfl (by decide) (by decide) (by omega) (by omega) hc5 ?_
          exact gz_end (I := .return_) (len := 1) rfl (Or.inl rfl) ⟨sh4, rfl⟩
        · refine gy_icF rfl (by decide) (by decide) (by omega) (by omega) hc5 ?_
          refine gz_s 1 (pc' := 40) (L' := [some (.ref x), some (.ref nb), some (.int (zi q)), some (.int (zi zq1)), some (.int (zi jn2v0)), some (.int (zi i))]) (S' := [.ref x]) rfl ?_
          refine gs_gtr rfl (by decide) rfl sh4.1 tx rfl rfl rfl (fun c6 ec6 tc6 => ?_)
          refine gz_s 5 (pc' := 52) (L' := [some (.ref x), some (.ref nb), some (.int (zi q)), some (.int (zi zq1)), some (.int (zi jn2v0)), some (.int (zi i))]) (S' := [.int (zi i), .ref nb, .int (zi 255), .int (zi 1), .int (zi i), .ref c6]) rfl ?_
          have hl7 : 256 ≤ h4.2.2.2.1 nb ∧ h4.2.2.2.1 nb ≤ 256 := gJ.rowl (G := gGG) sh4.1 tnb rfl
          refine gs_ald rfl (by decide) sh4.1 tnb rfl rfl rfl (by decide) (fun _ => rfl) (by omega) (by omega) (fun z8 ez8 az8 bz8 => ?_)
          have hx9 := zx_f (a := z8) (b := jn2v0) (A := 255) (B := 5000) (by omega) (by omega) (by omega) (by omega)
          refine gy_s 5 (pc' := 61) (L' := [some (.ref x), some (.ref nb), some (.int (zi q)), some (.int (zi zq1)), some (.int (zi jn2v0)), some (.int (zi i))]) (S' := [.int (zi 100), .int (((zi z8) * (zi jn2v0)) + (zi 50)), .int (zi 255), .int (zi 1), .int (zi i), .ref c6]) (L2 := [some (.ref x), some (.ref nb), some (.int (zi q)), some (.int (zi zq1)), some (.int (zi jn2v0)), some (.int (zi i))]) (S2 := [.int (zi 100), .int (zi ((z8 * jn2v0) + 50)), .int (zi 255), .int (zi 1), .int (zi i), .ref c6]) rfl (by simp only [zi_add, zi_sub, zi_mul, zi_neg, zi_and1, zi_and7, zi_and15, zi_and31, zi_and255]) (by simp only [zi_add, zi_sub, zi_mul, zi_neg, zi_and1, zi_and7, zi_and15, zi_and31, zi_and255]) ?_
          refine gy_div rfl (by decide) (by omega) (by omega) ?_
          refine gz_call rfl (by decide) rfl (by decide) (by decide) (gcal_of rfl rfl rfl (Nat.le_of_ble_eq_true rfl) rfl) (cl_Math_min _ sh4.1 255 ⟨by omega, by omega⟩ (((z8 * jn2v0) + 50) / 100) ⟨by omega, by omega⟩ ) (fun q10 _ wq10 => ?_)
          obtain ⟨pq10, oq10, hq10⟩ := q10
          obtain ⟨xq10, zq10, gq10, aq10, bq10, uq10_0, uq10_1, uq10_2⟩ := wq10
          refine ⟨_, gq10, ?_⟩
          show gz gPP gGG gcn _ _ 65 [some (.ref x), some (.ref nb), some (.int (zi q)), some (.int (zi zq1)), some (.int (zi jn2v0)), some (.int (zi i))] [.int (zi zq10), .int (zi 1), .int (zi i), .ref c6] hq10 _
          have sq10 : gSs rT 1027 ty [72999] h hq10 := gSs.tr sh4 xq10 (by decide)
          have s11 := (xq10.2.2.2.2.2 x 1 (by rw [tx]; decide)).trans ec6
          refine gz_call rfl (by decide) rfl (by decide) (by decide) (gcal_of rfl rfl rfl (Nat.le_of_ble_eq_true rfl) rfl) (cl_Math_max _ sq10.1 1 ⟨by omega, by omega⟩ zq10 ⟨by omega, by omega⟩ ) (fun q12 _ wq12 => ?_)
          obtain ⟨pq12, oq12, hq12⟩ := q12
          obtain ⟨xq12, zq12, gq12, aq12, bq12, uq12_0, uq12_1, uq12_2⟩ := wq12
          refine ⟨_, gq12, ?_⟩
          show gz gPP gGG gcn _ _ 68 [some (.ref x), some (.ref nb), some (.int (zi q)), some (.int (zi zq1)), some (.int (zi jn2v0)), some (.int (zi i))] [.int (zi zq12), .int (zi i), .ref c6] hq12 _
          have sq12 : gSs rT 1027 ty [72999] h hq12 := gSs.tr sq10 xq12 (by decide)
          have s13 := (xq12.2.2.2.2.2 x 1 (by rw [tx]; decide)).trans s11
          have hl14 : 64 ≤ hq12.2.2.2.1 c6 ∧ hq12.2.2.2.1 c6 ≤ 64 := gJ.rowl (G := gGG) sq12.1 tc6 rfl
          refine gs_ast rfl (by decide) sq12 tc6 rfl rfl rfl (by decide) (fun _ => rfl) (by omega) (by omega) (fun _ => (by decide : (72999 : Nat) ∈ ([72999] : List Nat))) (by omega) (by omega) (fun h15 sh15 eh15 fh15 => ?_)
          have s16 := (fh15 x 1 (fun q => absurd (((tx).symm.trans (congrArg ty q.1)).trans tc6) (by decide))).trans s13
          have pr17 := gEl.set (i := i) (z := zq12) uq tc6 (by decide) eh15 (by omega) (by omega)
          refine gy_s 2 (pc' := 32) (L' := [some (.ref x), some (.ref nb), some (.int (zi q)), some (.int (zi zq1)), some (.int (zi jn2v0)), some (.int ((zi i) + zi 1))]) (S' := []) (L2 := [some (.ref x), some (.ref nb), some (.int (zi q)), some (.int (zi zq1)), some (.int (zi jn2v0)), some (.int (zi (i + 1)))]) (S2 := []) rfl (by simp only [zi_add, zi_sub, zi_mul, zi_neg, zi_and1, zi_and7, zi_and15, zi_and31, zi_and255]) (by simp only [zi_add, zi_sub, zi_mul, zi_neg, zi_and1, zi_and7, zi_and15, zi_and31, zi_and255]) ?_
          exact gz_wk (ihlp3 h15 (i + 1) (by omega) sh15 (by omega) ) (gLw.s (gLw.s (gLw.s (gLw.s (gLw.s (gLw.s gLw.z))))))
    exact gz_wk (lp3 _ hq1 0 (Nat.lt_succ_self _) sq1 (by omega) ) (gLw.s (gLw.s (gLw.s (gLw.s (gLw.s (gLw.s gLw.z))))))
  by_cases hc18 : (50 : Int) ≤ zq1
  · refine gy_icT (pc' := 20) rfl (by decide) (by decide) (by omega) (by omega) hc18 ?_
    refine gy_s 5 (pc' := 27) (L' := [some (.ref x), some (.ref nb), some (.int (zi q)), some (.int (zi zq1)), none, none]) (S' := [.int ((zi 200) - ((zi 2) * (zi zq1)))]) (L2 := [some (.ref x), some (.ref nb), some (.int (zi q)), some (.int (zi zq1)), none, none]) (S2 := [.int (zi (200 - (2 * zq1)))]) rfl (by simp only [zi_add, zi_sub, zi_mul, zi_neg, zi_and1, zi_and7, zi_and15, zi_and31, zi_and255]) (by simp only [zi_add, zi_sub, zi_mul, zi_neg, zi_and1, zi_and7, zi_and15, zi_and31, zi_and255]) ?_
    exact jn2 (200 - (2 * zq1)) (by omega)
  · refine gy_icF rfl (by decide) (by decide) (by omega) (by omega) hc18 ?_
    refine gz_s 2 (pc' := 16) (L' := [some (.ref x), some (.ref nb), some (.int (zi q)), some (.int (zi zq1)), none, none]) (S' := [.int (zi zq1), .int (zi 5000)]) rfl ?_
    refine gy_div rfl (by decide) (by omega) (by omega) ?_
    have hd19 := zd_f (x := 5000) (y := zq1) (by omega) (by omega)
    refine gz_s 1 (pc' := 27) (L' := [some (.ref x), some (.ref nb), some (.int (zi q)), some (.int (zi zq1)), none, none]) (S' := [.int (zi (5000 / zq1))]) rfl ?_
    exact jn2 (5000 / zq1) (by omega)
set_option maxRecDepth 20000 in
set_option maxHeartbeats 4000000 in
theorem cl_Writer_transformRows (d : Nat) {ty : Nat → Nat} {h : gH} (hJ : gJ rT 1027 ty h) (x : Nat) (tx : ty x = 71) (dr : Nat) (tdr : ty dr = 55) (lf : Int) (rlf : 0 ≤ lf ∧ lf ≤ 160) (tp : Int) (rtp : 0 ≤ tp ∧ tp ≤ 160) (hyst : gSta ty h) (uq : gUq ty) : gz gPP gGG gcn (d + 2) gt94 0 (gent [.ref x, .ref dr, .int (zi lf), .int (zi tp)] 9) [] h (fun q _ => gSs rT 1027 ty [74999] h q.2.2 ∧ gfin gt94 q.1 q.2.1 = some none) := by
  have hS : gSs rT 1027 ty [74999] h h := gSs.rf hJ
  refine gz_s 2 (pc' := 3) (L' := [some (.ref x), some (.ref dr), some (.int (zi lf)), some (.int (zi tp)), some (.int (zi 0)), none, none, none, none]) (S' := []) rfl ?_
  have lp1 : ∀ (fu : Nat) (h2 : gH) (y : Int), (9 - y).toNat < fu → gSs rT 1027 ty [74999] h h2 → (0 ≤ y ∧ y ≤ 8) → gz gPP gGG gcn (d + 2) gt94 3 [some (.ref x), some (.ref dr), some (.int (zi lf)), some (.int (zi tp)), some (.int (zi y)), none, none, none, none] [] h2 (fun q _ => gSs rT 1027 ty [74999] h q.2.2 ∧ gfin gt94 q.1 q.2.1 = some none) := by
    intro fu
    induction fu with
    | zero => intro h2 y hm; exact absurd hm (Nat.not_lt_zero _)
    | succ fu ihlp1 =>
      intro h2 y lp1m sh2 lp1f0 
      refine gz_s 2 (pc' := 7) (L' := [some (.ref x), some (.ref dr), some (.int (zi lf)), some (.int (zi tp)), some (.int (zi y)), none, none, none, none]) (S' := [.int (zi 8), .int (zi y)]) rfl ?_
      by_cases hc3 : (8 : Int) ≤ y
      · refine gy_icT (pc' := 97) rfl (by decide) (by decide) (by omega) (by omega) hc3 ?_
        exact gz_end (I := .return_) (len := 1) rfl (Or.inl rfl) ⟨sh2, rfl⟩
      · refine gy_icF rfl (by decide) (by decide) (by omega) (by omega) hc3 ?_
        refine gz_s 2 (pc' := 13) (L' := [some (.ref x), some (.ref dr), some (.int (zi lf)), some (.int (zi tp)), some (.int (zi y)), some (.int (zi 0)), none, none, none]) (S' := []) rfl ?_
        have lp4 : ∀ (fu : Nat) (h5 : gH) (u : Int), (9 - u).toNat < fu → gSs rT 1027 ty [74999] h h5 → (0 ≤ u ∧ u ≤ 8) → gz gPP gGG gcn (d + 2) gt94 13 [some (.ref x), some (.ref dr), some (.int (zi lf)), some (.int (zi tp)), some (.int (zi y)), some (.int (zi u)), none, none, none] [] h5 (fun q _ => gSs rT 1027 ty [74999] h q.2.2 ∧ gfin gt94 q.1 q.2.1 = some none) := by
          intro fu
          induction fu with
          | zero => intro h5 u hm; exact absurd hm (Nat.not_lt_zero _)
          | succ fu ihlp4 =>
            intro h5 u lp4m sh5 lp4f0 
            refine gz_s 2 (pc' := 17) (L' := [some (.ref x), some (.ref dr), some (.int (zi lf)), some (.int (zi tp)), some (.int (zi y)), some (.int (zi u)), none, none, none]) (S' := [.int (zi 8), .int (zi u)]) rfl ?_
            by_cases hc6 : (8 : Int) ≤ u
            · refine gy_icT (pc' := 91) rfl (by decide) (by decide) (by omega) (by omega) hc6 ?_
              refine gy_s 2 (pc' := 3) (L' := [some (.ref x), some (.ref dr), some (.int (zi lf)), some (.int (zi tp)), some (.int ((zi y) + zi 1)), some (.int (zi u)), none, none, none]) (S' := []) (L2 := [some (.ref x), some (.ref dr), some (.int (zi lf)), some (.int (zi tp)), some (.int (zi (y + 1))), some (.int (zi u)), none, none, none]) (S2 := []) rfl (by simp only [zi_add, zi_sub, zi_mul, zi_neg, zi_and1, zi_and7, zi_and15, zi_and31, zi_and255]) (by simp only [zi_add, zi_sub, zi_mul, zi_neg, zi_and1, zi_and7, zi_and15, zi_and31, zi_and255]) ?_
              exact gz_wk (ihlp1 h5 (y + 1) (by omega) sh5 (by omega) ) (gLw.s (gLw.s (gLw.s (gLw.s (gLw.s (gLw.n (gLw.n (gLw.n (gLw.n gLw.z)))))))))
            · refine gy_icF rfl (by decide) (by decide) (by omega) (by omega) hc6 ?_
              refine gz_s 4 (pc' := 26) (L' := [some (.ref x), some (.ref dr), some (.int (zi lf)), some (.int (zi tp)), some (.int (zi y)), some (.int (zi u)), some (.long (zl 0)), none, some (.int (zi 0))]) (S' := []) rfl ?_
              have lp7 : ∀ (fu : Nat) (h8 : gH) (sm : Int) (xx : Int), (9 - xx).toNat < fu → gSs rT 1027 ty [74999] h h8 → ((-4194304) ≤ sm ∧ sm ≤ 4194304) → (0 ≤ xx ∧ xx ≤ 8) → (-(524288 * xx) ≤ sm) → (sm ≤ 524288 * xx) → gz gPP gGG gcn (d + 2) gt94 26 [some (.ref x), some (.ref dr), some (.int (zi lf)), some (.int (zi tp)), some (.int (zi y)), some (.int (zi u)), some (.long (zl sm)), none, some (.int (zi xx))] [] h8 (fun q _ => gSs rT 1027 ty [74999] h q.2.2 ∧ gfin gt94 q.1 q.2.1 = some none) := by
                intro fu
                induction fu with
                | zero => intro h8 sm xx hm; exact absurd hm (Nat.not_lt_zero _)
                | succ fu ihlp7 =>
                  intro h8 sm xx lp7m sh8 lp7f0 lp7f1 lp7f2 lp7f3 
                  refine gz_s 2 (pc' := 30) (L' := [some (.ref x), some (.ref dr), some (.int (zi lf)), some (.int (zi tp)), some (.int (zi y)), some (.int (zi u)), some (.long (zl sm)), none, some (.int (zi xx))]) (S' := [.int (zi 8), .int (zi xx)]) rfl ?_
                  by_cases hc9 : (8 : Int) ≤ xx
                  · refine gy_icT (pc' := 70) rfl (by decide) (by decide) (by omega) (by omega) hc9 ?_
                    refine gz_s 1 (pc' := 71) (L' := [some (.ref x), some (.ref dr), some (.int (zi lf)), some (.int (zi tp)), some (.int (zi y)), some (.int (zi u)), some (.long (zl sm)), none, some (.int (zi xx))]) (S' := [.ref x]) rfl ?_
                    refine gs_gtr rfl (by decide) rfl sh8.1 tx rfl rfl rfl (fun c10 ec10 tc10 => ?_)
                    refine gy_s 6 (pc' := 84) (L' := [some (.ref x), some (.ref dr), some (.int (zi lf)), some (.int (zi tp)), some (.int (zi y)), some (.int (zi u)), some (.long (zl sm)), none, some (.int (zi xx))]) (S' := [.long (zl sm), .int (((zi 8) * (zi y)) + (zi u)), .ref c10]) (L2 := [some (.ref x), some (.ref dr), some (.int (zi lf)), some (.int (zi tp)), some (.int (zi y)), some (.int (zi u)), some (.long (zl sm)), none, some (.int (zi xx))]) (S2 := [.long (zl sm), .int (zi ((8 * y) + u)), .ref c10]) rfl (by simp only [zi_add, zi_sub, zi_mul, zi_neg, zi_and1, zi_and7, zi_and15, zi_and31, zi_and255, zl_add, zl_sub, zl_mul, zl_neg]) (by simp only [zi_add, zi_sub, zi_mul, zi_neg, zi_and1, zi_and7, zi_and15, zi_and31, zi_and255, zl_add, zl_sub, zl_mul, zl_neg]) ?_
                    have hl11 : 64 ≤ h8.2.2.2.1 c10 ∧ h8.2.2.2.1 c10 ≤ 64 := gJ.rowl (G := gGG) sh8.1 tc10 rfl
                    refine gs_last rfl (by decide) sh8 tc10 rfl rfl rfl (by decide) (fun _ => rfl) (by omega) (by omega) (fun _ => (by decide : (74999 : Nat) ∈ ([74999] : List Nat))) (by omega) (by omega) (fun h12 sh12 eh12 fh12 => ?_)
                    have s13 := (fh12 x 3 (fun q => absurd (((tx).symm.trans (congrArg ty q.1)).trans tc10) (by decide))).trans ec10
                    refine gy_s 2 (pc' := 13) (L' := [some (.ref x), some (.ref dr), some (.int (zi lf)), some (.int (zi tp)), some (.int (zi y)), some (.int ((zi u) + zi 1)), some (.long (zl sm)), none, some (.int (zi xx))]) (S' := []) (L2 := [some (.ref x), some (.ref dr), some (.int (zi lf)), some (.int (zi tp)), some (.int (zi y)), some (.int (zi (u + 1))), some (.long (zl sm)), none, some (.int (zi xx))]) (S2 := []) rfl (by simp only [zi_add, zi_sub, zi_mul, zi_neg, zi_and1, zi_and7, zi_and15, zi_and31, zi_and255, zl_add, zl_sub, zl_mul, zl_neg]) (by simp only [zi_add, zi_sub, zi_mul, zi_neg, zi_and1, zi_and7, zi_and15, zi_and31, zi_and255, zl_add, zl_sub, zl_mul, zl_neg]) ?_
                    exact gz_wk (ihlp4 h12 (u + 1) (by omega) sh12 (by omega) ) (gLw.s (gLw.s (gLw.s (gLw.s (gLw.s (gLw.s (gLw.n (gLw.n (gLw.n gLw.z)))))))))
                  · refine gy_icF rfl (by decide) (by decide) (by omega) (by omega) hc9 ?_
                    refine gz_s 3 (pc' := 39) (L' := [some (.ref x), some (.ref dr), some (.int (zi lf)), some (.int (zi tp)), some (.int (zi y)), some (.int (zi u)), some (.long (zl sm)), none, some (.int (zi xx))]) (S' := [.int (zi xx), .int (zi u), .long (zl sm)]) rfl ?_
                    refine gz_call rfl (by decide) rfl (by decide) (by decide) (gcal_of rfl rfl rfl (Nat.le_of_ble_eq_true rfl) rfl) (cl_DctFilter_cosine _ sh8.1 u ⟨by omega, by omega⟩ xx ⟨by omega, by omega⟩ (gSta.fr sh8.2 (by decide) hyst)) (fun q14 _ wq14 => ?_)
                    obtain ⟨pq14, oq14, hq14⟩ := q14
                    obtain ⟨xq14, zq14, gq14, aq14, bq14⟩ := wq14
                    refine ⟨_, gq14, ?_⟩
                    show gz gPP gGG gcn _ _ 42 [some (.ref x), some (.ref dr), some (.int (zi lf)), some (.int (zi tp)), some (.int (zi y)), some (.int (zi u)), some (.long (zl sm)), none, some (.int (zi xx))] [.int (zi zq14), .long (zl sm)] hq14 _
                    have sq14 : gSs rT 1027 ty [74999] h hq14 := gSs.tr sh8 xq14 (by decide)
                    refine gy_i2l rfl (by decide) ⟨by omega, by omega⟩ ?_
                    refine gy_s 7 (pc' := 52) (L' := [some (.ref x), some (.ref dr), some (.int (zi lf)), some (.int (zi tp)), some (.int (zi y)), some (.int (zi u)), some (.long (zl sm)), none, some (.int (zi xx))]) (S' := [.int ((zi tp) + (zi y)), .int ((zi lf) + (zi xx)), .ref dr, .long (zl zq14), .long (zl sm)]) (L2 := [some (.ref x), some (.ref dr), some (.int (zi lf)), some (.int (zi tp)), some (.int (zi y)), some (.int (zi u)), some (.long (zl sm)), none, some (.int (zi xx))]) (S2 := [.int (zi (tp + y)), .int (zi (lf + xx)), .ref dr, .long (zl zq14), .long (zl sm)]) rfl (by simp only [zi_add, zi_sub, zi_mul, zi_neg, zi_and1, zi_and7, zi_and15, zi_and31, zi_and255, zl_add, zl_sub, zl_mul, zl_neg]) (by simp only [zi_add, zi_sub, zi_mul, zi_neg, zi_and1, zi_and7, zi_and15, zi_and31, zi_and255, zl_add, zl_sub, zl_mul, zl_neg]) ?_
                    refine gz_call rfl (by decide) rfl (by decide) (by decide) (gcal_of rfl rfl rfl (Nat.le_of_ble_eq_true rfl) (gJ.recv (G := gGG) sq14.1 tdr rfl rfl)) (cl_Draft_filledPoint _ sq14.1 dr tdr (lf + xx) ⟨by omega, by omega⟩ (tp + y) ⟨by omega, by omega⟩ uq) (fun q15 _ wq15 => ?_)
                    obtain ⟨pq15, oq15, hq15⟩ := q15
                    obtain ⟨xq15, zq15, gq15, aq15, bq15⟩ := wq15
                    refine ⟨_, gq15, ?_⟩
                    show gz gPP gGG gcn _ _ 55 [some (.ref x), some (.ref dr), some (.int (zi lf)), some (.int (zi tp)), some (.int (zi y)), some (.int (zi u)), some (.long (zl sm)), none, some (.int (zi xx))] [.int (zi zq15), .long (zl zq14), .long (zl sm)] hq15 _
                    have sq15 : gSs rT 1027 ty [74999] h hq15 := gSs.tr sq14 xq15 (by decide)
                    refine gy_s 2 (pc' := 59) (L' := [some (.ref x), some (.ref dr), some (.int (zi lf)), some (.int (zi tp)), some (.int (zi y)), some (.int (zi u)), some (.long (zl sm)), none, some (.int (zi xx))]) (S' := [.int ((zi zq15) - (zi 128)), .long (zl zq14), .long (zl sm)]) (L2 := [some (.ref x), some (.ref dr), some (.int (zi lf)), some (.int (zi tp)), some (.int (zi y)), some (.int (zi u)), some (.long (zl sm)), none, some (.int (zi xx))]) (S2 := [.int (zi (zq15 - 128)), .long (zl zq14), .long (zl sm)]) rfl (by simp only [zi_add, zi_sub, zi_mul, zi_neg, zi_and1, zi_and7, zi_and15, zi_and31, zi_and255, zl_add, zl_sub, zl_mul, zl_neg]) (by simp only [zi_add, zi_sub, zi_mul, zi_neg, zi_and1, zi_and7, zi_and15, zi_and31, zi_and255, zl_add, zl_sub, zl_mul, zl_neg]) ?_
                    refine gy_i2l rfl (by decide) ⟨by omega, by omega⟩ ?_
                    have hx16 := zx_s (a := zq14) (b := zq15 - 128) (A := 4096) (B := 128) (by omega) (by omega) (by omega) (by omega)
                    refine gy_s 5 (pc' := 26) (L' := [some (.ref x), some (.ref dr), some (.int (zi lf)), some (.int (zi tp)), some (.int (zi y)), some (.int (zi u)), some (.long ((zl sm) + ((zl zq14) * (zl (zq15 - 128))))), none, some (.int ((zi xx) + zi 1))]) (S' := []) (L2 := [some (.ref x), some (.ref dr), some (.int (zi lf)), some (.int (zi tp)), some (.int (zi y)), some (.int (zi u)), some (.long (zl (sm + (zq14 * (zq15 - 128))))), none, some (.int (zi (xx + 1)))]) (S2 := []) rfl (by simp only [zi_add, zi_sub, zi_mul, zi_neg, zi_and1, zi_and7, zi_and15, zi_and31, zi_and255, zl_add, zl_sub, zl_mul, zl_neg]) (by simp only [zi_add, zi_sub, zi_mul, zi_neg, zi_and1, zi_and7, zi_and15, zi_and31, zi_and255, zl_add, zl_sub, zl_mul, zl_neg]) ?_
                    exact gz_wk (ihlp7 hq15 (sm + (zq14 * (zq15 - 128))) (xx + 1) (by omega) sq15 (by omega) (by omega) (by omega) (by omega) ) (gLw.s (gLw.s (gLw.s (gLw.s (gLw.s (gLw.s (gLw.s (gLw.n (gLw.s gLw.z)))))))))
              exact gz_wk (lp7 _ h5 0 0 (Nat.lt_succ_self _) sh5 (by omega) (by omega) (by omega) (by omega) ) (gLw.s (gLw.s (gLw.s (gLw.s (gLw.s (gLw.s (gLw.s (gLw.n (gLw.s gLw.z)))))))))
        exact gz_wk (lp4 _ h2 0 (Nat.lt_succ_self _) sh2 (by omega) ) (gLw.s (gLw.s (gLw.s (gLw.s (gLw.s (gLw.s (gLw.n (gLw.n (gLw.n gLw.z)))))))))
  exact gz_wk (lp1 _ h 0 (Nat.lt_succ_self _) hS (by omega) ) (gLw.s (gLw.s (gLw.s (gLw.s (gLw.s (gLw.n (gLw.n (gLw.n (gLw.n gLw.z)))))))))
set_option maxRecDepth 20000 in
set_option maxHeartbeats 4000000 in
theorem cl_Writer_sumAt (d : Nat) {ty : Nat → Nat} {h : gH} (hJ : gJ rT 1027 ty h) (x : Nat) (tx : ty x = 71) (u : Int) (ru : 0 ≤ u ∧ u ≤ 7) (v : Int) (rv : 0 ≤ v ∧ v ≤ 7) (hyst : gSta ty h) (uq : gUq ty) : gz gPP gGG gcn (d + 1) gt96 0 (gent [.ref x, .int (zi u), .int (zi v)] 6) [] h (fun q _ => gSs rT 1027 ty [] h q.2.2 ∧ ∃ z : Int, gfin gt96 q.1 q.2.1 = some (some (.long (zl z))) ∧ (-137438953472) ≤ z ∧ z ≤ 137438953472) := by
  have hS : gSs rT 1027 ty [] h h := gSs.rf hJ
  refine gz_s 4 (pc' := 5) (L' := [some (.ref x), some (.int (zi u)), some (.int (zi v)), some (.long (zl 0)), none, some (.int (zi 0))]) (S' := []) rfl ?_
  have lp1 : ∀ (fu : Nat) (h2 : gH) (sm : Int) (y : Int), (9 - y).toNat < fu → gSs rT 1027 ty [] h h2 → ((-137438953472) ≤ sm ∧ sm ≤ 137438953472) → (0 ≤ y ∧ y ≤ 8) → (-(17179869184 * y) ≤ sm) → (sm ≤ 17179869184 * y) → gz gPP gGG gcn (d + 1) gt96 5 [some (.ref x), some (.int (zi u)), some (.int (zi v)), some (.long (zl sm)), none, some (.int (zi y))] [] h2 (fun q _ => gSs rT 1027 ty [] h q.2.2 ∧ ∃ z : Int, gfin gt96 q.1 q.2.1 = some (some (.long (zl z))) ∧ (-137438953472) ≤ z ∧ z ≤ 137438953472) := by
    intro fu
    induction fu with
    | zero => intro h2 sm y hm; exact absurd hm (Nat.not_lt_zero _)
    | succ fu ihlp1 =>
      intro h2 sm y lp1m sh2 lp1f0 lp1f1 lp1f2 lp1f3 
      refine gz_s 2 (pc' := 9) (L' := [some (.ref x), some (.int (zi u)), some (.int (zi v)), some (.long (zl sm)), none, some (.int (zi y))]) (S' := [.int (zi 8), .int (zi y)]) rfl ?_
      by_cases hc3 : (8 : Int) ≤ y
      · refine gy_icT (pc' := 41) rfl (by decide) (by decide) (by omega) (by omega) hc3 ?_
        refine gz_s 1 (pc' := 42) (L' := [some (.ref x), some (.int (zi u)), some (.int (zi v)), some (.long (zl sm)), none, some (.int (zi y))]) (S' := [.long (zl sm)]) rfl ?_
        exact gz_end (I := .lreturn) (len := 1) rfl (Or.inl rfl) ⟨sh2, sm, rfl, (by omega), (by omega)⟩
      · refine gy_icF rfl (by decide) (by decide) (by omega) (by omega) hc3 ?_
        refine gz_s 3 (pc' := 16) (L' := [some (.ref x), some (.int (zi u)), some (.int (zi v)), some (.long (zl sm)), none, some (.int (zi y))]) (S' := [.int (zi y), .int (zi v), .long (zl sm)]) rfl ?_
        refine gz_call rfl (by decide) rfl (by decide) (by decide) (gcal_of rfl rfl rfl (Nat.le_of_ble_eq_true rfl) rfl) (cl_DctFilter_cosine _ sh2.1 v ⟨by omega, by omega⟩ y ⟨by omega, by omega⟩ (gSta.fr sh2.2 (by decide) hyst)) (fun q4 _ wq4 => ?_)
        obtain ⟨pq4, oq4, hq4⟩ := q4
        obtain ⟨xq4, zq4, gq4, aq4, bq4⟩ := wq4
        refine ⟨_, gq4, ?_⟩
        show gz gPP gGG gcn _ _ 19 [some (.ref x), some (.int (zi u)), some (.int (zi v)), some (.long (zl sm)), none, some (.int (zi y))] [.int (zi zq4), .long (zl sm)] hq4 _
        have sq4 : gSs rT 1027 ty [] h hq4 := gSs.tr sh2 xq4 (by decide)
        refine gy_i2l rfl (by decide) ⟨by omega, by omega⟩ ?_
        refine gz_s 1 (pc' := 21) (L' := [some (.ref x), some (.int (zi u)), some (.int (zi v)), some (.long (zl sm)), none, some (.int (zi y))]) (S' := [.ref x, .long (zl zq4), .long (zl sm)]) rfl ?_
        refine gs_gtr rfl (by decide) rfl sq4.1 tx rfl rfl rfl (fun c5 ec5 tc5 => ?_)
        refine gy_s 5 (pc' := 31) (L' := [some (.ref x), some (.int (zi u)), some (.int (zi v)), some (.long (zl sm)), none, some (.int (zi y))]) (S' := [.int (((zi 8) * (zi y)) + (zi u)), .ref c5, .long (zl zq4), .long (zl sm)]) (L2 := [some (.ref x), some (.int (zi u)), some (.int (zi v)), some (.long (zl sm)), none, some (.int (zi y))]) (S2 := [.int (zi ((8 * y) + u)), .ref c5, .long (zl zq4), .long (zl sm)]) rfl (by simp only [zi_add, zi_sub, zi_mul, zi_neg, zi_and1, zi_and7, zi_and15, zi_and31, zi_and255, zl_add, zl_sub, zl_mul, zl_neg]) (by simp only [zi_add, zi_sub, zi_mul, zi_neg, zi_and1, zi_and7, zi_and15, zi_and31, zi_and255, zl_add, zl_sub, zl_mul, zl_neg]) ?_
        have hl6 : 64 ≤ hq4.2.2.2.1 c5 ∧ hq4.2.2.2.1 c5 ≤ 64 := gJ.rowl (G := gGG) sq4.1 tc5 rfl
        refine gs_lald rfl (by decide) sq4.1 tc5 rfl rfl rfl (by decide) (fun _ => rfl) (by omega) (by omega) (fun z7 ez7 az7 bz7 => ?_)
        have hx8 := zx_s (a := zq4) (b := z7) (A := 4096) (B := 4194304) (by omega) (by omega) (by omega) (by omega)
        refine gy_s 5 (pc' := 5) (L' := [some (.ref x), some (.int (zi u)), some (.int (zi v)), some (.long ((zl sm) + ((zl zq4) * (zl z7)))), none, some (.int ((zi y) + zi 1))]) (S' := []) (L2 := [some (.ref x), some (.int (zi u)), some (.int (zi v)), some (.long (zl (sm + (zq4 * z7)))), none, some (.int (zi (y + 1)))]) (S2 := []) rfl (by simp only [zi_add, zi_sub, zi_mul, zi_neg, zi_and1, zi_and7, zi_and15, zi_and31, zi_and255, zl_add, zl_sub, zl_mul, zl_neg]) (by simp only [zi_add, zi_sub, zi_mul, zi_neg, zi_and1, zi_and7, zi_and15, zi_and31, zi_and255, zl_add, zl_sub, zl_mul, zl_neg]) ?_
        exact gz_wk (ihlp1 hq4 (sm + (zq4 * z7)) (y + 1) (by omega) sq4 (by omega) (by omega) (by omega) (by omega) ) (gLw.s (gLw.s (gLw.s (gLw.s (gLw.n (gLw.s gLw.z))))))
  exact gz_wk (lp1 _ h 0 0 (Nat.lt_succ_self _) hS (by omega) (by omega) (by omega) (by omega) ) (gLw.s (gLw.s (gLw.s (gLw.s (gLw.n (gLw.s gLw.z))))))
set_option maxRecDepth 20000 in
set_option maxHeartbeats 4000000 in
theorem cl_Writer_divided (d : Nat) {ty : Nat → Nat} {h : gH} (hJ : gJ rT 1027 ty h) (sm : Int) (rsm : (-137438953472) ≤ sm ∧ sm ≤ 137438953472) (n : Int) (rn : 0 ≤ n ∧ n ≤ 255) : gz gPP gGG gcn (d + 1) gt97 0 (gent [.long (zl sm), .int (zi n)] 6) [] h (fun q _ => gSs rT 1027 ty [] h q.2.2 ∧ ∃ z : Int, gfin gt97 q.1 q.2.1 = some (some (.int (zi z))) ∧ (-2048) ≤ z ∧ z ≤ 2048) := by
  have hS : gSs rT 1027 ty [] h h := gSs.rf hJ
  refine gz_s 2 (pc' := 2) (L' := [some (.long (zl sm)), none, some (.int (zi n)), none, none, none]) (S' := [.int (zi n), .int (zi 1)]) rfl ?_
  refine gz_call rfl (by decide) rfl (by decide) (by decide) (gcal_of rfl rfl rfl (Nat.le_of_ble_eq_true rfl) rfl) (cl_Math_max _ hS.1 1 ⟨by omega, by omega⟩ n ⟨by omega, by omega⟩ ) (fun q1 _ wq1 => ?_)
  obtain ⟨pq1, oq1, hq1⟩ := q1
  obtain ⟨xq1, zq1, gq1, aq1, bq1, uq1_0, uq1_1, uq1_2⟩ := wq1
  refine ⟨_, gq1, ?_⟩
  show gz gPP gGG gcn _ _ 5 [some (.long (zl sm)), none, some (.int (zi n)), none, none, none] [.int (zi zq1)] hq1 _
  have sq1 : gSs rT 1027 ty [] h hq1 := gSs.tr hS xq1 (by decide)
  refine gy_i2l rfl (by decide) ⟨by omega, by omega⟩ ?_
  refine gz_s 1 (pc' := 8) (L' := [some (.long (zl sm)), none, some (.int (zi n)), none, none, none]) (S' := [.int (zi 26), .long (zl zq1)]) rfl ?_
  refine gy_lsh26 rfl (by decide) (by omega) ?_
  refine gz_s 2 (pc' := 11) (L' := [some (.long (zl sm)), none, some (.int (zi n)), some (.long (zl (zq1 * 67108864))), none, none]) (S' := [.long (zl sm)]) rfl ?_
  refine gz_call rfl (by decide) rfl (by decide) (by decide) (gcal_of rfl rfl rfl (Nat.le_of_ble_eq_true rfl) rfl) (cl_Math_absL _ sq1.1 sm ⟨by omega, by omega⟩ ) (fun q2 _ wq2 => ?_)
  obtain ⟨pq2, oq2, hq2⟩ := q2
  obtain ⟨xq2, zq2, gq2, aq2, bq2, uq2_0, uq2_1⟩ := wq2
  refine ⟨_, gq2, ?_⟩
  show gz gPP gGG gcn _ _ 14 [some (.long (zl sm)), none, some (.int (zi n)), some (.long (zl (zq1 * 67108864))), none, none] [.long (zl zq2)] hq2 _
  have sq2 : gSs rT 1027 ty [] h hq2 := gSs.tr sq1 xq2 (by decide)
  refine gz_s 1 (pc' := 15) (L' := [some (.long (zl sm)), none, some (.int (zi n)), some (.long (zl (zq1 * 67108864))), none, none]) (S' := [.long (zl (zq1 * 67108864)), .long (zl zq2)]) rfl ?_
  refine gz_1 rfl (by decide) rfl rfl (pc' := 18) (S' := [.long (zl 2), .long (zl (zq1 * 67108864)), .long (zl zq2)]) (h' := hq2) rfl ?_
  refine gy_ldiv rfl (by decide) (by omega) (by omega) ?_
  refine gy_s 2 (pc' := 21) (L' := [some (.long (zl sm)), none, some (.int (zi n)), some (.long (zl (zq1 * 67108864))), none, none]) (S' := [.long (zl (zq1 * 67108864)), .long ((zl zq2) + (zl ((zq1 * 67108864) / 2)))]) (L2 := [some (.long (zl sm)), none, some (.int (zi n)), some (.long (zl (zq1 * 67108864))), none, none]) (S2 := [.long (zl (zq1 * 67108864)), .long (zl (zq2 + ((zq1 * 67108864) / 2)))]) rfl (by simp only [zi_add, zi_sub, zi_mul, zi_neg, zi_and1, zi_and7, zi_and15, zi_and31, zi_and255, zl_add, zl_sub, zl_mul, zl_neg]) (by simp only [zi_add, zi_sub, zi_mul, zi_neg, zi_and1, zi_and7, zi_and15, zi_and31, zi_and255, zl_add, zl_sub, zl_mul, zl_neg]) ?_
  refine gy_ldiv rfl (by decide) (by omega) (by omega) ?_
  have hd3 := zd_f (x := zq2 + ((zq1 * 67108864) / 2)) (y := zq1 * 67108864) (by omega) (by omega)
  have hdv : 0 ≤ (zq2 + ((zq1 * 67108864) / 2)) / (zq1 * 67108864) ∧ (zq2 + ((zq1 * 67108864) / 2)) / (zq1 * 67108864) ≤ 2048 := zdv (by omega) (by omega)
  refine gy_l2i rfl (by decide) ?_
  refine gz_s 3 (pc' := 27) (L' := [some (.long (zl sm)), none, some (.int (zi n)), some (.long (zl (zq1 * 67108864))), none, some (.int (zi ((zq2 + ((zq1 * 67108864) / 2)) / (zq1 * 67108864))))]) (S' := [.long (zl 0), .long (zl sm)]) rfl ?_
  refine gy_lcmp rfl (by decide) (by omega) (by omega) (fun z4 az4 bz4 cz4 => ?_)
  by_cases hc5 : (0 : Int) ≤ z4
  · refine gy_ifT (pc' := 37) rfl (by decide) (by decide) (by omega) hc5 ?_
    refine gz_s 1 (pc' := 39) (L' := [some (.long (zl sm)), none, some (.int (zi n)), some (.long (zl (zq1 * 67108864))), none, some (.int (zi ((zq2 + ((zq1 * 67108864) / 2)) / (zq1 * 67108864))))]) (S' := [.int (zi ((zq2 + ((zq1 * 67108864) / 2)) / (zq1 * 67108864)))]) rfl ?_
    exact gz_end (I := .ireturn) (len := 1) rfl (Or.inl rfl) ⟨sq2, (zq2 + ((zq1 * 67108864) / 2)) / (zq1 * 67108864), rfl, (by omega), (by omega)⟩
  · refine gy_ifF rfl (by decide) (by decide) (by omega) hc5 ?_
    refine gy_s 3 (pc' := 39) (L' := [some (.long (zl sm)), none, some (.int (zi n)), some (.long (zl (zq1 * 67108864))), none, some (.int (zi ((zq2 + ((zq1 * 67108864) / 2)) / (zq1 * 67108864))))]) (S' := [.int (-(zi ((zq2 + ((zq1 * 67108864) / 2)) / (zq1 * 67108864))))]) (L2 := [some (.long (zl sm)), none, some (.int (zi n)), some (.long (zl (zq1 * 67108864))), none, some (.int (zi ((zq2 + ((zq1 * 67108864) / 2)) / (zq1 * 67108864))))]) (S2 := [.int (zi (-((zq2 + ((zq1 * 67108864) / 2)) / (zq1 * 67108864))))]) rfl (by simp only [zi_add, zi_sub, zi_mul, zi_neg, zi_and1, zi_and7, zi_and15, zi_and31, zi_and255, zl_add, zl_sub, zl_mul, zl_neg]) (by simp only [zi_add, zi_sub, zi_mul, zi_neg, zi_and1, zi_and7, zi_and15, zi_and31, zi_and255, zl_add, zl_sub, zl_mul, zl_neg]) ?_
    exact gz_end (I := .ireturn) (len := 1) rfl (Or.inl rfl) ⟨sq2, -((zq2 + ((zq1 * 67108864) / 2)) / (zq1 * 67108864)), rfl, (by omega), (by omega)⟩
set_option maxRecDepth 20000 in
set_option maxHeartbeats 4000000 in
theorem cl_Writer_transformCanvas (d : Nat) {ty : Nat → Nat} {h : gH} (hJ : gJ rT 1027 ty h) (x : Nat) (tx : ty x = 71) (dr : Nat) (tdr : ty dr = 55) (hyst : gSta ty h) (uq : gUq ty) : gz gPP gGG gcn (d + 3) gt93 0 (gent [.ref x, .ref dr] 5) [] h (fun q _ => gSs rT 1027 ty [71005, 73999, 74999] h q.2.2 ∧ gfin gt93 q.1 q.2.1 = some none) := by
  have hS : gSs rT 1027 ty [71005, 73999, 74999] h h := gSs.rf hJ
  refine gz_s 2 (pc' := 2) (L' := [some (.ref x), some (.ref dr), none, none, none]) (S' := [.ref dr, .int (zi 1)]) rfl ?_
  refine gs_get rfl (by decide) rfl hS.1 tdr rfl rfl rfl (fun z1 ez1 az1 bz1 => ?_)
  refine gz_s 1 (pc' := 7) (L' := [some (.ref x), some (.ref dr), none, none, none]) (S' := [.int (zi 8), .int (zi z1), .int (zi 1)]) rfl ?_
  refine gz_call rfl (by decide) rfl (by decide) (by decide) (gcal_of rfl rfl rfl (Nat.le_of_ble_eq_true rfl) rfl) (cl_DctFilter_upward _ hS.1 z1 ⟨by omega, by omega⟩ 8 ⟨by omega, by omega⟩ ) (fun q2 _ wq2 => ?_)
  obtain ⟨pq2, oq2, hq2⟩ := q2
  obtain ⟨xq2, zq2, gq2, aq2, bq2, uq2_0⟩ := wq2
  refine ⟨_, gq2, ?_⟩
  show gz gPP gGG gcn _ _ 10 [some (.ref x), some (.ref dr), none, none, none] [.int (zi zq2), .int (zi 1)] hq2 _
  have sq2 : gSs rT 1027 ty [71005, 73999, 74999] h hq2 := gSs.tr hS xq2 (by decide)
  have s3 := (xq2.2.2.2.2.2 dr 1 (by rw [tdr]; decide)).trans ez1
  have hzu := zup_b (a := z1) (b := 8) (by omega) (by omega)
  refine gz_call rfl (by decide) rfl (by decide) (by decide) (gcal_of rfl rfl rfl (Nat.le_of_ble_eq_true rfl) rfl) (cl_Math_max _ sq2.1 1 ⟨by omega, by omega⟩ zq2 ⟨by omega, by omega⟩ ) (fun q4 _ wq4 => ?_)
  obtain ⟨pq4, oq4, hq4⟩ := q4
  obtain ⟨xq4, zq4, gq4, aq4, bq4, uq4_0, uq4_1, uq4_2⟩ := wq4
  refine ⟨_, gq4, ?_⟩
  show gz gPP gGG gcn _ _ 13 [some (.ref x), some (.ref dr), none, none, none] [.int (zi zq4)] hq4 _
  have sq4 : gSs rT 1027 ty [71005, 73999, 74999] h hq4 := gSs.tr sq2 xq4 (by decide)
  have s5 := (xq4.2.2.2.2.2 dr 1 (by rw [tdr]; decide)).trans s3
  refine gz_s 5 (pc' := 19) (L' := [some (.ref x), some (.ref dr), some (.int (zi zq4)), none, none]) (S' := [.ref dr, .int (zi zq4), .int (zi 16), .ref x]) rfl ?_
  refine gs_get rfl (by decide) rfl sq4.1 tdr rfl rfl rfl (fun z6 ez6 az6 bz6 => ?_)
  refine gz_s 1 (pc' := 24) (L' := [some (.ref x), some (.ref dr), some (.int (zi zq4)), none, none]) (S' := [.int (zi 8), .int (zi z6), .int (zi zq4), .int (zi 16), .ref x]) rfl ?_
  refine gz_call rfl (by decide) rfl (by decide) (by decide) (gcal_of rfl rfl rfl (Nat.le_of_ble_eq_true rfl) rfl) (cl_DctFilter_upward _ sq4.1 z6 ⟨by omega, by omega⟩ 8 ⟨by omega, by omega⟩ ) (fun q7 _ wq7 => ?_)
  obtain ⟨pq7, oq7, hq7⟩ := q7
  obtain ⟨xq7, zq7, gq7, aq7, bq7, uq7_0⟩ := wq7
  refine ⟨_, gq7, ?_⟩
  show gz gPP gGG gcn _ _ 27 [some (.ref x), some (.ref dr), some (.int (zi zq4)), none, none] [.int (zi zq7), .int (zi zq4), .int (zi 16), .ref x] hq7 _
  have sq7 : gSs rT 1027 ty [71005, 73999, 74999] h hq7 := gSs.tr sq4 xq7 (by decide)
  have s8 := (xq7.2.2.2.2.2 dr 1 (by rw [tdr]; decide)).trans s5
  have s9 := (xq7.2.2.2.2.2 dr 2 (by rw [tdr]; decide)).trans ez6
  have hzv := zup_b (a := z6) (b := 8) (by omega) (by omega)
  have hx10 := zx_f (a := zq4) (b := zq7) (A := 4) (B := 4) (by omega) (by omega) (by omega) (by omega)
  refine gy_s 1 (pc' := 28) (L' := [some (.ref x), some (.ref dr), some (.int (zi zq4)), none, none]) (S' := [.int ((zi zq4) * (zi zq7)), .int (zi 16), .ref x]) (L2 := [some (.ref x), some (.ref dr), some (.int (zi zq4)), none, none]) (S2 := [.int (zi (zq4 * zq7)), .int (zi 16), .ref x]) rfl (by simp only [zi_add, zi_sub, zi_mul, zi_neg, zi_and1, zi_and7, zi_and15, zi_and31, zi_and255]) (by simp only [zi_add, zi_sub, zi_mul, zi_neg, zi_and1, zi_and7, zi_and15, zi_and31, zi_and255]) ?_
  refine gz_call rfl (by decide) rfl (by decide) (by decide) (gcal_of rfl rfl rfl (Nat.le_of_ble_eq_true rfl) rfl) (cl_Math_min _ sq7.1 16 ⟨by omega, by omega⟩ (zq4 * zq7) ⟨by omega, by omega⟩ ) (fun q11 _ wq11 => ?_)
  obtain ⟨pq11, oq11, hq11⟩ := q11
  obtain ⟨xq11, zq11, gq11, aq11, bq11, uq11_0, uq11_1, uq11_2⟩ := wq11
  refine ⟨_, gq11, ?_⟩
  show gz gPP gGG gcn _ _ 31 [some (.ref x), some (.ref dr), some (.int (zi zq4)), none, none] [.int (zi zq11), .ref x] hq11 _
  have sq11 : gSs rT 1027 ty [71005, 73999, 74999] h hq11 := gSs.tr sq7 xq11 (by decide)
  have s12 := (xq11.2.2.2.2.2 dr 1 (by rw [tdr]; decide)).trans s8
  have s13 := (xq11.2.2.2.2.2 dr 2 (by rw [tdr]; decide)).trans s9
  refine gs_put rfl (by decide) rfl sq11 tx rfl rfl rfl rfl (Or.inl rfl) (by decide) (by omega) (by omega) (fun h14 sh14 eh14 fh14 => ?_)
  have s15 := (fh14 dr 1 (fun q => absurd q.2 (by decide))).trans s12
  have s16 := (fh14 dr 2 (fun q => absurd q.2 (by decide))).trans s13
  refine gz_s 2 (pc' := 36) (L' := [some (.ref x), some (.ref dr), some (.int (zi zq4)), some (.int (zi 0)), none]) (S' := []) rfl ?_
  have lp17 : ∀ (fu : Nat) (h18 : gH) (b : Int), (17 - b).toNat < fu → gSs rT 1027 ty [71005, 73999, 74999] h h18 → (0 ≤ b ∧ b ≤ 16) → h18.2.2.2.2 dr 1 = .int (zi z1) → h18.2.2.2.2 dr 2 = .int (zi z6) → h18.2.2.2.2 x 5 = .int (zi zq11) → gz gPP gGG gcn (d + 3) gt93 36 [some (.ref x), some (.ref dr), some (.int (zi zq4)), some (.int (zi b)), none] [] h18 (fun q _ => gSs rT 1027 ty [71005, 73999, 74999] h q.2.2 ∧ gfin gt93 q.1 q.2.1 = some none) := by
    intro fu
    induction fu with
    | zero => intro h18 b hm; exact absurd hm (Nat.not_lt_zero _)
    | succ fu ihlp17 =>
      intro h18 b lp17m sh18 lp17f0 lp17k0 lp17k1 lp17k2
      refine gz_s 2 (pc' := 38) (L' := [some (.ref x), some (.ref dr), some (.int (zi zq4)), some (.int (zi b)), none]) (S' := [.ref x, .int (zi b)]) rfl ?_
      refine gs_gtk rfl (by decide) rfl sh18.1 tx rfl rfl lp17k2 ?_
      by_cases hc19 : (zq11 : Int) ≤ b
      · refine gy_icT (pc' := 126) rfl (by decide) (by decide) (by omega) (by omega) hc19 ?_
        exact gz_end (I := .return_) (len := 1) rfl (Or.inl rfl) ⟨sh18, rfl⟩
      · refine gy_icF rfl (by decide) (by decide) (by omega) (by omega) hc19 ?_
        refine gz_s 4 (pc' := 48) (L' := [some (.ref x), some (.ref dr), some (.int (zi zq4)), some (.int (zi b)), none]) (S' := [.int (zi zq4), .int (zi b), .ref dr, .ref x]) rfl ?_
        refine gy_rem rfl (by decide) (by omega) (by omega) ?_
        have hd20 := zm_f (x := b) (y := zq4) (by omega) (by omega)
        refine gy_s 4 (pc' := 54) (L' := [some (.ref x), some (.ref dr), some (.int (zi zq4)), some (.int (zi b)), none]) (S' := [.int (zi zq4), .int (zi b), .int ((zi (b % zq4)) * (zi 8)), .ref dr, .ref x]) (L2 := [some (.ref x), some (.ref dr), some (.int (zi zq4)), some (.int (zi b)), none]) (S2 := [.int (zi zq4), .int (zi b), .int (zi ((b % zq4) * 8)), .ref dr, .ref x]) rfl (by simp only [zi_add, zi_sub, zi_mul, zi_neg, zi_and1, zi_and7, zi_and15, zi_and31, zi_and255]) (by simp only [zi_add, zi_sub, zi_mul, zi_neg, zi_and1, zi_and7, zi_and15, zi_and31, zi_and255]) ?_
        refine gy_div rfl (by decide) (by omega) (by omega) ?_
        have hd21 := zd_f (x := b) (y := zq4) (by omega) (by omega)
        refine gy_s 2 (pc' := 58) (L' := [some (.ref x), some (.ref dr), some (.int (zi zq4)), some (.int (zi b)), none]) (S' := [.int ((zi (b / zq4)) * (zi 8)), .int (zi ((b % zq4) * 8)), .ref dr, .ref x]) (L2 := [some (.ref x), some (.ref dr), some (.int (zi zq4)), some (.int (zi b)), none]) (S2 := [.int (zi ((b / zq4) * 8)), .int (zi ((b % zq4) * 8)), .ref dr, .ref x]) rfl (by simp only [zi_add, zi_sub, zi_mul, zi_neg, zi_and1, zi_and7, zi_and15, zi_and31, zi_and255]) (by simp only [zi_add, zi_sub, zi_mul, zi_neg, zi_and1, zi_and7, zi_and15, zi_and31, zi_and255]) ?_
        refine gz_call rfl (by decide) rfl (by decide) (by decide) (gcal_of rfl rfl rfl (Nat.le_of_ble_eq_true rfl) (gJ.recv (G := gGG) sh18.1 tx rfl rfl)) (cl_Writer_transformRows _ sh18.1 x tx dr tdr ((b % zq4) * 8) ⟨by omega, by omega⟩ ((b / zq4) * 8) ⟨by omega, by omega⟩ (gSta.fr sh18.2 (by decide) hyst) uq) (fun q22 _ wq22 => ?_)
        obtain ⟨pq22, oq22, hq22⟩ := q22
        obtain ⟨xq22, gq22⟩ := wq22
        refine ⟨_, gq22, ?_⟩
        show gz gPP gGG gcn _ _ 61 [some (.ref x), some (.ref dr), some (.int (zi zq4)), some (.int (zi b)), none] [] hq22 _
        have sq22 : gSs rT 1027 ty [71005, 73999, 74999] h hq22 := gSs.tr sh18 xq22 (by decide)
        have s23 := (xq22.2.2.2.2.2 dr 1 (by rw [tdr]; decide)).trans lp17k0
        have s24 := (xq22.2.2.2.2.2 dr 2 (by rw [tdr]; decide)).trans lp17k1
        have s25 := (xq22.2.2.2.2.2 x 5 (by rw [tx]; decide)).trans lp17k2
        refine gz_s 2 (pc' := 64) (L' := [some (.ref x), some (.ref dr), some (.int (zi zq4)), some (.int (zi b)), some (.int (zi 0))]) (S' := []) rfl ?_
        have lp26 : ∀ (fu : Nat) (h27 : gH) (i : Int), (65 - i).toNat < fu → gSs rT 1027 ty [71005, 73999, 74999] h h27 → (0 ≤ i ∧ i ≤ 64) → h27.2.2.2.2 dr 1 = .int (zi z1) → h27.2.2.2.2 dr 2 = .int (zi z6) → h27.2.2.2.2 x 5 = .int (zi zq11) → gz gPP gGG gcn (d + 3) gt93 64 [some (.ref x), some (.ref dr), some (.int (zi zq4)), some (.int (zi b)), some (.int (zi i))] [] h27 (fun q _ => gSs rT 1027 ty [71005, 73999, 74999] h q.2.2 ∧ gfin gt93 q.1 q.2.1 = some none) := by
          intro fu
          induction fu with
          | zero => intro h27 i hm; exact absurd hm (Nat.not_lt_zero _)
          | succ fu ihlp26 =>
            intro h27 i lp26m sh27 lp26f0 lp26k0 lp26k1 lp26k2
            refine gz_s 2 (pc' := 68) (L' := [some (.ref x), some (.ref dr), some (.int (zi zq4)), some (.int (zi b)), some (.int (zi i))]) (S' := [.int (zi 64), .int (zi i)]) rfl ?_
            by_cases hc28 : (64 : Int) ≤ i
            · refine gy_icT (pc' := 120) rfl (by decide) (by decide) (by omega) (by omega) hc28 ?_
              refine gy_s 2 (pc' := 36) (L' := [some (.ref x), some (.ref dr), some (.int (zi zq4)), some (.int ((zi b) + zi 1)), some (.int (zi i))]) (S' := []) (L2 := [some (.ref x), some (.ref dr), some (.int (zi zq4)), some (.int (zi (b + 1))), some (.int (zi i))]) (S2 := []) rfl (by simp only [zi_add, zi_sub, zi_mul, zi_neg, zi_and1, zi_and7, zi_and15, zi_and31, zi_and255]) (by simp only [zi_add, zi_sub, zi_mul, zi_neg, zi_and1, zi_and7, zi_and15, zi_and31, zi_and255]) ?_
              exact gz_wk (ihlp17 h27 (b + 1) (by omega) sh27 (by omega) lp26k0 lp26k1 lp26k2) (gLw.s (gLw.s (gLw.s (gLw.s (gLw.n gLw.z)))))
            · refine gy_icF rfl (by decide) (by decide) (by omega) (by omega) hc28 ?_
              refine gz_s 1 (pc' := 72) (L' := [some (.ref x), some (.ref dr), some (.int (zi zq4)), some (.int (zi b)), some (.int (zi i))]) (S' := [.ref x]) rfl ?_
              refine gs_gtr rfl (by decide) rfl sh27.1 tx rfl rfl rfl (fun c29 ec29 tc29 => ?_)
              refine gy_s 6 (pc' := 83) (L' := [some (.ref x), some (.ref dr), some (.int (zi zq4)), some (.int (zi b)), some (.int (zi i))]) (S' := [.ref x, .int (((zi b) * (zi 64)) + (zi i)), .ref c29]) (L2 := [some (.ref x), some (.ref dr), some (.int (zi zq4)), some (.int (zi b)), some (.int (zi i))]) (S2 := [.ref x, .int (zi ((b * 64) + i)), .ref c29]) rfl (by simp only [zi_add, zi_sub, zi_mul, zi_neg, zi_and1, zi_and7, zi_and15, zi_and31, zi_and255]) (by simp only [zi_add, zi_sub, zi_mul, zi_neg, zi_and1, zi_and7, zi_and15, zi_and31, zi_and255]) ?_
              refine gz_1 rfl (by decide) rfl rfl (pc' := 86) (S' := [.ref 0, .ref x, .int (zi ((b * 64) + i)), .ref c29]) (h' := h27) rfl ?_
              refine gz_s 1 (pc' := 88) (L' := [some (.ref x), some (.ref dr), some (.int (zi zq4)), some (.int (zi b)), some (.int (zi i))]) (S' := [.int (zi i), .ref 0, .ref x, .int (zi ((b * 64) + i)), .ref c29]) rfl ?_
              refine gs_st0 rfl (by decide) rfl (gSta.fr sh27.2 (by decide) hyst) (by omega) (by omega) (fun z30 az30 bz30 => ?_)
              refine gy_s 2 (pc' := 92) (L' := [some (.ref x), some (.ref dr), some (.int (zi zq4)), some (.int (zi b)), some (.int (zi i))]) (S' := [.int ((zi z30) &&& (zi 7)), .ref x, .int (zi ((b * 64) + i)), .ref c29]) (L2 := [some (.ref x), some (.ref dr), some (.int (zi zq4)), some (.int (zi b)), some (.int (zi i))]) (S2 := [.int (zi (z30 % 8)), .ref x, .int (zi ((b * 64) + i)), .ref c29]) rfl (by simp only [zi_add, zi_sub, zi_mul, zi_neg, zi_and1, zi_and7, zi_and15, zi_and31, zi_and255]) (by simp only [zi_add, zi_sub, zi_mul, zi_neg, zi_and1, zi_and7, zi_and15, zi_and31, zi_and255]) ?_
              refine gz_1 rfl (by decide) rfl rfl (pc' := 95) (S' := [.ref 0, .int (zi (z30 % 8)), .ref x, .int (zi ((b * 64) + i)), .ref c29]) (h' := h27) rfl ?_
              refine gz_s 1 (pc' := 97) (L' := [some (.ref x), some (.ref dr), some (.int (zi zq4)), some (.int (zi b)), some (.int (zi i))]) (S' := [.int (zi i), .ref 0, .int (zi (z30 % 8)), .ref x, .int (zi ((b * 64) + i)), .ref c29]) rfl ?_
              refine gs_st0 rfl (by decide) rfl (gSta.fr sh27.2 (by decide) hyst) (by omega) (by omega) (fun z31 az31 bz31 => ?_)
              refine gz_s 1 (pc' := 99) (L' := [some (.ref x), some (.ref dr), some (.int (zi zq4)), some (.int (zi b)), some (.int (zi i))]) (S' := [.int (zi 3), .int (zi z31), .int (zi (z30 % 8)), .ref x, .int (zi ((b * 64) + i)), .ref c29]) rfl ?_
              refine gy_shc (n := 3) (v := 8) rfl (by decide) (by omega) (by decide) (by decide) rfl ?_
              refine gz_call rfl (by decide) rfl (by decide) (by decide) (gcal_of rfl rfl rfl (Nat.le_of_ble_eq_true rfl) (gJ.recv (G := gGG) sh27.1 tx rfl rfl)) (cl_Writer_sumAt _ sh27.1 x tx (z30 % 8) ⟨by omega, by omega⟩ (z31 / 8) ⟨by omega, by omega⟩ (gSta.fr sh27.2 (by decide) hyst) uq) (fun q32 _ wq32 => ?_)
              obtain ⟨pq32, oq32, hq32⟩ := q32
              obtain ⟨xq32, zq32, gq32, aq32, bq32⟩ := wq32
              refine ⟨_, gq32, ?_⟩
              show gz gPP gGG gcn _ _ 103 [some (.ref x), some (.ref dr), some (.int (zi zq4)), some (.int (zi b)), some (.int (zi i))] [.long (zl zq32), .int (zi ((b * 64) + i)), .ref c29] hq32 _
              have sq32 : gSs rT 1027 ty [71005, 73999, 74999] h hq32 := gSs.tr sh27 xq32 (by decide)
              have s33 := (xq32.2.2.2.2.2 dr 1 (by rw [tdr]; decide)).trans lp26k0
              have s34 := (xq32.2.2.2.2.2 dr 2 (by rw [tdr]; decide)).trans lp26k1
              have s35 := (xq32.2.2.2.2.2 x 5 (by rw [tx]; decide)).trans lp26k2
              have s36 := (xq32.2.2.2.2.2 x 2 (by rw [tx]; decide)).trans ec29
              refine gz_s 1 (pc' := 104) (L' := [some (.ref x), some (.ref dr), some (.int (zi zq4)), some (.int (zi b)), some (.int (zi i))]) (S' := [.ref x, .long (zl zq32), .int (zi ((b * 64) + i)), .ref c29]) rfl ?_
              refine gs_gtr rfl (by decide) rfl sq32.1 tx rfl rfl rfl (fun c37 ec37 tc37 => ?_)
              refine gz_s 1 (pc' := 109) (L' := [some (.ref x), some (.ref dr), some (.int (zi zq4)), some (.int (zi b)), some (.int (zi i))]) (S' := [.int (zi i), .ref c37, .long (zl zq32), .int (zi ((b * 64) + i)), .ref c29]) rfl ?_
              have hl38 : 64 ≤ hq32.2.2.2.1 c37 ∧ hq32.2.2.2.1 c37 ≤ 64 := gJ.rowl (G := gGG) sq32.1 tc37 rfl
              refine gs_ald rfl (by decide) sq32.1 tc37 rfl rfl rfl (by decide) (fun _ => rfl) (by omega) (by omega) (fun z39 ez39 az39 bz39 => ?_)
              refine gz_call rfl (by decide) rfl (by decide) (by decide) (gcal_of rfl rfl rfl (Nat.le_of_ble_eq_true rfl) rfl) (cl_Writer_divided _ sq32.1 zq32 ⟨by omega, by omega⟩ z39 ⟨by omega, by omega⟩ ) (fun q40 _ wq40 => ?_)
              obtain ⟨pq40, oq40, hq40⟩ := q40
              obtain ⟨xq40, zq40, gq40, aq40, bq40⟩ := wq40
              refine ⟨_, gq40, ?_⟩
              show gz gPP gGG gcn _ _ 113 [some (.ref x), some (.ref dr), some (.int (zi zq4)), some (.int (zi b)), some (.int (zi i))] [.int (zi zq40), .int (zi ((b * 64) + i)), .ref c29] hq40 _
              have sq40 : gSs rT 1027 ty [71005, 73999, 74999] h hq40 := gSs.tr sq32 xq40 (by decide)
              have s41 := (xq40.2.2.2.2.2 dr 1 (by rw [tdr]; decide)).trans s33
              have s42 := (xq40.2.2.2.2.2 dr 2 (by rw [tdr]; decide)).trans s34
              have s43 := (xq40.2.2.2.2.2 x 5 (by rw [tx]; decide)).trans s35
              have s44 := (xq40.2.2.2.2.2 x 2 (by rw [tx]; decide)).trans s36
              have s45 := (xq40.2.2.2.2.2 x 1 (by rw [tx]; decide)).trans ec37
              have hl46 : 1024 ≤ hq40.2.2.2.1 c29 ∧ hq40.2.2.2.1 c29 ≤ 1024 := gJ.rowl (G := gGG) sq40.1 tc29 rfl
              refine gs_ast rfl (by decide) sq40 tc29 rfl rfl rfl (by decide) (fun _ => rfl) (by omega) (by omega) (fun _ => (by decide : (73999 : Nat) ∈ ([71005, 73999, 74999] : List Nat))) (by omega) (by omega) (fun h47 sh47 eh47 fh47 => ?_)
              have s48 := (fh47 dr 1 (fun q => absurd (((tdr).symm.trans (congrArg ty q.1)).trans tc29) (by decide))).trans s41
              have s49 := (fh47 dr 2 (fun q => absurd (((tdr).symm.trans (congrArg ty q.1)).trans tc29) (by decide))).trans s42
              have s50 := (fh47 x 5 (fun q => absurd (((tx).symm.trans (congrArg ty q.1)).trans tc29) (by decide))).trans s43
              have s51 := (fh47 x 2 (fun q => absurd (((tx).symm.trans (congrArg ty q.1)).trans tc29) (by decide))).trans s44
              have s52 := (fh47 x 1 (fun q => absurd (((tx).symm.trans (congrArg ty q.1)).trans tc29) (by decide))).trans s45
              have pr53 := gEl.set (i := (b * 64) + i) (z := zq40) uq tc29 (by decide) eh47 (by omega) (by omega)
              refine gy_s 2 (pc' := 64) (L' := [some (.ref x), some (.ref dr), some (.int (zi zq4)), some (.int (zi b)), some (.int ((zi i) + zi 1))]) (S' := []) (L2 := [some (.ref x), some (.ref dr), some (.int (zi zq4)), some (.int (zi b)), some (.int (zi (i + 1)))]) (S2 := []) rfl (by simp only [zi_add, zi_sub, zi_mul, zi_neg, zi_and1, zi_and7, zi_and15, zi_and31, zi_and255]) (by simp only [zi_add, zi_sub, zi_mul, zi_neg, zi_and1, zi_and7, zi_and15, zi_and31, zi_and255]) ?_
              exact gz_wk (ihlp26 h47 (i + 1) (by omega) sh47 (by omega) s48 s49 s50) (gLw.s (gLw.s (gLw.s (gLw.s (gLw.s gLw.z)))))
        exact gz_wk (lp26 _ hq22 0 (Nat.lt_succ_self _) sq22 (by omega) s23 s24 s25) (gLw.s (gLw.s (gLw.s (gLw.s (gLw.s gLw.z)))))
  exact gz_wk (lp17 _ h14 0 (Nat.lt_succ_self _) sh14 (by omega) s15 s16 eh14) (gLw.s (gLw.s (gLw.s (gLw.s (gLw.n gLw.z)))))
