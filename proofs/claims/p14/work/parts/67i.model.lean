/-! ===== the model: methods (by program) ===== -/
set_option maxRecDepth 20000 in
set_option maxHeartbeats 4000000 in
theorem mm_readTable (d : Nat) {ty : Nat → Nat} {h : gH} (hJ : gJ rT 1027 ty h) (m : Nat) (tm : ty m = 1) (f0 : Int) (ef0 : h.2.2.2.2 m 7 = .int (zi f0)) (rf0 : (-1) ≤ f0 ∧ f0 ≤ (-1)) (p0 : Int) (ep0 : h.2.2.2.2 m 5 = .int (zi p0)) (rp0 : 0 ≤ p0 ∧ p0 ≤ 2000) (en : Int) (een : h.2.2.2.2 m 6 = .int (zi en)) (ren : 0 ≤ en ∧ en ≤ 2000) (sz : Int) (esz : h.2.2.2.2 m 3 = .int (zi sz)) (rsz : 0 ≤ sz ∧ sz ≤ 2000) (pp0 : p0 < en) (pp1 : en ≤ sz) (uq : gUq ty) : gz gPP gGG gcn (d + 1) gt139 0 (gent [.ref m] 3) [] h (fun q _ => gSs rT 1027 ty [1005, 1007, 9999] h q.2.2 ∧ ∃ f1 p1 : Int, gfin gt139 q.1 q.2.1 = some none ∧ q.2.2.2.2.2.2 m 7 = .int (zi f1) ∧ (-1) ≤ f1 ∧ f1 ≤ 4000 ∧ q.2.2.2.2.2.2 m 5 = .int (zi p1) ∧ 0 ≤ p1 ∧ p1 ≤ 4000 ∧ (f1 = -1 → (p0 + 65 ≤ p1 ∧ p1 ≤ en))) := by
  have hS : gSs rT 1027 ty [1005, 1007, 9999] h h := gSs.rf hJ
  refine gz_s 1 (pc' := 1) (L' := [some (.ref m), none, none]) (S' := [.ref m]) rfl ?_
  refine gs_gtk rfl (by decide) rfl hS.1 tm rfl rfl ep0 ?_
  refine gz_s 3 (pc' := 7) (L' := [some (.ref m), some (.int (zi p0)), none]) (S' := [.ref m, .ref m]) rfl ?_
  refine gs_gtr rfl (by decide) rfl hS.1 tm rfl rfl rfl (fun c1 ec1 tc1 => ?_)
  refine gz_s 1 (pc' := 11) (L' := [some (.ref m), some (.int (zi p0)), none]) (S' := [.int (zi p0), .ref c1, .ref m]) rfl ?_
  have hl2 : 2000 ≤ h.2.2.2.1 c1 ∧ h.2.2.2.1 c1 ≤ 2000 := gJ.rowl (G := gGG) hS.1 tc1 rfl
  refine gs_ald rfl (by decide) hS.1 tc1 rfl rfl rfl (by decide) (fun _ => rfl) (by omega) (by omega) (fun z3 ez3 az3 bz3 => ?_)
  have pr4 := gEl.set (i := p0) (z := z3) uq tc1 (by decide) ez3 (by omega) (by omega)
  refine gz_s 1 (pc' := 13) (L' := [some (.ref m), some (.int (zi p0)), none]) (S' := [.int (zi 4), .int (zi z3), .ref m]) rfl ?_
  by_cases hc5 : (4 : Int) ≤ z3
  · refine gy_icT (pc' := 31) rfl (by decide) (by decide) (by omega) (by omega) hc5 ?_
    refine gz_s 2 (pc' := 33) (L' := [some (.ref m), some (.int (zi p0)), none]) (S' := [.int (zi p0), .int (zi 0), .ref m]) rfl ?_
    refine gz_call rfl (by decide) rfl (by decide) (by decide) (gcal_of rfl rfl rfl (Nat.le_of_ble_eq_true rfl) (gJ.recv (G := gGG) hS.1 tm rfl rfl)) (mm_must _ hS.1 m tm 0 (by omega) p0 (by omega) f0 ef0 (by omega)) (fun q6 _ wq6 => ?_)
    obtain ⟨pq6, oq6, hq6⟩ := q6
    obtain ⟨xq6, zq6, fq6_0, gq6, aq6, bq6, efq6_0, afq6_0, bfq6_0, uq6_0, uq6_1⟩ := wq6
    refine ⟨_, gq6, ?_⟩
    show gz gPP gGG gcn _ _ 36 [some (.ref m), some (.int (zi p0)), none] [.int (zi zq6)] hq6 _
    have sq6 := gSs.tr hS xq6 (by decide)
    have s7 := (xq6.2.2.2.2.2 m 5 (by rw [tm]; decide)).trans ep0
    have s8 := (xq6.2.2.2.2.2 m 6 (by rw [tm]; decide)).trans een
    have s9 := (xq6.2.2.2.2.2 m 3 (by rw [tm]; decide)).trans esz
    have s10 := (xq6.2.2.2.2.2 m 4 (by rw [tm]; decide)).trans ec1
    have pr11 := gEl.fr xq6.2 (by decide) (fun _ => rfl) pr4
    refine gy_ifF rfl (by decide) (by decide) (by omega) (by first | (simp [zc]; done) | (simp only [zc]; omega)) ?_
    exact gz_end (I := .return_) (len := 1) rfl (Or.inl rfl) ⟨sq6, fq6_0, p0, rfl, efq6_0, (by omega), (by omega), s7, (by omega), (by omega), (by omega)⟩
  · refine gy_icF rfl (by decide) (by decide) (by omega) (by omega) hc5 ?_
    refine gy_s 4 (pc' := 21) (L' := [some (.ref m), some (.int (zi p0)), none]) (S' := [.ref m, .int ((zi p0) + (zi 64)), .ref m]) (L2 := [some (.ref m), some (.int (zi p0)), none]) (S2 := [.ref m, .int (zi (p0 + 64)), .ref m]) rfl (by simp only [zi_add, zi_sub, zi_mul, zi_neg, zi_and1, zi_and7, zi_and15, zi_and31, zi_and255]) (by simp only [zi_add, zi_sub, zi_mul, zi_neg, zi_and1, zi_and7, zi_and15, zi_and31, zi_and255]) ?_
    refine gs_gtk rfl (by decide) rfl hS.1 tm rfl rfl een ?_
    by_cases hc12 : (en : Int) ≤ p0 + 64
    · refine gy_icT (pc' := 31) rfl (by decide) (by decide) (by omega) (by omega) hc12 ?_
      refine gz_s 2 (pc' := 33) (L' := [some (.ref m), some (.int (zi p0)), none]) (S' := [.int (zi p0), .int (zi 0), .ref m]) rfl ?_
      refine gz_call rfl (by decide) rfl (by decide) (by decide) (gcal_of rfl rfl rfl (Nat.le_of_ble_eq_true rfl) (gJ.recv (G := gGG) hS.1 tm rfl rfl)) (mm_must _ hS.1 m tm 0 (by omega) p0 (by omega) f0 ef0 (by omega)) (fun q13 _ wq13 => ?_)
      obtain ⟨pq13, oq13, hq13⟩ := q13
      obtain ⟨xq13, zq13, fq13_0, gq13, aq13, bq13, efq13_0, afq13_0, bfq13_0, uq13_0, uq13_1⟩ := wq13
      refine ⟨_, gq13, ?_⟩
      show gz gPP gGG gcn _ _ 36 [some (.ref m), some (.int (zi p0)), none] [.int (zi zq13)] hq13 _
      have sq13 := gSs.tr hS xq13 (by decide)
      have s14 := (xq13.2.2.2.2.2 m 5 (by rw [tm]; decide)).trans ep0
      have s15 := (xq13.2.2.2.2.2 m 6 (by rw [tm]; decide)).trans een
      have s16 := (xq13.2.2.2.2.2 m 3 (by rw [tm]; decide)).trans esz
      have s17 := (xq13.2.2.2.2.2 m 4 (by rw [tm]; decide)).trans ec1
      have pr18 := gEl.fr xq13.2 (by decide) (fun _ => rfl) pr4
      refine gy_ifF rfl (by decide) (by decide) (by omega) (by first | (simp [zc]; done) | (simp only [zc]; omega)) ?_
      exact gz_end (I := .return_) (len := 1) rfl (Or.inl rfl) ⟨sq13, fq13_0, p0, rfl, efq13_0, (by omega), (by omega), s14, (by omega), (by omega), (by omega)⟩
    · refine gy_icF rfl (by decide) (by decide) (by omega) (by omega) hc12 ?_
      refine gz_s 3 (pc' := 33) (L' := [some (.ref m), some (.int (zi p0)), none]) (S' := [.int (zi p0), .int (zi 1), .ref m]) rfl ?_
      refine gz_call rfl (by decide) rfl (by decide) (by decide) (gcal_of rfl rfl rfl (Nat.le_of_ble_eq_true rfl) (gJ.recv (G := gGG) hS.1 tm rfl rfl)) (mm_must _ hS.1 m tm 1 (by omega) p0 (by omega) f0 ef0 (by omega)) (fun q19 _ wq19 => ?_)
      obtain ⟨pq19, oq19, hq19⟩ := q19
      obtain ⟨xq19, zq19, fq19_0, gq19, aq19, bq19, efq19_0, afq19_0, bfq19_0, uq19_0, uq19_1⟩ := wq19
      refine ⟨_, gq19, ?_⟩
      show gz gPP gGG gcn _ _ 36 [some (.ref m), some (.int (zi p0)), none] [.int (zi zq19)] hq19 _
      have sq19 := gSs.tr hS xq19 (by decide)
      have s20 := (xq19.2.2.2.2.2 m 5 (by rw [tm]; decide)).trans ep0
      have s21 := (xq19.2.2.2.2.2 m 6 (by rw [tm]; decide)).trans een
      have s22 := (xq19.2.2.2.2.2 m 3 (by rw [tm]; decide)).trans esz
      have s23 := (xq19.2.2.2.2.2 m 4 (by rw [tm]; decide)).trans ec1
      have pr24 := gEl.fr xq19.2 (by decide) (fun _ => rfl) pr4
      refine gy_ifT (pc' := 40) rfl (by decide) (by decide) (by omega) (by first | (simp [zc]; done) | (simp only [zc]; omega)) ?_
      refine gz_s 2 (pc' := 42) (L' := [some (.ref m), some (.int (zi p0)), some (.int (zi 0))]) (S' := []) rfl ?_
      have lp25 : ∀ (fu : Nat) (h26 : gH) (k : Int) (fv : Int), (65 - k).toNat < fu → gSs rT 1027 ty [1005, 1007, 9999] h h26 → (0 ≤ k ∧ k ≤ 64) → ((-1) ≤ fv ∧ fv ≤ 4000) → h26.2.2.2.2 m 5 = .int (zi p0) → h26.2.2.2.2 m 6 = .int (zi en) → h26.2.2.2.2 m 3 = .int (zi sz) → h26.2.2.2.2 m 4 = .ref c1 → h26.2.2.2.2 m 7 = .int (zi fv) → gEl ty 3 p0 z3 z3 h26 → gz gPP gGG gcn (d + 1) gt139 42 [some (.ref m), some (.int (zi p0)), some (.int (zi k))] [] h26 (fun q _ => gSs rT 1027 ty [1005, 1007, 9999] h q.2.2 ∧ ∃ f1 p1 : Int, gfin gt139 q.1 q.2.1 = some none ∧ q.2.2.2.2.2.2 m 7 = .int (zi f1) ∧ (-1) ≤ f1 ∧ f1 ≤ 4000 ∧ q.2.2.2.2.2.2 m 5 = .int (zi p1) ∧ 0 ≤ p1 ∧ p1 ≤ 4000 ∧ (f1 = -1 → (p0 + 65 ≤ p1 ∧ p1 ≤ en))) := by
        intro fu
        induction fu with
        | zero => intro h26 k fv hm; exact absurd hm (Nat.not_lt_zero _)
        | succ fu ihlp25 =>
          intro h26 k fv lp25m sh26 lp25f0 lp25f1 lp25k0 lp25k1 lp25k2 lp25k3 lp25k4 lp25k5
          refine gz_s 2 (pc' := 45) (L' := [some (.ref m), some (.int (zi p0)), some (.int (zi k))]) (S' := [.int (zi 64), .int (zi k)]) rfl ?_
          by_cases hc27 : (64 : Int) ≤ k
          · refine gy_icT (pc' := 78) rfl (by decide) (by decide) (by omega) (by omega) hc27 ?_
            refine gz_s 2 (pc' := 80) (L' := [some (.ref m), some (.int (zi p0)), some (.int (zi 0))]) (S' := []) rfl ?_
            have lp28 : ∀ (fu : Nat) (h29 : gH) (k2 : Int), (65 - k2).toNat < fu → gSs rT 1027 ty [1005, 1007, 9999] h h29 → (0 ≤ k2 ∧ k2 ≤ 64) → h29.2.2.2.2 m 5 = .int (zi p0) → h29.2.2.2.2 m 6 = .int (zi en) → h29.2.2.2.2 m 3 = .int (zi sz) → h29.2.2.2.2 m 4 = .ref c1 → h29.2.2.2.2 m 7 = .int (zi fv) → gEl ty 3 p0 z3 z3 h29 → gz gPP gGG gcn (d + 1) gt139 80 [some (.ref m), some (.int (zi p0)), some (.int (zi k2))] [] h29 (fun q _ => gSs rT 1027 ty [1005, 1007, 9999] h q.2.2 ∧ ∃ f1 p1 : Int, gfin gt139 q.1 q.2.1 = some none ∧ q.2.2.2.2.2.2 m 7 = .int (zi f1) ∧ (-1) ≤ f1 ∧ f1 ≤ 4000 ∧ q.2.2.2.2.2.2 m 5 = .int (zi p1) ∧ 0 ≤ p1 ∧ p1 ≤ 4000 ∧ (f1 = -1 → (p0 + 65 ≤ p1 ∧ p1 ≤ en))) := by
              intro fu
              induction fu with
              | zero => intro h29 k2 hm; exact absurd hm (Nat.not_lt_zero _)
              | succ fu ihlp28 =>
                intro h29 k2 lp28m sh29 lp28f0 lp28k0 lp28k1 lp28k2 lp28k3 lp28k4 lp28k5
                refine gz_s 2 (pc' := 83) (L' := [some (.ref m), some (.int (zi p0)), some (.int (zi k2))]) (S' := [.int (zi 64), .int (zi k2)]) rfl ?_
                by_cases hc30 : (64 : Int) ≤ k2
                · refine gy_icT (pc' := 126) rfl (by decide) (by decide) (by omega) (by omega) hc30 ?_
                  refine gy_s 4 (pc' := 131) (L' := [some (.ref m), some (.int (zi p0)), some (.int (zi k2))]) (S' := [.int ((zi p0) + (zi 65)), .ref m]) (L2 := [some (.ref m), some (.int (zi p0)), some (.int (zi k2))]) (S2 := [.int (zi (p0 + 65)), .ref m]) rfl (by simp only [zi_add, zi_sub, zi_mul, zi_neg, zi_and1, zi_and7, zi_and15, zi_and31, zi_and255]) (by simp only [zi_add, zi_sub, zi_mul, zi_neg, zi_and1, zi_and7, zi_and15, zi_and31, zi_and255]) ?_
                  refine gs_put rfl (by decide) rfl sh29 tm rfl rfl rfl rfl (Or.inl rfl) (by decide) (by omega) (by omega) (fun h31 sh31 eh31 fh31 => ?_)
                  have pr32 := gEl.pt fh31 tm (by decide) lp28k5
                  have s33 := (fh31 m 6 (fun q => absurd q.2 (by decide))).trans lp28k1
                  have s34 := (fh31 m 3 (fun q => absurd q.2 (by decide))).trans lp28k2
                  have s35 := (fh31 m 4 (fun q => absurd q.2 (by decide))).trans lp28k3
                  have s36 := (fh31 m 7 (fun q => absurd q.2 (by decide))).trans lp28k4
                  exact gz_end (I := .return_) (len := 1) rfl (Or.inl rfl) ⟨sh31, fv, p0 + 65, rfl, s36, (by omega), (by omega), eh31, (by omega), (by omega), (by omega)⟩
                · refine gy_icF rfl (by decide) (by decide) (by omega) (by omega) hc30 ?_
                  refine gz_s 1 (pc' := 87) (L' := [some (.ref m), some (.int (zi p0)), some (.int (zi k2))]) (S' := [.ref m]) rfl ?_
                  refine gs_gtk rfl (by decide) rfl sh29.1 tm rfl rfl lp28k4 ?_
                  refine gz_s 1 (pc' := 91) (L' := [some (.ref m), some (.int (zi p0)), some (.int (zi k2))]) (S' := [.int (zi (-1)), .int (zi fv)]) rfl ?_
                  by_cases hc37 : ¬ (fv : Int) = (-1)
                  · refine gy_icT (pc' := 126) rfl (by decide) (by decide) (by omega) (by omega) hc37 ?_
                    refine gy_s 4 (pc' := 131) (L' := [some (.ref m), some (.int (zi p0)), some (.int (zi k2))]) (S' := [.int ((zi p0) + (zi 65)), .ref m]) (L2 := [some (.ref m), some (.int (zi p0)), some (.int (zi k2))]) (S2 := [.int (zi (p0 + 65)), .ref m]) rfl (by simp only [zi_add, zi_sub, zi_mul, zi_neg, zi_and1, zi_and7, zi_and15, zi_and31, zi_and255]) (by simp only [zi_add, zi_sub, zi_mul, zi_neg, zi_and1, zi_and7, zi_and15, zi_and31, zi_and255]) ?_
                    refine gs_put rfl (by decide) rfl sh29 tm rfl rfl rfl rfl (Or.inl rfl) (by decide) (by omega) (by omega) (fun h38 sh38 eh38 fh38 => ?_)
                    have pr39 := gEl.pt fh38 tm (by decide) lp28k5
                    have s40 := (fh38 m 6 (fun q => absurd q.2 (by decide))).trans lp28k1
                    have s41 := (fh38 m 3 (fun q => absurd q.2 (by decide))).trans lp28k2
                    have s42 := (fh38 m 4 (fun q => absurd q.2 (by decide))).trans lp28k3
                    have s43 := (fh38 m 7 (fun q => absurd q.2 (by decide))).trans lp28k4
                    exact gz_end (I := .return_) (len := 1) rfl (Or.inl rfl) ⟨sh38, fv, p0 + 65, rfl, s43, (by omega), (by omega), eh38, (by omega), (by omega), (by omega)⟩
                  · refine gy_icF rfl (by decide) (by decide) (by omega) (by omega) hc37 ?_
                    refine gz_s 1 (pc' := 95) (L' := [some (.ref m), some (.int (zi p0)), some (.int (zi k2))]) (S' := [.ref m]) rfl ?_
                    refine gs_gtr rfl (by decide) rfl sh29.1 tm rfl rfl rfl (fun c44 ec44 tc44 => ?_)
                    refine gz_s 2 (pc' := 101) (L' := [some (.ref m), some (.int (zi p0)), some (.int (zi k2))]) (S' := [.ref m, .int (zi 64), .ref c44]) rfl ?_
                    refine gs_gtk rfl (by decide) rfl sh29.1 tm rfl rfl lp28k3 ?_
                    refine gz_s 1 (pc' := 105) (L' := [some (.ref m), some (.int (zi p0)), some (.int (zi k2))]) (S' := [.int (zi p0), .ref c1, .int (zi 64), .ref c44]) rfl ?_
                    have hl45 : 2000 ≤ h29.2.2.2.1 c1 ∧ h29.2.2.2.1 c1 ≤ 2000 := gJ.rowl (G := gGG) sh29.1 tc1 rfl
                    refine gs_alx rfl (by decide) sh29.1 tc1 rfl rfl rfl (by decide) (fun _ => rfl) (by omega) (by omega) (by decide) lp28k5 (fun ex46 ax46 bx46 => ?_)
                    refine gy_s 4 (pc' := 110) (L' := [some (.ref m), some (.int (zi p0)), some (.int (zi k2))]) (S' := [.ref m, .int (((zi 64) * (zi z3)) + (zi k2)), .ref c44]) (L2 := [some (.ref m), some (.int (zi p0)), some (.int (zi k2))]) (S2 := [.ref m, .int (zi ((64 * z3) + k2)), .ref c44]) rfl (by simp only [zi_add, zi_sub, zi_mul, zi_neg, zi_and1, zi_and7, zi_and15, zi_and31, zi_and255]) (by simp only [zi_add, zi_sub, zi_mul, zi_neg, zi_and1, zi_and7, zi_and15, zi_and31, zi_and255]) ?_
                    refine gs_gtk rfl (by decide) rfl sh29.1 tm rfl rfl lp28k3 ?_
                    refine gy_s 5 (pc' := 118) (L' := [some (.ref m), some (.int (zi p0)), some (.int (zi k2))]) (S' := [.int (((zi p0) + (zi 1)) + (zi k2)), .ref c1, .int (zi ((64 * z3) + k2)), .ref c44]) (L2 := [some (.ref m), some (.int (zi p0)), some (.int (zi k2))]) (S2 := [.int (zi ((p0 + 1) + k2)), .ref c1, .int (zi ((64 * z3) + k2)), .ref c44]) rfl (by simp only [zi_add, zi_sub, zi_mul, zi_neg, zi_and1, zi_and7, zi_and15, zi_and31, zi_and255]) (by simp only [zi_add, zi_sub, zi_mul, zi_neg, zi_and1, zi_and7, zi_and15, zi_and31, zi_and255]) ?_
                    have hl47 : 2000 ≤ h29.2.2.2.1 c1 ∧ h29.2.2.2.1 c1 ≤ 2000 := gJ.rowl (G := gGG) sh29.1 tc1 rfl
                    refine gs_ald rfl (by decide) sh29.1 tc1 rfl rfl rfl (by decide) (fun _ => rfl) (by omega) (by omega) (fun z48 ez48 az48 bz48 => ?_)
                    have hl49 : 256 ≤ h29.2.2.2.1 c44 ∧ h29.2.2.2.1 c44 ≤ 256 := gJ.rowl (G := gGG) sh29.1 tc44 rfl
                    refine gs_ast rfl (by decide) sh29 tc44 rfl rfl rfl (by decide) (fun _ => rfl) (by omega) (by omega) (fun _ => (by decide : (9999 : Nat) ∈ ([1005, 1007, 9999] : List Nat))) (by omega) (by omega) (fun h50 sh50 eh50 fh50 => ?_)
                    have pr51 := gEl.pt fh50 tc44 (by decide) lp28k5
                    have s52 := (fh50 m 5 (fun q => absurd (((tm).symm.trans (congrArg ty q.1)).trans tc44) (by decide))).trans lp28k0
                    have s53 := (fh50 m 6 (fun q => absurd (((tm).symm.trans (congrArg ty q.1)).trans tc44) (by decide))).trans lp28k1
                    have s54 := (fh50 m 3 (fun q => absurd (((tm).symm.trans (congrArg ty q.1)).trans tc44) (by decide))).trans lp28k2
                    have s55 := (fh50 m 4 (fun q => absurd (((tm).symm.trans (congrArg ty q.1)).trans tc44) (by decide))).trans lp28k3
                    have s56 := (fh50 m 7 (fun q => absurd (((tm).symm.trans (congrArg ty q.1)).trans tc44) (by decide))).trans lp28k4
                    have s57 := (fh50 m 14 (fun q => absurd (((tm).symm.trans (congrArg ty q.1)).trans tc44) (by decide))).trans ec44
                    have pr58 := gEl.set (i := (64 * z3) + k2) (z := z48) uq tc44 (by decide) eh50 (by omega) (by omega)
                    refine gy_s 2 (pc' := 80) (L' := [some (.ref m), some (.int (zi p0)), some (.int ((zi k2) + zi 1))]) (S' := []) (L2 := [some (.ref m), some (.int (zi p0)), some (.int (zi (k2 + 1)))]) (S2 := []) rfl (by simp only [zi_add, zi_sub, zi_mul, zi_neg, zi_and1, zi_and7, zi_and15, zi_and31, zi_and255]) (by simp only [zi_add, zi_sub, zi_mul, zi_neg, zi_and1, zi_and7, zi_and15, zi_and31, zi_and255]) ?_
                    exact gz_wk (ihlp28 h50 (k2 + 1) (by omega) sh50 (by omega) s52 s53 s54 s55 s56 pr51) (gLw.s (gLw.s (gLw.s gLw.z)))
            exact gz_wk (lp28 _ h26 0 (Nat.lt_succ_self _) sh26 (by omega) lp25k0 lp25k1 lp25k2 lp25k3 lp25k4 lp25k5) (gLw.s (gLw.s (gLw.s gLw.z)))
          · refine gy_icF rfl (by decide) (by decide) (by omega) (by omega) hc27 ?_
            refine gz_s 2 (pc' := 50) (L' := [some (.ref m), some (.int (zi p0)), some (.int (zi k))]) (S' := [.ref m, .ref m]) rfl ?_
            refine gs_gtk rfl (by decide) rfl sh26.1 tm rfl rfl lp25k3 ?_
            refine gy_s 5 (pc' := 58) (L' := [some (.ref m), some (.int (zi p0)), some (.int (zi k))]) (S' := [.int (((zi p0) + (zi 1)) + (zi k)), .ref c1, .ref m]) (L2 := [some (.ref m), some (.int (zi p0)), some (.int (zi k))]) (S2 := [.int (zi ((p0 + 1) + k)), .ref c1, .ref m]) rfl (by simp only [zi_add, zi_sub, zi_mul, zi_neg, zi_and1, zi_and7, zi_and15, zi_and31, zi_and255]) (by simp only [zi_add, zi_sub, zi_mul, zi_neg, zi_and1, zi_and7, zi_and15, zi_and31, zi_and255]) ?_
            have hl59 : 2000 ≤ h26.2.2.2.1 c1 ∧ h26.2.2.2.1 c1 ≤ 2000 := gJ.rowl (G := gGG) sh26.1 tc1 rfl
            refine gs_ald rfl (by decide) sh26.1 tc1 rfl rfl rfl (by decide) (fun _ => rfl) (by omega) (by omega) (fun z60 ez60 az60 bz60 => ?_)
            by_cases hc61 : (z60 : Int) ≤ 0
            · refine gy_ifT (pc' := 66) rfl (by decide) (by decide) (by omega) hc61 ?_
              refine gz_s 2 (pc' := 68) (L' := [some (.ref m), some (.int (zi p0)), some (.int (zi k))]) (S' := [.int (zi p0), .int (zi 0), .ref m]) rfl ?_
              refine gz_call rfl (by decide) rfl (by decide) (by decide) (gcal_of rfl rfl rfl (Nat.le_of_ble_eq_true rfl) (gJ.recv (G := gGG) sh26.1 tm rfl rfl)) (mm_must _ sh26.1 m tm 0 (by omega) p0 (by omega) fv lp25k4 (by omega)) (fun q62 _ wq62 => ?_)
              obtain ⟨pq62, oq62, hq62⟩ := q62
              obtain ⟨xq62, zq62, fq62_0, gq62, aq62, bq62, efq62_0, afq62_0, bfq62_0, uq62_0, uq62_1⟩ := wq62
              refine ⟨_, gq62, ?_⟩
              show gz gPP gGG gcn _ _ 71 [some (.ref m), some (.int (zi p0)), some (.int (zi k))] [.int (zi zq62)] hq62 _
              have sq62 := gSs.tr sh26 xq62 (by decide)
              have s63 := (xq62.2.2.2.2.2 m 5 (by rw [tm]; decide)).trans lp25k0
              have s64 := (xq62.2.2.2.2.2 m 6 (by rw [tm]; decide)).trans lp25k1
              have s65 := (xq62.2.2.2.2.2 m 3 (by rw [tm]; decide)).trans lp25k2
              have s66 := (xq62.2.2.2.2.2 m 4 (by rw [tm]; decide)).trans lp25k3
              have pr67 := gEl.fr xq62.2 (by decide) (fun _ => rfl) lp25k5
              refine gy_s 3 (pc' := 42) (L' := [some (.ref m), some (.int (zi p0)), some (.int ((zi k) + zi 1))]) (S' := []) (L2 := [some (.ref m), some (.int (zi p0)), some (.int (zi (k + 1)))]) (S2 := []) rfl (by simp only [zi_add, zi_sub, zi_mul, zi_neg, zi_and1, zi_and7, zi_and15, zi_and31, zi_and255]) (by simp only [zi_add, zi_sub, zi_mul, zi_neg, zi_and1, zi_and7, zi_and15, zi_and31, zi_and255]) ?_
              exact gz_wk (ihlp25 hq62 (k + 1) fq62_0 (by omega) sq62 (by omega) (by omega) s63 s64 s65 s66 efq62_0 pr67) (gLw.s (gLw.s (gLw.s gLw.z)))
            · refine gy_ifF rfl (by decide) (by decide) (by omega) hc61 ?_
              refine gz_s 3 (pc' := 68) (L' := [some (.ref m), some (.int (zi p0)), some (.int (zi k))]) (S' := [.int (zi p0), .int (zi 1), .ref m]) rfl ?_
              refine gz_call rfl (by decide) rfl (by decide) (by decide) (gcal_of rfl rfl rfl (Nat.le_of_ble_eq_true rfl) (gJ.recv (G := gGG) sh26.1 tm rfl rfl)) (mm_must _ sh26.1 m tm 1 (by omega) p0 (by omega) fv lp25k4 (by omega)) (fun q68 _ wq68 => ?_)
              obtain ⟨pq68, oq68, hq68⟩ := q68
              obtain ⟨xq68, zq68, fq68_0, gq68, aq68, bq68, efq68_0, afq68_0, bfq68_0, uq68_0, uq68_1⟩ := wq68
              refine ⟨_, gq68, ?_⟩
              show gz gPP gGG gcn _ _ 71 [some (.ref m), some (.int (zi p0)), some (.int (zi k))] [.int (zi zq68)] hq68 _
              have sq68 := gSs.tr sh26 xq68 (by decide)
              have s69 := (xq68.2.2.2.2.2 m 5 (by rw [tm]; decide)).trans lp25k0
              have s70 := (xq68.2.2.2.2.2 m 6 (by rw [tm]; decide)).trans lp25k1
              have s71 := (xq68.2.2.2.2.2 m 3 (by rw [tm]; decide)).trans lp25k2
              have s72 := (xq68.2.2.2.2.2 m 4 (by rw [tm]; decide)).trans lp25k3
              have pr73 := gEl.fr xq68.2 (by decide) (fun _ => rfl) lp25k5
              refine gy_s 3 (pc' := 42) (L' := [some (.ref m), some (.int (zi p0)), some (.int ((zi k) + zi 1))]) (S' := []) (L2 := [some (.ref m), some (.int (zi p0)), some (.int (zi (k + 1)))]) (S2 := []) rfl (by simp only [zi_add, zi_sub, zi_mul, zi_neg, zi_and1, zi_and7, zi_and15, zi_and31, zi_and255]) (by simp only [zi_add, zi_sub, zi_mul, zi_neg, zi_and1, zi_and7, zi_and15, zi_and31, zi_and255]) ?_
              exact gz_wk (ihlp25 hq68 (k + 1) fq68_0 (by omega) sq68 (by omega) (by omega) s69 s70 s71 s72 efq68_0 pr73) (gLw.s (gLw.s (gLw.s gLw.z)))
      exact gz_wk (lp25 _ hq19 0 fq19_0 (Nat.lt_succ_self _) sq19 (by omega) (by omega) s20 s21 s22 s23 efq19_0 pr24) (gLw.s (gLw.s (gLw.s gLw.z)))
set_option maxRecDepth 20000 in
set_option maxHeartbeats 4000000 in
theorem mm_setCodes (d : Nat) {ty : Nat → Nat} {h : gH} (hJ : gJ rT 1027 ty h) (m : Nat) (tm : ty m = 1) (st : Int) (rst : 0 ≤ st ∧ st ≤ 7) (cn : Nat) (tcn : ty cn = 35) (sm : Int) (rsm : 0 ≤ sm ∧ sm ≤ 256) (hycs : gCn ty 35 cn sm h) : gz gPP gGG gcn (d + 0) gt133 0 (gent [.ref m, .int (zi st), .ref cn] 7) [] h (fun q _ => gSs rT 1027 ty [4999, 6999, 7999] h q.2.2 ∧ gfin gt133 q.1 q.2.1 = some none) := by
  have hS : gSs rT 1027 ty [4999, 6999, 7999] h h := gSs.rf hJ
  have hsm : gSmr ty 35 cn h h := ⟨tcn, fun _ => rfl, fun _ => rfl⟩
  have hnn := gJ.nn (c := cn) hJ tcn rfl rfl (fun _ => rfl) (by decide) (by decide)
  have hsu := hycs.2.2
  refine gz_s 6 (pc' := 8) (L' := [some (.ref m), some (.int (zi st)), some (.ref cn), some (.int (zi 0)), some (.int (zi 0)), some (.int (zi 1)), none]) (S' := []) rfl ?_
  have lp1 : ∀ (fu : Nat) (h2 : gH) (n : Int) (cd : Int) (bt : Int), (18 - bt).toNat < fu → gSs rT 1027 ty [4999, 6999, 7999] h h2 → (0 ≤ n ∧ n ≤ 256) → ((-2147483648) ≤ cd ∧ cd ≤ 2147483647) → (1 ≤ bt ∧ bt ≤ 17) → (n = gS h cn bt) → gCn ty 35 cn sm h2 → gSmr ty 35 cn h h2 → gz gPP gGG gcn (d + 0) gt133 8 [some (.ref m), some (.int (zi st)), some (.ref cn), some (.int (zi n)), some (.int (zi cd)), some (.int (zi bt)), none] [] h2 (fun q _ => gSs rT 1027 ty [4999, 6999, 7999] h q.2.2 ∧ gfin gt133 q.1 q.2.1 = some none) := by
    intro fu
    induction fu with
    | zero => intro h2 n cd bt hm; exact absurd hm (Nat.not_lt_zero _)
    | succ fu ihlp1 =>
      intro h2 n cd bt lp1m sh2 lp1f0 lp1f1 lp1f2 lp1f3 lp1k0 lp1k1
      have gl1 := gS_le hnn (b := bt) (by omega) (by omega)
      have gl2 : bt ≤ 16 → gS h cn bt ≤ gS h cn (bt + 1) ∧ gS h cn (bt + 1) ≤ gsm h cn 16 := fun e => ⟨gS_mono hnn (by omega) (by omega), (gS_le hnn (b := bt + 1) (by omega) (by omega)).2⟩
      refine gz_s 2 (pc' := 12) (L' := [some (.ref m), some (.int (zi st)), some (.ref cn), some (.int (zi n)), some (.int (zi cd)), some (.int (zi bt)), none]) (S' := [.int (zi 16), .int (zi bt)]) rfl ?_
      by_cases hc3 : (16 : Int) < bt
      · refine gy_icT (pc' := 79) rfl (by decide) (by decide) (by omega) (by omega) hc3 ?_
        refine gz_s 1 (pc' := 80) (L' := [some (.ref m), some (.int (zi st)), some (.ref cn), some (.int (zi n)), some (.int (zi cd)), some (.int (zi bt)), none]) (S' := [.ref m]) rfl ?_
        refine gs_gtr rfl (by decide) rfl sh2.1 tm rfl rfl rfl (fun c4 ec4 tc4 => ?_)
        refine gz_s 2 (pc' := 85) (L' := [some (.ref m), some (.int (zi st)), some (.ref cn), some (.int (zi n)), some (.int (zi cd)), some (.int (zi bt)), none]) (S' := [.int (zi n), .int (zi st), .ref c4]) rfl ?_
        have hl5 : 8 ≤ h2.2.2.2.1 c4 ∧ h2.2.2.2.1 c4 ≤ 8 := gJ.rowl (G := gGG) sh2.1 tc4 rfl
        refine gs_ast rfl (by decide) sh2 tc4 rfl rfl rfl (by decide) (fun _ => rfl) (by omega) (by omega) (fun _ => (by decide : (4999 : Nat) ∈ ([4999, 6999, 7999] : List Nat))) (by omega) (by omega) (fun h6 sh6 eh6 fh6 => ?_)
        have pr7 := gCn.pt fh6 tc4 (by decide) lp1k0
        have pr8 := gSmr.pt fh6 tc4 (by decide) lp1k1
        have s9 := (fh6 m 9 (fun q => absurd (((tm).symm.trans (congrArg ty q.1)).trans tc4) (by decide))).trans ec4
        exact gz_end (I := .return_) (len := 1) rfl (Or.inl rfl) ⟨sh6, rfl⟩
      · refine gy_icF rfl (by decide) (by decide) (by omega) (by omega) hc3 ?_
        refine gy_s 3 (pc' := 19) (L' := [some (.ref m), some (.int (zi st)), some (.ref cn), some (.int (zi n)), some (.int (zi cd)), some (.int (zi bt)), none]) (S' := [.int ((zi 2) * (zi cd))]) (L2 := [some (.ref m), some (.int (zi st)), some (.ref cn), some (.int (zi n)), some (.int (zi cd)), some (.int (zi bt)), none]) (S2 := [.int (zi (2 * cd))]) rfl (by simp only [zi_add, zi_sub, zi_mul, zi_neg, zi_and1, zi_and7, zi_and15, zi_and31, zi_and255]) (by simp only [zi_add, zi_sub, zi_mul, zi_neg, zi_and1, zi_and7, zi_and15, zi_and31, zi_and255]) ?_
        refine gy_any (fun z10 ez10 az10 bz10 => ?_)
        refine gz_s 3 (pc' := 24) (L' := [some (.ref m), some (.int (zi st)), some (.ref cn), some (.int (zi n)), some (.int (zi z10)), some (.int (zi bt)), some (.int (zi 0))]) (S' := []) rfl ?_
        have lp11 : ∀ (fu : Nat) (h12 : gH) (n2 : Int) (cd2 : Int) (k : Int), (257 - k).toNat < fu → gSs rT 1027 ty [4999, 6999, 7999] h h12 → (0 ≤ n2 ∧ n2 ≤ 256) → ((-2147483648) ≤ cd2 ∧ cd2 ≤ 2147483647) → (0 ≤ k ∧ k ≤ 256) → (n2 = gS h cn bt + k) → (k ≤ gS h cn (bt + 1) - gS h cn bt) → gCn ty 35 cn sm h12 → gSmr ty 35 cn h h12 → gz gPP gGG gcn (d + 0) gt133 24 [some (.ref m), some (.int (zi st)), some (.ref cn), some (.int (zi n2)), some (.int (zi cd2)), some (.int (zi bt)), some (.int (zi k))] [] h12 (fun q _ => gSs rT 1027 ty [4999, 6999, 7999] h q.2.2 ∧ gfin gt133 q.1 q.2.1 = some none) := by
          intro fu
          induction fu with
          | zero => intro h12 n2 cd2 k hm; exact absurd hm (Nat.not_lt_zero _)
          | succ fu ihlp11 =>
            intro h12 n2 cd2 k lp11m sh12 lp11f0 lp11f1 lp11f2 lp11f3 lp11f4 lp11k0 lp11k1
            refine gz_s 3 (pc' := 29) (L' := [some (.ref m), some (.int (zi st)), some (.ref cn), some (.int (zi n2)), some (.int (zi cd2)), some (.int (zi bt)), some (.int (zi k))]) (S' := [.int (zi bt), .ref cn, .int (zi k)]) rfl ?_
            have hl13 : 17 ≤ h12.2.2.2.1 cn ∧ h12.2.2.2.1 cn ≤ 17 := gJ.rowl (G := gGG) sh12.1 tcn rfl
            refine gs_ald rfl (by decide) sh12.1 tcn rfl rfl rfl (by decide) (fun _ => rfl) (by omega) (by omega) (fun z14 ez14 az14 bz14 => ?_)
            have gs15 := gS_st (h := h) (c := cn) (b := bt) (z := z14) (by omega) (((lp11k1).2.2 _).symm.trans ez14) (by omega)
            by_cases hc16 : (z14 : Int) ≤ k
            · refine gy_icT (pc' := 73) rfl (by decide) (by decide) (by omega) (by omega) hc16 ?_
              refine gy_s 2 (pc' := 8) (L' := [some (.ref m), some (.int (zi st)), some (.ref cn), some (.int (zi n2)), some (.int (zi cd2)), some (.int ((zi bt) + zi 1)), some (.int (zi k))]) (S' := []) (L2 := [some (.ref m), some (.int (zi st)), some (.ref cn), some (.int (zi n2)), some (.int (zi cd2)), some (.int (zi (bt + 1))), some (.int (zi k))]) (S2 := []) rfl (by simp only [zi_add, zi_sub, zi_mul, zi_neg, zi_and1, zi_and7, zi_and15, zi_and31, zi_and255]) (by simp only [zi_add, zi_sub, zi_mul, zi_neg, zi_and1, zi_and7, zi_and15, zi_and31, zi_and255]) ?_
              exact gz_wk (ihlp1 h12 n2 cd2 (bt + 1) (by omega) sh12 (by omega) (by omega) (by omega) (by omega) lp11k0 lp11k1) (gLw.s (gLw.s (gLw.s (gLw.s (gLw.s (gLw.s (gLw.n gLw.z)))))))
            · refine gy_icF rfl (by decide) (by decide) (by omega) (by omega) hc16 ?_
              refine gz_s 1 (pc' := 34) (L' := [some (.ref m), some (.int (zi st)), some (.ref cn), some (.int (zi n2)), some (.int (zi cd2)), some (.int (zi bt)), some (.int (zi k))]) (S' := [.ref m]) rfl ?_
              refine gs_gtr rfl (by decide) rfl sh12.1 tm rfl rfl rfl (fun c17 ec17 tc17 => ?_)
              refine gy_s 6 (pc' := 46) (L' := [some (.ref m), some (.int (zi st)), some (.ref cn), some (.int (zi n2)), some (.int (zi cd2)), some (.int (zi bt)), some (.int (zi k))]) (S' := [.int (zi bt), .int (((zi 257) * (zi st)) + (zi n2)), .ref c17]) (L2 := [some (.ref m), some (.int (zi st)), some (.ref cn), some (.int (zi n2)), some (.int (zi cd2)), some (.int (zi bt)), some (.int (zi k))]) (S2 := [.int (zi bt), .int (zi ((257 * st) + n2)), .ref c17]) rfl (by simp only [zi_add, zi_sub, zi_mul, zi_neg, zi_and1, zi_and7, zi_and15, zi_and31, zi_and255]) (by simp only [zi_add, zi_sub, zi_mul, zi_neg, zi_and1, zi_and7, zi_and15, zi_and31, zi_and255]) ?_
              have hl18 : 2056 ≤ h12.2.2.2.1 c17 ∧ h12.2.2.2.1 c17 ≤ 2056 := gJ.rowl (G := gGG) sh12.1 tc17 rfl
              refine gs_ast rfl (by decide) sh12 tc17 rfl rfl rfl (by decide) (fun _ => rfl) (by omega) (by omega) (fun _ => (by decide : (6999 : Nat) ∈ ([4999, 6999, 7999] : List Nat))) (by omega) (by omega) (fun h19 sh19 eh19 fh19 => ?_)
              have pr20 := gCn.pt fh19 tc17 (by decide) lp11k0
              have pr21 := gSmr.pt fh19 tc17 (by decide) lp11k1
              have s22 := (fh19 m 11 (fun q => absurd (((tm).symm.trans (congrArg ty q.1)).trans tc17) (by decide))).trans ec17
              refine gz_s 1 (pc' := 48) (L' := [some (.ref m), some (.int (zi st)), some (.ref cn), some (.int (zi n2)), some (.int (zi cd2)), some (.int (zi bt)), some (.int (zi k))]) (S' := [.ref m]) rfl ?_
              refine gs_gtr rfl (by decide) rfl sh19.1 tm rfl rfl rfl (fun c23 ec23 tc23 => ?_)
              refine gy_s 6 (pc' := 60) (L' := [some (.ref m), some (.int (zi st)), some (.ref cn), some (.int (zi n2)), some (.int (zi cd2)), some (.int (zi bt)), some (.int (zi k))]) (S' := [.int (zi cd2), .int (((zi 257) * (zi st)) + (zi n2)), .ref c23]) (L2 := [some (.ref m), some (.int (zi st)), some (.ref cn), some (.int (zi n2)), some (.int (zi cd2)), some (.int (zi bt)), some (.int (zi k))]) (S2 := [.int (zi cd2), .int (zi ((257 * st) + n2)), .ref c23]) rfl (by simp only [zi_add, zi_sub, zi_mul, zi_neg, zi_and1, zi_and7, zi_and15, zi_and31, zi_and255]) (by simp only [zi_add, zi_sub, zi_mul, zi_neg, zi_and1, zi_and7, zi_and15, zi_and31, zi_and255]) ?_
              have hl24 : 2056 ≤ h19.2.2.2.1 c23 ∧ h19.2.2.2.1 c23 ≤ 2056 := gJ.rowl (G := gGG) sh19.1 tc23 rfl
              refine gs_ast rfl (by decide) sh19 tc23 rfl rfl rfl (by decide) (fun _ => rfl) (by omega) (by omega) (fun _ => (by decide : (7999 : Nat) ∈ ([4999, 6999, 7999] : List Nat))) (by omega) (by omega) (fun h25 sh25 eh25 fh25 => ?_)
              have pr26 := gCn.pt fh25 tc23 (by decide) pr20
              have pr27 := gSmr.pt fh25 tc23 (by decide) pr21
              have s28 := (fh25 m 11 (fun q => absurd (((tm).symm.trans (congrArg ty q.1)).trans tc23) (by decide))).trans s22
              have s29 := (fh25 m 12 (fun q => absurd (((tm).symm.trans (congrArg ty q.1)).trans tc23) (by decide))).trans ec23
              refine gy_s 1 (pc' := 64) (L' := [some (.ref m), some (.int (zi st)), some (.ref cn), some (.int (zi n2)), some (.int ((zi cd2) + zi 1)), some (.int (zi bt)), some (.int (zi k))]) (S' := []) (L2 := [some (.ref m), some (.int (zi st)), some (.ref cn), some (.int (zi n2)), some (.int (zi (cd2 + 1))), some (.int (zi bt)), some (.int (zi k))]) (S2 := []) rfl (by simp only [zi_add, zi_sub, zi_mul, zi_neg, zi_and1, zi_and7, zi_and15, zi_and31, zi_and255]) (by simp only [zi_add, zi_sub, zi_mul, zi_neg, zi_and1, zi_and7, zi_and15, zi_and31, zi_and255]) ?_
              refine gy_loc (i := 4) (x := zi (cd2 + 1)) rfl (fun z30 ez30 az30 bz30 => ?_)
              show gz gPP gGG gcn _ _ 64 [some (.ref m), some (.int (zi st)), some (.ref cn), some (.int (zi n2)), some (.int (zi z30)), some (.int (zi bt)), some (.int (zi k))] [] h25 _
              refine gy_s 3 (pc' := 24) (L' := [some (.ref m), some (.int (zi st)), some (.ref cn), some (.int ((zi n2) + zi 1)), some (.int (zi z30)), some (.int (zi bt)), some (.int ((zi k) + zi 1))]) (S' := []) (L2 := [some (.ref m), some (.int (zi st)), some (.ref cn), some (.int (zi (n2 + 1))), some (.int (zi z30)), some (.int (zi bt)), some (.int (zi (k + 1)))]) (S2 := []) rfl (by simp only [zi_add, zi_sub, zi_mul, zi_neg, zi_and1, zi_and7, zi_and15, zi_and31, zi_and255]) (by simp only [zi_add, zi_sub, zi_mul, zi_neg, zi_and1, zi_and7, zi_and15, zi_and31, zi_and255]) ?_
              exact gz_wk (ihlp11 h25 (n2 + 1) z30 (k + 1) (by omega) sh25 (by omega) (by omega) (by omega) (by omega) (by omega) pr26 pr27) (gLw.s (gLw.s (gLw.s (gLw.s (gLw.s (gLw.s (gLw.s gLw.z)))))))
        exact gz_wk (lp11 _ h2 n z10 0 (Nat.lt_succ_self _) sh2 (by omega) (by omega) (by omega) (by omega) (by omega) lp1k0 lp1k1) (gLw.s (gLw.s (gLw.s (gLw.s (gLw.s (gLw.s (gLw.s gLw.z)))))))
  have ge1 : gS h cn 1 = 0 := rfl
  exact gz_wk (lp1 _ h 0 0 1 (Nat.lt_succ_self _) hS (by omega) (by omega) (by omega) (by omega) hycs hsm) (gLw.s (gLw.s (gLw.s (gLw.s (gLw.s (gLw.s (gLw.n gLw.z)))))))
set_option maxRecDepth 20000 in
set_option maxHeartbeats 4000000 in
theorem mm_readCodes (d : Nat) {ty : Nat → Nat} {h : gH} (hJ : gJ rT 1027 ty h) (m : Nat) (tm : ty m = 1) (f0 : Int) (ef0 : h.2.2.2.2 m 7 = .int (zi f0)) (rf0 : (-1) ≤ f0 ∧ f0 ≤ (-1)) (p0 : Int) (ep0 : h.2.2.2.2 m 5 = .int (zi p0)) (rp0 : 0 ≤ p0 ∧ p0 ≤ 2000) (en : Int) (een : h.2.2.2.2 m 6 = .int (zi en)) (ren : 0 ≤ en ∧ en ≤ 2000) (sz : Int) (esz : h.2.2.2.2 m 3 = .int (zi sz)) (rsz : 0 ≤ sz ∧ sz ≤ 2000) (pp0 : p0 < en) (pp1 : en ≤ sz) (uq : gUq ty) : gz gPP gGG gcn (d + 1) gt140 0 (gent [.ref m] 8) [] h (fun q _ => gSs rT 1027 ty [1005, 1007, 4999, 5999, 6999, 7999, 35999] h q.2.2 ∧ ∃ f1 p1 : Int, gfin gt140 q.1 q.2.1 = some none ∧ q.2.2.2.2.2.2 m 7 = .int (zi f1) ∧ (-1) ≤ f1 ∧ f1 ≤ 4000 ∧ q.2.2.2.2.2.2 m 5 = .int (zi p1) ∧ 0 ≤ p1 ∧ p1 ≤ 4000 ∧ (f1 = -1 → (p0 + 17 ≤ p1 ∧ p1 ≤ en))) := by
  have hS : gSs rT 1027 ty [1005, 1007, 4999, 5999, 6999, 7999, 35999] h h := gSs.rf hJ
  refine gz_s 1 (pc' := 1) (L' := [some (.ref m), none, none, none, none, none, none, none]) (S' := [.ref m]) rfl ?_
  refine gs_gtk rfl (by decide) rfl hS.1 tm rfl rfl ep0 ?_
  refine gz_s 2 (pc' := 6) (L' := [some (.ref m), some (.int (zi p0)), none, none, none, none, none, none]) (S' := [.ref m]) rfl ?_
  refine gs_gtr rfl (by decide) rfl hS.1 tm rfl rfl rfl (fun c1 ec1 tc1 => ?_)
  refine gz_s 1 (pc' := 10) (L' := [some (.ref m), some (.int (zi p0)), none, none, none, none, none, none]) (S' := [.int (zi p0), .ref c1]) rfl ?_
  have hl2 : 2000 ≤ h.2.2.2.1 c1 ∧ h.2.2.2.1 c1 ≤ 2000 := gJ.rowl (G := gGG) hS.1 tc1 rfl
  refine gs_ald rfl (by decide) hS.1 tc1 rfl rfl rfl (by decide) (fun _ => rfl) (by omega) (by omega) (fun z3 ez3 az3 bz3 => ?_)
  refine gz_s 4 (pc' := 16) (L' := [some (.ref m), some (.int (zi p0)), some (.int (zi z3)), none, none, none, none, none]) (S' := [.int (zi 16), .int (zi z3), .ref m]) rfl ?_
  refine gy_rem rfl (by decide) (by omega) (by omega) ?_
  refine gz_s 1 (pc' := 18) (L' := [some (.ref m), some (.int (zi p0)), some (.int (zi z3)), none, none, none, none, none]) (S' := [.int (zi 4), .int (zi (z3 % 16)), .ref m]) rfl ?_
  by_cases hc4 : (4 : Int) ≤ z3 % 16
  · refine gy_icT (pc' := 44) rfl (by decide) (by decide) (by omega) (by omega) hc4 ?_
    refine gz_s 2 (pc' := 46) (L' := [some (.ref m), some (.int (zi p0)), some (.int (zi z3)), none, none, none, none, none]) (S' := [.int (zi p0), .int (zi 0), .ref m]) rfl ?_
    refine gz_call rfl (by decide) rfl (by decide) (by decide) (gcal_of rfl rfl rfl (Nat.le_of_ble_eq_true rfl) (gJ.recv (G := gGG) hS.1 tm rfl rfl)) (mm_must _ hS.1 m tm 0 (by omega) p0 (by omega) f0 ef0 (by omega)) (fun q5 _ wq5 => ?_)
    obtain ⟨pq5, oq5, hq5⟩ := q5
    obtain ⟨xq5, zq5, fq5_0, gq5, aq5, bq5, efq5_0, afq5_0, bfq5_0, uq5_0, uq5_1⟩ := wq5
    refine ⟨_, gq5, ?_⟩
    show gz gPP gGG gcn _ _ 49 [some (.ref m), some (.int (zi p0)), some (.int (zi z3)), none, none, none, none, none] [.int (zi zq5)] hq5 _
    have sq5 := gSs.tr hS xq5 (by decide)
    have s6 := (xq5.2.2.2.2.2 m 5 (by rw [tm]; decide)).trans ep0
    have s7 := (xq5.2.2.2.2.2 m 6 (by rw [tm]; decide)).trans een
    have s8 := (xq5.2.2.2.2.2 m 3 (by rw [tm]; decide)).trans esz
    have s9 := (xq5.2.2.2.2.2 m 4 (by rw [tm]; decide)).trans ec1
    refine gy_ifF rfl (by decide) (by decide) (by omega) (by first | (simp [zc]; done) | (simp only [zc]; omega)) ?_
    exact gz_end (I := .return_) (len := 1) rfl (Or.inl rfl) ⟨sq5, fq5_0, p0, rfl, efq5_0, (by omega), (by omega), s6, (by omega), (by omega), (by omega)⟩
  · refine gy_icF rfl (by decide) (by decide) (by omega) (by omega) hc4 ?_
    refine gz_s 2 (pc' := 24) (L' := [some (.ref m), some (.int (zi p0)), some (.int (zi z3)), none, none, none, none, none]) (S' := [.int (zi 16), .int (zi z3), .ref m]) rfl ?_
    refine gy_div rfl (by decide) (by omega) (by omega) ?_
    refine gz_s 1 (pc' := 26) (L' := [some (.ref m), some (.int (zi p0)), some (.int (zi z3)), none, none, none, none, none]) (S' := [.int (zi 2), .int (zi (z3 / 16)), .ref m]) rfl ?_
    by_cases hc10 : (2 : Int) ≤ z3 / 16
    · refine gy_icT (pc' := 44) rfl (by decide) (by decide) (by omega) (by omega) hc10 ?_
      refine gz_s 2 (pc' := 46) (L' := [some (.ref m), some (.int (zi p0)), some (.int (zi z3)), none, none, none, none, none]) (S' := [.int (zi p0), .int (zi 0), .ref m]) rfl ?_
      refine gz_call rfl (by decide) rfl (by decide) (by decide) (gcal_of rfl rfl rfl (Nat.le_of_ble_eq_true rfl) (gJ.recv (G := gGG) hS.1 tm rfl rfl)) (mm_must _ hS.1 m tm 0 (by omega) p0 (by omega) f0 ef0 (by omega)) (fun q11 _ wq11 => ?_)
      obtain ⟨pq11, oq11, hq11⟩ := q11
      obtain ⟨xq11, zq11, fq11_0, gq11, aq11, bq11, efq11_0, afq11_0, bfq11_0, uq11_0, uq11_1⟩ := wq11
      refine ⟨_, gq11, ?_⟩
      show gz gPP gGG gcn _ _ 49 [some (.ref m), some (.int (zi p0)), some (.int (zi z3)), none, none, none, none, none] [.int (zi zq11)] hq11 _
      have sq11 := gSs.tr hS xq11 (by decide)
      have s12 := (xq11.2.2.2.2.2 m 5 (by rw [tm]; decide)).trans ep0
      have s13 := (xq11.2.2.2.2.2 m 6 (by rw [tm]; decide)).trans een
      have s14 := (xq11.2.2.2.2.2 m 3 (by rw [tm]; decide)).trans esz
      have s15 := (xq11.2.2.2.2.2 m 4 (by rw [tm]; decide)).trans ec1
      refine gy_ifF rfl (by decide) (by decide) (by omega) (by first | (simp [zc]; done) | (simp only [zc]; omega)) ?_
      exact gz_end (I := .return_) (len := 1) rfl (Or.inl rfl) ⟨sq11, fq11_0, p0, rfl, efq11_0, (by omega), (by omega), s12, (by omega), (by omega), (by omega)⟩
    · refine gy_icF rfl (by decide) (by decide) (by omega) (by omega) hc10 ?_
      refine gy_s 4 (pc' := 34) (L' := [some (.ref m), some (.int (zi p0)), some (.int (zi z3)), none, none, none, none, none]) (S' := [.ref m, .int ((zi p0) + (zi 16)), .ref m]) (L2 := [some (.ref m), some (.int (zi p0)), some (.int (zi z3)), none, none, none, none, none]) (S2 := [.ref m, .int (zi (p0 + 16)), .ref m]) rfl (by simp only [zi_add, zi_sub, zi_mul, zi_neg, zi_and1, zi_and7, zi_and15, zi_and31, zi_and255]) (by simp only [zi_add, zi_sub, zi_mul, zi_neg, zi_and1, zi_and7, zi_and15, zi_and31, zi_and255]) ?_
      refine gs_gtk rfl (by decide) rfl hS.1 tm rfl rfl een ?_
      by_cases hc16 : (en : Int) ≤ p0 + 16
      · refine gy_icT (pc' := 44) rfl (by decide) (by decide) (by omega) (by omega) hc16 ?_
        refine gz_s 2 (pc' := 46) (L' := [some (.ref m), some (.int (zi p0)), some (.int (zi z3)), none, none, none, none, none]) (S' := [.int (zi p0), .int (zi 0), .ref m]) rfl ?_
        refine gz_call rfl (by decide) rfl (by decide) (by decide) (gcal_of rfl rfl rfl (Nat.le_of_ble_eq_true rfl) (gJ.recv (G := gGG) hS.1 tm rfl rfl)) (mm_must _ hS.1 m tm 0 (by omega) p0 (by omega) f0 ef0 (by omega)) (fun q17 _ wq17 => ?_)
        obtain ⟨pq17, oq17, hq17⟩ := q17
        obtain ⟨xq17, zq17, fq17_0, gq17, aq17, bq17, efq17_0, afq17_0, bfq17_0, uq17_0, uq17_1⟩ := wq17
        refine ⟨_, gq17, ?_⟩
        show gz gPP gGG gcn _ _ 49 [some (.ref m), some (.int (zi p0)), some (.int (zi z3)), none, none, none, none, none] [.int (zi zq17)] hq17 _
        have sq17 := gSs.tr hS xq17 (by decide)
        have s18 := (xq17.2.2.2.2.2 m 5 (by rw [tm]; decide)).trans ep0
        have s19 := (xq17.2.2.2.2.2 m 6 (by rw [tm]; decide)).trans een
        have s20 := (xq17.2.2.2.2.2 m 3 (by rw [tm]; decide)).trans esz
        have s21 := (xq17.2.2.2.2.2 m 4 (by rw [tm]; decide)).trans ec1
        refine gy_ifF rfl (by decide) (by decide) (by omega) (by first | (simp [zc]; done) | (simp only [zc]; omega)) ?_
        exact gz_end (I := .return_) (len := 1) rfl (Or.inl rfl) ⟨sq17, fq17_0, p0, rfl, efq17_0, (by omega), (by omega), s18, (by omega), (by omega), (by omega)⟩
      · refine gy_icF rfl (by decide) (by decide) (by omega) (by omega) hc16 ?_
        refine gz_s 3 (pc' := 46) (L' := [some (.ref m), some (.int (zi p0)), some (.int (zi z3)), none, none, none, none, none]) (S' := [.int (zi p0), .int (zi 1), .ref m]) rfl ?_
        refine gz_call rfl (by decide) rfl (by decide) (by decide) (gcal_of rfl rfl rfl (Nat.le_of_ble_eq_true rfl) (gJ.recv (G := gGG) hS.1 tm rfl rfl)) (mm_must _ hS.1 m tm 1 (by omega) p0 (by omega) f0 ef0 (by omega)) (fun q22 _ wq22 => ?_)
        obtain ⟨pq22, oq22, hq22⟩ := q22
        obtain ⟨xq22, zq22, fq22_0, gq22, aq22, bq22, efq22_0, afq22_0, bfq22_0, uq22_0, uq22_1⟩ := wq22
        refine ⟨_, gq22, ?_⟩
        show gz gPP gGG gcn _ _ 49 [some (.ref m), some (.int (zi p0)), some (.int (zi z3)), none, none, none, none, none] [.int (zi zq22)] hq22 _
        have sq22 := gSs.tr hS xq22 (by decide)
        have s23 := (xq22.2.2.2.2.2 m 5 (by rw [tm]; decide)).trans ep0
        have s24 := (xq22.2.2.2.2.2 m 6 (by rw [tm]; decide)).trans een
        have s25 := (xq22.2.2.2.2.2 m 3 (by rw [tm]; decide)).trans esz
        have s26 := (xq22.2.2.2.2.2 m 4 (by rw [tm]; decide)).trans ec1
        refine gy_ifT (pc' := 53) rfl (by decide) (by decide) (by omega) (by first | (simp [zc]; done) | (simp only [zc]; omega)) ?_
        obtain ⟨c27, ec27, tc27⟩ := gJ.ref (k := 66) (G := gGG) sq22.1 tm rfl rfl rfl
        refine gz_s 6 (pc' := 61) (L' := [some (.ref m), some (.int (zi p0)), some (.int (zi z3)), some (.int (zi 0)), some (.long (zl 0)), none, some (.int (zi 1)), none]) (S' := []) rfl ?_
        have lp28 : ∀ (fu : Nat) (h29 : gH) (n : Int) (us : Int) (bt : Int), (18 - bt).toNat < fu → gSs rT 1027 ty [1005, 1007, 4999, 5999, 6999, 7999, 35999] h h29 → (0 ≤ n ∧ n ≤ 4080) → ((-9223372036854775808) ≤ us ∧ us ≤ 9223372036854775807) → (1 ≤ bt ∧ bt ≤ 17) → (n = gS h29 c27 bt) → (n ≤ 255 * (bt - 1)) → h29.2.2.2.2 m 5 = .int (zi p0) → h29.2.2.2.2 m 6 = .int (zi en) → h29.2.2.2.2 m 3 = .int (zi sz) → h29.2.2.2.2 m 4 = .ref c1 → h29.2.2.2.2 m 7 = .int (zi fq22_0) → h29.2.2.2.2 m 66 = .ref c27 → gz gPP gGG gcn (d + 1) gt140 61 [some (.ref m), some (.int (zi p0)), some (.int (zi z3)), some (.int (zi n)), some (.long (zl us)), none, some (.int (zi bt)), none] [] h29 (fun q _ => gSs rT 1027 ty [1005, 1007, 4999, 5999, 6999, 7999, 35999] h q.2.2 ∧ ∃ f1 p1 : Int, gfin gt140 q.1 q.2.1 = some none ∧ q.2.2.2.2.2.2 m 7 = .int (zi f1) ∧ (-1) ≤ f1 ∧ f1 ≤ 4000 ∧ q.2.2.2.2.2.2 m 5 = .int (zi p1) ∧ 0 ≤ p1 ∧ p1 ≤ 4000 ∧ (f1 = -1 → (p0 + 17 ≤ p1 ∧ p1 ≤ en))) := by
          intro fu
          induction fu with
          | zero => intro h29 n us bt hm; exact absurd hm (Nat.not_lt_zero _)
          | succ fu ihlp28 =>
            intro h29 n us bt lp28m sh29 lp28f0 lp28f1 lp28f2 lp28f3 lp28f4 lp28k0 lp28k1 lp28k2 lp28k3 lp28k4 lp28k5
            refine gz_s 2 (pc' := 65) (L' := [some (.ref m), some (.int (zi p0)), some (.int (zi z3)), some (.int (zi n)), some (.long (zl us)), none, some (.int (zi bt)), none]) (S' := [.int (zi 16), .int (zi bt)]) rfl ?_
            by_cases hc30 : (16 : Int) < bt
            · refine gy_icT (pc' := 119) rfl (by decide) (by decide) (by omega) (by omega) hc30 ?_
              have h17 : gS h29 c27 bt = gsm h29 c27 16 := by rw [(by omega : bt = 17)]; rfl
              have hcn : gCn ty 35 c27 n h29 := ⟨tc27, fun _ => rfl, by omega⟩
              refine gz_s 2 (pc' := 122) (L' := [some (.ref m), some (.int (zi p0)), some (.int (zi z3)), some (.int (zi n)), some (.long (zl us)), none, some (.int (zi bt)), none]) (S' := [.long (zl us), .ref m]) rfl ?_
              refine gz_1 rfl (by decide) rfl rfl (pc' := 125) (S' := [.long (zl 65536), .long (zl us), .ref m]) (h' := h29) rfl ?_
              refine gy_lcmp rfl (by decide) (by omega) (by omega) (fun z31 az31 bz31 cz31 => ?_)
              by_cases hc32 : (0 : Int) < z31
              · refine gy_ifT (pc' := 153) rfl (by decide) (by decide) (by omega) hc32 ?_
                refine gz_s 2 (pc' := 155) (L' := [some (.ref m), some (.int (zi p0)), some (.int (zi z3)), some (.int (zi n)), some (.long (zl us)), none, some (.int (zi bt)), none]) (S' := [.int (zi p0), .int (zi 0), .ref m]) rfl ?_
                refine gz_call rfl (by decide) rfl (by decide) (by decide) (gcal_of rfl rfl rfl (Nat.le_of_ble_eq_true rfl) (gJ.recv (G := gGG) sh29.1 tm rfl rfl)) (mm_must _ sh29.1 m tm 0 (by omega) p0 (by omega) fq22_0 lp28k4 (by omega)) (fun q33 _ wq33 => ?_)
                obtain ⟨pq33, oq33, hq33⟩ := q33
                obtain ⟨xq33, zq33, fq33_0, gq33, aq33, bq33, efq33_0, afq33_0, bfq33_0, uq33_0, uq33_1⟩ := wq33
                refine ⟨_, gq33, ?_⟩
                show gz gPP gGG gcn _ _ 158 [some (.ref m), some (.int (zi p0)), some (.int (zi z3)), some (.int (zi n)), some (.long (zl us)), none, some (.int (zi bt)), none] [.int (zi zq33)] hq33 _
                have sq33 := gSs.tr sh29 xq33 (by decide)
                have s34 := (xq33.2.2.2.2.2 m 5 (by rw [tm]; decide)).trans lp28k0
                have s35 := (xq33.2.2.2.2.2 m 6 (by rw [tm]; decide)).trans lp28k1
                have s36 := (xq33.2.2.2.2.2 m 3 (by rw [tm]; decide)).trans lp28k2
                have s37 := (xq33.2.2.2.2.2 m 4 (by rw [tm]; decide)).trans lp28k3
                have s38 := (xq33.2.2.2.2.2 m 66 (by rw [tm]; decide)).trans lp28k5
                have pr39 := gCn.fr xq33.2 (by decide) hcn
                refine gy_ifF rfl (by decide) (by decide) (by omega) (by first | (simp [zc]; done) | (simp only [zc]; omega)) ?_
                exact gz_end (I := .return_) (len := 1) rfl (Or.inl rfl) ⟨sq33, fq33_0, p0, rfl, efq33_0, (by omega), (by omega), s34, (by omega), (by omega), (by omega)⟩
              · refine gy_ifF rfl (by decide) (by decide) (by omega) hc32 ?_
                refine gy_s 6 (pc' := 136) (L' := [some (.ref m), some (.int (zi p0)), some (.int (zi z3)), some (.int (zi n)), some (.long (zl us)), none, some (.int (zi bt)), none]) (S' := [.ref m, .int (((zi p0) + (zi 16)) + (zi n)), .ref m]) (L2 := [some (.ref m), some (.int (zi p0)), some (.int (zi z3)), some (.int (zi n)), some (.long (zl us)), none, some (.int (zi bt)), none]) (S2 := [.ref m, .int (zi ((p0 + 16) + n)), .ref m]) rfl (by simp only [zi_add, zi_sub, zi_mul, zi_neg, zi_and1, zi_and7, zi_and15, zi_and31, zi_and255, zl_add, zl_sub, zl_mul, zl_neg]) (by simp only [zi_add, zi_sub, zi_mul, zi_neg, zi_and1, zi_and7, zi_and15, zi_and31, zi_and255, zl_add, zl_sub, zl_mul, zl_neg]) ?_
                refine gs_gtk rfl (by decide) rfl sh29.1 tm rfl rfl lp28k1 ?_
                by_cases hc40 : (en : Int) ≤ (p0 + 16) + n
                · refine gy_icT (pc' := 153) rfl (by decide) (by decide) (by omega) (by omega) hc40 ?_
                  refine gz_s 2 (pc' := 155) (L' := [some (.ref m), some (.int (zi p0)), some (.int (zi z3)), some (.int (zi n)), some (.long (zl us)), none, some (.int (zi bt)), none]) (S' := [.int (zi p0), .int (zi 0), .ref m]) rfl ?_
                  refine gz_call rfl (by decide) rfl (by decide) (by decide) (gcal_of rfl rfl rfl (Nat.le_of_ble_eq_true rfl) (gJ.recv (G := gGG) sh29.1 tm rfl rfl)) (mm_must _ sh29.1 m tm 0 (by omega) p0 (by omega) fq22_0 lp28k4 (by omega)) (fun q41 _ wq41 => ?_)
                  obtain ⟨pq41, oq41, hq41⟩ := q41
                  obtain ⟨xq41, zq41, fq41_0, gq41, aq41, bq41, efq41_0, afq41_0, bfq41_0, uq41_0, uq41_1⟩ := wq41
                  refine ⟨_, gq41, ?_⟩
                  show gz gPP gGG gcn _ _ 158 [some (.ref m), some (.int (zi p0)), some (.int (zi z3)), some (.int (zi n)), some (.long (zl us)), none, some (.int (zi bt)), none] [.int (zi zq41)] hq41 _
                  have sq41 := gSs.tr sh29 xq41 (by decide)
                  have s42 := (xq41.2.2.2.2.2 m 5 (by rw [tm]; decide)).trans lp28k0
                  have s43 := (xq41.2.2.2.2.2 m 6 (by rw [tm]; decide)).trans lp28k1
                  have s44 := (xq41.2.2.2.2.2 m 3 (by rw [tm]; decide)).trans lp28k2
                  have s45 := (xq41.2.2.2.2.2 m 4 (by rw [tm]; decide)).trans lp28k3
                  have s46 := (xq41.2.2.2.2.2 m 66 (by rw [tm]; decide)).trans lp28k5
                  have pr47 := gCn.fr xq41.2 (by decide) hcn
                  refine gy_ifF rfl (by decide) (by decide) (by omega) (by first | (simp [zc]; done) | (simp only [zc]; omega)) ?_
                  exact gz_end (I := .return_) (len := 1) rfl (Or.inl rfl) ⟨sq41, fq41_0, p0, rfl, efq41_0, (by omega), (by omega), s42, (by omega), (by omega), (by omega)⟩
                · refine gy_icF rfl (by decide) (by decide) (by omega) (by omega) hc40 ?_
                  refine gz_s 2 (pc' := 146) (L' := [some (.ref m), some (.int (zi p0)), some (.int (zi z3)), some (.int (zi n)), some (.long (zl us)), none, some (.int (zi bt)), none]) (S' := [.int (zi 256), .int (zi n), .ref m]) rfl ?_
                  by_cases hc48 : (256 : Int) < n
                  · refine gy_icT (pc' := 153) rfl (by decide) (by decide) (by omega) (by omega) hc48 ?_
                    refine gz_s 2 (pc' := 155) (L' := [some (.ref m), some (.int (zi p0)), some (.int (zi z3)), some (.int (zi n)), some (.long (zl us)), none, some (.int (zi bt)), none]) (S' := [.int (zi p0), .int (zi 0), .ref m]) rfl ?_
                    refine gz_call rfl (by decide) rfl (by decide) (by decide) (gcal_of rfl rfl rfl (Nat.le_of_ble_eq_true rfl) (gJ.recv (G := gGG) sh29.1 tm rfl rfl)) (mm_must _ sh29.1 m tm 0 (by omega) p0 (by omega) fq22_0 lp28k4 (by omega)) (fun q49 _ wq49 => ?_)
                    obtain ⟨pq49, oq49, hq49⟩ := q49
                    obtain ⟨xq49, zq49, fq49_0, gq49, aq49, bq49, efq49_0, afq49_0, bfq49_0, uq49_0, uq49_1⟩ := wq49
                    refine ⟨_, gq49, ?_⟩
                    show gz gPP gGG gcn _ _ 158 [some (.ref m), some (.int (zi p0)), some (.int (zi z3)), some (.int (zi n)), some (.long (zl us)), none, some (.int (zi bt)), none] [.int (zi zq49)] hq49 _
                    have sq49 := gSs.tr sh29 xq49 (by decide)
                    have s50 := (xq49.2.2.2.2.2 m 5 (by rw [tm]; decide)).trans lp28k0
                    have s51 := (xq49.2.2.2.2.2 m 6 (by rw [tm]; decide)).trans lp28k1
                    have s52 := (xq49.2.2.2.2.2 m 3 (by rw [tm]; decide)).trans lp28k2
                    have s53 := (xq49.2.2.2.2.2 m 4 (by rw [tm]; decide)).trans lp28k3
                    have s54 := (xq49.2.2.2.2.2 m 66 (by rw [tm]; decide)).trans lp28k5
                    have pr55 := gCn.fr xq49.2 (by decide) hcn
                    refine gy_ifF rfl (by decide) (by decide) (by omega) (by first | (simp [zc]; done) | (simp only [zc]; omega)) ?_
                    exact gz_end (I := .return_) (len := 1) rfl (Or.inl rfl) ⟨sq49, fq49_0, p0, rfl, efq49_0, (by omega), (by omega), s50, (by omega), (by omega), (by omega)⟩
                  · refine gy_icF rfl (by decide) (by decide) (by omega) (by omega) hc48 ?_
                    refine gz_s 3 (pc' := 155) (L' := [some (.ref m), some (.int (zi p0)), some (.int (zi z3)), some (.int (zi n)), some (.long (zl us)), none, some (.int (zi bt)), none]) (S' := [.int (zi p0), .int (zi 1), .ref m]) rfl ?_
                    refine gz_call rfl (by decide) rfl (by decide) (by decide) (gcal_of rfl rfl rfl (Nat.le_of_ble_eq_true rfl) (gJ.recv (G := gGG) sh29.1 tm rfl rfl)) (mm_must _ sh29.1 m tm 1 (by omega) p0 (by omega) fq22_0 lp28k4 (by omega)) (fun q56 _ wq56 => ?_)
                    obtain ⟨pq56, oq56, hq56⟩ := q56
                    obtain ⟨xq56, zq56, fq56_0, gq56, aq56, bq56, efq56_0, afq56_0, bfq56_0, uq56_0, uq56_1⟩ := wq56
                    refine ⟨_, gq56, ?_⟩
                    show gz gPP gGG gcn _ _ 158 [some (.ref m), some (.int (zi p0)), some (.int (zi z3)), some (.int (zi n)), some (.long (zl us)), none, some (.int (zi bt)), none] [.int (zi zq56)] hq56 _
                    have sq56 := gSs.tr sh29 xq56 (by decide)
                    have s57 := (xq56.2.2.2.2.2 m 5 (by rw [tm]; decide)).trans lp28k0
                    have s58 := (xq56.2.2.2.2.2 m 6 (by rw [tm]; decide)).trans lp28k1
                    have s59 := (xq56.2.2.2.2.2 m 3 (by rw [tm]; decide)).trans lp28k2
                    have s60 := (xq56.2.2.2.2.2 m 4 (by rw [tm]; decide)).trans lp28k3
                    have s61 := (xq56.2.2.2.2.2 m 66 (by rw [tm]; decide)).trans lp28k5
                    have pr62 := gCn.fr xq56.2 (by decide) hcn
                    refine gy_ifT (pc' := 162) rfl (by decide) (by decide) (by omega) (by first | (simp [zc]; done) | (simp only [zc]; omega)) ?_
                    refine gz_s 3 (pc' := 166) (L' := [some (.ref m), some (.int (zi p0)), some (.int (zi z3)), some (.int (zi n)), some (.long (zl us)), none, some (.int (zi bt)), none]) (S' := [.int (zi 16), .int (zi z3), .int (zi 4)]) rfl ?_
                    refine gy_div rfl (by decide) (by omega) (by omega) ?_
                    refine gy_s 3 (pc' := 171) (L' := [some (.ref m), some (.int (zi p0)), some (.int (zi z3)), some (.int (zi n)), some (.long (zl us)), none, some (.int (zi bt)), none]) (S' := [.int (zi 16), .int (zi z3), .int ((zi 4) * (zi (z3 / 16)))]) (L2 := [some (.ref m), some (.int (zi p0)), some (.int (zi z3)), some (.int (zi n)), some (.long (zl us)), none, some (.int (zi bt)), none]) (S2 := [.int (zi 16), .int (zi z3), .int (zi (4 * (z3 / 16)))]) rfl (by simp only [zi_add, zi_sub, zi_mul, zi_neg, zi_and1, zi_and7, zi_and15, zi_and31, zi_and255, zl_add, zl_sub, zl_mul, zl_neg]) (by simp only [zi_add, zi_sub, zi_mul, zi_neg, zi_and1, zi_and7, zi_and15, zi_and31, zi_and255, zl_add, zl_sub, zl_mul, zl_neg]) ?_
                    refine gy_rem rfl (by decide) (by omega) (by omega) ?_
                    refine gy_s 5 (pc' := 179) (L' := [some (.ref m), some (.int (zi p0)), some (.int (zi z3)), some (.int (zi n)), some (.long (zl us)), none, some (.int ((zi (4 * (z3 / 16))) + (zi (z3 % 16)))), none]) (S' := [.ref m, .int ((zi (4 * (z3 / 16))) + (zi (z3 % 16))), .ref m]) (L2 := [some (.ref m), some (.int (zi p0)), some (.int (zi z3)), some (.int (zi n)), some (.long (zl us)), none, some (.int (zi ((4 * (z3 / 16)) + (z3 % 16)))), none]) (S2 := [.ref m, .int (zi ((4 * (z3 / 16)) + (z3 % 16))), .ref m]) rfl (by simp only [zi_add, zi_sub, zi_mul, zi_neg, zi_and1, zi_and7, zi_and15, zi_and31, zi_and255, zl_add, zl_sub, zl_mul, zl_neg]) (by simp only [zi_add, zi_sub, zi_mul, zi_neg, zi_and1, zi_and7, zi_and15, zi_and31, zi_and255, zl_add, zl_sub, zl_mul, zl_neg]) ?_
                    refine gs_gtk rfl (by decide) rfl sq56.1 tm rfl rfl s61 ?_
                    refine gz_call rfl (by decide) rfl (by decide) (by decide) (gcal_of rfl rfl rfl (Nat.le_of_ble_eq_true rfl) (gJ.recv (G := gGG) sq56.1 tm rfl rfl)) (mm_setCodes _ sq56.1 m tm ((4 * (z3 / 16)) + (z3 % 16)) (by omega) c27 tc27 n (by omega) pr62) (fun q63 _ wq63 => ?_)
                    obtain ⟨pq63, oq63, hq63⟩ := q63
                    obtain ⟨xq63, gq63⟩ := wq63
                    refine ⟨_, gq63, ?_⟩
                    show gz gPP gGG gcn _ _ 185 [some (.ref m), some (.int (zi p0)), some (.int (zi z3)), some (.int (zi n)), some (.long (zl us)), none, some (.int (zi ((4 * (z3 / 16)) + (z3 % 16)))), none] [] hq63 _
                    have sq63 := gSs.tr sq56 xq63 (by decide)
                    have s64 := (xq63.2.2.2.2.2 m 5 (by rw [tm]; decide)).trans s57
                    have s65 := (xq63.2.2.2.2.2 m 6 (by rw [tm]; decide)).trans s58
                    have s66 := (xq63.2.2.2.2.2 m 3 (by rw [tm]; decide)).trans s59
                    have s67 := (xq63.2.2.2.2.2 m 4 (by rw [tm]; decide)).trans s60
                    have s68 := (xq63.2.2.2.2.2 m 66 (by rw [tm]; decide)).trans s61
                    have s69 := (xq63.2.2.2.2.2 m 7 (by rw [tm]; decide)).trans efq56_0
                    have pr70 := gCn.fr xq63.2 (by decide) pr62
                    refine gz_s 2 (pc' := 188) (L' := [some (.ref m), some (.int (zi p0)), some (.int (zi z3)), some (.int (zi n)), some (.long (zl us)), none, some (.int (zi ((4 * (z3 / 16)) + (z3 % 16)))), some (.int (zi 0))]) (S' := []) rfl ?_
                    have lp71 : ∀ (fu : Nat) (h72 : gH) (k : Int), (257 - k).toNat < fu → gSs rT 1027 ty [1005, 1007, 4999, 5999, 6999, 7999, 35999] h h72 → (0 ≤ k ∧ k ≤ 256) → (k ≤ n) → h72.2.2.2.2 m 5 = .int (zi p0) → h72.2.2.2.2 m 6 = .int (zi en) → h72.2.2.2.2 m 3 = .int (zi sz) → h72.2.2.2.2 m 4 = .ref c1 → h72.2.2.2.2 m 66 = .ref c27 → h72.2.2.2.2 m 7 = .int (zi fq56_0) → gCn ty 35 c27 n h72 → gz gPP gGG gcn (d + 1) gt140 188 [some (.ref m), some (.int (zi p0)), some (.int (zi z3)), some (.int (zi n)), some (.long (zl us)), none, some (.int (zi ((4 * (z3 / 16)) + (z3 % 16)))), some (.int (zi k))] [] h72 (fun q _ => gSs rT 1027 ty [1005, 1007, 4999, 5999, 6999, 7999, 35999] h q.2.2 ∧ ∃ f1 p1 : Int, gfin gt140 q.1 q.2.1 = some none ∧ q.2.2.2.2.2.2 m 7 = .int (zi f1) ∧ (-1) ≤ f1 ∧ f1 ≤ 4000 ∧ q.2.2.2.2.2.2 m 5 = .int (zi p1) ∧ 0 ≤ p1 ∧ p1 ≤ 4000 ∧ (f1 = -1 → (p0 + 17 ≤ p1 ∧ p1 ≤ en))) := by
                      intro fu
                      induction fu with
                      | zero => intro h72 k hm; exact absurd hm (Nat.not_lt_zero _)
                      | succ fu ihlp71 =>
                        intro h72 k lp71m sh72 lp71f0 lp71f1 lp71k0 lp71k1 lp71k2 lp71k3 lp71k4 lp71k5 lp71k6
                        refine gz_s 2 (pc' := 191) (L' := [some (.ref m), some (.int (zi p0)), some (.int (zi z3)), some (.int (zi n)), some (.long (zl us)), none, some (.int (zi ((4 * (z3 / 16)) + (z3 % 16)))), some (.int (zi k))]) (S' := [.int (zi n), .int (zi k)]) rfl ?_
                        by_cases hc73 : (n : Int) ≤ k
                        · refine gy_icT (pc' := 226) rfl (by decide) (by decide) (by omega) (by omega) hc73 ?_
                          refine gy_s 6 (pc' := 233) (L' := [some (.ref m), some (.int (zi p0)), some (.int (zi z3)), some (.int (zi n)), some (.long (zl us)), none, some (.int (zi ((4 * (z3 / 16)) + (z3 % 16)))), some (.int (zi k))]) (S' := [.int (((zi p0) + (zi 17)) + (zi n)), .ref m]) (L2 := [some (.ref m), some (.int (zi p0)), some (.int (zi z3)), some (.int (zi n)), some (.long (zl us)), none, some (.int (zi ((4 * (z3 / 16)) + (z3 % 16)))), some (.int (zi k))]) (S2 := [.int (zi ((p0 + 17) + n)), .ref m]) rfl (by simp only [zi_add, zi_sub, zi_mul, zi_neg, zi_and1, zi_and7, zi_and15, zi_and31, zi_and255, zl_add, zl_sub, zl_mul, zl_neg]) (by simp only [zi_add, zi_sub, zi_mul, zi_neg, zi_and1, zi_and7, zi_and15, zi_and31, zi_and255, zl_add, zl_sub, zl_mul, zl_neg]) ?_
                          refine gs_put rfl (by decide) rfl sh72 tm rfl rfl rfl rfl (Or.inl rfl) (by decide) (by omega) (by omega) (fun h74 sh74 eh74 fh74 => ?_)
                          have pr75 := gCn.pt fh74 tm (by decide) lp71k6
                          have s76 := (fh74 m 6 (fun q => absurd q.2 (by decide))).trans lp71k1
                          have s77 := (fh74 m 3 (fun q => absurd q.2 (by decide))).trans lp71k2
                          have s78 := (fh74 m 4 (fun q => absurd q.2 (by decide))).trans lp71k3
                          have s79 := (fh74 m 66 (fun q => absurd q.2 (by decide))).trans lp71k4
                          have s80 := (fh74 m 7 (fun q => absurd q.2 (by decide))).trans lp71k5
                          exact gz_end (I := .return_) (len := 1) rfl (Or.inl rfl) ⟨sh74, fq56_0, (p0 + 17) + n, rfl, s80, (by omega), (by omega), eh74, (by omega), (by omega), (by omega)⟩
                        · refine gy_icF rfl (by decide) (by decide) (by omega) (by omega) hc73 ?_
                          refine gz_s 1 (pc' := 195) (L' := [some (.ref m), some (.int (zi p0)), some (.int (zi z3)), some (.int (zi n)), some (.long (zl us)), none, some (.int (zi ((4 * (z3 / 16)) + (z3 % 16)))), some (.int (zi k))]) (S' := [.ref m]) rfl ?_
                          refine gs_gtr rfl (by decide) rfl sh72.1 tm rfl rfl rfl (fun c81 ec81 tc81 => ?_)
                          refine gy_s 6 (pc' := 208) (L' := [some (.ref m), some (.int (zi p0)), some (.int (zi z3)), some (.int (zi n)), some (.long (zl us)), none, some (.int (zi ((4 * (z3 / 16)) + (z3 % 16)))), some (.int (zi k))]) (S' := [.ref m, .int (((zi 257) * (zi ((4 * (z3 / 16)) + (z3 % 16)))) + (zi k)), .ref c81]) (L2 := [some (.ref m), some (.int (zi p0)), some (.int (zi z3)), some (.int (zi n)), some (.long (zl us)), none, some (.int (zi ((4 * (z3 / 16)) + (z3 % 16)))), some (.int (zi k))]) (S2 := [.ref m, .int (zi ((257 * ((4 * (z3 / 16)) + (z3 % 16))) + k)), .ref c81]) rfl (by simp only [zi_add, zi_sub, zi_mul, zi_neg, zi_and1, zi_and7, zi_and15, zi_and31, zi_and255, zl_add, zl_sub, zl_mul, zl_neg]) (by simp only [zi_add, zi_sub, zi_mul, zi_neg, zi_and1, zi_and7, zi_and15, zi_and31, zi_and255, zl_add, zl_sub, zl_mul, zl_neg]) ?_
                          refine gs_gtk rfl (by decide) rfl sh72.1 tm rfl rfl lp71k3 ?_
                          refine gy_s 5 (pc' := 218) (L' := [some (.ref m), some (.int (zi p0)), some (.int (zi z3)), some (.int (zi n)), some (.long (zl us)), none, some (.int (zi ((4 * (z3 / 16)) + (z3 % 16)))), some (.int (zi k))]) (S' := [.int (((zi p0) + (zi 17)) + (zi k)), .ref c1, .int (zi ((257 * ((4 * (z3 / 16)) + (z3 % 16))) + k)), .ref c81]) (L2 := [some (.ref m), some (.int (zi p0)), some (.int (zi z3)), some (.int (zi n)), some (.long (zl us)), none, some (.int (zi ((4 * (z3 / 16)) + (z3 % 16)))), some (.int (zi k))]) (S2 := [.int (zi ((p0 + 17) + k)), .ref c1, .int (zi ((257 * ((4 * (z3 / 16)) + (z3 % 16))) + k)), .ref c81]) rfl (by simp only [zi_add, zi_sub, zi_mul, zi_neg, zi_and1, zi_and7, zi_and15, zi_and31, zi_and255, zl_add, zl_sub, zl_mul, zl_neg]) (by simp only [zi_add, zi_sub, zi_mul, zi_neg, zi_and1, zi_and7, zi_and15, zi_and31, zi_and255, zl_add, zl_sub, zl_mul, zl_neg]) ?_
                          have hl82 : 2000 ≤ h72.2.2.2.1 c1 ∧ h72.2.2.2.1 c1 ≤ 2000 := gJ.rowl (G := gGG) sh72.1 tc1 rfl
                          refine gs_ald rfl (by decide) sh72.1 tc1 rfl rfl rfl (by decide) (fun _ => rfl) (by omega) (by omega) (fun z83 ez83 az83 bz83 => ?_)
                          have hl84 : 2056 ≤ h72.2.2.2.1 c81 ∧ h72.2.2.2.1 c81 ≤ 2056 := gJ.rowl (G := gGG) sh72.1 tc81 rfl
                          refine gs_ast rfl (by decide) sh72 tc81 rfl rfl rfl (by decide) (fun _ => rfl) (by omega) (by omega) (fun _ => (by decide : (5999 : Nat) ∈ ([1005, 1007, 4999, 5999, 6999, 7999, 35999] : List Nat))) (by omega) (by omega) (fun h85 sh85 eh85 fh85 => ?_)
                          have pr86 := gCn.pt fh85 tc81 (by decide) lp71k6
                          have s87 := (fh85 m 5 (fun q => absurd (((tm).symm.trans (congrArg ty q.1)).trans tc81) (by decide))).trans lp71k0
                          have s88 := (fh85 m 6 (fun q => absurd (((tm).symm.trans (congrArg ty q.1)).trans tc81) (by decide))).trans lp71k1
                          have s89 := (fh85 m 3 (fun q => absurd (((tm).symm.trans (congrArg ty q.1)).trans tc81) (by decide))).trans lp71k2
                          have s90 := (fh85 m 4 (fun q => absurd (((tm).symm.trans (congrArg ty q.1)).trans tc81) (by decide))).trans lp71k3
                          have s91 := (fh85 m 66 (fun q => absurd (((tm).symm.trans (congrArg ty q.1)).trans tc81) (by decide))).trans lp71k4
                          have s92 := (fh85 m 7 (fun q => absurd (((tm).symm.trans (congrArg ty q.1)).trans tc81) (by decide))).trans lp71k5
                          have s93 := (fh85 m 10 (fun q => absurd (((tm).symm.trans (congrArg ty q.1)).trans tc81) (by decide))).trans ec81
                          have pr94 := gEl.set (i := (257 * ((4 * (z3 / 16)) + (z3 % 16))) + k) (z := z83) uq tc81 (by decide) eh85 (by omega) (by omega)
                          refine gy_s 2 (pc' := 188) (L' := [some (.ref m), some (.int (zi p0)), some (.int (zi z3)), some (.int (zi n)), some (.long (zl us)), none, some (.int (zi ((4 * (z3 / 16)) + (z3 % 16)))), some (.int ((zi k) + zi 1))]) (S' := []) (L2 := [some (.ref m), some (.int (zi p0)), some (.int (zi z3)), some (.int (zi n)), some (.long (zl us)), none, some (.int (zi ((4 * (z3 / 16)) + (z3 % 16)))), some (.int (zi (k + 1)))]) (S2 := []) rfl (by simp only [zi_add, zi_sub, zi_mul, zi_neg, zi_and1, zi_and7, zi_and15, zi_and31, zi_and255, zl_add, zl_sub, zl_mul, zl_neg]) (by simp only [zi_add, zi_sub, zi_mul, zi_neg, zi_and1, zi_and7, zi_and15, zi_and31, zi_and255, zl_add, zl_sub, zl_mul, zl_neg]) ?_
                          exact gz_wk (ihlp71 h85 (k + 1) (by omega) sh85 (by omega) (by omega) s87 s88 s89 s90 s91 s92 pr86) (gLw.s (gLw.s (gLw.s (gLw.s (gLw.s (gLw.n (gLw.s (gLw.s gLw.z))))))))
                    exact gz_wk (lp71 _ hq63 0 (Nat.lt_succ_self _) sq63 (by omega) (by omega) s64 s65 s66 s67 s68 s69 pr70) (gLw.s (gLw.s (gLw.s (gLw.s (gLw.s (gLw.n (gLw.s (gLw.s gLw.z))))))))
            · refine gy_icF rfl (by decide) (by decide) (by omega) (by omega) hc30 ?_
              refine gz_s 1 (pc' := 69) (L' := [some (.ref m), some (.int (zi p0)), some (.int (zi z3)), some (.int (zi n)), some (.long (zl us)), none, some (.int (zi bt)), none]) (S' := [.ref m]) rfl ?_
              refine gs_gtk rfl (by decide) rfl sh29.1 tm rfl rfl lp28k5 ?_
              refine gz_s 2 (pc' := 75) (L' := [some (.ref m), some (.int (zi p0)), some (.int (zi z3)), some (.int (zi n)), some (.long (zl us)), none, some (.int (zi bt)), none]) (S' := [.ref m, .int (zi bt), .ref c27]) rfl ?_
              refine gs_gtk rfl (by decide) rfl sh29.1 tm rfl rfl lp28k3 ?_
              refine gy_s 3 (pc' := 82) (L' := [some (.ref m), some (.int (zi p0)), some (.int (zi z3)), some (.int (zi n)), some (.long (zl us)), none, some (.int (zi bt)), none]) (S' := [.int ((zi p0) + (zi bt)), .ref c1, .int (zi bt), .ref c27]) (L2 := [some (.ref m), some (.int (zi p0)), some (.int (zi z3)), some (.int (zi n)), some (.long (zl us)), none, some (.int (zi bt)), none]) (S2 := [.int (zi (p0 + bt)), .ref c1, .int (zi bt), .ref c27]) rfl (by simp only [zi_add, zi_sub, zi_mul, zi_neg, zi_and1, zi_and7, zi_and15, zi_and31, zi_and255, zl_add, zl_sub, zl_mul, zl_neg]) (by simp only [zi_add, zi_sub, zi_mul, zi_neg, zi_and1, zi_and7, zi_and15, zi_and31, zi_and255, zl_add, zl_sub, zl_mul, zl_neg]) ?_
              have hl95 : 2000 ≤ h29.2.2.2.1 c1 ∧ h29.2.2.2.1 c1 ≤ 2000 := gJ.rowl (G := gGG) sh29.1 tc1 rfl
              refine gs_ald rfl (by decide) sh29.1 tc1 rfl rfl rfl (by decide) (fun _ => rfl) (by omega) (by omega) (fun z96 ez96 az96 bz96 => ?_)
              have hl97 : 17 ≤ h29.2.2.2.1 c27 ∧ h29.2.2.2.1 c27 ≤ 17 := gJ.rowl (G := gGG) sh29.1 tc27 rfl
              refine gs_ast rfl (by decide) sh29 tc27 rfl rfl rfl (by decide) (fun _ => rfl) (by omega) (by omega) (fun _ => (by decide : (35999 : Nat) ∈ ([1005, 1007, 4999, 5999, 6999, 7999, 35999] : List Nat))) (by omega) (by omega) (fun h98 sh98 eh98 fh98 => ?_)
              have s99 := (fh98 m 5 (fun q => absurd (((tm).symm.trans (congrArg ty q.1)).trans tc27) (by decide))).trans lp28k0
              have s100 := (fh98 m 6 (fun q => absurd (((tm).symm.trans (congrArg ty q.1)).trans tc27) (by decide))).trans lp28k1
              have s101 := (fh98 m 3 (fun q => absurd (((tm).symm.trans (congrArg ty q.1)).trans tc27) (by decide))).trans lp28k2
              have s102 := (fh98 m 4 (fun q => absurd (((tm).symm.trans (congrArg ty q.1)).trans tc27) (by decide))).trans lp28k3
              have s103 := (fh98 m 7 (fun q => absurd (((tm).symm.trans (congrArg ty q.1)).trans tc27) (by decide))).trans lp28k4
              have s104 := (fh98 m 66 (fun q => absurd (((tm).symm.trans (congrArg ty q.1)).trans tc27) (by decide))).trans lp28k5
              have pr105 := gEl.set (i := bt) (z := z96) uq tc27 (by decide) eh98 (by omega) (by omega)
              have gp := gS_put (c := c27) (k := bt) (z := z96) fh98 eh98 (by omega) (by omega)
              refine gz_s 2 (pc' := 86) (L' := [some (.ref m), some (.int (zi p0)), some (.int (zi z3)), some (.int (zi n)), some (.long (zl us)), none, some (.int (zi bt)), none]) (S' := [.ref m, .int (zi n)]) rfl ?_
              refine gs_gtk rfl (by decide) rfl sh98.1 tm rfl rfl s104 ?_
              refine gz_s 1 (pc' := 91) (L' := [some (.ref m), some (.int (zi p0)), some (.int (zi z3)), some (.int (zi n)), some (.long (zl us)), none, some (.int (zi bt)), none]) (S' := [.int (zi bt), .ref c27, .int (zi n)]) rfl ?_
              have hl106 : 17 ≤ h98.2.2.2.1 c27 ∧ h98.2.2.2.1 c27 ≤ 17 := gJ.rowl (G := gGG) sh98.1 tc27 rfl
              refine gs_alx rfl (by decide) sh98.1 tc27 rfl rfl rfl (by decide) (fun _ => rfl) (by omega) (by omega) (by decide) pr105 (fun ex107 ax107 bx107 => ?_)
              refine gy_s 4 (pc' := 97) (L' := [some (.ref m), some (.int (zi p0)), some (.int (zi z3)), some (.int ((zi n) + (zi z96))), some (.long (zl us)), none, some (.int (zi bt)), none]) (S' := [.ref m, .long (zl us)]) (L2 := [some (.ref m), some (.int (zi p0)), some (.int (zi z3)), some (.int (zi (n + z96))), some (.long (zl us)), none, some (.int (zi bt)), none]) (S2 := [.ref m, .long (zl us)]) rfl (by simp only [zi_add, zi_sub, zi_mul, zi_neg, zi_and1, zi_and7, zi_and15, zi_and31, zi_and255, zl_add, zl_sub, zl_mul, zl_neg]) (by simp only [zi_add, zi_sub, zi_mul, zi_neg, zi_and1, zi_and7, zi_and15, zi_and31, zi_and255, zl_add, zl_sub, zl_mul, zl_neg]) ?_
              refine gs_gtk rfl (by decide) rfl sh98.1 tm rfl rfl s104 ?_
              refine gz_s 1 (pc' := 102) (L' := [some (.ref m), some (.int (zi p0)), some (.int (zi z3)), some (.int (zi (n + z96))), some (.long (zl us)), none, some (.int (zi bt)), none]) (S' := [.int (zi bt), .ref c27, .long (zl us)]) rfl ?_
              have hl108 : 17 ≤ h98.2.2.2.1 c27 ∧ h98.2.2.2.1 c27 ≤ 17 := gJ.rowl (G := gGG) sh98.1 tc27 rfl
              refine gs_alx rfl (by decide) sh98.1 tc27 rfl rfl rfl (by decide) (fun _ => rfl) (by omega) (by omega) (by decide) pr105 (fun ex109 ax109 bx109 => ?_)
              refine gy_i2l rfl (by decide) (by omega) ?_
              refine gy_s 3 (pc' := 109) (L' := [some (.ref m), some (.int (zi p0)), some (.int (zi z3)), some (.int (zi (n + z96))), some (.long (zl us)), none, some (.int (zi bt)), none]) (S' := [.int ((zi 16) - (zi bt)), .long (zl z96), .long (zl us)]) (L2 := [some (.ref m), some (.int (zi p0)), some (.int (zi z3)), some (.int (zi (n + z96))), some (.long (zl us)), none, some (.int (zi bt)), none]) (S2 := [.int (zi (16 - bt)), .long (zl z96), .long (zl us)]) rfl (by simp only [zi_add, zi_sub, zi_mul, zi_neg, zi_and1, zi_and7, zi_and15, zi_and31, zi_and255, zl_add, zl_sub, zl_mul, zl_neg]) (by simp only [zi_add, zi_sub, zi_mul, zi_neg, zi_and1, zi_and7, zi_and15, zi_and31, zi_and255, zl_add, zl_sub, zl_mul, zl_neg]) ?_
              refine gy_liv rfl (by decide) rfl (fun _ _ => rfl) (fun z110 ez110 az110 bz110 => ?_)
              refine gy_s 1 (pc' := 111) (L' := [some (.ref m), some (.int (zi p0)), some (.int (zi z3)), some (.int (zi (n + z96))), some (.long (zl us)), none, some (.int (zi bt)), none]) (S' := [.long ((zl us) + (zl z110))]) (L2 := [some (.ref m), some (.int (zi p0)), some (.int (zi z3)), some (.int (zi (n + z96))), some (.long (zl us)), none, some (.int (zi bt)), none]) (S2 := [.long (zl (us + z110))]) rfl (by simp only [zi_add, zi_sub, zi_mul, zi_neg, zi_and1, zi_and7, zi_and15, zi_and31, zi_and255, zl_add, zl_sub, zl_mul, zl_neg]) (by simp only [zi_add, zi_sub, zi_mul, zi_neg, zi_and1, zi_and7, zi_and15, zi_and31, zi_and255, zl_add, zl_sub, zl_mul, zl_neg]) ?_
              refine gy_lany (fun z111 ez111 az111 bz111 => ?_)
              refine gy_s 3 (pc' := 61) (L' := [some (.ref m), some (.int (zi p0)), some (.int (zi z3)), some (.int (zi (n + z96))), some (.long (zl z111)), none, some (.int ((zi bt) + zi 1)), none]) (S' := []) (L2 := [some (.ref m), some (.int (zi p0)), some (.int (zi z3)), some (.int (zi (n + z96))), some (.long (zl z111)), none, some (.int (zi (bt + 1))), none]) (S2 := []) rfl (by simp only [zi_add, zi_sub, zi_mul, zi_neg, zi_and1, zi_and7, zi_and15, zi_and31, zi_and255, zl_add, zl_sub, zl_mul, zl_neg]) (by simp only [zi_add, zi_sub, zi_mul, zi_neg, zi_and1, zi_and7, zi_and15, zi_and31, zi_and255, zl_add, zl_sub, zl_mul, zl_neg]) ?_
              exact gz_wk (ihlp28 h98 (n + z96) z111 (bt + 1) (by omega) sh98 (by omega) (by omega) (by omega) (by omega) (by omega) s99 s100 s101 s102 s103 s104) (gLw.s (gLw.s (gLw.s (gLw.s (gLw.s (gLw.n (gLw.s (gLw.n gLw.z))))))))
        have ge1 : gS hq22 c27 1 = 0 := rfl
        exact gz_wk (lp28 _ hq22 0 0 1 (Nat.lt_succ_self _) sq22 (by omega) (by omega) (by omega) (by omega) (by omega) s23 s24 s25 s26 efq22_0 ec27) (gLw.s (gLw.s (gLw.s (gLw.s (gLw.s (gLw.n (gLw.s (gLw.n gLw.z))))))))
